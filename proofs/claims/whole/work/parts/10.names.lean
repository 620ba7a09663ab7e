-- ===== PART A: goes FIRST, ahead of the names: the tables' words, and 'selects' of the private methods out of them =====
/-- a private method of a class that the tables say can be made, by its rows of tables_1 -/
def lw_okq (q : MethodName × Nat) : Prop := (q.1.cls ≠ "java/lang/invoke/MethodHandle" ∧ q.1.cls ≠ "java/lang/invoke/VarHandle") ∧ Cond.instantiable q.1.cls q.2 ∈ tables_1 ∧ Cond.privateMethod q.1 ∈ tables_1 ∧ Cond.instanceMethod q.1 ∈ tables_1
theorem lw_p0 : lw_okq (⟨"PropertyTrie$Records", "keepWanted", "(I)I"⟩, 11) := ⟨⟨by decide +kernel, by decide +kernel⟩, List.mem_of_getElem? (i := 35) (by decide +kernel), List.mem_of_getElem? (i := 51) (by decide +kernel), List.mem_of_getElem? (i := 52) (by decide +kernel)⟩
theorem lw_p1 : lw_okq (⟨"java/lang/Throwable", "fillInStackTrace", "(I)Ljava/lang/Throwable;"⟩, 6) := ⟨⟨by decide +kernel, by decide +kernel⟩, List.mem_of_getElem? (i := 145) (by decide +kernel), List.mem_of_getElem? (i := 143) (by decide +kernel), List.mem_of_getElem? (i := 144) (by decide +kernel)⟩
theorem lw_p2 : lw_okq (⟨"PropertyTrie$Blocks", "find", "(I)V"⟩, 7) := ⟨⟨by decide +kernel, by decide +kernel⟩, List.mem_of_getElem? (i := 29) (by decide +kernel), List.mem_of_getElem? (i := 449) (by decide +kernel), List.mem_of_getElem? (i := 450) (by decide +kernel)⟩
theorem lw_p3 : lw_okq (⟨"PropertyTrie$Blocks", "splitBefore", "(I)V"⟩, 7) := ⟨⟨by decide +kernel, by decide +kernel⟩, List.mem_of_getElem? (i := 29) (by decide +kernel), List.mem_of_getElem? (i := 486) (by decide +kernel), List.mem_of_getElem? (i := 487) (by decide +kernel)⟩
theorem lw_p4 : lw_okq (⟨"PropertyTrie$Blocks", "split", "(I)V"⟩, 7) := ⟨⟨by decide +kernel, by decide +kernel⟩, List.mem_of_getElem? (i := 29) (by decide +kernel), List.mem_of_getElem? (i := 490) (by decide +kernel), List.mem_of_getElem? (i := 491) (by decide +kernel)⟩
theorem lw_p5 : lw_okq (⟨"PropertyTrie$Blocks", "replace", "(I)V"⟩, 7) := ⟨⟨by decide +kernel, by decide +kernel⟩, List.mem_of_getElem? (i := 29) (by decide +kernel), List.mem_of_getElem? (i := 495) (by decide +kernel), List.mem_of_getElem? (i := 496) (by decide +kernel)⟩
theorem lw_p6 : lw_okq (⟨"PropertyTrie$Records", "findWanted", "(I)I"⟩, 11) := ⟨⟨by decide +kernel, by decide +kernel⟩, List.mem_of_getElem? (i := 35) (by decide +kernel), List.mem_of_getElem? (i := 503) (by decide +kernel), List.mem_of_getElem? (i := 504) (by decide +kernel)⟩
theorem lw_p7 : lw_okq (⟨"PropertyTrie$Records", "isWanted", "(I)Z"⟩, 11) := ⟨⟨by decide +kernel, by decide +kernel⟩, List.mem_of_getElem? (i := 35) (by decide +kernel), List.mem_of_getElem? (i := 507) (by decide +kernel), List.mem_of_getElem? (i := 508) (by decide +kernel)⟩
theorem lw_p8 : lw_okq (⟨"PropertyTrie$Records", "drop", "(I)V"⟩, 11) := ⟨⟨by decide +kernel, by decide +kernel⟩, List.mem_of_getElem? (i := 35) (by decide +kernel), List.mem_of_getElem? (i := 515) (by decide +kernel), List.mem_of_getElem? (i := 516) (by decide +kernel)⟩
theorem lw_p9 : lw_okq (⟨"PropertyTrie$Blocks", "joinBelow", "(I)V"⟩, 7) := ⟨⟨by decide +kernel, by decide +kernel⟩, List.mem_of_getElem? (i := 29) (by decide +kernel), List.mem_of_getElem? (i := 520) (by decide +kernel), List.mem_of_getElem? (i := 521) (by decide +kernel)⟩
theorem lw_p10 : lw_okq (⟨"PropertyTrie$Blocks", "join", "(I)V"⟩, 7) := ⟨⟨by decide +kernel, by decide +kernel⟩, List.mem_of_getElem? (i := 29) (by decide +kernel), List.mem_of_getElem? (i := 524) (by decide +kernel), List.mem_of_getElem? (i := 525) (by decide +kernel)⟩
theorem lw_p11 : lw_okq (⟨"PropertyTrie$Blocks", "isAllAlike", "(I)Z"⟩, 7) := ⟨⟨by decide +kernel, by decide +kernel⟩, List.mem_of_getElem? (i := 29) (by decide +kernel), List.mem_of_getElem? (i := 528) (by decide +kernel), List.mem_of_getElem? (i := 529) (by decide +kernel)⟩
theorem lw_p12 : lw_okq (⟨"PropertyTrie", "valueAt", "(II)I"⟩, 1) := ⟨⟨by decide +kernel, by decide +kernel⟩, List.mem_of_getElem? (i := 21) (by decide +kernel), List.mem_of_getElem? (i := 547) (by decide +kernel), List.mem_of_getElem? (i := 548) (by decide +kernel)⟩
theorem lw_p13 : lw_okq (⟨"PropertyTrieModel", "out", "(I)Z"⟩, 4) := ⟨⟨by decide +kernel, by decide +kernel⟩, List.mem_of_getElem? (i := 580) (by decide +kernel), List.mem_of_getElem? (i := 612) (by decide +kernel), List.mem_of_getElem? (i := 613) (by decide +kernel)⟩
theorem lw_p14 : lw_okq (⟨"PropertyTrieModel", "fail", "(I)I"⟩, 4) := ⟨⟨by decide +kernel, by decide +kernel⟩, List.mem_of_getElem? (i := 580) (by decide +kernel), List.mem_of_getElem? (i := 617) (by decide +kernel), List.mem_of_getElem? (i := 618) (by decide +kernel)⟩
theorem lw_p15 : lw_okq (⟨"PropertyTrieModel", "cut", "(I)V"⟩, 4) := ⟨⟨by decide +kernel, by decide +kernel⟩, List.mem_of_getElem? (i := 580) (by decide +kernel), List.mem_of_getElem? (i := 621) (by decide +kernel), List.mem_of_getElem? (i := 622) (by decide +kernel)⟩
def lw_privs_1 : List (MethodName × Nat) := [(⟨"PropertyTrie$Records", "keepWanted", "(I)I"⟩, 11), (⟨"java/lang/Throwable", "fillInStackTrace", "(I)Ljava/lang/Throwable;"⟩, 6), (⟨"PropertyTrie$Blocks", "find", "(I)V"⟩, 7), (⟨"PropertyTrie$Blocks", "splitBefore", "(I)V"⟩, 7), (⟨"PropertyTrie$Blocks", "split", "(I)V"⟩, 7), (⟨"PropertyTrie$Blocks", "replace", "(I)V"⟩, 7), (⟨"PropertyTrie$Records", "findWanted", "(I)I"⟩, 11), (⟨"PropertyTrie$Records", "isWanted", "(I)Z"⟩, 11), (⟨"PropertyTrie$Records", "drop", "(I)V"⟩, 11), (⟨"PropertyTrie$Blocks", "joinBelow", "(I)V"⟩, 7), (⟨"PropertyTrie$Blocks", "join", "(I)V"⟩, 7), (⟨"PropertyTrie$Blocks", "isAllAlike", "(I)Z"⟩, 7), (⟨"PropertyTrie", "valueAt", "(II)I"⟩, 1), (⟨"PropertyTrieModel", "out", "(I)Z"⟩, 4), (⟨"PropertyTrieModel", "fail", "(I)I"⟩, 4), (⟨"PropertyTrieModel", "cut", "(I)V"⟩, 4)]
theorem lw_r1 : ∀ q ∈ lw_privs_1, lw_okq q := List.forall_mem_cons.mpr ⟨lw_p0, List.forall_mem_cons.mpr ⟨lw_p1, List.forall_mem_cons.mpr ⟨lw_p2, List.forall_mem_cons.mpr ⟨lw_p3, List.forall_mem_cons.mpr ⟨lw_p4, List.forall_mem_cons.mpr ⟨lw_p5, List.forall_mem_cons.mpr ⟨lw_p6, List.forall_mem_cons.mpr ⟨lw_p7, List.forall_mem_cons.mpr ⟨lw_p8, List.forall_mem_cons.mpr ⟨lw_p9, List.forall_mem_cons.mpr ⟨lw_p10, List.forall_mem_cons.mpr ⟨lw_p11, List.forall_mem_cons.mpr ⟨lw_p12, List.forall_mem_cons.mpr ⟨lw_p13, List.forall_mem_cons.mpr ⟨lw_p14, List.forall_mem_cons.mpr ⟨lw_p15, fun _ h => absurd h List.not_mem_nil⟩⟩⟩⟩⟩⟩⟩⟩⟩⟩⟩⟩⟩⟩⟩⟩
theorem lw_p16 : lw_okq (⟨"PropertyTrieModel", "at", "(I)I"⟩, 4) := ⟨⟨by decide +kernel, by decide +kernel⟩, List.mem_of_getElem? (i := 580) (by decide +kernel), List.mem_of_getElem? (i := 625) (by decide +kernel), List.mem_of_getElem? (i := 626) (by decide +kernel)⟩
def lw_privs_2 : List (MethodName × Nat) := [(⟨"PropertyTrieModel", "at", "(I)I"⟩, 4)]
theorem lw_r2 : ∀ q ∈ lw_privs_2, lw_okq q := List.forall_mem_cons.mpr ⟨lw_p16, fun _ h => absurd h List.not_mem_nil⟩
def lw_privs : List (MethodName × Nat) := lw_privs_1 ++ (lw_privs_2)
def lw_tbl : List Cond := k2_sels lw_privs ++ tables_1
theorem lw_privs_ok : ∀ q ∈ lw_privs, lw_okq q := by
  show ∀ q ∈ lw_privs_1 ++ (lw_privs_2), lw_okq q
  exact List.forall_mem_append.mpr ⟨lw_r1, lw_r2⟩
def R_Pt : String := "PropertyTrie"
def F_Pt : u_T := fun k => match k with
  | _ => ("PropertyTrie", "blocks", "LPropertyTrie$Blocks;", true)
def t_Pt : Nat → FieldType := fun k => match k with
  | _ => .object "PropertyTrie$Blocks"
abbrev w_Pt : List Cond := u_ws R_Pt F_Pt 1
theorem n_Pt : ∀ a, a < 1 → ∀ b, b < 1 → a ≠ b → (F_Pt a).2.1 ≠ (F_Pt b).2.1 := by decide +kernel
theorem t_Pt_ok : ∀ k, k < 1 → parseFieldDescriptor (F_Pt k).2.2.1 = some (t_Pt k) := by decide +kernel
def R_Mo : String := "PropertyTrieModel"
def F_Mo : u_T := fun k => match k with
  | 0 => ("PropertyTrieModel", "failed", "I", false)
  | 1 => ("PropertyTrieModel", "count", "I", false)
  | 2 => ("PropertyTrieModel", "starts", "[I", true)
  | _ => ("PropertyTrieModel", "fields", "[I", true)
def t_Mo : Nat → FieldType := fun k => match k with
  | 0 => .int
  | 1 => .int
  | 2 => .array .int
  | _ => .array .int
abbrev w_Mo : List Cond := u_ws R_Mo F_Mo 4
theorem n_Mo : ∀ a, a < 4 → ∀ b, b < 4 → a ≠ b → (F_Mo a).2.1 ≠ (F_Mo b).2.1 := by decide +kernel
theorem t_Mo_ok : ∀ k, k < 4 → parseFieldDescriptor (F_Mo k).2.2.1 = some (t_Mo k) := by decide +kernel
def R_Bl : String := "PropertyTrie$Blocks"
def F_Bl : u_T := fun k => match k with
  | 0 => ("PropertyTrie$Blocks", "records", "LPropertyTrie$Records;", true)
  | 1 => ("PropertyTrie$Blocks", "cells", "[I", true)
  | 2 => ("PropertyTrie$Blocks", "spareRows", "[I", true)
  | 3 => ("PropertyTrie$Blocks", "spares", "I", false)
  | 4 => ("PropertyTrie$Blocks", "found", "I", false)
  | 5 => ("PropertyTrie$Blocks", "foundFirst", "I", false)
  | _ => ("PropertyTrie$Blocks", "foundLast", "I", false)
def t_Bl : Nat → FieldType := fun k => match k with
  | 0 => .object "PropertyTrie$Records"
  | 1 => .array .int
  | 2 => .array .int
  | 3 => .int
  | 4 => .int
  | 5 => .int
  | _ => .int
abbrev w_Bl : List Cond := u_ws R_Bl F_Bl 7
theorem n_Bl : ∀ a, a < 7 → ∀ b, b < 7 → a ≠ b → (F_Bl a).2.1 ≠ (F_Bl b).2.1 := by decide +kernel
theorem t_Bl_ok : ∀ k, k < 7 → parseFieldDescriptor (F_Bl k).2.2.1 = some (t_Bl k) := by decide +kernel
def R_Rc : String := "PropertyTrie$Records"
def F_Rc : u_T := fun k => match k with
  | 0 => ("PropertyTrie$Records", "values", "[I", true)
  | 1 => ("PropertyTrie$Records", "holders", "[I", true)
  | 2 => ("PropertyTrie$Records", "spareRecords", "[I", true)
  | 3 => ("PropertyTrie$Records", "spares", "I", false)
  | 4 => ("PropertyTrie$Records", "heads", "[I", true)
  | 5 => ("PropertyTrie$Records", "behind", "[I", true)
  | 6 => ("PropertyTrie$Records", "field", "I", false)
  | 7 => ("PropertyTrie$Records", "v", "I", false)
  | 8 => ("PropertyTrie$Records", "kept", "I", false)
  | 9 => ("PropertyTrie$Records", "outcome", "[I", true)
  | _ => ("PropertyTrie$Records", "wanted", "[I", true)
def t_Rc : Nat → FieldType := fun k => match k with
  | 0 => .array .int
  | 1 => .array .int
  | 2 => .array .int
  | 3 => .int
  | 4 => .array .int
  | 5 => .array .int
  | 6 => .int
  | 7 => .int
  | 8 => .int
  | 9 => .array .int
  | _ => .array .int
abbrev w_Rc : List Cond := u_ws R_Rc F_Rc 11
theorem n_Rc : ∀ a, a < 11 → ∀ b, b < 11 → a ≠ b → (F_Rc a).2.1 ≠ (F_Rc b).2.1 := by decide +kernel
theorem t_Rc_ok : ∀ k, k < 11 → parseFieldDescriptor (F_Rc k).2.2.1 = some (t_Rc k) := by decide +kernel
def R_La : String := "PropertyTrieLaw"
def F_La : u_T := fun k => match k with
  | _ => ("", "", "", false)
def t_La : Nat → FieldType := fun k => match k with
  | _ => .int
abbrev w_La : List Cond := u_ws R_La F_La 0
theorem n_La : ∀ a, a < 0 → ∀ b, b < 0 → a ≠ b → (F_La a).2.1 ≠ (F_La b).2.1 := by decide +kernel
theorem t_La_ok : ∀ k, k < 0 → parseFieldDescriptor (F_La k).2.2.1 = some (t_La k) := by decide +kernel
def y_Pt_init : MethodName := ⟨"PropertyTrie", "<init>", "()V"⟩
abbrev b_Pt_init : ByteArray := prog_1_method_1_code
def y_Ob_init : MethodName := ⟨"java/lang/Object", "<init>", "()V"⟩
abbrev b_Ob_init : ByteArray := object_method_1_code
def y_Bl_init : MethodName := ⟨"PropertyTrie$Blocks", "<init>", "()V"⟩
abbrev b_Bl_init : ByteArray := prog_2_method_1_code
def y_Rc_init : MethodName := ⟨"PropertyTrie$Records", "<init>", "()V"⟩
abbrev b_Rc_init : ByteArray := prog_3_method_1_code
def y_Rc_empty : MethodName := ⟨"PropertyTrie$Records", "empty", "()V"⟩
abbrev b_Rc_empty : ByteArray := prog_3_method_2_code
def y_Ar_fill2 : MethodName := ⟨"java/util/Arrays", "fill", "([II)V"⟩
abbrev b_Ar_fill2 : ByteArray := prog_19_method_103_code
def y_Rc_chainOf : MethodName := ⟨"PropertyTrie$Records", "chainOf", "([II)I"⟩
abbrev b_Rc_chainOf : ByteArray := prog_3_method_12_code
def y_Rc_keepWanted : MethodName := ⟨"PropertyTrie$Records", "keepWanted", "(I)I"⟩
abbrev b_Rc_keepWanted : ByteArray := prog_3_method_10_code
def y_Sy_arraycopy : MethodName := ⟨"java/lang/System", "arraycopy", "(Ljava/lang/Object;ILjava/lang/Object;II)V"⟩
def y_Rc_hold : MethodName := ⟨"PropertyTrie$Records", "hold", "(II)V"⟩
abbrev b_Rc_hold : ByteArray := prog_3_method_4_code
def y_Bl_empty : MethodName := ⟨"PropertyTrie$Blocks", "empty", "()V"⟩
abbrev b_Bl_empty : ByteArray := prog_2_method_2_code
def y_Ar_fill4 : MethodName := ⟨"java/util/Arrays", "fill", "([IIII)V"⟩
abbrev b_Ar_fill4 : ByteArray := prog_19_method_104_code
def y_Ar_rangeCheck : MethodName := ⟨"java/util/Arrays", "rangeCheck", "(III)V"⟩
abbrev b_Ar_rangeCheck : ByteArray := prog_19_method_30_code
def y_Re_init : MethodName := ⟨"java/lang/RuntimeException", "<init>", "()V"⟩
def y_Re_init2 : MethodName := ⟨"java/lang/RuntimeException", "<init>", "(Ljava/lang/String;)V"⟩
abbrev b_Re_init2 : ByteArray := prog_12_method_2_code
def y_Ex_init : MethodName := ⟨"java/lang/Exception", "<init>", "()V"⟩
def y_Ex_init2 : MethodName := ⟨"java/lang/Exception", "<init>", "(Ljava/lang/String;)V"⟩
abbrev b_Ex_init2 : ByteArray := prog_8_method_2_code
def y_Th_init : MethodName := ⟨"java/lang/Throwable", "<init>", "()V"⟩
abbrev b_Th_init : ByteArray := prog_18_method_1_code
def y_Th_init2 : MethodName := ⟨"java/lang/Throwable", "<init>", "(Ljava/lang/String;)V"⟩
abbrev b_Th_init2 : ByteArray := prog_18_method_2_code
def y_Th_fillInStackTrace : MethodName := ⟨"java/lang/Throwable", "fillInStackTrace", "(I)Ljava/lang/Throwable;"⟩
def y_Th_fillInStackTrace2 : MethodName := ⟨"java/lang/Throwable", "fillInStackTrace", "()Ljava/lang/Throwable;"⟩
abbrev b_Th_fillInStackTrace2 : ByteArray := prog_18_method_18_code
def y_Sb_init : MethodName := ⟨"java/lang/StringBuilder", "<init>", "()V"⟩
abbrev b_Sb_init : ByteArray := prog_14_method_1_code
def y_As_init : MethodName := ⟨"java/lang/AbstractStringBuilder", "<init>", "(I)V"⟩
abbrev b_As_init : ByteArray := prog_6_method_2_code
def y_Su_newBytesFor : MethodName := ⟨"java/lang/StringUTF16", "newBytesFor", "(I)[B"⟩
abbrev b_Su_newBytesFor : ByteArray := prog_16_method_2_code
def y_Su_newBytesLength : MethodName := ⟨"java/lang/StringUTF16", "newBytesLength", "(I)I"⟩
abbrev b_Su_newBytesLength : ByteArray := prog_16_method_3_code
def y_Sb_append : MethodName := ⟨"java/lang/StringBuilder", "append", "(Ljava/lang/String;)Ljava/lang/StringBuilder;"⟩
abbrev b_Sb_append : ByteArray := prog_14_method_7_code
def y_As_append : MethodName := ⟨"java/lang/AbstractStringBuilder", "append", "(Ljava/lang/String;)Ljava/lang/AbstractStringBuilder;"⟩
abbrev b_As_append : ByteArray := prog_6_method_22_code
def y_As_appendNull : MethodName := ⟨"java/lang/AbstractStringBuilder", "appendNull", "()Ljava/lang/AbstractStringBuilder;"⟩
abbrev b_As_appendNull : ByteArray := prog_6_method_26_code
def y_As_ensureCapacityInternal : MethodName := ⟨"java/lang/AbstractStringBuilder", "ensureCapacityInternal", "(I)V"⟩
abbrev b_As_ensureCapacityInternal : ByteArray := prog_6_method_9_code
def y_As_newCapacity : MethodName := ⟨"java/lang/AbstractStringBuilder", "newCapacity", "(I)I"⟩
abbrev b_As_newCapacity : ByteArray := prog_6_method_10_code
def y_Au_newLength : MethodName := ⟨"jdk/internal/util/ArraysSupport", "newLength", "(III)I"⟩
abbrev b_Au_newLength : ByteArray := prog_20_method_27_code
def y_Mt_max : MethodName := ⟨"java/lang/Math", "max", "(II)I"⟩
abbrev b_Mt_max : ByteArray := prog_11_method_65_code
def y_Au_hugeLength : MethodName := ⟨"jdk/internal/util/ArraysSupport", "hugeLength", "(II)I"⟩
abbrev b_Au_hugeLength : ByteArray := prog_20_method_28_code
def y_Ar_copyOf : MethodName := ⟨"java/util/Arrays", "copyOf", "([BI)[B"⟩
abbrev b_Ar_copyOf : ByteArray := prog_19_method_121_code
def y_B_clone : MethodName := ⟨"[B", "clone", "()Ljava/lang/Object;"⟩
def y_Ob_clone : MethodName := ⟨"java/lang/Object", "clone", "()Ljava/lang/Object;"⟩
def y_Mt_min : MethodName := ⟨"java/lang/Math", "min", "(II)I"⟩
abbrev b_Mt_min : ByteArray := prog_11_method_69_code
def y_As_isLatin1 : MethodName := ⟨"java/lang/AbstractStringBuilder", "isLatin1", "()Z"⟩
abbrev b_As_isLatin1 : ByteArray := prog_6_method_68_code
def y_Su_putCharsAt : MethodName := ⟨"java/lang/StringUTF16", "putCharsAt", "([BICCCC)I"⟩
abbrev b_Su_putCharsAt : ByteArray := prog_16_method_81_code
def y_Su_checkBoundsBeginEnd : MethodName := ⟨"java/lang/StringUTF16", "checkBoundsBeginEnd", "(II[B)V"⟩
abbrev b_Su_checkBoundsBeginEnd : ByteArray := prog_16_method_93_code
def y_Su_length : MethodName := ⟨"java/lang/StringUTF16", "length", "([B)I"⟩
abbrev b_Su_length : ByteArray := prog_16_method_6_code
def y_St_checkBoundsBeginEnd : MethodName := ⟨"java/lang/String", "checkBoundsBeginEnd", "(III)V"⟩
abbrev b_St_checkBoundsBeginEnd : ByteArray := prog_13_method_158_code
def y_Pc_checkFromToIndex : MethodName := ⟨"jdk/internal/util/Preconditions", "checkFromToIndex", "(IIILjava/util/function/BiFunction;)I"⟩
abbrev b_Pc_checkFromToIndex : ByteArray := prog_21_method_12_code
def y_Su_putChar : MethodName := ⟨"java/lang/StringUTF16", "putChar", "([BII)V"⟩
abbrev b_Su_putChar : ByteArray := prog_16_method_4_code
def y_St_length : MethodName := ⟨"java/lang/String", "length", "()I"⟩
abbrev b_St_length : ByteArray := prog_13_method_54_code
def y_St_coder : MethodName := ⟨"java/lang/String", "coder", "()B"⟩
abbrev b_St_coder : ByteArray := prog_13_method_152_code
def y_As_putStringAt : MethodName := ⟨"java/lang/AbstractStringBuilder", "putStringAt", "(ILjava/lang/String;)V"⟩
abbrev b_As_putStringAt : ByteArray := prog_6_method_73_code
def y_As_inflateIfNeededFor : MethodName := ⟨"java/lang/AbstractStringBuilder", "inflateIfNeededFor", "(Ljava/lang/String;)V"⟩
abbrev b_As_inflateIfNeededFor : ByteArray := prog_6_method_71_code
def y_As_inflate : MethodName := ⟨"java/lang/AbstractStringBuilder", "inflate", "()V"⟩
abbrev b_As_inflate : ByteArray := prog_6_method_11_code
def y_Sl_inflate : MethodName := ⟨"java/lang/StringLatin1", "inflate", "([BI[BII)V"⟩
abbrev b_Sl_inflate : ByteArray := prog_15_method_50_code
def y_Su_inflate : MethodName := ⟨"java/lang/StringUTF16", "inflate", "([BI[BII)V"⟩
abbrev b_Su_inflate : ByteArray := prog_16_method_86_code
def y_Su_checkBoundsOffCount : MethodName := ⟨"java/lang/StringUTF16", "checkBoundsOffCount", "(II[B)V"⟩
abbrev b_Su_checkBoundsOffCount : ByteArray := prog_16_method_94_code
def y_St_checkBoundsOffCount : MethodName := ⟨"java/lang/String", "checkBoundsOffCount", "(III)I"⟩
abbrev b_St_checkBoundsOffCount : ByteArray := prog_13_method_157_code
def y_Pc_checkFromIndexSize : MethodName := ⟨"jdk/internal/util/Preconditions", "checkFromIndexSize", "(IIILjava/util/function/BiFunction;)I"⟩
abbrev b_Pc_checkFromIndexSize : ByteArray := prog_21_method_13_code
def y_St_getBytes : MethodName := ⟨"java/lang/String", "getBytes", "([BIB)V"⟩
abbrev b_St_getBytes : ByteArray := prog_13_method_147_code
def y_Sb_append2 : MethodName := ⟨"java/lang/StringBuilder", "append", "(I)Ljava/lang/StringBuilder;"⟩
abbrev b_Sb_append2 : ByteArray := prog_14_method_15_code
def y_As_append2 : MethodName := ⟨"java/lang/AbstractStringBuilder", "append", "(I)Ljava/lang/AbstractStringBuilder;"⟩
abbrev b_As_append2 : ByteArray := prog_6_method_32_code
def y_In_stringSize : MethodName := ⟨"java/lang/Integer", "stringSize", "(I)I"⟩
abbrev b_In_stringSize : ByteArray := prog_10_method_13_code
def y_In_getChars : MethodName := ⟨"java/lang/Integer", "getChars", "(II[B)I"⟩
abbrev b_In_getChars : ByteArray := prog_10_method_12_code
def y_Su_getChars : MethodName := ⟨"java/lang/StringUTF16", "getChars", "(III[B)I"⟩
abbrev b_Su_getChars : ByteArray := prog_16_method_77_code
def y_Su_getChars2 : MethodName := ⟨"java/lang/StringUTF16", "getChars", "(II[B)I"⟩
abbrev b_Su_getChars2 : ByteArray := prog_16_method_89_code
def y_Sb_toString : MethodName := ⟨"java/lang/StringBuilder", "toString", "()Ljava/lang/String;"⟩
abbrev b_Sb_toString : ByteArray := prog_14_method_42_code
def y_St_init : MethodName := ⟨"java/lang/String", "<init>", "(Ljava/lang/StringBuilder;)V"⟩
abbrev b_St_init : ByteArray := prog_13_method_53_code
def y_St_init2 : MethodName := ⟨"java/lang/String", "<init>", "(Ljava/lang/AbstractStringBuilder;Ljava/lang/Void;)V"⟩
abbrev b_St_init2 : ByteArray := prog_13_method_150_code
def y_As_getValue : MethodName := ⟨"java/lang/AbstractStringBuilder", "getValue", "()[B"⟩
abbrev b_As_getValue : ByteArray := prog_6_method_64_code
def y_As_length : MethodName := ⟨"java/lang/AbstractStringBuilder", "length", "()I"⟩
abbrev b_As_length : ByteArray := prog_6_method_6_code
def y_Sb_length : MethodName := ⟨"java/lang/StringBuilder", "length", "()I"⟩
abbrev b_Sb_length : ByteArray := prog_14_method_93_code
def y_Ar_copyOfRange : MethodName := ⟨"java/util/Arrays", "copyOfRange", "([BII)[B"⟩
abbrev b_Ar_copyOfRange : ByteArray := prog_19_method_132_code
def y_Ar_copyOfRangeByte : MethodName := ⟨"java/util/Arrays", "copyOfRangeByte", "([BII)[B"⟩
abbrev b_Ar_copyOfRangeByte : ByteArray := prog_19_method_133_code
def y_Ar_checkLength : MethodName := ⟨"java/util/Arrays", "checkLength", "(II)V"⟩
abbrev b_Ar_checkLength : ByteArray := prog_19_method_131_code
def y_Ia_init : MethodName := ⟨"java/lang/IllegalArgumentException", "<init>", "(Ljava/lang/String;)V"⟩
abbrev b_Ia_init : ByteArray := prog_9_method_2_code
def y_Su_compress : MethodName := ⟨"java/lang/StringUTF16", "compress", "([BII)[B"⟩
abbrev b_Su_compress : ByteArray := prog_16_method_17_code
def y_Su_compress2 : MethodName := ⟨"java/lang/StringUTF16", "compress", "([BI[BII)I"⟩
abbrev b_Su_compress2 : ByteArray := prog_16_method_22_code
def y_Su_getChar : MethodName := ⟨"java/lang/StringUTF16", "getChar", "([BI)C"⟩
abbrev b_Su_getChar : ByteArray := prog_16_method_5_code
def y_Su_coderFromArrayLen : MethodName := ⟨"java/lang/StringUTF16", "coderFromArrayLen", "([BI)B"⟩
abbrev b_Su_coderFromArrayLen : ByteArray := prog_16_method_15_code
def y_Pt_clear : MethodName := ⟨"PropertyTrie", "clear", "()I"⟩
abbrev b_Pt_clear : ByteArray := prog_1_method_8_code
def y_Bl_recordOf : MethodName := ⟨"PropertyTrie$Blocks", "recordOf", "(I)I"⟩
abbrev b_Bl_recordOf : ByteArray := prog_2_method_3_code
def y_Bl_find : MethodName := ⟨"PropertyTrie$Blocks", "find", "(I)V"⟩
abbrev b_Bl_find : ByteArray := prog_2_method_4_code
def y_La_set : MethodName := ⟨"PropertyTrieLaw", "set", "(LPropertyTrie;IIII[J)I"⟩
abbrev b_La_set : ByteArray := method_3_code
def y_Pt_set : MethodName := ⟨"PropertyTrie", "set", "(IIII)I"⟩
abbrev b_Pt_set : ByteArray := prog_1_method_2_code
def y_Pt_mark : MethodName := ⟨"PropertyTrie", "mark", "(IIIII)I"⟩
abbrev b_Pt_mark : ByteArray := prog_1_method_3_code
def y_Pt_checkRange : MethodName := ⟨"PropertyTrie", "checkRange", "(II)V"⟩
abbrev b_Pt_checkRange : ByteArray := prog_1_method_11_code
def y_Pt_checkField : MethodName := ⟨"PropertyTrie", "checkField", "(I)V"⟩
abbrev b_Pt_checkField : ByteArray := prog_1_method_12_code
def y_Rc_begin : MethodName := ⟨"PropertyTrie$Records", "begin", "(III)V"⟩
abbrev b_Rc_begin : ByteArray := prog_3_method_6_code
def y_Bl_alter : MethodName := ⟨"PropertyTrie$Blocks", "alter", "(II)V"⟩
abbrev b_Bl_alter : ByteArray := prog_2_method_5_code
def y_Bl_splitBefore : MethodName := ⟨"PropertyTrie$Blocks", "splitBefore", "(I)V"⟩
abbrev b_Bl_splitBefore : ByteArray := prog_2_method_6_code
def y_Bl_split : MethodName := ⟨"PropertyTrie$Blocks", "split", "(I)V"⟩
abbrev b_Bl_split : ByteArray := prog_2_method_7_code
def y_Bl_replace : MethodName := ⟨"PropertyTrie$Blocks", "replace", "(I)V"⟩
abbrev b_Bl_replace : ByteArray := prog_2_method_8_code
def y_Rc_altered : MethodName := ⟨"PropertyTrie$Records", "altered", "(I)I"⟩
abbrev b_Rc_altered : ByteArray := prog_3_method_7_code
def y_Rc_findWanted : MethodName := ⟨"PropertyTrie$Records", "findWanted", "(I)I"⟩
abbrev b_Rc_findWanted : ByteArray := prog_3_method_8_code
def y_Rc_isWanted : MethodName := ⟨"PropertyTrie$Records", "isWanted", "(I)Z"⟩
abbrev b_Rc_isWanted : ByteArray := prog_3_method_9_code
def y_Rc_release : MethodName := ⟨"PropertyTrie$Records", "release", "(II)V"⟩
abbrev b_Rc_release : ByteArray := prog_3_method_5_code
def y_Rc_drop : MethodName := ⟨"PropertyTrie$Records", "drop", "(I)V"⟩
abbrev b_Rc_drop : ByteArray := prog_3_method_11_code
def y_Bl_joinBelow : MethodName := ⟨"PropertyTrie$Blocks", "joinBelow", "(I)V"⟩
abbrev b_Bl_joinBelow : ByteArray := prog_2_method_9_code
def y_Bl_join : MethodName := ⟨"PropertyTrie$Blocks", "join", "(I)V"⟩
abbrev b_Bl_join : ByteArray := prog_2_method_10_code
def y_Bl_isAllAlike : MethodName := ⟨"PropertyTrie$Blocks", "isAllAlike", "(I)Z"⟩
abbrev b_Bl_isAllAlike : ByteArray := prog_2_method_11_code
def y_La_mark : MethodName := ⟨"PropertyTrieLaw", "mark", "(LPropertyTrie;IIIII[J)I"⟩
abbrev b_La_mark : ByteArray := method_4_code
def y_La_get : MethodName := ⟨"PropertyTrieLaw", "get", "(LPropertyTrie;II[J)I"⟩
abbrev b_La_get : ByteArray := method_5_code
def y_Pt_get : MethodName := ⟨"PropertyTrie", "get", "(II)I"⟩
abbrev b_Pt_get : ByteArray := prog_1_method_4_code
def y_Pt_checkPoint : MethodName := ⟨"PropertyTrie", "checkPoint", "(I)V"⟩
abbrev b_Pt_checkPoint : ByteArray := prog_1_method_10_code
def y_Pt_valueAt : MethodName := ⟨"PropertyTrie", "valueAt", "(II)I"⟩
abbrev b_Pt_valueAt : ByteArray := prog_1_method_9_code
def y_Rc_value : MethodName := ⟨"PropertyTrie$Records", "value", "(II)I"⟩
abbrev b_Rc_value : ByteArray := prog_3_method_3_code
def y_La_change : MethodName := ⟨"PropertyTrieLaw", "change", "(LPropertyTrie;II[J)I"⟩
abbrev b_La_change : ByteArray := method_6_code
def y_Pt_change : MethodName := ⟨"PropertyTrie", "change", "(II)I"⟩
abbrev b_Pt_change : ByteArray := prog_1_method_5_code
def y_La_alike : MethodName := ⟨"PropertyTrieLaw", "alike", "(LPropertyTrie;II[J)I"⟩
abbrev b_La_alike : ByteArray := method_7_code
def y_Pt_alike : MethodName := ⟨"PropertyTrie", "alike", "(II)Z"⟩
abbrev b_Pt_alike : ByteArray := prog_1_method_6_code
def y_La_hash : MethodName := ⟨"PropertyTrieLaw", "hash", "(LPropertyTrie;III[J)I"⟩
abbrev b_La_hash : ByteArray := method_8_code
def y_Pt_hash : MethodName := ⟨"PropertyTrie", "hash", "(III)I"⟩
abbrev b_Pt_hash : ByteArray := prog_1_method_7_code
def y_Pt_checkLength : MethodName := ⟨"PropertyTrie", "checkLength", "(I)V"⟩
abbrev b_Pt_checkLength : ByteArray := prog_1_method_13_code
def y_Mo_init : MethodName := ⟨"PropertyTrieModel", "<init>", "()V"⟩
abbrev b_Mo_init : ByteArray := prog_5_method_1_code
def y_Mo_thrown : MethodName := ⟨"PropertyTrieModel", "thrown", "()I"⟩
abbrev b_Mo_thrown : ByteArray := prog_5_method_2_code
def y_Mo_set : MethodName := ⟨"PropertyTrieModel", "set", "(IIII)I"⟩
abbrev b_Mo_set : ByteArray := prog_5_method_7_code
def y_Mo_mark : MethodName := ⟨"PropertyTrieModel", "mark", "(IIIII)I"⟩
abbrev b_Mo_mark : ByteArray := prog_5_method_8_code
def y_Mo_out : MethodName := ⟨"PropertyTrieModel", "out", "(I)Z"⟩
abbrev b_Mo_out : ByteArray := prog_5_method_6_code
def y_Mo_fail : MethodName := ⟨"PropertyTrieModel", "fail", "(I)I"⟩
abbrev b_Mo_fail : ByteArray := prog_5_method_3_code
def y_Mo_cut : MethodName := ⟨"PropertyTrieModel", "cut", "(I)V"⟩
abbrev b_Mo_cut : ByteArray := prog_5_method_5_code
def y_Mo_at : MethodName := ⟨"PropertyTrieModel", "at", "(I)I"⟩
abbrev b_Mo_at : ByteArray := prog_5_method_4_code
def y_Mo_get : MethodName := ⟨"PropertyTrieModel", "get", "(II)I"⟩
abbrev b_Mo_get : ByteArray := prog_5_method_9_code
def y_Mo_change : MethodName := ⟨"PropertyTrieModel", "change", "(II)I"⟩
abbrev b_Mo_change : ByteArray := prog_5_method_10_code
def y_Mo_alike : MethodName := ⟨"PropertyTrieModel", "alike", "(II)Z"⟩
abbrev b_Mo_alike : ByteArray := prog_5_method_11_code
def y_Mo_hash : MethodName := ⟨"PropertyTrieModel", "hash", "(III)I"⟩
abbrev b_Mo_hash : ByteArray := prog_5_method_12_code
def y_Mo_clear : MethodName := ⟨"PropertyTrieModel", "clear", "()I"⟩
abbrev b_Mo_clear : ByteArray := prog_5_method_13_code
/-- the tables' words that a callee can take over -/
def lwg : List Cond := lw_tbl.filter goodWord
theorem lwg_good {w : Cond} (h : w ∈ lwg) : (w.onTables && w.keeps) = true ∨ ∃ ty, w = .arrayClass ty := good_of_word (List.mem_filter.mp h).2
/-- the links between nest mates -/
def lwn : List Cond := [Cond.fieldLinkNest "PropertyTrie" 28 "PropertyTrie$Blocks" "records" "LPropertyTrie$Records;" "PropertyTrie", Cond.fieldLinkNest "PropertyTrie" 49 "PropertyTrie$Blocks" "foundLast" "I" "PropertyTrie"]
theorem kn_fl_Pt_28 : Cond.fieldLinkNest "PropertyTrie" 28 "PropertyTrie$Blocks" "records" "LPropertyTrie$Records;" "PropertyTrie" ∈ lwn := List.mem_of_getElem? (i := 0) rfl
theorem kn_fl_Pt_49 : Cond.fieldLinkNest "PropertyTrie" 49 "PropertyTrie$Blocks" "foundLast" "I" "PropertyTrie" ∈ lwn := List.mem_of_getElem? (i := 1) rfl
theorem lwn_tab : ∀ w ∈ lwn, w.onTables = true := by decide +kernel
theorem lwn_in : ∀ w ∈ lwn, w ∈ lw_tbl := by decide +kernel
theorem lwn_warm {s U : State} (hW : s.WarmedH U.vm) (h : ∀ w ∈ lwn, va_Nw w s) : ∀ w ∈ lwn, va_Nw w U := by
  intro w hw
  have h1 := h w hw
  unfold lwn at hw
  simp only [List.mem_cons, List.not_mem_nil, or_false] at hw
  rcases hw with rfl | rfl
  · exact va_Nw.warmF hW h1
  · exact va_Nw.warmF hW h1
theorem i_Pt : ∀ w ∈ w_Pt, w ∈ lwg := by decide +kernel
theorem i_Mo : ∀ w ∈ w_Mo, w ∈ lwg := by decide +kernel
theorem i_Bl : ∀ w ∈ w_Bl, w ∈ lwg := by decide +kernel
theorem i_Rc : ∀ w ∈ w_Rc, w ∈ lwg := by decide +kernel
theorem i_La : ∀ w ∈ w_La, w ∈ lwg := by decide +kernel
theorem k_ini_La : Cond.initialized "PropertyTrieLaw" ∈ lwg := List.mem_filter.mpr ⟨List.mem_append_right _ (List.mem_of_getElem? (i := 0) (by decide +kernel)), by decide +kernel⟩
theorem k_ini_Pt : Cond.initialized "PropertyTrie" ∈ lwg := List.mem_filter.mpr ⟨List.mem_append_right _ (List.mem_of_getElem? (i := 1) (by decide +kernel)), by decide +kernel⟩
theorem k_ini_Bl : Cond.initialized "PropertyTrie$Blocks" ∈ lwg := List.mem_filter.mpr ⟨List.mem_append_right _ (List.mem_of_getElem? (i := 2) (by decide +kernel)), by decide +kernel⟩
theorem k_ini_Rc : Cond.initialized "PropertyTrie$Records" ∈ lwg := List.mem_filter.mpr ⟨List.mem_append_right _ (List.mem_of_getElem? (i := 3) (by decide +kernel)), by decide +kernel⟩
theorem k_ini_Ar : Cond.initialized "java/util/Arrays" ∈ lwg := List.mem_filter.mpr ⟨List.mem_append_right _ (List.mem_of_getElem? (i := 4) (by decide +kernel)), by decide +kernel⟩
theorem k_ini_Sy : Cond.initialized "java/lang/System" ∈ lwg := List.mem_filter.mpr ⟨List.mem_append_right _ (List.mem_of_getElem? (i := 5) (by decide +kernel)), by decide +kernel⟩
theorem k_ini_Th : Cond.initialized "java/lang/Throwable" ∈ lwg := List.mem_filter.mpr ⟨List.mem_append_right _ (List.mem_of_getElem? (i := 6) (by decide +kernel)), by decide +kernel⟩
theorem k_ini_Ex : Cond.initialized "java/lang/Exception" ∈ lwg := List.mem_filter.mpr ⟨List.mem_append_right _ (List.mem_of_getElem? (i := 7) (by decide +kernel)), by decide +kernel⟩
theorem k_ini_Re : Cond.initialized "java/lang/RuntimeException" ∈ lwg := List.mem_filter.mpr ⟨List.mem_append_right _ (List.mem_of_getElem? (i := 8) (by decide +kernel)), by decide +kernel⟩
theorem k_ini_Ia : Cond.initialized "java/lang/IllegalArgumentException" ∈ lwg := List.mem_filter.mpr ⟨List.mem_append_right _ (List.mem_of_getElem? (i := 9) (by decide +kernel)), by decide +kernel⟩
theorem k_ini_As : Cond.initialized "java/lang/AbstractStringBuilder" ∈ lwg := List.mem_filter.mpr ⟨List.mem_append_right _ (List.mem_of_getElem? (i := 10) (by decide +kernel)), by decide +kernel⟩
theorem k_ini_Sb : Cond.initialized "java/lang/StringBuilder" ∈ lwg := List.mem_filter.mpr ⟨List.mem_append_right _ (List.mem_of_getElem? (i := 11) (by decide +kernel)), by decide +kernel⟩
theorem k_ini_St : Cond.initialized "java/lang/String" ∈ lwg := List.mem_filter.mpr ⟨List.mem_append_right _ (List.mem_of_getElem? (i := 12) (by decide +kernel)), by decide +kernel⟩
theorem k_ini_Su : Cond.initialized "java/lang/StringUTF16" ∈ lwg := List.mem_filter.mpr ⟨List.mem_append_right _ (List.mem_of_getElem? (i := 13) (by decide +kernel)), by decide +kernel⟩
theorem k_ini_Au : Cond.initialized "jdk/internal/util/ArraysSupport" ∈ lwg := List.mem_filter.mpr ⟨List.mem_append_right _ (List.mem_of_getElem? (i := 14) (by decide +kernel)), by decide +kernel⟩
theorem k_ini_Mt : Cond.initialized "java/lang/Math" ∈ lwg := List.mem_filter.mpr ⟨List.mem_append_right _ (List.mem_of_getElem? (i := 15) (by decide +kernel)), by decide +kernel⟩
theorem k_ini_Pc : Cond.initialized "jdk/internal/util/Preconditions" ∈ lwg := List.mem_filter.mpr ⟨List.mem_append_right _ (List.mem_of_getElem? (i := 16) (by decide +kernel)), by decide +kernel⟩
theorem k_ini_Sl : Cond.initialized "java/lang/StringLatin1" ∈ lwg := List.mem_filter.mpr ⟨List.mem_append_right _ (List.mem_of_getElem? (i := 17) (by decide +kernel)), by decide +kernel⟩
theorem k_ini_In : Cond.initialized "java/lang/Integer" ∈ lwg := List.mem_filter.mpr ⟨List.mem_append_right _ (List.mem_of_getElem? (i := 18) (by decide +kernel)), by decide +kernel⟩
theorem k_ini_Mo : Cond.initialized "PropertyTrieModel" ∈ lwg := List.mem_filter.mpr ⟨List.mem_append_right _ (List.mem_of_getElem? (i := 19) (by decide +kernel)), by decide +kernel⟩
theorem k_cl_La_8 : Cond.classLink "PropertyTrieLaw" 8 "PropertyTrie" ∈ lwg := List.mem_filter.mpr ⟨List.mem_append_right _ (List.mem_of_getElem? (i := 20) (by decide +kernel)), by decide +kernel⟩
theorem k_in_Pt : Cond.instantiable "PropertyTrie" 1 ∈ lwg := List.mem_filter.mpr ⟨List.mem_append_right _ (List.mem_of_getElem? (i := 21) (by decide +kernel)), by decide +kernel⟩
theorem k_ml_La_34 : Cond.methodLink "PropertyTrieLaw" 34 y_Pt_init ∈ lwg := List.mem_filter.mpr ⟨List.mem_append_right _ (List.mem_of_getElem? (i := 22) (by decide +kernel)), by decide +kernel⟩
theorem k_im_Pt_init : Cond.instanceMethod y_Pt_init ∈ lwg := List.mem_filter.mpr ⟨List.mem_append_right _ (List.mem_of_getElem? (i := 23) (by decide +kernel)), by decide +kernel⟩
theorem k_code_Pt_init : Cond.code y_Pt_init b_Pt_init 1 (none) ∈ lwg := List.mem_filter.mpr ⟨List.mem_append_right _ (List.mem_of_getElem? (i := 24) (by decide +kernel)), by decide +kernel⟩
theorem k_ml_Pt_3 : Cond.methodLink "PropertyTrie" 3 y_Ob_init ∈ lwg := List.mem_filter.mpr ⟨List.mem_append_right _ (List.mem_of_getElem? (i := 25) (by decide +kernel)), by decide +kernel⟩
theorem k_im_Ob_init : Cond.instanceMethod y_Ob_init ∈ lwg := List.mem_filter.mpr ⟨List.mem_append_right _ (List.mem_of_getElem? (i := 26) (by decide +kernel)), by decide +kernel⟩
theorem k_code_Ob_init : Cond.code y_Ob_init b_Ob_init 1 (none) ∈ lwg := List.mem_filter.mpr ⟨List.mem_append_right _ (List.mem_of_getElem? (i := 27) (by decide +kernel)), by decide +kernel⟩
theorem k_cl_Pt_9 : Cond.classLink "PropertyTrie" 9 "PropertyTrie$Blocks" ∈ lwg := List.mem_filter.mpr ⟨List.mem_append_right _ (List.mem_of_getElem? (i := 28) (by decide +kernel)), by decide +kernel⟩
theorem k_in_Bl : Cond.instantiable "PropertyTrie$Blocks" 7 ∈ lwg := List.mem_filter.mpr ⟨List.mem_append_right _ (List.mem_of_getElem? (i := 29) (by decide +kernel)), by decide +kernel⟩
theorem k_ml_Pt_11 : Cond.methodLink "PropertyTrie" 11 y_Bl_init ∈ lwg := List.mem_filter.mpr ⟨List.mem_append_right _ (List.mem_of_getElem? (i := 30) (by decide +kernel)), by decide +kernel⟩
theorem k_im_Bl_init : Cond.instanceMethod y_Bl_init ∈ lwg := List.mem_filter.mpr ⟨List.mem_append_right _ (List.mem_of_getElem? (i := 31) (by decide +kernel)), by decide +kernel⟩
theorem k_code_Bl_init : Cond.code y_Bl_init b_Bl_init 1 (none) ∈ lwg := List.mem_filter.mpr ⟨List.mem_append_right _ (List.mem_of_getElem? (i := 32) (by decide +kernel)), by decide +kernel⟩
theorem k_ml_Bl_5 : Cond.methodLink "PropertyTrie$Blocks" 5 y_Ob_init ∈ lwg := List.mem_filter.mpr ⟨List.mem_append_right _ (List.mem_of_getElem? (i := 33) (by decide +kernel)), by decide +kernel⟩
theorem k_cl_Bl_11 : Cond.classLink "PropertyTrie$Blocks" 11 "PropertyTrie$Records" ∈ lwg := List.mem_filter.mpr ⟨List.mem_append_right _ (List.mem_of_getElem? (i := 34) (by decide +kernel)), by decide +kernel⟩
theorem k_in_Rc : Cond.instantiable "PropertyTrie$Records" 11 ∈ lwg := List.mem_filter.mpr ⟨List.mem_append_right _ (List.mem_of_getElem? (i := 35) (by decide +kernel)), by decide +kernel⟩
theorem k_ml_Bl_13 : Cond.methodLink "PropertyTrie$Blocks" 13 y_Rc_init ∈ lwg := List.mem_filter.mpr ⟨List.mem_append_right _ (List.mem_of_getElem? (i := 36) (by decide +kernel)), by decide +kernel⟩
theorem k_im_Rc_init : Cond.instanceMethod y_Rc_init ∈ lwg := List.mem_filter.mpr ⟨List.mem_append_right _ (List.mem_of_getElem? (i := 37) (by decide +kernel)), by decide +kernel⟩
theorem k_code_Rc_init : Cond.code y_Rc_init b_Rc_init 1 (none) ∈ lwg := List.mem_filter.mpr ⟨List.mem_append_right _ (List.mem_of_getElem? (i := 38) (by decide +kernel)), by decide +kernel⟩
theorem k_ml_Rc_3 : Cond.methodLink "PropertyTrie$Records" 3 y_Ob_init ∈ lwg := List.mem_filter.mpr ⟨List.mem_append_right _ (List.mem_of_getElem? (i := 39) (by decide +kernel)), by decide +kernel⟩
theorem k_ml_Rc_33 : Cond.methodLink "PropertyTrie$Records" 33 y_Rc_empty ∈ lwg := List.mem_filter.mpr ⟨List.mem_append_right _ (List.mem_of_getElem? (i := 40) (by decide +kernel)), by decide +kernel⟩
theorem k_im_Rc_empty : Cond.instanceMethod y_Rc_empty ∈ lwg := List.mem_filter.mpr ⟨List.mem_append_right _ (List.mem_of_getElem? (i := 41) (by decide +kernel)), by decide +kernel⟩
theorem k_sel_Rc_empty : Cond.selects "PropertyTrie$Records" y_Rc_empty y_Rc_empty ∈ lwg := List.mem_filter.mpr ⟨List.mem_append_right _ (List.mem_of_getElem? (i := 42) (by decide +kernel)), by decide +kernel⟩
theorem k_code_Rc_empty : Cond.code y_Rc_empty b_Rc_empty 2 (none) ∈ lwg := List.mem_filter.mpr ⟨List.mem_append_right _ (List.mem_of_getElem? (i := 43) (by decide +kernel)), by decide +kernel⟩
theorem k_ml_Rc_36 : Cond.methodLink "PropertyTrie$Records" 36 y_Ar_fill2 ∈ lwg := List.mem_filter.mpr ⟨List.mem_append_right _ (List.mem_of_getElem? (i := 44) (by decide +kernel)), by decide +kernel⟩
theorem k_st_Ar_fill2 : Cond.static y_Ar_fill2 ∈ lwg := List.mem_filter.mpr ⟨List.mem_append_right _ (List.mem_of_getElem? (i := 45) (by decide +kernel)), by decide +kernel⟩
theorem k_code_Ar_fill2 : Cond.code y_Ar_fill2 b_Ar_fill2 4 (none) ∈ lwg := List.mem_filter.mpr ⟨List.mem_append_right _ (List.mem_of_getElem? (i := 46) (by decide +kernel)), by decide +kernel⟩
theorem k_ml_Rc_46 : Cond.methodLink "PropertyTrie$Records" 46 y_Rc_chainOf ∈ lwg := List.mem_filter.mpr ⟨List.mem_append_right _ (List.mem_of_getElem? (i := 47) (by decide +kernel)), by decide +kernel⟩
theorem k_st_Rc_chainOf : Cond.static y_Rc_chainOf ∈ lwg := List.mem_filter.mpr ⟨List.mem_append_right _ (List.mem_of_getElem? (i := 48) (by decide +kernel)), by decide +kernel⟩
theorem k_code_Rc_chainOf : Cond.code y_Rc_chainOf b_Rc_chainOf 4 ((some .int)) ∈ lwg := List.mem_filter.mpr ⟨List.mem_append_right _ (List.mem_of_getElem? (i := 49) (by decide +kernel)), by decide +kernel⟩
theorem k_ml_Rc_50 : Cond.methodLink "PropertyTrie$Records" 50 y_Rc_keepWanted ∈ lwg := List.mem_filter.mpr ⟨List.mem_append_right _ (List.mem_of_getElem? (i := 50) (by decide +kernel)), by decide +kernel⟩
theorem k_im_Rc_keepWanted : Cond.instanceMethod y_Rc_keepWanted ∈ lwg := List.mem_filter.mpr ⟨List.mem_append_right _ (List.mem_of_getElem? (i := 52) (by decide +kernel)), by decide +kernel⟩
theorem k_code_Rc_keepWanted : Cond.code y_Rc_keepWanted b_Rc_keepWanted 3 ((some .int)) ∈ lwg := List.mem_filter.mpr ⟨List.mem_append_right _ (List.mem_of_getElem? (i := 53) (by decide +kernel)), by decide +kernel⟩
theorem k_ml_Rc_71 : Cond.methodLink "PropertyTrie$Records" 71 y_Sy_arraycopy ∈ lwg := List.mem_filter.mpr ⟨List.mem_append_right _ (List.mem_of_getElem? (i := 54) (by decide +kernel)), by decide +kernel⟩
theorem k_st_Sy_arraycopy : Cond.static y_Sy_arraycopy ∈ lwg := List.mem_filter.mpr ⟨List.mem_append_right _ (List.mem_of_getElem? (i := 55) (by decide +kernel)), by decide +kernel⟩
theorem k_nt_Sy_arraycopy : Cond.native y_Sy_arraycopy ∈ lwg := List.mem_filter.mpr ⟨List.mem_append_right _ (List.mem_of_getElem? (i := 56) (by decide +kernel)), by decide +kernel⟩
theorem k_ml_Rc_54 : Cond.methodLink "PropertyTrie$Records" 54 y_Rc_hold ∈ lwg := List.mem_filter.mpr ⟨List.mem_append_right _ (List.mem_of_getElem? (i := 57) (by decide +kernel)), by decide +kernel⟩
theorem k_im_Rc_hold : Cond.instanceMethod y_Rc_hold ∈ lwg := List.mem_filter.mpr ⟨List.mem_append_right _ (List.mem_of_getElem? (i := 58) (by decide +kernel)), by decide +kernel⟩
theorem k_sel_Rc_hold : Cond.selects "PropertyTrie$Records" y_Rc_hold y_Rc_hold ∈ lwg := List.mem_filter.mpr ⟨List.mem_append_right _ (List.mem_of_getElem? (i := 59) (by decide +kernel)), by decide +kernel⟩
theorem k_code_Rc_hold : Cond.code y_Rc_hold b_Rc_hold 3 (none) ∈ lwg := List.mem_filter.mpr ⟨List.mem_append_right _ (List.mem_of_getElem? (i := 60) (by decide +kernel)), by decide +kernel⟩
theorem k_fl_Rc_11 : Cond.fieldLink "PropertyTrie$Records" 11 "PropertyTrie$Records" "values" "[I" ∈ lwg := List.mem_filter.mpr ⟨List.mem_append_right _ (List.mem_of_getElem? (i := 61) (by decide +kernel)), by decide +kernel⟩
theorem k_fl_Rc_15 : Cond.fieldLink "PropertyTrie$Records" 15 "PropertyTrie$Records" "holders" "[I" ∈ lwg := List.mem_filter.mpr ⟨List.mem_append_right _ (List.mem_of_getElem? (i := 62) (by decide +kernel)), by decide +kernel⟩
theorem k_fl_Rc_18 : Cond.fieldLink "PropertyTrie$Records" 18 "PropertyTrie$Records" "spareRecords" "[I" ∈ lwg := List.mem_filter.mpr ⟨List.mem_append_right _ (List.mem_of_getElem? (i := 63) (by decide +kernel)), by decide +kernel⟩
theorem k_fl_Rc_42 : Cond.fieldLink "PropertyTrie$Records" 42 "PropertyTrie$Records" "spares" "I" ∈ lwg := List.mem_filter.mpr ⟨List.mem_append_right _ (List.mem_of_getElem? (i := 64) (by decide +kernel)), by decide +kernel⟩
theorem k_fl_Rc_21 : Cond.fieldLink "PropertyTrie$Records" 21 "PropertyTrie$Records" "heads" "[I" ∈ lwg := List.mem_filter.mpr ⟨List.mem_append_right _ (List.mem_of_getElem? (i := 65) (by decide +kernel)), by decide +kernel⟩
theorem k_fl_Rc_24 : Cond.fieldLink "PropertyTrie$Records" 24 "PropertyTrie$Records" "behind" "[I" ∈ lwg := List.mem_filter.mpr ⟨List.mem_append_right _ (List.mem_of_getElem? (i := 66) (by decide +kernel)), by decide +kernel⟩
theorem k_fl_Rc_62 : Cond.fieldLink "PropertyTrie$Records" 62 "PropertyTrie$Records" "field" "I" ∈ lwg := List.mem_filter.mpr ⟨List.mem_append_right _ (List.mem_of_getElem? (i := 67) (by decide +kernel)), by decide +kernel⟩
theorem k_fl_Rc_65 : Cond.fieldLink "PropertyTrie$Records" 65 "PropertyTrie$Records" "v" "I" ∈ lwg := List.mem_filter.mpr ⟨List.mem_append_right _ (List.mem_of_getElem? (i := 68) (by decide +kernel)), by decide +kernel⟩
theorem k_fl_Rc_68 : Cond.fieldLink "PropertyTrie$Records" 68 "PropertyTrie$Records" "kept" "I" ∈ lwg := List.mem_filter.mpr ⟨List.mem_append_right _ (List.mem_of_getElem? (i := 69) (by decide +kernel)), by decide +kernel⟩
theorem k_fl_Rc_27 : Cond.fieldLink "PropertyTrie$Records" 27 "PropertyTrie$Records" "outcome" "[I" ∈ lwg := List.mem_filter.mpr ⟨List.mem_append_right _ (List.mem_of_getElem? (i := 70) (by decide +kernel)), by decide +kernel⟩
theorem k_fl_Rc_30 : Cond.fieldLink "PropertyTrie$Records" 30 "PropertyTrie$Records" "wanted" "[I" ∈ lwg := List.mem_filter.mpr ⟨List.mem_append_right _ (List.mem_of_getElem? (i := 71) (by decide +kernel)), by decide +kernel⟩
theorem k_ac_int : Cond.arrayClass .int ∈ lwg := List.mem_filter.mpr ⟨List.mem_append_right _ (List.mem_of_getElem? (i := 95) (by decide +kernel)), by decide +kernel⟩
theorem k_cst_Bl_18 : Cond.constant "PropertyTrie$Blocks" 18 (66624) ∈ lwg := List.mem_filter.mpr ⟨List.mem_append_right _ (List.mem_of_getElem? (i := 96) (by decide +kernel)), by decide +kernel⟩
theorem k_ml_Bl_26 : Cond.methodLink "PropertyTrie$Blocks" 26 y_Bl_empty ∈ lwg := List.mem_filter.mpr ⟨List.mem_append_right _ (List.mem_of_getElem? (i := 97) (by decide +kernel)), by decide +kernel⟩
theorem k_im_Bl_empty : Cond.instanceMethod y_Bl_empty ∈ lwg := List.mem_filter.mpr ⟨List.mem_append_right _ (List.mem_of_getElem? (i := 98) (by decide +kernel)), by decide +kernel⟩
theorem k_sel_Bl_empty : Cond.selects "PropertyTrie$Blocks" y_Bl_empty y_Bl_empty ∈ lwg := List.mem_filter.mpr ⟨List.mem_append_right _ (List.mem_of_getElem? (i := 99) (by decide +kernel)), by decide +kernel⟩
theorem k_code_Bl_empty : Cond.code y_Bl_empty b_Bl_empty 2 (none) ∈ lwg := List.mem_filter.mpr ⟨List.mem_append_right _ (List.mem_of_getElem? (i := 100) (by decide +kernel)), by decide +kernel⟩
theorem k_ml_Bl_29 : Cond.methodLink "PropertyTrie$Blocks" 29 y_Rc_empty ∈ lwg := List.mem_filter.mpr ⟨List.mem_append_right _ (List.mem_of_getElem? (i := 101) (by decide +kernel)), by decide +kernel⟩
theorem k_ml_Bl_30 : Cond.methodLink "PropertyTrie$Blocks" 30 y_Ar_fill4 ∈ lwg := List.mem_filter.mpr ⟨List.mem_append_right _ (List.mem_of_getElem? (i := 102) (by decide +kernel)), by decide +kernel⟩
theorem k_st_Ar_fill4 : Cond.static y_Ar_fill4 ∈ lwg := List.mem_filter.mpr ⟨List.mem_append_right _ (List.mem_of_getElem? (i := 103) (by decide +kernel)), by decide +kernel⟩
theorem k_code_Ar_fill4 : Cond.code y_Ar_fill4 b_Ar_fill4 5 (none) ∈ lwg := List.mem_filter.mpr ⟨List.mem_append_right _ (List.mem_of_getElem? (i := 104) (by decide +kernel)), by decide +kernel⟩
theorem k_ml_Ar_13 : Cond.methodLink "java/util/Arrays" 13 y_Ar_rangeCheck ∈ lwg := List.mem_filter.mpr ⟨List.mem_append_right _ (List.mem_of_getElem? (i := 105) (by decide +kernel)), by decide +kernel⟩
theorem k_st_Ar_rangeCheck : Cond.static y_Ar_rangeCheck ∈ lwg := List.mem_filter.mpr ⟨List.mem_append_right _ (List.mem_of_getElem? (i := 106) (by decide +kernel)), by decide +kernel⟩
theorem k_code_Ar_rangeCheck : Cond.code y_Ar_rangeCheck b_Ar_rangeCheck 3 (none) ∈ lwg := List.mem_filter.mpr ⟨List.mem_append_right _ (List.mem_of_getElem? (i := 107) (by decide +kernel)), by decide +kernel⟩
theorem k_cl_Ar_43 : Cond.classLink "java/util/Arrays" 43 "java/lang/IllegalArgumentException" ∈ lwg := List.mem_filter.mpr ⟨List.mem_append_right _ (List.mem_of_getElem? (i := 108) (by decide +kernel)), by decide +kernel⟩
theorem k_in_Ia : Cond.instantiable "java/lang/IllegalArgumentException" 6 ∈ lwg := List.mem_filter.mpr ⟨List.mem_append_right _ (List.mem_of_getElem? (i := 109) (by decide +kernel)), by decide +kernel⟩
theorem k_dc_Re_init : Cond.declares y_Re_init ∈ lw_tbl := List.mem_append_right _ (List.mem_of_getElem? (i := 111) (by decide +kernel))
theorem k_dc_Re_init2 : Cond.declares y_Re_init2 ∈ lw_tbl := List.mem_append_right _ (List.mem_of_getElem? (i := 112) (by decide +kernel))
theorem k_dc_Ex_init : Cond.declares y_Ex_init ∈ lw_tbl := List.mem_append_right _ (List.mem_of_getElem? (i := 113) (by decide +kernel))
theorem k_dc_Ex_init2 : Cond.declares y_Ex_init2 ∈ lw_tbl := List.mem_append_right _ (List.mem_of_getElem? (i := 114) (by decide +kernel))
theorem k_dc_Th_init : Cond.declares y_Th_init ∈ lw_tbl := List.mem_append_right _ (List.mem_of_getElem? (i := 115) (by decide +kernel))
theorem k_dc_Th_init2 : Cond.declares y_Th_init2 ∈ lw_tbl := List.mem_append_right _ (List.mem_of_getElem? (i := 116) (by decide +kernel))
theorem k_sel_Ia_Th_fillInStackTrace : Cond.selects "java/lang/IllegalArgumentException" y_Th_fillInStackTrace y_Th_fillInStackTrace ∈ lwg := List.mem_filter.mpr ⟨List.mem_append_right _ (List.mem_of_getElem? (i := 117) (by decide +kernel)), by decide +kernel⟩
theorem k_sel_Ia_Th_fillInStackTrace2 : Cond.selects "java/lang/IllegalArgumentException" y_Th_fillInStackTrace2 y_Th_fillInStackTrace2 ∈ lwg := List.mem_filter.mpr ⟨List.mem_append_right _ (List.mem_of_getElem? (i := 118) (by decide +kernel)), by decide +kernel⟩
theorem k_fl_Th_198 : Cond.fieldLink "java/lang/Throwable" 198 "java/lang/Throwable" "backtrace" "Ljava/lang/Object;" ∈ lwg := List.mem_filter.mpr ⟨List.mem_append_right _ (List.mem_of_getElem? (i := 129) (by decide +kernel)), by decide +kernel⟩
theorem k_im_Th_init : Cond.instanceMethod y_Th_init ∈ lwg := List.mem_filter.mpr ⟨List.mem_append_right _ (List.mem_of_getElem? (i := 131) (by decide +kernel)), by decide +kernel⟩
theorem k_code_Th_init : Cond.code y_Th_init b_Th_init 1 (none) ∈ lwg := List.mem_filter.mpr ⟨List.mem_append_right _ (List.mem_of_getElem? (i := 132) (by decide +kernel)), by decide +kernel⟩
theorem k_ml_Th_1 : Cond.methodLink "java/lang/Throwable" 1 y_Ob_init ∈ lwg := List.mem_filter.mpr ⟨List.mem_append_right _ (List.mem_of_getElem? (i := 133) (by decide +kernel)), by decide +kernel⟩
theorem k_fl_Th_13 : Cond.fieldLink "java/lang/Throwable" 13 "java/lang/Throwable" "UNASSIGNED_STACK" "[Ljava/lang/StackTraceElement;" ∈ lwg := List.mem_filter.mpr ⟨List.mem_append_right _ (List.mem_of_getElem? (i := 134) (by decide +kernel)), by decide +kernel⟩
theorem k_fl_Th_20 : Cond.fieldLink "java/lang/Throwable" 20 "java/lang/Throwable" "SUPPRESSED_SENTINEL" "Ljava/util/List;" ∈ lwg := List.mem_filter.mpr ⟨List.mem_append_right _ (List.mem_of_getElem? (i := 136) (by decide +kernel)), by decide +kernel⟩
theorem k_ml_Th_27 : Cond.methodLink "java/lang/Throwable" 27 y_Th_fillInStackTrace2 ∈ lwg := List.mem_filter.mpr ⟨List.mem_append_right _ (List.mem_of_getElem? (i := 138) (by decide +kernel)), by decide +kernel⟩
theorem k_im_Th_fillInStackTrace2 : Cond.instanceMethod y_Th_fillInStackTrace2 ∈ lwg := List.mem_filter.mpr ⟨List.mem_append_right _ (List.mem_of_getElem? (i := 139) (by decide +kernel)), by decide +kernel⟩
theorem k_sync_Th_fillInStackTrace2 : Cond.codeSync y_Th_fillInStackTrace2 b_Th_fillInStackTrace2 1 ((some (.object "java/lang/Throwable"))) ∈ lwg := List.mem_filter.mpr ⟨List.mem_append_right _ (List.mem_of_getElem? (i := 141) (by decide +kernel)), by decide +kernel⟩
theorem k_ml_Th_202 : Cond.methodLink "java/lang/Throwable" 202 y_Th_fillInStackTrace ∈ lwg := List.mem_filter.mpr ⟨List.mem_append_right _ (List.mem_of_getElem? (i := 142) (by decide +kernel)), by decide +kernel⟩
theorem k_im_Th_fillInStackTrace : Cond.instanceMethod y_Th_fillInStackTrace ∈ lwg := List.mem_filter.mpr ⟨List.mem_append_right _ (List.mem_of_getElem? (i := 144) (by decide +kernel)), by decide +kernel⟩
theorem k_in_Th : Cond.instantiable "java/lang/Throwable" 6 ∈ lwg := List.mem_filter.mpr ⟨List.mem_append_right _ (List.mem_of_getElem? (i := 145) (by decide +kernel)), by decide +kernel⟩
theorem k_nt_Th_fillInStackTrace : Cond.native y_Th_fillInStackTrace ∈ lwg := List.mem_filter.mpr ⟨List.mem_append_right _ (List.mem_of_getElem? (i := 146) (by decide +kernel)), by decide +kernel⟩
theorem k_cl_Ar_45 : Cond.classLink "java/util/Arrays" 45 "java/lang/StringBuilder" ∈ lwg := List.mem_filter.mpr ⟨List.mem_append_right _ (List.mem_of_getElem? (i := 147) (by decide +kernel)), by decide +kernel⟩
theorem k_in_Sb : Cond.instantiable "java/lang/StringBuilder" 4 ∈ lwg := List.mem_filter.mpr ⟨List.mem_append_right _ (List.mem_of_getElem? (i := 148) (by decide +kernel)), by decide +kernel⟩
theorem k_ml_Ar_47 : Cond.methodLink "java/util/Arrays" 47 y_Sb_init ∈ lwg := List.mem_filter.mpr ⟨List.mem_append_right _ (List.mem_of_getElem? (i := 149) (by decide +kernel)), by decide +kernel⟩
theorem k_im_Sb_init : Cond.instanceMethod y_Sb_init ∈ lwg := List.mem_filter.mpr ⟨List.mem_append_right _ (List.mem_of_getElem? (i := 150) (by decide +kernel)), by decide +kernel⟩
theorem k_code_Sb_init : Cond.code y_Sb_init b_Sb_init 1 (none) ∈ lwg := List.mem_filter.mpr ⟨List.mem_append_right _ (List.mem_of_getElem? (i := 151) (by decide +kernel)), by decide +kernel⟩
theorem k_ml_Sb_1 : Cond.methodLink "java/lang/StringBuilder" 1 y_As_init ∈ lwg := List.mem_filter.mpr ⟨List.mem_append_right _ (List.mem_of_getElem? (i := 152) (by decide +kernel)), by decide +kernel⟩
theorem k_im_As_init : Cond.instanceMethod y_As_init ∈ lwg := List.mem_filter.mpr ⟨List.mem_append_right _ (List.mem_of_getElem? (i := 153) (by decide +kernel)), by decide +kernel⟩
theorem k_code_As_init : Cond.code y_As_init b_As_init 2 (none) ∈ lwg := List.mem_filter.mpr ⟨List.mem_append_right _ (List.mem_of_getElem? (i := 154) (by decide +kernel)), by decide +kernel⟩
theorem k_ml_As_3 : Cond.methodLink "java/lang/AbstractStringBuilder" 3 y_Ob_init ∈ lwg := List.mem_filter.mpr ⟨List.mem_append_right _ (List.mem_of_getElem? (i := 155) (by decide +kernel)), by decide +kernel⟩
theorem k_fl_As_18 : Cond.fieldLink "java/lang/AbstractStringBuilder" 18 "java/lang/String" "COMPACT_STRINGS" "Z" ∈ lwg := List.mem_filter.mpr ⟨List.mem_append_right _ (List.mem_of_getElem? (i := 156) (by decide +kernel)), by decide +kernel⟩
theorem k_ml_As_26 : Cond.methodLink "java/lang/AbstractStringBuilder" 26 y_Su_newBytesFor ∈ lwg := List.mem_filter.mpr ⟨List.mem_append_right _ (List.mem_of_getElem? (i := 158) (by decide +kernel)), by decide +kernel⟩
theorem k_st_Su_newBytesFor : Cond.static y_Su_newBytesFor ∈ lwg := List.mem_filter.mpr ⟨List.mem_append_right _ (List.mem_of_getElem? (i := 159) (by decide +kernel)), by decide +kernel⟩
theorem k_code_Su_newBytesFor : Cond.code y_Su_newBytesFor b_Su_newBytesFor 1 ((some (.array .byte))) ∈ lwg := List.mem_filter.mpr ⟨List.mem_append_right _ (List.mem_of_getElem? (i := 160) (by decide +kernel)), by decide +kernel⟩
theorem k_ml_Su_11 : Cond.methodLink "java/lang/StringUTF16" 11 y_Su_newBytesLength ∈ lwg := List.mem_filter.mpr ⟨List.mem_append_right _ (List.mem_of_getElem? (i := 161) (by decide +kernel)), by decide +kernel⟩
theorem k_st_Su_newBytesLength : Cond.static y_Su_newBytesLength ∈ lwg := List.mem_filter.mpr ⟨List.mem_append_right _ (List.mem_of_getElem? (i := 162) (by decide +kernel)), by decide +kernel⟩
theorem k_code_Su_newBytesLength : Cond.code y_Su_newBytesLength b_Su_newBytesLength 1 ((some .int)) ∈ lwg := List.mem_filter.mpr ⟨List.mem_append_right _ (List.mem_of_getElem? (i := 163) (by decide +kernel)), by decide +kernel⟩
theorem k_cst_Su_20 : Cond.constant "java/lang/StringUTF16" 20 (1073741823) ∈ lwg := List.mem_filter.mpr ⟨List.mem_append_right _ (List.mem_of_getElem? (i := 164) (by decide +kernel)), by decide +kernel⟩
theorem k_fl_As_15 : Cond.fieldLink "java/lang/AbstractStringBuilder" 15 "java/lang/AbstractStringBuilder" "value" "[B" ∈ lwg := List.mem_filter.mpr ⟨List.mem_append_right _ (List.mem_of_getElem? (i := 165) (by decide +kernel)), by decide +kernel⟩
theorem k_fl_As_22 : Cond.fieldLink "java/lang/AbstractStringBuilder" 22 "java/lang/AbstractStringBuilder" "coder" "B" ∈ lwg := List.mem_filter.mpr ⟨List.mem_append_right _ (List.mem_of_getElem? (i := 166) (by decide +kernel)), by decide +kernel⟩
theorem k_fl_St_1048 : Cond.fieldLink "java/lang/String" 1048 "java/lang/AbstractStringBuilder" "maybeLatin1" "Z" ∈ lwg := List.mem_filter.mpr ⟨List.mem_append_right _ (List.mem_of_getElem? (i := 167) (by decide +kernel)), by decide +kernel⟩
theorem k_fl_As_79 : Cond.fieldLink "java/lang/AbstractStringBuilder" 79 "java/lang/AbstractStringBuilder" "count" "I" ∈ lwg := List.mem_filter.mpr ⟨List.mem_append_right _ (List.mem_of_getElem? (i := 168) (by decide +kernel)), by decide +kernel⟩
theorem k_ac_byte : Cond.arrayClass .byte ∈ lwg := List.mem_filter.mpr ⟨List.mem_append_right _ (List.mem_of_getElem? (i := 178) (by decide +kernel)), by decide +kernel⟩
theorem k_str_Ar_48 : Cond.stringRef "java/util/Arrays" 48 "fromIndex(" ∈ lw_tbl := List.mem_append_right _ (List.mem_of_getElem? (i := 179) (by decide +kernel))
theorem k_ml_Ar_50 : Cond.methodLink "java/util/Arrays" 50 y_Sb_append ∈ lwg := List.mem_filter.mpr ⟨List.mem_append_right _ (List.mem_of_getElem? (i := 180) (by decide +kernel)), by decide +kernel⟩
theorem k_im_Sb_append : Cond.instanceMethod y_Sb_append ∈ lwg := List.mem_filter.mpr ⟨List.mem_append_right _ (List.mem_of_getElem? (i := 181) (by decide +kernel)), by decide +kernel⟩
theorem k_sel_Sb_append : Cond.selects "java/lang/StringBuilder" y_Sb_append y_Sb_append ∈ lwg := List.mem_filter.mpr ⟨List.mem_append_right _ (List.mem_of_getElem? (i := 182) (by decide +kernel)), by decide +kernel⟩
theorem k_code_Sb_append : Cond.code y_Sb_append b_Sb_append 2 ((some (.object "java/lang/StringBuilder"))) ∈ lwg := List.mem_filter.mpr ⟨List.mem_append_right _ (List.mem_of_getElem? (i := 183) (by decide +kernel)), by decide +kernel⟩
theorem k_ml_Sb_29 : Cond.methodLink "java/lang/StringBuilder" 29 y_As_append ∈ lwg := List.mem_filter.mpr ⟨List.mem_append_right _ (List.mem_of_getElem? (i := 184) (by decide +kernel)), by decide +kernel⟩
theorem k_im_As_append : Cond.instanceMethod y_As_append ∈ lwg := List.mem_filter.mpr ⟨List.mem_append_right _ (List.mem_of_getElem? (i := 185) (by decide +kernel)), by decide +kernel⟩
theorem k_code_As_append : Cond.code y_As_append b_As_append 3 ((some (.object "java/lang/AbstractStringBuilder"))) ∈ lwg := List.mem_filter.mpr ⟨List.mem_append_right _ (List.mem_of_getElem? (i := 186) (by decide +kernel)), by decide +kernel⟩
theorem k_ml_As_204 : Cond.methodLink "java/lang/AbstractStringBuilder" 204 y_As_appendNull ∈ lwg := List.mem_filter.mpr ⟨List.mem_append_right _ (List.mem_of_getElem? (i := 187) (by decide +kernel)), by decide +kernel⟩
theorem k_im_As_appendNull : Cond.instanceMethod y_As_appendNull ∈ lwg := List.mem_filter.mpr ⟨List.mem_append_right _ (List.mem_of_getElem? (i := 189) (by decide +kernel)), by decide +kernel⟩
theorem k_code_As_appendNull : Cond.code y_As_appendNull b_As_appendNull 3 ((some (.object "java/lang/AbstractStringBuilder"))) ∈ lwg := List.mem_filter.mpr ⟨List.mem_append_right _ (List.mem_of_getElem? (i := 190) (by decide +kernel)), by decide +kernel⟩
theorem k_ml_As_100 : Cond.methodLink "java/lang/AbstractStringBuilder" 100 y_As_ensureCapacityInternal ∈ lwg := List.mem_filter.mpr ⟨List.mem_append_right _ (List.mem_of_getElem? (i := 191) (by decide +kernel)), by decide +kernel⟩
theorem k_im_As_ensureCapacityInternal : Cond.instanceMethod y_As_ensureCapacityInternal ∈ lwg := List.mem_filter.mpr ⟨List.mem_append_right _ (List.mem_of_getElem? (i := 193) (by decide +kernel)), by decide +kernel⟩
theorem k_code_As_ensureCapacityInternal : Cond.code y_As_ensureCapacityInternal b_As_ensureCapacityInternal 3 (none) ∈ lwg := List.mem_filter.mpr ⟨List.mem_append_right _ (List.mem_of_getElem? (i := 194) (by decide +kernel)), by decide +kernel⟩
theorem k_ml_As_104 : Cond.methodLink "java/lang/AbstractStringBuilder" 104 y_As_newCapacity ∈ lwg := List.mem_filter.mpr ⟨List.mem_append_right _ (List.mem_of_getElem? (i := 195) (by decide +kernel)), by decide +kernel⟩
theorem k_im_As_newCapacity : Cond.instanceMethod y_As_newCapacity ∈ lwg := List.mem_filter.mpr ⟨List.mem_append_right _ (List.mem_of_getElem? (i := 197) (by decide +kernel)), by decide +kernel⟩
theorem k_code_As_newCapacity : Cond.code y_As_newCapacity b_As_newCapacity 6 ((some .int)) ∈ lwg := List.mem_filter.mpr ⟨List.mem_append_right _ (List.mem_of_getElem? (i := 198) (by decide +kernel)), by decide +kernel⟩
theorem k_ml_As_114 : Cond.methodLink "java/lang/AbstractStringBuilder" 114 y_Au_newLength ∈ lwg := List.mem_filter.mpr ⟨List.mem_append_right _ (List.mem_of_getElem? (i := 199) (by decide +kernel)), by decide +kernel⟩
theorem k_st_Au_newLength : Cond.static y_Au_newLength ∈ lwg := List.mem_filter.mpr ⟨List.mem_append_right _ (List.mem_of_getElem? (i := 200) (by decide +kernel)), by decide +kernel⟩
theorem k_code_Au_newLength : Cond.code y_Au_newLength b_Au_newLength 4 ((some .int)) ∈ lwg := List.mem_filter.mpr ⟨List.mem_append_right _ (List.mem_of_getElem? (i := 201) (by decide +kernel)), by decide +kernel⟩
theorem k_ml_Au_194 : Cond.methodLink "jdk/internal/util/ArraysSupport" 194 y_Mt_max ∈ lwg := List.mem_filter.mpr ⟨List.mem_append_right _ (List.mem_of_getElem? (i := 202) (by decide +kernel)), by decide +kernel⟩
theorem k_st_Mt_max : Cond.static y_Mt_max ∈ lwg := List.mem_filter.mpr ⟨List.mem_append_right _ (List.mem_of_getElem? (i := 203) (by decide +kernel)), by decide +kernel⟩
theorem k_code_Mt_max : Cond.code y_Mt_max b_Mt_max 2 ((some .int)) ∈ lwg := List.mem_filter.mpr ⟨List.mem_append_right _ (List.mem_of_getElem? (i := 204) (by decide +kernel)), by decide +kernel⟩
theorem k_cst_Au_200 : Cond.constant "jdk/internal/util/ArraysSupport" 200 (2147483639) ∈ lwg := List.mem_filter.mpr ⟨List.mem_append_right _ (List.mem_of_getElem? (i := 205) (by decide +kernel)), by decide +kernel⟩
theorem k_ml_Au_201 : Cond.methodLink "jdk/internal/util/ArraysSupport" 201 y_Au_hugeLength ∈ lwg := List.mem_filter.mpr ⟨List.mem_append_right _ (List.mem_of_getElem? (i := 206) (by decide +kernel)), by decide +kernel⟩
theorem k_st_Au_hugeLength : Cond.static y_Au_hugeLength ∈ lwg := List.mem_filter.mpr ⟨List.mem_append_right _ (List.mem_of_getElem? (i := 207) (by decide +kernel)), by decide +kernel⟩
theorem k_code_Au_hugeLength : Cond.code y_Au_hugeLength b_Au_hugeLength 3 ((some .int)) ∈ lwg := List.mem_filter.mpr ⟨List.mem_append_right _ (List.mem_of_getElem? (i := 208) (by decide +kernel)), by decide +kernel⟩
theorem k_cst_As_39 : Cond.constant "java/lang/AbstractStringBuilder" 39 (2147483647) ∈ lwg := List.mem_filter.mpr ⟨List.mem_append_right _ (List.mem_of_getElem? (i := 209) (by decide +kernel)), by decide +kernel⟩
theorem k_ml_As_108 : Cond.methodLink "java/lang/AbstractStringBuilder" 108 y_Ar_copyOf ∈ lwg := List.mem_filter.mpr ⟨List.mem_append_right _ (List.mem_of_getElem? (i := 210) (by decide +kernel)), by decide +kernel⟩
theorem k_st_Ar_copyOf : Cond.static y_Ar_copyOf ∈ lwg := List.mem_filter.mpr ⟨List.mem_append_right _ (List.mem_of_getElem? (i := 211) (by decide +kernel)), by decide +kernel⟩
theorem k_code_Ar_copyOf : Cond.code y_Ar_copyOf b_Ar_copyOf 3 ((some (.array .byte))) ∈ lwg := List.mem_filter.mpr ⟨List.mem_append_right _ (List.mem_of_getElem? (i := 212) (by decide +kernel)), by decide +kernel⟩
theorem k_ml_Ar_310 : Cond.methodLink "java/util/Arrays" 310 y_B_clone ∈ lwg := List.mem_filter.mpr ⟨List.mem_append_right _ (List.mem_of_getElem? (i := 213) (by decide +kernel)), by decide +kernel⟩
theorem k_nt_Ob_clone : Cond.native y_Ob_clone ∈ lwg := List.mem_filter.mpr ⟨List.mem_append_right _ (List.mem_of_getElem? (i := 215) (by decide +kernel)), by decide +kernel⟩
theorem k_im_Ob_clone : Cond.instanceMethod y_Ob_clone ∈ lwg := List.mem_filter.mpr ⟨List.mem_append_right _ (List.mem_of_getElem? (i := 216) (by decide +kernel)), by decide +kernel⟩
theorem k_sel_B_B_clone : Cond.selects "[B" y_B_clone y_Ob_clone ∈ lwg := List.mem_filter.mpr ⟨List.mem_append_right _ (List.mem_of_getElem? (i := 217) (by decide +kernel)), by decide +kernel⟩
theorem k_cl_Ar_311 : Cond.classLink "java/util/Arrays" 311 "[B" ∈ lwg := List.mem_filter.mpr ⟨List.mem_append_right _ (List.mem_of_getElem? (i := 219) (by decide +kernel)), by decide +kernel⟩
theorem k_ml_Ar_304 : Cond.methodLink "java/util/Arrays" 304 y_Mt_min ∈ lwg := List.mem_filter.mpr ⟨List.mem_append_right _ (List.mem_of_getElem? (i := 220) (by decide +kernel)), by decide +kernel⟩
theorem k_st_Mt_min : Cond.static y_Mt_min ∈ lwg := List.mem_filter.mpr ⟨List.mem_append_right _ (List.mem_of_getElem? (i := 221) (by decide +kernel)), by decide +kernel⟩
theorem k_code_Mt_min : Cond.code y_Mt_min b_Mt_min 2 ((some .int)) ∈ lwg := List.mem_filter.mpr ⟨List.mem_append_right _ (List.mem_of_getElem? (i := 222) (by decide +kernel)), by decide +kernel⟩
theorem k_ml_Ar_150 : Cond.methodLink "java/util/Arrays" 150 y_Sy_arraycopy ∈ lwg := List.mem_filter.mpr ⟨List.mem_append_right _ (List.mem_of_getElem? (i := 223) (by decide +kernel)), by decide +kernel⟩
theorem k_ml_As_83 : Cond.methodLink "java/lang/AbstractStringBuilder" 83 y_As_isLatin1 ∈ lwg := List.mem_filter.mpr ⟨List.mem_append_right _ (List.mem_of_getElem? (i := 224) (by decide +kernel)), by decide +kernel⟩
theorem k_im_As_isLatin1 : Cond.instanceMethod y_As_isLatin1 ∈ lwg := List.mem_filter.mpr ⟨List.mem_append_right _ (List.mem_of_getElem? (i := 225) (by decide +kernel)), by decide +kernel⟩
theorem k_sel_Sb_As_isLatin1 : Cond.selects "java/lang/StringBuilder" y_As_isLatin1 y_As_isLatin1 ∈ lwg := List.mem_filter.mpr ⟨List.mem_append_right _ (List.mem_of_getElem? (i := 227) (by decide +kernel)), by decide +kernel⟩
theorem k_code_As_isLatin1 : Cond.code y_As_isLatin1 b_As_isLatin1 1 ((some .boolean)) ∈ lwg := List.mem_filter.mpr ⟨List.mem_append_right _ (List.mem_of_getElem? (i := 228) (by decide +kernel)), by decide +kernel⟩
theorem k_ml_As_226 : Cond.methodLink "java/lang/AbstractStringBuilder" 226 y_Su_putCharsAt ∈ lwg := List.mem_filter.mpr ⟨List.mem_append_right _ (List.mem_of_getElem? (i := 229) (by decide +kernel)), by decide +kernel⟩
theorem k_st_Su_putCharsAt : Cond.static y_Su_putCharsAt ∈ lwg := List.mem_filter.mpr ⟨List.mem_append_right _ (List.mem_of_getElem? (i := 230) (by decide +kernel)), by decide +kernel⟩
theorem k_code_Su_putCharsAt : Cond.code y_Su_putCharsAt b_Su_putCharsAt 7 ((some .int)) ∈ lwg := List.mem_filter.mpr ⟨List.mem_append_right _ (List.mem_of_getElem? (i := 231) (by decide +kernel)), by decide +kernel⟩
theorem k_ml_Su_96 : Cond.methodLink "java/lang/StringUTF16" 96 y_Su_checkBoundsBeginEnd ∈ lwg := List.mem_filter.mpr ⟨List.mem_append_right _ (List.mem_of_getElem? (i := 232) (by decide +kernel)), by decide +kernel⟩
theorem k_st_Su_checkBoundsBeginEnd : Cond.static y_Su_checkBoundsBeginEnd ∈ lwg := List.mem_filter.mpr ⟨List.mem_append_right _ (List.mem_of_getElem? (i := 233) (by decide +kernel)), by decide +kernel⟩
theorem k_code_Su_checkBoundsBeginEnd : Cond.code y_Su_checkBoundsBeginEnd b_Su_checkBoundsBeginEnd 3 (none) ∈ lwg := List.mem_filter.mpr ⟨List.mem_append_right _ (List.mem_of_getElem? (i := 234) (by decide +kernel)), by decide +kernel⟩
theorem k_ml_Su_48 : Cond.methodLink "java/lang/StringUTF16" 48 y_Su_length ∈ lwg := List.mem_filter.mpr ⟨List.mem_append_right _ (List.mem_of_getElem? (i := 235) (by decide +kernel)), by decide +kernel⟩
theorem k_st_Su_length : Cond.static y_Su_length ∈ lwg := List.mem_filter.mpr ⟨List.mem_append_right _ (List.mem_of_getElem? (i := 236) (by decide +kernel)), by decide +kernel⟩
theorem k_code_Su_length : Cond.code y_Su_length b_Su_length 1 ((some .int)) ∈ lwg := List.mem_filter.mpr ⟨List.mem_append_right _ (List.mem_of_getElem? (i := 237) (by decide +kernel)), by decide +kernel⟩
theorem k_ml_Su_241 : Cond.methodLink "java/lang/StringUTF16" 241 y_St_checkBoundsBeginEnd ∈ lwg := List.mem_filter.mpr ⟨List.mem_append_right _ (List.mem_of_getElem? (i := 238) (by decide +kernel)), by decide +kernel⟩
theorem k_st_St_checkBoundsBeginEnd : Cond.static y_St_checkBoundsBeginEnd ∈ lwg := List.mem_filter.mpr ⟨List.mem_append_right _ (List.mem_of_getElem? (i := 239) (by decide +kernel)), by decide +kernel⟩
theorem k_code_St_checkBoundsBeginEnd : Cond.code y_St_checkBoundsBeginEnd b_St_checkBoundsBeginEnd 3 (none) ∈ lwg := List.mem_filter.mpr ⟨List.mem_append_right _ (List.mem_of_getElem? (i := 240) (by decide +kernel)), by decide +kernel⟩
theorem k_fl_St_1053 : Cond.fieldLink "java/lang/String" 1053 "jdk/internal/util/Preconditions" "SIOOBE_FORMATTER" "Ljava/util/function/BiFunction;" ∈ lwg := List.mem_filter.mpr ⟨List.mem_append_right _ (List.mem_of_getElem? (i := 241) (by decide +kernel)), by decide +kernel⟩
theorem k_ml_St_1062 : Cond.methodLink "java/lang/String" 1062 y_Pc_checkFromToIndex ∈ lwg := List.mem_filter.mpr ⟨List.mem_append_right _ (List.mem_of_getElem? (i := 243) (by decide +kernel)), by decide +kernel⟩
theorem k_st_Pc_checkFromToIndex : Cond.static y_Pc_checkFromToIndex ∈ lwg := List.mem_filter.mpr ⟨List.mem_append_right _ (List.mem_of_getElem? (i := 244) (by decide +kernel)), by decide +kernel⟩
theorem k_code_Pc_checkFromToIndex : Cond.code y_Pc_checkFromToIndex b_Pc_checkFromToIndex 4 ((some .int)) ∈ lwg := List.mem_filter.mpr ⟨List.mem_append_right _ (List.mem_of_getElem? (i := 245) (by decide +kernel)), by decide +kernel⟩
theorem k_ml_Su_111 : Cond.methodLink "java/lang/StringUTF16" 111 y_Su_putChar ∈ lwg := List.mem_filter.mpr ⟨List.mem_append_right _ (List.mem_of_getElem? (i := 246) (by decide +kernel)), by decide +kernel⟩
theorem k_st_Su_putChar : Cond.static y_Su_putChar ∈ lwg := List.mem_filter.mpr ⟨List.mem_append_right _ (List.mem_of_getElem? (i := 247) (by decide +kernel)), by decide +kernel⟩
theorem k_code_Su_putChar : Cond.code y_Su_putChar b_Su_putChar 3 (none) ∈ lwg := List.mem_filter.mpr ⟨List.mem_append_right _ (List.mem_of_getElem? (i := 248) (by decide +kernel)), by decide +kernel⟩
theorem k_fl_Su_44 : Cond.fieldLink "java/lang/StringUTF16" 44 "java/lang/StringUTF16" "$assertionsDisabled" "Z" ∈ lwg := List.mem_filter.mpr ⟨List.mem_append_right _ (List.mem_of_getElem? (i := 249) (by decide +kernel)), by decide +kernel⟩
theorem k_fl_Su_59 : Cond.fieldLink "java/lang/StringUTF16" 59 "java/lang/StringUTF16" "HI_BYTE_SHIFT" "I" ∈ lwg := List.mem_filter.mpr ⟨List.mem_append_right _ (List.mem_of_getElem? (i := 251) (by decide +kernel)), by decide +kernel⟩
theorem k_fl_Su_63 : Cond.fieldLink "java/lang/StringUTF16" 63 "java/lang/StringUTF16" "LO_BYTE_SHIFT" "I" ∈ lwg := List.mem_filter.mpr ⟨List.mem_append_right _ (List.mem_of_getElem? (i := 253) (by decide +kernel)), by decide +kernel⟩
theorem k_ml_As_32 : Cond.methodLink "java/lang/AbstractStringBuilder" 32 y_St_length ∈ lwg := List.mem_filter.mpr ⟨List.mem_append_right _ (List.mem_of_getElem? (i := 255) (by decide +kernel)), by decide +kernel⟩
theorem k_im_St_length : Cond.instanceMethod y_St_length ∈ lwg := List.mem_filter.mpr ⟨List.mem_append_right _ (List.mem_of_getElem? (i := 256) (by decide +kernel)), by decide +kernel⟩
theorem k_sel_St_length : Cond.selects "java/lang/String" y_St_length y_St_length ∈ lwg := List.mem_filter.mpr ⟨List.mem_append_right _ (List.mem_of_getElem? (i := 257) (by decide +kernel)), by decide +kernel⟩
theorem k_code_St_length : Cond.code y_St_length b_St_length 1 ((some .int)) ∈ lwg := List.mem_filter.mpr ⟨List.mem_append_right _ (List.mem_of_getElem? (i := 258) (by decide +kernel)), by decide +kernel⟩
theorem k_ml_St_335 : Cond.methodLink "java/lang/String" 335 y_St_coder ∈ lwg := List.mem_filter.mpr ⟨List.mem_append_right _ (List.mem_of_getElem? (i := 259) (by decide +kernel)), by decide +kernel⟩
theorem k_im_St_coder : Cond.instanceMethod y_St_coder ∈ lwg := List.mem_filter.mpr ⟨List.mem_append_right _ (List.mem_of_getElem? (i := 260) (by decide +kernel)), by decide +kernel⟩
theorem k_sel_St_coder : Cond.selects "java/lang/String" y_St_coder y_St_coder ∈ lwg := List.mem_filter.mpr ⟨List.mem_append_right _ (List.mem_of_getElem? (i := 261) (by decide +kernel)), by decide +kernel⟩
theorem k_code_St_coder : Cond.code y_St_coder b_St_coder 1 ((some .byte)) ∈ lwg := List.mem_filter.mpr ⟨List.mem_append_right _ (List.mem_of_getElem? (i := 262) (by decide +kernel)), by decide +kernel⟩
theorem k_fl_St_38 : Cond.fieldLink "java/lang/String" 38 "java/lang/String" "COMPACT_STRINGS" "Z" ∈ lwg := List.mem_filter.mpr ⟨List.mem_append_right _ (List.mem_of_getElem? (i := 263) (by decide +kernel)), by decide +kernel⟩
theorem k_ml_As_208 : Cond.methodLink "java/lang/AbstractStringBuilder" 208 y_As_putStringAt ∈ lwg := List.mem_filter.mpr ⟨List.mem_append_right _ (List.mem_of_getElem? (i := 264) (by decide +kernel)), by decide +kernel⟩
theorem k_im_As_putStringAt : Cond.instanceMethod y_As_putStringAt ∈ lwg := List.mem_filter.mpr ⟨List.mem_append_right _ (List.mem_of_getElem? (i := 266) (by decide +kernel)), by decide +kernel⟩
theorem k_code_As_putStringAt : Cond.code y_As_putStringAt b_As_putStringAt 3 (none) ∈ lwg := List.mem_filter.mpr ⟨List.mem_append_right _ (List.mem_of_getElem? (i := 267) (by decide +kernel)), by decide +kernel⟩
theorem k_ml_As_397 : Cond.methodLink "java/lang/AbstractStringBuilder" 397 y_As_inflateIfNeededFor ∈ lwg := List.mem_filter.mpr ⟨List.mem_append_right _ (List.mem_of_getElem? (i := 268) (by decide +kernel)), by decide +kernel⟩
theorem k_im_As_inflateIfNeededFor : Cond.instanceMethod y_As_inflateIfNeededFor ∈ lwg := List.mem_filter.mpr ⟨List.mem_append_right _ (List.mem_of_getElem? (i := 270) (by decide +kernel)), by decide +kernel⟩
theorem k_code_As_inflateIfNeededFor : Cond.code y_As_inflateIfNeededFor b_As_inflateIfNeededFor 2 (none) ∈ lwg := List.mem_filter.mpr ⟨List.mem_append_right _ (List.mem_of_getElem? (i := 271) (by decide +kernel)), by decide +kernel⟩
theorem k_ml_As_40 : Cond.methodLink "java/lang/AbstractStringBuilder" 40 y_St_coder ∈ lwg := List.mem_filter.mpr ⟨List.mem_append_right _ (List.mem_of_getElem? (i := 272) (by decide +kernel)), by decide +kernel⟩
theorem k_ml_As_195 : Cond.methodLink "java/lang/AbstractStringBuilder" 195 y_As_inflate ∈ lwg := List.mem_filter.mpr ⟨List.mem_append_right _ (List.mem_of_getElem? (i := 273) (by decide +kernel)), by decide +kernel⟩
theorem k_im_As_inflate : Cond.instanceMethod y_As_inflate ∈ lwg := List.mem_filter.mpr ⟨List.mem_append_right _ (List.mem_of_getElem? (i := 275) (by decide +kernel)), by decide +kernel⟩
theorem k_code_As_inflate : Cond.code y_As_inflate b_As_inflate 2 (none) ∈ lwg := List.mem_filter.mpr ⟨List.mem_append_right _ (List.mem_of_getElem? (i := 276) (by decide +kernel)), by decide +kernel⟩
theorem k_ml_As_125 : Cond.methodLink "java/lang/AbstractStringBuilder" 125 y_Sl_inflate ∈ lwg := List.mem_filter.mpr ⟨List.mem_append_right _ (List.mem_of_getElem? (i := 277) (by decide +kernel)), by decide +kernel⟩
theorem k_st_Sl_inflate : Cond.static y_Sl_inflate ∈ lwg := List.mem_filter.mpr ⟨List.mem_append_right _ (List.mem_of_getElem? (i := 278) (by decide +kernel)), by decide +kernel⟩
theorem k_code_Sl_inflate : Cond.code y_Sl_inflate b_Sl_inflate 5 (none) ∈ lwg := List.mem_filter.mpr ⟨List.mem_append_right _ (List.mem_of_getElem? (i := 279) (by decide +kernel)), by decide +kernel⟩
theorem k_ml_Sl_240 : Cond.methodLink "java/lang/StringLatin1" 240 y_Su_inflate ∈ lwg := List.mem_filter.mpr ⟨List.mem_append_right _ (List.mem_of_getElem? (i := 280) (by decide +kernel)), by decide +kernel⟩
theorem k_st_Su_inflate : Cond.static y_Su_inflate ∈ lwg := List.mem_filter.mpr ⟨List.mem_append_right _ (List.mem_of_getElem? (i := 281) (by decide +kernel)), by decide +kernel⟩
theorem k_code_Su_inflate : Cond.code y_Su_inflate b_Su_inflate 6 (none) ∈ lwg := List.mem_filter.mpr ⟨List.mem_append_right _ (List.mem_of_getElem? (i := 282) (by decide +kernel)), by decide +kernel⟩
theorem k_ml_Su_173 : Cond.methodLink "java/lang/StringUTF16" 173 y_Su_checkBoundsOffCount ∈ lwg := List.mem_filter.mpr ⟨List.mem_append_right _ (List.mem_of_getElem? (i := 283) (by decide +kernel)), by decide +kernel⟩
theorem k_st_Su_checkBoundsOffCount : Cond.static y_Su_checkBoundsOffCount ∈ lwg := List.mem_filter.mpr ⟨List.mem_append_right _ (List.mem_of_getElem? (i := 284) (by decide +kernel)), by decide +kernel⟩
theorem k_code_Su_checkBoundsOffCount : Cond.code y_Su_checkBoundsOffCount b_Su_checkBoundsOffCount 3 (none) ∈ lwg := List.mem_filter.mpr ⟨List.mem_append_right _ (List.mem_of_getElem? (i := 285) (by decide +kernel)), by decide +kernel⟩
theorem k_ml_Su_419 : Cond.methodLink "java/lang/StringUTF16" 419 y_St_checkBoundsOffCount ∈ lwg := List.mem_filter.mpr ⟨List.mem_append_right _ (List.mem_of_getElem? (i := 286) (by decide +kernel)), by decide +kernel⟩
theorem k_st_St_checkBoundsOffCount : Cond.static y_St_checkBoundsOffCount ∈ lwg := List.mem_filter.mpr ⟨List.mem_append_right _ (List.mem_of_getElem? (i := 287) (by decide +kernel)), by decide +kernel⟩
theorem k_code_St_checkBoundsOffCount : Cond.code y_St_checkBoundsOffCount b_St_checkBoundsOffCount 3 ((some .int)) ∈ lwg := List.mem_filter.mpr ⟨List.mem_append_right _ (List.mem_of_getElem? (i := 288) (by decide +kernel)), by decide +kernel⟩
theorem k_ml_St_1065 : Cond.methodLink "java/lang/String" 1065 y_Pc_checkFromIndexSize ∈ lwg := List.mem_filter.mpr ⟨List.mem_append_right _ (List.mem_of_getElem? (i := 289) (by decide +kernel)), by decide +kernel⟩
theorem k_st_Pc_checkFromIndexSize : Cond.static y_Pc_checkFromIndexSize ∈ lwg := List.mem_filter.mpr ⟨List.mem_append_right _ (List.mem_of_getElem? (i := 290) (by decide +kernel)), by decide +kernel⟩
theorem k_code_Pc_checkFromIndexSize : Cond.code y_Pc_checkFromIndexSize b_Pc_checkFromIndexSize 4 ((some .int)) ∈ lwg := List.mem_filter.mpr ⟨List.mem_append_right _ (List.mem_of_getElem? (i := 291) (by decide +kernel)), by decide +kernel⟩
theorem k_ml_As_399 : Cond.methodLink "java/lang/AbstractStringBuilder" 399 y_St_getBytes ∈ lwg := List.mem_filter.mpr ⟨List.mem_append_right _ (List.mem_of_getElem? (i := 292) (by decide +kernel)), by decide +kernel⟩
theorem k_im_St_getBytes : Cond.instanceMethod y_St_getBytes ∈ lwg := List.mem_filter.mpr ⟨List.mem_append_right _ (List.mem_of_getElem? (i := 293) (by decide +kernel)), by decide +kernel⟩
theorem k_sel_St_getBytes : Cond.selects "java/lang/String" y_St_getBytes y_St_getBytes ∈ lwg := List.mem_filter.mpr ⟨List.mem_append_right _ (List.mem_of_getElem? (i := 294) (by decide +kernel)), by decide +kernel⟩
theorem k_code_St_getBytes : Cond.code y_St_getBytes b_St_getBytes 4 (none) ∈ lwg := List.mem_filter.mpr ⟨List.mem_append_right _ (List.mem_of_getElem? (i := 295) (by decide +kernel)), by decide +kernel⟩
theorem k_ml_St_212 : Cond.methodLink "java/lang/String" 212 y_Sy_arraycopy ∈ lwg := List.mem_filter.mpr ⟨List.mem_append_right _ (List.mem_of_getElem? (i := 296) (by decide +kernel)), by decide +kernel⟩
theorem k_ml_St_106 : Cond.methodLink "java/lang/String" 106 y_Sl_inflate ∈ lwg := List.mem_filter.mpr ⟨List.mem_append_right _ (List.mem_of_getElem? (i := 297) (by decide +kernel)), by decide +kernel⟩
theorem k_ml_Ar_54 : Cond.methodLink "java/util/Arrays" 54 y_Sb_append2 ∈ lwg := List.mem_filter.mpr ⟨List.mem_append_right _ (List.mem_of_getElem? (i := 298) (by decide +kernel)), by decide +kernel⟩
theorem k_im_Sb_append2 : Cond.instanceMethod y_Sb_append2 ∈ lwg := List.mem_filter.mpr ⟨List.mem_append_right _ (List.mem_of_getElem? (i := 299) (by decide +kernel)), by decide +kernel⟩
theorem k_sel_Sb_append2 : Cond.selects "java/lang/StringBuilder" y_Sb_append2 y_Sb_append2 ∈ lwg := List.mem_filter.mpr ⟨List.mem_append_right _ (List.mem_of_getElem? (i := 300) (by decide +kernel)), by decide +kernel⟩
theorem k_code_Sb_append2 : Cond.code y_Sb_append2 b_Sb_append2 2 ((some (.object "java/lang/StringBuilder"))) ∈ lwg := List.mem_filter.mpr ⟨List.mem_append_right _ (List.mem_of_getElem? (i := 301) (by decide +kernel)), by decide +kernel⟩
theorem k_ml_Sb_53 : Cond.methodLink "java/lang/StringBuilder" 53 y_As_append2 ∈ lwg := List.mem_filter.mpr ⟨List.mem_append_right _ (List.mem_of_getElem? (i := 302) (by decide +kernel)), by decide +kernel⟩
theorem k_im_As_append2 : Cond.instanceMethod y_As_append2 ∈ lwg := List.mem_filter.mpr ⟨List.mem_append_right _ (List.mem_of_getElem? (i := 303) (by decide +kernel)), by decide +kernel⟩
theorem k_code_As_append2 : Cond.code y_As_append2 b_As_append2 4 ((some (.object "java/lang/AbstractStringBuilder"))) ∈ lwg := List.mem_filter.mpr ⟨List.mem_append_right _ (List.mem_of_getElem? (i := 304) (by decide +kernel)), by decide +kernel⟩
theorem k_ml_As_245 : Cond.methodLink "java/lang/AbstractStringBuilder" 245 y_In_stringSize ∈ lwg := List.mem_filter.mpr ⟨List.mem_append_right _ (List.mem_of_getElem? (i := 305) (by decide +kernel)), by decide +kernel⟩
theorem k_st_In_stringSize : Cond.static y_In_stringSize ∈ lwg := List.mem_filter.mpr ⟨List.mem_append_right _ (List.mem_of_getElem? (i := 306) (by decide +kernel)), by decide +kernel⟩
theorem k_code_In_stringSize : Cond.code y_In_stringSize b_In_stringSize 4 ((some .int)) ∈ lwg := List.mem_filter.mpr ⟨List.mem_append_right _ (List.mem_of_getElem? (i := 307) (by decide +kernel)), by decide +kernel⟩
theorem k_ml_As_248 : Cond.methodLink "java/lang/AbstractStringBuilder" 248 y_In_getChars ∈ lwg := List.mem_filter.mpr ⟨List.mem_append_right _ (List.mem_of_getElem? (i := 308) (by decide +kernel)), by decide +kernel⟩
theorem k_st_In_getChars : Cond.static y_In_getChars ∈ lwg := List.mem_filter.mpr ⟨List.mem_append_right _ (List.mem_of_getElem? (i := 309) (by decide +kernel)), by decide +kernel⟩
theorem k_code_In_getChars : Cond.code y_In_getChars b_In_getChars 7 ((some .int)) ∈ lwg := List.mem_filter.mpr ⟨List.mem_append_right _ (List.mem_of_getElem? (i := 310) (by decide +kernel)), by decide +kernel⟩
theorem k_fl_In_83 : Cond.fieldLink "java/lang/Integer" 83 "java/lang/Integer" "DigitOnes" "[B" ∈ lwg := List.mem_filter.mpr ⟨List.mem_append_right _ (List.mem_of_getElem? (i := 311) (by decide +kernel)), by decide +kernel⟩
theorem k_fl_In_87 : Cond.fieldLink "java/lang/Integer" 87 "java/lang/Integer" "DigitTens" "[B" ∈ lwg := List.mem_filter.mpr ⟨List.mem_append_right _ (List.mem_of_getElem? (i := 313) (by decide +kernel)), by decide +kernel⟩
theorem k_ml_As_251 : Cond.methodLink "java/lang/AbstractStringBuilder" 251 y_Su_getChars ∈ lwg := List.mem_filter.mpr ⟨List.mem_append_right _ (List.mem_of_getElem? (i := 315) (by decide +kernel)), by decide +kernel⟩
theorem k_st_Su_getChars : Cond.static y_Su_getChars ∈ lwg := List.mem_filter.mpr ⟨List.mem_append_right _ (List.mem_of_getElem? (i := 316) (by decide +kernel)), by decide +kernel⟩
theorem k_code_Su_getChars : Cond.code y_Su_getChars b_Su_getChars 5 ((some .int)) ∈ lwg := List.mem_filter.mpr ⟨List.mem_append_right _ (List.mem_of_getElem? (i := 317) (by decide +kernel)), by decide +kernel⟩
theorem k_ml_Su_393 : Cond.methodLink "java/lang/StringUTF16" 393 y_Su_getChars2 ∈ lwg := List.mem_filter.mpr ⟨List.mem_append_right _ (List.mem_of_getElem? (i := 318) (by decide +kernel)), by decide +kernel⟩
theorem k_st_Su_getChars2 : Cond.static y_Su_getChars2 ∈ lwg := List.mem_filter.mpr ⟨List.mem_append_right _ (List.mem_of_getElem? (i := 319) (by decide +kernel)), by decide +kernel⟩
theorem k_code_Su_getChars2 : Cond.code y_Su_getChars2 b_Su_getChars2 7 ((some .int)) ∈ lwg := List.mem_filter.mpr ⟨List.mem_append_right _ (List.mem_of_getElem? (i := 320) (by decide +kernel)), by decide +kernel⟩
theorem k_fl_Su_403 : Cond.fieldLink "java/lang/StringUTF16" 403 "java/lang/Integer" "DigitOnes" "[B" ∈ lwg := List.mem_filter.mpr ⟨List.mem_append_right _ (List.mem_of_getElem? (i := 321) (by decide +kernel)), by decide +kernel⟩
theorem k_fl_Su_407 : Cond.fieldLink "java/lang/StringUTF16" 407 "java/lang/Integer" "DigitTens" "[B" ∈ lwg := List.mem_filter.mpr ⟨List.mem_append_right _ (List.mem_of_getElem? (i := 322) (by decide +kernel)), by decide +kernel⟩
theorem k_str_Ar_57 : Cond.stringRef "java/util/Arrays" 57 ") > toIndex(" ∈ lw_tbl := List.mem_append_right _ (List.mem_of_getElem? (i := 323) (by decide +kernel))
theorem k_str_Ar_59 : Cond.stringRef "java/util/Arrays" 59 ")" ∈ lw_tbl := List.mem_append_right _ (List.mem_of_getElem? (i := 324) (by decide +kernel))
theorem k_ml_Ar_61 : Cond.methodLink "java/util/Arrays" 61 y_Sb_toString ∈ lwg := List.mem_filter.mpr ⟨List.mem_append_right _ (List.mem_of_getElem? (i := 325) (by decide +kernel)), by decide +kernel⟩
theorem k_im_Sb_toString : Cond.instanceMethod y_Sb_toString ∈ lwg := List.mem_filter.mpr ⟨List.mem_append_right _ (List.mem_of_getElem? (i := 326) (by decide +kernel)), by decide +kernel⟩
theorem k_sel_Sb_toString : Cond.selects "java/lang/StringBuilder" y_Sb_toString y_Sb_toString ∈ lwg := List.mem_filter.mpr ⟨List.mem_append_right _ (List.mem_of_getElem? (i := 327) (by decide +kernel)), by decide +kernel⟩
theorem k_code_Sb_toString : Cond.code y_Sb_toString b_Sb_toString 1 ((some (.object "java/lang/String"))) ∈ lwg := List.mem_filter.mpr ⟨List.mem_append_right _ (List.mem_of_getElem? (i := 328) (by decide +kernel)), by decide +kernel⟩
theorem k_cl_Sb_18 : Cond.classLink "java/lang/StringBuilder" 18 "java/lang/String" ∈ lwg := List.mem_filter.mpr ⟨List.mem_append_right _ (List.mem_of_getElem? (i := 329) (by decide +kernel)), by decide +kernel⟩
theorem k_in_St : Cond.instantiable "java/lang/String" 4 ∈ lwg := List.mem_filter.mpr ⟨List.mem_append_right _ (List.mem_of_getElem? (i := 330) (by decide +kernel)), by decide +kernel⟩
theorem k_ml_Sb_137 : Cond.methodLink "java/lang/StringBuilder" 137 y_St_init ∈ lwg := List.mem_filter.mpr ⟨List.mem_append_right _ (List.mem_of_getElem? (i := 331) (by decide +kernel)), by decide +kernel⟩
theorem k_im_St_init : Cond.instanceMethod y_St_init ∈ lwg := List.mem_filter.mpr ⟨List.mem_append_right _ (List.mem_of_getElem? (i := 332) (by decide +kernel)), by decide +kernel⟩
theorem k_code_St_init : Cond.code y_St_init b_St_init 2 (none) ∈ lwg := List.mem_filter.mpr ⟨List.mem_append_right _ (List.mem_of_getElem? (i := 333) (by decide +kernel)), by decide +kernel⟩
theorem k_ml_St_489 : Cond.methodLink "java/lang/String" 489 y_St_init2 ∈ lwg := List.mem_filter.mpr ⟨List.mem_append_right _ (List.mem_of_getElem? (i := 334) (by decide +kernel)), by decide +kernel⟩
theorem k_im_St_init2 : Cond.instanceMethod y_St_init2 ∈ lwg := List.mem_filter.mpr ⟨List.mem_append_right _ (List.mem_of_getElem? (i := 335) (by decide +kernel)), by decide +kernel⟩
theorem k_code_St_init2 : Cond.code y_St_init2 b_St_init2 5 (none) ∈ lwg := List.mem_filter.mpr ⟨List.mem_append_right _ (List.mem_of_getElem? (i := 336) (by decide +kernel)), by decide +kernel⟩
theorem k_ml_St_1 : Cond.methodLink "java/lang/String" 1 y_Ob_init ∈ lwg := List.mem_filter.mpr ⟨List.mem_append_right _ (List.mem_of_getElem? (i := 337) (by decide +kernel)), by decide +kernel⟩
theorem k_ml_St_552 : Cond.methodLink "java/lang/String" 552 y_As_getValue ∈ lwg := List.mem_filter.mpr ⟨List.mem_append_right _ (List.mem_of_getElem? (i := 338) (by decide +kernel)), by decide +kernel⟩
theorem k_im_As_getValue : Cond.instanceMethod y_As_getValue ∈ lwg := List.mem_filter.mpr ⟨List.mem_append_right _ (List.mem_of_getElem? (i := 339) (by decide +kernel)), by decide +kernel⟩
theorem k_sel_Sb_As_getValue : Cond.selects "java/lang/StringBuilder" y_As_getValue y_As_getValue ∈ lwg := List.mem_filter.mpr ⟨List.mem_append_right _ (List.mem_of_getElem? (i := 341) (by decide +kernel)), by decide +kernel⟩
theorem k_code_As_getValue : Cond.code y_As_getValue b_As_getValue 1 ((some (.array .byte))) ∈ lwg := List.mem_filter.mpr ⟨List.mem_append_right _ (List.mem_of_getElem? (i := 342) (by decide +kernel)), by decide +kernel⟩
theorem k_ml_St_549 : Cond.methodLink "java/lang/String" 549 y_As_length ∈ lwg := List.mem_filter.mpr ⟨List.mem_append_right _ (List.mem_of_getElem? (i := 343) (by decide +kernel)), by decide +kernel⟩
theorem k_im_As_length : Cond.instanceMethod y_As_length ∈ lwg := List.mem_filter.mpr ⟨List.mem_append_right _ (List.mem_of_getElem? (i := 344) (by decide +kernel)), by decide +kernel⟩
theorem k_sel_Sb_As_length : Cond.selects "java/lang/StringBuilder" y_As_length y_Sb_length ∈ lwg := List.mem_filter.mpr ⟨List.mem_append_right _ (List.mem_of_getElem? (i := 346) (by decide +kernel)), by decide +kernel⟩
theorem k_im_Sb_length : Cond.instanceMethod y_Sb_length ∈ lwg := List.mem_filter.mpr ⟨List.mem_append_right _ (List.mem_of_getElem? (i := 347) (by decide +kernel)), by decide +kernel⟩
theorem k_code_Sb_length : Cond.code y_Sb_length b_Sb_length 1 ((some .int)) ∈ lwg := List.mem_filter.mpr ⟨List.mem_append_right _ (List.mem_of_getElem? (i := 348) (by decide +kernel)), by decide +kernel⟩
theorem k_ml_Sb_343 : Cond.methodLink "java/lang/StringBuilder" 343 y_As_length ∈ lwg := List.mem_filter.mpr ⟨List.mem_append_right _ (List.mem_of_getElem? (i := 349) (by decide +kernel)), by decide +kernel⟩
theorem k_code_As_length : Cond.code y_As_length b_As_length 1 ((some .int)) ∈ lwg := List.mem_filter.mpr ⟨List.mem_append_right _ (List.mem_of_getElem? (i := 350) (by decide +kernel)), by decide +kernel⟩
theorem k_ml_St_1047 : Cond.methodLink "java/lang/String" 1047 y_As_isLatin1 ∈ lwg := List.mem_filter.mpr ⟨List.mem_append_right _ (List.mem_of_getElem? (i := 351) (by decide +kernel)), by decide +kernel⟩
theorem k_ml_St_54 : Cond.methodLink "java/lang/String" 54 y_Ar_copyOfRange ∈ lwg := List.mem_filter.mpr ⟨List.mem_append_right _ (List.mem_of_getElem? (i := 352) (by decide +kernel)), by decide +kernel⟩
theorem k_st_Ar_copyOfRange : Cond.static y_Ar_copyOfRange ∈ lwg := List.mem_filter.mpr ⟨List.mem_append_right _ (List.mem_of_getElem? (i := 353) (by decide +kernel)), by decide +kernel⟩
theorem k_code_Ar_copyOfRange : Cond.code y_Ar_copyOfRange b_Ar_copyOfRange 3 ((some (.array .byte))) ∈ lwg := List.mem_filter.mpr ⟨List.mem_append_right _ (List.mem_of_getElem? (i := 354) (by decide +kernel)), by decide +kernel⟩
theorem k_ml_Ar_339 : Cond.methodLink "java/util/Arrays" 339 y_Ar_copyOfRangeByte ∈ lwg := List.mem_filter.mpr ⟨List.mem_append_right _ (List.mem_of_getElem? (i := 355) (by decide +kernel)), by decide +kernel⟩
theorem k_st_Ar_copyOfRangeByte : Cond.static y_Ar_copyOfRangeByte ∈ lwg := List.mem_filter.mpr ⟨List.mem_append_right _ (List.mem_of_getElem? (i := 356) (by decide +kernel)), by decide +kernel⟩
theorem k_code_Ar_copyOfRangeByte : Cond.code y_Ar_copyOfRangeByte b_Ar_copyOfRangeByte 5 ((some (.array .byte))) ∈ lwg := List.mem_filter.mpr ⟨List.mem_append_right _ (List.mem_of_getElem? (i := 357) (by decide +kernel)), by decide +kernel⟩
theorem k_ml_Ar_343 : Cond.methodLink "java/util/Arrays" 343 y_Ar_checkLength ∈ lwg := List.mem_filter.mpr ⟨List.mem_append_right _ (List.mem_of_getElem? (i := 358) (by decide +kernel)), by decide +kernel⟩
theorem k_st_Ar_checkLength : Cond.static y_Ar_checkLength ∈ lwg := List.mem_filter.mpr ⟨List.mem_append_right _ (List.mem_of_getElem? (i := 359) (by decide +kernel)), by decide +kernel⟩
theorem k_code_Ar_checkLength : Cond.code y_Ar_checkLength b_Ar_checkLength 2 (none) ∈ lwg := List.mem_filter.mpr ⟨List.mem_append_right _ (List.mem_of_getElem? (i := 360) (by decide +kernel)), by decide +kernel⟩
theorem k_str_Ar_337 : Cond.stringRef "java/util/Arrays" 337 " > " ∈ lw_tbl := List.mem_append_right _ (List.mem_of_getElem? (i := 361) (by decide +kernel))
theorem k_ml_Ar_65 : Cond.methodLink "java/util/Arrays" 65 y_Ia_init ∈ lwg := List.mem_filter.mpr ⟨List.mem_append_right _ (List.mem_of_getElem? (i := 362) (by decide +kernel)), by decide +kernel⟩
theorem k_im_Ia_init : Cond.instanceMethod y_Ia_init ∈ lwg := List.mem_filter.mpr ⟨List.mem_append_right _ (List.mem_of_getElem? (i := 363) (by decide +kernel)), by decide +kernel⟩
theorem k_code_Ia_init : Cond.code y_Ia_init b_Ia_init 2 (none) ∈ lwg := List.mem_filter.mpr ⟨List.mem_append_right _ (List.mem_of_getElem? (i := 364) (by decide +kernel)), by decide +kernel⟩
theorem k_ml_Ia_7 : Cond.methodLink "java/lang/IllegalArgumentException" 7 y_Re_init2 ∈ lwg := List.mem_filter.mpr ⟨List.mem_append_right _ (List.mem_of_getElem? (i := 365) (by decide +kernel)), by decide +kernel⟩
theorem k_im_Re_init2 : Cond.instanceMethod y_Re_init2 ∈ lwg := List.mem_filter.mpr ⟨List.mem_append_right _ (List.mem_of_getElem? (i := 366) (by decide +kernel)), by decide +kernel⟩
theorem k_code_Re_init2 : Cond.code y_Re_init2 b_Re_init2 2 (none) ∈ lwg := List.mem_filter.mpr ⟨List.mem_append_right _ (List.mem_of_getElem? (i := 367) (by decide +kernel)), by decide +kernel⟩
theorem k_ml_Re_7 : Cond.methodLink "java/lang/RuntimeException" 7 y_Ex_init2 ∈ lwg := List.mem_filter.mpr ⟨List.mem_append_right _ (List.mem_of_getElem? (i := 368) (by decide +kernel)), by decide +kernel⟩
theorem k_im_Ex_init2 : Cond.instanceMethod y_Ex_init2 ∈ lwg := List.mem_filter.mpr ⟨List.mem_append_right _ (List.mem_of_getElem? (i := 369) (by decide +kernel)), by decide +kernel⟩
theorem k_code_Ex_init2 : Cond.code y_Ex_init2 b_Ex_init2 2 (none) ∈ lwg := List.mem_filter.mpr ⟨List.mem_append_right _ (List.mem_of_getElem? (i := 370) (by decide +kernel)), by decide +kernel⟩
theorem k_ml_Ex_7 : Cond.methodLink "java/lang/Exception" 7 y_Th_init2 ∈ lwg := List.mem_filter.mpr ⟨List.mem_append_right _ (List.mem_of_getElem? (i := 371) (by decide +kernel)), by decide +kernel⟩
theorem k_im_Th_init2 : Cond.instanceMethod y_Th_init2 ∈ lwg := List.mem_filter.mpr ⟨List.mem_append_right _ (List.mem_of_getElem? (i := 372) (by decide +kernel)), by decide +kernel⟩
theorem k_code_Th_init2 : Cond.code y_Th_init2 b_Th_init2 2 (none) ∈ lwg := List.mem_filter.mpr ⟨List.mem_append_right _ (List.mem_of_getElem? (i := 373) (by decide +kernel)), by decide +kernel⟩
theorem k_fl_Th_31 : Cond.fieldLink "java/lang/Throwable" 31 "java/lang/Throwable" "detailMessage" "Ljava/lang/String;" ∈ lwg := List.mem_filter.mpr ⟨List.mem_append_right _ (List.mem_of_getElem? (i := 375) (by decide +kernel)), by decide +kernel⟩
theorem k_fl_Th_7 : Cond.fieldLink "java/lang/Throwable" 7 "java/lang/Throwable" "cause" "Ljava/lang/Throwable;" ∈ lwg := List.mem_filter.mpr ⟨List.mem_append_right _ (List.mem_of_getElem? (i := 376) (by decide +kernel)), by decide +kernel⟩
theorem k_fl_Th_17 : Cond.fieldLink "java/lang/Throwable" 17 "java/lang/Throwable" "stackTrace" "[Ljava/lang/StackTraceElement;" ∈ lwg := List.mem_filter.mpr ⟨List.mem_append_right _ (List.mem_of_getElem? (i := 377) (by decide +kernel)), by decide +kernel⟩
theorem k_fl_Th_24 : Cond.fieldLink "java/lang/Throwable" 24 "java/lang/Throwable" "suppressedExceptions" "Ljava/util/List;" ∈ lwg := List.mem_filter.mpr ⟨List.mem_append_right _ (List.mem_of_getElem? (i := 378) (by decide +kernel)), by decide +kernel⟩
theorem k_ml_St_1051 : Cond.methodLink "java/lang/String" 1051 y_Su_compress ∈ lwg := List.mem_filter.mpr ⟨List.mem_append_right _ (List.mem_of_getElem? (i := 387) (by decide +kernel)), by decide +kernel⟩
theorem k_st_Su_compress : Cond.static y_Su_compress ∈ lwg := List.mem_filter.mpr ⟨List.mem_append_right _ (List.mem_of_getElem? (i := 388) (by decide +kernel)), by decide +kernel⟩
theorem k_code_Su_compress : Cond.code y_Su_compress b_Su_compress 6 ((some (.array .byte))) ∈ lwg := List.mem_filter.mpr ⟨List.mem_append_right _ (List.mem_of_getElem? (i := 389) (by decide +kernel)), by decide +kernel⟩
theorem k_ml_Su_123 : Cond.methodLink "java/lang/StringUTF16" 123 y_Su_compress2 ∈ lwg := List.mem_filter.mpr ⟨List.mem_append_right _ (List.mem_of_getElem? (i := 390) (by decide +kernel)), by decide +kernel⟩
theorem k_st_Su_compress2 : Cond.static y_Su_compress2 ∈ lwg := List.mem_filter.mpr ⟨List.mem_append_right _ (List.mem_of_getElem? (i := 391) (by decide +kernel)), by decide +kernel⟩
theorem k_code_Su_compress2 : Cond.code y_Su_compress2 b_Su_compress2 7 ((some .int)) ∈ lwg := List.mem_filter.mpr ⟨List.mem_append_right _ (List.mem_of_getElem? (i := 392) (by decide +kernel)), by decide +kernel⟩
theorem k_ml_Su_71 : Cond.methodLink "java/lang/StringUTF16" 71 y_Su_getChar ∈ lwg := List.mem_filter.mpr ⟨List.mem_append_right _ (List.mem_of_getElem? (i := 393) (by decide +kernel)), by decide +kernel⟩
theorem k_st_Su_getChar : Cond.static y_Su_getChar ∈ lwg := List.mem_filter.mpr ⟨List.mem_append_right _ (List.mem_of_getElem? (i := 394) (by decide +kernel)), by decide +kernel⟩
theorem k_code_Su_getChar : Cond.code y_Su_getChar b_Su_getChar 2 ((some .char)) ∈ lwg := List.mem_filter.mpr ⟨List.mem_append_right _ (List.mem_of_getElem? (i := 395) (by decide +kernel)), by decide +kernel⟩
theorem k_ml_Su_126 : Cond.methodLink "java/lang/StringUTF16" 126 y_Ar_copyOfRange ∈ lwg := List.mem_filter.mpr ⟨List.mem_append_right _ (List.mem_of_getElem? (i := 396) (by decide +kernel)), by decide +kernel⟩
theorem k_ml_St_47 : Cond.methodLink "java/lang/String" 47 y_Su_coderFromArrayLen ∈ lwg := List.mem_filter.mpr ⟨List.mem_append_right _ (List.mem_of_getElem? (i := 397) (by decide +kernel)), by decide +kernel⟩
theorem k_st_Su_coderFromArrayLen : Cond.static y_Su_coderFromArrayLen ∈ lwg := List.mem_filter.mpr ⟨List.mem_append_right _ (List.mem_of_getElem? (i := 398) (by decide +kernel)), by decide +kernel⟩
theorem k_code_Su_coderFromArrayLen : Cond.code y_Su_coderFromArrayLen b_Su_coderFromArrayLen 2 ((some .byte)) ∈ lwg := List.mem_filter.mpr ⟨List.mem_append_right _ (List.mem_of_getElem? (i := 399) (by decide +kernel)), by decide +kernel⟩
theorem k_fl_St_9 : Cond.fieldLink "java/lang/String" 9 "java/lang/String" "value" "[B" ∈ lwg := List.mem_filter.mpr ⟨List.mem_append_right _ (List.mem_of_getElem? (i := 400) (by decide +kernel)), by decide +kernel⟩
theorem k_fl_St_15 : Cond.fieldLink "java/lang/String" 15 "java/lang/String" "coder" "B" ∈ lwg := List.mem_filter.mpr ⟨List.mem_append_right _ (List.mem_of_getElem? (i := 401) (by decide +kernel)), by decide +kernel⟩
theorem k_ml_Bl_36 : Cond.methodLink "PropertyTrie$Blocks" 36 y_Rc_hold ∈ lwg := List.mem_filter.mpr ⟨List.mem_append_right _ (List.mem_of_getElem? (i := 411) (by decide +kernel)), by decide +kernel⟩
theorem k_fl_Bl_14 : Cond.fieldLink "PropertyTrie$Blocks" 14 "PropertyTrie$Blocks" "records" "LPropertyTrie$Records;" ∈ lwg := List.mem_filter.mpr ⟨List.mem_append_right _ (List.mem_of_getElem? (i := 412) (by decide +kernel)), by decide +kernel⟩
theorem k_fl_Bl_19 : Cond.fieldLink "PropertyTrie$Blocks" 19 "PropertyTrie$Blocks" "cells" "[I" ∈ lwg := List.mem_filter.mpr ⟨List.mem_append_right _ (List.mem_of_getElem? (i := 414) (by decide +kernel)), by decide +kernel⟩
theorem k_fl_Bl_23 : Cond.fieldLink "PropertyTrie$Blocks" 23 "PropertyTrie$Blocks" "spareRows" "[I" ∈ lwg := List.mem_filter.mpr ⟨List.mem_append_right _ (List.mem_of_getElem? (i := 415) (by decide +kernel)), by decide +kernel⟩
theorem k_fl_Bl_40 : Cond.fieldLink "PropertyTrie$Blocks" 40 "PropertyTrie$Blocks" "spares" "I" ∈ lwg := List.mem_filter.mpr ⟨List.mem_append_right _ (List.mem_of_getElem? (i := 416) (by decide +kernel)), by decide +kernel⟩
theorem k_fl_Bl_48 : Cond.fieldLink "PropertyTrie$Blocks" 48 "PropertyTrie$Blocks" "found" "I" ∈ lwg := List.mem_filter.mpr ⟨List.mem_append_right _ (List.mem_of_getElem? (i := 417) (by decide +kernel)), by decide +kernel⟩
theorem k_fl_Bl_51 : Cond.fieldLink "PropertyTrie$Blocks" 51 "PropertyTrie$Blocks" "foundFirst" "I" ∈ lwg := List.mem_filter.mpr ⟨List.mem_append_right _ (List.mem_of_getElem? (i := 418) (by decide +kernel)), by decide +kernel⟩
theorem k_fl_Bl_54 : Cond.fieldLink "PropertyTrie$Blocks" 54 "PropertyTrie$Blocks" "foundLast" "I" ∈ lwg := List.mem_filter.mpr ⟨List.mem_append_right _ (List.mem_of_getElem? (i := 419) (by decide +kernel)), by decide +kernel⟩
theorem k_fl_Pt_12 : Cond.fieldLink "PropertyTrie" 12 "PropertyTrie" "blocks" "LPropertyTrie$Blocks;" ∈ lwg := List.mem_filter.mpr ⟨List.mem_append_right _ (List.mem_of_getElem? (i := 436) (by decide +kernel)), by decide +kernel⟩
theorem k_ml_La_66 : Cond.methodLink "PropertyTrieLaw" 66 y_Pt_clear ∈ lwg := List.mem_filter.mpr ⟨List.mem_append_right _ (List.mem_of_getElem? (i := 440) (by decide +kernel)), by decide +kernel⟩
theorem k_im_Pt_clear : Cond.instanceMethod y_Pt_clear ∈ lwg := List.mem_filter.mpr ⟨List.mem_append_right _ (List.mem_of_getElem? (i := 441) (by decide +kernel)), by decide +kernel⟩
theorem k_sel_Pt_clear : Cond.selects "PropertyTrie" y_Pt_clear y_Pt_clear ∈ lwg := List.mem_filter.mpr ⟨List.mem_append_right _ (List.mem_of_getElem? (i := 442) (by decide +kernel)), by decide +kernel⟩
theorem k_code_Pt_clear : Cond.code y_Pt_clear b_Pt_clear 5 ((some .int)) ∈ lwg := List.mem_filter.mpr ⟨List.mem_append_right _ (List.mem_of_getElem? (i := 443) (by decide +kernel)), by decide +kernel⟩
theorem k_ml_Pt_58 : Cond.methodLink "PropertyTrie" 58 y_Bl_recordOf ∈ lwg := List.mem_filter.mpr ⟨List.mem_append_right _ (List.mem_of_getElem? (i := 444) (by decide +kernel)), by decide +kernel⟩
theorem k_im_Bl_recordOf : Cond.instanceMethod y_Bl_recordOf ∈ lwg := List.mem_filter.mpr ⟨List.mem_append_right _ (List.mem_of_getElem? (i := 445) (by decide +kernel)), by decide +kernel⟩
theorem k_sel_Bl_recordOf : Cond.selects "PropertyTrie$Blocks" y_Bl_recordOf y_Bl_recordOf ∈ lwg := List.mem_filter.mpr ⟨List.mem_append_right _ (List.mem_of_getElem? (i := 446) (by decide +kernel)), by decide +kernel⟩
theorem k_code_Bl_recordOf : Cond.code y_Bl_recordOf b_Bl_recordOf 2 ((some .int)) ∈ lwg := List.mem_filter.mpr ⟨List.mem_append_right _ (List.mem_of_getElem? (i := 447) (by decide +kernel)), by decide +kernel⟩
theorem k_ml_Bl_44 : Cond.methodLink "PropertyTrie$Blocks" 44 y_Bl_find ∈ lwg := List.mem_filter.mpr ⟨List.mem_append_right _ (List.mem_of_getElem? (i := 448) (by decide +kernel)), by decide +kernel⟩
theorem k_im_Bl_find : Cond.instanceMethod y_Bl_find ∈ lwg := List.mem_filter.mpr ⟨List.mem_append_right _ (List.mem_of_getElem? (i := 450) (by decide +kernel)), by decide +kernel⟩
theorem k_code_Bl_find : Cond.code y_Bl_find b_Bl_find 4 (none) ∈ lwg := List.mem_filter.mpr ⟨List.mem_append_right _ (List.mem_of_getElem? (i := 451) (by decide +kernel)), by decide +kernel⟩
theorem k_ml_Pt_53 : Cond.methodLink "PropertyTrie" 53 y_Mt_max ∈ lwg := List.mem_filter.mpr ⟨List.mem_append_right _ (List.mem_of_getElem? (i := 452) (by decide +kernel)), by decide +kernel⟩
theorem k_ml_Pt_65 : Cond.methodLink "PropertyTrie" 65 y_Bl_empty ∈ lwg := List.mem_filter.mpr ⟨List.mem_append_right _ (List.mem_of_getElem? (i := 453) (by decide +kernel)), by decide +kernel⟩
theorem k_ml_La_38 : Cond.methodLink "PropertyTrieLaw" 38 y_La_set ∈ lwg := List.mem_filter.mpr ⟨List.mem_append_right _ (List.mem_of_getElem? (i := 454) (by decide +kernel)), by decide +kernel⟩
theorem k_st_La_set : Cond.static y_La_set ∈ lwg := List.mem_filter.mpr ⟨List.mem_append_right _ (List.mem_of_getElem? (i := 455) (by decide +kernel)), by decide +kernel⟩
theorem k_with_La_set : Cond.codeWith y_La_set b_La_set 7 ((some .int)) [(0, 14, 17, 13)] ∈ lwg := List.mem_filter.mpr ⟨List.mem_append_right _ (List.mem_of_getElem? (i := 456) (by decide +kernel)), by decide +kernel⟩
theorem k_cl_La_13 : Cond.classLink "PropertyTrieLaw" 13 "java/lang/IllegalArgumentException" ∈ lwg := List.mem_filter.mpr ⟨List.mem_append_right _ (List.mem_of_getElem? (i := 457) (by decide +kernel)), by decide +kernel⟩
theorem k_ml_La_7 : Cond.methodLink "PropertyTrieLaw" 7 y_Pt_set ∈ lwg := List.mem_filter.mpr ⟨List.mem_append_right _ (List.mem_of_getElem? (i := 458) (by decide +kernel)), by decide +kernel⟩
theorem k_im_Pt_set : Cond.instanceMethod y_Pt_set ∈ lwg := List.mem_filter.mpr ⟨List.mem_append_right _ (List.mem_of_getElem? (i := 459) (by decide +kernel)), by decide +kernel⟩
theorem k_sel_Pt_set : Cond.selects "PropertyTrie" y_Pt_set y_Pt_set ∈ lwg := List.mem_filter.mpr ⟨List.mem_append_right _ (List.mem_of_getElem? (i := 460) (by decide +kernel)), by decide +kernel⟩
theorem k_code_Pt_set : Cond.code y_Pt_set b_Pt_set 5 ((some .int)) ∈ lwg := List.mem_filter.mpr ⟨List.mem_append_right _ (List.mem_of_getElem? (i := 461) (by decide +kernel)), by decide +kernel⟩
theorem k_ml_Pt_16 : Cond.methodLink "PropertyTrie" 16 y_Pt_mark ∈ lwg := List.mem_filter.mpr ⟨List.mem_append_right _ (List.mem_of_getElem? (i := 462) (by decide +kernel)), by decide +kernel⟩
theorem k_im_Pt_mark : Cond.instanceMethod y_Pt_mark ∈ lwg := List.mem_filter.mpr ⟨List.mem_append_right _ (List.mem_of_getElem? (i := 463) (by decide +kernel)), by decide +kernel⟩
theorem k_sel_Pt_mark : Cond.selects "PropertyTrie" y_Pt_mark y_Pt_mark ∈ lwg := List.mem_filter.mpr ⟨List.mem_append_right _ (List.mem_of_getElem? (i := 464) (by decide +kernel)), by decide +kernel⟩
theorem k_code_Pt_mark : Cond.code y_Pt_mark b_Pt_mark 6 ((some .int)) ∈ lwg := List.mem_filter.mpr ⟨List.mem_append_right _ (List.mem_of_getElem? (i := 465) (by decide +kernel)), by decide +kernel⟩
theorem k_ml_Pt_20 : Cond.methodLink "PropertyTrie" 20 y_Pt_checkRange ∈ lwg := List.mem_filter.mpr ⟨List.mem_append_right _ (List.mem_of_getElem? (i := 466) (by decide +kernel)), by decide +kernel⟩
theorem k_st_Pt_checkRange : Cond.static y_Pt_checkRange ∈ lwg := List.mem_filter.mpr ⟨List.mem_append_right _ (List.mem_of_getElem? (i := 467) (by decide +kernel)), by decide +kernel⟩
theorem k_code_Pt_checkRange : Cond.code y_Pt_checkRange b_Pt_checkRange 2 (none) ∈ lwg := List.mem_filter.mpr ⟨List.mem_append_right _ (List.mem_of_getElem? (i := 468) (by decide +kernel)), by decide +kernel⟩
theorem k_cst_Pt_48 : Cond.constant "PropertyTrie" 48 (1114111) ∈ lwg := List.mem_filter.mpr ⟨List.mem_append_right _ (List.mem_of_getElem? (i := 469) (by decide +kernel)), by decide +kernel⟩
theorem k_cl_Pt_71 : Cond.classLink "PropertyTrie" 71 "java/lang/IllegalArgumentException" ∈ lwg := List.mem_filter.mpr ⟨List.mem_append_right _ (List.mem_of_getElem? (i := 470) (by decide +kernel)), by decide +kernel⟩
theorem k_str_Pt_78 : Cond.stringRef "PropertyTrie" 78 "a range is 0 .. first .. last .. 1114111" ∈ lw_tbl := List.mem_append_right _ (List.mem_of_getElem? (i := 471) (by decide +kernel))
theorem k_ml_Pt_75 : Cond.methodLink "PropertyTrie" 75 y_Ia_init ∈ lwg := List.mem_filter.mpr ⟨List.mem_append_right _ (List.mem_of_getElem? (i := 472) (by decide +kernel)), by decide +kernel⟩
theorem k_ml_Pt_24 : Cond.methodLink "PropertyTrie" 24 y_Pt_checkField ∈ lwg := List.mem_filter.mpr ⟨List.mem_append_right _ (List.mem_of_getElem? (i := 473) (by decide +kernel)), by decide +kernel⟩
theorem k_st_Pt_checkField : Cond.static y_Pt_checkField ∈ lwg := List.mem_filter.mpr ⟨List.mem_append_right _ (List.mem_of_getElem? (i := 474) (by decide +kernel)), by decide +kernel⟩
theorem k_code_Pt_checkField : Cond.code y_Pt_checkField b_Pt_checkField 1 (none) ∈ lwg := List.mem_filter.mpr ⟨List.mem_append_right _ (List.mem_of_getElem? (i := 475) (by decide +kernel)), by decide +kernel⟩
theorem k_str_Pt_80 : Cond.stringRef "PropertyTrie" 80 "a field is 0 .. 7" ∈ lw_tbl := List.mem_append_right _ (List.mem_of_getElem? (i := 476) (by decide +kernel))
theorem k_ml_Pt_32 : Cond.methodLink "PropertyTrie" 32 y_Rc_begin ∈ lwg := List.mem_filter.mpr ⟨List.mem_append_right _ (List.mem_of_getElem? (i := 477) (by decide +kernel)), by decide +kernel⟩
theorem k_im_Rc_begin : Cond.instanceMethod y_Rc_begin ∈ lwg := List.mem_filter.mpr ⟨List.mem_append_right _ (List.mem_of_getElem? (i := 478) (by decide +kernel)), by decide +kernel⟩
theorem k_sel_Rc_begin : Cond.selects "PropertyTrie$Records" y_Rc_begin y_Rc_begin ∈ lwg := List.mem_filter.mpr ⟨List.mem_append_right _ (List.mem_of_getElem? (i := 479) (by decide +kernel)), by decide +kernel⟩
theorem k_code_Rc_begin : Cond.code y_Rc_begin b_Rc_begin 4 (none) ∈ lwg := List.mem_filter.mpr ⟨List.mem_append_right _ (List.mem_of_getElem? (i := 480) (by decide +kernel)), by decide +kernel⟩
theorem k_ml_Pt_38 : Cond.methodLink "PropertyTrie" 38 y_Bl_alter ∈ lwg := List.mem_filter.mpr ⟨List.mem_append_right _ (List.mem_of_getElem? (i := 481) (by decide +kernel)), by decide +kernel⟩
theorem k_im_Bl_alter : Cond.instanceMethod y_Bl_alter ∈ lwg := List.mem_filter.mpr ⟨List.mem_append_right _ (List.mem_of_getElem? (i := 482) (by decide +kernel)), by decide +kernel⟩
theorem k_sel_Bl_alter : Cond.selects "PropertyTrie$Blocks" y_Bl_alter y_Bl_alter ∈ lwg := List.mem_filter.mpr ⟨List.mem_append_right _ (List.mem_of_getElem? (i := 483) (by decide +kernel)), by decide +kernel⟩
theorem k_code_Bl_alter : Cond.code y_Bl_alter b_Bl_alter 5 (none) ∈ lwg := List.mem_filter.mpr ⟨List.mem_append_right _ (List.mem_of_getElem? (i := 484) (by decide +kernel)), by decide +kernel⟩
theorem k_ml_Bl_57 : Cond.methodLink "PropertyTrie$Blocks" 57 y_Bl_splitBefore ∈ lwg := List.mem_filter.mpr ⟨List.mem_append_right _ (List.mem_of_getElem? (i := 485) (by decide +kernel)), by decide +kernel⟩
theorem k_im_Bl_splitBefore : Cond.instanceMethod y_Bl_splitBefore ∈ lwg := List.mem_filter.mpr ⟨List.mem_append_right _ (List.mem_of_getElem? (i := 487) (by decide +kernel)), by decide +kernel⟩
theorem k_code_Bl_splitBefore : Cond.code y_Bl_splitBefore b_Bl_splitBefore 3 (none) ∈ lwg := List.mem_filter.mpr ⟨List.mem_append_right _ (List.mem_of_getElem? (i := 488) (by decide +kernel)), by decide +kernel⟩
theorem k_ml_Bl_73 : Cond.methodLink "PropertyTrie$Blocks" 73 y_Bl_split ∈ lwg := List.mem_filter.mpr ⟨List.mem_append_right _ (List.mem_of_getElem? (i := 489) (by decide +kernel)), by decide +kernel⟩
theorem k_im_Bl_split : Cond.instanceMethod y_Bl_split ∈ lwg := List.mem_filter.mpr ⟨List.mem_append_right _ (List.mem_of_getElem? (i := 491) (by decide +kernel)), by decide +kernel⟩
theorem k_code_Bl_split : Cond.code y_Bl_split b_Bl_split 4 (none) ∈ lwg := List.mem_filter.mpr ⟨List.mem_append_right _ (List.mem_of_getElem? (i := 492) (by decide +kernel)), by decide +kernel⟩
theorem k_cst_Bl_60 : Cond.constant "PropertyTrie$Blocks" 60 (1114111) ∈ lwg := List.mem_filter.mpr ⟨List.mem_append_right _ (List.mem_of_getElem? (i := 493) (by decide +kernel)), by decide +kernel⟩
theorem k_ml_Bl_61 : Cond.methodLink "PropertyTrie$Blocks" 61 y_Bl_replace ∈ lwg := List.mem_filter.mpr ⟨List.mem_append_right _ (List.mem_of_getElem? (i := 494) (by decide +kernel)), by decide +kernel⟩
theorem k_im_Bl_replace : Cond.instanceMethod y_Bl_replace ∈ lwg := List.mem_filter.mpr ⟨List.mem_append_right _ (List.mem_of_getElem? (i := 496) (by decide +kernel)), by decide +kernel⟩
theorem k_code_Bl_replace : Cond.code y_Bl_replace b_Bl_replace 4 (none) ∈ lwg := List.mem_filter.mpr ⟨List.mem_append_right _ (List.mem_of_getElem? (i := 497) (by decide +kernel)), by decide +kernel⟩
theorem k_ml_Bl_76 : Cond.methodLink "PropertyTrie$Blocks" 76 y_Rc_altered ∈ lwg := List.mem_filter.mpr ⟨List.mem_append_right _ (List.mem_of_getElem? (i := 498) (by decide +kernel)), by decide +kernel⟩
theorem k_im_Rc_altered : Cond.instanceMethod y_Rc_altered ∈ lwg := List.mem_filter.mpr ⟨List.mem_append_right _ (List.mem_of_getElem? (i := 499) (by decide +kernel)), by decide +kernel⟩
theorem k_sel_Rc_altered : Cond.selects "PropertyTrie$Records" y_Rc_altered y_Rc_altered ∈ lwg := List.mem_filter.mpr ⟨List.mem_append_right _ (List.mem_of_getElem? (i := 500) (by decide +kernel)), by decide +kernel⟩
theorem k_code_Rc_altered : Cond.code y_Rc_altered b_Rc_altered 4 ((some .int)) ∈ lwg := List.mem_filter.mpr ⟨List.mem_append_right _ (List.mem_of_getElem? (i := 501) (by decide +kernel)), by decide +kernel⟩
theorem k_ml_Rc_77 : Cond.methodLink "PropertyTrie$Records" 77 y_Rc_findWanted ∈ lwg := List.mem_filter.mpr ⟨List.mem_append_right _ (List.mem_of_getElem? (i := 502) (by decide +kernel)), by decide +kernel⟩
theorem k_im_Rc_findWanted : Cond.instanceMethod y_Rc_findWanted ∈ lwg := List.mem_filter.mpr ⟨List.mem_append_right _ (List.mem_of_getElem? (i := 504) (by decide +kernel)), by decide +kernel⟩
theorem k_code_Rc_findWanted : Cond.code y_Rc_findWanted b_Rc_findWanted 4 ((some .int)) ∈ lwg := List.mem_filter.mpr ⟨List.mem_append_right _ (List.mem_of_getElem? (i := 505) (by decide +kernel)), by decide +kernel⟩
theorem k_ml_Rc_80 : Cond.methodLink "PropertyTrie$Records" 80 y_Rc_isWanted ∈ lwg := List.mem_filter.mpr ⟨List.mem_append_right _ (List.mem_of_getElem? (i := 506) (by decide +kernel)), by decide +kernel⟩
theorem k_im_Rc_isWanted : Cond.instanceMethod y_Rc_isWanted ∈ lwg := List.mem_filter.mpr ⟨List.mem_append_right _ (List.mem_of_getElem? (i := 508) (by decide +kernel)), by decide +kernel⟩
theorem k_code_Rc_isWanted : Cond.code y_Rc_isWanted b_Rc_isWanted 3 ((some .boolean)) ∈ lwg := List.mem_filter.mpr ⟨List.mem_append_right _ (List.mem_of_getElem? (i := 509) (by decide +kernel)), by decide +kernel⟩
theorem k_ml_Bl_80 : Cond.methodLink "PropertyTrie$Blocks" 80 y_Rc_release ∈ lwg := List.mem_filter.mpr ⟨List.mem_append_right _ (List.mem_of_getElem? (i := 510) (by decide +kernel)), by decide +kernel⟩
theorem k_im_Rc_release : Cond.instanceMethod y_Rc_release ∈ lwg := List.mem_filter.mpr ⟨List.mem_append_right _ (List.mem_of_getElem? (i := 511) (by decide +kernel)), by decide +kernel⟩
theorem k_sel_Rc_release : Cond.selects "PropertyTrie$Records" y_Rc_release y_Rc_release ∈ lwg := List.mem_filter.mpr ⟨List.mem_append_right _ (List.mem_of_getElem? (i := 512) (by decide +kernel)), by decide +kernel⟩
theorem k_code_Rc_release : Cond.code y_Rc_release b_Rc_release 3 (none) ∈ lwg := List.mem_filter.mpr ⟨List.mem_append_right _ (List.mem_of_getElem? (i := 513) (by decide +kernel)), by decide +kernel⟩
theorem k_ml_Rc_58 : Cond.methodLink "PropertyTrie$Records" 58 y_Rc_drop ∈ lwg := List.mem_filter.mpr ⟨List.mem_append_right _ (List.mem_of_getElem? (i := 514) (by decide +kernel)), by decide +kernel⟩
theorem k_im_Rc_drop : Cond.instanceMethod y_Rc_drop ∈ lwg := List.mem_filter.mpr ⟨List.mem_append_right _ (List.mem_of_getElem? (i := 516) (by decide +kernel)), by decide +kernel⟩
theorem k_code_Rc_drop : Cond.code y_Rc_drop b_Rc_drop 6 (none) ∈ lwg := List.mem_filter.mpr ⟨List.mem_append_right _ (List.mem_of_getElem? (i := 517) (by decide +kernel)), by decide +kernel⟩
theorem k_ml_Bl_64 : Cond.methodLink "PropertyTrie$Blocks" 64 y_Mt_max ∈ lwg := List.mem_filter.mpr ⟨List.mem_append_right _ (List.mem_of_getElem? (i := 518) (by decide +kernel)), by decide +kernel⟩
theorem k_ml_Bl_70 : Cond.methodLink "PropertyTrie$Blocks" 70 y_Bl_joinBelow ∈ lwg := List.mem_filter.mpr ⟨List.mem_append_right _ (List.mem_of_getElem? (i := 519) (by decide +kernel)), by decide +kernel⟩
theorem k_im_Bl_joinBelow : Cond.instanceMethod y_Bl_joinBelow ∈ lwg := List.mem_filter.mpr ⟨List.mem_append_right _ (List.mem_of_getElem? (i := 521) (by decide +kernel)), by decide +kernel⟩
theorem k_code_Bl_joinBelow : Cond.code y_Bl_joinBelow b_Bl_joinBelow 4 (none) ∈ lwg := List.mem_filter.mpr ⟨List.mem_append_right _ (List.mem_of_getElem? (i := 522) (by decide +kernel)), by decide +kernel⟩
theorem k_ml_Bl_83 : Cond.methodLink "PropertyTrie$Blocks" 83 y_Bl_join ∈ lwg := List.mem_filter.mpr ⟨List.mem_append_right _ (List.mem_of_getElem? (i := 523) (by decide +kernel)), by decide +kernel⟩
theorem k_im_Bl_join : Cond.instanceMethod y_Bl_join ∈ lwg := List.mem_filter.mpr ⟨List.mem_append_right _ (List.mem_of_getElem? (i := 525) (by decide +kernel)), by decide +kernel⟩
theorem k_code_Bl_join : Cond.code y_Bl_join b_Bl_join 4 (none) ∈ lwg := List.mem_filter.mpr ⟨List.mem_append_right _ (List.mem_of_getElem? (i := 526) (by decide +kernel)), by decide +kernel⟩
theorem k_ml_Bl_86 : Cond.methodLink "PropertyTrie$Blocks" 86 y_Bl_isAllAlike ∈ lwg := List.mem_filter.mpr ⟨List.mem_append_right _ (List.mem_of_getElem? (i := 527) (by decide +kernel)), by decide +kernel⟩
theorem k_im_Bl_isAllAlike : Cond.instanceMethod y_Bl_isAllAlike ∈ lwg := List.mem_filter.mpr ⟨List.mem_append_right _ (List.mem_of_getElem? (i := 529) (by decide +kernel)), by decide +kernel⟩
theorem k_code_Bl_isAllAlike : Cond.code y_Bl_isAllAlike b_Bl_isAllAlike 4 ((some .boolean)) ∈ lwg := List.mem_filter.mpr ⟨List.mem_append_right _ (List.mem_of_getElem? (i := 530) (by decide +kernel)), by decide +kernel⟩
theorem k_ml_La_48 : Cond.methodLink "PropertyTrieLaw" 48 y_La_mark ∈ lwg := List.mem_filter.mpr ⟨List.mem_append_right _ (List.mem_of_getElem? (i := 531) (by decide +kernel)), by decide +kernel⟩
theorem k_st_La_mark : Cond.static y_La_mark ∈ lwg := List.mem_filter.mpr ⟨List.mem_append_right _ (List.mem_of_getElem? (i := 532) (by decide +kernel)), by decide +kernel⟩
theorem k_with_La_mark : Cond.codeWith y_La_mark b_La_mark 8 ((some .int)) [(0, 16, 19, 13)] ∈ lwg := List.mem_filter.mpr ⟨List.mem_append_right _ (List.mem_of_getElem? (i := 533) (by decide +kernel)), by decide +kernel⟩
theorem k_ml_La_15 : Cond.methodLink "PropertyTrieLaw" 15 y_Pt_mark ∈ lwg := List.mem_filter.mpr ⟨List.mem_append_right _ (List.mem_of_getElem? (i := 534) (by decide +kernel)), by decide +kernel⟩
theorem k_ml_La_52 : Cond.methodLink "PropertyTrieLaw" 52 y_La_get ∈ lwg := List.mem_filter.mpr ⟨List.mem_append_right _ (List.mem_of_getElem? (i := 535) (by decide +kernel)), by decide +kernel⟩
theorem k_st_La_get : Cond.static y_La_get ∈ lwg := List.mem_filter.mpr ⟨List.mem_append_right _ (List.mem_of_getElem? (i := 536) (by decide +kernel)), by decide +kernel⟩
theorem k_with_La_get : Cond.codeWith y_La_get b_La_get 5 ((some .int)) [(0, 10, 13, 13)] ∈ lwg := List.mem_filter.mpr ⟨List.mem_append_right _ (List.mem_of_getElem? (i := 537) (by decide +kernel)), by decide +kernel⟩
theorem k_ml_La_19 : Cond.methodLink "PropertyTrieLaw" 19 y_Pt_get ∈ lwg := List.mem_filter.mpr ⟨List.mem_append_right _ (List.mem_of_getElem? (i := 538) (by decide +kernel)), by decide +kernel⟩
theorem k_im_Pt_get : Cond.instanceMethod y_Pt_get ∈ lwg := List.mem_filter.mpr ⟨List.mem_append_right _ (List.mem_of_getElem? (i := 539) (by decide +kernel)), by decide +kernel⟩
theorem k_sel_Pt_get : Cond.selects "PropertyTrie" y_Pt_get y_Pt_get ∈ lwg := List.mem_filter.mpr ⟨List.mem_append_right _ (List.mem_of_getElem? (i := 540) (by decide +kernel)), by decide +kernel⟩
theorem k_code_Pt_get : Cond.code y_Pt_get b_Pt_get 3 ((some .int)) ∈ lwg := List.mem_filter.mpr ⟨List.mem_append_right _ (List.mem_of_getElem? (i := 541) (by decide +kernel)), by decide +kernel⟩
theorem k_ml_Pt_41 : Cond.methodLink "PropertyTrie" 41 y_Pt_checkPoint ∈ lwg := List.mem_filter.mpr ⟨List.mem_append_right _ (List.mem_of_getElem? (i := 542) (by decide +kernel)), by decide +kernel⟩
theorem k_st_Pt_checkPoint : Cond.static y_Pt_checkPoint ∈ lwg := List.mem_filter.mpr ⟨List.mem_append_right _ (List.mem_of_getElem? (i := 543) (by decide +kernel)), by decide +kernel⟩
theorem k_code_Pt_checkPoint : Cond.code y_Pt_checkPoint b_Pt_checkPoint 1 (none) ∈ lwg := List.mem_filter.mpr ⟨List.mem_append_right _ (List.mem_of_getElem? (i := 544) (by decide +kernel)), by decide +kernel⟩
theorem k_str_Pt_73 : Cond.stringRef "PropertyTrie" 73 "a point is 0 .. 1114111" ∈ lw_tbl := List.mem_append_right _ (List.mem_of_getElem? (i := 545) (by decide +kernel))
theorem k_ml_Pt_44 : Cond.methodLink "PropertyTrie" 44 y_Pt_valueAt ∈ lwg := List.mem_filter.mpr ⟨List.mem_append_right _ (List.mem_of_getElem? (i := 546) (by decide +kernel)), by decide +kernel⟩
theorem k_im_Pt_valueAt : Cond.instanceMethod y_Pt_valueAt ∈ lwg := List.mem_filter.mpr ⟨List.mem_append_right _ (List.mem_of_getElem? (i := 548) (by decide +kernel)), by decide +kernel⟩
theorem k_code_Pt_valueAt : Cond.code y_Pt_valueAt b_Pt_valueAt 3 ((some .int)) ∈ lwg := List.mem_filter.mpr ⟨List.mem_append_right _ (List.mem_of_getElem? (i := 549) (by decide +kernel)), by decide +kernel⟩
theorem k_ml_Pt_68 : Cond.methodLink "PropertyTrie" 68 y_Rc_value ∈ lwg := List.mem_filter.mpr ⟨List.mem_append_right _ (List.mem_of_getElem? (i := 550) (by decide +kernel)), by decide +kernel⟩
theorem k_im_Rc_value : Cond.instanceMethod y_Rc_value ∈ lwg := List.mem_filter.mpr ⟨List.mem_append_right _ (List.mem_of_getElem? (i := 551) (by decide +kernel)), by decide +kernel⟩
theorem k_sel_Rc_value : Cond.selects "PropertyTrie$Records" y_Rc_value y_Rc_value ∈ lwg := List.mem_filter.mpr ⟨List.mem_append_right _ (List.mem_of_getElem? (i := 552) (by decide +kernel)), by decide +kernel⟩
theorem k_code_Rc_value : Cond.code y_Rc_value b_Rc_value 3 ((some .int)) ∈ lwg := List.mem_filter.mpr ⟨List.mem_append_right _ (List.mem_of_getElem? (i := 553) (by decide +kernel)), by decide +kernel⟩
theorem k_ml_La_56 : Cond.methodLink "PropertyTrieLaw" 56 y_La_change ∈ lwg := List.mem_filter.mpr ⟨List.mem_append_right _ (List.mem_of_getElem? (i := 554) (by decide +kernel)), by decide +kernel⟩
theorem k_st_La_change : Cond.static y_La_change ∈ lwg := List.mem_filter.mpr ⟨List.mem_append_right _ (List.mem_of_getElem? (i := 555) (by decide +kernel)), by decide +kernel⟩
theorem k_with_La_change : Cond.codeWith y_La_change b_La_change 5 ((some .int)) [(0, 10, 13, 13)] ∈ lwg := List.mem_filter.mpr ⟨List.mem_append_right _ (List.mem_of_getElem? (i := 556) (by decide +kernel)), by decide +kernel⟩
theorem k_ml_La_23 : Cond.methodLink "PropertyTrieLaw" 23 y_Pt_change ∈ lwg := List.mem_filter.mpr ⟨List.mem_append_right _ (List.mem_of_getElem? (i := 557) (by decide +kernel)), by decide +kernel⟩
theorem k_im_Pt_change : Cond.instanceMethod y_Pt_change ∈ lwg := List.mem_filter.mpr ⟨List.mem_append_right _ (List.mem_of_getElem? (i := 558) (by decide +kernel)), by decide +kernel⟩
theorem k_sel_Pt_change : Cond.selects "PropertyTrie" y_Pt_change y_Pt_change ∈ lwg := List.mem_filter.mpr ⟨List.mem_append_right _ (List.mem_of_getElem? (i := 559) (by decide +kernel)), by decide +kernel⟩
theorem k_code_Pt_change : Cond.code y_Pt_change b_Pt_change 5 ((some .int)) ∈ lwg := List.mem_filter.mpr ⟨List.mem_append_right _ (List.mem_of_getElem? (i := 560) (by decide +kernel)), by decide +kernel⟩
theorem k_ml_La_59 : Cond.methodLink "PropertyTrieLaw" 59 y_La_alike ∈ lwg := List.mem_filter.mpr ⟨List.mem_append_right _ (List.mem_of_getElem? (i := 561) (by decide +kernel)), by decide +kernel⟩
theorem k_st_La_alike : Cond.static y_La_alike ∈ lwg := List.mem_filter.mpr ⟨List.mem_append_right _ (List.mem_of_getElem? (i := 562) (by decide +kernel)), by decide +kernel⟩
theorem k_with_La_alike : Cond.codeWith y_La_alike b_La_alike 5 ((some .int)) [(0, 17, 20, 13)] ∈ lwg := List.mem_filter.mpr ⟨List.mem_append_right _ (List.mem_of_getElem? (i := 563) (by decide +kernel)), by decide +kernel⟩
theorem k_ml_La_26 : Cond.methodLink "PropertyTrieLaw" 26 y_Pt_alike ∈ lwg := List.mem_filter.mpr ⟨List.mem_append_right _ (List.mem_of_getElem? (i := 564) (by decide +kernel)), by decide +kernel⟩
theorem k_im_Pt_alike : Cond.instanceMethod y_Pt_alike ∈ lwg := List.mem_filter.mpr ⟨List.mem_append_right _ (List.mem_of_getElem? (i := 565) (by decide +kernel)), by decide +kernel⟩
theorem k_sel_Pt_alike : Cond.selects "PropertyTrie" y_Pt_alike y_Pt_alike ∈ lwg := List.mem_filter.mpr ⟨List.mem_append_right _ (List.mem_of_getElem? (i := 566) (by decide +kernel)), by decide +kernel⟩
theorem k_code_Pt_alike : Cond.code y_Pt_alike b_Pt_alike 3 ((some .boolean)) ∈ lwg := List.mem_filter.mpr ⟨List.mem_append_right _ (List.mem_of_getElem? (i := 567) (by decide +kernel)), by decide +kernel⟩
theorem k_ml_La_62 : Cond.methodLink "PropertyTrieLaw" 62 y_La_hash ∈ lwg := List.mem_filter.mpr ⟨List.mem_append_right _ (List.mem_of_getElem? (i := 568) (by decide +kernel)), by decide +kernel⟩
theorem k_st_La_hash : Cond.static y_La_hash ∈ lwg := List.mem_filter.mpr ⟨List.mem_append_right _ (List.mem_of_getElem? (i := 569) (by decide +kernel)), by decide +kernel⟩
theorem k_with_La_hash : Cond.codeWith y_La_hash b_La_hash 6 ((some .int)) [(0, 12, 15, 13)] ∈ lwg := List.mem_filter.mpr ⟨List.mem_append_right _ (List.mem_of_getElem? (i := 570) (by decide +kernel)), by decide +kernel⟩
theorem k_ml_La_30 : Cond.methodLink "PropertyTrieLaw" 30 y_Pt_hash ∈ lwg := List.mem_filter.mpr ⟨List.mem_append_right _ (List.mem_of_getElem? (i := 571) (by decide +kernel)), by decide +kernel⟩
theorem k_im_Pt_hash : Cond.instanceMethod y_Pt_hash ∈ lwg := List.mem_filter.mpr ⟨List.mem_append_right _ (List.mem_of_getElem? (i := 572) (by decide +kernel)), by decide +kernel⟩
theorem k_sel_Pt_hash : Cond.selects "PropertyTrie" y_Pt_hash y_Pt_hash ∈ lwg := List.mem_filter.mpr ⟨List.mem_append_right _ (List.mem_of_getElem? (i := 573) (by decide +kernel)), by decide +kernel⟩
theorem k_code_Pt_hash : Cond.code y_Pt_hash b_Pt_hash 8 ((some .int)) ∈ lwg := List.mem_filter.mpr ⟨List.mem_append_right _ (List.mem_of_getElem? (i := 574) (by decide +kernel)), by decide +kernel⟩
theorem k_ml_Pt_62 : Cond.methodLink "PropertyTrie" 62 y_Pt_checkLength ∈ lwg := List.mem_filter.mpr ⟨List.mem_append_right _ (List.mem_of_getElem? (i := 575) (by decide +kernel)), by decide +kernel⟩
theorem k_st_Pt_checkLength : Cond.static y_Pt_checkLength ∈ lwg := List.mem_filter.mpr ⟨List.mem_append_right _ (List.mem_of_getElem? (i := 576) (by decide +kernel)), by decide +kernel⟩
theorem k_code_Pt_checkLength : Cond.code y_Pt_checkLength b_Pt_checkLength 1 (none) ∈ lwg := List.mem_filter.mpr ⟨List.mem_append_right _ (List.mem_of_getElem? (i := 577) (by decide +kernel)), by decide +kernel⟩
theorem k_str_Pt_82 : Cond.stringRef "PropertyTrie" 82 "a hash is over at most 4000 points" ∈ lw_tbl := List.mem_append_right _ (List.mem_of_getElem? (i := 578) (by decide +kernel))
theorem k_cl_La_35 : Cond.classLink "PropertyTrieLaw" 35 "PropertyTrieModel" ∈ lwg := List.mem_filter.mpr ⟨List.mem_append_right _ (List.mem_of_getElem? (i := 579) (by decide +kernel)), by decide +kernel⟩
theorem k_in_Mo : Cond.instantiable "PropertyTrieModel" 4 ∈ lwg := List.mem_filter.mpr ⟨List.mem_append_right _ (List.mem_of_getElem? (i := 580) (by decide +kernel)), by decide +kernel⟩
theorem k_ml_La_37 : Cond.methodLink "PropertyTrieLaw" 37 y_Mo_init ∈ lwg := List.mem_filter.mpr ⟨List.mem_append_right _ (List.mem_of_getElem? (i := 581) (by decide +kernel)), by decide +kernel⟩
theorem k_im_Mo_init : Cond.instanceMethod y_Mo_init ∈ lwg := List.mem_filter.mpr ⟨List.mem_append_right _ (List.mem_of_getElem? (i := 582) (by decide +kernel)), by decide +kernel⟩
theorem k_code_Mo_init : Cond.code y_Mo_init b_Mo_init 1 (none) ∈ lwg := List.mem_filter.mpr ⟨List.mem_append_right _ (List.mem_of_getElem? (i := 583) (by decide +kernel)), by decide +kernel⟩
theorem k_ml_Mo_1 : Cond.methodLink "PropertyTrieModel" 1 y_Ob_init ∈ lwg := List.mem_filter.mpr ⟨List.mem_append_right _ (List.mem_of_getElem? (i := 584) (by decide +kernel)), by decide +kernel⟩
theorem k_cst_Mo_17 : Cond.constant "PropertyTrieModel" 17 (72000) ∈ lwg := List.mem_filter.mpr ⟨List.mem_append_right _ (List.mem_of_getElem? (i := 585) (by decide +kernel)), by decide +kernel⟩
theorem k_fl_Mo_21 : Cond.fieldLink "PropertyTrieModel" 21 "PropertyTrieModel" "failed" "I" ∈ lwg := List.mem_filter.mpr ⟨List.mem_append_right _ (List.mem_of_getElem? (i := 586) (by decide +kernel)), by decide +kernel⟩
theorem k_fl_Mo_7 : Cond.fieldLink "PropertyTrieModel" 7 "PropertyTrieModel" "count" "I" ∈ lwg := List.mem_filter.mpr ⟨List.mem_append_right _ (List.mem_of_getElem? (i := 587) (by decide +kernel)), by decide +kernel⟩
theorem k_fl_Mo_13 : Cond.fieldLink "PropertyTrieModel" 13 "PropertyTrieModel" "starts" "[I" ∈ lwg := List.mem_filter.mpr ⟨List.mem_append_right _ (List.mem_of_getElem? (i := 588) (by decide +kernel)), by decide +kernel⟩
theorem k_fl_Mo_18 : Cond.fieldLink "PropertyTrieModel" 18 "PropertyTrieModel" "fields" "[I" ∈ lwg := List.mem_filter.mpr ⟨List.mem_append_right _ (List.mem_of_getElem? (i := 589) (by decide +kernel)), by decide +kernel⟩
theorem k_ml_La_44 : Cond.methodLink "PropertyTrieLaw" 44 y_Mo_thrown ∈ lwg := List.mem_filter.mpr ⟨List.mem_append_right _ (List.mem_of_getElem? (i := 599) (by decide +kernel)), by decide +kernel⟩
theorem k_im_Mo_thrown : Cond.instanceMethod y_Mo_thrown ∈ lwg := List.mem_filter.mpr ⟨List.mem_append_right _ (List.mem_of_getElem? (i := 600) (by decide +kernel)), by decide +kernel⟩
theorem k_sel_Mo_thrown : Cond.selects "PropertyTrieModel" y_Mo_thrown y_Mo_thrown ∈ lwg := List.mem_filter.mpr ⟨List.mem_append_right _ (List.mem_of_getElem? (i := 601) (by decide +kernel)), by decide +kernel⟩
theorem k_code_Mo_thrown : Cond.code y_Mo_thrown b_Mo_thrown 1 ((some .int)) ∈ lwg := List.mem_filter.mpr ⟨List.mem_append_right _ (List.mem_of_getElem? (i := 602) (by decide +kernel)), by decide +kernel⟩
theorem k_ml_La_43 : Cond.methodLink "PropertyTrieLaw" 43 y_Mo_set ∈ lwg := List.mem_filter.mpr ⟨List.mem_append_right _ (List.mem_of_getElem? (i := 603) (by decide +kernel)), by decide +kernel⟩
theorem k_im_Mo_set : Cond.instanceMethod y_Mo_set ∈ lwg := List.mem_filter.mpr ⟨List.mem_append_right _ (List.mem_of_getElem? (i := 604) (by decide +kernel)), by decide +kernel⟩
theorem k_sel_Mo_set : Cond.selects "PropertyTrieModel" y_Mo_set y_Mo_set ∈ lwg := List.mem_filter.mpr ⟨List.mem_append_right _ (List.mem_of_getElem? (i := 605) (by decide +kernel)), by decide +kernel⟩
theorem k_code_Mo_set : Cond.code y_Mo_set b_Mo_set 5 ((some .int)) ∈ lwg := List.mem_filter.mpr ⟨List.mem_append_right _ (List.mem_of_getElem? (i := 606) (by decide +kernel)), by decide +kernel⟩
theorem k_ml_Mo_29 : Cond.methodLink "PropertyTrieModel" 29 y_Mo_mark ∈ lwg := List.mem_filter.mpr ⟨List.mem_append_right _ (List.mem_of_getElem? (i := 607) (by decide +kernel)), by decide +kernel⟩
theorem k_im_Mo_mark : Cond.instanceMethod y_Mo_mark ∈ lwg := List.mem_filter.mpr ⟨List.mem_append_right _ (List.mem_of_getElem? (i := 608) (by decide +kernel)), by decide +kernel⟩
theorem k_sel_Mo_mark : Cond.selects "PropertyTrieModel" y_Mo_mark y_Mo_mark ∈ lwg := List.mem_filter.mpr ⟨List.mem_append_right _ (List.mem_of_getElem? (i := 609) (by decide +kernel)), by decide +kernel⟩
theorem k_code_Mo_mark : Cond.code y_Mo_mark b_Mo_mark 7 ((some .int)) ∈ lwg := List.mem_filter.mpr ⟨List.mem_append_right _ (List.mem_of_getElem? (i := 610) (by decide +kernel)), by decide +kernel⟩
theorem k_ml_Mo_33 : Cond.methodLink "PropertyTrieModel" 33 y_Mo_out ∈ lwg := List.mem_filter.mpr ⟨List.mem_append_right _ (List.mem_of_getElem? (i := 611) (by decide +kernel)), by decide +kernel⟩
theorem k_im_Mo_out : Cond.instanceMethod y_Mo_out ∈ lwg := List.mem_filter.mpr ⟨List.mem_append_right _ (List.mem_of_getElem? (i := 613) (by decide +kernel)), by decide +kernel⟩
theorem k_code_Mo_out : Cond.code y_Mo_out b_Mo_out 2 ((some .boolean)) ∈ lwg := List.mem_filter.mpr ⟨List.mem_append_right _ (List.mem_of_getElem? (i := 614) (by decide +kernel)), by decide +kernel⟩
theorem k_cst_Mo_24 : Cond.constant "PropertyTrieModel" 24 (1114111) ∈ lwg := List.mem_filter.mpr ⟨List.mem_append_right _ (List.mem_of_getElem? (i := 615) (by decide +kernel)), by decide +kernel⟩
theorem k_ml_Mo_37 : Cond.methodLink "PropertyTrieModel" 37 y_Mo_fail ∈ lwg := List.mem_filter.mpr ⟨List.mem_append_right _ (List.mem_of_getElem? (i := 616) (by decide +kernel)), by decide +kernel⟩
theorem k_im_Mo_fail : Cond.instanceMethod y_Mo_fail ∈ lwg := List.mem_filter.mpr ⟨List.mem_append_right _ (List.mem_of_getElem? (i := 618) (by decide +kernel)), by decide +kernel⟩
theorem k_code_Mo_fail : Cond.code y_Mo_fail b_Mo_fail 2 ((some .int)) ∈ lwg := List.mem_filter.mpr ⟨List.mem_append_right _ (List.mem_of_getElem? (i := 619) (by decide +kernel)), by decide +kernel⟩
theorem k_ml_Mo_40 : Cond.methodLink "PropertyTrieModel" 40 y_Mo_cut ∈ lwg := List.mem_filter.mpr ⟨List.mem_append_right _ (List.mem_of_getElem? (i := 620) (by decide +kernel)), by decide +kernel⟩
theorem k_im_Mo_cut : Cond.instanceMethod y_Mo_cut ∈ lwg := List.mem_filter.mpr ⟨List.mem_append_right _ (List.mem_of_getElem? (i := 622) (by decide +kernel)), by decide +kernel⟩
theorem k_code_Mo_cut : Cond.code y_Mo_cut b_Mo_cut 5 (none) ∈ lwg := List.mem_filter.mpr ⟨List.mem_append_right _ (List.mem_of_getElem? (i := 623) (by decide +kernel)), by decide +kernel⟩
theorem k_ml_Mo_25 : Cond.methodLink "PropertyTrieModel" 25 y_Mo_at ∈ lwg := List.mem_filter.mpr ⟨List.mem_append_right _ (List.mem_of_getElem? (i := 624) (by decide +kernel)), by decide +kernel⟩
theorem k_im_Mo_at : Cond.instanceMethod y_Mo_at ∈ lwg := List.mem_filter.mpr ⟨List.mem_append_right _ (List.mem_of_getElem? (i := 626) (by decide +kernel)), by decide +kernel⟩
theorem k_code_Mo_at : Cond.code y_Mo_at b_Mo_at 5 ((some .int)) ∈ lwg := List.mem_filter.mpr ⟨List.mem_append_right _ (List.mem_of_getElem? (i := 627) (by decide +kernel)), by decide +kernel⟩
theorem k_ml_La_51 : Cond.methodLink "PropertyTrieLaw" 51 y_Mo_mark ∈ lwg := List.mem_filter.mpr ⟨List.mem_append_right _ (List.mem_of_getElem? (i := 628) (by decide +kernel)), by decide +kernel⟩
theorem k_ml_La_55 : Cond.methodLink "PropertyTrieLaw" 55 y_Mo_get ∈ lwg := List.mem_filter.mpr ⟨List.mem_append_right _ (List.mem_of_getElem? (i := 629) (by decide +kernel)), by decide +kernel⟩
theorem k_im_Mo_get : Cond.instanceMethod y_Mo_get ∈ lwg := List.mem_filter.mpr ⟨List.mem_append_right _ (List.mem_of_getElem? (i := 630) (by decide +kernel)), by decide +kernel⟩
theorem k_sel_Mo_get : Cond.selects "PropertyTrieModel" y_Mo_get y_Mo_get ∈ lwg := List.mem_filter.mpr ⟨List.mem_append_right _ (List.mem_of_getElem? (i := 631) (by decide +kernel)), by decide +kernel⟩
theorem k_code_Mo_get : Cond.code y_Mo_get b_Mo_get 3 ((some .int)) ∈ lwg := List.mem_filter.mpr ⟨List.mem_append_right _ (List.mem_of_getElem? (i := 632) (by decide +kernel)), by decide +kernel⟩
theorem k_ml_La_58 : Cond.methodLink "PropertyTrieLaw" 58 y_Mo_change ∈ lwg := List.mem_filter.mpr ⟨List.mem_append_right _ (List.mem_of_getElem? (i := 633) (by decide +kernel)), by decide +kernel⟩
theorem k_im_Mo_change : Cond.instanceMethod y_Mo_change ∈ lwg := List.mem_filter.mpr ⟨List.mem_append_right _ (List.mem_of_getElem? (i := 634) (by decide +kernel)), by decide +kernel⟩
theorem k_sel_Mo_change : Cond.selects "PropertyTrieModel" y_Mo_change y_Mo_change ∈ lwg := List.mem_filter.mpr ⟨List.mem_append_right _ (List.mem_of_getElem? (i := 635) (by decide +kernel)), by decide +kernel⟩
theorem k_code_Mo_change : Cond.code y_Mo_change b_Mo_change 5 ((some .int)) ∈ lwg := List.mem_filter.mpr ⟨List.mem_append_right _ (List.mem_of_getElem? (i := 636) (by decide +kernel)), by decide +kernel⟩
theorem k_ml_La_61 : Cond.methodLink "PropertyTrieLaw" 61 y_Mo_alike ∈ lwg := List.mem_filter.mpr ⟨List.mem_append_right _ (List.mem_of_getElem? (i := 637) (by decide +kernel)), by decide +kernel⟩
theorem k_im_Mo_alike : Cond.instanceMethod y_Mo_alike ∈ lwg := List.mem_filter.mpr ⟨List.mem_append_right _ (List.mem_of_getElem? (i := 638) (by decide +kernel)), by decide +kernel⟩
theorem k_sel_Mo_alike : Cond.selects "PropertyTrieModel" y_Mo_alike y_Mo_alike ∈ lwg := List.mem_filter.mpr ⟨List.mem_append_right _ (List.mem_of_getElem? (i := 639) (by decide +kernel)), by decide +kernel⟩
theorem k_code_Mo_alike : Cond.code y_Mo_alike b_Mo_alike 4 ((some .boolean)) ∈ lwg := List.mem_filter.mpr ⟨List.mem_append_right _ (List.mem_of_getElem? (i := 640) (by decide +kernel)), by decide +kernel⟩
theorem k_ml_La_65 : Cond.methodLink "PropertyTrieLaw" 65 y_Mo_hash ∈ lwg := List.mem_filter.mpr ⟨List.mem_append_right _ (List.mem_of_getElem? (i := 641) (by decide +kernel)), by decide +kernel⟩
theorem k_im_Mo_hash : Cond.instanceMethod y_Mo_hash ∈ lwg := List.mem_filter.mpr ⟨List.mem_append_right _ (List.mem_of_getElem? (i := 642) (by decide +kernel)), by decide +kernel⟩
theorem k_sel_Mo_hash : Cond.selects "PropertyTrieModel" y_Mo_hash y_Mo_hash ∈ lwg := List.mem_filter.mpr ⟨List.mem_append_right _ (List.mem_of_getElem? (i := 643) (by decide +kernel)), by decide +kernel⟩
theorem k_code_Mo_hash : Cond.code y_Mo_hash b_Mo_hash 6 ((some .int)) ∈ lwg := List.mem_filter.mpr ⟨List.mem_append_right _ (List.mem_of_getElem? (i := 644) (by decide +kernel)), by decide +kernel⟩
theorem k_ml_La_69 : Cond.methodLink "PropertyTrieLaw" 69 y_Mo_clear ∈ lwg := List.mem_filter.mpr ⟨List.mem_append_right _ (List.mem_of_getElem? (i := 645) (by decide +kernel)), by decide +kernel⟩
theorem k_im_Mo_clear : Cond.instanceMethod y_Mo_clear ∈ lwg := List.mem_filter.mpr ⟨List.mem_append_right _ (List.mem_of_getElem? (i := 646) (by decide +kernel)), by decide +kernel⟩
theorem k_sel_Mo_clear : Cond.selects "PropertyTrieModel" y_Mo_clear y_Mo_clear ∈ lwg := List.mem_filter.mpr ⟨List.mem_append_right _ (List.mem_of_getElem? (i := 647) (by decide +kernel)), by decide +kernel⟩
theorem k_code_Mo_clear : Cond.code y_Mo_clear b_Mo_clear 5 ((some .int)) ∈ lwg := List.mem_filter.mpr ⟨List.mem_append_right _ (List.mem_of_getElem? (i := 648) (by decide +kernel)), by decide +kernel⟩
theorem k_ac_long : Cond.arrayClass .long ∈ lwg := List.mem_filter.mpr ⟨List.mem_append_right _ (List.mem_of_getElem? (i := 649) (by decide +kernel)), by decide +kernel⟩
theorem k_sel_Rc_keepWanted : Cond.selects "PropertyTrie$Records" y_Rc_keepWanted y_Rc_keepWanted ∈ lwg := List.mem_filter.mpr ⟨List.mem_append_left _ (by decide +kernel), by decide +kernel⟩
theorem k_sel_Bl_find : Cond.selects "PropertyTrie$Blocks" y_Bl_find y_Bl_find ∈ lwg := List.mem_filter.mpr ⟨List.mem_append_left _ (by decide +kernel), by decide +kernel⟩
theorem k_sel_Bl_splitBefore : Cond.selects "PropertyTrie$Blocks" y_Bl_splitBefore y_Bl_splitBefore ∈ lwg := List.mem_filter.mpr ⟨List.mem_append_left _ (by decide +kernel), by decide +kernel⟩
theorem k_sel_Bl_split : Cond.selects "PropertyTrie$Blocks" y_Bl_split y_Bl_split ∈ lwg := List.mem_filter.mpr ⟨List.mem_append_left _ (by decide +kernel), by decide +kernel⟩
theorem k_sel_Bl_replace : Cond.selects "PropertyTrie$Blocks" y_Bl_replace y_Bl_replace ∈ lwg := List.mem_filter.mpr ⟨List.mem_append_left _ (by decide +kernel), by decide +kernel⟩
theorem k_sel_Rc_findWanted : Cond.selects "PropertyTrie$Records" y_Rc_findWanted y_Rc_findWanted ∈ lwg := List.mem_filter.mpr ⟨List.mem_append_left _ (by decide +kernel), by decide +kernel⟩
theorem k_sel_Rc_isWanted : Cond.selects "PropertyTrie$Records" y_Rc_isWanted y_Rc_isWanted ∈ lwg := List.mem_filter.mpr ⟨List.mem_append_left _ (by decide +kernel), by decide +kernel⟩
theorem k_sel_Rc_drop : Cond.selects "PropertyTrie$Records" y_Rc_drop y_Rc_drop ∈ lwg := List.mem_filter.mpr ⟨List.mem_append_left _ (by decide +kernel), by decide +kernel⟩
theorem k_sel_Bl_joinBelow : Cond.selects "PropertyTrie$Blocks" y_Bl_joinBelow y_Bl_joinBelow ∈ lwg := List.mem_filter.mpr ⟨List.mem_append_left _ (by decide +kernel), by decide +kernel⟩
theorem k_sel_Bl_join : Cond.selects "PropertyTrie$Blocks" y_Bl_join y_Bl_join ∈ lwg := List.mem_filter.mpr ⟨List.mem_append_left _ (by decide +kernel), by decide +kernel⟩
theorem k_sel_Bl_isAllAlike : Cond.selects "PropertyTrie$Blocks" y_Bl_isAllAlike y_Bl_isAllAlike ∈ lwg := List.mem_filter.mpr ⟨List.mem_append_left _ (by decide +kernel), by decide +kernel⟩
theorem k_sel_Pt_valueAt : Cond.selects "PropertyTrie" y_Pt_valueAt y_Pt_valueAt ∈ lwg := List.mem_filter.mpr ⟨List.mem_append_left _ (by decide +kernel), by decide +kernel⟩
theorem k_sel_Mo_out : Cond.selects "PropertyTrieModel" y_Mo_out y_Mo_out ∈ lwg := List.mem_filter.mpr ⟨List.mem_append_left _ (by decide +kernel), by decide +kernel⟩
theorem k_sel_Mo_fail : Cond.selects "PropertyTrieModel" y_Mo_fail y_Mo_fail ∈ lwg := List.mem_filter.mpr ⟨List.mem_append_left _ (by decide +kernel), by decide +kernel⟩
theorem k_sel_Mo_cut : Cond.selects "PropertyTrieModel" y_Mo_cut y_Mo_cut ∈ lwg := List.mem_filter.mpr ⟨List.mem_append_left _ (by decide +kernel), by decide +kernel⟩
theorem k_sel_Mo_at : Cond.selects "PropertyTrieModel" y_Mo_at y_Mo_at ∈ lwg := List.mem_filter.mpr ⟨List.mem_append_left _ (by decide +kernel), by decide +kernel⟩
