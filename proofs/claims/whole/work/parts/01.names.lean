-- ===== PART A: goes FIRST, ahead of the names: the tables' words, and 'selects' of the private methods out of them =====
/-- a private method of a class that the tables say can be made, by its rows of tables_1 -/
def lw_okq (q : MethodName × Nat) : Prop := (q.1.cls ≠ "java/lang/invoke/MethodHandle" ∧ q.1.cls ≠ "java/lang/invoke/VarHandle") ∧ Cond.instantiable q.1.cls q.2 ∈ tables_1 ∧ Cond.privateMethod q.1 ∈ tables_1 ∧ Cond.instanceMethod q.1 ∈ tables_1
theorem lw_p0 : lw_okq (⟨"StackRoom", "canBeMade", "(II)Z"⟩, 10) := ⟨⟨by decide +kernel, by decide +kernel⟩, List.mem_of_getElem? (i := 11) (by decide +kernel), List.mem_of_getElem? (i := 132) (by decide +kernel), List.mem_of_getElem? (i := 133) (by decide +kernel)⟩
theorem lw_p1 : lw_okq (⟨"StackRoom", "survey", "()V"⟩, 10) := ⟨⟨by decide +kernel, by decide +kernel⟩, List.mem_of_getElem? (i := 11) (by decide +kernel), List.mem_of_getElem? (i := 136) (by decide +kernel), List.mem_of_getElem? (i := 137) (by decide +kernel)⟩
theorem lw_p2 : lw_okq (⟨"StackRoom", "reach", "(LStackRoom$Value;)V"⟩, 10) := ⟨⟨by decide +kernel, by decide +kernel⟩, List.mem_of_getElem? (i := 11) (by decide +kernel), List.mem_of_getElem? (i := 140) (by decide +kernel), List.mem_of_getElem? (i := 141) (by decide +kernel)⟩
theorem lw_p3 : lw_okq (⟨"StackRoom", "reachPartsOf", "(LStackRoom$Context;)V"⟩, 10) := ⟨⟨by decide +kernel, by decide +kernel⟩, List.mem_of_getElem? (i := 11) (by decide +kernel), List.mem_of_getElem? (i := 174) (by decide +kernel), List.mem_of_getElem? (i := 175) (by decide +kernel)⟩
theorem lw_p4 : lw_okq (⟨"StackRoom", "methodIn", "(I)LStackRoom$Method;"⟩, 10) := ⟨⟨by decide +kernel, by decide +kernel⟩, List.mem_of_getElem? (i := 11) (by decide +kernel), List.mem_of_getElem? (i := 218) (by decide +kernel), List.mem_of_getElem? (i := 219) (by decide +kernel)⟩
theorem lw_p5 : lw_okq (⟨"StackRoom", "isSender", "(I)Z"⟩, 10) := ⟨⟨by decide +kernel, by decide +kernel⟩, List.mem_of_getElem? (i := 11) (by decide +kernel), List.mem_of_getElem? (i := 230) (by decide +kernel), List.mem_of_getElem? (i := 231) (by decide +kernel)⟩
theorem lw_p6 : lw_okq (⟨"StackRoom", "contextIn", "(I)LStackRoom$Context;"⟩, 10) := ⟨⟨by decide +kernel, by decide +kernel⟩, List.mem_of_getElem? (i := 11) (by decide +kernel), List.mem_of_getElem? (i := 236) (by decide +kernel), List.mem_of_getElem? (i := 237) (by decide +kernel)⟩
theorem lw_p7 : lw_okq (⟨"StackRoomModel", "look", "()V"⟩, 25) := ⟨⟨by decide +kernel, by decide +kernel⟩, List.mem_of_getElem? (i := 452) (by decide +kernel), List.mem_of_getElem? (i := 542) (by decide +kernel), List.mem_of_getElem? (i := 543) (by decide +kernel)⟩
theorem lw_p8 : lw_okq (⟨"StackRoomModel", "see", "(I)V"⟩, 25) := ⟨⟨by decide +kernel, by decide +kernel⟩, List.mem_of_getElem? (i := 452) (by decide +kernel), List.mem_of_getElem? (i := 546) (by decide +kernel), List.mem_of_getElem? (i := 547) (by decide +kernel)⟩
theorem lw_p9 : lw_okq (⟨"StackRoomModel", "make", "(IIII)I"⟩, 25) := ⟨⟨by decide +kernel, by decide +kernel⟩, List.mem_of_getElem? (i := 452) (by decide +kernel), List.mem_of_getElem? (i := 599) (by decide +kernel), List.mem_of_getElem? (i := 600) (by decide +kernel)⟩
theorem lw_p10 : lw_okq (⟨"StackRoomModel", "letGo", "()V"⟩, 25) := ⟨⟨by decide +kernel, by decide +kernel⟩, List.mem_of_getElem? (i := 452) (by decide +kernel), List.mem_of_getElem? (i := 603) (by decide +kernel), List.mem_of_getElem? (i := 604) (by decide +kernel)⟩
theorem lw_p11 : lw_okq (⟨"StackRoomModel", "give", "(IIII)V"⟩, 25) := ⟨⟨by decide +kernel, by decide +kernel⟩, List.mem_of_getElem? (i := 452) (by decide +kernel), List.mem_of_getElem? (i := 607) (by decide +kernel), List.mem_of_getElem? (i := 608) (by decide +kernel)⟩
theorem lw_p12 : lw_okq (⟨"StackRoomModel", "objectIn", "(III)I"⟩, 25) := ⟨⟨by decide +kernel, by decide +kernel⟩, List.mem_of_getElem? (i := 452) (by decide +kernel), List.mem_of_getElem? (i := 615) (by decide +kernel), List.mem_of_getElem? (i := 616) (by decide +kernel)⟩
theorem lw_p13 : lw_okq (⟨"StackRoomModel", "isNilOrContext", "(I)Z"⟩, 25) := ⟨⟨by decide +kernel, by decide +kernel⟩, List.mem_of_getElem? (i := 452) (by decide +kernel), List.mem_of_getElem? (i := 623) (by decide +kernel), List.mem_of_getElem? (i := 624) (by decide +kernel)⟩
theorem lw_p14 : lw_okq (⟨"StackRoomModel", "contextIn", "(I)I"⟩, 25) := ⟨⟨by decide +kernel, by decide +kernel⟩, List.mem_of_getElem? (i := 452) (by decide +kernel), List.mem_of_getElem? (i := 627) (by decide +kernel), List.mem_of_getElem? (i := 628) (by decide +kernel)⟩
theorem lw_p15 : lw_okq (⟨"StackRoomModel", "settle", "(IIIZII)I"⟩, 25) := ⟨⟨by decide +kernel, by decide +kernel⟩, List.mem_of_getElem? (i := 452) (by decide +kernel), List.mem_of_getElem? (i := 631) (by decide +kernel), List.mem_of_getElem? (i := 632) (by decide +kernel)⟩
def lw_privs_1 : List (MethodName × Nat) := [(⟨"StackRoom", "canBeMade", "(II)Z"⟩, 10), (⟨"StackRoom", "survey", "()V"⟩, 10), (⟨"StackRoom", "reach", "(LStackRoom$Value;)V"⟩, 10), (⟨"StackRoom", "reachPartsOf", "(LStackRoom$Context;)V"⟩, 10), (⟨"StackRoom", "methodIn", "(I)LStackRoom$Method;"⟩, 10), (⟨"StackRoom", "isSender", "(I)Z"⟩, 10), (⟨"StackRoom", "contextIn", "(I)LStackRoom$Context;"⟩, 10), (⟨"StackRoomModel", "look", "()V"⟩, 25), (⟨"StackRoomModel", "see", "(I)V"⟩, 25), (⟨"StackRoomModel", "make", "(IIII)I"⟩, 25), (⟨"StackRoomModel", "letGo", "()V"⟩, 25), (⟨"StackRoomModel", "give", "(IIII)V"⟩, 25), (⟨"StackRoomModel", "objectIn", "(III)I"⟩, 25), (⟨"StackRoomModel", "isNilOrContext", "(I)Z"⟩, 25), (⟨"StackRoomModel", "contextIn", "(I)I"⟩, 25), (⟨"StackRoomModel", "settle", "(IIIZII)I"⟩, 25)]
theorem lw_r1 : ∀ q ∈ lw_privs_1, lw_okq q := List.forall_mem_cons.mpr ⟨lw_p0, List.forall_mem_cons.mpr ⟨lw_p1, List.forall_mem_cons.mpr ⟨lw_p2, List.forall_mem_cons.mpr ⟨lw_p3, List.forall_mem_cons.mpr ⟨lw_p4, List.forall_mem_cons.mpr ⟨lw_p5, List.forall_mem_cons.mpr ⟨lw_p6, List.forall_mem_cons.mpr ⟨lw_p7, List.forall_mem_cons.mpr ⟨lw_p8, List.forall_mem_cons.mpr ⟨lw_p9, List.forall_mem_cons.mpr ⟨lw_p10, List.forall_mem_cons.mpr ⟨lw_p11, List.forall_mem_cons.mpr ⟨lw_p12, List.forall_mem_cons.mpr ⟨lw_p13, List.forall_mem_cons.mpr ⟨lw_p14, List.forall_mem_cons.mpr ⟨lw_p15, fun _ h => absurd h List.not_mem_nil⟩⟩⟩⟩⟩⟩⟩⟩⟩⟩⟩⟩⟩⟩⟩⟩
theorem lw_p16 : lw_okq (⟨"StackRoomModel", "homeOf", "(I)I"⟩, 25) := ⟨⟨by decide +kernel, by decide +kernel⟩, List.mem_of_getElem? (i := 452) (by decide +kernel), List.mem_of_getElem? (i := 639) (by decide +kernel), List.mem_of_getElem? (i := 640) (by decide +kernel)⟩
theorem lw_p17 : lw_okq (⟨"StackRoomModel", "pushes", "(II)Z"⟩, 25) := ⟨⟨by decide +kernel, by decide +kernel⟩, List.mem_of_getElem? (i := 452) (by decide +kernel), List.mem_of_getElem? (i := 647) (by decide +kernel), List.mem_of_getElem? (i := 648) (by decide +kernel)⟩
theorem lw_p18 : lw_okq (⟨"StackRoomModel", "floorOf", "(I)I"⟩, 25) := ⟨⟨by decide +kernel, by decide +kernel⟩, List.mem_of_getElem? (i := 452) (by decide +kernel), List.mem_of_getElem? (i := 659) (by decide +kernel), List.mem_of_getElem? (i := 660) (by decide +kernel)⟩
theorem lw_p19 : lw_okq (⟨"StackRoomModel", "popped", "(I)I"⟩, 25) := ⟨⟨by decide +kernel, by decide +kernel⟩, List.mem_of_getElem? (i := 452) (by decide +kernel), List.mem_of_getElem? (i := 663) (by decide +kernel), List.mem_of_getElem? (i := 664) (by decide +kernel)⟩
theorem lw_p20 : lw_okq (⟨"StackRoomModel", "placeOf", "(II)I"⟩, 25) := ⟨⟨by decide +kernel, by decide +kernel⟩, List.mem_of_getElem? (i := 452) (by decide +kernel), List.mem_of_getElem? (i := 711) (by decide +kernel), List.mem_of_getElem? (i := 712) (by decide +kernel)⟩
def lw_privs_2 : List (MethodName × Nat) := [(⟨"StackRoomModel", "homeOf", "(I)I"⟩, 25), (⟨"StackRoomModel", "pushes", "(II)Z"⟩, 25), (⟨"StackRoomModel", "floorOf", "(I)I"⟩, 25), (⟨"StackRoomModel", "popped", "(I)I"⟩, 25), (⟨"StackRoomModel", "placeOf", "(II)I"⟩, 25)]
theorem lw_r2 : ∀ q ∈ lw_privs_2, lw_okq q := List.forall_mem_cons.mpr ⟨lw_p16, List.forall_mem_cons.mpr ⟨lw_p17, List.forall_mem_cons.mpr ⟨lw_p18, List.forall_mem_cons.mpr ⟨lw_p19, List.forall_mem_cons.mpr ⟨lw_p20, fun _ h => absurd h List.not_mem_nil⟩⟩⟩⟩⟩
def lw_privs : List (MethodName × Nat) := lw_privs_1 ++ (lw_privs_2)
def lw_tbl : List Cond := k2_sels lw_privs ++ tables_1
theorem lw_privs_ok : ∀ q ∈ lw_privs, lw_okq q := by
  show ∀ q ∈ lw_privs_1 ++ (lw_privs_2), lw_okq q
  exact List.forall_mem_append.mpr ⟨lw_r1, lw_r2⟩
def T_S : u_T := fun k => match k with
  | 0 => ("StackRoom", "allWords", "I", true)
  | 1 => ("StackRoom", "allEntries", "I", true)
  | 2 => ("StackRoom", "registers", "[LStackRoom$Value;", true)
  | 3 => ("StackRoom", "made", "I", false)
  | 4 => ("StackRoom", "reached", "[LStackRoom$Thing;", true)
  | 5 => ("StackRoom", "reachedCount", "I", false)
  | 6 => ("StackRoom", "round", "I", false)
  | 7 => ("StackRoom", "wordsLeft", "I", false)
  | 8 => ("StackRoom", "entriesLeft", "I", false)
  | _ => ("StackRoom", "contextsReached", "I", false)
def ty_S : Nat → FieldType := fun k => match k with
  | 0 => .int
  | 1 => .int
  | 2 => .array (.object "StackRoom$Value")
  | 3 => .int
  | 4 => .array (.object "StackRoom$Thing")
  | 5 => .int
  | 6 => .int
  | 7 => .int
  | 8 => .int
  | _ => .int
theorem nm_S : ∀ a, a < 10 → ∀ b, b < 10 → a ≠ b → (T_S a).2.1 ≠ (T_S b).2.1 := by decide +kernel
theorem tk_S : ∀ k, k < 10 → parseFieldDescriptor (T_S k).2.2.1 = some (ty_S k) := by decide +kernel
theorem in_S : ∀ w ∈ u_ws "StackRoom" T_S 10, w ∈ lw_tbl.filter goodWord := by decide +kernel
def T_W : u_T := fun k => match k with
  | _ => ("StackRoom$Whole", "amount", "I", true)
def ty_W : Nat → FieldType := fun k => match k with
  | _ => .int
theorem nm_W : ∀ a, a < 1 → ∀ b, b < 1 → a ≠ b → (T_W a).2.1 ≠ (T_W b).2.1 := by decide +kernel
theorem tk_W : ∀ k, k < 1 → parseFieldDescriptor (T_W k).2.2.1 = some (ty_W k) := by decide +kernel
theorem in_W : ∀ w ∈ u_ws "StackRoom$Whole" T_W 1, w ∈ lw_tbl.filter goodWord := by decide +kernel
def T_M : u_T := fun k => match k with
  | 0 => ("StackRoom$Thing", "identity", "I", true)
  | 1 => ("StackRoom$Thing", "round", "I", false)
  | 2 => ("StackRoom$Method", "temporaries", "I", false)
  | _ => ("StackRoom$Method", "depth", "I", false)
def ty_M : Nat → FieldType := fun k => match k with
  | 0 => .int
  | 1 => .int
  | 2 => .int
  | _ => .int
theorem nm_M : ∀ a, a < 4 → ∀ b, b < 4 → a ≠ b → (T_M a).2.1 ≠ (T_M b).2.1 := by decide +kernel
theorem tk_M : ∀ k, k < 4 → parseFieldDescriptor (T_M k).2.2.1 = some (ty_M k) := by decide +kernel
theorem in_M : ∀ w ∈ u_ws "StackRoom$Method" T_M 4, w ∈ lw_tbl.filter goodWord := by decide +kernel
def T_X : u_T := fun k => match k with
  | 0 => ("StackRoom$Thing", "identity", "I", true)
  | 1 => ("StackRoom$Thing", "round", "I", false)
  | 2 => ("StackRoom$Context", "sender", "LStackRoom$Context;", false)
  | 3 => ("StackRoom$Context", "dead", "Z", false)
  | 4 => ("StackRoom$Context", "height", "I", false)
  | 5 => ("StackRoom$Context", "fields", "[LStackRoom$Value;", true)
  | _ => ("StackRoom$MethodContext", "method", "LStackRoom$Method;", true)
def ty_X : Nat → FieldType := fun k => match k with
  | 0 => .int
  | 1 => .int
  | 2 => .object "StackRoom$Context"
  | 3 => .boolean
  | 4 => .int
  | 5 => .array (.object "StackRoom$Value")
  | _ => .object "StackRoom$Method"
theorem nm_X : ∀ a, a < 7 → ∀ b, b < 7 → a ≠ b → (T_X a).2.1 ≠ (T_X b).2.1 := by decide +kernel
theorem tk_X : ∀ k, k < 7 → parseFieldDescriptor (T_X k).2.2.1 = some (ty_X k) := by decide +kernel
theorem in_X : ∀ w ∈ u_ws "StackRoom$MethodContext" T_X 7, w ∈ lw_tbl.filter goodWord := by decide +kernel
def T_B : u_T := fun k => match k with
  | 0 => ("StackRoom$Thing", "identity", "I", true)
  | 1 => ("StackRoom$Thing", "round", "I", false)
  | 2 => ("StackRoom$Context", "sender", "LStackRoom$Context;", false)
  | 3 => ("StackRoom$Context", "dead", "Z", false)
  | 4 => ("StackRoom$Context", "height", "I", false)
  | 5 => ("StackRoom$Context", "fields", "[LStackRoom$Value;", true)
  | 6 => ("StackRoom$BlockContext", "home", "LStackRoom$MethodContext;", true)
  | _ => ("StackRoom$BlockContext", "count", "I", true)
def ty_B : Nat → FieldType := fun k => match k with
  | 0 => .int
  | 1 => .int
  | 2 => .object "StackRoom$Context"
  | 3 => .boolean
  | 4 => .int
  | 5 => .array (.object "StackRoom$Value")
  | 6 => .object "StackRoom$MethodContext"
  | _ => .int
theorem nm_B : ∀ a, a < 8 → ∀ b, b < 8 → a ≠ b → (T_B a).2.1 ≠ (T_B b).2.1 := by decide +kernel
theorem tk_B : ∀ k, k < 8 → parseFieldDescriptor (T_B k).2.2.1 = some (ty_B k) := by decide +kernel
theorem in_B : ∀ w ∈ u_ws "StackRoom$BlockContext" T_B 8, w ∈ lw_tbl.filter goodWord := by decide +kernel
def T_R : u_T := fun k => match k with
  | 0 => ("StackRoomModel", "words", "I", true)
  | 1 => ("StackRoomModel", "entries", "I", true)
  | 2 => ("StackRoomModel", "made", "I", false)
  | 3 => ("StackRoomModel", "registers", "[I", true)
  | 4 => ("StackRoomModel", "kinds", "[B", true)
  | 5 => ("StackRoomModel", "identities", "[I", true)
  | 6 => ("StackRoomModel", "arguments", "[I", true)
  | 7 => ("StackRoomModel", "temporaries", "[I", true)
  | 8 => ("StackRoomModel", "depths", "[I", true)
  | 9 => ("StackRoomModel", "senders", "[I", true)
  | 10 => ("StackRoomModel", "dead", "[Z", true)
  | 11 => ("StackRoomModel", "heights", "[I", true)
  | 12 => ("StackRoomModel", "links", "[I", true)
  | 13 => ("StackRoomModel", "counts", "[I", true)
  | 14 => ("StackRoomModel", "begins", "[I", true)
  | 15 => ("StackRoomModel", "rooms", "[I", true)
  | 16 => ("StackRoomModel", "fields", "[I", false)
  | 17 => ("StackRoomModel", "other", "[I", false)
  | 18 => ("StackRoomModel", "used", "I", false)
  | 19 => ("StackRoomModel", "seen", "[Z", true)
  | 20 => ("StackRoomModel", "todo", "[I", true)
  | 21 => ("StackRoomModel", "reached", "I", false)
  | 22 => ("StackRoomModel", "reachedObjects", "I", false)
  | 23 => ("StackRoomModel", "reachedWords", "I", false)
  | _ => ("StackRoomModel", "reachedContexts", "I", false)
def ty_R : Nat → FieldType := fun k => match k with
  | 0 => .int
  | 1 => .int
  | 2 => .int
  | 3 => .array .int
  | 4 => .array .byte
  | 5 => .array .int
  | 6 => .array .int
  | 7 => .array .int
  | 8 => .array .int
  | 9 => .array .int
  | 10 => .array .boolean
  | 11 => .array .int
  | 12 => .array .int
  | 13 => .array .int
  | 14 => .array .int
  | 15 => .array .int
  | 16 => .array .int
  | 17 => .array .int
  | 18 => .int
  | 19 => .array .boolean
  | 20 => .array .int
  | 21 => .int
  | 22 => .int
  | 23 => .int
  | _ => .int
theorem nm_R : ∀ a, a < 25 → ∀ b, b < 25 → a ≠ b → (T_R a).2.1 ≠ (T_R b).2.1 := by decide +kernel
theorem tk_R : ∀ k, k < 25 → parseFieldDescriptor (T_R k).2.2.1 = some (ty_R k) := by decide +kernel
theorem in_R : ∀ w ∈ u_ws "StackRoomModel" T_R 25, w ∈ lw_tbl.filter goodWord := by decide +kernel
abbrev vwCl : List vw_C := [("StackRoom", T_S, 10), ("StackRoom$Whole", T_W, 1), ("StackRoom$Method", T_M, 4), ("StackRoom$MethodContext", T_X, 7), ("StackRoom$BlockContext", T_B, 8), ("StackRoomModel", T_R, 25)]
abbrev b_S_init : ByteArray := prog_1_method_1_code
def y_S_init : MethodName := ⟨"StackRoom", "<init>", "(II)V"⟩
abbrev b_O_init : ByteArray := ⟨#[0xb1]⟩
def y_O_init : MethodName := ⟨"java/lang/Object", "<init>", "()V"⟩
abbrev b_S_isWithin : ByteArray := prog_1_method_29_code
def y_S_isWithin : MethodName := ⟨"StackRoom", "isWithin", "(III)Z"⟩
abbrev b_S_number : ByteArray := prog_1_method_2_code
def y_S_number : MethodName := ⟨"StackRoom", "number", "(II)Z"⟩
abbrev b_S_isRegister : ByteArray := prog_1_method_30_code
def y_S_isRegister : MethodName := ⟨"StackRoom", "isRegister", "(I)Z"⟩
abbrev b_S_isNumber : ByteArray := prog_1_method_31_code
def y_S_isNumber : MethodName := ⟨"StackRoom", "isNumber", "(I)Z"⟩
abbrev b_W_init : ByteArray := prog_8_method_1_code
def y_W_init : MethodName := ⟨"StackRoom$Whole", "<init>", "(I)V"⟩
abbrev b_V_init : ByteArray := prog_7_method_1_code
def y_V_init : MethodName := ⟨"StackRoom$Value", "<init>", "()V"⟩
abbrev b_S_move : ByteArray := prog_1_method_3_code
def y_S_move : MethodName := ⟨"StackRoom", "move", "(II)Z"⟩
abbrev b_S_clear : ByteArray := prog_1_method_4_code
def y_S_clear : MethodName := ⟨"StackRoom", "clear", "(I)Z"⟩
abbrev b_S_kind : ByteArray := prog_1_method_5_code
def y_S_kind : MethodName := ⟨"StackRoom", "kind", "(I)I"⟩
abbrev b_B_kindCode : ByteArray := prog_2_method_2_code
def y_B_kindCode : MethodName := ⟨"StackRoom$BlockContext", "kindCode", "()I"⟩
abbrev b_M_kindCode : ByteArray := prog_4_method_3_code
def y_M_kindCode : MethodName := ⟨"StackRoom$Method", "kindCode", "()I"⟩
abbrev b_X_kindCode : ByteArray := prog_5_method_3_code
def y_X_kindCode : MethodName := ⟨"StackRoom$MethodContext", "kindCode", "()I"⟩
abbrev b_W_kindCode : ByteArray := prog_8_method_2_code
def y_W_kindCode : MethodName := ⟨"StackRoom$Whole", "kindCode", "()I"⟩
abbrev b_S_value : ByteArray := prog_1_method_6_code
def y_S_value : MethodName := ⟨"StackRoom", "value", "(I)I"⟩
abbrev b_T_shown : ByteArray := prog_6_method_2_code
def y_T_shown : MethodName := ⟨"StackRoom$Thing", "shown", "()I"⟩
abbrev b_W_shown : ByteArray := prog_8_method_3_code
def y_W_shown : MethodName := ⟨"StackRoom$Whole", "shown", "()I"⟩
abbrev b_S_method : ByteArray := prog_1_method_7_code
def y_S_method : MethodName := ⟨"StackRoom", "method", "(IIII)I"⟩
abbrev b_S_areMethodNumbers : ByteArray := prog_1_method_33_code
def y_S_areMethodNumbers : MethodName := ⟨"StackRoom", "areMethodNumbers", "(III)Z"⟩
abbrev b_S_canBeMade : ByteArray := prog_1_method_37_code
def y_S_canBeMade : MethodName := ⟨"StackRoom", "canBeMade", "(II)Z"⟩
abbrev b_S_survey : ByteArray := prog_1_method_38_code
def y_S_survey : MethodName := ⟨"StackRoom", "survey", "()V"⟩
abbrev b_S_reach : ByteArray := prog_1_method_40_code
def y_S_reach : MethodName := ⟨"StackRoom", "reach", "(LStackRoom$Value;)V"⟩
abbrev b_C_wordsTaken : ByteArray := prog_3_method_6_code
def y_C_wordsTaken : MethodName := ⟨"StackRoom$Context", "wordsTaken", "()I"⟩
abbrev b_B_headFields : ByteArray := prog_2_method_3_code
def y_B_headFields : MethodName := ⟨"StackRoom$BlockContext", "headFields", "()I"⟩
abbrev b_X_headFields : ByteArray := prog_5_method_4_code
def y_X_headFields : MethodName := ⟨"StackRoom$MethodContext", "headFields", "()I"⟩
abbrev b_M_wordsTaken : ByteArray := prog_4_method_4_code
def y_M_wordsTaken : MethodName := ⟨"StackRoom$Method", "wordsTaken", "()I"⟩
abbrev b_C_entriesTaken : ByteArray := prog_3_method_7_code
def y_C_entriesTaken : MethodName := ⟨"StackRoom$Context", "entriesTaken", "()I"⟩
abbrev b_M_entriesTaken : ByteArray := prog_4_method_5_code
def y_M_entriesTaken : MethodName := ⟨"StackRoom$Method", "entriesTaken", "()I"⟩
abbrev b_S_reachPartsOf : ByteArray := prog_1_method_39_code
def y_S_reachPartsOf : MethodName := ⟨"StackRoom", "reachPartsOf", "(LStackRoom$Context;)V"⟩
abbrev b_B_origin : ByteArray := prog_2_method_6_code
def y_B_origin : MethodName := ⟨"StackRoom$BlockContext", "origin", "()LStackRoom$Thing;"⟩
abbrev b_X_origin : ByteArray := prog_5_method_7_code
def y_X_origin : MethodName := ⟨"StackRoom$MethodContext", "origin", "()LStackRoom$Thing;"⟩
abbrev b_M_init : ByteArray := prog_4_method_1_code
def y_M_init : MethodName := ⟨"StackRoom$Method", "<init>", "(III)V"⟩
abbrev b_T_init : ByteArray := prog_6_method_1_code
def y_T_init : MethodName := ⟨"StackRoom$Thing", "<init>", "(I)V"⟩
abbrev b_S_change : ByteArray := prog_1_method_8_code
def y_S_change : MethodName := ⟨"StackRoom", "change", "(IIII)Z"⟩
abbrev b_S_methodIn : ByteArray := prog_1_method_35_code
def y_S_methodIn : MethodName := ⟨"StackRoom", "methodIn", "(I)LStackRoom$Method;"⟩
abbrev b_M_setNumbers : ByteArray := prog_4_method_2_code
def y_M_setNumbers : MethodName := ⟨"StackRoom$Method", "setNumbers", "(II)V"⟩
abbrev b_S_context : ByteArray := prog_1_method_9_code
def y_S_context : MethodName := ⟨"StackRoom", "context", "(III)I"⟩
abbrev b_S_isSender : ByteArray := prog_1_method_34_code
def y_S_isSender : MethodName := ⟨"StackRoom", "isSender", "(I)Z"⟩
abbrev b_S_contextIn : ByteArray := prog_1_method_36_code
def y_S_contextIn : MethodName := ⟨"StackRoom", "contextIn", "(I)LStackRoom$Context;"⟩
abbrev b_X_init : ByteArray := prog_5_method_1_code
def y_X_init : MethodName := ⟨"StackRoom$MethodContext", "<init>", "(ILStackRoom$Method;LStackRoom$Context;)V"⟩
abbrev b_C_init : ByteArray := prog_3_method_1_code
def y_C_init : MethodName := ⟨"StackRoom$Context", "<init>", "(ILStackRoom$Context;ZII)V"⟩
abbrev b_S_block : ByteArray := prog_1_method_10_code
def y_S_block : MethodName := ⟨"StackRoom", "block", "(III)I"⟩
abbrev b_B_homeContext : ByteArray := prog_2_method_5_code
def y_B_homeContext : MethodName := ⟨"StackRoom$BlockContext", "homeContext", "()LStackRoom$MethodContext;"⟩
abbrev b_X_homeContext : ByteArray := prog_5_method_6_code
def y_X_homeContext : MethodName := ⟨"StackRoom$MethodContext", "homeContext", "()LStackRoom$MethodContext;"⟩
abbrev b_B_init : ByteArray := prog_2_method_1_code
def y_B_init : MethodName := ⟨"StackRoom$BlockContext", "<init>", "(ILStackRoom$MethodContext;I)V"⟩
abbrev b_S_push : ByteArray := prog_1_method_11_code
def y_S_push : MethodName := ⟨"StackRoom", "push", "(II)Z"⟩
abbrev b_C_isFull : ByteArray := prog_3_method_8_code
def y_C_isFull : MethodName := ⟨"StackRoom$Context", "isFull", "()Z"⟩
abbrev b_C_pushOne : ByteArray := prog_3_method_13_code
def y_C_pushOne : MethodName := ⟨"StackRoom$Context", "pushOne", "(LStackRoom$Value;)V"⟩
abbrev b_C_putField : ByteArray := prog_3_method_12_code
def y_C_putField : MethodName := ⟨"StackRoom$Context", "putField", "(ILStackRoom$Value;)V"⟩
abbrev b_C_hasField : ByteArray := prog_3_method_10_code
def y_C_hasField : MethodName := ⟨"StackRoom$Context", "hasField", "(I)Z"⟩
abbrev b_S_fill : ByteArray := prog_1_method_12_code
def y_S_fill : MethodName := ⟨"StackRoom", "fill", "(III)I"⟩
abbrev b_S_areNumbers : ByteArray := prog_1_method_32_code
def y_S_areNumbers : MethodName := ⟨"StackRoom", "areNumbers", "(II)Z"⟩
abbrev b_S_pop : ByteArray := prog_1_method_13_code
def y_S_pop : MethodName := ⟨"StackRoom", "pop", "(II)Z"⟩
abbrev b_C_depthNow : ByteArray := prog_3_method_9_code
def y_C_depthNow : MethodName := ⟨"StackRoom$Context", "depthNow", "()I"⟩
abbrev b_B_floorNow : ByteArray := prog_2_method_4_code
def y_B_floorNow : MethodName := ⟨"StackRoom$BlockContext", "floorNow", "()I"⟩
abbrev b_X_floorNow : ByteArray := prog_5_method_5_code
def y_X_floorNow : MethodName := ⟨"StackRoom$MethodContext", "floorNow", "()I"⟩
abbrev b_C_popOne : ByteArray := prog_3_method_14_code
def y_C_popOne : MethodName := ⟨"StackRoom$Context", "popOne", "()LStackRoom$Value;"⟩
abbrev b_C_fieldAt : ByteArray := prog_3_method_11_code
def y_C_fieldAt : MethodName := ⟨"StackRoom$Context", "fieldAt", "(I)LStackRoom$Value;"⟩
abbrev b_S_peek : ByteArray := prog_1_method_14_code
def y_S_peek : MethodName := ⟨"StackRoom", "peek", "(III)Z"⟩
abbrev b_S_drop : ByteArray := prog_1_method_15_code
def y_S_drop : MethodName := ⟨"StackRoom", "drop", "(II)Z"⟩
abbrev b_S_height : ByteArray := prog_1_method_16_code
def y_S_height : MethodName := ⟨"StackRoom", "height", "(I)I"⟩
abbrev b_S_room : ByteArray := prog_1_method_17_code
def y_S_room : MethodName := ⟨"StackRoom", "room", "(I)I"⟩
abbrev b_S_floor : ByteArray := prog_1_method_18_code
def y_S_floor : MethodName := ⟨"StackRoom", "floor", "(I)I"⟩
abbrev b_S_count : ByteArray := prog_1_method_19_code
def y_S_count : MethodName := ⟨"StackRoom", "count", "(I)I"⟩
abbrev b_S_home : ByteArray := prog_1_method_20_code
def y_S_home : MethodName := ⟨"StackRoom", "home", "(II)Z"⟩
abbrev b_S_sender : ByteArray := prog_1_method_21_code
def y_S_sender : MethodName := ⟨"StackRoom", "sender", "(II)Z"⟩
abbrev b_S_send : ByteArray := prog_1_method_22_code
def y_S_send : MethodName := ⟨"StackRoom", "send", "(II)Z"⟩
abbrev b_S_kill : ByteArray := prog_1_method_23_code
def y_S_kill : MethodName := ⟨"StackRoom", "kill", "(IZ)Z"⟩
abbrev b_S_temporary : ByteArray := prog_1_method_24_code
def y_S_temporary : MethodName := ⟨"StackRoom", "temporary", "(III)Z"⟩
abbrev b_X_hasTemporary : ByteArray := prog_5_method_2_code
def y_X_hasTemporary : MethodName := ⟨"StackRoom$MethodContext", "hasTemporary", "(I)Z"⟩
abbrev b_S_keep : ByteArray := prog_1_method_25_code
def y_S_keep : MethodName := ⟨"StackRoom", "keep", "(III)Z"⟩
abbrev b_S_words : ByteArray := prog_1_method_26_code
def y_S_words : MethodName := ⟨"StackRoom", "words", "()I"⟩
abbrev b_S_entries : ByteArray := prog_1_method_27_code
def y_S_entries : MethodName := ⟨"StackRoom", "entries", "()I"⟩
abbrev b_S_contexts : ByteArray := prog_1_method_28_code
def y_S_contexts : MethodName := ⟨"StackRoom", "contexts", "()I"⟩
abbrev b_L_cell : ByteArray := method_2_code
def y_L_cell : MethodName := ⟨"StackRoomLaw", "cell", "([II)I"⟩
abbrev b_R_init : ByteArray := prog_10_method_1_code
def y_R_init : MethodName := ⟨"StackRoomModel", "<init>", "(II)V"⟩
abbrev b_R_words : ByteArray := prog_10_method_11_code
def y_R_words : MethodName := ⟨"StackRoomModel", "words", "()I"⟩
abbrev b_R_look : ByteArray := prog_10_method_10_code
def y_R_look : MethodName := ⟨"StackRoomModel", "look", "()V"⟩
abbrev b_R_see : ByteArray := prog_10_method_9_code
def y_R_see : MethodName := ⟨"StackRoomModel", "see", "(I)V"⟩
abbrev b_R_isObject : ByteArray := prog_10_method_5_code
def y_R_isObject : MethodName := ⟨"StackRoomModel", "isObject", "(I)Z"⟩
abbrev b_R_entries : ByteArray := prog_10_method_12_code
def y_R_entries : MethodName := ⟨"StackRoomModel", "entries", "()I"⟩
abbrev b_R_contexts : ByteArray := prog_10_method_13_code
def y_R_contexts : MethodName := ⟨"StackRoomModel", "contexts", "()I"⟩
abbrev b_R_number : ByteArray := prog_10_method_16_code
def y_R_number : MethodName := ⟨"StackRoomModel", "number", "(II)Z"⟩
abbrev b_R_isRegister : ByteArray := prog_10_method_2_code
def y_R_isRegister : MethodName := ⟨"StackRoomModel", "isRegister", "(I)Z"⟩
abbrev b_R_isNumber : ByteArray := prog_10_method_3_code
def y_R_isNumber : MethodName := ⟨"StackRoomModel", "isNumber", "(I)Z"⟩
abbrev b_R_numeral : ByteArray := prog_10_method_4_code
def y_R_numeral : MethodName := ⟨"StackRoomModel", "numeral", "(I)I"⟩
abbrev b_R_move : ByteArray := prog_10_method_17_code
def y_R_move : MethodName := ⟨"StackRoomModel", "move", "(II)Z"⟩
abbrev b_R_clear : ByteArray := prog_10_method_18_code
def y_R_clear : MethodName := ⟨"StackRoomModel", "clear", "(I)Z"⟩
abbrev b_R_kind : ByteArray := prog_10_method_19_code
def y_R_kind : MethodName := ⟨"StackRoomModel", "kind", "(I)I"⟩
abbrev b_R_value : ByteArray := prog_10_method_20_code
def y_R_value : MethodName := ⟨"StackRoomModel", "value", "(I)I"⟩
abbrev b_R_method : ByteArray := prog_10_method_23_code
def y_R_method : MethodName := ⟨"StackRoomModel", "method", "(IIII)I"⟩
abbrev b_R_isMethod : ByteArray := prog_10_method_21_code
def y_R_isMethod : MethodName := ⟨"StackRoomModel", "isMethod", "(III)Z"⟩
abbrev b_R_make : ByteArray := prog_10_method_15_code
def y_R_make : MethodName := ⟨"StackRoomModel", "make", "(IIII)I"⟩
abbrev b_R_letGo : ByteArray := prog_10_method_14_code
def y_R_letGo : MethodName := ⟨"StackRoomModel", "letGo", "()V"⟩
abbrev b_R_give : ByteArray := prog_10_method_22_code
def y_R_give : MethodName := ⟨"StackRoomModel", "give", "(IIII)V"⟩
abbrev b_R_change : ByteArray := prog_10_method_24_code
def y_R_change : MethodName := ⟨"StackRoomModel", "change", "(IIII)Z"⟩
abbrev b_R_objectIn : ByteArray := prog_10_method_6_code
def y_R_objectIn : MethodName := ⟨"StackRoomModel", "objectIn", "(III)I"⟩
abbrev b_R_context : ByteArray := prog_10_method_26_code
def y_R_context : MethodName := ⟨"StackRoomModel", "context", "(III)I"⟩
abbrev b_R_isNilOrContext : ByteArray := prog_10_method_8_code
def y_R_isNilOrContext : MethodName := ⟨"StackRoomModel", "isNilOrContext", "(I)Z"⟩
abbrev b_R_contextIn : ByteArray := prog_10_method_7_code
def y_R_contextIn : MethodName := ⟨"StackRoomModel", "contextIn", "(I)I"⟩
abbrev b_R_settle : ByteArray := prog_10_method_25_code
def y_R_settle : MethodName := ⟨"StackRoomModel", "settle", "(IIIZII)I"⟩
abbrev b_R_block : ByteArray := prog_10_method_28_code
def y_R_block : MethodName := ⟨"StackRoomModel", "block", "(III)I"⟩
abbrev b_R_homeOf : ByteArray := prog_10_method_27_code
def y_R_homeOf : MethodName := ⟨"StackRoomModel", "homeOf", "(I)I"⟩
abbrev b_R_push : ByteArray := prog_10_method_31_code
def y_R_push : MethodName := ⟨"StackRoomModel", "push", "(II)Z"⟩
abbrev b_R_pushes : ByteArray := prog_10_method_30_code
def y_R_pushes : MethodName := ⟨"StackRoomModel", "pushes", "(II)Z"⟩
abbrev b_R_fill : ByteArray := prog_10_method_32_code
def y_R_fill : MethodName := ⟨"StackRoomModel", "fill", "(III)I"⟩
abbrev b_R_pop : ByteArray := prog_10_method_34_code
def y_R_pop : MethodName := ⟨"StackRoomModel", "pop", "(II)Z"⟩
abbrev b_R_floorOf : ByteArray := prog_10_method_29_code
def y_R_floorOf : MethodName := ⟨"StackRoomModel", "floorOf", "(I)I"⟩
abbrev b_R_popped : ByteArray := prog_10_method_33_code
def y_R_popped : MethodName := ⟨"StackRoomModel", "popped", "(I)I"⟩
abbrev b_R_peek : ByteArray := prog_10_method_35_code
def y_R_peek : MethodName := ⟨"StackRoomModel", "peek", "(III)Z"⟩
abbrev b_R_drop : ByteArray := prog_10_method_36_code
def y_R_drop : MethodName := ⟨"StackRoomModel", "drop", "(II)Z"⟩
abbrev b_R_height : ByteArray := prog_10_method_37_code
def y_R_height : MethodName := ⟨"StackRoomModel", "height", "(I)I"⟩
abbrev b_R_room : ByteArray := prog_10_method_38_code
def y_R_room : MethodName := ⟨"StackRoomModel", "room", "(I)I"⟩
abbrev b_R_floor : ByteArray := prog_10_method_39_code
def y_R_floor : MethodName := ⟨"StackRoomModel", "floor", "(I)I"⟩
abbrev b_R_count : ByteArray := prog_10_method_40_code
def y_R_count : MethodName := ⟨"StackRoomModel", "count", "(I)I"⟩
abbrev b_R_home : ByteArray := prog_10_method_41_code
def y_R_home : MethodName := ⟨"StackRoomModel", "home", "(II)Z"⟩
abbrev b_R_sender : ByteArray := prog_10_method_42_code
def y_R_sender : MethodName := ⟨"StackRoomModel", "sender", "(II)Z"⟩
abbrev b_R_send : ByteArray := prog_10_method_43_code
def y_R_send : MethodName := ⟨"StackRoomModel", "send", "(II)Z"⟩
abbrev b_R_kill : ByteArray := prog_10_method_44_code
def y_R_kill : MethodName := ⟨"StackRoomModel", "kill", "(IZ)Z"⟩
abbrev b_R_temporary : ByteArray := prog_10_method_46_code
def y_R_temporary : MethodName := ⟨"StackRoomModel", "temporary", "(III)Z"⟩
abbrev b_R_placeOf : ByteArray := prog_10_method_45_code
def y_R_placeOf : MethodName := ⟨"StackRoomModel", "placeOf", "(II)I"⟩
abbrev b_R_keep : ByteArray := prog_10_method_47_code
def y_R_keep : MethodName := ⟨"StackRoomModel", "keep", "(III)Z"⟩
/-- the words that a method's words may hold; those that it is told beside them -/
def gt : List Cond := lw_tbl.filter goodWord
def nestWord : Cond → Bool
  | .fieldLinkNest .. | .methodLinkNest .. | .declares .. | .castable .. => true
  | _ => false
def nt : List Cond := lw_tbl.filter nestWord
theorem ini_L : Cond.initialized "StackRoomLaw" ∈ gt := List.mem_filter.mpr ⟨List.mem_of_getElem? (i := 21) (by decide +kernel), rfl⟩
theorem ini_S : Cond.initialized "StackRoom" ∈ gt := List.mem_filter.mpr ⟨List.mem_of_getElem? (i := 22) (by decide +kernel), rfl⟩
theorem ini_R : Cond.initialized "StackRoomModel" ∈ gt := List.mem_filter.mpr ⟨List.mem_of_getElem? (i := 23) (by decide +kernel), rfl⟩
theorem ini_V : Cond.initialized "StackRoom$Value" ∈ gt := List.mem_filter.mpr ⟨List.mem_of_getElem? (i := 24) (by decide +kernel), rfl⟩
theorem ini_W : Cond.initialized "StackRoom$Whole" ∈ gt := List.mem_filter.mpr ⟨List.mem_of_getElem? (i := 25) (by decide +kernel), rfl⟩
theorem ini_T : Cond.initialized "StackRoom$Thing" ∈ gt := List.mem_filter.mpr ⟨List.mem_of_getElem? (i := 26) (by decide +kernel), rfl⟩
theorem ini_M : Cond.initialized "StackRoom$Method" ∈ gt := List.mem_filter.mpr ⟨List.mem_of_getElem? (i := 27) (by decide +kernel), rfl⟩
theorem ini_C : Cond.initialized "StackRoom$Context" ∈ gt := List.mem_filter.mpr ⟨List.mem_of_getElem? (i := 28) (by decide +kernel), rfl⟩
theorem ini_X : Cond.initialized "StackRoom$MethodContext" ∈ gt := List.mem_filter.mpr ⟨List.mem_of_getElem? (i := 29) (by decide +kernel), rfl⟩
theorem ini_B : Cond.initialized "StackRoom$BlockContext" ∈ gt := List.mem_filter.mpr ⟨List.mem_of_getElem? (i := 30) (by decide +kernel), rfl⟩
theorem cl_L_S : Cond.classLink "StackRoomLaw" 7 "StackRoom" ∈ gt := List.mem_filter.mpr ⟨List.mem_of_getElem? (i := 31) (by decide +kernel), rfl⟩
theorem is_S : Cond.instantiable "StackRoom" 10 ∈ gt := List.mem_filter.mpr ⟨List.mem_of_getElem? (i := 32) (by decide +kernel), rfl⟩
theorem ml_L_S_init : Cond.methodLink "StackRoomLaw" 15 y_S_init ∈ gt := List.mem_filter.mpr ⟨List.mem_of_getElem? (i := 33) (by decide +kernel), rfl⟩
theorem im_S_init : Cond.instanceMethod y_S_init ∈ gt := List.mem_filter.mpr ⟨List.mem_of_getElem? (i := 34) (by decide +kernel), rfl⟩
set_option maxRecDepth 20000 in
theorem co_S_init : Cond.code y_S_init b_S_init 3 none ∈ gt := List.mem_filter.mpr ⟨List.mem_of_getElem? (i := 35) rfl, rfl⟩
theorem ml_S_O_init : Cond.methodLink "StackRoom" 1 y_O_init ∈ gt := List.mem_filter.mpr ⟨List.mem_of_getElem? (i := 36) (by decide +kernel), rfl⟩
theorem im_O_init : Cond.instanceMethod y_O_init ∈ gt := List.mem_filter.mpr ⟨List.mem_of_getElem? (i := 37) (by decide +kernel), rfl⟩
set_option maxRecDepth 20000 in
theorem co_O_init : Cond.code y_O_init b_O_init 1 none ∈ gt := List.mem_filter.mpr ⟨List.mem_of_getElem? (i := 38) rfl, rfl⟩
theorem cs_S_32768 : Cond.constant "StackRoom" 9 (32768) ∈ gt := List.mem_filter.mpr ⟨List.mem_of_getElem? (i := 39) (by decide +kernel), rfl⟩
theorem ml_S_S_isWithin : Cond.methodLink "StackRoom" 10 y_S_isWithin ∈ gt := List.mem_filter.mpr ⟨List.mem_of_getElem? (i := 40) (by decide +kernel), rfl⟩
theorem st_S_isWithin : Cond.static y_S_isWithin ∈ gt := List.mem_filter.mpr ⟨List.mem_of_getElem? (i := 41) (by decide +kernel), rfl⟩
set_option maxRecDepth 20000 in
theorem co_S_isWithin : Cond.code y_S_isWithin b_S_isWithin 3 (some .boolean) ∈ gt := List.mem_filter.mpr ⟨List.mem_of_getElem? (i := 42) rfl, rfl⟩
theorem cl_S_V : Cond.classLink "StackRoom" 21 "StackRoom$Value" ∈ gt := List.mem_filter.mpr ⟨List.mem_of_getElem? (i := 43) (by decide +kernel), rfl⟩
theorem ao_V : Cond.arrayOver (.object "StackRoom$Value") ∈ lw_tbl := List.mem_of_getElem? (i := 44) (by decide +kernel)
theorem cl_S_T : Cond.classLink "StackRoom" 27 "StackRoom$Thing" ∈ gt := List.mem_filter.mpr ⟨List.mem_of_getElem? (i := 45) (by decide +kernel), rfl⟩
theorem ao_T : Cond.arrayOver (.object "StackRoom$Thing") ∈ lw_tbl := List.mem_of_getElem? (i := 46) (by decide +kernel)
theorem fl_S_S_allWords : Cond.fieldLink "StackRoom" 14 "StackRoom" "allWords" "I" ∈ gt := List.mem_filter.mpr ⟨List.mem_of_getElem? (i := 47) (by decide +kernel), rfl⟩
theorem fl_S_S_allEntries : Cond.fieldLink "StackRoom" 18 "StackRoom" "allEntries" "I" ∈ gt := List.mem_filter.mpr ⟨List.mem_of_getElem? (i := 48) (by decide +kernel), rfl⟩
theorem fl_S_S_registers : Cond.fieldLink "StackRoom" 23 "StackRoom" "registers" "[LStackRoom$Value;" ∈ gt := List.mem_filter.mpr ⟨List.mem_of_getElem? (i := 49) (by decide +kernel), rfl⟩
theorem fl_S_S_made : Cond.fieldLink "StackRoom" 33 "StackRoom" "made" "I" ∈ gt := List.mem_filter.mpr ⟨List.mem_of_getElem? (i := 50) (by decide +kernel), rfl⟩
theorem fl_S_S_reached : Cond.fieldLink "StackRoom" 29 "StackRoom" "reached" "[LStackRoom$Thing;" ∈ gt := List.mem_filter.mpr ⟨List.mem_of_getElem? (i := 51) (by decide +kernel), rfl⟩
theorem fl_S_S_reachedCount : Cond.fieldLink "StackRoom" 175 "StackRoom" "reachedCount" "I" ∈ gt := List.mem_filter.mpr ⟨List.mem_of_getElem? (i := 52) (by decide +kernel), rfl⟩
theorem fl_S_S_round : Cond.fieldLink "StackRoom" 172 "StackRoom" "round" "I" ∈ gt := List.mem_filter.mpr ⟨List.mem_of_getElem? (i := 53) (by decide +kernel), rfl⟩
theorem fl_S_S_wordsLeft : Cond.fieldLink "StackRoom" 161 "StackRoom" "wordsLeft" "I" ∈ gt := List.mem_filter.mpr ⟨List.mem_of_getElem? (i := 54) (by decide +kernel), rfl⟩
theorem fl_S_S_entriesLeft : Cond.fieldLink "StackRoom" 164 "StackRoom" "entriesLeft" "I" ∈ gt := List.mem_filter.mpr ⟨List.mem_of_getElem? (i := 55) (by decide +kernel), rfl⟩
theorem fl_S_S_contextsReached : Cond.fieldLink "StackRoom" 167 "StackRoom" "contextsReached" "I" ∈ gt := List.mem_filter.mpr ⟨List.mem_of_getElem? (i := 56) (by decide +kernel), rfl⟩
theorem ml_L_S_number : Cond.methodLink "StackRoomLaw" 21 y_S_number ∈ gt := List.mem_filter.mpr ⟨List.mem_of_getElem? (i := 78) (by decide +kernel), rfl⟩
theorem im_S_number : Cond.instanceMethod y_S_number ∈ gt := List.mem_filter.mpr ⟨List.mem_of_getElem? (i := 79) (by decide +kernel), rfl⟩
theorem se_S_S_number_S : Cond.selects "StackRoom" y_S_number y_S_number ∈ gt := List.mem_filter.mpr ⟨List.mem_of_getElem? (i := 80) (by decide +kernel), rfl⟩
set_option maxRecDepth 20000 in
theorem co_S_number : Cond.code y_S_number b_S_number 3 (some .boolean) ∈ gt := List.mem_filter.mpr ⟨List.mem_of_getElem? (i := 81) rfl, rfl⟩
theorem ml_S_S_isRegister : Cond.methodLink "StackRoom" 36 y_S_isRegister ∈ gt := List.mem_filter.mpr ⟨List.mem_of_getElem? (i := 82) (by decide +kernel), rfl⟩
theorem st_S_isRegister : Cond.static y_S_isRegister ∈ gt := List.mem_filter.mpr ⟨List.mem_of_getElem? (i := 83) (by decide +kernel), rfl⟩
set_option maxRecDepth 20000 in
theorem co_S_isRegister : Cond.code y_S_isRegister b_S_isRegister 1 (some .boolean) ∈ gt := List.mem_filter.mpr ⟨List.mem_of_getElem? (i := 84) rfl, rfl⟩
theorem ml_S_S_isNumber : Cond.methodLink "StackRoom" 40 y_S_isNumber ∈ gt := List.mem_filter.mpr ⟨List.mem_of_getElem? (i := 85) (by decide +kernel), rfl⟩
theorem st_S_isNumber : Cond.static y_S_isNumber ∈ gt := List.mem_filter.mpr ⟨List.mem_of_getElem? (i := 86) (by decide +kernel), rfl⟩
set_option maxRecDepth 20000 in
theorem co_S_isNumber : Cond.code y_S_isNumber b_S_isNumber 1 (some .boolean) ∈ gt := List.mem_filter.mpr ⟨List.mem_of_getElem? (i := 87) rfl, rfl⟩
theorem cs_S_m1073741824 : Cond.constant "StackRoom" 170 (-1073741824) ∈ gt := List.mem_filter.mpr ⟨List.mem_of_getElem? (i := 88) (by decide +kernel), rfl⟩
theorem cs_S_1073741823 : Cond.constant "StackRoom" 171 (1073741823) ∈ gt := List.mem_filter.mpr ⟨List.mem_of_getElem? (i := 89) (by decide +kernel), rfl⟩
theorem cl_S_W : Cond.classLink "StackRoom" 43 "StackRoom$Whole" ∈ gt := List.mem_filter.mpr ⟨List.mem_of_getElem? (i := 90) (by decide +kernel), rfl⟩
theorem is_W : Cond.instantiable "StackRoom$Whole" 1 ∈ gt := List.mem_filter.mpr ⟨List.mem_of_getElem? (i := 91) (by decide +kernel), rfl⟩
theorem ml_S_W_init : Cond.methodLink "StackRoom" 45 y_W_init ∈ gt := List.mem_filter.mpr ⟨List.mem_of_getElem? (i := 92) (by decide +kernel), rfl⟩
theorem im_W_init : Cond.instanceMethod y_W_init ∈ gt := List.mem_filter.mpr ⟨List.mem_of_getElem? (i := 93) (by decide +kernel), rfl⟩
set_option maxRecDepth 20000 in
theorem co_W_init : Cond.code y_W_init b_W_init 2 none ∈ gt := List.mem_filter.mpr ⟨List.mem_of_getElem? (i := 94) rfl, rfl⟩
theorem mn_W_V_init : Cond.methodLinkNest "StackRoom$Whole" 3 y_V_init "StackRoom" ∈ nt := List.mem_filter.mpr ⟨List.mem_of_getElem? (i := 95) (by decide +kernel), rfl⟩
theorem im_V_init : Cond.instanceMethod y_V_init ∈ gt := List.mem_filter.mpr ⟨List.mem_of_getElem? (i := 96) (by decide +kernel), rfl⟩
set_option maxRecDepth 20000 in
theorem co_V_init : Cond.code y_V_init b_V_init 1 none ∈ gt := List.mem_filter.mpr ⟨List.mem_of_getElem? (i := 97) rfl, rfl⟩
theorem ml_V_O_init : Cond.methodLink "StackRoom$Value" 1 y_O_init ∈ gt := List.mem_filter.mpr ⟨List.mem_of_getElem? (i := 98) (by decide +kernel), rfl⟩
theorem fl_W_W_amount : Cond.fieldLink "StackRoom$Whole" 9 "StackRoom$Whole" "amount" "I" ∈ gt := List.mem_filter.mpr ⟨List.mem_of_getElem? (i := 99) (by decide +kernel), rfl⟩
theorem ml_L_S_move : Cond.methodLink "StackRoomLaw" 26 y_S_move ∈ gt := List.mem_filter.mpr ⟨List.mem_of_getElem? (i := 103) (by decide +kernel), rfl⟩
theorem im_S_move : Cond.instanceMethod y_S_move ∈ gt := List.mem_filter.mpr ⟨List.mem_of_getElem? (i := 104) (by decide +kernel), rfl⟩
theorem se_S_S_move_S : Cond.selects "StackRoom" y_S_move y_S_move ∈ gt := List.mem_filter.mpr ⟨List.mem_of_getElem? (i := 105) (by decide +kernel), rfl⟩
set_option maxRecDepth 20000 in
theorem co_S_move : Cond.code y_S_move b_S_move 3 (some .boolean) ∈ gt := List.mem_filter.mpr ⟨List.mem_of_getElem? (i := 106) rfl, rfl⟩
theorem ml_L_S_clear : Cond.methodLink "StackRoomLaw" 30 y_S_clear ∈ gt := List.mem_filter.mpr ⟨List.mem_of_getElem? (i := 107) (by decide +kernel), rfl⟩
theorem im_S_clear : Cond.instanceMethod y_S_clear ∈ gt := List.mem_filter.mpr ⟨List.mem_of_getElem? (i := 108) (by decide +kernel), rfl⟩
theorem se_S_S_clear_S : Cond.selects "StackRoom" y_S_clear y_S_clear ∈ gt := List.mem_filter.mpr ⟨List.mem_of_getElem? (i := 109) (by decide +kernel), rfl⟩
set_option maxRecDepth 20000 in
theorem co_S_clear : Cond.code y_S_clear b_S_clear 2 (some .boolean) ∈ gt := List.mem_filter.mpr ⟨List.mem_of_getElem? (i := 110) rfl, rfl⟩
theorem ml_L_S_kind : Cond.methodLink "StackRoomLaw" 35 y_S_kind ∈ gt := List.mem_filter.mpr ⟨List.mem_of_getElem? (i := 111) (by decide +kernel), rfl⟩
theorem im_S_kind : Cond.instanceMethod y_S_kind ∈ gt := List.mem_filter.mpr ⟨List.mem_of_getElem? (i := 112) (by decide +kernel), rfl⟩
theorem se_S_S_kind_S : Cond.selects "StackRoom" y_S_kind y_S_kind ∈ gt := List.mem_filter.mpr ⟨List.mem_of_getElem? (i := 113) (by decide +kernel), rfl⟩
set_option maxRecDepth 20000 in
theorem co_S_kind : Cond.code y_S_kind b_S_kind 3 (some .int) ∈ gt := List.mem_filter.mpr ⟨List.mem_of_getElem? (i := 114) rfl, rfl⟩
theorem ml_S_V_kindCode : Cond.methodLink "StackRoom" 48 ⟨"StackRoom$Value", "kindCode", "()I"⟩ ∈ gt := List.mem_filter.mpr ⟨List.mem_of_getElem? (i := 115) (by decide +kernel), rfl⟩
theorem dc_V_kindCode : Cond.declares ⟨"StackRoom$Value", "kindCode", "()I"⟩ ∈ nt := List.mem_filter.mpr ⟨List.mem_of_getElem? (i := 116) (by decide +kernel), rfl⟩
theorem sm_V_V_kindCode : Cond.sameMethod "StackRoom$Value" "StackRoom$Value" "kindCode" "()I" ∈ gt := List.mem_filter.mpr ⟨List.mem_of_getElem? (i := 117) (by decide +kernel), rfl⟩
theorem se_B_V_kindCode_B : Cond.selects "StackRoom$BlockContext" ⟨"StackRoom$Value", "kindCode", "()I"⟩ y_B_kindCode ∈ gt := List.mem_filter.mpr ⟨List.mem_of_getElem? (i := 118) (by decide +kernel), rfl⟩
theorem im_B_kindCode : Cond.instanceMethod y_B_kindCode ∈ gt := List.mem_filter.mpr ⟨List.mem_of_getElem? (i := 119) (by decide +kernel), rfl⟩
set_option maxRecDepth 20000 in
theorem co_B_kindCode : Cond.code y_B_kindCode b_B_kindCode 1 (some .int) ∈ gt := List.mem_filter.mpr ⟨List.mem_of_getElem? (i := 120) rfl, rfl⟩
theorem se_M_V_kindCode_M : Cond.selects "StackRoom$Method" ⟨"StackRoom$Value", "kindCode", "()I"⟩ y_M_kindCode ∈ gt := List.mem_filter.mpr ⟨List.mem_of_getElem? (i := 121) (by decide +kernel), rfl⟩
theorem im_M_kindCode : Cond.instanceMethod y_M_kindCode ∈ gt := List.mem_filter.mpr ⟨List.mem_of_getElem? (i := 122) (by decide +kernel), rfl⟩
set_option maxRecDepth 20000 in
theorem co_M_kindCode : Cond.code y_M_kindCode b_M_kindCode 1 (some .int) ∈ gt := List.mem_filter.mpr ⟨List.mem_of_getElem? (i := 123) rfl, rfl⟩
theorem se_X_V_kindCode_X : Cond.selects "StackRoom$MethodContext" ⟨"StackRoom$Value", "kindCode", "()I"⟩ y_X_kindCode ∈ gt := List.mem_filter.mpr ⟨List.mem_of_getElem? (i := 124) (by decide +kernel), rfl⟩
theorem im_X_kindCode : Cond.instanceMethod y_X_kindCode ∈ gt := List.mem_filter.mpr ⟨List.mem_of_getElem? (i := 125) (by decide +kernel), rfl⟩
set_option maxRecDepth 20000 in
theorem co_X_kindCode : Cond.code y_X_kindCode b_X_kindCode 1 (some .int) ∈ gt := List.mem_filter.mpr ⟨List.mem_of_getElem? (i := 126) rfl, rfl⟩
theorem se_W_V_kindCode_W : Cond.selects "StackRoom$Whole" ⟨"StackRoom$Value", "kindCode", "()I"⟩ y_W_kindCode ∈ gt := List.mem_filter.mpr ⟨List.mem_of_getElem? (i := 127) (by decide +kernel), rfl⟩
theorem im_W_kindCode : Cond.instanceMethod y_W_kindCode ∈ gt := List.mem_filter.mpr ⟨List.mem_of_getElem? (i := 128) (by decide +kernel), rfl⟩
set_option maxRecDepth 20000 in
theorem co_W_kindCode : Cond.code y_W_kindCode b_W_kindCode 1 (some .int) ∈ gt := List.mem_filter.mpr ⟨List.mem_of_getElem? (i := 129) rfl, rfl⟩
theorem ml_L_S_value : Cond.methodLink "StackRoomLaw" 40 y_S_value ∈ gt := List.mem_filter.mpr ⟨List.mem_of_getElem? (i := 130) (by decide +kernel), rfl⟩
theorem im_S_value : Cond.instanceMethod y_S_value ∈ gt := List.mem_filter.mpr ⟨List.mem_of_getElem? (i := 131) (by decide +kernel), rfl⟩
theorem se_S_S_value_S : Cond.selects "StackRoom" y_S_value y_S_value ∈ gt := List.mem_filter.mpr ⟨List.mem_of_getElem? (i := 132) (by decide +kernel), rfl⟩
set_option maxRecDepth 20000 in
theorem co_S_value : Cond.code y_S_value b_S_value 3 (some .int) ∈ gt := List.mem_filter.mpr ⟨List.mem_of_getElem? (i := 133) rfl, rfl⟩
theorem ml_S_V_shown : Cond.methodLink "StackRoom" 52 ⟨"StackRoom$Value", "shown", "()I"⟩ ∈ gt := List.mem_filter.mpr ⟨List.mem_of_getElem? (i := 134) (by decide +kernel), rfl⟩
theorem dc_V_shown : Cond.declares ⟨"StackRoom$Value", "shown", "()I"⟩ ∈ nt := List.mem_filter.mpr ⟨List.mem_of_getElem? (i := 135) (by decide +kernel), rfl⟩
theorem sm_V_V_shown : Cond.sameMethod "StackRoom$Value" "StackRoom$Value" "shown" "()I" ∈ gt := List.mem_filter.mpr ⟨List.mem_of_getElem? (i := 136) (by decide +kernel), rfl⟩
theorem se_B_V_shown_T : Cond.selects "StackRoom$BlockContext" ⟨"StackRoom$Value", "shown", "()I"⟩ y_T_shown ∈ gt := List.mem_filter.mpr ⟨List.mem_of_getElem? (i := 137) (by decide +kernel), rfl⟩
theorem im_T_shown : Cond.instanceMethod y_T_shown ∈ gt := List.mem_filter.mpr ⟨List.mem_of_getElem? (i := 138) (by decide +kernel), rfl⟩
set_option maxRecDepth 20000 in
theorem co_T_shown : Cond.code y_T_shown b_T_shown 1 (some .int) ∈ gt := List.mem_filter.mpr ⟨List.mem_of_getElem? (i := 139) rfl, rfl⟩
theorem se_M_V_shown_T : Cond.selects "StackRoom$Method" ⟨"StackRoom$Value", "shown", "()I"⟩ y_T_shown ∈ gt := List.mem_filter.mpr ⟨List.mem_of_getElem? (i := 140) (by decide +kernel), rfl⟩
theorem se_X_V_shown_T : Cond.selects "StackRoom$MethodContext" ⟨"StackRoom$Value", "shown", "()I"⟩ y_T_shown ∈ gt := List.mem_filter.mpr ⟨List.mem_of_getElem? (i := 141) (by decide +kernel), rfl⟩
theorem se_W_V_shown_W : Cond.selects "StackRoom$Whole" ⟨"StackRoom$Value", "shown", "()I"⟩ y_W_shown ∈ gt := List.mem_filter.mpr ⟨List.mem_of_getElem? (i := 142) (by decide +kernel), rfl⟩
theorem im_W_shown : Cond.instanceMethod y_W_shown ∈ gt := List.mem_filter.mpr ⟨List.mem_of_getElem? (i := 143) (by decide +kernel), rfl⟩
set_option maxRecDepth 20000 in
theorem co_W_shown : Cond.code y_W_shown b_W_shown 1 (some .int) ∈ gt := List.mem_filter.mpr ⟨List.mem_of_getElem? (i := 144) rfl, rfl⟩
theorem ml_L_S_method : Cond.methodLink "StackRoomLaw" 44 y_S_method ∈ gt := List.mem_filter.mpr ⟨List.mem_of_getElem? (i := 145) (by decide +kernel), rfl⟩
theorem im_S_method : Cond.instanceMethod y_S_method ∈ gt := List.mem_filter.mpr ⟨List.mem_of_getElem? (i := 146) (by decide +kernel), rfl⟩
theorem se_S_S_method_S : Cond.selects "StackRoom" y_S_method y_S_method ∈ gt := List.mem_filter.mpr ⟨List.mem_of_getElem? (i := 147) (by decide +kernel), rfl⟩
set_option maxRecDepth 20000 in
theorem co_S_method : Cond.code y_S_method b_S_method 5 (some .int) ∈ gt := List.mem_filter.mpr ⟨List.mem_of_getElem? (i := 148) rfl, rfl⟩
theorem ml_S_S_areMethodNumbers : Cond.methodLink "StackRoom" 55 y_S_areMethodNumbers ∈ gt := List.mem_filter.mpr ⟨List.mem_of_getElem? (i := 149) (by decide +kernel), rfl⟩
theorem st_S_areMethodNumbers : Cond.static y_S_areMethodNumbers ∈ gt := List.mem_filter.mpr ⟨List.mem_of_getElem? (i := 150) (by decide +kernel), rfl⟩
set_option maxRecDepth 20000 in
theorem co_S_areMethodNumbers : Cond.code y_S_areMethodNumbers b_S_areMethodNumbers 3 (some .boolean) ∈ gt := List.mem_filter.mpr ⟨List.mem_of_getElem? (i := 151) rfl, rfl⟩
theorem ml_S_S_canBeMade : Cond.methodLink "StackRoom" 58 y_S_canBeMade ∈ gt := List.mem_filter.mpr ⟨List.mem_of_getElem? (i := 152) (by decide +kernel), rfl⟩
theorem im_S_canBeMade : Cond.instanceMethod y_S_canBeMade ∈ gt := List.mem_filter.mpr ⟨List.mem_of_getElem? (i := 154) (by decide +kernel), rfl⟩
set_option maxRecDepth 20000 in
theorem co_S_canBeMade : Cond.code y_S_canBeMade b_S_canBeMade 3 (some .boolean) ∈ gt := List.mem_filter.mpr ⟨List.mem_of_getElem? (i := 155) rfl, rfl⟩
theorem ml_S_S_survey : Cond.methodLink "StackRoom" 158 y_S_survey ∈ gt := List.mem_filter.mpr ⟨List.mem_of_getElem? (i := 156) (by decide +kernel), rfl⟩
theorem im_S_survey : Cond.instanceMethod y_S_survey ∈ gt := List.mem_filter.mpr ⟨List.mem_of_getElem? (i := 158) (by decide +kernel), rfl⟩
set_option maxRecDepth 20000 in
theorem co_S_survey : Cond.code y_S_survey b_S_survey 4 none ∈ gt := List.mem_filter.mpr ⟨List.mem_of_getElem? (i := 159) rfl, rfl⟩
theorem ml_S_S_reach : Cond.methodLink "StackRoom" 178 y_S_reach ∈ gt := List.mem_filter.mpr ⟨List.mem_of_getElem? (i := 160) (by decide +kernel), rfl⟩
theorem im_S_reach : Cond.instanceMethod y_S_reach ∈ gt := List.mem_filter.mpr ⟨List.mem_of_getElem? (i := 162) (by decide +kernel), rfl⟩
set_option maxRecDepth 20000 in
theorem co_S_reach : Cond.code y_S_reach b_S_reach 3 none ∈ gt := List.mem_filter.mpr ⟨List.mem_of_getElem? (i := 163) rfl, rfl⟩
theorem ml_S_T_wordsTaken : Cond.methodLink "StackRoom" 190 ⟨"StackRoom$Thing", "wordsTaken", "()I"⟩ ∈ gt := List.mem_filter.mpr ⟨List.mem_of_getElem? (i := 164) (by decide +kernel), rfl⟩
theorem dc_T_wordsTaken : Cond.declares ⟨"StackRoom$Thing", "wordsTaken", "()I"⟩ ∈ nt := List.mem_filter.mpr ⟨List.mem_of_getElem? (i := 165) (by decide +kernel), rfl⟩
theorem sm_T_T_wordsTaken : Cond.sameMethod "StackRoom$Thing" "StackRoom$Thing" "wordsTaken" "()I" ∈ gt := List.mem_filter.mpr ⟨List.mem_of_getElem? (i := 166) (by decide +kernel), rfl⟩
theorem se_B_T_wordsTaken_C : Cond.selects "StackRoom$BlockContext" ⟨"StackRoom$Thing", "wordsTaken", "()I"⟩ y_C_wordsTaken ∈ gt := List.mem_filter.mpr ⟨List.mem_of_getElem? (i := 167) (by decide +kernel), rfl⟩
theorem im_C_wordsTaken : Cond.instanceMethod y_C_wordsTaken ∈ gt := List.mem_filter.mpr ⟨List.mem_of_getElem? (i := 168) (by decide +kernel), rfl⟩
set_option maxRecDepth 20000 in
theorem co_C_wordsTaken : Cond.code y_C_wordsTaken b_C_wordsTaken 1 (some .int) ∈ gt := List.mem_filter.mpr ⟨List.mem_of_getElem? (i := 169) rfl, rfl⟩
theorem ml_C_C_headFields : Cond.methodLink "StackRoom$Context" 29 ⟨"StackRoom$Context", "headFields", "()I"⟩ ∈ gt := List.mem_filter.mpr ⟨List.mem_of_getElem? (i := 170) (by decide +kernel), rfl⟩
theorem dc_C_headFields : Cond.declares ⟨"StackRoom$Context", "headFields", "()I"⟩ ∈ nt := List.mem_filter.mpr ⟨List.mem_of_getElem? (i := 171) (by decide +kernel), rfl⟩
theorem sm_C_C_headFields : Cond.sameMethod "StackRoom$Context" "StackRoom$Context" "headFields" "()I" ∈ gt := List.mem_filter.mpr ⟨List.mem_of_getElem? (i := 172) (by decide +kernel), rfl⟩
theorem se_B_C_headFields_B : Cond.selects "StackRoom$BlockContext" ⟨"StackRoom$Context", "headFields", "()I"⟩ y_B_headFields ∈ gt := List.mem_filter.mpr ⟨List.mem_of_getElem? (i := 173) (by decide +kernel), rfl⟩
theorem im_B_headFields : Cond.instanceMethod y_B_headFields ∈ gt := List.mem_filter.mpr ⟨List.mem_of_getElem? (i := 174) (by decide +kernel), rfl⟩
set_option maxRecDepth 20000 in
theorem co_B_headFields : Cond.code y_B_headFields b_B_headFields 1 (some .int) ∈ gt := List.mem_filter.mpr ⟨List.mem_of_getElem? (i := 175) rfl, rfl⟩
theorem se_X_C_headFields_X : Cond.selects "StackRoom$MethodContext" ⟨"StackRoom$Context", "headFields", "()I"⟩ y_X_headFields ∈ gt := List.mem_filter.mpr ⟨List.mem_of_getElem? (i := 176) (by decide +kernel), rfl⟩
theorem im_X_headFields : Cond.instanceMethod y_X_headFields ∈ gt := List.mem_filter.mpr ⟨List.mem_of_getElem? (i := 177) (by decide +kernel), rfl⟩
set_option maxRecDepth 20000 in
theorem co_X_headFields : Cond.code y_X_headFields b_X_headFields 1 (some .int) ∈ gt := List.mem_filter.mpr ⟨List.mem_of_getElem? (i := 178) rfl, rfl⟩
theorem se_M_T_wordsTaken_M : Cond.selects "StackRoom$Method" ⟨"StackRoom$Thing", "wordsTaken", "()I"⟩ y_M_wordsTaken ∈ gt := List.mem_filter.mpr ⟨List.mem_of_getElem? (i := 179) (by decide +kernel), rfl⟩
theorem im_M_wordsTaken : Cond.instanceMethod y_M_wordsTaken ∈ gt := List.mem_filter.mpr ⟨List.mem_of_getElem? (i := 180) (by decide +kernel), rfl⟩
set_option maxRecDepth 20000 in
theorem co_M_wordsTaken : Cond.code y_M_wordsTaken b_M_wordsTaken 1 (some .int) ∈ gt := List.mem_filter.mpr ⟨List.mem_of_getElem? (i := 181) rfl, rfl⟩
theorem se_X_T_wordsTaken_C : Cond.selects "StackRoom$MethodContext" ⟨"StackRoom$Thing", "wordsTaken", "()I"⟩ y_C_wordsTaken ∈ gt := List.mem_filter.mpr ⟨List.mem_of_getElem? (i := 182) (by decide +kernel), rfl⟩
theorem ml_S_T_entriesTaken : Cond.methodLink "StackRoom" 193 ⟨"StackRoom$Thing", "entriesTaken", "()I"⟩ ∈ gt := List.mem_filter.mpr ⟨List.mem_of_getElem? (i := 183) (by decide +kernel), rfl⟩
theorem dc_T_entriesTaken : Cond.declares ⟨"StackRoom$Thing", "entriesTaken", "()I"⟩ ∈ nt := List.mem_filter.mpr ⟨List.mem_of_getElem? (i := 184) (by decide +kernel), rfl⟩
theorem sm_T_T_entriesTaken : Cond.sameMethod "StackRoom$Thing" "StackRoom$Thing" "entriesTaken" "()I" ∈ gt := List.mem_filter.mpr ⟨List.mem_of_getElem? (i := 185) (by decide +kernel), rfl⟩
theorem se_B_T_entriesTaken_C : Cond.selects "StackRoom$BlockContext" ⟨"StackRoom$Thing", "entriesTaken", "()I"⟩ y_C_entriesTaken ∈ gt := List.mem_filter.mpr ⟨List.mem_of_getElem? (i := 186) (by decide +kernel), rfl⟩
theorem im_C_entriesTaken : Cond.instanceMethod y_C_entriesTaken ∈ gt := List.mem_filter.mpr ⟨List.mem_of_getElem? (i := 187) (by decide +kernel), rfl⟩
set_option maxRecDepth 20000 in
theorem co_C_entriesTaken : Cond.code y_C_entriesTaken b_C_entriesTaken 1 (some .int) ∈ gt := List.mem_filter.mpr ⟨List.mem_of_getElem? (i := 188) rfl, rfl⟩
theorem se_M_T_entriesTaken_M : Cond.selects "StackRoom$Method" ⟨"StackRoom$Thing", "entriesTaken", "()I"⟩ y_M_entriesTaken ∈ gt := List.mem_filter.mpr ⟨List.mem_of_getElem? (i := 189) (by decide +kernel), rfl⟩
theorem im_M_entriesTaken : Cond.instanceMethod y_M_entriesTaken ∈ gt := List.mem_filter.mpr ⟨List.mem_of_getElem? (i := 190) (by decide +kernel), rfl⟩
set_option maxRecDepth 20000 in
theorem co_M_entriesTaken : Cond.code y_M_entriesTaken b_M_entriesTaken 1 (some .int) ∈ gt := List.mem_filter.mpr ⟨List.mem_of_getElem? (i := 191) rfl, rfl⟩
theorem se_X_T_entriesTaken_C : Cond.selects "StackRoom$MethodContext" ⟨"StackRoom$Thing", "entriesTaken", "()I"⟩ y_C_entriesTaken ∈ gt := List.mem_filter.mpr ⟨List.mem_of_getElem? (i := 192) (by decide +kernel), rfl⟩
theorem cl_S_C : Cond.classLink "StackRoom" 94 "StackRoom$Context" ∈ gt := List.mem_filter.mpr ⟨List.mem_of_getElem? (i := 193) (by decide +kernel), rfl⟩
theorem ml_S_S_reachPartsOf : Cond.methodLink "StackRoom" 181 y_S_reachPartsOf ∈ gt := List.mem_filter.mpr ⟨List.mem_of_getElem? (i := 194) (by decide +kernel), rfl⟩
theorem im_S_reachPartsOf : Cond.instanceMethod y_S_reachPartsOf ∈ gt := List.mem_filter.mpr ⟨List.mem_of_getElem? (i := 196) (by decide +kernel), rfl⟩
set_option maxRecDepth 20000 in
theorem co_S_reachPartsOf : Cond.code y_S_reachPartsOf b_S_reachPartsOf 3 none ∈ gt := List.mem_filter.mpr ⟨List.mem_of_getElem? (i := 197) rfl, rfl⟩
theorem ml_S_C_origin : Cond.methodLink "StackRoom" 185 ⟨"StackRoom$Context", "origin", "()LStackRoom$Thing;"⟩ ∈ gt := List.mem_filter.mpr ⟨List.mem_of_getElem? (i := 198) (by decide +kernel), rfl⟩
theorem dc_C_origin : Cond.declares ⟨"StackRoom$Context", "origin", "()LStackRoom$Thing;"⟩ ∈ nt := List.mem_filter.mpr ⟨List.mem_of_getElem? (i := 199) (by decide +kernel), rfl⟩
theorem sm_C_C_origin : Cond.sameMethod "StackRoom$Context" "StackRoom$Context" "origin" "()LStackRoom$Thing;" ∈ gt := List.mem_filter.mpr ⟨List.mem_of_getElem? (i := 200) (by decide +kernel), rfl⟩
theorem se_B_C_origin_B : Cond.selects "StackRoom$BlockContext" ⟨"StackRoom$Context", "origin", "()LStackRoom$Thing;"⟩ y_B_origin ∈ gt := List.mem_filter.mpr ⟨List.mem_of_getElem? (i := 201) (by decide +kernel), rfl⟩
theorem im_B_origin : Cond.instanceMethod y_B_origin ∈ gt := List.mem_filter.mpr ⟨List.mem_of_getElem? (i := 202) (by decide +kernel), rfl⟩
set_option maxRecDepth 20000 in
theorem co_B_origin : Cond.code y_B_origin b_B_origin 1 (some (.object "StackRoom$Thing")) ∈ gt := List.mem_filter.mpr ⟨List.mem_of_getElem? (i := 203) rfl, rfl⟩
theorem se_X_C_origin_X : Cond.selects "StackRoom$MethodContext" ⟨"StackRoom$Context", "origin", "()LStackRoom$Thing;"⟩ y_X_origin ∈ gt := List.mem_filter.mpr ⟨List.mem_of_getElem? (i := 204) (by decide +kernel), rfl⟩
theorem im_X_origin : Cond.instanceMethod y_X_origin ∈ gt := List.mem_filter.mpr ⟨List.mem_of_getElem? (i := 205) (by decide +kernel), rfl⟩
set_option maxRecDepth 20000 in
theorem co_X_origin : Cond.code y_X_origin b_X_origin 1 (some (.object "StackRoom$Thing")) ∈ gt := List.mem_filter.mpr ⟨List.mem_of_getElem? (i := 206) rfl, rfl⟩
theorem cl_S_M : Cond.classLink "StackRoom" 62 "StackRoom$Method" ∈ gt := List.mem_filter.mpr ⟨List.mem_of_getElem? (i := 207) (by decide +kernel), rfl⟩
theorem is_M : Cond.instantiable "StackRoom$Method" 4 ∈ gt := List.mem_filter.mpr ⟨List.mem_of_getElem? (i := 208) (by decide +kernel), rfl⟩
theorem ml_S_M_init : Cond.methodLink "StackRoom" 64 y_M_init ∈ gt := List.mem_filter.mpr ⟨List.mem_of_getElem? (i := 209) (by decide +kernel), rfl⟩
theorem im_M_init : Cond.instanceMethod y_M_init ∈ gt := List.mem_filter.mpr ⟨List.mem_of_getElem? (i := 210) (by decide +kernel), rfl⟩
set_option maxRecDepth 20000 in
theorem co_M_init : Cond.code y_M_init b_M_init 4 none ∈ gt := List.mem_filter.mpr ⟨List.mem_of_getElem? (i := 211) rfl, rfl⟩
theorem ml_M_T_init : Cond.methodLink "StackRoom$Method" 3 y_T_init ∈ gt := List.mem_filter.mpr ⟨List.mem_of_getElem? (i := 212) (by decide +kernel), rfl⟩
theorem im_T_init : Cond.instanceMethod y_T_init ∈ gt := List.mem_filter.mpr ⟨List.mem_of_getElem? (i := 213) (by decide +kernel), rfl⟩
set_option maxRecDepth 20000 in
theorem co_T_init : Cond.code y_T_init b_T_init 2 none ∈ gt := List.mem_filter.mpr ⟨List.mem_of_getElem? (i := 214) rfl, rfl⟩
theorem mn_T_V_init : Cond.methodLinkNest "StackRoom$Thing" 1 y_V_init "StackRoom" ∈ nt := List.mem_filter.mpr ⟨List.mem_of_getElem? (i := 215) (by decide +kernel), rfl⟩
theorem fn_X_M_temporaries : Cond.fieldLinkNest "StackRoom$MethodContext" 3 "StackRoom$Method" "temporaries" "I" "StackRoom" ∈ nt := List.mem_filter.mpr ⟨List.mem_of_getElem? (i := 216) (by decide +kernel), rfl⟩
theorem fl_M_M_temporaries : Cond.fieldLink "StackRoom$Method" 9 "StackRoom$Method" "temporaries" "I" ∈ gt := List.mem_filter.mpr ⟨List.mem_of_getElem? (i := 217) (by decide +kernel), rfl⟩
theorem fn_S_M_temporaries : Cond.fieldLinkNest "StackRoom" 78 "StackRoom$Method" "temporaries" "I" "StackRoom" ∈ nt := List.mem_filter.mpr ⟨List.mem_of_getElem? (i := 218) (by decide +kernel), rfl⟩
theorem fn_B_M_depth : Cond.fieldLinkNest "StackRoom$BlockContext" 9 "StackRoom$Method" "depth" "I" "StackRoom" ∈ nt := List.mem_filter.mpr ⟨List.mem_of_getElem? (i := 219) (by decide +kernel), rfl⟩
theorem fl_M_M_depth : Cond.fieldLink "StackRoom$Method" 15 "StackRoom$Method" "depth" "I" ∈ gt := List.mem_filter.mpr ⟨List.mem_of_getElem? (i := 220) (by decide +kernel), rfl⟩
theorem fn_X_M_depth : Cond.fieldLinkNest "StackRoom$MethodContext" 9 "StackRoom$Method" "depth" "I" "StackRoom" ∈ nt := List.mem_filter.mpr ⟨List.mem_of_getElem? (i := 221) (by decide +kernel), rfl⟩
theorem fn_S_M_depth : Cond.fieldLinkNest "StackRoom" 81 "StackRoom$Method" "depth" "I" "StackRoom" ∈ nt := List.mem_filter.mpr ⟨List.mem_of_getElem? (i := 222) (by decide +kernel), rfl⟩
theorem fl_T_T_identity : Cond.fieldLink "StackRoom$Thing" 7 "StackRoom$Thing" "identity" "I" ∈ gt := List.mem_filter.mpr ⟨List.mem_of_getElem? (i := 223) (by decide +kernel), rfl⟩
theorem fn_S_T_round : Cond.fieldLinkNest "StackRoom" 189 "StackRoom$Thing" "round" "I" "StackRoom" ∈ nt := List.mem_filter.mpr ⟨List.mem_of_getElem? (i := 224) (by decide +kernel), rfl⟩
theorem ml_L_S_change : Cond.methodLink "StackRoomLaw" 49 y_S_change ∈ gt := List.mem_filter.mpr ⟨List.mem_of_getElem? (i := 234) (by decide +kernel), rfl⟩
theorem im_S_change : Cond.instanceMethod y_S_change ∈ gt := List.mem_filter.mpr ⟨List.mem_of_getElem? (i := 235) (by decide +kernel), rfl⟩
theorem se_S_S_change_S : Cond.selects "StackRoom" y_S_change y_S_change ∈ gt := List.mem_filter.mpr ⟨List.mem_of_getElem? (i := 236) (by decide +kernel), rfl⟩
set_option maxRecDepth 20000 in
theorem co_S_change : Cond.code y_S_change b_S_change 6 (some .boolean) ∈ gt := List.mem_filter.mpr ⟨List.mem_of_getElem? (i := 237) rfl, rfl⟩
theorem ml_S_S_methodIn : Cond.methodLink "StackRoom" 67 y_S_methodIn ∈ gt := List.mem_filter.mpr ⟨List.mem_of_getElem? (i := 238) (by decide +kernel), rfl⟩
theorem im_S_methodIn : Cond.instanceMethod y_S_methodIn ∈ gt := List.mem_filter.mpr ⟨List.mem_of_getElem? (i := 240) (by decide +kernel), rfl⟩
set_option maxRecDepth 20000 in
theorem co_S_methodIn : Cond.code y_S_methodIn b_S_methodIn 4 (some (.object "StackRoom$Method")) ∈ gt := List.mem_filter.mpr ⟨List.mem_of_getElem? (i := 241) rfl, rfl⟩
theorem ml_S_M_setNumbers : Cond.methodLink "StackRoom" 71 y_M_setNumbers ∈ gt := List.mem_filter.mpr ⟨List.mem_of_getElem? (i := 242) (by decide +kernel), rfl⟩
theorem im_M_setNumbers : Cond.instanceMethod y_M_setNumbers ∈ gt := List.mem_filter.mpr ⟨List.mem_of_getElem? (i := 243) (by decide +kernel), rfl⟩
theorem se_M_M_setNumbers_M : Cond.selects "StackRoom$Method" y_M_setNumbers y_M_setNumbers ∈ gt := List.mem_filter.mpr ⟨List.mem_of_getElem? (i := 244) (by decide +kernel), rfl⟩
set_option maxRecDepth 20000 in
theorem co_M_setNumbers : Cond.code y_M_setNumbers b_M_setNumbers 3 none ∈ gt := List.mem_filter.mpr ⟨List.mem_of_getElem? (i := 245) rfl, rfl⟩
theorem ml_L_S_context : Cond.methodLink "StackRoomLaw" 54 y_S_context ∈ gt := List.mem_filter.mpr ⟨List.mem_of_getElem? (i := 246) (by decide +kernel), rfl⟩
theorem im_S_context : Cond.instanceMethod y_S_context ∈ gt := List.mem_filter.mpr ⟨List.mem_of_getElem? (i := 247) (by decide +kernel), rfl⟩
theorem se_S_S_context_S : Cond.selects "StackRoom" y_S_context y_S_context ∈ gt := List.mem_filter.mpr ⟨List.mem_of_getElem? (i := 248) (by decide +kernel), rfl⟩
set_option maxRecDepth 20000 in
theorem co_S_context : Cond.code y_S_context b_S_context 6 (some .int) ∈ gt := List.mem_filter.mpr ⟨List.mem_of_getElem? (i := 249) rfl, rfl⟩
theorem ml_S_S_isSender : Cond.methodLink "StackRoom" 75 y_S_isSender ∈ gt := List.mem_filter.mpr ⟨List.mem_of_getElem? (i := 250) (by decide +kernel), rfl⟩
theorem im_S_isSender : Cond.instanceMethod y_S_isSender ∈ gt := List.mem_filter.mpr ⟨List.mem_of_getElem? (i := 252) (by decide +kernel), rfl⟩
set_option maxRecDepth 20000 in
theorem co_S_isSender : Cond.code y_S_isSender b_S_isSender 2 (some .boolean) ∈ gt := List.mem_filter.mpr ⟨List.mem_of_getElem? (i := 253) rfl, rfl⟩
theorem cl_S_X : Cond.classLink "StackRoom" 84 "StackRoom$MethodContext" ∈ gt := List.mem_filter.mpr ⟨List.mem_of_getElem? (i := 254) (by decide +kernel), rfl⟩
theorem is_X : Cond.instantiable "StackRoom$MethodContext" 7 ∈ gt := List.mem_filter.mpr ⟨List.mem_of_getElem? (i := 255) (by decide +kernel), rfl⟩
theorem ml_S_S_contextIn : Cond.methodLink "StackRoom" 86 y_S_contextIn ∈ gt := List.mem_filter.mpr ⟨List.mem_of_getElem? (i := 256) (by decide +kernel), rfl⟩
theorem im_S_contextIn : Cond.instanceMethod y_S_contextIn ∈ gt := List.mem_filter.mpr ⟨List.mem_of_getElem? (i := 258) (by decide +kernel), rfl⟩
set_option maxRecDepth 20000 in
theorem co_S_contextIn : Cond.code y_S_contextIn b_S_contextIn 4 (some (.object "StackRoom$Context")) ∈ gt := List.mem_filter.mpr ⟨List.mem_of_getElem? (i := 259) rfl, rfl⟩
theorem ml_S_X_init : Cond.methodLink "StackRoom" 90 y_X_init ∈ gt := List.mem_filter.mpr ⟨List.mem_of_getElem? (i := 260) (by decide +kernel), rfl⟩
theorem im_X_init : Cond.instanceMethod y_X_init ∈ gt := List.mem_filter.mpr ⟨List.mem_of_getElem? (i := 261) (by decide +kernel), rfl⟩
set_option maxRecDepth 20000 in
theorem co_X_init : Cond.code y_X_init b_X_init 4 none ∈ gt := List.mem_filter.mpr ⟨List.mem_of_getElem? (i := 262) rfl, rfl⟩
theorem ml_X_C_init : Cond.methodLink "StackRoom$MethodContext" 12 y_C_init ∈ gt := List.mem_filter.mpr ⟨List.mem_of_getElem? (i := 263) (by decide +kernel), rfl⟩
theorem im_C_init : Cond.instanceMethod y_C_init ∈ gt := List.mem_filter.mpr ⟨List.mem_of_getElem? (i := 264) (by decide +kernel), rfl⟩
set_option maxRecDepth 20000 in
theorem co_C_init : Cond.code y_C_init b_C_init 6 none ∈ gt := List.mem_filter.mpr ⟨List.mem_of_getElem? (i := 265) rfl, rfl⟩
theorem ml_C_T_init : Cond.methodLink "StackRoom$Context" 3 y_T_init ∈ gt := List.mem_filter.mpr ⟨List.mem_of_getElem? (i := 266) (by decide +kernel), rfl⟩
theorem cl_C_V : Cond.classLink "StackRoom$Context" 23 "StackRoom$Value" ∈ gt := List.mem_filter.mpr ⟨List.mem_of_getElem? (i := 267) (by decide +kernel), rfl⟩
theorem fn_B_X_method : Cond.fieldLinkNest "StackRoom$BlockContext" 3 "StackRoom$MethodContext" "method" "LStackRoom$Method;" "StackRoom" ∈ nt := List.mem_filter.mpr ⟨List.mem_of_getElem? (i := 268) (by decide +kernel), rfl⟩
theorem fl_X_X_method : Cond.fieldLink "StackRoom$MethodContext" 18 "StackRoom$MethodContext" "method" "LStackRoom$Method;" ∈ gt := List.mem_filter.mpr ⟨List.mem_of_getElem? (i := 269) (by decide +kernel), rfl⟩
theorem fn_S_X_method : Cond.fieldLinkNest "StackRoom" 99 "StackRoom$MethodContext" "method" "LStackRoom$Method;" "StackRoom" ∈ nt := List.mem_filter.mpr ⟨List.mem_of_getElem? (i := 270) (by decide +kernel), rfl⟩
theorem fl_C_C_sender : Cond.fieldLink "StackRoom$Context" 9 "StackRoom$Context" "sender" "LStackRoom$Context;" ∈ gt := List.mem_filter.mpr ⟨List.mem_of_getElem? (i := 271) (by decide +kernel), rfl⟩
theorem fn_S_C_sender : Cond.fieldLinkNest "StackRoom" 142 "StackRoom$Context" "sender" "LStackRoom$Context;" "StackRoom" ∈ nt := List.mem_filter.mpr ⟨List.mem_of_getElem? (i := 272) (by decide +kernel), rfl⟩
theorem fl_C_C_dead : Cond.fieldLink "StackRoom$Context" 15 "StackRoom$Context" "dead" "Z" ∈ gt := List.mem_filter.mpr ⟨List.mem_of_getElem? (i := 273) (by decide +kernel), rfl⟩
theorem fn_S_C_dead : Cond.fieldLinkNest "StackRoom" 146 "StackRoom$Context" "dead" "Z" "StackRoom" ∈ nt := List.mem_filter.mpr ⟨List.mem_of_getElem? (i := 274) (by decide +kernel), rfl⟩
theorem fl_C_C_height : Cond.fieldLink "StackRoom$Context" 19 "StackRoom$Context" "height" "I" ∈ gt := List.mem_filter.mpr ⟨List.mem_of_getElem? (i := 275) (by decide +kernel), rfl⟩
theorem fn_S_C_height : Cond.fieldLinkNest "StackRoom" 126 "StackRoom$Context" "height" "I" "StackRoom" ∈ nt := List.mem_filter.mpr ⟨List.mem_of_getElem? (i := 276) (by decide +kernel), rfl⟩
theorem fl_C_C_fields : Cond.fieldLink "StackRoom$Context" 25 "StackRoom$Context" "fields" "[LStackRoom$Value;" ∈ gt := List.mem_filter.mpr ⟨List.mem_of_getElem? (i := 277) (by decide +kernel), rfl⟩
theorem fn_S_C_fields : Cond.fieldLinkNest "StackRoom" 133 "StackRoom$Context" "fields" "[LStackRoom$Value;" "StackRoom" ∈ nt := List.mem_filter.mpr ⟨List.mem_of_getElem? (i := 278) (by decide +kernel), rfl⟩
theorem ml_L_S_block : Cond.methodLink "StackRoomLaw" 59 y_S_block ∈ gt := List.mem_filter.mpr ⟨List.mem_of_getElem? (i := 292) (by decide +kernel), rfl⟩
theorem im_S_block : Cond.instanceMethod y_S_block ∈ gt := List.mem_filter.mpr ⟨List.mem_of_getElem? (i := 293) (by decide +kernel), rfl⟩
theorem se_S_S_block_S : Cond.selects "StackRoom" y_S_block y_S_block ∈ gt := List.mem_filter.mpr ⟨List.mem_of_getElem? (i := 294) (by decide +kernel), rfl⟩
set_option maxRecDepth 20000 in
theorem co_S_block : Cond.code y_S_block b_S_block 7 (some .int) ∈ gt := List.mem_filter.mpr ⟨List.mem_of_getElem? (i := 295) rfl, rfl⟩
theorem ml_S_C_homeContext : Cond.methodLink "StackRoom" 93 ⟨"StackRoom$Context", "homeContext", "()LStackRoom$MethodContext;"⟩ ∈ gt := List.mem_filter.mpr ⟨List.mem_of_getElem? (i := 296) (by decide +kernel), rfl⟩
theorem dc_C_homeContext : Cond.declares ⟨"StackRoom$Context", "homeContext", "()LStackRoom$MethodContext;"⟩ ∈ nt := List.mem_filter.mpr ⟨List.mem_of_getElem? (i := 297) (by decide +kernel), rfl⟩
theorem sm_C_C_homeContext : Cond.sameMethod "StackRoom$Context" "StackRoom$Context" "homeContext" "()LStackRoom$MethodContext;" ∈ gt := List.mem_filter.mpr ⟨List.mem_of_getElem? (i := 298) (by decide +kernel), rfl⟩
theorem se_B_C_homeContext_B : Cond.selects "StackRoom$BlockContext" ⟨"StackRoom$Context", "homeContext", "()LStackRoom$MethodContext;"⟩ y_B_homeContext ∈ gt := List.mem_filter.mpr ⟨List.mem_of_getElem? (i := 299) (by decide +kernel), rfl⟩
theorem im_B_homeContext : Cond.instanceMethod y_B_homeContext ∈ gt := List.mem_filter.mpr ⟨List.mem_of_getElem? (i := 300) (by decide +kernel), rfl⟩
set_option maxRecDepth 20000 in
theorem co_B_homeContext : Cond.code y_B_homeContext b_B_homeContext 1 (some (.object "StackRoom$MethodContext")) ∈ gt := List.mem_filter.mpr ⟨List.mem_of_getElem? (i := 301) rfl, rfl⟩
theorem se_X_C_homeContext_X : Cond.selects "StackRoom$MethodContext" ⟨"StackRoom$Context", "homeContext", "()LStackRoom$MethodContext;"⟩ y_X_homeContext ∈ gt := List.mem_filter.mpr ⟨List.mem_of_getElem? (i := 302) (by decide +kernel), rfl⟩
theorem im_X_homeContext : Cond.instanceMethod y_X_homeContext ∈ gt := List.mem_filter.mpr ⟨List.mem_of_getElem? (i := 303) (by decide +kernel), rfl⟩
set_option maxRecDepth 20000 in
theorem co_X_homeContext : Cond.code y_X_homeContext b_X_homeContext 1 (some (.object "StackRoom$MethodContext")) ∈ gt := List.mem_filter.mpr ⟨List.mem_of_getElem? (i := 304) rfl, rfl⟩
theorem cl_S_B : Cond.classLink "StackRoom" 103 "StackRoom$BlockContext" ∈ gt := List.mem_filter.mpr ⟨List.mem_of_getElem? (i := 305) (by decide +kernel), rfl⟩
theorem is_B : Cond.instantiable "StackRoom$BlockContext" 8 ∈ gt := List.mem_filter.mpr ⟨List.mem_of_getElem? (i := 306) (by decide +kernel), rfl⟩
theorem ml_S_B_init : Cond.methodLink "StackRoom" 105 y_B_init ∈ gt := List.mem_filter.mpr ⟨List.mem_of_getElem? (i := 307) (by decide +kernel), rfl⟩
theorem im_B_init : Cond.instanceMethod y_B_init ∈ gt := List.mem_filter.mpr ⟨List.mem_of_getElem? (i := 308) (by decide +kernel), rfl⟩
set_option maxRecDepth 20000 in
theorem co_B_init : Cond.code y_B_init b_B_init 4 none ∈ gt := List.mem_filter.mpr ⟨List.mem_of_getElem? (i := 309) rfl, rfl⟩
theorem ml_B_C_init : Cond.methodLink "StackRoom$BlockContext" 15 y_C_init ∈ gt := List.mem_filter.mpr ⟨List.mem_of_getElem? (i := 310) (by decide +kernel), rfl⟩
theorem fl_B_B_home : Cond.fieldLink "StackRoom$BlockContext" 21 "StackRoom$BlockContext" "home" "LStackRoom$MethodContext;" ∈ gt := List.mem_filter.mpr ⟨List.mem_of_getElem? (i := 311) (by decide +kernel), rfl⟩
theorem fl_B_B_count : Cond.fieldLink "StackRoom$BlockContext" 27 "StackRoom$BlockContext" "count" "I" ∈ gt := List.mem_filter.mpr ⟨List.mem_of_getElem? (i := 312) (by decide +kernel), rfl⟩
theorem fn_S_B_count : Cond.fieldLinkNest "StackRoom" 139 "StackRoom$BlockContext" "count" "I" "StackRoom" ∈ nt := List.mem_filter.mpr ⟨List.mem_of_getElem? (i := 313) (by decide +kernel), rfl⟩
theorem ml_L_S_push : Cond.methodLink "StackRoomLaw" 63 y_S_push ∈ gt := List.mem_filter.mpr ⟨List.mem_of_getElem? (i := 325) (by decide +kernel), rfl⟩
theorem im_S_push : Cond.instanceMethod y_S_push ∈ gt := List.mem_filter.mpr ⟨List.mem_of_getElem? (i := 326) (by decide +kernel), rfl⟩
theorem se_S_S_push_S : Cond.selects "StackRoom" y_S_push y_S_push ∈ gt := List.mem_filter.mpr ⟨List.mem_of_getElem? (i := 327) (by decide +kernel), rfl⟩
set_option maxRecDepth 20000 in
theorem co_S_push : Cond.code y_S_push b_S_push 4 (some .boolean) ∈ gt := List.mem_filter.mpr ⟨List.mem_of_getElem? (i := 328) rfl, rfl⟩
theorem ml_S_C_isFull : Cond.methodLink "StackRoom" 108 y_C_isFull ∈ gt := List.mem_filter.mpr ⟨List.mem_of_getElem? (i := 329) (by decide +kernel), rfl⟩
theorem im_C_isFull : Cond.instanceMethod y_C_isFull ∈ gt := List.mem_filter.mpr ⟨List.mem_of_getElem? (i := 330) (by decide +kernel), rfl⟩
theorem sm_C_C_isFull : Cond.sameMethod "StackRoom$Context" "StackRoom$Context" "isFull" "()Z" ∈ gt := List.mem_filter.mpr ⟨List.mem_of_getElem? (i := 331) (by decide +kernel), rfl⟩
theorem se_B_C_isFull_C : Cond.selects "StackRoom$BlockContext" y_C_isFull y_C_isFull ∈ gt := List.mem_filter.mpr ⟨List.mem_of_getElem? (i := 332) (by decide +kernel), rfl⟩
theorem se_X_C_isFull_C : Cond.selects "StackRoom$MethodContext" y_C_isFull y_C_isFull ∈ gt := List.mem_filter.mpr ⟨List.mem_of_getElem? (i := 333) (by decide +kernel), rfl⟩
set_option maxRecDepth 20000 in
theorem co_C_isFull : Cond.code y_C_isFull b_C_isFull 1 (some .boolean) ∈ gt := List.mem_filter.mpr ⟨List.mem_of_getElem? (i := 334) rfl, rfl⟩
theorem ml_S_C_pushOne : Cond.methodLink "StackRoom" 112 y_C_pushOne ∈ gt := List.mem_filter.mpr ⟨List.mem_of_getElem? (i := 335) (by decide +kernel), rfl⟩
theorem im_C_pushOne : Cond.instanceMethod y_C_pushOne ∈ gt := List.mem_filter.mpr ⟨List.mem_of_getElem? (i := 336) (by decide +kernel), rfl⟩
theorem sm_C_C_pushOne : Cond.sameMethod "StackRoom$Context" "StackRoom$Context" "pushOne" "(LStackRoom$Value;)V" ∈ gt := List.mem_filter.mpr ⟨List.mem_of_getElem? (i := 337) (by decide +kernel), rfl⟩
theorem se_B_C_pushOne_C : Cond.selects "StackRoom$BlockContext" y_C_pushOne y_C_pushOne ∈ gt := List.mem_filter.mpr ⟨List.mem_of_getElem? (i := 338) (by decide +kernel), rfl⟩
theorem se_X_C_pushOne_C : Cond.selects "StackRoom$MethodContext" y_C_pushOne y_C_pushOne ∈ gt := List.mem_filter.mpr ⟨List.mem_of_getElem? (i := 339) (by decide +kernel), rfl⟩
set_option maxRecDepth 20000 in
theorem co_C_pushOne : Cond.code y_C_pushOne b_C_pushOne 2 none ∈ gt := List.mem_filter.mpr ⟨List.mem_of_getElem? (i := 340) rfl, rfl⟩
theorem ml_C_C_putField : Cond.methodLink "StackRoom$Context" 40 y_C_putField ∈ gt := List.mem_filter.mpr ⟨List.mem_of_getElem? (i := 341) (by decide +kernel), rfl⟩
theorem im_C_putField : Cond.instanceMethod y_C_putField ∈ gt := List.mem_filter.mpr ⟨List.mem_of_getElem? (i := 342) (by decide +kernel), rfl⟩
theorem sm_C_C_putField : Cond.sameMethod "StackRoom$Context" "StackRoom$Context" "putField" "(ILStackRoom$Value;)V" ∈ gt := List.mem_filter.mpr ⟨List.mem_of_getElem? (i := 343) (by decide +kernel), rfl⟩
theorem se_B_C_putField_C : Cond.selects "StackRoom$BlockContext" y_C_putField y_C_putField ∈ gt := List.mem_filter.mpr ⟨List.mem_of_getElem? (i := 344) (by decide +kernel), rfl⟩
theorem se_X_C_putField_C : Cond.selects "StackRoom$MethodContext" y_C_putField y_C_putField ∈ gt := List.mem_filter.mpr ⟨List.mem_of_getElem? (i := 345) (by decide +kernel), rfl⟩
set_option maxRecDepth 20000 in
theorem co_C_putField : Cond.code y_C_putField b_C_putField 3 none ∈ gt := List.mem_filter.mpr ⟨List.mem_of_getElem? (i := 346) rfl, rfl⟩
theorem ml_C_C_hasField : Cond.methodLink "StackRoom$Context" 36 y_C_hasField ∈ gt := List.mem_filter.mpr ⟨List.mem_of_getElem? (i := 347) (by decide +kernel), rfl⟩
theorem im_C_hasField : Cond.instanceMethod y_C_hasField ∈ gt := List.mem_filter.mpr ⟨List.mem_of_getElem? (i := 348) (by decide +kernel), rfl⟩
theorem sm_C_C_hasField : Cond.sameMethod "StackRoom$Context" "StackRoom$Context" "hasField" "(I)Z" ∈ gt := List.mem_filter.mpr ⟨List.mem_of_getElem? (i := 349) (by decide +kernel), rfl⟩
theorem se_B_C_hasField_C : Cond.selects "StackRoom$BlockContext" y_C_hasField y_C_hasField ∈ gt := List.mem_filter.mpr ⟨List.mem_of_getElem? (i := 350) (by decide +kernel), rfl⟩
theorem se_X_C_hasField_C : Cond.selects "StackRoom$MethodContext" y_C_hasField y_C_hasField ∈ gt := List.mem_filter.mpr ⟨List.mem_of_getElem? (i := 351) (by decide +kernel), rfl⟩
set_option maxRecDepth 20000 in
theorem co_C_hasField : Cond.code y_C_hasField b_C_hasField 2 (some .boolean) ∈ gt := List.mem_filter.mpr ⟨List.mem_of_getElem? (i := 352) rfl, rfl⟩
theorem ml_L_S_fill : Cond.methodLink "StackRoomLaw" 67 y_S_fill ∈ gt := List.mem_filter.mpr ⟨List.mem_of_getElem? (i := 353) (by decide +kernel), rfl⟩
theorem im_S_fill : Cond.instanceMethod y_S_fill ∈ gt := List.mem_filter.mpr ⟨List.mem_of_getElem? (i := 354) (by decide +kernel), rfl⟩
theorem se_S_S_fill_S : Cond.selects "StackRoom" y_S_fill y_S_fill ∈ gt := List.mem_filter.mpr ⟨List.mem_of_getElem? (i := 355) (by decide +kernel), rfl⟩
set_option maxRecDepth 20000 in
theorem co_S_fill : Cond.code y_S_fill b_S_fill 6 (some .int) ∈ gt := List.mem_filter.mpr ⟨List.mem_of_getElem? (i := 356) rfl, rfl⟩
theorem ml_S_S_areNumbers : Cond.methodLink "StackRoom" 116 y_S_areNumbers ∈ gt := List.mem_filter.mpr ⟨List.mem_of_getElem? (i := 357) (by decide +kernel), rfl⟩
theorem st_S_areNumbers : Cond.static y_S_areNumbers ∈ gt := List.mem_filter.mpr ⟨List.mem_of_getElem? (i := 358) (by decide +kernel), rfl⟩
set_option maxRecDepth 20000 in
theorem co_S_areNumbers : Cond.code y_S_areNumbers b_S_areNumbers 2 (some .boolean) ∈ gt := List.mem_filter.mpr ⟨List.mem_of_getElem? (i := 359) rfl, rfl⟩
theorem ml_L_S_pop : Cond.methodLink "StackRoomLaw" 71 y_S_pop ∈ gt := List.mem_filter.mpr ⟨List.mem_of_getElem? (i := 360) (by decide +kernel), rfl⟩
theorem im_S_pop : Cond.instanceMethod y_S_pop ∈ gt := List.mem_filter.mpr ⟨List.mem_of_getElem? (i := 361) (by decide +kernel), rfl⟩
theorem se_S_S_pop_S : Cond.selects "StackRoom" y_S_pop y_S_pop ∈ gt := List.mem_filter.mpr ⟨List.mem_of_getElem? (i := 362) (by decide +kernel), rfl⟩
set_option maxRecDepth 20000 in
theorem co_S_pop : Cond.code y_S_pop b_S_pop 4 (some .boolean) ∈ gt := List.mem_filter.mpr ⟨List.mem_of_getElem? (i := 363) rfl, rfl⟩
theorem ml_S_C_depthNow : Cond.methodLink "StackRoom" 119 y_C_depthNow ∈ gt := List.mem_filter.mpr ⟨List.mem_of_getElem? (i := 364) (by decide +kernel), rfl⟩
theorem im_C_depthNow : Cond.instanceMethod y_C_depthNow ∈ gt := List.mem_filter.mpr ⟨List.mem_of_getElem? (i := 365) (by decide +kernel), rfl⟩
theorem sm_C_C_depthNow : Cond.sameMethod "StackRoom$Context" "StackRoom$Context" "depthNow" "()I" ∈ gt := List.mem_filter.mpr ⟨List.mem_of_getElem? (i := 366) (by decide +kernel), rfl⟩
theorem se_B_C_depthNow_C : Cond.selects "StackRoom$BlockContext" y_C_depthNow y_C_depthNow ∈ gt := List.mem_filter.mpr ⟨List.mem_of_getElem? (i := 367) (by decide +kernel), rfl⟩
theorem se_X_C_depthNow_C : Cond.selects "StackRoom$MethodContext" y_C_depthNow y_C_depthNow ∈ gt := List.mem_filter.mpr ⟨List.mem_of_getElem? (i := 368) (by decide +kernel), rfl⟩
set_option maxRecDepth 20000 in
theorem co_C_depthNow : Cond.code y_C_depthNow b_C_depthNow 1 (some .int) ∈ gt := List.mem_filter.mpr ⟨List.mem_of_getElem? (i := 369) rfl, rfl⟩
theorem ml_C_C_floorNow : Cond.methodLink "StackRoom$Context" 33 ⟨"StackRoom$Context", "floorNow", "()I"⟩ ∈ gt := List.mem_filter.mpr ⟨List.mem_of_getElem? (i := 370) (by decide +kernel), rfl⟩
theorem dc_C_floorNow : Cond.declares ⟨"StackRoom$Context", "floorNow", "()I"⟩ ∈ nt := List.mem_filter.mpr ⟨List.mem_of_getElem? (i := 371) (by decide +kernel), rfl⟩
theorem sm_C_C_floorNow : Cond.sameMethod "StackRoom$Context" "StackRoom$Context" "floorNow" "()I" ∈ gt := List.mem_filter.mpr ⟨List.mem_of_getElem? (i := 372) (by decide +kernel), rfl⟩
theorem se_B_C_floorNow_B : Cond.selects "StackRoom$BlockContext" ⟨"StackRoom$Context", "floorNow", "()I"⟩ y_B_floorNow ∈ gt := List.mem_filter.mpr ⟨List.mem_of_getElem? (i := 373) (by decide +kernel), rfl⟩
theorem im_B_floorNow : Cond.instanceMethod y_B_floorNow ∈ gt := List.mem_filter.mpr ⟨List.mem_of_getElem? (i := 374) (by decide +kernel), rfl⟩
set_option maxRecDepth 20000 in
theorem co_B_floorNow : Cond.code y_B_floorNow b_B_floorNow 1 (some .int) ∈ gt := List.mem_filter.mpr ⟨List.mem_of_getElem? (i := 375) rfl, rfl⟩
theorem se_X_C_floorNow_X : Cond.selects "StackRoom$MethodContext" ⟨"StackRoom$Context", "floorNow", "()I"⟩ y_X_floorNow ∈ gt := List.mem_filter.mpr ⟨List.mem_of_getElem? (i := 376) (by decide +kernel), rfl⟩
theorem im_X_floorNow : Cond.instanceMethod y_X_floorNow ∈ gt := List.mem_filter.mpr ⟨List.mem_of_getElem? (i := 377) (by decide +kernel), rfl⟩
set_option maxRecDepth 20000 in
theorem co_X_floorNow : Cond.code y_X_floorNow b_X_floorNow 1 (some .int) ∈ gt := List.mem_filter.mpr ⟨List.mem_of_getElem? (i := 378) rfl, rfl⟩
theorem ml_S_C_popOne : Cond.methodLink "StackRoom" 122 y_C_popOne ∈ gt := List.mem_filter.mpr ⟨List.mem_of_getElem? (i := 379) (by decide +kernel), rfl⟩
theorem im_C_popOne : Cond.instanceMethod y_C_popOne ∈ gt := List.mem_filter.mpr ⟨List.mem_of_getElem? (i := 380) (by decide +kernel), rfl⟩
theorem sm_C_C_popOne : Cond.sameMethod "StackRoom$Context" "StackRoom$Context" "popOne" "()LStackRoom$Value;" ∈ gt := List.mem_filter.mpr ⟨List.mem_of_getElem? (i := 381) (by decide +kernel), rfl⟩
theorem se_B_C_popOne_C : Cond.selects "StackRoom$BlockContext" y_C_popOne y_C_popOne ∈ gt := List.mem_filter.mpr ⟨List.mem_of_getElem? (i := 382) (by decide +kernel), rfl⟩
theorem se_X_C_popOne_C : Cond.selects "StackRoom$MethodContext" y_C_popOne y_C_popOne ∈ gt := List.mem_filter.mpr ⟨List.mem_of_getElem? (i := 383) (by decide +kernel), rfl⟩
set_option maxRecDepth 20000 in
theorem co_C_popOne : Cond.code y_C_popOne b_C_popOne 2 (some (.object "StackRoom$Value")) ∈ gt := List.mem_filter.mpr ⟨List.mem_of_getElem? (i := 384) rfl, rfl⟩
theorem ml_C_C_fieldAt : Cond.methodLink "StackRoom$Context" 44 y_C_fieldAt ∈ gt := List.mem_filter.mpr ⟨List.mem_of_getElem? (i := 385) (by decide +kernel), rfl⟩
theorem im_C_fieldAt : Cond.instanceMethod y_C_fieldAt ∈ gt := List.mem_filter.mpr ⟨List.mem_of_getElem? (i := 386) (by decide +kernel), rfl⟩
theorem sm_C_C_fieldAt : Cond.sameMethod "StackRoom$Context" "StackRoom$Context" "fieldAt" "(I)LStackRoom$Value;" ∈ gt := List.mem_filter.mpr ⟨List.mem_of_getElem? (i := 387) (by decide +kernel), rfl⟩
theorem se_B_C_fieldAt_C : Cond.selects "StackRoom$BlockContext" y_C_fieldAt y_C_fieldAt ∈ gt := List.mem_filter.mpr ⟨List.mem_of_getElem? (i := 388) (by decide +kernel), rfl⟩
theorem se_X_C_fieldAt_C : Cond.selects "StackRoom$MethodContext" y_C_fieldAt y_C_fieldAt ∈ gt := List.mem_filter.mpr ⟨List.mem_of_getElem? (i := 389) (by decide +kernel), rfl⟩
set_option maxRecDepth 20000 in
theorem co_C_fieldAt : Cond.code y_C_fieldAt b_C_fieldAt 2 (some (.object "StackRoom$Value")) ∈ gt := List.mem_filter.mpr ⟨List.mem_of_getElem? (i := 390) rfl, rfl⟩
theorem ml_L_S_peek : Cond.methodLink "StackRoomLaw" 75 y_S_peek ∈ gt := List.mem_filter.mpr ⟨List.mem_of_getElem? (i := 391) (by decide +kernel), rfl⟩
theorem im_S_peek : Cond.instanceMethod y_S_peek ∈ gt := List.mem_filter.mpr ⟨List.mem_of_getElem? (i := 392) (by decide +kernel), rfl⟩
theorem se_S_S_peek_S : Cond.selects "StackRoom" y_S_peek y_S_peek ∈ gt := List.mem_filter.mpr ⟨List.mem_of_getElem? (i := 393) (by decide +kernel), rfl⟩
set_option maxRecDepth 20000 in
theorem co_S_peek : Cond.code y_S_peek b_S_peek 5 (some .boolean) ∈ gt := List.mem_filter.mpr ⟨List.mem_of_getElem? (i := 394) rfl, rfl⟩
theorem ml_S_C_fieldAt : Cond.methodLink "StackRoom" 129 y_C_fieldAt ∈ gt := List.mem_filter.mpr ⟨List.mem_of_getElem? (i := 395) (by decide +kernel), rfl⟩
theorem ml_L_S_drop : Cond.methodLink "StackRoomLaw" 80 y_S_drop ∈ gt := List.mem_filter.mpr ⟨List.mem_of_getElem? (i := 396) (by decide +kernel), rfl⟩
theorem im_S_drop : Cond.instanceMethod y_S_drop ∈ gt := List.mem_filter.mpr ⟨List.mem_of_getElem? (i := 397) (by decide +kernel), rfl⟩
theorem se_S_S_drop_S : Cond.selects "StackRoom" y_S_drop y_S_drop ∈ gt := List.mem_filter.mpr ⟨List.mem_of_getElem? (i := 398) (by decide +kernel), rfl⟩
set_option maxRecDepth 20000 in
theorem co_S_drop : Cond.code y_S_drop b_S_drop 5 (some .boolean) ∈ gt := List.mem_filter.mpr ⟨List.mem_of_getElem? (i := 399) rfl, rfl⟩
theorem ml_L_S_height : Cond.methodLink "StackRoomLaw" 84 y_S_height ∈ gt := List.mem_filter.mpr ⟨List.mem_of_getElem? (i := 400) (by decide +kernel), rfl⟩
theorem im_S_height : Cond.instanceMethod y_S_height ∈ gt := List.mem_filter.mpr ⟨List.mem_of_getElem? (i := 401) (by decide +kernel), rfl⟩
theorem se_S_S_height_S : Cond.selects "StackRoom" y_S_height y_S_height ∈ gt := List.mem_filter.mpr ⟨List.mem_of_getElem? (i := 402) (by decide +kernel), rfl⟩
set_option maxRecDepth 20000 in
theorem co_S_height : Cond.code y_S_height b_S_height 3 (some .int) ∈ gt := List.mem_filter.mpr ⟨List.mem_of_getElem? (i := 403) rfl, rfl⟩
theorem ml_L_S_room : Cond.methodLink "StackRoomLaw" 88 y_S_room ∈ gt := List.mem_filter.mpr ⟨List.mem_of_getElem? (i := 404) (by decide +kernel), rfl⟩
theorem im_S_room : Cond.instanceMethod y_S_room ∈ gt := List.mem_filter.mpr ⟨List.mem_of_getElem? (i := 405) (by decide +kernel), rfl⟩
theorem se_S_S_room_S : Cond.selects "StackRoom" y_S_room y_S_room ∈ gt := List.mem_filter.mpr ⟨List.mem_of_getElem? (i := 406) (by decide +kernel), rfl⟩
set_option maxRecDepth 20000 in
theorem co_S_room : Cond.code y_S_room b_S_room 3 (some .int) ∈ gt := List.mem_filter.mpr ⟨List.mem_of_getElem? (i := 407) rfl, rfl⟩
theorem ml_L_S_floor : Cond.methodLink "StackRoomLaw" 92 y_S_floor ∈ gt := List.mem_filter.mpr ⟨List.mem_of_getElem? (i := 408) (by decide +kernel), rfl⟩
theorem im_S_floor : Cond.instanceMethod y_S_floor ∈ gt := List.mem_filter.mpr ⟨List.mem_of_getElem? (i := 409) (by decide +kernel), rfl⟩
theorem se_S_S_floor_S : Cond.selects "StackRoom" y_S_floor y_S_floor ∈ gt := List.mem_filter.mpr ⟨List.mem_of_getElem? (i := 410) (by decide +kernel), rfl⟩
set_option maxRecDepth 20000 in
theorem co_S_floor : Cond.code y_S_floor b_S_floor 3 (some .int) ∈ gt := List.mem_filter.mpr ⟨List.mem_of_getElem? (i := 411) rfl, rfl⟩
theorem ml_S_C_floorNow : Cond.methodLink "StackRoom" 136 ⟨"StackRoom$Context", "floorNow", "()I"⟩ ∈ gt := List.mem_filter.mpr ⟨List.mem_of_getElem? (i := 412) (by decide +kernel), rfl⟩
theorem ml_L_S_count : Cond.methodLink "StackRoomLaw" 96 y_S_count ∈ gt := List.mem_filter.mpr ⟨List.mem_of_getElem? (i := 413) (by decide +kernel), rfl⟩
theorem im_S_count : Cond.instanceMethod y_S_count ∈ gt := List.mem_filter.mpr ⟨List.mem_of_getElem? (i := 414) (by decide +kernel), rfl⟩
theorem se_S_S_count_S : Cond.selects "StackRoom" y_S_count y_S_count ∈ gt := List.mem_filter.mpr ⟨List.mem_of_getElem? (i := 415) (by decide +kernel), rfl⟩
set_option maxRecDepth 20000 in
theorem co_S_count : Cond.code y_S_count b_S_count 4 (some .int) ∈ gt := List.mem_filter.mpr ⟨List.mem_of_getElem? (i := 416) rfl, rfl⟩
theorem ml_L_S_home : Cond.methodLink "StackRoomLaw" 100 y_S_home ∈ gt := List.mem_filter.mpr ⟨List.mem_of_getElem? (i := 417) (by decide +kernel), rfl⟩
theorem im_S_home : Cond.instanceMethod y_S_home ∈ gt := List.mem_filter.mpr ⟨List.mem_of_getElem? (i := 418) (by decide +kernel), rfl⟩
theorem se_S_S_home_S : Cond.selects "StackRoom" y_S_home y_S_home ∈ gt := List.mem_filter.mpr ⟨List.mem_of_getElem? (i := 419) (by decide +kernel), rfl⟩
set_option maxRecDepth 20000 in
theorem co_S_home : Cond.code y_S_home b_S_home 4 (some .boolean) ∈ gt := List.mem_filter.mpr ⟨List.mem_of_getElem? (i := 420) rfl, rfl⟩
theorem ml_L_S_sender : Cond.methodLink "StackRoomLaw" 104 y_S_sender ∈ gt := List.mem_filter.mpr ⟨List.mem_of_getElem? (i := 421) (by decide +kernel), rfl⟩
theorem im_S_sender : Cond.instanceMethod y_S_sender ∈ gt := List.mem_filter.mpr ⟨List.mem_of_getElem? (i := 422) (by decide +kernel), rfl⟩
theorem se_S_S_sender_S : Cond.selects "StackRoom" y_S_sender y_S_sender ∈ gt := List.mem_filter.mpr ⟨List.mem_of_getElem? (i := 423) (by decide +kernel), rfl⟩
set_option maxRecDepth 20000 in
theorem co_S_sender : Cond.code y_S_sender b_S_sender 4 (some .boolean) ∈ gt := List.mem_filter.mpr ⟨List.mem_of_getElem? (i := 424) rfl, rfl⟩
theorem ml_L_S_send : Cond.methodLink "StackRoomLaw" 108 y_S_send ∈ gt := List.mem_filter.mpr ⟨List.mem_of_getElem? (i := 425) (by decide +kernel), rfl⟩
theorem im_S_send : Cond.instanceMethod y_S_send ∈ gt := List.mem_filter.mpr ⟨List.mem_of_getElem? (i := 426) (by decide +kernel), rfl⟩
theorem se_S_S_send_S : Cond.selects "StackRoom" y_S_send y_S_send ∈ gt := List.mem_filter.mpr ⟨List.mem_of_getElem? (i := 427) (by decide +kernel), rfl⟩
set_option maxRecDepth 20000 in
theorem co_S_send : Cond.code y_S_send b_S_send 4 (some .boolean) ∈ gt := List.mem_filter.mpr ⟨List.mem_of_getElem? (i := 428) rfl, rfl⟩
theorem ml_L_S_kill : Cond.methodLink "StackRoomLaw" 112 y_S_kill ∈ gt := List.mem_filter.mpr ⟨List.mem_of_getElem? (i := 429) (by decide +kernel), rfl⟩
theorem im_S_kill : Cond.instanceMethod y_S_kill ∈ gt := List.mem_filter.mpr ⟨List.mem_of_getElem? (i := 430) (by decide +kernel), rfl⟩
theorem se_S_S_kill_S : Cond.selects "StackRoom" y_S_kill y_S_kill ∈ gt := List.mem_filter.mpr ⟨List.mem_of_getElem? (i := 431) (by decide +kernel), rfl⟩
set_option maxRecDepth 20000 in
theorem co_S_kill : Cond.code y_S_kill b_S_kill 5 (some .boolean) ∈ gt := List.mem_filter.mpr ⟨List.mem_of_getElem? (i := 432) rfl, rfl⟩
theorem ml_L_S_temporary : Cond.methodLink "StackRoomLaw" 117 y_S_temporary ∈ gt := List.mem_filter.mpr ⟨List.mem_of_getElem? (i := 433) (by decide +kernel), rfl⟩
theorem im_S_temporary : Cond.instanceMethod y_S_temporary ∈ gt := List.mem_filter.mpr ⟨List.mem_of_getElem? (i := 434) (by decide +kernel), rfl⟩
theorem se_S_S_temporary_S : Cond.selects "StackRoom" y_S_temporary y_S_temporary ∈ gt := List.mem_filter.mpr ⟨List.mem_of_getElem? (i := 435) (by decide +kernel), rfl⟩
set_option maxRecDepth 20000 in
theorem co_S_temporary : Cond.code y_S_temporary b_S_temporary 5 (some .boolean) ∈ gt := List.mem_filter.mpr ⟨List.mem_of_getElem? (i := 436) rfl, rfl⟩
theorem ml_S_X_hasTemporary : Cond.methodLink "StackRoom" 150 y_X_hasTemporary ∈ gt := List.mem_filter.mpr ⟨List.mem_of_getElem? (i := 437) (by decide +kernel), rfl⟩
theorem im_X_hasTemporary : Cond.instanceMethod y_X_hasTemporary ∈ gt := List.mem_filter.mpr ⟨List.mem_of_getElem? (i := 438) (by decide +kernel), rfl⟩
theorem se_X_X_hasTemporary_X : Cond.selects "StackRoom$MethodContext" y_X_hasTemporary y_X_hasTemporary ∈ gt := List.mem_filter.mpr ⟨List.mem_of_getElem? (i := 439) (by decide +kernel), rfl⟩
set_option maxRecDepth 20000 in
theorem co_X_hasTemporary : Cond.code y_X_hasTemporary b_X_hasTemporary 2 (some .boolean) ∈ gt := List.mem_filter.mpr ⟨List.mem_of_getElem? (i := 440) rfl, rfl⟩
theorem ml_X_X_hasField : Cond.methodLink "StackRoom$MethodContext" 24 ⟨"StackRoom$MethodContext", "hasField", "(I)Z"⟩ ∈ gt := List.mem_filter.mpr ⟨List.mem_of_getElem? (i := 441) (by decide +kernel), rfl⟩
theorem sm_X_C_hasField : Cond.sameMethod "StackRoom$MethodContext" "StackRoom$Context" "hasField" "(I)Z" ∈ gt := List.mem_filter.mpr ⟨List.mem_of_getElem? (i := 442) (by decide +kernel), rfl⟩
theorem dc_C_hasField : Cond.declares y_C_hasField ∈ nt := List.mem_filter.mpr ⟨List.mem_of_getElem? (i := 443) (by decide +kernel), rfl⟩
theorem se_X_X_hasField_C : Cond.selects "StackRoom$MethodContext" ⟨"StackRoom$MethodContext", "hasField", "(I)Z"⟩ y_C_hasField ∈ gt := List.mem_filter.mpr ⟨List.mem_of_getElem? (i := 444) (by decide +kernel), rfl⟩
theorem ml_S_X_fieldAt : Cond.methodLink "StackRoom" 153 ⟨"StackRoom$MethodContext", "fieldAt", "(I)LStackRoom$Value;"⟩ ∈ gt := List.mem_filter.mpr ⟨List.mem_of_getElem? (i := 445) (by decide +kernel), rfl⟩
theorem sm_X_C_fieldAt : Cond.sameMethod "StackRoom$MethodContext" "StackRoom$Context" "fieldAt" "(I)LStackRoom$Value;" ∈ gt := List.mem_filter.mpr ⟨List.mem_of_getElem? (i := 446) (by decide +kernel), rfl⟩
theorem dc_C_fieldAt : Cond.declares y_C_fieldAt ∈ nt := List.mem_filter.mpr ⟨List.mem_of_getElem? (i := 447) (by decide +kernel), rfl⟩
theorem se_X_X_fieldAt_C : Cond.selects "StackRoom$MethodContext" ⟨"StackRoom$MethodContext", "fieldAt", "(I)LStackRoom$Value;"⟩ y_C_fieldAt ∈ gt := List.mem_filter.mpr ⟨List.mem_of_getElem? (i := 448) (by decide +kernel), rfl⟩
theorem ml_L_S_keep : Cond.methodLink "StackRoomLaw" 121 y_S_keep ∈ gt := List.mem_filter.mpr ⟨List.mem_of_getElem? (i := 449) (by decide +kernel), rfl⟩
theorem im_S_keep : Cond.instanceMethod y_S_keep ∈ gt := List.mem_filter.mpr ⟨List.mem_of_getElem? (i := 450) (by decide +kernel), rfl⟩
theorem se_S_S_keep_S : Cond.selects "StackRoom" y_S_keep y_S_keep ∈ gt := List.mem_filter.mpr ⟨List.mem_of_getElem? (i := 451) (by decide +kernel), rfl⟩
set_option maxRecDepth 20000 in
theorem co_S_keep : Cond.code y_S_keep b_S_keep 5 (some .boolean) ∈ gt := List.mem_filter.mpr ⟨List.mem_of_getElem? (i := 452) rfl, rfl⟩
theorem ml_S_X_putField : Cond.methodLink "StackRoom" 154 ⟨"StackRoom$MethodContext", "putField", "(ILStackRoom$Value;)V"⟩ ∈ gt := List.mem_filter.mpr ⟨List.mem_of_getElem? (i := 453) (by decide +kernel), rfl⟩
theorem sm_X_C_putField : Cond.sameMethod "StackRoom$MethodContext" "StackRoom$Context" "putField" "(ILStackRoom$Value;)V" ∈ gt := List.mem_filter.mpr ⟨List.mem_of_getElem? (i := 454) (by decide +kernel), rfl⟩
theorem dc_C_putField : Cond.declares y_C_putField ∈ nt := List.mem_filter.mpr ⟨List.mem_of_getElem? (i := 455) (by decide +kernel), rfl⟩
theorem se_X_X_putField_C : Cond.selects "StackRoom$MethodContext" ⟨"StackRoom$MethodContext", "putField", "(ILStackRoom$Value;)V"⟩ y_C_putField ∈ gt := List.mem_filter.mpr ⟨List.mem_of_getElem? (i := 456) (by decide +kernel), rfl⟩
theorem ml_L_S_words : Cond.methodLink "StackRoomLaw" 125 y_S_words ∈ gt := List.mem_filter.mpr ⟨List.mem_of_getElem? (i := 457) (by decide +kernel), rfl⟩
theorem im_S_words : Cond.instanceMethod y_S_words ∈ gt := List.mem_filter.mpr ⟨List.mem_of_getElem? (i := 458) (by decide +kernel), rfl⟩
theorem se_S_S_words_S : Cond.selects "StackRoom" y_S_words y_S_words ∈ gt := List.mem_filter.mpr ⟨List.mem_of_getElem? (i := 459) (by decide +kernel), rfl⟩
set_option maxRecDepth 20000 in
theorem co_S_words : Cond.code y_S_words b_S_words 1 (some .int) ∈ gt := List.mem_filter.mpr ⟨List.mem_of_getElem? (i := 460) rfl, rfl⟩
theorem ml_L_S_entries : Cond.methodLink "StackRoomLaw" 130 y_S_entries ∈ gt := List.mem_filter.mpr ⟨List.mem_of_getElem? (i := 461) (by decide +kernel), rfl⟩
theorem im_S_entries : Cond.instanceMethod y_S_entries ∈ gt := List.mem_filter.mpr ⟨List.mem_of_getElem? (i := 462) (by decide +kernel), rfl⟩
theorem se_S_S_entries_S : Cond.selects "StackRoom" y_S_entries y_S_entries ∈ gt := List.mem_filter.mpr ⟨List.mem_of_getElem? (i := 463) (by decide +kernel), rfl⟩
set_option maxRecDepth 20000 in
theorem co_S_entries : Cond.code y_S_entries b_S_entries 1 (some .int) ∈ gt := List.mem_filter.mpr ⟨List.mem_of_getElem? (i := 464) rfl, rfl⟩
theorem ml_L_S_contexts : Cond.methodLink "StackRoomLaw" 134 y_S_contexts ∈ gt := List.mem_filter.mpr ⟨List.mem_of_getElem? (i := 465) (by decide +kernel), rfl⟩
theorem im_S_contexts : Cond.instanceMethod y_S_contexts ∈ gt := List.mem_filter.mpr ⟨List.mem_of_getElem? (i := 466) (by decide +kernel), rfl⟩
theorem se_S_S_contexts_S : Cond.selects "StackRoom" y_S_contexts y_S_contexts ∈ gt := List.mem_filter.mpr ⟨List.mem_of_getElem? (i := 467) (by decide +kernel), rfl⟩
set_option maxRecDepth 20000 in
theorem co_S_contexts : Cond.code y_S_contexts b_S_contexts 1 (some .int) ∈ gt := List.mem_filter.mpr ⟨List.mem_of_getElem? (i := 468) rfl, rfl⟩
theorem ml_L_L_cell : Cond.methodLink "StackRoomLaw" 9 y_L_cell ∈ gt := List.mem_filter.mpr ⟨List.mem_of_getElem? (i := 469) (by decide +kernel), rfl⟩
theorem st_L_cell : Cond.static y_L_cell ∈ gt := List.mem_filter.mpr ⟨List.mem_of_getElem? (i := 470) (by decide +kernel), rfl⟩
set_option maxRecDepth 20000 in
theorem co_L_cell : Cond.code y_L_cell b_L_cell 2 (some .int) ∈ gt := List.mem_filter.mpr ⟨List.mem_of_getElem? (i := 471) rfl, rfl⟩
theorem cl_L_R : Cond.classLink "StackRoomLaw" 18 "StackRoomModel" ∈ gt := List.mem_filter.mpr ⟨List.mem_of_getElem? (i := 472) (by decide +kernel), rfl⟩
theorem is_R : Cond.instantiable "StackRoomModel" 25 ∈ gt := List.mem_filter.mpr ⟨List.mem_of_getElem? (i := 473) (by decide +kernel), rfl⟩
theorem ml_L_R_init : Cond.methodLink "StackRoomLaw" 20 y_R_init ∈ gt := List.mem_filter.mpr ⟨List.mem_of_getElem? (i := 474) (by decide +kernel), rfl⟩
theorem im_R_init : Cond.instanceMethod y_R_init ∈ gt := List.mem_filter.mpr ⟨List.mem_of_getElem? (i := 475) (by decide +kernel), rfl⟩
set_option maxRecDepth 20000 in
theorem co_R_init : Cond.code y_R_init b_R_init 3 none ∈ gt := List.mem_filter.mpr ⟨List.mem_of_getElem? (i := 476) rfl, rfl⟩
theorem ml_R_O_init : Cond.methodLink "StackRoomModel" 1 y_O_init ∈ gt := List.mem_filter.mpr ⟨List.mem_of_getElem? (i := 477) (by decide +kernel), rfl⟩
theorem cs_R_32768 : Cond.constant "StackRoomModel" 55 (32768) ∈ gt := List.mem_filter.mpr ⟨List.mem_of_getElem? (i := 478) (by decide +kernel), rfl⟩
theorem fl_R_R_words : Cond.fieldLink "StackRoomModel" 68 "StackRoomModel" "words" "I" ∈ gt := List.mem_filter.mpr ⟨List.mem_of_getElem? (i := 479) (by decide +kernel), rfl⟩
theorem fl_R_R_entries : Cond.fieldLink "StackRoomModel" 71 "StackRoomModel" "entries" "I" ∈ gt := List.mem_filter.mpr ⟨List.mem_of_getElem? (i := 480) (by decide +kernel), rfl⟩
theorem fl_R_R_made : Cond.fieldLink "StackRoomModel" 7 "StackRoomModel" "made" "I" ∈ gt := List.mem_filter.mpr ⟨List.mem_of_getElem? (i := 481) (by decide +kernel), rfl⟩
theorem fl_R_R_registers : Cond.fieldLink "StackRoomModel" 13 "StackRoomModel" "registers" "[I" ∈ gt := List.mem_filter.mpr ⟨List.mem_of_getElem? (i := 482) (by decide +kernel), rfl⟩
theorem fl_R_R_kinds : Cond.fieldLink "StackRoomModel" 17 "StackRoomModel" "kinds" "[B" ∈ gt := List.mem_filter.mpr ⟨List.mem_of_getElem? (i := 483) (by decide +kernel), rfl⟩
theorem fl_R_R_identities : Cond.fieldLink "StackRoomModel" 21 "StackRoomModel" "identities" "[I" ∈ gt := List.mem_filter.mpr ⟨List.mem_of_getElem? (i := 484) (by decide +kernel), rfl⟩
theorem fl_R_R_arguments : Cond.fieldLink "StackRoomModel" 24 "StackRoomModel" "arguments" "[I" ∈ gt := List.mem_filter.mpr ⟨List.mem_of_getElem? (i := 485) (by decide +kernel), rfl⟩
theorem fl_R_R_temporaries : Cond.fieldLink "StackRoomModel" 27 "StackRoomModel" "temporaries" "[I" ∈ gt := List.mem_filter.mpr ⟨List.mem_of_getElem? (i := 486) (by decide +kernel), rfl⟩
theorem fl_R_R_depths : Cond.fieldLink "StackRoomModel" 30 "StackRoomModel" "depths" "[I" ∈ gt := List.mem_filter.mpr ⟨List.mem_of_getElem? (i := 487) (by decide +kernel), rfl⟩
theorem fl_R_R_senders : Cond.fieldLink "StackRoomModel" 33 "StackRoomModel" "senders" "[I" ∈ gt := List.mem_filter.mpr ⟨List.mem_of_getElem? (i := 488) (by decide +kernel), rfl⟩
theorem fl_R_R_dead : Cond.fieldLink "StackRoomModel" 36 "StackRoomModel" "dead" "[Z" ∈ gt := List.mem_filter.mpr ⟨List.mem_of_getElem? (i := 489) (by decide +kernel), rfl⟩
theorem fl_R_R_heights : Cond.fieldLink "StackRoomModel" 40 "StackRoomModel" "heights" "[I" ∈ gt := List.mem_filter.mpr ⟨List.mem_of_getElem? (i := 490) (by decide +kernel), rfl⟩
theorem fl_R_R_links : Cond.fieldLink "StackRoomModel" 43 "StackRoomModel" "links" "[I" ∈ gt := List.mem_filter.mpr ⟨List.mem_of_getElem? (i := 491) (by decide +kernel), rfl⟩
theorem fl_R_R_counts : Cond.fieldLink "StackRoomModel" 46 "StackRoomModel" "counts" "[I" ∈ gt := List.mem_filter.mpr ⟨List.mem_of_getElem? (i := 492) (by decide +kernel), rfl⟩
theorem fl_R_R_begins : Cond.fieldLink "StackRoomModel" 49 "StackRoomModel" "begins" "[I" ∈ gt := List.mem_filter.mpr ⟨List.mem_of_getElem? (i := 493) (by decide +kernel), rfl⟩
theorem fl_R_R_rooms : Cond.fieldLink "StackRoomModel" 52 "StackRoomModel" "rooms" "[I" ∈ gt := List.mem_filter.mpr ⟨List.mem_of_getElem? (i := 494) (by decide +kernel), rfl⟩
theorem fl_R_R_fields : Cond.fieldLink "StackRoomModel" 56 "StackRoomModel" "fields" "[I" ∈ gt := List.mem_filter.mpr ⟨List.mem_of_getElem? (i := 495) (by decide +kernel), rfl⟩
theorem fl_R_R_other : Cond.fieldLink "StackRoomModel" 59 "StackRoomModel" "other" "[I" ∈ gt := List.mem_filter.mpr ⟨List.mem_of_getElem? (i := 496) (by decide +kernel), rfl⟩
theorem fl_R_R_used : Cond.fieldLink "StackRoomModel" 110 "StackRoomModel" "used" "I" ∈ gt := List.mem_filter.mpr ⟨List.mem_of_getElem? (i := 497) (by decide +kernel), rfl⟩
theorem fl_R_R_seen : Cond.fieldLink "StackRoomModel" 62 "StackRoomModel" "seen" "[Z" ∈ gt := List.mem_filter.mpr ⟨List.mem_of_getElem? (i := 498) (by decide +kernel), rfl⟩
theorem fl_R_R_todo : Cond.fieldLink "StackRoomModel" 65 "StackRoomModel" "todo" "[I" ∈ gt := List.mem_filter.mpr ⟨List.mem_of_getElem? (i := 499) (by decide +kernel), rfl⟩
theorem fl_R_R_reached : Cond.fieldLink "StackRoomModel" 91 "StackRoomModel" "reached" "I" ∈ gt := List.mem_filter.mpr ⟨List.mem_of_getElem? (i := 500) (by decide +kernel), rfl⟩
theorem fl_R_R_reachedObjects : Cond.fieldLink "StackRoomModel" 94 "StackRoomModel" "reachedObjects" "I" ∈ gt := List.mem_filter.mpr ⟨List.mem_of_getElem? (i := 501) (by decide +kernel), rfl⟩
theorem fl_R_R_reachedWords : Cond.fieldLink "StackRoomModel" 97 "StackRoomModel" "reachedWords" "I" ∈ gt := List.mem_filter.mpr ⟨List.mem_of_getElem? (i := 502) (by decide +kernel), rfl⟩
theorem fl_R_R_reachedContexts : Cond.fieldLink "StackRoomModel" 100 "StackRoomModel" "reachedContexts" "I" ∈ gt := List.mem_filter.mpr ⟨List.mem_of_getElem? (i := 503) (by decide +kernel), rfl⟩
theorem ac_int : Cond.arrayClass .int ∈ gt := List.mem_filter.mpr ⟨List.mem_of_getElem? (i := 555) (by decide +kernel), rfl⟩
theorem ac_byte : Cond.arrayClass .byte ∈ gt := List.mem_filter.mpr ⟨List.mem_of_getElem? (i := 556) (by decide +kernel), rfl⟩
theorem ac_boolean : Cond.arrayClass .boolean ∈ gt := List.mem_filter.mpr ⟨List.mem_of_getElem? (i := 557) (by decide +kernel), rfl⟩
theorem ml_L_R_words : Cond.methodLink "StackRoomLaw" 129 y_R_words ∈ gt := List.mem_filter.mpr ⟨List.mem_of_getElem? (i := 558) (by decide +kernel), rfl⟩
theorem im_R_words : Cond.instanceMethod y_R_words ∈ gt := List.mem_filter.mpr ⟨List.mem_of_getElem? (i := 559) (by decide +kernel), rfl⟩
theorem se_R_R_words_R : Cond.selects "StackRoomModel" y_R_words y_R_words ∈ gt := List.mem_filter.mpr ⟨List.mem_of_getElem? (i := 560) (by decide +kernel), rfl⟩
set_option maxRecDepth 20000 in
theorem co_R_words : Cond.code y_R_words b_R_words 1 (some .int) ∈ gt := List.mem_filter.mpr ⟨List.mem_of_getElem? (i := 561) rfl, rfl⟩
theorem ml_R_R_look : Cond.methodLink "StackRoomModel" 107 y_R_look ∈ gt := List.mem_filter.mpr ⟨List.mem_of_getElem? (i := 562) (by decide +kernel), rfl⟩
theorem im_R_look : Cond.instanceMethod y_R_look ∈ gt := List.mem_filter.mpr ⟨List.mem_of_getElem? (i := 564) (by decide +kernel), rfl⟩
set_option maxRecDepth 20000 in
theorem co_R_look : Cond.code y_R_look b_R_look 4 none ∈ gt := List.mem_filter.mpr ⟨List.mem_of_getElem? (i := 565) rfl, rfl⟩
theorem ml_R_R_see : Cond.methodLink "StackRoomModel" 103 y_R_see ∈ gt := List.mem_filter.mpr ⟨List.mem_of_getElem? (i := 566) (by decide +kernel), rfl⟩
theorem im_R_see : Cond.instanceMethod y_R_see ∈ gt := List.mem_filter.mpr ⟨List.mem_of_getElem? (i := 568) (by decide +kernel), rfl⟩
set_option maxRecDepth 20000 in
theorem co_R_see : Cond.code y_R_see b_R_see 2 none ∈ gt := List.mem_filter.mpr ⟨List.mem_of_getElem? (i := 569) rfl, rfl⟩
theorem ml_R_R_isObject : Cond.methodLink "StackRoomModel" 80 y_R_isObject ∈ gt := List.mem_filter.mpr ⟨List.mem_of_getElem? (i := 570) (by decide +kernel), rfl⟩
theorem st_R_isObject : Cond.static y_R_isObject ∈ gt := List.mem_filter.mpr ⟨List.mem_of_getElem? (i := 571) (by decide +kernel), rfl⟩
set_option maxRecDepth 20000 in
theorem co_R_isObject : Cond.code y_R_isObject b_R_isObject 1 (some .boolean) ∈ gt := List.mem_filter.mpr ⟨List.mem_of_getElem? (i := 572) rfl, rfl⟩
theorem ml_L_R_entries : Cond.methodLink "StackRoomLaw" 133 y_R_entries ∈ gt := List.mem_filter.mpr ⟨List.mem_of_getElem? (i := 573) (by decide +kernel), rfl⟩
theorem im_R_entries : Cond.instanceMethod y_R_entries ∈ gt := List.mem_filter.mpr ⟨List.mem_of_getElem? (i := 574) (by decide +kernel), rfl⟩
theorem se_R_R_entries_R : Cond.selects "StackRoomModel" y_R_entries y_R_entries ∈ gt := List.mem_filter.mpr ⟨List.mem_of_getElem? (i := 575) (by decide +kernel), rfl⟩
set_option maxRecDepth 20000 in
theorem co_R_entries : Cond.code y_R_entries b_R_entries 1 (some .int) ∈ gt := List.mem_filter.mpr ⟨List.mem_of_getElem? (i := 576) rfl, rfl⟩
theorem ml_L_R_contexts : Cond.methodLink "StackRoomLaw" 137 y_R_contexts ∈ gt := List.mem_filter.mpr ⟨List.mem_of_getElem? (i := 577) (by decide +kernel), rfl⟩
theorem im_R_contexts : Cond.instanceMethod y_R_contexts ∈ gt := List.mem_filter.mpr ⟨List.mem_of_getElem? (i := 578) (by decide +kernel), rfl⟩
theorem se_R_R_contexts_R : Cond.selects "StackRoomModel" y_R_contexts y_R_contexts ∈ gt := List.mem_filter.mpr ⟨List.mem_of_getElem? (i := 579) (by decide +kernel), rfl⟩
set_option maxRecDepth 20000 in
theorem co_R_contexts : Cond.code y_R_contexts b_R_contexts 1 (some .int) ∈ gt := List.mem_filter.mpr ⟨List.mem_of_getElem? (i := 580) rfl, rfl⟩
theorem ml_L_R_number : Cond.methodLink "StackRoomLaw" 25 y_R_number ∈ gt := List.mem_filter.mpr ⟨List.mem_of_getElem? (i := 581) (by decide +kernel), rfl⟩
theorem im_R_number : Cond.instanceMethod y_R_number ∈ gt := List.mem_filter.mpr ⟨List.mem_of_getElem? (i := 582) (by decide +kernel), rfl⟩
theorem se_R_R_number_R : Cond.selects "StackRoomModel" y_R_number y_R_number ∈ gt := List.mem_filter.mpr ⟨List.mem_of_getElem? (i := 583) (by decide +kernel), rfl⟩
set_option maxRecDepth 20000 in
theorem co_R_number : Cond.code y_R_number b_R_number 3 (some .boolean) ∈ gt := List.mem_filter.mpr ⟨List.mem_of_getElem? (i := 584) rfl, rfl⟩
theorem ml_R_R_isRegister : Cond.methodLink "StackRoomModel" 76 y_R_isRegister ∈ gt := List.mem_filter.mpr ⟨List.mem_of_getElem? (i := 585) (by decide +kernel), rfl⟩
theorem st_R_isRegister : Cond.static y_R_isRegister ∈ gt := List.mem_filter.mpr ⟨List.mem_of_getElem? (i := 586) (by decide +kernel), rfl⟩
set_option maxRecDepth 20000 in
theorem co_R_isRegister : Cond.code y_R_isRegister b_R_isRegister 1 (some .boolean) ∈ gt := List.mem_filter.mpr ⟨List.mem_of_getElem? (i := 587) rfl, rfl⟩
theorem ml_R_R_isNumber : Cond.methodLink "StackRoomModel" 116 y_R_isNumber ∈ gt := List.mem_filter.mpr ⟨List.mem_of_getElem? (i := 588) (by decide +kernel), rfl⟩
theorem st_R_isNumber : Cond.static y_R_isNumber ∈ gt := List.mem_filter.mpr ⟨List.mem_of_getElem? (i := 589) (by decide +kernel), rfl⟩
set_option maxRecDepth 20000 in
theorem co_R_isNumber : Cond.code y_R_isNumber b_R_isNumber 1 (some .boolean) ∈ gt := List.mem_filter.mpr ⟨List.mem_of_getElem? (i := 590) rfl, rfl⟩
theorem cs_R_m1073741824 : Cond.constant "StackRoomModel" 74 (-1073741824) ∈ gt := List.mem_filter.mpr ⟨List.mem_of_getElem? (i := 591) (by decide +kernel), rfl⟩
theorem cs_R_1073741823 : Cond.constant "StackRoomModel" 75 (1073741823) ∈ gt := List.mem_filter.mpr ⟨List.mem_of_getElem? (i := 592) (by decide +kernel), rfl⟩
theorem ml_R_R_numeral : Cond.methodLink "StackRoomModel" 119 y_R_numeral ∈ gt := List.mem_filter.mpr ⟨List.mem_of_getElem? (i := 593) (by decide +kernel), rfl⟩
theorem st_R_numeral : Cond.static y_R_numeral ∈ gt := List.mem_filter.mpr ⟨List.mem_of_getElem? (i := 594) (by decide +kernel), rfl⟩
set_option maxRecDepth 20000 in
theorem co_R_numeral : Cond.code y_R_numeral b_R_numeral 1 (some .int) ∈ gt := List.mem_filter.mpr ⟨List.mem_of_getElem? (i := 595) rfl, rfl⟩
theorem ml_L_R_move : Cond.methodLink "StackRoomLaw" 29 y_R_move ∈ gt := List.mem_filter.mpr ⟨List.mem_of_getElem? (i := 596) (by decide +kernel), rfl⟩
theorem im_R_move : Cond.instanceMethod y_R_move ∈ gt := List.mem_filter.mpr ⟨List.mem_of_getElem? (i := 597) (by decide +kernel), rfl⟩
theorem se_R_R_move_R : Cond.selects "StackRoomModel" y_R_move y_R_move ∈ gt := List.mem_filter.mpr ⟨List.mem_of_getElem? (i := 598) (by decide +kernel), rfl⟩
set_option maxRecDepth 20000 in
theorem co_R_move : Cond.code y_R_move b_R_move 3 (some .boolean) ∈ gt := List.mem_filter.mpr ⟨List.mem_of_getElem? (i := 599) rfl, rfl⟩
theorem ml_L_R_clear : Cond.methodLink "StackRoomLaw" 34 y_R_clear ∈ gt := List.mem_filter.mpr ⟨List.mem_of_getElem? (i := 600) (by decide +kernel), rfl⟩
theorem im_R_clear : Cond.instanceMethod y_R_clear ∈ gt := List.mem_filter.mpr ⟨List.mem_of_getElem? (i := 601) (by decide +kernel), rfl⟩
theorem se_R_R_clear_R : Cond.selects "StackRoomModel" y_R_clear y_R_clear ∈ gt := List.mem_filter.mpr ⟨List.mem_of_getElem? (i := 602) (by decide +kernel), rfl⟩
set_option maxRecDepth 20000 in
theorem co_R_clear : Cond.code y_R_clear b_R_clear 2 (some .boolean) ∈ gt := List.mem_filter.mpr ⟨List.mem_of_getElem? (i := 603) rfl, rfl⟩
theorem ml_L_R_kind : Cond.methodLink "StackRoomLaw" 39 y_R_kind ∈ gt := List.mem_filter.mpr ⟨List.mem_of_getElem? (i := 604) (by decide +kernel), rfl⟩
theorem im_R_kind : Cond.instanceMethod y_R_kind ∈ gt := List.mem_filter.mpr ⟨List.mem_of_getElem? (i := 605) (by decide +kernel), rfl⟩
theorem se_R_R_kind_R : Cond.selects "StackRoomModel" y_R_kind y_R_kind ∈ gt := List.mem_filter.mpr ⟨List.mem_of_getElem? (i := 606) (by decide +kernel), rfl⟩
set_option maxRecDepth 20000 in
theorem co_R_kind : Cond.code y_R_kind b_R_kind 3 (some .int) ∈ gt := List.mem_filter.mpr ⟨List.mem_of_getElem? (i := 607) rfl, rfl⟩
theorem ml_L_R_value : Cond.methodLink "StackRoomLaw" 43 y_R_value ∈ gt := List.mem_filter.mpr ⟨List.mem_of_getElem? (i := 608) (by decide +kernel), rfl⟩
theorem im_R_value : Cond.instanceMethod y_R_value ∈ gt := List.mem_filter.mpr ⟨List.mem_of_getElem? (i := 609) (by decide +kernel), rfl⟩
theorem se_R_R_value_R : Cond.selects "StackRoomModel" y_R_value y_R_value ∈ gt := List.mem_filter.mpr ⟨List.mem_of_getElem? (i := 610) (by decide +kernel), rfl⟩
set_option maxRecDepth 20000 in
theorem co_R_value : Cond.code y_R_value b_R_value 3 (some .int) ∈ gt := List.mem_filter.mpr ⟨List.mem_of_getElem? (i := 611) rfl, rfl⟩
theorem ml_L_R_method : Cond.methodLink "StackRoomLaw" 48 y_R_method ∈ gt := List.mem_filter.mpr ⟨List.mem_of_getElem? (i := 612) (by decide +kernel), rfl⟩
theorem im_R_method : Cond.instanceMethod y_R_method ∈ gt := List.mem_filter.mpr ⟨List.mem_of_getElem? (i := 613) (by decide +kernel), rfl⟩
theorem se_R_R_method_R : Cond.selects "StackRoomModel" y_R_method y_R_method ∈ gt := List.mem_filter.mpr ⟨List.mem_of_getElem? (i := 614) (by decide +kernel), rfl⟩
set_option maxRecDepth 20000 in
theorem co_R_method : Cond.code y_R_method b_R_method 6 (some .int) ∈ gt := List.mem_filter.mpr ⟨List.mem_of_getElem? (i := 615) rfl, rfl⟩
theorem ml_R_R_isMethod : Cond.methodLink "StackRoomModel" 122 y_R_isMethod ∈ gt := List.mem_filter.mpr ⟨List.mem_of_getElem? (i := 616) (by decide +kernel), rfl⟩
theorem st_R_isMethod : Cond.static y_R_isMethod ∈ gt := List.mem_filter.mpr ⟨List.mem_of_getElem? (i := 617) (by decide +kernel), rfl⟩
set_option maxRecDepth 20000 in
theorem co_R_isMethod : Cond.code y_R_isMethod b_R_isMethod 3 (some .boolean) ∈ gt := List.mem_filter.mpr ⟨List.mem_of_getElem? (i := 618) rfl, rfl⟩
theorem ml_R_R_make : Cond.methodLink "StackRoomModel" 126 y_R_make ∈ gt := List.mem_filter.mpr ⟨List.mem_of_getElem? (i := 619) (by decide +kernel), rfl⟩
theorem im_R_make : Cond.instanceMethod y_R_make ∈ gt := List.mem_filter.mpr ⟨List.mem_of_getElem? (i := 621) (by decide +kernel), rfl⟩
set_option maxRecDepth 20000 in
theorem co_R_make : Cond.code y_R_make b_R_make 7 (some .int) ∈ gt := List.mem_filter.mpr ⟨List.mem_of_getElem? (i := 622) rfl, rfl⟩
theorem ml_R_R_letGo : Cond.methodLink "StackRoomModel" 113 y_R_letGo ∈ gt := List.mem_filter.mpr ⟨List.mem_of_getElem? (i := 623) (by decide +kernel), rfl⟩
theorem im_R_letGo : Cond.instanceMethod y_R_letGo ∈ gt := List.mem_filter.mpr ⟨List.mem_of_getElem? (i := 625) (by decide +kernel), rfl⟩
set_option maxRecDepth 20000 in
theorem co_R_letGo : Cond.code y_R_letGo b_R_letGo 4 none ∈ gt := List.mem_filter.mpr ⟨List.mem_of_getElem? (i := 626) rfl, rfl⟩
theorem ml_R_R_give : Cond.methodLink "StackRoomModel" 130 y_R_give ∈ gt := List.mem_filter.mpr ⟨List.mem_of_getElem? (i := 627) (by decide +kernel), rfl⟩
theorem im_R_give : Cond.instanceMethod y_R_give ∈ gt := List.mem_filter.mpr ⟨List.mem_of_getElem? (i := 629) (by decide +kernel), rfl⟩
set_option maxRecDepth 20000 in
theorem co_R_give : Cond.code y_R_give b_R_give 5 none ∈ gt := List.mem_filter.mpr ⟨List.mem_of_getElem? (i := 630) rfl, rfl⟩
theorem ml_L_R_change : Cond.methodLink "StackRoomLaw" 53 y_R_change ∈ gt := List.mem_filter.mpr ⟨List.mem_of_getElem? (i := 631) (by decide +kernel), rfl⟩
theorem im_R_change : Cond.instanceMethod y_R_change ∈ gt := List.mem_filter.mpr ⟨List.mem_of_getElem? (i := 632) (by decide +kernel), rfl⟩
theorem se_R_R_change_R : Cond.selects "StackRoomModel" y_R_change y_R_change ∈ gt := List.mem_filter.mpr ⟨List.mem_of_getElem? (i := 633) (by decide +kernel), rfl⟩
set_option maxRecDepth 20000 in
theorem co_R_change : Cond.code y_R_change b_R_change 6 (some .boolean) ∈ gt := List.mem_filter.mpr ⟨List.mem_of_getElem? (i := 634) rfl, rfl⟩
theorem ml_R_R_objectIn : Cond.methodLink "StackRoomModel" 83 y_R_objectIn ∈ gt := List.mem_filter.mpr ⟨List.mem_of_getElem? (i := 635) (by decide +kernel), rfl⟩
theorem im_R_objectIn : Cond.instanceMethod y_R_objectIn ∈ gt := List.mem_filter.mpr ⟨List.mem_of_getElem? (i := 637) (by decide +kernel), rfl⟩
set_option maxRecDepth 20000 in
theorem co_R_objectIn : Cond.code y_R_objectIn b_R_objectIn 5 (some .int) ∈ gt := List.mem_filter.mpr ⟨List.mem_of_getElem? (i := 638) rfl, rfl⟩
theorem ml_L_R_context : Cond.methodLink "StackRoomLaw" 58 y_R_context ∈ gt := List.mem_filter.mpr ⟨List.mem_of_getElem? (i := 639) (by decide +kernel), rfl⟩
theorem im_R_context : Cond.instanceMethod y_R_context ∈ gt := List.mem_filter.mpr ⟨List.mem_of_getElem? (i := 640) (by decide +kernel), rfl⟩
theorem se_R_R_context_R : Cond.selects "StackRoomModel" y_R_context y_R_context ∈ gt := List.mem_filter.mpr ⟨List.mem_of_getElem? (i := 641) (by decide +kernel), rfl⟩
set_option maxRecDepth 20000 in
theorem co_R_context : Cond.code y_R_context b_R_context 8 (some .int) ∈ gt := List.mem_filter.mpr ⟨List.mem_of_getElem? (i := 642) rfl, rfl⟩
theorem ml_R_R_isNilOrContext : Cond.methodLink "StackRoomModel" 134 y_R_isNilOrContext ∈ gt := List.mem_filter.mpr ⟨List.mem_of_getElem? (i := 643) (by decide +kernel), rfl⟩
theorem im_R_isNilOrContext : Cond.instanceMethod y_R_isNilOrContext ∈ gt := List.mem_filter.mpr ⟨List.mem_of_getElem? (i := 645) (by decide +kernel), rfl⟩
set_option maxRecDepth 20000 in
theorem co_R_isNilOrContext : Cond.code y_R_isNilOrContext b_R_isNilOrContext 2 (some .boolean) ∈ gt := List.mem_filter.mpr ⟨List.mem_of_getElem? (i := 646) rfl, rfl⟩
theorem ml_R_R_contextIn : Cond.methodLink "StackRoomModel" 87 y_R_contextIn ∈ gt := List.mem_filter.mpr ⟨List.mem_of_getElem? (i := 647) (by decide +kernel), rfl⟩
theorem im_R_contextIn : Cond.instanceMethod y_R_contextIn ∈ gt := List.mem_filter.mpr ⟨List.mem_of_getElem? (i := 649) (by decide +kernel), rfl⟩
set_option maxRecDepth 20000 in
theorem co_R_contextIn : Cond.code y_R_contextIn b_R_contextIn 2 (some .int) ∈ gt := List.mem_filter.mpr ⟨List.mem_of_getElem? (i := 650) rfl, rfl⟩
theorem ml_R_R_settle : Cond.methodLink "StackRoomModel" 137 y_R_settle ∈ gt := List.mem_filter.mpr ⟨List.mem_of_getElem? (i := 651) (by decide +kernel), rfl⟩
theorem im_R_settle : Cond.instanceMethod y_R_settle ∈ gt := List.mem_filter.mpr ⟨List.mem_of_getElem? (i := 653) (by decide +kernel), rfl⟩
set_option maxRecDepth 20000 in
theorem co_R_settle : Cond.code y_R_settle b_R_settle 7 (some .int) ∈ gt := List.mem_filter.mpr ⟨List.mem_of_getElem? (i := 654) rfl, rfl⟩
theorem ml_L_R_block : Cond.methodLink "StackRoomLaw" 62 y_R_block ∈ gt := List.mem_filter.mpr ⟨List.mem_of_getElem? (i := 655) (by decide +kernel), rfl⟩
theorem im_R_block : Cond.instanceMethod y_R_block ∈ gt := List.mem_filter.mpr ⟨List.mem_of_getElem? (i := 656) (by decide +kernel), rfl⟩
theorem se_R_R_block_R : Cond.selects "StackRoomModel" y_R_block y_R_block ∈ gt := List.mem_filter.mpr ⟨List.mem_of_getElem? (i := 657) (by decide +kernel), rfl⟩
set_option maxRecDepth 20000 in
theorem co_R_block : Cond.code y_R_block b_R_block 8 (some .int) ∈ gt := List.mem_filter.mpr ⟨List.mem_of_getElem? (i := 658) rfl, rfl⟩
theorem ml_R_R_homeOf : Cond.methodLink "StackRoomModel" 141 y_R_homeOf ∈ gt := List.mem_filter.mpr ⟨List.mem_of_getElem? (i := 659) (by decide +kernel), rfl⟩
theorem im_R_homeOf : Cond.instanceMethod y_R_homeOf ∈ gt := List.mem_filter.mpr ⟨List.mem_of_getElem? (i := 661) (by decide +kernel), rfl⟩
set_option maxRecDepth 20000 in
theorem co_R_homeOf : Cond.code y_R_homeOf b_R_homeOf 2 (some .int) ∈ gt := List.mem_filter.mpr ⟨List.mem_of_getElem? (i := 662) rfl, rfl⟩
theorem ml_L_R_push : Cond.methodLink "StackRoomLaw" 66 y_R_push ∈ gt := List.mem_filter.mpr ⟨List.mem_of_getElem? (i := 663) (by decide +kernel), rfl⟩
theorem im_R_push : Cond.instanceMethod y_R_push ∈ gt := List.mem_filter.mpr ⟨List.mem_of_getElem? (i := 664) (by decide +kernel), rfl⟩
theorem se_R_R_push_R : Cond.selects "StackRoomModel" y_R_push y_R_push ∈ gt := List.mem_filter.mpr ⟨List.mem_of_getElem? (i := 665) (by decide +kernel), rfl⟩
set_option maxRecDepth 20000 in
theorem co_R_push : Cond.code y_R_push b_R_push 4 (some .boolean) ∈ gt := List.mem_filter.mpr ⟨List.mem_of_getElem? (i := 666) rfl, rfl⟩
theorem ml_R_R_pushes : Cond.methodLink "StackRoomModel" 144 y_R_pushes ∈ gt := List.mem_filter.mpr ⟨List.mem_of_getElem? (i := 667) (by decide +kernel), rfl⟩
theorem im_R_pushes : Cond.instanceMethod y_R_pushes ∈ gt := List.mem_filter.mpr ⟨List.mem_of_getElem? (i := 669) (by decide +kernel), rfl⟩
set_option maxRecDepth 20000 in
theorem co_R_pushes : Cond.code y_R_pushes b_R_pushes 3 (some .boolean) ∈ gt := List.mem_filter.mpr ⟨List.mem_of_getElem? (i := 670) rfl, rfl⟩
theorem ml_L_R_fill : Cond.methodLink "StackRoomLaw" 70 y_R_fill ∈ gt := List.mem_filter.mpr ⟨List.mem_of_getElem? (i := 671) (by decide +kernel), rfl⟩
theorem im_R_fill : Cond.instanceMethod y_R_fill ∈ gt := List.mem_filter.mpr ⟨List.mem_of_getElem? (i := 672) (by decide +kernel), rfl⟩
theorem se_R_R_fill_R : Cond.selects "StackRoomModel" y_R_fill y_R_fill ∈ gt := List.mem_filter.mpr ⟨List.mem_of_getElem? (i := 673) (by decide +kernel), rfl⟩
set_option maxRecDepth 20000 in
theorem co_R_fill : Cond.code y_R_fill b_R_fill 6 (some .int) ∈ gt := List.mem_filter.mpr ⟨List.mem_of_getElem? (i := 674) rfl, rfl⟩
theorem ml_L_R_pop : Cond.methodLink "StackRoomLaw" 74 y_R_pop ∈ gt := List.mem_filter.mpr ⟨List.mem_of_getElem? (i := 675) (by decide +kernel), rfl⟩
theorem im_R_pop : Cond.instanceMethod y_R_pop ∈ gt := List.mem_filter.mpr ⟨List.mem_of_getElem? (i := 676) (by decide +kernel), rfl⟩
theorem se_R_R_pop_R : Cond.selects "StackRoomModel" y_R_pop y_R_pop ∈ gt := List.mem_filter.mpr ⟨List.mem_of_getElem? (i := 677) (by decide +kernel), rfl⟩
set_option maxRecDepth 20000 in
theorem co_R_pop : Cond.code y_R_pop b_R_pop 4 (some .boolean) ∈ gt := List.mem_filter.mpr ⟨List.mem_of_getElem? (i := 678) rfl, rfl⟩
theorem ml_R_R_floorOf : Cond.methodLink "StackRoomModel" 148 y_R_floorOf ∈ gt := List.mem_filter.mpr ⟨List.mem_of_getElem? (i := 679) (by decide +kernel), rfl⟩
theorem im_R_floorOf : Cond.instanceMethod y_R_floorOf ∈ gt := List.mem_filter.mpr ⟨List.mem_of_getElem? (i := 681) (by decide +kernel), rfl⟩
set_option maxRecDepth 20000 in
theorem co_R_floorOf : Cond.code y_R_floorOf b_R_floorOf 2 (some .int) ∈ gt := List.mem_filter.mpr ⟨List.mem_of_getElem? (i := 682) rfl, rfl⟩
theorem ml_R_R_popped : Cond.methodLink "StackRoomModel" 151 y_R_popped ∈ gt := List.mem_filter.mpr ⟨List.mem_of_getElem? (i := 683) (by decide +kernel), rfl⟩
theorem im_R_popped : Cond.instanceMethod y_R_popped ∈ gt := List.mem_filter.mpr ⟨List.mem_of_getElem? (i := 685) (by decide +kernel), rfl⟩
set_option maxRecDepth 20000 in
theorem co_R_popped : Cond.code y_R_popped b_R_popped 3 (some .int) ∈ gt := List.mem_filter.mpr ⟨List.mem_of_getElem? (i := 686) rfl, rfl⟩
theorem ml_L_R_peek : Cond.methodLink "StackRoomLaw" 79 y_R_peek ∈ gt := List.mem_filter.mpr ⟨List.mem_of_getElem? (i := 687) (by decide +kernel), rfl⟩
theorem im_R_peek : Cond.instanceMethod y_R_peek ∈ gt := List.mem_filter.mpr ⟨List.mem_of_getElem? (i := 688) (by decide +kernel), rfl⟩
theorem se_R_R_peek_R : Cond.selects "StackRoomModel" y_R_peek y_R_peek ∈ gt := List.mem_filter.mpr ⟨List.mem_of_getElem? (i := 689) (by decide +kernel), rfl⟩
set_option maxRecDepth 20000 in
theorem co_R_peek : Cond.code y_R_peek b_R_peek 5 (some .boolean) ∈ gt := List.mem_filter.mpr ⟨List.mem_of_getElem? (i := 690) rfl, rfl⟩
theorem ml_L_R_drop : Cond.methodLink "StackRoomLaw" 83 y_R_drop ∈ gt := List.mem_filter.mpr ⟨List.mem_of_getElem? (i := 691) (by decide +kernel), rfl⟩
theorem im_R_drop : Cond.instanceMethod y_R_drop ∈ gt := List.mem_filter.mpr ⟨List.mem_of_getElem? (i := 692) (by decide +kernel), rfl⟩
theorem se_R_R_drop_R : Cond.selects "StackRoomModel" y_R_drop y_R_drop ∈ gt := List.mem_filter.mpr ⟨List.mem_of_getElem? (i := 693) (by decide +kernel), rfl⟩
set_option maxRecDepth 20000 in
theorem co_R_drop : Cond.code y_R_drop b_R_drop 5 (some .boolean) ∈ gt := List.mem_filter.mpr ⟨List.mem_of_getElem? (i := 694) rfl, rfl⟩
theorem ml_L_R_height : Cond.methodLink "StackRoomLaw" 87 y_R_height ∈ gt := List.mem_filter.mpr ⟨List.mem_of_getElem? (i := 695) (by decide +kernel), rfl⟩
theorem im_R_height : Cond.instanceMethod y_R_height ∈ gt := List.mem_filter.mpr ⟨List.mem_of_getElem? (i := 696) (by decide +kernel), rfl⟩
theorem se_R_R_height_R : Cond.selects "StackRoomModel" y_R_height y_R_height ∈ gt := List.mem_filter.mpr ⟨List.mem_of_getElem? (i := 697) (by decide +kernel), rfl⟩
set_option maxRecDepth 20000 in
theorem co_R_height : Cond.code y_R_height b_R_height 3 (some .int) ∈ gt := List.mem_filter.mpr ⟨List.mem_of_getElem? (i := 698) rfl, rfl⟩
theorem ml_L_R_room : Cond.methodLink "StackRoomLaw" 91 y_R_room ∈ gt := List.mem_filter.mpr ⟨List.mem_of_getElem? (i := 699) (by decide +kernel), rfl⟩
theorem im_R_room : Cond.instanceMethod y_R_room ∈ gt := List.mem_filter.mpr ⟨List.mem_of_getElem? (i := 700) (by decide +kernel), rfl⟩
theorem se_R_R_room_R : Cond.selects "StackRoomModel" y_R_room y_R_room ∈ gt := List.mem_filter.mpr ⟨List.mem_of_getElem? (i := 701) (by decide +kernel), rfl⟩
set_option maxRecDepth 20000 in
theorem co_R_room : Cond.code y_R_room b_R_room 3 (some .int) ∈ gt := List.mem_filter.mpr ⟨List.mem_of_getElem? (i := 702) rfl, rfl⟩
theorem ml_L_R_floor : Cond.methodLink "StackRoomLaw" 95 y_R_floor ∈ gt := List.mem_filter.mpr ⟨List.mem_of_getElem? (i := 703) (by decide +kernel), rfl⟩
theorem im_R_floor : Cond.instanceMethod y_R_floor ∈ gt := List.mem_filter.mpr ⟨List.mem_of_getElem? (i := 704) (by decide +kernel), rfl⟩
theorem se_R_R_floor_R : Cond.selects "StackRoomModel" y_R_floor y_R_floor ∈ gt := List.mem_filter.mpr ⟨List.mem_of_getElem? (i := 705) (by decide +kernel), rfl⟩
set_option maxRecDepth 20000 in
theorem co_R_floor : Cond.code y_R_floor b_R_floor 3 (some .int) ∈ gt := List.mem_filter.mpr ⟨List.mem_of_getElem? (i := 706) rfl, rfl⟩
theorem ml_L_R_count : Cond.methodLink "StackRoomLaw" 99 y_R_count ∈ gt := List.mem_filter.mpr ⟨List.mem_of_getElem? (i := 707) (by decide +kernel), rfl⟩
theorem im_R_count : Cond.instanceMethod y_R_count ∈ gt := List.mem_filter.mpr ⟨List.mem_of_getElem? (i := 708) (by decide +kernel), rfl⟩
theorem se_R_R_count_R : Cond.selects "StackRoomModel" y_R_count y_R_count ∈ gt := List.mem_filter.mpr ⟨List.mem_of_getElem? (i := 709) (by decide +kernel), rfl⟩
set_option maxRecDepth 20000 in
theorem co_R_count : Cond.code y_R_count b_R_count 3 (some .int) ∈ gt := List.mem_filter.mpr ⟨List.mem_of_getElem? (i := 710) rfl, rfl⟩
theorem ml_L_R_home : Cond.methodLink "StackRoomLaw" 103 y_R_home ∈ gt := List.mem_filter.mpr ⟨List.mem_of_getElem? (i := 711) (by decide +kernel), rfl⟩
theorem im_R_home : Cond.instanceMethod y_R_home ∈ gt := List.mem_filter.mpr ⟨List.mem_of_getElem? (i := 712) (by decide +kernel), rfl⟩
theorem se_R_R_home_R : Cond.selects "StackRoomModel" y_R_home y_R_home ∈ gt := List.mem_filter.mpr ⟨List.mem_of_getElem? (i := 713) (by decide +kernel), rfl⟩
set_option maxRecDepth 20000 in
theorem co_R_home : Cond.code y_R_home b_R_home 4 (some .boolean) ∈ gt := List.mem_filter.mpr ⟨List.mem_of_getElem? (i := 714) rfl, rfl⟩
theorem ml_L_R_sender : Cond.methodLink "StackRoomLaw" 107 y_R_sender ∈ gt := List.mem_filter.mpr ⟨List.mem_of_getElem? (i := 715) (by decide +kernel), rfl⟩
theorem im_R_sender : Cond.instanceMethod y_R_sender ∈ gt := List.mem_filter.mpr ⟨List.mem_of_getElem? (i := 716) (by decide +kernel), rfl⟩
theorem se_R_R_sender_R : Cond.selects "StackRoomModel" y_R_sender y_R_sender ∈ gt := List.mem_filter.mpr ⟨List.mem_of_getElem? (i := 717) (by decide +kernel), rfl⟩
set_option maxRecDepth 20000 in
theorem co_R_sender : Cond.code y_R_sender b_R_sender 4 (some .boolean) ∈ gt := List.mem_filter.mpr ⟨List.mem_of_getElem? (i := 718) rfl, rfl⟩
theorem ml_L_R_send : Cond.methodLink "StackRoomLaw" 111 y_R_send ∈ gt := List.mem_filter.mpr ⟨List.mem_of_getElem? (i := 719) (by decide +kernel), rfl⟩
theorem im_R_send : Cond.instanceMethod y_R_send ∈ gt := List.mem_filter.mpr ⟨List.mem_of_getElem? (i := 720) (by decide +kernel), rfl⟩
theorem se_R_R_send_R : Cond.selects "StackRoomModel" y_R_send y_R_send ∈ gt := List.mem_filter.mpr ⟨List.mem_of_getElem? (i := 721) (by decide +kernel), rfl⟩
set_option maxRecDepth 20000 in
theorem co_R_send : Cond.code y_R_send b_R_send 4 (some .boolean) ∈ gt := List.mem_filter.mpr ⟨List.mem_of_getElem? (i := 722) rfl, rfl⟩
theorem ml_L_R_kill : Cond.methodLink "StackRoomLaw" 116 y_R_kill ∈ gt := List.mem_filter.mpr ⟨List.mem_of_getElem? (i := 723) (by decide +kernel), rfl⟩
theorem im_R_kill : Cond.instanceMethod y_R_kill ∈ gt := List.mem_filter.mpr ⟨List.mem_of_getElem? (i := 724) (by decide +kernel), rfl⟩
theorem se_R_R_kill_R : Cond.selects "StackRoomModel" y_R_kill y_R_kill ∈ gt := List.mem_filter.mpr ⟨List.mem_of_getElem? (i := 725) (by decide +kernel), rfl⟩
set_option maxRecDepth 20000 in
theorem co_R_kill : Cond.code y_R_kill b_R_kill 5 (some .boolean) ∈ gt := List.mem_filter.mpr ⟨List.mem_of_getElem? (i := 726) rfl, rfl⟩
theorem ml_L_R_temporary : Cond.methodLink "StackRoomLaw" 120 y_R_temporary ∈ gt := List.mem_filter.mpr ⟨List.mem_of_getElem? (i := 727) (by decide +kernel), rfl⟩
theorem im_R_temporary : Cond.instanceMethod y_R_temporary ∈ gt := List.mem_filter.mpr ⟨List.mem_of_getElem? (i := 728) (by decide +kernel), rfl⟩
theorem se_R_R_temporary_R : Cond.selects "StackRoomModel" y_R_temporary y_R_temporary ∈ gt := List.mem_filter.mpr ⟨List.mem_of_getElem? (i := 729) (by decide +kernel), rfl⟩
set_option maxRecDepth 20000 in
theorem co_R_temporary : Cond.code y_R_temporary b_R_temporary 5 (some .boolean) ∈ gt := List.mem_filter.mpr ⟨List.mem_of_getElem? (i := 730) rfl, rfl⟩
theorem ml_R_R_placeOf : Cond.methodLink "StackRoomModel" 154 y_R_placeOf ∈ gt := List.mem_filter.mpr ⟨List.mem_of_getElem? (i := 731) (by decide +kernel), rfl⟩
theorem im_R_placeOf : Cond.instanceMethod y_R_placeOf ∈ gt := List.mem_filter.mpr ⟨List.mem_of_getElem? (i := 733) (by decide +kernel), rfl⟩
set_option maxRecDepth 20000 in
theorem co_R_placeOf : Cond.code y_R_placeOf b_R_placeOf 5 (some .int) ∈ gt := List.mem_filter.mpr ⟨List.mem_of_getElem? (i := 734) rfl, rfl⟩
theorem ml_L_R_keep : Cond.methodLink "StackRoomLaw" 124 y_R_keep ∈ gt := List.mem_filter.mpr ⟨List.mem_of_getElem? (i := 735) (by decide +kernel), rfl⟩
theorem im_R_keep : Cond.instanceMethod y_R_keep ∈ gt := List.mem_filter.mpr ⟨List.mem_of_getElem? (i := 736) (by decide +kernel), rfl⟩
theorem se_R_R_keep_R : Cond.selects "StackRoomModel" y_R_keep y_R_keep ∈ gt := List.mem_filter.mpr ⟨List.mem_of_getElem? (i := 737) (by decide +kernel), rfl⟩
set_option maxRecDepth 20000 in
theorem co_R_keep : Cond.code y_R_keep b_R_keep 5 (some .boolean) ∈ gt := List.mem_filter.mpr ⟨List.mem_of_getElem? (i := 738) rfl, rfl⟩
theorem ca_B_T : Cond.castable "StackRoom$BlockContext" "StackRoom$Thing" ∈ nt := List.mem_filter.mpr ⟨List.mem_of_getElem? (i := 739) (by decide +kernel), rfl⟩
theorem ca_M_T : Cond.castable "StackRoom$Method" "StackRoom$Thing" ∈ nt := List.mem_filter.mpr ⟨List.mem_of_getElem? (i := 740) (by decide +kernel), rfl⟩
theorem ca_X_T : Cond.castable "StackRoom$MethodContext" "StackRoom$Thing" ∈ nt := List.mem_filter.mpr ⟨List.mem_of_getElem? (i := 741) (by decide +kernel), rfl⟩
theorem ca_B_C : Cond.castable "StackRoom$BlockContext" "StackRoom$Context" ∈ nt := List.mem_filter.mpr ⟨List.mem_of_getElem? (i := 742) (by decide +kernel), rfl⟩
theorem ca_X_C : Cond.castable "StackRoom$MethodContext" "StackRoom$Context" ∈ nt := List.mem_filter.mpr ⟨List.mem_of_getElem? (i := 743) (by decide +kernel), rfl⟩
theorem ca_M_M : Cond.castable "StackRoom$Method" "StackRoom$Method" ∈ nt := List.mem_filter.mpr ⟨List.mem_of_getElem? (i := 744) (by decide +kernel), rfl⟩
theorem ca_B_B : Cond.castable "StackRoom$BlockContext" "StackRoom$BlockContext" ∈ nt := List.mem_filter.mpr ⟨List.mem_of_getElem? (i := 745) (by decide +kernel), rfl⟩
theorem ca_B_V : Cond.castable "StackRoom$BlockContext" "StackRoom$Value" ∈ nt := List.mem_filter.mpr ⟨List.mem_of_getElem? (i := 746) (by decide +kernel), rfl⟩
theorem ca_M_V : Cond.castable "StackRoom$Method" "StackRoom$Value" ∈ nt := List.mem_filter.mpr ⟨List.mem_of_getElem? (i := 747) (by decide +kernel), rfl⟩
theorem ca_X_V : Cond.castable "StackRoom$MethodContext" "StackRoom$Value" ∈ nt := List.mem_filter.mpr ⟨List.mem_of_getElem? (i := 748) (by decide +kernel), rfl⟩
theorem ca_W_V : Cond.castable "StackRoom$Whole" "StackRoom$Value" ∈ nt := List.mem_filter.mpr ⟨List.mem_of_getElem? (i := 749) (by decide +kernel), rfl⟩
theorem se_S_S_canBeMade_S : Cond.selects "StackRoom" y_S_canBeMade y_S_canBeMade ∈ gt := List.mem_filter.mpr ⟨List.mem_of_getElem? (i := 0) (by decide +kernel), rfl⟩
theorem se_S_S_survey_S : Cond.selects "StackRoom" y_S_survey y_S_survey ∈ gt := List.mem_filter.mpr ⟨List.mem_of_getElem? (i := 1) (by decide +kernel), rfl⟩
theorem se_S_S_reach_S : Cond.selects "StackRoom" y_S_reach y_S_reach ∈ gt := List.mem_filter.mpr ⟨List.mem_of_getElem? (i := 2) (by decide +kernel), rfl⟩
theorem se_S_S_reachPartsOf_S : Cond.selects "StackRoom" y_S_reachPartsOf y_S_reachPartsOf ∈ gt := List.mem_filter.mpr ⟨List.mem_of_getElem? (i := 3) (by decide +kernel), rfl⟩
theorem se_S_S_methodIn_S : Cond.selects "StackRoom" y_S_methodIn y_S_methodIn ∈ gt := List.mem_filter.mpr ⟨List.mem_of_getElem? (i := 4) (by decide +kernel), rfl⟩
theorem se_S_S_isSender_S : Cond.selects "StackRoom" y_S_isSender y_S_isSender ∈ gt := List.mem_filter.mpr ⟨List.mem_of_getElem? (i := 5) (by decide +kernel), rfl⟩
theorem se_S_S_contextIn_S : Cond.selects "StackRoom" y_S_contextIn y_S_contextIn ∈ gt := List.mem_filter.mpr ⟨List.mem_of_getElem? (i := 6) (by decide +kernel), rfl⟩
theorem se_R_R_look_R : Cond.selects "StackRoomModel" y_R_look y_R_look ∈ gt := List.mem_filter.mpr ⟨List.mem_of_getElem? (i := 7) (by decide +kernel), rfl⟩
theorem se_R_R_see_R : Cond.selects "StackRoomModel" y_R_see y_R_see ∈ gt := List.mem_filter.mpr ⟨List.mem_of_getElem? (i := 8) (by decide +kernel), rfl⟩
theorem se_R_R_make_R : Cond.selects "StackRoomModel" y_R_make y_R_make ∈ gt := List.mem_filter.mpr ⟨List.mem_of_getElem? (i := 9) (by decide +kernel), rfl⟩
theorem se_R_R_letGo_R : Cond.selects "StackRoomModel" y_R_letGo y_R_letGo ∈ gt := List.mem_filter.mpr ⟨List.mem_of_getElem? (i := 10) (by decide +kernel), rfl⟩
theorem se_R_R_give_R : Cond.selects "StackRoomModel" y_R_give y_R_give ∈ gt := List.mem_filter.mpr ⟨List.mem_of_getElem? (i := 11) (by decide +kernel), rfl⟩
theorem se_R_R_objectIn_R : Cond.selects "StackRoomModel" y_R_objectIn y_R_objectIn ∈ gt := List.mem_filter.mpr ⟨List.mem_of_getElem? (i := 12) (by decide +kernel), rfl⟩
theorem se_R_R_isNilOrContext_R : Cond.selects "StackRoomModel" y_R_isNilOrContext y_R_isNilOrContext ∈ gt := List.mem_filter.mpr ⟨List.mem_of_getElem? (i := 13) (by decide +kernel), rfl⟩
theorem se_R_R_contextIn_R : Cond.selects "StackRoomModel" y_R_contextIn y_R_contextIn ∈ gt := List.mem_filter.mpr ⟨List.mem_of_getElem? (i := 14) (by decide +kernel), rfl⟩
theorem se_R_R_settle_R : Cond.selects "StackRoomModel" y_R_settle y_R_settle ∈ gt := List.mem_filter.mpr ⟨List.mem_of_getElem? (i := 15) (by decide +kernel), rfl⟩
theorem se_R_R_homeOf_R : Cond.selects "StackRoomModel" y_R_homeOf y_R_homeOf ∈ gt := List.mem_filter.mpr ⟨List.mem_of_getElem? (i := 16) (by decide +kernel), rfl⟩
theorem se_R_R_pushes_R : Cond.selects "StackRoomModel" y_R_pushes y_R_pushes ∈ gt := List.mem_filter.mpr ⟨List.mem_of_getElem? (i := 17) (by decide +kernel), rfl⟩
theorem se_R_R_floorOf_R : Cond.selects "StackRoomModel" y_R_floorOf y_R_floorOf ∈ gt := List.mem_filter.mpr ⟨List.mem_of_getElem? (i := 18) (by decide +kernel), rfl⟩
theorem se_R_R_popped_R : Cond.selects "StackRoomModel" y_R_popped y_R_popped ∈ gt := List.mem_filter.mpr ⟨List.mem_of_getElem? (i := 19) (by decide +kernel), rfl⟩
theorem se_R_R_placeOf_R : Cond.selects "StackRoomModel" y_R_placeOf y_R_placeOf ∈ gt := List.mem_filter.mpr ⟨List.mem_of_getElem? (i := 20) (by decide +kernel), rfl⟩
theorem gi_base : GoodIn gt gt := fun w h => ⟨h, good_of_word (List.mem_filter.mp h).2⟩
theorem gi_ws {w : Cond} (h : w ∈ gt) : GoodIn gt (w :: gt) := fun v hv => (List.mem_cons.mp hv).elim (fun e => gi_base v (e ▸ h)) (gi_base v)
theorem gi_all {ws : List Cond} {hs : List Cond} (h : ∀ w ∈ hs, w ∈ gt) (hG : GoodIn gt ws) : GoodIn gt (hs ++ ws) := fun v hv => (List.mem_append.mp hv).elim (fun e => gi_base v (h v e)) (hG v)
abbrev w_S_init : List Cond := Cond.code y_S_init b_S_init 3 none :: gt
abbrev w_S_isWithin : List Cond := Cond.code y_S_isWithin b_S_isWithin 3 (some .boolean) :: gt
abbrev w_S_number : List Cond := Cond.code y_S_number b_S_number 3 (some .boolean) :: gt
abbrev w_S_isRegister : List Cond := Cond.code y_S_isRegister b_S_isRegister 1 (some .boolean) :: gt
abbrev w_S_isNumber : List Cond := Cond.code y_S_isNumber b_S_isNumber 1 (some .boolean) :: gt
abbrev w_W_init : List Cond := Cond.code y_W_init b_W_init 2 none :: gt
abbrev w_V_init : List Cond := Cond.code y_V_init b_V_init 1 none :: gt
abbrev w_S_move : List Cond := Cond.code y_S_move b_S_move 3 (some .boolean) :: gt
abbrev w_S_clear : List Cond := Cond.code y_S_clear b_S_clear 2 (some .boolean) :: gt
abbrev w_S_kind : List Cond := Cond.code y_S_kind b_S_kind 3 (some .int) :: gt
abbrev w_B_kindCode : List Cond := Cond.code y_B_kindCode b_B_kindCode 1 (some .int) :: gt
abbrev w_M_kindCode : List Cond := Cond.code y_M_kindCode b_M_kindCode 1 (some .int) :: gt
abbrev w_X_kindCode : List Cond := Cond.code y_X_kindCode b_X_kindCode 1 (some .int) :: gt
abbrev w_W_kindCode : List Cond := Cond.code y_W_kindCode b_W_kindCode 1 (some .int) :: gt
abbrev w_S_value : List Cond := Cond.code y_S_value b_S_value 3 (some .int) :: gt
abbrev w_T_shown : List Cond := Cond.code y_T_shown b_T_shown 1 (some .int) :: gt
abbrev w_W_shown : List Cond := Cond.code y_W_shown b_W_shown 1 (some .int) :: gt
abbrev w_S_method : List Cond := Cond.code y_S_method b_S_method 5 (some .int) :: gt
abbrev w_S_areMethodNumbers : List Cond := Cond.code y_S_areMethodNumbers b_S_areMethodNumbers 3 (some .boolean) :: gt
abbrev w_S_canBeMade : List Cond := Cond.code y_S_canBeMade b_S_canBeMade 3 (some .boolean) :: gt
abbrev w_S_survey : List Cond := Cond.code y_S_survey b_S_survey 4 none :: gt
abbrev w_S_reach : List Cond := Cond.code y_S_reach b_S_reach 3 none :: gt
abbrev w_C_wordsTaken : List Cond := Cond.code y_C_wordsTaken b_C_wordsTaken 1 (some .int) :: gt
abbrev w_B_headFields : List Cond := Cond.code y_B_headFields b_B_headFields 1 (some .int) :: gt
abbrev w_X_headFields : List Cond := Cond.code y_X_headFields b_X_headFields 1 (some .int) :: gt
abbrev w_M_wordsTaken : List Cond := Cond.code y_M_wordsTaken b_M_wordsTaken 1 (some .int) :: gt
abbrev w_C_entriesTaken : List Cond := Cond.code y_C_entriesTaken b_C_entriesTaken 1 (some .int) :: gt
abbrev w_M_entriesTaken : List Cond := Cond.code y_M_entriesTaken b_M_entriesTaken 1 (some .int) :: gt
abbrev w_S_reachPartsOf : List Cond := Cond.code y_S_reachPartsOf b_S_reachPartsOf 3 none :: gt
abbrev w_B_origin : List Cond := Cond.code y_B_origin b_B_origin 1 (some (.object "StackRoom$Thing")) :: gt
abbrev w_X_origin : List Cond := Cond.code y_X_origin b_X_origin 1 (some (.object "StackRoom$Thing")) :: gt
abbrev w_M_init : List Cond := Cond.code y_M_init b_M_init 4 none :: gt
abbrev w_T_init : List Cond := Cond.code y_T_init b_T_init 2 none :: gt
abbrev w_S_change : List Cond := Cond.code y_S_change b_S_change 6 (some .boolean) :: gt
abbrev w_S_methodIn : List Cond := Cond.code y_S_methodIn b_S_methodIn 4 (some (.object "StackRoom$Method")) :: gt
abbrev w_M_setNumbers : List Cond := Cond.code y_M_setNumbers b_M_setNumbers 3 none :: gt
abbrev w_S_context : List Cond := Cond.code y_S_context b_S_context 6 (some .int) :: gt
abbrev w_S_isSender : List Cond := Cond.code y_S_isSender b_S_isSender 2 (some .boolean) :: gt
abbrev w_S_contextIn : List Cond := Cond.code y_S_contextIn b_S_contextIn 4 (some (.object "StackRoom$Context")) :: gt
abbrev w_X_init : List Cond := Cond.code y_X_init b_X_init 4 none :: gt
abbrev w_C_init : List Cond := Cond.code y_C_init b_C_init 6 none :: gt
abbrev w_S_block : List Cond := Cond.code y_S_block b_S_block 7 (some .int) :: gt
abbrev w_B_homeContext : List Cond := Cond.code y_B_homeContext b_B_homeContext 1 (some (.object "StackRoom$MethodContext")) :: gt
abbrev w_X_homeContext : List Cond := Cond.code y_X_homeContext b_X_homeContext 1 (some (.object "StackRoom$MethodContext")) :: gt
abbrev w_B_init : List Cond := Cond.code y_B_init b_B_init 4 none :: gt
abbrev w_S_push : List Cond := Cond.code y_S_push b_S_push 4 (some .boolean) :: gt
abbrev w_C_isFull : List Cond := Cond.code y_C_isFull b_C_isFull 1 (some .boolean) :: gt
abbrev w_C_pushOne : List Cond := Cond.code y_C_pushOne b_C_pushOne 2 none :: gt
abbrev w_C_putField : List Cond := Cond.code y_C_putField b_C_putField 3 none :: gt
abbrev w_C_hasField : List Cond := Cond.code y_C_hasField b_C_hasField 2 (some .boolean) :: gt
abbrev w_S_fill : List Cond := Cond.code y_S_fill b_S_fill 6 (some .int) :: gt
abbrev w_S_areNumbers : List Cond := Cond.code y_S_areNumbers b_S_areNumbers 2 (some .boolean) :: gt
abbrev w_S_pop : List Cond := Cond.code y_S_pop b_S_pop 4 (some .boolean) :: gt
abbrev w_C_depthNow : List Cond := Cond.code y_C_depthNow b_C_depthNow 1 (some .int) :: gt
abbrev w_B_floorNow : List Cond := Cond.code y_B_floorNow b_B_floorNow 1 (some .int) :: gt
abbrev w_X_floorNow : List Cond := Cond.code y_X_floorNow b_X_floorNow 1 (some .int) :: gt
abbrev w_C_popOne : List Cond := Cond.code y_C_popOne b_C_popOne 2 (some (.object "StackRoom$Value")) :: gt
abbrev w_C_fieldAt : List Cond := Cond.code y_C_fieldAt b_C_fieldAt 2 (some (.object "StackRoom$Value")) :: gt
abbrev w_S_peek : List Cond := Cond.code y_S_peek b_S_peek 5 (some .boolean) :: gt
abbrev w_S_drop : List Cond := Cond.code y_S_drop b_S_drop 5 (some .boolean) :: gt
abbrev w_S_height : List Cond := Cond.code y_S_height b_S_height 3 (some .int) :: gt
abbrev w_S_room : List Cond := Cond.code y_S_room b_S_room 3 (some .int) :: gt
abbrev w_S_floor : List Cond := Cond.code y_S_floor b_S_floor 3 (some .int) :: gt
abbrev w_S_count : List Cond := Cond.code y_S_count b_S_count 4 (some .int) :: gt
abbrev w_S_home : List Cond := Cond.code y_S_home b_S_home 4 (some .boolean) :: gt
abbrev w_S_sender : List Cond := Cond.code y_S_sender b_S_sender 4 (some .boolean) :: gt
abbrev w_S_send : List Cond := Cond.code y_S_send b_S_send 4 (some .boolean) :: gt
abbrev w_S_kill : List Cond := Cond.code y_S_kill b_S_kill 5 (some .boolean) :: gt
abbrev w_S_temporary : List Cond := Cond.code y_S_temporary b_S_temporary 5 (some .boolean) :: gt
abbrev w_X_hasTemporary : List Cond := Cond.code y_X_hasTemporary b_X_hasTemporary 2 (some .boolean) :: gt
abbrev w_S_keep : List Cond := Cond.code y_S_keep b_S_keep 5 (some .boolean) :: gt
abbrev w_S_words : List Cond := Cond.code y_S_words b_S_words 1 (some .int) :: gt
abbrev w_S_entries : List Cond := Cond.code y_S_entries b_S_entries 1 (some .int) :: gt
abbrev w_S_contexts : List Cond := Cond.code y_S_contexts b_S_contexts 1 (some .int) :: gt
abbrev w_L_cell : List Cond := Cond.code y_L_cell b_L_cell 2 (some .int) :: gt
abbrev w_R_init : List Cond := Cond.code y_R_init b_R_init 3 none :: gt
abbrev w_R_words : List Cond := Cond.code y_R_words b_R_words 1 (some .int) :: gt
abbrev w_R_look : List Cond := Cond.code y_R_look b_R_look 4 none :: gt
abbrev w_R_see : List Cond := Cond.code y_R_see b_R_see 2 none :: gt
abbrev w_R_isObject : List Cond := Cond.code y_R_isObject b_R_isObject 1 (some .boolean) :: gt
abbrev w_R_entries : List Cond := Cond.code y_R_entries b_R_entries 1 (some .int) :: gt
abbrev w_R_contexts : List Cond := Cond.code y_R_contexts b_R_contexts 1 (some .int) :: gt
abbrev w_R_number : List Cond := Cond.code y_R_number b_R_number 3 (some .boolean) :: gt
abbrev w_R_isRegister : List Cond := Cond.code y_R_isRegister b_R_isRegister 1 (some .boolean) :: gt
abbrev w_R_isNumber : List Cond := Cond.code y_R_isNumber b_R_isNumber 1 (some .boolean) :: gt
abbrev w_R_numeral : List Cond := Cond.code y_R_numeral b_R_numeral 1 (some .int) :: gt
abbrev w_R_move : List Cond := Cond.code y_R_move b_R_move 3 (some .boolean) :: gt
abbrev w_R_clear : List Cond := Cond.code y_R_clear b_R_clear 2 (some .boolean) :: gt
abbrev w_R_kind : List Cond := Cond.code y_R_kind b_R_kind 3 (some .int) :: gt
abbrev w_R_value : List Cond := Cond.code y_R_value b_R_value 3 (some .int) :: gt
abbrev w_R_method : List Cond := Cond.code y_R_method b_R_method 6 (some .int) :: gt
abbrev w_R_isMethod : List Cond := Cond.code y_R_isMethod b_R_isMethod 3 (some .boolean) :: gt
abbrev w_R_make : List Cond := Cond.code y_R_make b_R_make 7 (some .int) :: gt
abbrev w_R_letGo : List Cond := Cond.code y_R_letGo b_R_letGo 4 none :: gt
abbrev w_R_give : List Cond := Cond.code y_R_give b_R_give 5 none :: gt
abbrev w_R_change : List Cond := Cond.code y_R_change b_R_change 6 (some .boolean) :: gt
abbrev w_R_objectIn : List Cond := Cond.code y_R_objectIn b_R_objectIn 5 (some .int) :: gt
abbrev w_R_context : List Cond := Cond.code y_R_context b_R_context 8 (some .int) :: gt
abbrev w_R_isNilOrContext : List Cond := Cond.code y_R_isNilOrContext b_R_isNilOrContext 2 (some .boolean) :: gt
abbrev w_R_contextIn : List Cond := Cond.code y_R_contextIn b_R_contextIn 2 (some .int) :: gt
abbrev w_R_settle : List Cond := Cond.code y_R_settle b_R_settle 7 (some .int) :: gt
abbrev w_R_block : List Cond := Cond.code y_R_block b_R_block 8 (some .int) :: gt
abbrev w_R_homeOf : List Cond := Cond.code y_R_homeOf b_R_homeOf 2 (some .int) :: gt
abbrev w_R_push : List Cond := Cond.code y_R_push b_R_push 4 (some .boolean) :: gt
abbrev w_R_pushes : List Cond := Cond.code y_R_pushes b_R_pushes 3 (some .boolean) :: gt
abbrev w_R_fill : List Cond := Cond.code y_R_fill b_R_fill 6 (some .int) :: gt
abbrev w_R_pop : List Cond := Cond.code y_R_pop b_R_pop 4 (some .boolean) :: gt
abbrev w_R_floorOf : List Cond := Cond.code y_R_floorOf b_R_floorOf 2 (some .int) :: gt
abbrev w_R_popped : List Cond := Cond.code y_R_popped b_R_popped 3 (some .int) :: gt
abbrev w_R_peek : List Cond := Cond.code y_R_peek b_R_peek 5 (some .boolean) :: gt
abbrev w_R_drop : List Cond := Cond.code y_R_drop b_R_drop 5 (some .boolean) :: gt
abbrev w_R_height : List Cond := Cond.code y_R_height b_R_height 3 (some .int) :: gt
abbrev w_R_room : List Cond := Cond.code y_R_room b_R_room 3 (some .int) :: gt
abbrev w_R_floor : List Cond := Cond.code y_R_floor b_R_floor 3 (some .int) :: gt
abbrev w_R_count : List Cond := Cond.code y_R_count b_R_count 3 (some .int) :: gt
abbrev w_R_home : List Cond := Cond.code y_R_home b_R_home 4 (some .boolean) :: gt
abbrev w_R_sender : List Cond := Cond.code y_R_sender b_R_sender 4 (some .boolean) :: gt
abbrev w_R_send : List Cond := Cond.code y_R_send b_R_send 4 (some .boolean) :: gt
abbrev w_R_kill : List Cond := Cond.code y_R_kill b_R_kill 5 (some .boolean) :: gt
abbrev w_R_temporary : List Cond := Cond.code y_R_temporary b_R_temporary 5 (some .boolean) :: gt
abbrev w_R_placeOf : List Cond := Cond.code y_R_placeOf b_R_placeOf 5 (some .int) :: gt
abbrev w_R_keep : List Cond := Cond.code y_R_keep b_R_keep 5 (some .boolean) :: gt
