section
-- ===== PART A: goes FIRST, ahead of the names: the tables' words, and 'selects' of the private methods out of them =====
/-- a private method of a class that the tables say can be made, by its rows of tables_1 -/
def lw_okq (q : MethodName × Nat) : Prop := (q.1.cls ≠ "java/lang/invoke/MethodHandle" ∧ q.1.cls ≠ "java/lang/invoke/VarHandle") ∧ Cond.instantiable q.1.cls q.2 ∈ tables_1 ∧ Cond.privateMethod q.1 ∈ tables_1 ∧ Cond.instanceMethod q.1 ∈ tables_1
theorem lw_p0 : lw_okq (⟨"StackRoom", "canBeMade", "(II)Z"⟩, 10) := ⟨⟨by decide +kernel, by decide +kernel⟩, List.mem_of_getElem? (i := 11) (by decide +kernel), List.mem_of_getElem? (i := 132) (by decide +kernel), List.mem_of_getElem? (i := 133) (by decide +kernel)⟩
theorem lw_p1 : lw_okq (⟨"StackRoom", "survey", "()V"⟩, 10) := ⟨⟨by decide +kernel, by decide +kernel⟩, List.mem_of_getElem? (i := 11) (by decide +kernel), List.mem_of_getElem? (i := 136) (by decide +kernel), List.mem_of_getElem? (i := 137) (by decide +kernel)⟩
theorem lw_p2 : lw_okq (⟨"StackRoom", "reach", "(LStackRoom$Value;)V"⟩, 10) := ⟨⟨by decide +kernel, by decide +kernel⟩, List.mem_of_getElem? (i := 11) (by decide +kernel), List.mem_of_getElem? (i := 140) (by decide +kernel), List.mem_of_getElem? (i := 141) (by decide +kernel)⟩
theorem lw_p3 : lw_okq (⟨"StackRoom", "reachPartsOf", "(LStackRoom$Context;)V"⟩, 10) := ⟨⟨by decide +kernel, by decide +kernel⟩, List.mem_of_getElem? (i := 11) (by decide +kernel), List.mem_of_getElem? (i := 174) (by decide +kernel), List.mem_of_getElem? (i := 175) (by decide +kernel)⟩
theorem lw_p4 : lw_okq (⟨"StackRoom", "methodIn", "(I)LStackRoom$Method;"⟩, 10) := ⟨⟨by decide +kernel, by decide +kernel⟩, List.mem_of_getElem? (i := 11) (by decide +kernel), List.mem_of_getElem? (i := 218) (by decide +kernel), List.mem_of_getElem? (i := 219) (by decide +kernel)⟩
theorem lw_p5 : lw_okq (⟨"StackRoom", "isSender", "(I)Z"⟩, 10) := ⟨⟨by decide +kernel, by decide +kernel⟩, List.mem_of_getElem? (i := 11) (by decide +kernel), List.mem_of_getElem? (i := 230) (by decide +kernel), List.mem_of_getElem? (i := 231) (by decide +kernel)⟩
theorem lw_p6 : lw_okq (⟨"StackRoom", "contextIn", "(I)LStackRoom$Context;"⟩, 10) := ⟨⟨by decide +kernel, by decide +kernel⟩, List.mem_of_getElem? (i := 11) (by decide +kernel), List.mem_of_getElem? (i := 236) (by decide +kernel), List.mem_of_getElem? (i := 237) (by decide +kernel)⟩
theorem lw_p7 : lw_okq (⟨"StackRoomModel", "look", "()V"⟩, 25) := ⟨⟨by decide +kernel, by decide +kernel⟩, List.mem_of_getElem? (i := 452) (by decide +kernel), List.mem_of_getElem? (i := 542) (by decide +kernel), List.mem_of_getElem? (i := 543) (by decide +kernel)⟩
theorem lw_p8 : lw_okq (⟨"StackRoomModel", "see", "(I)V"⟩, 25) := ⟨⟨by decide +kernel, by decide +kernel⟩, List.mem_of_getElem? (i := 452) (by decide +kernel), List.mem_of_getElem? (i := 546) (by decide +kernel), List.mem_of_getElem? (i := 547) (by decide +kernel)⟩
theorem lw_p9 : lw_okq (⟨"StackRoomModel", "make", "(IIII)I"⟩, 25) := ⟨⟨by decide +kernel, by decide +kernel⟩, List.mem_of_getElem? (i := 452) (by decide +kernel), List.mem_of_getElem? (i := 599) (by decide +kernel), List.mem_of_getElem? (i := 600) (by decide +kernel)⟩
theorem lw_p10 : lw_okq (⟨"StackRoomModel", "letGo", "()V"⟩, 25) := ⟨⟨by decide +kernel, by decide +kernel⟩, List.mem_of_getElem? (i := 452) (by decide +kernel), List.mem_of_getElem? (i := 603) (by decide +kernel), List.mem_of_getElem? (i := 604) (by decide +kernel)⟩
theorem lw_p11 : lw_okq (⟨"StackRoomModel", "give", "(IIII)V"⟩, 25) := ⟨⟨by decide +kernel, by decide +kernel⟩, List.mem_of_getElem? (i := 452) (by decide +kernel), List.mem_of_getElem? (i := 607) (by decide +kernel), List.mem_of_getElem? (i := 608) (by decide +kernel)⟩
theorem lw_p12 : lw_okq (⟨"StackRoomModel", "objectIn", "(III)I"⟩, 25) := ⟨⟨by decide +kernel, by decide +kernel⟩, List.mem_of_getElem? (i := 452) (by decide +kernel), List.mem_of_getElem? (i := 615) (by decide +kernel), List.mem_of_getElem? (i := 616) (by decide +kernel)⟩
theorem lw_p13 : lw_okq (⟨"StackRoomModel", "isNilOrContext", "(I)Z"⟩, 25) := ⟨⟨by decide +kernel, by decide +kernel⟩, List.mem_of_getElem? (i := 452) (by decide +kernel), List.mem_of_getElem? (i := 623) (by decide +kernel), List.mem_of_getElem? (i := 624) (by decide +kernel)⟩
theorem lw_p14 : lw_okq (⟨"StackRoomModel", "contextIn", "(I)I"⟩, 25) := ⟨⟨by decide +kernel, by decide +kernel⟩, List.mem_of_getElem? (i := 452) (by decide +kernel), List.mem_of_getElem? (i := 627) (by decide +kernel), List.mem_of_getElem? (i := 628) (by decide +kernel)⟩
theorem lw_p15 : lw_okq (⟨"StackRoomModel", "settle", "(IIIZII)I"⟩, 25) := ⟨⟨by decide +kernel, by decide +kernel⟩, List.mem_of_getElem? (i := 452) (by decide +kernel), List.mem_of_getElem? (i := 631) (by decide +kernel), List.mem_of_getElem? (i := 632) (by decide +kernel)⟩
def lw_privs_1 : List (MethodName × Nat) := [(⟨"StackRoom", "canBeMade", "(II)Z"⟩, 10), (⟨"StackRoom", "survey", "()V"⟩, 10), (⟨"StackRoom", "reach", "(LStackRoom$Value;)V"⟩, 10), (⟨"StackRoom", "reachPartsOf", "(LStackRoom$Context;)V"⟩, 10), (⟨"StackRoom", "methodIn", "(I)LStackRoom$Method;"⟩, 10), (⟨"StackRoom", "isSender", "(I)Z"⟩, 10), (⟨"StackRoom", "contextIn", "(I)LStackRoom$Context;"⟩, 10), (⟨"StackRoomModel", "look", "()V"⟩, 25), (⟨"StackRoomModel", "see", "(I)V"⟩, 25), (⟨"StackRoomModel", "make", "(IIII)I"⟩, 25), (⟨"StackRoomModel", "letGo", "()V"⟩, 25), (⟨"StackRoomModel", "give", "(IIII)V"⟩, 25), (⟨"StackRoomModel", "objectIn", "(III)I"⟩, 25), (⟨"StackRoomModel", "isNilOrContext", "(I)Z"⟩, 25), (⟨"StackRoomModel", "contextIn", "(I)I"⟩, 25), (⟨"StackRoomModel", "settle", "(IIIZII)I"⟩, 25)]
theorem lw_r1 : ∀ q ∈ lw_privs_1, lw_okq q := List.forall_mem_cons.mpr ⟨lw_p0, List.forall_mem_cons.mpr ⟨lw_p1, List.forall_mem_cons.mpr ⟨lw_p2, List.forall_mem_cons.mpr ⟨lw_p3, List.forall_mem_cons.mpr ⟨lw_p4, List.forall_mem_cons.mpr ⟨lw_p5, List.forall_mem_cons.mpr ⟨lw_p6, List.forall_mem_cons.mpr ⟨lw_p7, List.forall_mem_cons.mpr ⟨lw_p8, List.forall_mem_cons.mpr ⟨lw_p9, List.forall_mem_cons.mpr ⟨lw_p10, List.forall_mem_cons.mpr ⟨lw_p11, List.forall_mem_cons.mpr ⟨lw_p12, List.forall_mem_cons.mpr ⟨lw_p13, List.forall_mem_cons.mpr ⟨lw_p14, List.forall_mem_cons.mpr ⟨lw_p15, fun _ h => absurd h List.not_mem_nil⟩⟩⟩⟩⟩⟩⟩⟩⟩⟩⟩⟩⟩⟩⟩⟩
theorem lw_p16 : lw_okq (⟨"StackRoomModel", "homeOf", "(I)I"⟩, 25) := ⟨⟨by decide +kernel, by decide +kernel⟩, List.mem_of_getElem? (i := 452) (by decide +kernel), List.mem_of_getElem? (i := 639) (by decide +kernel), List.mem_of_getElem? (i := 640) (by decide +kernel)⟩
theorem lw_p17 : lw_okq (⟨"StackRoomModel", "pushes", "(II)Z"⟩, 25) := ⟨⟨by decide +kernel, by decide +kernel⟩, List.mem_of_getElem? (i := 452) (by decide +kernel), List.mem_of_getElem? (i := 647) (by decide +kernel), List.mem_of_getElem? (i := 648) (by decide +kernel)⟩
theorem lw_p18 : lw_okq (⟨"StackRoomModel", "floorOf", "(I)I"⟩, 25) := ⟨⟨by decide +kernel, by decide +kernel⟩, List.mem_of_getElem? (i := 452) (by decide +kernel), List.mem_of_getElem? (i := 659) (by decide +kernel), List.mem_of_getElem? (i := 660) (by decide +kernel)⟩
theorem lw_p19 : lw_okq (⟨"StackRoomModel", "popped", "(I)I"⟩, 25) := ⟨⟨by decide +kernel, by decide +kernel⟩, List.mem_of_getElem? (i := 452) (by decide +kernel), List.mem_of_getElem? (i := 663) (by decide +kernel), List.mem_of_getElem? (i := 664) (by decide +kernel)⟩
theorem lw_p20 : lw_okq (⟨"StackRoomModel", "placeOf", "(II)I"⟩, 25) := ⟨⟨by decide +kernel, by decide +kernel⟩, List.mem_of_getElem? (i := 452) (by decide +kernel), List.mem_of_getElem? (i := 711) (by decide +kernel), List.mem_of_getElem? (i := 712) (by decide +kernel)⟩
def lw_privs_2 : List (MethodName × Nat) := [(⟨"StackRoomModel", "homeOf", "(I)I"⟩, 25), (⟨"StackRoomModel", "pushes", "(II)Z"⟩, 25), (⟨"StackRoomModel", "floorOf", "(I)I"⟩, 25), (⟨"StackRoomModel", "popped", "(I)I"⟩, 25), (⟨"StackRoomModel", "placeOf", "(II)I"⟩, 25)]
theorem lw_r2 : ∀ q ∈ lw_privs_2, lw_okq q := List.forall_mem_cons.mpr ⟨lw_p16, List.forall_mem_cons.mpr ⟨lw_p17, List.forall_mem_cons.mpr ⟨lw_p18, List.forall_mem_cons.mpr ⟨lw_p19, List.forall_mem_cons.mpr ⟨lw_p20, fun _ h => absurd h List.not_mem_nil⟩⟩⟩⟩⟩
def lw_privs : List (MethodName × Nat) := lw_privs_1 ++ (lw_privs_2)
def lw_tbl : List Cond := k2_sels lw_privs ++ tables_1
theorem lw_privs_ok : ∀ q ∈ lw_privs, lw_okq q := by
  show ∀ q ∈ lw_privs_1 ++ (lw_privs_2), lw_okq q
  exact List.forall_mem_append.mpr ⟨lw_r1, lw_r2⟩
def T_S : u_T := fun k => match k with
  | 0 => ("StackRoom", "allWords", "I", true)
  | 1 => ("StackRoom", "allEntries", "I", true)
  | 2 => ("StackRoom", "registers", "[LStackRoom$Value;", true)
  | 3 => ("StackRoom", "made", "I", false)
  | 4 => ("StackRoom", "reached", "[LStackRoom$Thing;", true)
  | 5 => ("StackRoom", "reachedCount", "I", false)
  | 6 => ("StackRoom", "round", "I", false)
  | 7 => ("StackRoom", "wordsLeft", "I", false)
  | 8 => ("StackRoom", "entriesLeft", "I", false)
  | _ => ("StackRoom", "contextsReached", "I", false)
def ty_S : Nat → FieldType := fun k => match k with
  | 0 => .int
  | 1 => .int
  | 2 => .array (.object "StackRoom$Value")
  | 3 => .int
  | 4 => .array (.object "StackRoom$Thing")
  | 5 => .int
  | 6 => .int
  | 7 => .int
  | 8 => .int
  | _ => .int
theorem nm_S : ∀ a, a < 10 → ∀ b, b < 10 → a ≠ b → (T_S a).2.1 ≠ (T_S b).2.1 := by decide +kernel
theorem tk_S : ∀ k, k < 10 → parseFieldDescriptor (T_S k).2.2.1 = some (ty_S k) := by decide +kernel
theorem in_S : ∀ w ∈ u_ws "StackRoom" T_S 10, w ∈ lw_tbl.filter goodWord := by decide +kernel
def T_W : u_T := fun k => match k with
  | _ => ("StackRoom$Whole", "amount", "I", true)
def ty_W : Nat → FieldType := fun k => match k with
  | _ => .int
theorem nm_W : ∀ a, a < 1 → ∀ b, b < 1 → a ≠ b → (T_W a).2.1 ≠ (T_W b).2.1 := by decide +kernel
theorem tk_W : ∀ k, k < 1 → parseFieldDescriptor (T_W k).2.2.1 = some (ty_W k) := by decide +kernel
theorem in_W : ∀ w ∈ u_ws "StackRoom$Whole" T_W 1, w ∈ lw_tbl.filter goodWord := by decide +kernel
def T_M : u_T := fun k => match k with
  | 0 => ("StackRoom$Thing", "identity", "I", true)
  | 1 => ("StackRoom$Thing", "round", "I", false)
  | 2 => ("StackRoom$Method", "temporaries", "I", false)
  | _ => ("StackRoom$Method", "depth", "I", false)
def ty_M : Nat → FieldType := fun k => match k with
  | 0 => .int
  | 1 => .int
  | 2 => .int
  | _ => .int
theorem nm_M : ∀ a, a < 4 → ∀ b, b < 4 → a ≠ b → (T_M a).2.1 ≠ (T_M b).2.1 := by decide +kernel
theorem tk_M : ∀ k, k < 4 → parseFieldDescriptor (T_M k).2.2.1 = some (ty_M k) := by decide +kernel
theorem in_M : ∀ w ∈ u_ws "StackRoom$Method" T_M 4, w ∈ lw_tbl.filter goodWord := by decide +kernel
def T_X : u_T := fun k => match k with
  | 0 => ("StackRoom$Thing", "identity", "I", true)
  | 1 => ("StackRoom$Thing", "round", "I", false)
  | 2 => ("StackRoom$Context", "sender", "LStackRoom$Context;", false)
  | 3 => ("StackRoom$Context", "dead", "Z", false)
  | 4 => ("StackRoom$Context", "height", "I", false)
  | 5 => ("StackRoom$Context", "fields", "[LStackRoom$Value;", true)
  | _ => ("StackRoom$MethodContext", "method", "LStackRoom$Method;", true)
def ty_X : Nat → FieldType := fun k => match k with
  | 0 => .int
  | 1 => .int
  | 2 => .object "StackRoom$Context"
  | 3 => .boolean
  | 4 => .int
  | 5 => .array (.object "StackRoom$Value")
  | _ => .object "StackRoom$Method"
theorem nm_X : ∀ a, a < 7 → ∀ b, b < 7 → a ≠ b → (T_X a).2.1 ≠ (T_X b).2.1 := by decide +kernel
theorem tk_X : ∀ k, k < 7 → parseFieldDescriptor (T_X k).2.2.1 = some (ty_X k) := by decide +kernel
theorem in_X : ∀ w ∈ u_ws "StackRoom$MethodContext" T_X 7, w ∈ lw_tbl.filter goodWord := by decide +kernel
def T_B : u_T := fun k => match k with
  | 0 => ("StackRoom$Thing", "identity", "I", true)
  | 1 => ("StackRoom$Thing", "round", "I", false)
  | 2 => ("StackRoom$Context", "sender", "LStackRoom$Context;", false)
  | 3 => ("StackRoom$Context", "dead", "Z", false)
  | 4 => ("StackRoom$Context", "height", "I", false)
  | 5 => ("StackRoom$Context", "fields", "[LStackRoom$Value;", true)
  | 6 => ("StackRoom$BlockContext", "home", "LStackRoom$MethodContext;", true)
  | _ => ("StackRoom$BlockContext", "count", "I", true)
def ty_B : Nat → FieldType := fun k => match k with
  | 0 => .int
  | 1 => .int
  | 2 => .object "StackRoom$Context"
  | 3 => .boolean
  | 4 => .int
  | 5 => .array (.object "StackRoom$Value")
  | 6 => .object "StackRoom$MethodContext"
  | _ => .int
theorem nm_B : ∀ a, a < 8 → ∀ b, b < 8 → a ≠ b → (T_B a).2.1 ≠ (T_B b).2.1 := by decide +kernel
theorem tk_B : ∀ k, k < 8 → parseFieldDescriptor (T_B k).2.2.1 = some (ty_B k) := by decide +kernel
theorem in_B : ∀ w ∈ u_ws "StackRoom$BlockContext" T_B 8, w ∈ lw_tbl.filter goodWord := by decide +kernel
def T_R : u_T := fun k => match k with
  | 0 => ("StackRoomModel", "words", "I", true)
  | 1 => ("StackRoomModel", "entries", "I", true)
  | 2 => ("StackRoomModel", "made", "I", false)
  | 3 => ("StackRoomModel", "registers", "[I", true)
  | 4 => ("StackRoomModel", "kinds", "[B", true)
  | 5 => ("StackRoomModel", "identities", "[I", true)
  | 6 => ("StackRoomModel", "arguments", "[I", true)
  | 7 => ("StackRoomModel", "temporaries", "[I", true)
  | 8 => ("StackRoomModel", "depths", "[I", true)
  | 9 => ("StackRoomModel", "senders", "[I", true)
  | 10 => ("StackRoomModel", "dead", "[Z", true)
  | 11 => ("StackRoomModel", "heights", "[I", true)
  | 12 => ("StackRoomModel", "links", "[I", true)
  | 13 => ("StackRoomModel", "counts", "[I", true)
  | 14 => ("StackRoomModel", "begins", "[I", true)
  | 15 => ("StackRoomModel", "rooms", "[I", true)
  | 16 => ("StackRoomModel", "fields", "[I", false)
  | 17 => ("StackRoomModel", "other", "[I", false)
  | 18 => ("StackRoomModel", "used", "I", false)
  | 19 => ("StackRoomModel", "seen", "[Z", true)
  | 20 => ("StackRoomModel", "todo", "[I", true)
  | 21 => ("StackRoomModel", "reached", "I", false)
  | 22 => ("StackRoomModel", "reachedObjects", "I", false)
  | 23 => ("StackRoomModel", "reachedWords", "I", false)
  | _ => ("StackRoomModel", "reachedContexts", "I", false)
def ty_R : Nat → FieldType := fun k => match k with
  | 0 => .int
  | 1 => .int
  | 2 => .int
  | 3 => .array .int
  | 4 => .array .byte
  | 5 => .array .int
  | 6 => .array .int
  | 7 => .array .int
  | 8 => .array .int
  | 9 => .array .int
  | 10 => .array .boolean
  | 11 => .array .int
  | 12 => .array .int
  | 13 => .array .int
  | 14 => .array .int
  | 15 => .array .int
  | 16 => .array .int
  | 17 => .array .int
  | 18 => .int
  | 19 => .array .boolean
  | 20 => .array .int
  | 21 => .int
  | 22 => .int
  | 23 => .int
  | _ => .int
theorem nm_R : ∀ a, a < 25 → ∀ b, b < 25 → a ≠ b → (T_R a).2.1 ≠ (T_R b).2.1 := by decide +kernel
theorem tk_R : ∀ k, k < 25 → parseFieldDescriptor (T_R k).2.2.1 = some (ty_R k) := by decide +kernel
theorem in_R : ∀ w ∈ u_ws "StackRoomModel" T_R 25, w ∈ lw_tbl.filter goodWord := by decide +kernel
abbrev vwCl : List vw_C := [("StackRoom", T_S, 10), ("StackRoom$Whole", T_W, 1), ("StackRoom$Method", T_M, 4), ("StackRoom$MethodContext", T_X, 7), ("StackRoom$BlockContext", T_B, 8), ("StackRoomModel", T_R, 25)]
abbrev b_S_init : ByteArray := prog_1_method_1_code
def y_S_init : MethodName := ⟨"StackRoom", "<init>", "(II)V"⟩
abbrev b_O_init : ByteArray := ⟨#[0xb1]⟩
def y_O_init : MethodName := ⟨"java/lang/Object", "<init>", "()V"⟩
abbrev b_S_isWithin : ByteArray := prog_1_method_29_code
def y_S_isWithin : MethodName := ⟨"StackRoom", "isWithin", "(III)Z"⟩
abbrev b_S_number : ByteArray := prog_1_method_2_code
def y_S_number : MethodName := ⟨"StackRoom", "number", "(II)Z"⟩
abbrev b_S_isRegister : ByteArray := prog_1_method_30_code
def y_S_isRegister : MethodName := ⟨"StackRoom", "isRegister", "(I)Z"⟩
abbrev b_S_isNumber : ByteArray := prog_1_method_31_code
def y_S_isNumber : MethodName := ⟨"StackRoom", "isNumber", "(I)Z"⟩
abbrev b_W_init : ByteArray := prog_8_method_1_code
def y_W_init : MethodName := ⟨"StackRoom$Whole", "<init>", "(I)V"⟩
abbrev b_V_init : ByteArray := prog_7_method_1_code
def y_V_init : MethodName := ⟨"StackRoom$Value", "<init>", "()V"⟩
abbrev b_S_move : ByteArray := prog_1_method_3_code
def y_S_move : MethodName := ⟨"StackRoom", "move", "(II)Z"⟩
abbrev b_S_clear : ByteArray := prog_1_method_4_code
def y_S_clear : MethodName := ⟨"StackRoom", "clear", "(I)Z"⟩
abbrev b_S_kind : ByteArray := prog_1_method_5_code
def y_S_kind : MethodName := ⟨"StackRoom", "kind", "(I)I"⟩
abbrev b_B_kindCode : ByteArray := prog_2_method_2_code
def y_B_kindCode : MethodName := ⟨"StackRoom$BlockContext", "kindCode", "()I"⟩
abbrev b_M_kindCode : ByteArray := prog_4_method_3_code
def y_M_kindCode : MethodName := ⟨"StackRoom$Method", "kindCode", "()I"⟩
abbrev b_X_kindCode : ByteArray := prog_5_method_3_code
def y_X_kindCode : MethodName := ⟨"StackRoom$MethodContext", "kindCode", "()I"⟩
abbrev b_W_kindCode : ByteArray := prog_8_method_2_code
def y_W_kindCode : MethodName := ⟨"StackRoom$Whole", "kindCode", "()I"⟩
abbrev b_S_value : ByteArray := prog_1_method_6_code
def y_S_value : MethodName := ⟨"StackRoom", "value", "(I)I"⟩
abbrev b_T_shown : ByteArray := prog_6_method_2_code
def y_T_shown : MethodName := ⟨"StackRoom$Thing", "shown", "()I"⟩
abbrev b_W_shown : ByteArray := prog_8_method_3_code
def y_W_shown : MethodName := ⟨"StackRoom$Whole", "shown", "()I"⟩
abbrev b_S_method : ByteArray := prog_1_method_7_code
def y_S_method : MethodName := ⟨"StackRoom", "method", "(IIII)I"⟩
abbrev b_S_areMethodNumbers : ByteArray := prog_1_method_33_code
def y_S_areMethodNumbers : MethodName := ⟨"StackRoom", "areMethodNumbers", "(III)Z"⟩
abbrev b_S_canBeMade : ByteArray := prog_1_method_37_code
def y_S_canBeMade : MethodName := ⟨"StackRoom", "canBeMade", "(II)Z"⟩
abbrev b_S_survey : ByteArray := prog_1_method_38_code
def y_S_survey : MethodName := ⟨"StackRoom", "survey", "()V"⟩
abbrev b_S_reach : ByteArray := prog_1_method_40_code
def y_S_reach : MethodName := ⟨"StackRoom", "reach", "(LStackRoom$Value;)V"⟩
abbrev b_C_wordsTaken : ByteArray := prog_3_method_6_code
def y_C_wordsTaken : MethodName := ⟨"StackRoom$Context", "wordsTaken", "()I"⟩
abbrev b_B_headFields : ByteArray := prog_2_method_3_code
def y_B_headFields : MethodName := ⟨"StackRoom$BlockContext", "headFields", "()I"⟩
abbrev b_X_headFields : ByteArray := prog_5_method_4_code
def y_X_headFields : MethodName := ⟨"StackRoom$MethodContext", "headFields", "()I"⟩
abbrev b_M_wordsTaken : ByteArray := prog_4_method_4_code
def y_M_wordsTaken : MethodName := ⟨"StackRoom$Method", "wordsTaken", "()I"⟩
abbrev b_C_entriesTaken : ByteArray := prog_3_method_7_code
def y_C_entriesTaken : MethodName := ⟨"StackRoom$Context", "entriesTaken", "()I"⟩
abbrev b_M_entriesTaken : ByteArray := prog_4_method_5_code
def y_M_entriesTaken : MethodName := ⟨"StackRoom$Method", "entriesTaken", "()I"⟩
abbrev b_S_reachPartsOf : ByteArray := prog_1_method_39_code
def y_S_reachPartsOf : MethodName := ⟨"StackRoom", "reachPartsOf", "(LStackRoom$Context;)V"⟩
abbrev b_B_origin : ByteArray := prog_2_method_6_code
def y_B_origin : MethodName := ⟨"StackRoom$BlockContext", "origin", "()LStackRoom$Thing;"⟩
abbrev b_X_origin : ByteArray := prog_5_method_7_code
def y_X_origin : MethodName := ⟨"StackRoom$MethodContext", "origin", "()LStackRoom$Thing;"⟩
abbrev b_M_init : ByteArray := prog_4_method_1_code
def y_M_init : MethodName := ⟨"StackRoom$Method", "<init>", "(III)V"⟩
abbrev b_T_init : ByteArray := prog_6_method_1_code
def y_T_init : MethodName := ⟨"StackRoom$Thing", "<init>", "(I)V"⟩
abbrev b_S_change : ByteArray := prog_1_method_8_code
def y_S_change : MethodName := ⟨"StackRoom", "change", "(IIII)Z"⟩
abbrev b_S_methodIn : ByteArray := prog_1_method_35_code
def y_S_methodIn : MethodName := ⟨"StackRoom", "methodIn", "(I)LStackRoom$Method;"⟩
abbrev b_M_setNumbers : ByteArray := prog_4_method_2_code
def y_M_setNumbers : MethodName := ⟨"StackRoom$Method", "setNumbers", "(II)V"⟩
abbrev b_S_context : ByteArray := prog_1_method_9_code
def y_S_context : MethodName := ⟨"StackRoom", "context", "(III)I"⟩
abbrev b_S_isSender : ByteArray := prog_1_method_34_code
def y_S_isSender : MethodName := ⟨"StackRoom", "isSender", "(I)Z"⟩
abbrev b_S_contextIn : ByteArray := prog_1_method_36_code
def y_S_contextIn : MethodName := ⟨"StackRoom", "contextIn", "(I)LStackRoom$Context;"⟩
abbrev b_X_init : ByteArray := prog_5_method_1_code
def y_X_init : MethodName := ⟨"StackRoom$MethodContext", "<init>", "(ILStackRoom$Method;LStackRoom$Context;)V"⟩
abbrev b_C_init : ByteArray := prog_3_method_1_code
def y_C_init : MethodName := ⟨"StackRoom$Context", "<init>", "(ILStackRoom$Context;ZII)V"⟩
abbrev b_S_block : ByteArray := prog_1_method_10_code
def y_S_block : MethodName := ⟨"StackRoom", "block", "(III)I"⟩
abbrev b_B_homeContext : ByteArray := prog_2_method_5_code
def y_B_homeContext : MethodName := ⟨"StackRoom$BlockContext", "homeContext", "()LStackRoom$MethodContext;"⟩
abbrev b_X_homeContext : ByteArray := prog_5_method_6_code
def y_X_homeContext : MethodName := ⟨"StackRoom$MethodContext", "homeContext", "()LStackRoom$MethodContext;"⟩
abbrev b_B_init : ByteArray := prog_2_method_1_code
def y_B_init : MethodName := ⟨"StackRoom$BlockContext", "<init>", "(ILStackRoom$MethodContext;I)V"⟩
abbrev b_S_push : ByteArray := prog_1_method_11_code
def y_S_push : MethodName := ⟨"StackRoom", "push", "(II)Z"⟩
abbrev b_C_isFull : ByteArray := prog_3_method_8_code
def y_C_isFull : MethodName := ⟨"StackRoom$Context", "isFull", "()Z"⟩
abbrev b_C_pushOne : ByteArray := prog_3_method_13_code
def y_C_pushOne : MethodName := ⟨"StackRoom$Context", "pushOne", "(LStackRoom$Value;)V"⟩
abbrev b_C_putField : ByteArray := prog_3_method_12_code
def y_C_putField : MethodName := ⟨"StackRoom$Context", "putField", "(ILStackRoom$Value;)V"⟩
abbrev b_C_hasField : ByteArray := prog_3_method_10_code
def y_C_hasField : MethodName := ⟨"StackRoom$Context", "hasField", "(I)Z"⟩
abbrev b_S_fill : ByteArray := prog_1_method_12_code
def y_S_fill : MethodName := ⟨"StackRoom", "fill", "(III)I"⟩
abbrev b_S_areNumbers : ByteArray := prog_1_method_32_code
def y_S_areNumbers : MethodName := ⟨"StackRoom", "areNumbers", "(II)Z"⟩
abbrev b_S_pop : ByteArray := prog_1_method_13_code
def y_S_pop : MethodName := ⟨"StackRoom", "pop", "(II)Z"⟩
abbrev b_C_depthNow : ByteArray := prog_3_method_9_code
def y_C_depthNow : MethodName := ⟨"StackRoom$Context", "depthNow", "()I"⟩
abbrev b_B_floorNow : ByteArray := prog_2_method_4_code
def y_B_floorNow : MethodName := ⟨"StackRoom$BlockContext", "floorNow", "()I"⟩
abbrev b_X_floorNow : ByteArray := prog_5_method_5_code
def y_X_floorNow : MethodName := ⟨"StackRoom$MethodContext", "floorNow", "()I"⟩
abbrev b_C_popOne : ByteArray := prog_3_method_14_code
def y_C_popOne : MethodName := ⟨"StackRoom$Context", "popOne", "()LStackRoom$Value;"⟩
abbrev b_C_fieldAt : ByteArray := prog_3_method_11_code
def y_C_fieldAt : MethodName := ⟨"StackRoom$Context", "fieldAt", "(I)LStackRoom$Value;"⟩
abbrev b_S_peek : ByteArray := prog_1_method_14_code
def y_S_peek : MethodName := ⟨"StackRoom", "peek", "(III)Z"⟩
abbrev b_S_drop : ByteArray := prog_1_method_15_code
def y_S_drop : MethodName := ⟨"StackRoom", "drop", "(II)Z"⟩
abbrev b_S_height : ByteArray := prog_1_method_16_code
def y_S_height : MethodName := ⟨"StackRoom", "height", "(I)I"⟩
abbrev b_S_room : ByteArray := prog_1_method_17_code
def y_S_room : MethodName := ⟨"StackRoom", "room", "(I)I"⟩
abbrev b_S_floor : ByteArray := prog_1_method_18_code
def y_S_floor : MethodName := ⟨"StackRoom", "floor", "(I)I"⟩
abbrev b_S_count : ByteArray := prog_1_method_19_code
def y_S_count : MethodName := ⟨"StackRoom", "count", "(I)I"⟩
abbrev b_S_home : ByteArray := prog_1_method_20_code
def y_S_home : MethodName := ⟨"StackRoom", "home", "(II)Z"⟩
abbrev b_S_sender : ByteArray := prog_1_method_21_code
def y_S_sender : MethodName := ⟨"StackRoom", "sender", "(II)Z"⟩
abbrev b_S_send : ByteArray := prog_1_method_22_code
def y_S_send : MethodName := ⟨"StackRoom", "send", "(II)Z"⟩
abbrev b_S_kill : ByteArray := prog_1_method_23_code
def y_S_kill : MethodName := ⟨"StackRoom", "kill", "(IZ)Z"⟩
abbrev b_S_temporary : ByteArray := prog_1_method_24_code
def y_S_temporary : MethodName := ⟨"StackRoom", "temporary", "(III)Z"⟩
abbrev b_X_hasTemporary : ByteArray := prog_5_method_2_code
def y_X_hasTemporary : MethodName := ⟨"StackRoom$MethodContext", "hasTemporary", "(I)Z"⟩
abbrev b_S_keep : ByteArray := prog_1_method_25_code
def y_S_keep : MethodName := ⟨"StackRoom", "keep", "(III)Z"⟩
abbrev b_S_words : ByteArray := prog_1_method_26_code
def y_S_words : MethodName := ⟨"StackRoom", "words", "()I"⟩
abbrev b_S_entries : ByteArray := prog_1_method_27_code
def y_S_entries : MethodName := ⟨"StackRoom", "entries", "()I"⟩
abbrev b_S_contexts : ByteArray := prog_1_method_28_code
def y_S_contexts : MethodName := ⟨"StackRoom", "contexts", "()I"⟩
abbrev b_L_cell : ByteArray := method_2_code
def y_L_cell : MethodName := ⟨"StackRoomLaw", "cell", "([II)I"⟩
abbrev b_R_init : ByteArray := prog_10_method_1_code
def y_R_init : MethodName := ⟨"StackRoomModel", "<init>", "(II)V"⟩
abbrev b_R_words : ByteArray := prog_10_method_11_code
def y_R_words : MethodName := ⟨"StackRoomModel", "words", "()I"⟩
abbrev b_R_look : ByteArray := prog_10_method_10_code
def y_R_look : MethodName := ⟨"StackRoomModel", "look", "()V"⟩
abbrev b_R_see : ByteArray := prog_10_method_9_code
def y_R_see : MethodName := ⟨"StackRoomModel", "see", "(I)V"⟩
abbrev b_R_isObject : ByteArray := prog_10_method_5_code
def y_R_isObject : MethodName := ⟨"StackRoomModel", "isObject", "(I)Z"⟩
abbrev b_R_entries : ByteArray := prog_10_method_12_code
def y_R_entries : MethodName := ⟨"StackRoomModel", "entries", "()I"⟩
abbrev b_R_contexts : ByteArray := prog_10_method_13_code
def y_R_contexts : MethodName := ⟨"StackRoomModel", "contexts", "()I"⟩
abbrev b_R_number : ByteArray := prog_10_method_16_code
def y_R_number : MethodName := ⟨"StackRoomModel", "number", "(II)Z"⟩
abbrev b_R_isRegister : ByteArray := prog_10_method_2_code
def y_R_isRegister : MethodName := ⟨"StackRoomModel", "isRegister", "(I)Z"⟩
abbrev b_R_isNumber : ByteArray := prog_10_method_3_code
def y_R_isNumber : MethodName := ⟨"StackRoomModel", "isNumber", "(I)Z"⟩
abbrev b_R_numeral : ByteArray := prog_10_method_4_code
def y_R_numeral : MethodName := ⟨"StackRoomModel", "numeral", "(I)I"⟩
abbrev b_R_move : ByteArray := prog_10_method_17_code
def y_R_move : MethodName := ⟨"StackRoomModel", "move", "(II)Z"⟩
abbrev b_R_clear : ByteArray := prog_10_method_18_code
def y_R_clear : MethodName := ⟨"StackRoomModel", "clear", "(I)Z"⟩
abbrev b_R_kind : ByteArray := prog_10_method_19_code
def y_R_kind : MethodName := ⟨"StackRoomModel", "kind", "(I)I"⟩
abbrev b_R_value : ByteArray := prog_10_method_20_code
def y_R_value : MethodName := ⟨"StackRoomModel", "value", "(I)I"⟩
abbrev b_R_method : ByteArray := prog_10_method_23_code
def y_R_method : MethodName := ⟨"StackRoomModel", "method", "(IIII)I"⟩
abbrev b_R_isMethod : ByteArray := prog_10_method_21_code
def y_R_isMethod : MethodName := ⟨"StackRoomModel", "isMethod", "(III)Z"⟩
abbrev b_R_make : ByteArray := prog_10_method_15_code
def y_R_make : MethodName := ⟨"StackRoomModel", "make", "(IIII)I"⟩
abbrev b_R_letGo : ByteArray := prog_10_method_14_code
def y_R_letGo : MethodName := ⟨"StackRoomModel", "letGo", "()V"⟩
abbrev b_R_give : ByteArray := prog_10_method_22_code
def y_R_give : MethodName := ⟨"StackRoomModel", "give", "(IIII)V"⟩
abbrev b_R_change : ByteArray := prog_10_method_24_code
def y_R_change : MethodName := ⟨"StackRoomModel", "change", "(IIII)Z"⟩
abbrev b_R_objectIn : ByteArray := prog_10_method_6_code
def y_R_objectIn : MethodName := ⟨"StackRoomModel", "objectIn", "(III)I"⟩
abbrev b_R_context : ByteArray := prog_10_method_26_code
def y_R_context : MethodName := ⟨"StackRoomModel", "context", "(III)I"⟩
abbrev b_R_isNilOrContext : ByteArray := prog_10_method_8_code
def y_R_isNilOrContext : MethodName := ⟨"StackRoomModel", "isNilOrContext", "(I)Z"⟩
abbrev b_R_contextIn : ByteArray := prog_10_method_7_code
def y_R_contextIn : MethodName := ⟨"StackRoomModel", "contextIn", "(I)I"⟩
abbrev b_R_settle : ByteArray := prog_10_method_25_code
def y_R_settle : MethodName := ⟨"StackRoomModel", "settle", "(IIIZII)I"⟩
abbrev b_R_block : ByteArray := prog_10_method_28_code
def y_R_block : MethodName := ⟨"StackRoomModel", "block", "(III)I"⟩
abbrev b_R_homeOf : ByteArray := prog_10_method_27_code
def y_R_homeOf : MethodName := ⟨"StackRoomModel", "homeOf", "(I)I"⟩
abbrev b_R_push : ByteArray := prog_10_method_31_code
def y_R_push : MethodName := ⟨"StackRoomModel", "push", "(II)Z"⟩
abbrev b_R_pushes : ByteArray := prog_10_method_30_code
def y_R_pushes : MethodName := ⟨"StackRoomModel", "pushes", "(II)Z"⟩
abbrev b_R_fill : ByteArray := prog_10_method_32_code
def y_R_fill : MethodName := ⟨"StackRoomModel", "fill", "(III)I"⟩
abbrev b_R_pop : ByteArray := prog_10_method_34_code
def y_R_pop : MethodName := ⟨"StackRoomModel", "pop", "(II)Z"⟩
abbrev b_R_floorOf : ByteArray := prog_10_method_29_code
def y_R_floorOf : MethodName := ⟨"StackRoomModel", "floorOf", "(I)I"⟩
abbrev b_R_popped : ByteArray := prog_10_method_33_code
def y_R_popped : MethodName := ⟨"StackRoomModel", "popped", "(I)I"⟩
abbrev b_R_peek : ByteArray := prog_10_method_35_code
def y_R_peek : MethodName := ⟨"StackRoomModel", "peek", "(III)Z"⟩
abbrev b_R_drop : ByteArray := prog_10_method_36_code
def y_R_drop : MethodName := ⟨"StackRoomModel", "drop", "(II)Z"⟩
abbrev b_R_height : ByteArray := prog_10_method_37_code
def y_R_height : MethodName := ⟨"StackRoomModel", "height", "(I)I"⟩
abbrev b_R_room : ByteArray := prog_10_method_38_code
def y_R_room : MethodName := ⟨"StackRoomModel", "room", "(I)I"⟩
abbrev b_R_floor : ByteArray := prog_10_method_39_code
def y_R_floor : MethodName := ⟨"StackRoomModel", "floor", "(I)I"⟩
abbrev b_R_count : ByteArray := prog_10_method_40_code
def y_R_count : MethodName := ⟨"StackRoomModel", "count", "(I)I"⟩
abbrev b_R_home : ByteArray := prog_10_method_41_code
def y_R_home : MethodName := ⟨"StackRoomModel", "home", "(II)Z"⟩
abbrev b_R_sender : ByteArray := prog_10_method_42_code
def y_R_sender : MethodName := ⟨"StackRoomModel", "sender", "(II)Z"⟩
abbrev b_R_send : ByteArray := prog_10_method_43_code
def y_R_send : MethodName := ⟨"StackRoomModel", "send", "(II)Z"⟩
abbrev b_R_kill : ByteArray := prog_10_method_44_code
def y_R_kill : MethodName := ⟨"StackRoomModel", "kill", "(IZ)Z"⟩
abbrev b_R_temporary : ByteArray := prog_10_method_46_code
def y_R_temporary : MethodName := ⟨"StackRoomModel", "temporary", "(III)Z"⟩
abbrev b_R_placeOf : ByteArray := prog_10_method_45_code
def y_R_placeOf : MethodName := ⟨"StackRoomModel", "placeOf", "(II)I"⟩
abbrev b_R_keep : ByteArray := prog_10_method_47_code
def y_R_keep : MethodName := ⟨"StackRoomModel", "keep", "(III)Z"⟩
/-- the words that a method's words may hold; those that it is told beside them -/
def gt : List Cond := lw_tbl.filter goodWord
def nestWord : Cond → Bool
  | .fieldLinkNest .. | .methodLinkNest .. | .declares .. | .castable .. => true
  | _ => false
def nt : List Cond := lw_tbl.filter nestWord
theorem ini_L : Cond.initialized "StackRoomLaw" ∈ gt := List.mem_filter.mpr ⟨List.mem_of_getElem? (i := 21) (by decide +kernel), rfl⟩
theorem ini_S : Cond.initialized "StackRoom" ∈ gt := List.mem_filter.mpr ⟨List.mem_of_getElem? (i := 22) (by decide +kernel), rfl⟩
theorem ini_R : Cond.initialized "StackRoomModel" ∈ gt := List.mem_filter.mpr ⟨List.mem_of_getElem? (i := 23) (by decide +kernel), rfl⟩
theorem ini_V : Cond.initialized "StackRoom$Value" ∈ gt := List.mem_filter.mpr ⟨List.mem_of_getElem? (i := 24) (by decide +kernel), rfl⟩
theorem ini_W : Cond.initialized "StackRoom$Whole" ∈ gt := List.mem_filter.mpr ⟨List.mem_of_getElem? (i := 25) (by decide +kernel), rfl⟩
theorem ini_T : Cond.initialized "StackRoom$Thing" ∈ gt := List.mem_filter.mpr ⟨List.mem_of_getElem? (i := 26) (by decide +kernel), rfl⟩
theorem ini_M : Cond.initialized "StackRoom$Method" ∈ gt := List.mem_filter.mpr ⟨List.mem_of_getElem? (i := 27) (by decide +kernel), rfl⟩
theorem ini_C : Cond.initialized "StackRoom$Context" ∈ gt := List.mem_filter.mpr ⟨List.mem_of_getElem? (i := 28) (by decide +kernel), rfl⟩
theorem ini_X : Cond.initialized "StackRoom$MethodContext" ∈ gt := List.mem_filter.mpr ⟨List.mem_of_getElem? (i := 29) (by decide +kernel), rfl⟩
theorem ini_B : Cond.initialized "StackRoom$BlockContext" ∈ gt := List.mem_filter.mpr ⟨List.mem_of_getElem? (i := 30) (by decide +kernel), rfl⟩
theorem cl_L_S : Cond.classLink "StackRoomLaw" 7 "StackRoom" ∈ gt := List.mem_filter.mpr ⟨List.mem_of_getElem? (i := 31) (by decide +kernel), rfl⟩
theorem is_S : Cond.instantiable "StackRoom" 10 ∈ gt := List.mem_filter.mpr ⟨List.mem_of_getElem? (i := 32) (by decide +kernel), rfl⟩
theorem ml_L_S_init : Cond.methodLink "StackRoomLaw" 15 y_S_init ∈ gt := List.mem_filter.mpr ⟨List.mem_of_getElem? (i := 33) (by decide +kernel), rfl⟩
theorem im_S_init : Cond.instanceMethod y_S_init ∈ gt := List.mem_filter.mpr ⟨List.mem_of_getElem? (i := 34) (by decide +kernel), rfl⟩
set_option maxRecDepth 20000 in
theorem co_S_init : Cond.code y_S_init b_S_init 3 none ∈ gt := List.mem_filter.mpr ⟨List.mem_of_getElem? (i := 35) rfl, rfl⟩
theorem ml_S_O_init : Cond.methodLink "StackRoom" 1 y_O_init ∈ gt := List.mem_filter.mpr ⟨List.mem_of_getElem? (i := 36) (by decide +kernel), rfl⟩
theorem im_O_init : Cond.instanceMethod y_O_init ∈ gt := List.mem_filter.mpr ⟨List.mem_of_getElem? (i := 37) (by decide +kernel), rfl⟩
set_option maxRecDepth 20000 in
theorem co_O_init : Cond.code y_O_init b_O_init 1 none ∈ gt := List.mem_filter.mpr ⟨List.mem_of_getElem? (i := 38) rfl, rfl⟩
theorem cs_S_32768 : Cond.constant "StackRoom" 9 (32768) ∈ gt := List.mem_filter.mpr ⟨List.mem_of_getElem? (i := 39) (by decide +kernel), rfl⟩
theorem ml_S_S_isWithin : Cond.methodLink "StackRoom" 10 y_S_isWithin ∈ gt := List.mem_filter.mpr ⟨List.mem_of_getElem? (i := 40) (by decide +kernel), rfl⟩
theorem st_S_isWithin : Cond.static y_S_isWithin ∈ gt := List.mem_filter.mpr ⟨List.mem_of_getElem? (i := 41) (by decide +kernel), rfl⟩
set_option maxRecDepth 20000 in
theorem co_S_isWithin : Cond.code y_S_isWithin b_S_isWithin 3 (some .boolean) ∈ gt := List.mem_filter.mpr ⟨List.mem_of_getElem? (i := 42) rfl, rfl⟩
theorem cl_S_V : Cond.classLink "StackRoom" 21 "StackRoom$Value" ∈ gt := List.mem_filter.mpr ⟨List.mem_of_getElem? (i := 43) (by decide +kernel), rfl⟩
theorem ao_V : Cond.arrayOver (.object "StackRoom$Value") ∈ lw_tbl := List.mem_of_getElem? (i := 44) (by decide +kernel)
theorem cl_S_T : Cond.classLink "StackRoom" 27 "StackRoom$Thing" ∈ gt := List.mem_filter.mpr ⟨List.mem_of_getElem? (i := 45) (by decide +kernel), rfl⟩
theorem ao_T : Cond.arrayOver (.object "StackRoom$Thing") ∈ lw_tbl := List.mem_of_getElem? (i := 46) (by decide +kernel)
theorem fl_S_S_allWords : Cond.fieldLink "StackRoom" 14 "StackRoom" "allWords" "I" ∈ gt := List.mem_filter.mpr ⟨List.mem_of_getElem? (i := 47) (by decide +kernel), rfl⟩
theorem fl_S_S_allEntries : Cond.fieldLink "StackRoom" 18 "StackRoom" "allEntries" "I" ∈ gt := List.mem_filter.mpr ⟨List.mem_of_getElem? (i := 48) (by decide +kernel), rfl⟩
theorem fl_S_S_registers : Cond.fieldLink "StackRoom" 23 "StackRoom" "registers" "[LStackRoom$Value;" ∈ gt := List.mem_filter.mpr ⟨List.mem_of_getElem? (i := 49) (by decide +kernel), rfl⟩
theorem fl_S_S_made : Cond.fieldLink "StackRoom" 33 "StackRoom" "made" "I" ∈ gt := List.mem_filter.mpr ⟨List.mem_of_getElem? (i := 50) (by decide +kernel), rfl⟩
theorem fl_S_S_reached : Cond.fieldLink "StackRoom" 29 "StackRoom" "reached" "[LStackRoom$Thing;" ∈ gt := List.mem_filter.mpr ⟨List.mem_of_getElem? (i := 51) (by decide +kernel), rfl⟩
theorem fl_S_S_reachedCount : Cond.fieldLink "StackRoom" 175 "StackRoom" "reachedCount" "I" ∈ gt := List.mem_filter.mpr ⟨List.mem_of_getElem? (i := 52) (by decide +kernel), rfl⟩
theorem fl_S_S_round : Cond.fieldLink "StackRoom" 172 "StackRoom" "round" "I" ∈ gt := List.mem_filter.mpr ⟨List.mem_of_getElem? (i := 53) (by decide +kernel), rfl⟩
theorem fl_S_S_wordsLeft : Cond.fieldLink "StackRoom" 161 "StackRoom" "wordsLeft" "I" ∈ gt := List.mem_filter.mpr ⟨List.mem_of_getElem? (i := 54) (by decide +kernel), rfl⟩
theorem fl_S_S_entriesLeft : Cond.fieldLink "StackRoom" 164 "StackRoom" "entriesLeft" "I" ∈ gt := List.mem_filter.mpr ⟨List.mem_of_getElem? (i := 55) (by decide +kernel), rfl⟩
theorem fl_S_S_contextsReached : Cond.fieldLink "StackRoom" 167 "StackRoom" "contextsReached" "I" ∈ gt := List.mem_filter.mpr ⟨List.mem_of_getElem? (i := 56) (by decide +kernel), rfl⟩
theorem ml_L_S_number : Cond.methodLink "StackRoomLaw" 21 y_S_number ∈ gt := List.mem_filter.mpr ⟨List.mem_of_getElem? (i := 78) (by decide +kernel), rfl⟩
theorem im_S_number : Cond.instanceMethod y_S_number ∈ gt := List.mem_filter.mpr ⟨List.mem_of_getElem? (i := 79) (by decide +kernel), rfl⟩
theorem se_S_S_number_S : Cond.selects "StackRoom" y_S_number y_S_number ∈ gt := List.mem_filter.mpr ⟨List.mem_of_getElem? (i := 80) (by decide +kernel), rfl⟩
set_option maxRecDepth 20000 in
theorem co_S_number : Cond.code y_S_number b_S_number 3 (some .boolean) ∈ gt := List.mem_filter.mpr ⟨List.mem_of_getElem? (i := 81) rfl, rfl⟩
theorem ml_S_S_isRegister : Cond.methodLink "StackRoom" 36 y_S_isRegister ∈ gt := List.mem_filter.mpr ⟨List.mem_of_getElem? (i := 82) (by decide +kernel), rfl⟩
theorem st_S_isRegister : Cond.static y_S_isRegister ∈ gt := List.mem_filter.mpr ⟨List.mem_of_getElem? (i := 83) (by decide +kernel), rfl⟩
set_option maxRecDepth 20000 in
theorem co_S_isRegister : Cond.code y_S_isRegister b_S_isRegister 1 (some .boolean) ∈ gt := List.mem_filter.mpr ⟨List.mem_of_getElem? (i := 84) rfl, rfl⟩
theorem ml_S_S_isNumber : Cond.methodLink "StackRoom" 40 y_S_isNumber ∈ gt := List.mem_filter.mpr ⟨List.mem_of_getElem? (i := 85) (by decide +kernel), rfl⟩
theorem st_S_isNumber : Cond.static y_S_isNumber ∈ gt := List.mem_filter.mpr ⟨List.mem_of_getElem? (i := 86) (by decide +kernel), rfl⟩
set_option maxRecDepth 20000 in
theorem co_S_isNumber : Cond.code y_S_isNumber b_S_isNumber 1 (some .boolean) ∈ gt := List.mem_filter.mpr ⟨List.mem_of_getElem? (i := 87) rfl, rfl⟩
theorem cs_S_m1073741824 : Cond.constant "StackRoom" 170 (-1073741824) ∈ gt := List.mem_filter.mpr ⟨List.mem_of_getElem? (i := 88) (by decide +kernel), rfl⟩
theorem cs_S_1073741823 : Cond.constant "StackRoom" 171 (1073741823) ∈ gt := List.mem_filter.mpr ⟨List.mem_of_getElem? (i := 89) (by decide +kernel), rfl⟩
theorem cl_S_W : Cond.classLink "StackRoom" 43 "StackRoom$Whole" ∈ gt := List.mem_filter.mpr ⟨List.mem_of_getElem? (i := 90) (by decide +kernel), rfl⟩
theorem is_W : Cond.instantiable "StackRoom$Whole" 1 ∈ gt := List.mem_filter.mpr ⟨List.mem_of_getElem? (i := 91) (by decide +kernel), rfl⟩
theorem ml_S_W_init : Cond.methodLink "StackRoom" 45 y_W_init ∈ gt := List.mem_filter.mpr ⟨List.mem_of_getElem? (i := 92) (by decide +kernel), rfl⟩
theorem im_W_init : Cond.instanceMethod y_W_init ∈ gt := List.mem_filter.mpr ⟨List.mem_of_getElem? (i := 93) (by decide +kernel), rfl⟩
set_option maxRecDepth 20000 in
theorem co_W_init : Cond.code y_W_init b_W_init 2 none ∈ gt := List.mem_filter.mpr ⟨List.mem_of_getElem? (i := 94) rfl, rfl⟩
theorem mn_W_V_init : Cond.methodLinkNest "StackRoom$Whole" 3 y_V_init "StackRoom" ∈ nt := List.mem_filter.mpr ⟨List.mem_of_getElem? (i := 95) (by decide +kernel), rfl⟩
theorem im_V_init : Cond.instanceMethod y_V_init ∈ gt := List.mem_filter.mpr ⟨List.mem_of_getElem? (i := 96) (by decide +kernel), rfl⟩
set_option maxRecDepth 20000 in
theorem co_V_init : Cond.code y_V_init b_V_init 1 none ∈ gt := List.mem_filter.mpr ⟨List.mem_of_getElem? (i := 97) rfl, rfl⟩
theorem ml_V_O_init : Cond.methodLink "StackRoom$Value" 1 y_O_init ∈ gt := List.mem_filter.mpr ⟨List.mem_of_getElem? (i := 98) (by decide +kernel), rfl⟩
theorem fl_W_W_amount : Cond.fieldLink "StackRoom$Whole" 9 "StackRoom$Whole" "amount" "I" ∈ gt := List.mem_filter.mpr ⟨List.mem_of_getElem? (i := 99) (by decide +kernel), rfl⟩
theorem ml_L_S_move : Cond.methodLink "StackRoomLaw" 26 y_S_move ∈ gt := List.mem_filter.mpr ⟨List.mem_of_getElem? (i := 103) (by decide +kernel), rfl⟩
theorem im_S_move : Cond.instanceMethod y_S_move ∈ gt := List.mem_filter.mpr ⟨List.mem_of_getElem? (i := 104) (by decide +kernel), rfl⟩
theorem se_S_S_move_S : Cond.selects "StackRoom" y_S_move y_S_move ∈ gt := List.mem_filter.mpr ⟨List.mem_of_getElem? (i := 105) (by decide +kernel), rfl⟩
set_option maxRecDepth 20000 in
theorem co_S_move : Cond.code y_S_move b_S_move 3 (some .boolean) ∈ gt := List.mem_filter.mpr ⟨List.mem_of_getElem? (i := 106) rfl, rfl⟩
theorem ml_L_S_clear : Cond.methodLink "StackRoomLaw" 30 y_S_clear ∈ gt := List.mem_filter.mpr ⟨List.mem_of_getElem? (i := 107) (by decide +kernel), rfl⟩
theorem im_S_clear : Cond.instanceMethod y_S_clear ∈ gt := List.mem_filter.mpr ⟨List.mem_of_getElem? (i := 108) (by decide +kernel), rfl⟩
theorem se_S_S_clear_S : Cond.selects "StackRoom" y_S_clear y_S_clear ∈ gt := List.mem_filter.mpr ⟨List.mem_of_getElem? (i := 109) (by decide +kernel), rfl⟩
set_option maxRecDepth 20000 in
theorem co_S_clear : Cond.code y_S_clear b_S_clear 2 (some .boolean) ∈ gt := List.mem_filter.mpr ⟨List.mem_of_getElem? (i := 110) rfl, rfl⟩
theorem ml_L_S_kind : Cond.methodLink "StackRoomLaw" 35 y_S_kind ∈ gt := List.mem_filter.mpr ⟨List.mem_of_getElem? (i := 111) (by decide +kernel), rfl⟩
theorem im_S_kind : Cond.instanceMethod y_S_kind ∈ gt := List.mem_filter.mpr ⟨List.mem_of_getElem? (i := 112) (by decide +kernel), rfl⟩
theorem se_S_S_kind_S : Cond.selects "StackRoom" y_S_kind y_S_kind ∈ gt := List.mem_filter.mpr ⟨List.mem_of_getElem? (i := 113) (by decide +kernel), rfl⟩
set_option maxRecDepth 20000 in
theorem co_S_kind : Cond.code y_S_kind b_S_kind 3 (some .int) ∈ gt := List.mem_filter.mpr ⟨List.mem_of_getElem? (i := 114) rfl, rfl⟩
theorem ml_S_V_kindCode : Cond.methodLink "StackRoom" 48 ⟨"StackRoom$Value", "kindCode", "()I"⟩ ∈ gt := List.mem_filter.mpr ⟨List.mem_of_getElem? (i := 115) (by decide +kernel), rfl⟩
theorem dc_V_kindCode : Cond.declares ⟨"StackRoom$Value", "kindCode", "()I"⟩ ∈ nt := List.mem_filter.mpr ⟨List.mem_of_getElem? (i := 116) (by decide +kernel), rfl⟩
theorem sm_V_V_kindCode : Cond.sameMethod "StackRoom$Value" "StackRoom$Value" "kindCode" "()I" ∈ gt := List.mem_filter.mpr ⟨List.mem_of_getElem? (i := 117) (by decide +kernel), rfl⟩
theorem se_B_V_kindCode_B : Cond.selects "StackRoom$BlockContext" ⟨"StackRoom$Value", "kindCode", "()I"⟩ y_B_kindCode ∈ gt := List.mem_filter.mpr ⟨List.mem_of_getElem? (i := 118) (by decide +kernel), rfl⟩
theorem im_B_kindCode : Cond.instanceMethod y_B_kindCode ∈ gt := List.mem_filter.mpr ⟨List.mem_of_getElem? (i := 119) (by decide +kernel), rfl⟩
set_option maxRecDepth 20000 in
theorem co_B_kindCode : Cond.code y_B_kindCode b_B_kindCode 1 (some .int) ∈ gt := List.mem_filter.mpr ⟨List.mem_of_getElem? (i := 120) rfl, rfl⟩
theorem se_M_V_kindCode_M : Cond.selects "StackRoom$Method" ⟨"StackRoom$Value", "kindCode", "()I"⟩ y_M_kindCode ∈ gt := List.mem_filter.mpr ⟨List.mem_of_getElem? (i := 121) (by decide +kernel), rfl⟩
theorem im_M_kindCode : Cond.instanceMethod y_M_kindCode ∈ gt := List.mem_filter.mpr ⟨List.mem_of_getElem? (i := 122) (by decide +kernel), rfl⟩
set_option maxRecDepth 20000 in
theorem co_M_kindCode : Cond.code y_M_kindCode b_M_kindCode 1 (some .int) ∈ gt := List.mem_filter.mpr ⟨List.mem_of_getElem? (i := 123) rfl, rfl⟩
theorem se_X_V_kindCode_X : Cond.selects "StackRoom$MethodContext" ⟨"StackRoom$Value", "kindCode", "()I"⟩ y_X_kindCode ∈ gt := List.mem_filter.mpr ⟨List.mem_of_getElem? (i := 124) (by decide +kernel), rfl⟩
theorem im_X_kindCode : Cond.instanceMethod y_X_kindCode ∈ gt := List.mem_filter.mpr ⟨List.mem_of_getElem? (i := 125) (by decide +kernel), rfl⟩
set_option maxRecDepth 20000 in
theorem co_X_kindCode : Cond.code y_X_kindCode b_X_kindCode 1 (some .int) ∈ gt := List.mem_filter.mpr ⟨List.mem_of_getElem? (i := 126) rfl, rfl⟩
theorem se_W_V_kindCode_W : Cond.selects "StackRoom$Whole" ⟨"StackRoom$Value", "kindCode", "()I"⟩ y_W_kindCode ∈ gt := List.mem_filter.mpr ⟨List.mem_of_getElem? (i := 127) (by decide +kernel), rfl⟩
theorem im_W_kindCode : Cond.instanceMethod y_W_kindCode ∈ gt := List.mem_filter.mpr ⟨List.mem_of_getElem? (i := 128) (by decide +kernel), rfl⟩
set_option maxRecDepth 20000 in
theorem co_W_kindCode : Cond.code y_W_kindCode b_W_kindCode 1 (some .int) ∈ gt := List.mem_filter.mpr ⟨List.mem_of_getElem? (i := 129) rfl, rfl⟩
theorem ml_L_S_value : Cond.methodLink "StackRoomLaw" 40 y_S_value ∈ gt := List.mem_filter.mpr ⟨List.mem_of_getElem? (i := 130) (by decide +kernel), rfl⟩
theorem im_S_value : Cond.instanceMethod y_S_value ∈ gt := List.mem_filter.mpr ⟨List.mem_of_getElem? (i := 131) (by decide +kernel), rfl⟩
theorem se_S_S_value_S : Cond.selects "StackRoom" y_S_value y_S_value ∈ gt := List.mem_filter.mpr ⟨List.mem_of_getElem? (i := 132) (by decide +kernel), rfl⟩
set_option maxRecDepth 20000 in
theorem co_S_value : Cond.code y_S_value b_S_value 3 (some .int) ∈ gt := List.mem_filter.mpr ⟨List.mem_of_getElem? (i := 133) rfl, rfl⟩
theorem ml_S_V_shown : Cond.methodLink "StackRoom" 52 ⟨"StackRoom$Value", "shown", "()I"⟩ ∈ gt := List.mem_filter.mpr ⟨List.mem_of_getElem? (i := 134) (by decide +kernel), rfl⟩
theorem dc_V_shown : Cond.declares ⟨"StackRoom$Value", "shown", "()I"⟩ ∈ nt := List.mem_filter.mpr ⟨List.mem_of_getElem? (i := 135) (by decide +kernel), rfl⟩
theorem sm_V_V_shown : Cond.sameMethod "StackRoom$Value" "StackRoom$Value" "shown" "()I" ∈ gt := List.mem_filter.mpr ⟨List.mem_of_getElem? (i := 136) (by decide +kernel), rfl⟩
theorem se_B_V_shown_T : Cond.selects "StackRoom$BlockContext" ⟨"StackRoom$Value", "shown", "()I"⟩ y_T_shown ∈ gt := List.mem_filter.mpr ⟨List.mem_of_getElem? (i := 137) (by decide +kernel), rfl⟩
theorem im_T_shown : Cond.instanceMethod y_T_shown ∈ gt := List.mem_filter.mpr ⟨List.mem_of_getElem? (i := 138) (by decide +kernel), rfl⟩
set_option maxRecDepth 20000 in
theorem co_T_shown : Cond.code y_T_shown b_T_shown 1 (some .int) ∈ gt := List.mem_filter.mpr ⟨List.mem_of_getElem? (i := 139) rfl, rfl⟩
theorem se_M_V_shown_T : Cond.selects "StackRoom$Method" ⟨"StackRoom$Value", "shown", "()I"⟩ y_T_shown ∈ gt := List.mem_filter.mpr ⟨List.mem_of_getElem? (i := 140) (by decide +kernel), rfl⟩
theorem se_X_V_shown_T : Cond.selects "StackRoom$MethodContext" ⟨"StackRoom$Value", "shown", "()I"⟩ y_T_shown ∈ gt := List.mem_filter.mpr ⟨List.mem_of_getElem? (i := 141) (by decide +kernel), rfl⟩
theorem se_W_V_shown_W : Cond.selects "StackRoom$Whole" ⟨"StackRoom$Value", "shown", "()I"⟩ y_W_shown ∈ gt := List.mem_filter.mpr ⟨List.mem_of_getElem? (i := 142) (by decide +kernel), rfl⟩
theorem im_W_shown : Cond.instanceMethod y_W_shown ∈ gt := List.mem_filter.mpr ⟨List.mem_of_getElem? (i := 143) (by decide +kernel), rfl⟩
set_option maxRecDepth 20000 in
theorem co_W_shown : Cond.code y_W_shown b_W_shown 1 (some .int) ∈ gt := List.mem_filter.mpr ⟨List.mem_of_getElem? (i := 144) rfl, rfl⟩
theorem ml_L_S_method : Cond.methodLink "StackRoomLaw" 44 y_S_method ∈ gt := List.mem_filter.mpr ⟨List.mem_of_getElem? (i := 145) (by decide +kernel), rfl⟩
theorem im_S_method : Cond.instanceMethod y_S_method ∈ gt := List.mem_filter.mpr ⟨List.mem_of_getElem? (i := 146) (by decide +kernel), rfl⟩
theorem se_S_S_method_S : Cond.selects "StackRoom" y_S_method y_S_method ∈ gt := List.mem_filter.mpr ⟨List.mem_of_getElem? (i := 147) (by decide +kernel), rfl⟩
set_option maxRecDepth 20000 in
theorem co_S_method : Cond.code y_S_method b_S_method 5 (some .int) ∈ gt := List.mem_filter.mpr ⟨List.mem_of_getElem? (i := 148) rfl, rfl⟩
theorem ml_S_S_areMethodNumbers : Cond.methodLink "StackRoom" 55 y_S_areMethodNumbers ∈ gt := List.mem_filter.mpr ⟨List.mem_of_getElem? (i := 149) (by decide +kernel), rfl⟩
theorem st_S_areMethodNumbers : Cond.static y_S_areMethodNumbers ∈ gt := List.mem_filter.mpr ⟨List.mem_of_getElem? (i := 150) (by decide +kernel), rfl⟩
set_option maxRecDepth 20000 in
theorem co_S_areMethodNumbers : Cond.code y_S_areMethodNumbers b_S_areMethodNumbers 3 (some .boolean) ∈ gt := List.mem_filter.mpr ⟨List.mem_of_getElem? (i := 151) rfl, rfl⟩
theorem ml_S_S_canBeMade : Cond.methodLink "StackRoom" 58 y_S_canBeMade ∈ gt := List.mem_filter.mpr ⟨List.mem_of_getElem? (i := 152) (by decide +kernel), rfl⟩
theorem im_S_canBeMade : Cond.instanceMethod y_S_canBeMade ∈ gt := List.mem_filter.mpr ⟨List.mem_of_getElem? (i := 154) (by decide +kernel), rfl⟩
set_option maxRecDepth 20000 in
theorem co_S_canBeMade : Cond.code y_S_canBeMade b_S_canBeMade 3 (some .boolean) ∈ gt := List.mem_filter.mpr ⟨List.mem_of_getElem? (i := 155) rfl, rfl⟩
theorem ml_S_S_survey : Cond.methodLink "StackRoom" 158 y_S_survey ∈ gt := List.mem_filter.mpr ⟨List.mem_of_getElem? (i := 156) (by decide +kernel), rfl⟩
theorem im_S_survey : Cond.instanceMethod y_S_survey ∈ gt := List.mem_filter.mpr ⟨List.mem_of_getElem? (i := 158) (by decide +kernel), rfl⟩
set_option maxRecDepth 20000 in
theorem co_S_survey : Cond.code y_S_survey b_S_survey 4 none ∈ gt := List.mem_filter.mpr ⟨List.mem_of_getElem? (i := 159) rfl, rfl⟩
theorem ml_S_S_reach : Cond.methodLink "StackRoom" 178 y_S_reach ∈ gt := List.mem_filter.mpr ⟨List.mem_of_getElem? (i := 160) (by decide +kernel), rfl⟩
theorem im_S_reach : Cond.instanceMethod y_S_reach ∈ gt := List.mem_filter.mpr ⟨List.mem_of_getElem? (i := 162) (by decide +kernel), rfl⟩
set_option maxRecDepth 20000 in
theorem co_S_reach : Cond.code y_S_reach b_S_reach 3 none ∈ gt := List.mem_filter.mpr ⟨List.mem_of_getElem? (i := 163) rfl, rfl⟩
theorem ml_S_T_wordsTaken : Cond.methodLink "StackRoom" 190 ⟨"StackRoom$Thing", "wordsTaken", "()I"⟩ ∈ gt := List.mem_filter.mpr ⟨List.mem_of_getElem? (i := 164) (by decide +kernel), rfl⟩
theorem dc_T_wordsTaken : Cond.declares ⟨"StackRoom$Thing", "wordsTaken", "()I"⟩ ∈ nt := List.mem_filter.mpr ⟨List.mem_of_getElem? (i := 165) (by decide +kernel), rfl⟩
theorem sm_T_T_wordsTaken : Cond.sameMethod "StackRoom$Thing" "StackRoom$Thing" "wordsTaken" "()I" ∈ gt := List.mem_filter.mpr ⟨List.mem_of_getElem? (i := 166) (by decide +kernel), rfl⟩
theorem se_B_T_wordsTaken_C : Cond.selects "StackRoom$BlockContext" ⟨"StackRoom$Thing", "wordsTaken", "()I"⟩ y_C_wordsTaken ∈ gt := List.mem_filter.mpr ⟨List.mem_of_getElem? (i := 167) (by decide +kernel), rfl⟩
theorem im_C_wordsTaken : Cond.instanceMethod y_C_wordsTaken ∈ gt := List.mem_filter.mpr ⟨List.mem_of_getElem? (i := 168) (by decide +kernel), rfl⟩
set_option maxRecDepth 20000 in
theorem co_C_wordsTaken : Cond.code y_C_wordsTaken b_C_wordsTaken 1 (some .int) ∈ gt := List.mem_filter.mpr ⟨List.mem_of_getElem? (i := 169) rfl, rfl⟩
theorem ml_C_C_headFields : Cond.methodLink "StackRoom$Context" 29 ⟨"StackRoom$Context", "headFields", "()I"⟩ ∈ gt := List.mem_filter.mpr ⟨List.mem_of_getElem? (i := 170) (by decide +kernel), rfl⟩
theorem dc_C_headFields : Cond.declares ⟨"StackRoom$Context", "headFields", "()I"⟩ ∈ nt := List.mem_filter.mpr ⟨List.mem_of_getElem? (i := 171) (by decide +kernel), rfl⟩
theorem sm_C_C_headFields : Cond.sameMethod "StackRoom$Context" "StackRoom$Context" "headFields" "()I" ∈ gt := List.mem_filter.mpr ⟨List.mem_of_getElem? (i := 172) (by decide +kernel), rfl⟩
theorem se_B_C_headFields_B : Cond.selects "StackRoom$BlockContext" ⟨"StackRoom$Context", "headFields", "()I"⟩ y_B_headFields ∈ gt := List.mem_filter.mpr ⟨List.mem_of_getElem? (i := 173) (by decide +kernel), rfl⟩
theorem im_B_headFields : Cond.instanceMethod y_B_headFields ∈ gt := List.mem_filter.mpr ⟨List.mem_of_getElem? (i := 174) (by decide +kernel), rfl⟩
set_option maxRecDepth 20000 in
theorem co_B_headFields : Cond.code y_B_headFields b_B_headFields 1 (some .int) ∈ gt := List.mem_filter.mpr ⟨List.mem_of_getElem? (i := 175) rfl, rfl⟩
theorem se_X_C_headFields_X : Cond.selects "StackRoom$MethodContext" ⟨"StackRoom$Context", "headFields", "()I"⟩ y_X_headFields ∈ gt := List.mem_filter.mpr ⟨List.mem_of_getElem? (i := 176) (by decide +kernel), rfl⟩
theorem im_X_headFields : Cond.instanceMethod y_X_headFields ∈ gt := List.mem_filter.mpr ⟨List.mem_of_getElem? (i := 177) (by decide +kernel), rfl⟩
set_option maxRecDepth 20000 in
theorem co_X_headFields : Cond.code y_X_headFields b_X_headFields 1 (some .int) ∈ gt := List.mem_filter.mpr ⟨List.mem_of_getElem? (i := 178) rfl, rfl⟩
theorem se_M_T_wordsTaken_M : Cond.selects "StackRoom$Method" ⟨"StackRoom$Thing", "wordsTaken", "()I"⟩ y_M_wordsTaken ∈ gt := List.mem_filter.mpr ⟨List.mem_of_getElem? (i := 179) (by decide +kernel), rfl⟩
theorem im_M_wordsTaken : Cond.instanceMethod y_M_wordsTaken ∈ gt := List.mem_filter.mpr ⟨List.mem_of_getElem? (i := 180) (by decide +kernel), rfl⟩
set_option maxRecDepth 20000 in
theorem co_M_wordsTaken : Cond.code y_M_wordsTaken b_M_wordsTaken 1 (some .int) ∈ gt := List.mem_filter.mpr ⟨List.mem_of_getElem? (i := 181) rfl, rfl⟩
theorem se_X_T_wordsTaken_C : Cond.selects "StackRoom$MethodContext" ⟨"StackRoom$Thing", "wordsTaken", "()I"⟩ y_C_wordsTaken ∈ gt := List.mem_filter.mpr ⟨List.mem_of_getElem? (i := 182) (by decide +kernel), rfl⟩
theorem ml_S_T_entriesTaken : Cond.methodLink "StackRoom" 193 ⟨"StackRoom$Thing", "entriesTaken", "()I"⟩ ∈ gt := List.mem_filter.mpr ⟨List.mem_of_getElem? (i := 183) (by decide +kernel), rfl⟩
theorem dc_T_entriesTaken : Cond.declares ⟨"StackRoom$Thing", "entriesTaken", "()I"⟩ ∈ nt := List.mem_filter.mpr ⟨List.mem_of_getElem? (i := 184) (by decide +kernel), rfl⟩
theorem sm_T_T_entriesTaken : Cond.sameMethod "StackRoom$Thing" "StackRoom$Thing" "entriesTaken" "()I" ∈ gt := List.mem_filter.mpr ⟨List.mem_of_getElem? (i := 185) (by decide +kernel), rfl⟩
theorem se_B_T_entriesTaken_C : Cond.selects "StackRoom$BlockContext" ⟨"StackRoom$Thing", "entriesTaken", "()I"⟩ y_C_entriesTaken ∈ gt := List.mem_filter.mpr ⟨List.mem_of_getElem? (i := 186) (by decide +kernel), rfl⟩
theorem im_C_entriesTaken : Cond.instanceMethod y_C_entriesTaken ∈ gt := List.mem_filter.mpr ⟨List.mem_of_getElem? (i := 187) (by decide +kernel), rfl⟩
set_option maxRecDepth 20000 in
theorem co_C_entriesTaken : Cond.code y_C_entriesTaken b_C_entriesTaken 1 (some .int) ∈ gt := List.mem_filter.mpr ⟨List.mem_of_getElem? (i := 188) rfl, rfl⟩
theorem se_M_T_entriesTaken_M : Cond.selects "StackRoom$Method" ⟨"StackRoom$Thing", "entriesTaken", "()I"⟩ y_M_entriesTaken ∈ gt := List.mem_filter.mpr ⟨List.mem_of_getElem? (i := 189) (by decide +kernel), rfl⟩
theorem im_M_entriesTaken : Cond.instanceMethod y_M_entriesTaken ∈ gt := List.mem_filter.mpr ⟨List.mem_of_getElem? (i := 190) (by decide +kernel), rfl⟩
set_option maxRecDepth 20000 in
theorem co_M_entriesTaken : Cond.code y_M_entriesTaken b_M_entriesTaken 1 (some .int) ∈ gt := List.mem_filter.mpr ⟨List.mem_of_getElem? (i := 191) rfl, rfl⟩
theorem se_X_T_entriesTaken_C : Cond.selects "StackRoom$MethodContext" ⟨"StackRoom$Thing", "entriesTaken", "()I"⟩ y_C_entriesTaken ∈ gt := List.mem_filter.mpr ⟨List.mem_of_getElem? (i := 192) (by decide +kernel), rfl⟩
theorem cl_S_C : Cond.classLink "StackRoom" 94 "StackRoom$Context" ∈ gt := List.mem_filter.mpr ⟨List.mem_of_getElem? (i := 193) (by decide +kernel), rfl⟩
theorem ml_S_S_reachPartsOf : Cond.methodLink "StackRoom" 181 y_S_reachPartsOf ∈ gt := List.mem_filter.mpr ⟨List.mem_of_getElem? (i := 194) (by decide +kernel), rfl⟩
theorem im_S_reachPartsOf : Cond.instanceMethod y_S_reachPartsOf ∈ gt := List.mem_filter.mpr ⟨List.mem_of_getElem? (i := 196) (by decide +kernel), rfl⟩
set_option maxRecDepth 20000 in
theorem co_S_reachPartsOf : Cond.code y_S_reachPartsOf b_S_reachPartsOf 3 none ∈ gt := List.mem_filter.mpr ⟨List.mem_of_getElem? (i := 197) rfl, rfl⟩
theorem ml_S_C_origin : Cond.methodLink "StackRoom" 185 ⟨"StackRoom$Context", "origin", "()LStackRoom$Thing;"⟩ ∈ gt := List.mem_filter.mpr ⟨List.mem_of_getElem? (i := 198) (by decide +kernel), rfl⟩
theorem dc_C_origin : Cond.declares ⟨"StackRoom$Context", "origin", "()LStackRoom$Thing;"⟩ ∈ nt := List.mem_filter.mpr ⟨List.mem_of_getElem? (i := 199) (by decide +kernel), rfl⟩
theorem sm_C_C_origin : Cond.sameMethod "StackRoom$Context" "StackRoom$Context" "origin" "()LStackRoom$Thing;" ∈ gt := List.mem_filter.mpr ⟨List.mem_of_getElem? (i := 200) (by decide +kernel), rfl⟩
theorem se_B_C_origin_B : Cond.selects "StackRoom$BlockContext" ⟨"StackRoom$Context", "origin", "()LStackRoom$Thing;"⟩ y_B_origin ∈ gt := List.mem_filter.mpr ⟨List.mem_of_getElem? (i := 201) (by decide +kernel), rfl⟩
theorem im_B_origin : Cond.instanceMethod y_B_origin ∈ gt := List.mem_filter.mpr ⟨List.mem_of_getElem? (i := 202) (by decide +kernel), rfl⟩
set_option maxRecDepth 20000 in
theorem co_B_origin : Cond.code y_B_origin b_B_origin 1 (some (.object "StackRoom$Thing")) ∈ gt := List.mem_filter.mpr ⟨List.mem_of_getElem? (i := 203) rfl, rfl⟩
theorem se_X_C_origin_X : Cond.selects "StackRoom$MethodContext" ⟨"StackRoom$Context", "origin", "()LStackRoom$Thing;"⟩ y_X_origin ∈ gt := List.mem_filter.mpr ⟨List.mem_of_getElem? (i := 204) (by decide +kernel), rfl⟩
theorem im_X_origin : Cond.instanceMethod y_X_origin ∈ gt := List.mem_filter.mpr ⟨List.mem_of_getElem? (i := 205) (by decide +kernel), rfl⟩
set_option maxRecDepth 20000 in
theorem co_X_origin : Cond.code y_X_origin b_X_origin 1 (some (.object "StackRoom$Thing")) ∈ gt := List.mem_filter.mpr ⟨List.mem_of_getElem? (i := 206) rfl, rfl⟩
theorem cl_S_M : Cond.classLink "StackRoom" 62 "StackRoom$Method" ∈ gt := List.mem_filter.mpr ⟨List.mem_of_getElem? (i := 207) (by decide +kernel), rfl⟩
theorem is_M : Cond.instantiable "StackRoom$Method" 4 ∈ gt := List.mem_filter.mpr ⟨List.mem_of_getElem? (i := 208) (by decide +kernel), rfl⟩
theorem ml_S_M_init : Cond.methodLink "StackRoom" 64 y_M_init ∈ gt := List.mem_filter.mpr ⟨List.mem_of_getElem? (i := 209) (by decide +kernel), rfl⟩
theorem im_M_init : Cond.instanceMethod y_M_init ∈ gt := List.mem_filter.mpr ⟨List.mem_of_getElem? (i := 210) (by decide +kernel), rfl⟩
set_option maxRecDepth 20000 in
theorem co_M_init : Cond.code y_M_init b_M_init 4 none ∈ gt := List.mem_filter.mpr ⟨List.mem_of_getElem? (i := 211) rfl, rfl⟩
theorem ml_M_T_init : Cond.methodLink "StackRoom$Method" 3 y_T_init ∈ gt := List.mem_filter.mpr ⟨List.mem_of_getElem? (i := 212) (by decide +kernel), rfl⟩
theorem im_T_init : Cond.instanceMethod y_T_init ∈ gt := List.mem_filter.mpr ⟨List.mem_of_getElem? (i := 213) (by decide +kernel), rfl⟩
set_option maxRecDepth 20000 in
theorem co_T_init : Cond.code y_T_init b_T_init 2 none ∈ gt := List.mem_filter.mpr ⟨List.mem_of_getElem? (i := 214) rfl, rfl⟩
theorem mn_T_V_init : Cond.methodLinkNest "StackRoom$Thing" 1 y_V_init "StackRoom" ∈ nt := List.mem_filter.mpr ⟨List.mem_of_getElem? (i := 215) (by decide +kernel), rfl⟩
theorem fn_X_M_temporaries : Cond.fieldLinkNest "StackRoom$MethodContext" 3 "StackRoom$Method" "temporaries" "I" "StackRoom" ∈ nt := List.mem_filter.mpr ⟨List.mem_of_getElem? (i := 216) (by decide +kernel), rfl⟩
theorem fl_M_M_temporaries : Cond.fieldLink "StackRoom$Method" 9 "StackRoom$Method" "temporaries" "I" ∈ gt := List.mem_filter.mpr ⟨List.mem_of_getElem? (i := 217) (by decide +kernel), rfl⟩
theorem fn_S_M_temporaries : Cond.fieldLinkNest "StackRoom" 78 "StackRoom$Method" "temporaries" "I" "StackRoom" ∈ nt := List.mem_filter.mpr ⟨List.mem_of_getElem? (i := 218) (by decide +kernel), rfl⟩
theorem fn_B_M_depth : Cond.fieldLinkNest "StackRoom$BlockContext" 9 "StackRoom$Method" "depth" "I" "StackRoom" ∈ nt := List.mem_filter.mpr ⟨List.mem_of_getElem? (i := 219) (by decide +kernel), rfl⟩
theorem fl_M_M_depth : Cond.fieldLink "StackRoom$Method" 15 "StackRoom$Method" "depth" "I" ∈ gt := List.mem_filter.mpr ⟨List.mem_of_getElem? (i := 220) (by decide +kernel), rfl⟩
theorem fn_X_M_depth : Cond.fieldLinkNest "StackRoom$MethodContext" 9 "StackRoom$Method" "depth" "I" "StackRoom" ∈ nt := List.mem_filter.mpr ⟨List.mem_of_getElem? (i := 221) (by decide +kernel), rfl⟩
theorem fn_S_M_depth : Cond.fieldLinkNest "StackRoom" 81 "StackRoom$Method" "depth" "I" "StackRoom" ∈ nt := List.mem_filter.mpr ⟨List.mem_of_getElem? (i := 222) (by decide +kernel), rfl⟩
theorem fl_T_T_identity : Cond.fieldLink "StackRoom$Thing" 7 "StackRoom$Thing" "identity" "I" ∈ gt := List.mem_filter.mpr ⟨List.mem_of_getElem? (i := 223) (by decide +kernel), rfl⟩
theorem fn_S_T_round : Cond.fieldLinkNest "StackRoom" 189 "StackRoom$Thing" "round" "I" "StackRoom" ∈ nt := List.mem_filter.mpr ⟨List.mem_of_getElem? (i := 224) (by decide +kernel), rfl⟩
theorem ml_L_S_change : Cond.methodLink "StackRoomLaw" 49 y_S_change ∈ gt := List.mem_filter.mpr ⟨List.mem_of_getElem? (i := 234) (by decide +kernel), rfl⟩
theorem im_S_change : Cond.instanceMethod y_S_change ∈ gt := List.mem_filter.mpr ⟨List.mem_of_getElem? (i := 235) (by decide +kernel), rfl⟩
theorem se_S_S_change_S : Cond.selects "StackRoom" y_S_change y_S_change ∈ gt := List.mem_filter.mpr ⟨List.mem_of_getElem? (i := 236) (by decide +kernel), rfl⟩
set_option maxRecDepth 20000 in
theorem co_S_change : Cond.code y_S_change b_S_change 6 (some .boolean) ∈ gt := List.mem_filter.mpr ⟨List.mem_of_getElem? (i := 237) rfl, rfl⟩
theorem ml_S_S_methodIn : Cond.methodLink "StackRoom" 67 y_S_methodIn ∈ gt := List.mem_filter.mpr ⟨List.mem_of_getElem? (i := 238) (by decide +kernel), rfl⟩
theorem im_S_methodIn : Cond.instanceMethod y_S_methodIn ∈ gt := List.mem_filter.mpr ⟨List.mem_of_getElem? (i := 240) (by decide +kernel), rfl⟩
set_option maxRecDepth 20000 in
theorem co_S_methodIn : Cond.code y_S_methodIn b_S_methodIn 4 (some (.object "StackRoom$Method")) ∈ gt := List.mem_filter.mpr ⟨List.mem_of_getElem? (i := 241) rfl, rfl⟩
theorem ml_S_M_setNumbers : Cond.methodLink "StackRoom" 71 y_M_setNumbers ∈ gt := List.mem_filter.mpr ⟨List.mem_of_getElem? (i := 242) (by decide +kernel), rfl⟩
theorem im_M_setNumbers : Cond.instanceMethod y_M_setNumbers ∈ gt := List.mem_filter.mpr ⟨List.mem_of_getElem? (i := 243) (by decide +kernel), rfl⟩
theorem se_M_M_setNumbers_M : Cond.selects "StackRoom$Method" y_M_setNumbers y_M_setNumbers ∈ gt := List.mem_filter.mpr ⟨List.mem_of_getElem? (i := 244) (by decide +kernel), rfl⟩
set_option maxRecDepth 20000 in
theorem co_M_setNumbers : Cond.code y_M_setNumbers b_M_setNumbers 3 none ∈ gt := List.mem_filter.mpr ⟨List.mem_of_getElem? (i := 245) rfl, rfl⟩
theorem ml_L_S_context : Cond.methodLink "StackRoomLaw" 54 y_S_context ∈ gt := List.mem_filter.mpr ⟨List.mem_of_getElem? (i := 246) (by decide +kernel), rfl⟩
theorem im_S_context : Cond.instanceMethod y_S_context ∈ gt := List.mem_filter.mpr ⟨List.mem_of_getElem? (i := 247) (by decide +kernel), rfl⟩
theorem se_S_S_context_S : Cond.selects "StackRoom" y_S_context y_S_context ∈ gt := List.mem_filter.mpr ⟨List.mem_of_getElem? (i := 248) (by decide +kernel), rfl⟩
set_option maxRecDepth 20000 in
theorem co_S_context : Cond.code y_S_context b_S_context 6 (some .int) ∈ gt := List.mem_filter.mpr ⟨List.mem_of_getElem? (i := 249) rfl, rfl⟩
theorem ml_S_S_isSender : Cond.methodLink "StackRoom" 75 y_S_isSender ∈ gt := List.mem_filter.mpr ⟨List.mem_of_getElem? (i := 250) (by decide +kernel), rfl⟩
theorem im_S_isSender : Cond.instanceMethod y_S_isSender ∈ gt := List.mem_filter.mpr ⟨List.mem_of_getElem? (i := 252) (by decide +kernel), rfl⟩
set_option maxRecDepth 20000 in
theorem co_S_isSender : Cond.code y_S_isSender b_S_isSender 2 (some .boolean) ∈ gt := List.mem_filter.mpr ⟨List.mem_of_getElem? (i := 253) rfl, rfl⟩
theorem cl_S_X : Cond.classLink "StackRoom" 84 "StackRoom$MethodContext" ∈ gt := List.mem_filter.mpr ⟨List.mem_of_getElem? (i := 254) (by decide +kernel), rfl⟩
theorem is_X : Cond.instantiable "StackRoom$MethodContext" 7 ∈ gt := List.mem_filter.mpr ⟨List.mem_of_getElem? (i := 255) (by decide +kernel), rfl⟩
theorem ml_S_S_contextIn : Cond.methodLink "StackRoom" 86 y_S_contextIn ∈ gt := List.mem_filter.mpr ⟨List.mem_of_getElem? (i := 256) (by decide +kernel), rfl⟩
theorem im_S_contextIn : Cond.instanceMethod y_S_contextIn ∈ gt := List.mem_filter.mpr ⟨List.mem_of_getElem? (i := 258) (by decide +kernel), rfl⟩
set_option maxRecDepth 20000 in
theorem co_S_contextIn : Cond.code y_S_contextIn b_S_contextIn 4 (some (.object "StackRoom$Context")) ∈ gt := List.mem_filter.mpr ⟨List.mem_of_getElem? (i := 259) rfl, rfl⟩
theorem ml_S_X_init : Cond.methodLink "StackRoom" 90 y_X_init ∈ gt := List.mem_filter.mpr ⟨List.mem_of_getElem? (i := 260) (by decide +kernel), rfl⟩
theorem im_X_init : Cond.instanceMethod y_X_init ∈ gt := List.mem_filter.mpr ⟨List.mem_of_getElem? (i := 261) (by decide +kernel), rfl⟩
set_option maxRecDepth 20000 in
theorem co_X_init : Cond.code y_X_init b_X_init 4 none ∈ gt := List.mem_filter.mpr ⟨List.mem_of_getElem? (i := 262) rfl, rfl⟩
theorem ml_X_C_init : Cond.methodLink "StackRoom$MethodContext" 12 y_C_init ∈ gt := List.mem_filter.mpr ⟨List.mem_of_getElem? (i := 263) (by decide +kernel), rfl⟩
theorem im_C_init : Cond.instanceMethod y_C_init ∈ gt := List.mem_filter.mpr ⟨List.mem_of_getElem? (i := 264) (by decide +kernel), rfl⟩
set_option maxRecDepth 20000 in
theorem co_C_init : Cond.code y_C_init b_C_init 6 none ∈ gt := List.mem_filter.mpr ⟨List.mem_of_getElem? (i := 265) rfl, rfl⟩
theorem ml_C_T_init : Cond.methodLink "StackRoom$Context" 3 y_T_init ∈ gt := List.mem_filter.mpr ⟨List.mem_of_getElem? (i := 266) (by decide +kernel), rfl⟩
theorem cl_C_V : Cond.classLink "StackRoom$Context" 23 "StackRoom$Value" ∈ gt := List.mem_filter.mpr ⟨List.mem_of_getElem? (i := 267) (by decide +kernel), rfl⟩
theorem fn_B_X_method : Cond.fieldLinkNest "StackRoom$BlockContext" 3 "StackRoom$MethodContext" "method" "LStackRoom$Method;" "StackRoom" ∈ nt := List.mem_filter.mpr ⟨List.mem_of_getElem? (i := 268) (by decide +kernel), rfl⟩
theorem fl_X_X_method : Cond.fieldLink "StackRoom$MethodContext" 18 "StackRoom$MethodContext" "method" "LStackRoom$Method;" ∈ gt := List.mem_filter.mpr ⟨List.mem_of_getElem? (i := 269) (by decide +kernel), rfl⟩
theorem fn_S_X_method : Cond.fieldLinkNest "StackRoom" 99 "StackRoom$MethodContext" "method" "LStackRoom$Method;" "StackRoom" ∈ nt := List.mem_filter.mpr ⟨List.mem_of_getElem? (i := 270) (by decide +kernel), rfl⟩
theorem fl_C_C_sender : Cond.fieldLink "StackRoom$Context" 9 "StackRoom$Context" "sender" "LStackRoom$Context;" ∈ gt := List.mem_filter.mpr ⟨List.mem_of_getElem? (i := 271) (by decide +kernel), rfl⟩
theorem fn_S_C_sender : Cond.fieldLinkNest "StackRoom" 142 "StackRoom$Context" "sender" "LStackRoom$Context;" "StackRoom" ∈ nt := List.mem_filter.mpr ⟨List.mem_of_getElem? (i := 272) (by decide +kernel), rfl⟩
theorem fl_C_C_dead : Cond.fieldLink "StackRoom$Context" 15 "StackRoom$Context" "dead" "Z" ∈ gt := List.mem_filter.mpr ⟨List.mem_of_getElem? (i := 273) (by decide +kernel), rfl⟩
theorem fn_S_C_dead : Cond.fieldLinkNest "StackRoom" 146 "StackRoom$Context" "dead" "Z" "StackRoom" ∈ nt := List.mem_filter.mpr ⟨List.mem_of_getElem? (i := 274) (by decide +kernel), rfl⟩
theorem fl_C_C_height : Cond.fieldLink "StackRoom$Context" 19 "StackRoom$Context" "height" "I" ∈ gt := List.mem_filter.mpr ⟨List.mem_of_getElem? (i := 275) (by decide +kernel), rfl⟩
theorem fn_S_C_height : Cond.fieldLinkNest "StackRoom" 126 "StackRoom$Context" "height" "I" "StackRoom" ∈ nt := List.mem_filter.mpr ⟨List.mem_of_getElem? (i := 276) (by decide +kernel), rfl⟩
theorem fl_C_C_fields : Cond.fieldLink "StackRoom$Context" 25 "StackRoom$Context" "fields" "[LStackRoom$Value;" ∈ gt := List.mem_filter.mpr ⟨List.mem_of_getElem? (i := 277) (by decide +kernel), rfl⟩
theorem fn_S_C_fields : Cond.fieldLinkNest "StackRoom" 133 "StackRoom$Context" "fields" "[LStackRoom$Value;" "StackRoom" ∈ nt := List.mem_filter.mpr ⟨List.mem_of_getElem? (i := 278) (by decide +kernel), rfl⟩
theorem ml_L_S_block : Cond.methodLink "StackRoomLaw" 59 y_S_block ∈ gt := List.mem_filter.mpr ⟨List.mem_of_getElem? (i := 292) (by decide +kernel), rfl⟩
theorem im_S_block : Cond.instanceMethod y_S_block ∈ gt := List.mem_filter.mpr ⟨List.mem_of_getElem? (i := 293) (by decide +kernel), rfl⟩
theorem se_S_S_block_S : Cond.selects "StackRoom" y_S_block y_S_block ∈ gt := List.mem_filter.mpr ⟨List.mem_of_getElem? (i := 294) (by decide +kernel), rfl⟩
set_option maxRecDepth 20000 in
theorem co_S_block : Cond.code y_S_block b_S_block 7 (some .int) ∈ gt := List.mem_filter.mpr ⟨List.mem_of_getElem? (i := 295) rfl, rfl⟩
theorem ml_S_C_homeContext : Cond.methodLink "StackRoom" 93 ⟨"StackRoom$Context", "homeContext", "()LStackRoom$MethodContext;"⟩ ∈ gt := List.mem_filter.mpr ⟨List.mem_of_getElem? (i := 296) (by decide +kernel), rfl⟩
theorem dc_C_homeContext : Cond.declares ⟨"StackRoom$Context", "homeContext", "()LStackRoom$MethodContext;"⟩ ∈ nt := List.mem_filter.mpr ⟨List.mem_of_getElem? (i := 297) (by decide +kernel), rfl⟩
theorem sm_C_C_homeContext : Cond.sameMethod "StackRoom$Context" "StackRoom$Context" "homeContext" "()LStackRoom$MethodContext;" ∈ gt := List.mem_filter.mpr ⟨List.mem_of_getElem? (i := 298) (by decide +kernel), rfl⟩
theorem se_B_C_homeContext_B : Cond.selects "StackRoom$BlockContext" ⟨"StackRoom$Context", "homeContext", "()LStackRoom$MethodContext;"⟩ y_B_homeContext ∈ gt := List.mem_filter.mpr ⟨List.mem_of_getElem? (i := 299) (by decide +kernel), rfl⟩
theorem im_B_homeContext : Cond.instanceMethod y_B_homeContext ∈ gt := List.mem_filter.mpr ⟨List.mem_of_getElem? (i := 300) (by decide +kernel), rfl⟩
set_option maxRecDepth 20000 in
theorem co_B_homeContext : Cond.code y_B_homeContext b_B_homeContext 1 (some (.object "StackRoom$MethodContext")) ∈ gt := List.mem_filter.mpr ⟨List.mem_of_getElem? (i := 301) rfl, rfl⟩
theorem se_X_C_homeContext_X : Cond.selects "StackRoom$MethodContext" ⟨"StackRoom$Context", "homeContext", "()LStackRoom$MethodContext;"⟩ y_X_homeContext ∈ gt := List.mem_filter.mpr ⟨List.mem_of_getElem? (i := 302) (by decide +kernel), rfl⟩
theorem im_X_homeContext : Cond.instanceMethod y_X_homeContext ∈ gt := List.mem_filter.mpr ⟨List.mem_of_getElem? (i := 303) (by decide +kernel), rfl⟩
set_option maxRecDepth 20000 in
theorem co_X_homeContext : Cond.code y_X_homeContext b_X_homeContext 1 (some (.object "StackRoom$MethodContext")) ∈ gt := List.mem_filter.mpr ⟨List.mem_of_getElem? (i := 304) rfl, rfl⟩
theorem cl_S_B : Cond.classLink "StackRoom" 103 "StackRoom$BlockContext" ∈ gt := List.mem_filter.mpr ⟨List.mem_of_getElem? (i := 305) (by decide +kernel), rfl⟩
theorem is_B : Cond.instantiable "StackRoom$BlockContext" 8 ∈ gt := List.mem_filter.mpr ⟨List.mem_of_getElem? (i := 306) (by decide +kernel), rfl⟩
theorem ml_S_B_init : Cond.methodLink "StackRoom" 105 y_B_init ∈ gt := List.mem_filter.mpr ⟨List.mem_of_getElem? (i := 307) (by decide +kernel), rfl⟩
theorem im_B_init : Cond.instanceMethod y_B_init ∈ gt := List.mem_filter.mpr ⟨List.mem_of_getElem? (i := 308) (by decide +kernel), rfl⟩
set_option maxRecDepth 20000 in
theorem co_B_init : Cond.code y_B_init b_B_init 4 none ∈ gt := List.mem_filter.mpr ⟨List.mem_of_getElem? (i := 309) rfl, rfl⟩
theorem ml_B_C_init : Cond.methodLink "StackRoom$BlockContext" 15 y_C_init ∈ gt := List.mem_filter.mpr ⟨List.mem_of_getElem? (i := 310) (by decide +kernel), rfl⟩
theorem fl_B_B_home : Cond.fieldLink "StackRoom$BlockContext" 21 "StackRoom$BlockContext" "home" "LStackRoom$MethodContext;" ∈ gt := List.mem_filter.mpr ⟨List.mem_of_getElem? (i := 311) (by decide +kernel), rfl⟩
theorem fl_B_B_count : Cond.fieldLink "StackRoom$BlockContext" 27 "StackRoom$BlockContext" "count" "I" ∈ gt := List.mem_filter.mpr ⟨List.mem_of_getElem? (i := 312) (by decide +kernel), rfl⟩
theorem fn_S_B_count : Cond.fieldLinkNest "StackRoom" 139 "StackRoom$BlockContext" "count" "I" "StackRoom" ∈ nt := List.mem_filter.mpr ⟨List.mem_of_getElem? (i := 313) (by decide +kernel), rfl⟩
theorem ml_L_S_push : Cond.methodLink "StackRoomLaw" 63 y_S_push ∈ gt := List.mem_filter.mpr ⟨List.mem_of_getElem? (i := 325) (by decide +kernel), rfl⟩
theorem im_S_push : Cond.instanceMethod y_S_push ∈ gt := List.mem_filter.mpr ⟨List.mem_of_getElem? (i := 326) (by decide +kernel), rfl⟩
theorem se_S_S_push_S : Cond.selects "StackRoom" y_S_push y_S_push ∈ gt := List.mem_filter.mpr ⟨List.mem_of_getElem? (i := 327) (by decide +kernel), rfl⟩
set_option maxRecDepth 20000 in
theorem co_S_push : Cond.code y_S_push b_S_push 4 (some .boolean) ∈ gt := List.mem_filter.mpr ⟨List.mem_of_getElem? (i := 328) rfl, rfl⟩
theorem ml_S_C_isFull : Cond.methodLink "StackRoom" 108 y_C_isFull ∈ gt := List.mem_filter.mpr ⟨List.mem_of_getElem? (i := 329) (by decide +kernel), rfl⟩
theorem im_C_isFull : Cond.instanceMethod y_C_isFull ∈ gt := List.mem_filter.mpr ⟨List.mem_of_getElem? (i := 330) (by decide +kernel), rfl⟩
theorem sm_C_C_isFull : Cond.sameMethod "StackRoom$Context" "StackRoom$Context" "isFull" "()Z" ∈ gt := List.mem_filter.mpr ⟨List.mem_of_getElem? (i := 331) (by decide +kernel), rfl⟩
theorem se_B_C_isFull_C : Cond.selects "StackRoom$BlockContext" y_C_isFull y_C_isFull ∈ gt := List.mem_filter.mpr ⟨List.mem_of_getElem? (i := 332) (by decide +kernel), rfl⟩
theorem se_X_C_isFull_C : Cond.selects "StackRoom$MethodContext" y_C_isFull y_C_isFull ∈ gt := List.mem_filter.mpr ⟨List.mem_of_getElem? (i := 333) (by decide +kernel), rfl⟩
set_option maxRecDepth 20000 in
theorem co_C_isFull : Cond.code y_C_isFull b_C_isFull 1 (some .boolean) ∈ gt := List.mem_filter.mpr ⟨List.mem_of_getElem? (i := 334) rfl, rfl⟩
theorem ml_S_C_pushOne : Cond.methodLink "StackRoom" 112 y_C_pushOne ∈ gt := List.mem_filter.mpr ⟨List.mem_of_getElem? (i := 335) (by decide +kernel), rfl⟩
theorem im_C_pushOne : Cond.instanceMethod y_C_pushOne ∈ gt := List.mem_filter.mpr ⟨List.mem_of_getElem? (i := 336) (by decide +kernel), rfl⟩
theorem sm_C_C_pushOne : Cond.sameMethod "StackRoom$Context" "StackRoom$Context" "pushOne" "(LStackRoom$Value;)V" ∈ gt := List.mem_filter.mpr ⟨List.mem_of_getElem? (i := 337) (by decide +kernel), rfl⟩
theorem se_B_C_pushOne_C : Cond.selects "StackRoom$BlockContext" y_C_pushOne y_C_pushOne ∈ gt := List.mem_filter.mpr ⟨List.mem_of_getElem? (i := 338) (by decide +kernel), rfl⟩
theorem se_X_C_pushOne_C : Cond.selects "StackRoom$MethodContext" y_C_pushOne y_C_pushOne ∈ gt := List.mem_filter.mpr ⟨List.mem_of_getElem? (i := 339) (by decide +kernel), rfl⟩
set_option maxRecDepth 20000 in
theorem co_C_pushOne : Cond.code y_C_pushOne b_C_pushOne 2 none ∈ gt := List.mem_filter.mpr ⟨List.mem_of_getElem? (i := 340) rfl, rfl⟩
theorem ml_C_C_putField : Cond.methodLink "StackRoom$Context" 40 y_C_putField ∈ gt := List.mem_filter.mpr ⟨List.mem_of_getElem? (i := 341) (by decide +kernel), rfl⟩
theorem im_C_putField : Cond.instanceMethod y_C_putField ∈ gt := List.mem_filter.mpr ⟨List.mem_of_getElem? (i := 342) (by decide +kernel), rfl⟩
theorem sm_C_C_putField : Cond.sameMethod "StackRoom$Context" "StackRoom$Context" "putField" "(ILStackRoom$Value;)V" ∈ gt := List.mem_filter.mpr ⟨List.mem_of_getElem? (i := 343) (by decide +kernel), rfl⟩
theorem se_B_C_putField_C : Cond.selects "StackRoom$BlockContext" y_C_putField y_C_putField ∈ gt := List.mem_filter.mpr ⟨List.mem_of_getElem? (i := 344) (by decide +kernel), rfl⟩
theorem se_X_C_putField_C : Cond.selects "StackRoom$MethodContext" y_C_putField y_C_putField ∈ gt := List.mem_filter.mpr ⟨List.mem_of_getElem? (i := 345) (by decide +kernel), rfl⟩
set_option maxRecDepth 20000 in
theorem co_C_putField : Cond.code y_C_putField b_C_putField 3 none ∈ gt := List.mem_filter.mpr ⟨List.mem_of_getElem? (i := 346) rfl, rfl⟩
theorem ml_C_C_hasField : Cond.methodLink "StackRoom$Context" 36 y_C_hasField ∈ gt := List.mem_filter.mpr ⟨List.mem_of_getElem? (i := 347) (by decide +kernel), rfl⟩
theorem im_C_hasField : Cond.instanceMethod y_C_hasField ∈ gt := List.mem_filter.mpr ⟨List.mem_of_getElem? (i := 348) (by decide +kernel), rfl⟩
theorem sm_C_C_hasField : Cond.sameMethod "StackRoom$Context" "StackRoom$Context" "hasField" "(I)Z" ∈ gt := List.mem_filter.mpr ⟨List.mem_of_getElem? (i := 349) (by decide +kernel), rfl⟩
theorem se_B_C_hasField_C : Cond.selects "StackRoom$BlockContext" y_C_hasField y_C_hasField ∈ gt := List.mem_filter.mpr ⟨List.mem_of_getElem? (i := 350) (by decide +kernel), rfl⟩
theorem se_X_C_hasField_C : Cond.selects "StackRoom$MethodContext" y_C_hasField y_C_hasField ∈ gt := List.mem_filter.mpr ⟨List.mem_of_getElem? (i := 351) (by decide +kernel), rfl⟩
set_option maxRecDepth 20000 in
theorem co_C_hasField : Cond.code y_C_hasField b_C_hasField 2 (some .boolean) ∈ gt := List.mem_filter.mpr ⟨List.mem_of_getElem? (i := 352) rfl, rfl⟩
theorem ml_L_S_fill : Cond.methodLink "StackRoomLaw" 67 y_S_fill ∈ gt := List.mem_filter.mpr ⟨List.mem_of_getElem? (i := 353) (by decide +kernel), rfl⟩
theorem im_S_fill : Cond.instanceMethod y_S_fill ∈ gt := List.mem_filter.mpr ⟨List.mem_of_getElem? (i := 354) (by decide +kernel), rfl⟩
theorem se_S_S_fill_S : Cond.selects "StackRoom" y_S_fill y_S_fill ∈ gt := List.mem_filter.mpr ⟨List.mem_of_getElem? (i := 355) (by decide +kernel), rfl⟩
set_option maxRecDepth 20000 in
theorem co_S_fill : Cond.code y_S_fill b_S_fill 6 (some .int) ∈ gt := List.mem_filter.mpr ⟨List.mem_of_getElem? (i := 356) rfl, rfl⟩
theorem ml_S_S_areNumbers : Cond.methodLink "StackRoom" 116 y_S_areNumbers ∈ gt := List.mem_filter.mpr ⟨List.mem_of_getElem? (i := 357) (by decide +kernel), rfl⟩
theorem st_S_areNumbers : Cond.static y_S_areNumbers ∈ gt := List.mem_filter.mpr ⟨List.mem_of_getElem? (i := 358) (by decide +kernel), rfl⟩
set_option maxRecDepth 20000 in
theorem co_S_areNumbers : Cond.code y_S_areNumbers b_S_areNumbers 2 (some .boolean) ∈ gt := List.mem_filter.mpr ⟨List.mem_of_getElem? (i := 359) rfl, rfl⟩
theorem ml_L_S_pop : Cond.methodLink "StackRoomLaw" 71 y_S_pop ∈ gt := List.mem_filter.mpr ⟨List.mem_of_getElem? (i := 360) (by decide +kernel), rfl⟩
theorem im_S_pop : Cond.instanceMethod y_S_pop ∈ gt := List.mem_filter.mpr ⟨List.mem_of_getElem? (i := 361) (by decide +kernel), rfl⟩
theorem se_S_S_pop_S : Cond.selects "StackRoom" y_S_pop y_S_pop ∈ gt := List.mem_filter.mpr ⟨List.mem_of_getElem? (i := 362) (by decide +kernel), rfl⟩
set_option maxRecDepth 20000 in
theorem co_S_pop : Cond.code y_S_pop b_S_pop 4 (some .boolean) ∈ gt := List.mem_filter.mpr ⟨List.mem_of_getElem? (i := 363) rfl, rfl⟩
theorem ml_S_C_depthNow : Cond.methodLink "StackRoom" 119 y_C_depthNow ∈ gt := List.mem_filter.mpr ⟨List.mem_of_getElem? (i := 364) (by decide +kernel), rfl⟩
theorem im_C_depthNow : Cond.instanceMethod y_C_depthNow ∈ gt := List.mem_filter.mpr ⟨List.mem_of_getElem? (i := 365) (by decide +kernel), rfl⟩
theorem sm_C_C_depthNow : Cond.sameMethod "StackRoom$Context" "StackRoom$Context" "depthNow" "()I" ∈ gt := List.mem_filter.mpr ⟨List.mem_of_getElem? (i := 366) (by decide +kernel), rfl⟩
theorem se_B_C_depthNow_C : Cond.selects "StackRoom$BlockContext" y_C_depthNow y_C_depthNow ∈ gt := List.mem_filter.mpr ⟨List.mem_of_getElem? (i := 367) (by decide +kernel), rfl⟩
theorem se_X_C_depthNow_C : Cond.selects "StackRoom$MethodContext" y_C_depthNow y_C_depthNow ∈ gt := List.mem_filter.mpr ⟨List.mem_of_getElem? (i := 368) (by decide +kernel), rfl⟩
set_option maxRecDepth 20000 in
theorem co_C_depthNow : Cond.code y_C_depthNow b_C_depthNow 1 (some .int) ∈ gt := List.mem_filter.mpr ⟨List.mem_of_getElem? (i := 369) rfl, rfl⟩
theorem ml_C_C_floorNow : Cond.methodLink "StackRoom$Context" 33 ⟨"StackRoom$Context", "floorNow", "()I"⟩ ∈ gt := List.mem_filter.mpr ⟨List.mem_of_getElem? (i := 370) (by decide +kernel), rfl⟩
theorem dc_C_floorNow : Cond.declares ⟨"StackRoom$Context", "floorNow", "()I"⟩ ∈ nt := List.mem_filter.mpr ⟨List.mem_of_getElem? (i := 371) (by decide +kernel), rfl⟩
theorem sm_C_C_floorNow : Cond.sameMethod "StackRoom$Context" "StackRoom$Context" "floorNow" "()I" ∈ gt := List.mem_filter.mpr ⟨List.mem_of_getElem? (i := 372) (by decide +kernel), rfl⟩
theorem se_B_C_floorNow_B : Cond.selects "StackRoom$BlockContext" ⟨"StackRoom$Context", "floorNow", "()I"⟩ y_B_floorNow ∈ gt := List.mem_filter.mpr ⟨List.mem_of_getElem? (i := 373) (by decide +kernel), rfl⟩
theorem im_B_floorNow : Cond.instanceMethod y_B_floorNow ∈ gt := List.mem_filter.mpr ⟨List.mem_of_getElem? (i := 374) (by decide +kernel), rfl⟩
set_option maxRecDepth 20000 in
theorem co_B_floorNow : Cond.code y_B_floorNow b_B_floorNow 1 (some .int) ∈ gt := List.mem_filter.mpr ⟨List.mem_of_getElem? (i := 375) rfl, rfl⟩
theorem se_X_C_floorNow_X : Cond.selects "StackRoom$MethodContext" ⟨"StackRoom$Context", "floorNow", "()I"⟩ y_X_floorNow ∈ gt := List.mem_filter.mpr ⟨List.mem_of_getElem? (i := 376) (by decide +kernel), rfl⟩
theorem im_X_floorNow : Cond.instanceMethod y_X_floorNow ∈ gt := List.mem_filter.mpr ⟨List.mem_of_getElem? (i := 377) (by decide +kernel), rfl⟩
set_option maxRecDepth 20000 in
theorem co_X_floorNow : Cond.code y_X_floorNow b_X_floorNow 1 (some .int) ∈ gt := List.mem_filter.mpr ⟨List.mem_of_getElem? (i := 378) rfl, rfl⟩
theorem ml_S_C_popOne : Cond.methodLink "StackRoom" 122 y_C_popOne ∈ gt := List.mem_filter.mpr ⟨List.mem_of_getElem? (i := 379) (by decide +kernel), rfl⟩
theorem im_C_popOne : Cond.instanceMethod y_C_popOne ∈ gt := List.mem_filter.mpr ⟨List.mem_of_getElem? (i := 380) (by decide +kernel), rfl⟩
theorem sm_C_C_popOne : Cond.sameMethod "StackRoom$Context" "StackRoom$Context" "popOne" "()LStackRoom$Value;" ∈ gt := List.mem_filter.mpr ⟨List.mem_of_getElem? (i := 381) (by decide +kernel), rfl⟩
theorem se_B_C_popOne_C : Cond.selects "StackRoom$BlockContext" y_C_popOne y_C_popOne ∈ gt := List.mem_filter.mpr ⟨List.mem_of_getElem? (i := 382) (by decide +kernel), rfl⟩
theorem se_X_C_popOne_C : Cond.selects "StackRoom$MethodContext" y_C_popOne y_C_popOne ∈ gt := List.mem_filter.mpr ⟨List.mem_of_getElem? (i := 383) (by decide +kernel), rfl⟩
set_option maxRecDepth 20000 in
theorem co_C_popOne : Cond.code y_C_popOne b_C_popOne 2 (some (.object "StackRoom$Value")) ∈ gt := List.mem_filter.mpr ⟨List.mem_of_getElem? (i := 384) rfl, rfl⟩
theorem ml_C_C_fieldAt : Cond.methodLink "StackRoom$Context" 44 y_C_fieldAt ∈ gt := List.mem_filter.mpr ⟨List.mem_of_getElem? (i := 385) (by decide +kernel), rfl⟩
theorem im_C_fieldAt : Cond.instanceMethod y_C_fieldAt ∈ gt := List.mem_filter.mpr ⟨List.mem_of_getElem? (i := 386) (by decide +kernel), rfl⟩
theorem sm_C_C_fieldAt : Cond.sameMethod "StackRoom$Context" "StackRoom$Context" "fieldAt" "(I)LStackRoom$Value;" ∈ gt := List.mem_filter.mpr ⟨List.mem_of_getElem? (i := 387) (by decide +kernel), rfl⟩
theorem se_B_C_fieldAt_C : Cond.selects "StackRoom$BlockContext" y_C_fieldAt y_C_fieldAt ∈ gt := List.mem_filter.mpr ⟨List.mem_of_getElem? (i := 388) (by decide +kernel), rfl⟩
theorem se_X_C_fieldAt_C : Cond.selects "StackRoom$MethodContext" y_C_fieldAt y_C_fieldAt ∈ gt := List.mem_filter.mpr ⟨List.mem_of_getElem? (i := 389) (by decide +kernel), rfl⟩
set_option maxRecDepth 20000 in
theorem co_C_fieldAt : Cond.code y_C_fieldAt b_C_fieldAt 2 (some (.object "StackRoom$Value")) ∈ gt := List.mem_filter.mpr ⟨List.mem_of_getElem? (i := 390) rfl, rfl⟩
theorem ml_L_S_peek : Cond.methodLink "StackRoomLaw" 75 y_S_peek ∈ gt := List.mem_filter.mpr ⟨List.mem_of_getElem? (i := 391) (by decide +kernel), rfl⟩
theorem im_S_peek : Cond.instanceMethod y_S_peek ∈ gt := List.mem_filter.mpr ⟨List.mem_of_getElem? (i := 392) (by decide +kernel), rfl⟩
theorem se_S_S_peek_S : Cond.selects "StackRoom" y_S_peek y_S_peek ∈ gt := List.mem_filter.mpr ⟨List.mem_of_getElem? (i := 393) (by decide +kernel), rfl⟩
set_option maxRecDepth 20000 in
theorem co_S_peek : Cond.code y_S_peek b_S_peek 5 (some .boolean) ∈ gt := List.mem_filter.mpr ⟨List.mem_of_getElem? (i := 394) rfl, rfl⟩
theorem ml_S_C_fieldAt : Cond.methodLink "StackRoom" 129 y_C_fieldAt ∈ gt := List.mem_filter.mpr ⟨List.mem_of_getElem? (i := 395) (by decide +kernel), rfl⟩
theorem ml_L_S_drop : Cond.methodLink "StackRoomLaw" 80 y_S_drop ∈ gt := List.mem_filter.mpr ⟨List.mem_of_getElem? (i := 396) (by decide +kernel), rfl⟩
theorem im_S_drop : Cond.instanceMethod y_S_drop ∈ gt := List.mem_filter.mpr ⟨List.mem_of_getElem? (i := 397) (by decide +kernel), rfl⟩
theorem se_S_S_drop_S : Cond.selects "StackRoom" y_S_drop y_S_drop ∈ gt := List.mem_filter.mpr ⟨List.mem_of_getElem? (i := 398) (by decide +kernel), rfl⟩
set_option maxRecDepth 20000 in
theorem co_S_drop : Cond.code y_S_drop b_S_drop 5 (some .boolean) ∈ gt := List.mem_filter.mpr ⟨List.mem_of_getElem? (i := 399) rfl, rfl⟩
theorem ml_L_S_height : Cond.methodLink "StackRoomLaw" 84 y_S_height ∈ gt := List.mem_filter.mpr ⟨List.mem_of_getElem? (i := 400) (by decide +kernel), rfl⟩
theorem im_S_height : Cond.instanceMethod y_S_height ∈ gt := List.mem_filter.mpr ⟨List.mem_of_getElem? (i := 401) (by decide +kernel), rfl⟩
theorem se_S_S_height_S : Cond.selects "StackRoom" y_S_height y_S_height ∈ gt := List.mem_filter.mpr ⟨List.mem_of_getElem? (i := 402) (by decide +kernel), rfl⟩
set_option maxRecDepth 20000 in
theorem co_S_height : Cond.code y_S_height b_S_height 3 (some .int) ∈ gt := List.mem_filter.mpr ⟨List.mem_of_getElem? (i := 403) rfl, rfl⟩
theorem ml_L_S_room : Cond.methodLink "StackRoomLaw" 88 y_S_room ∈ gt := List.mem_filter.mpr ⟨List.mem_of_getElem? (i := 404) (by decide +kernel), rfl⟩
theorem im_S_room : Cond.instanceMethod y_S_room ∈ gt := List.mem_filter.mpr ⟨List.mem_of_getElem? (i := 405) (by decide +kernel), rfl⟩
theorem se_S_S_room_S : Cond.selects "StackRoom" y_S_room y_S_room ∈ gt := List.mem_filter.mpr ⟨List.mem_of_getElem? (i := 406) (by decide +kernel), rfl⟩
set_option maxRecDepth 20000 in
theorem co_S_room : Cond.code y_S_room b_S_room 3 (some .int) ∈ gt := List.mem_filter.mpr ⟨List.mem_of_getElem? (i := 407) rfl, rfl⟩
theorem ml_L_S_floor : Cond.methodLink "StackRoomLaw" 92 y_S_floor ∈ gt := List.mem_filter.mpr ⟨List.mem_of_getElem? (i := 408) (by decide +kernel), rfl⟩
theorem im_S_floor : Cond.instanceMethod y_S_floor ∈ gt := List.mem_filter.mpr ⟨List.mem_of_getElem? (i := 409) (by decide +kernel), rfl⟩
theorem se_S_S_floor_S : Cond.selects "StackRoom" y_S_floor y_S_floor ∈ gt := List.mem_filter.mpr ⟨List.mem_of_getElem? (i := 410) (by decide +kernel), rfl⟩
set_option maxRecDepth 20000 in
theorem co_S_floor : Cond.code y_S_floor b_S_floor 3 (some .int) ∈ gt := List.mem_filter.mpr ⟨List.mem_of_getElem? (i := 411) rfl, rfl⟩
theorem ml_S_C_floorNow : Cond.methodLink "StackRoom" 136 ⟨"StackRoom$Context", "floorNow", "()I"⟩ ∈ gt := List.mem_filter.mpr ⟨List.mem_of_getElem? (i := 412) (by decide +kernel), rfl⟩
theorem ml_L_S_count : Cond.methodLink "StackRoomLaw" 96 y_S_count ∈ gt := List.mem_filter.mpr ⟨List.mem_of_getElem? (i := 413) (by decide +kernel), rfl⟩
theorem im_S_count : Cond.instanceMethod y_S_count ∈ gt := List.mem_filter.mpr ⟨List.mem_of_getElem? (i := 414) (by decide +kernel), rfl⟩
theorem se_S_S_count_S : Cond.selects "StackRoom" y_S_count y_S_count ∈ gt := List.mem_filter.mpr ⟨List.mem_of_getElem? (i := 415) (by decide +kernel), rfl⟩
set_option maxRecDepth 20000 in
theorem co_S_count : Cond.code y_S_count b_S_count 4 (some .int) ∈ gt := List.mem_filter.mpr ⟨List.mem_of_getElem? (i := 416) rfl, rfl⟩
theorem ml_L_S_home : Cond.methodLink "StackRoomLaw" 100 y_S_home ∈ gt := List.mem_filter.mpr ⟨List.mem_of_getElem? (i := 417) (by decide +kernel), rfl⟩
theorem im_S_home : Cond.instanceMethod y_S_home ∈ gt := List.mem_filter.mpr ⟨List.mem_of_getElem? (i := 418) (by decide +kernel), rfl⟩
theorem se_S_S_home_S : Cond.selects "StackRoom" y_S_home y_S_home ∈ gt := List.mem_filter.mpr ⟨List.mem_of_getElem? (i := 419) (by decide +kernel), rfl⟩
set_option maxRecDepth 20000 in
theorem co_S_home : Cond.code y_S_home b_S_home 4 (some .boolean) ∈ gt := List.mem_filter.mpr ⟨List.mem_of_getElem? (i := 420) rfl, rfl⟩
theorem ml_L_S_sender : Cond.methodLink "StackRoomLaw" 104 y_S_sender ∈ gt := List.mem_filter.mpr ⟨List.mem_of_getElem? (i := 421) (by decide +kernel), rfl⟩
theorem im_S_sender : Cond.instanceMethod y_S_sender ∈ gt := List.mem_filter.mpr ⟨List.mem_of_getElem? (i := 422) (by decide +kernel), rfl⟩
theorem se_S_S_sender_S : Cond.selects "StackRoom" y_S_sender y_S_sender ∈ gt := List.mem_filter.mpr ⟨List.mem_of_getElem? (i := 423) (by decide +kernel), rfl⟩
set_option maxRecDepth 20000 in
theorem co_S_sender : Cond.code y_S_sender b_S_sender 4 (some .boolean) ∈ gt := List.mem_filter.mpr ⟨List.mem_of_getElem? (i := 424) rfl, rfl⟩
theorem ml_L_S_send : Cond.methodLink "StackRoomLaw" 108 y_S_send ∈ gt := List.mem_filter.mpr ⟨List.mem_of_getElem? (i := 425) (by decide +kernel), rfl⟩
theorem im_S_send : Cond.instanceMethod y_S_send ∈ gt := List.mem_filter.mpr ⟨List.mem_of_getElem? (i := 426) (by decide +kernel), rfl⟩
theorem se_S_S_send_S : Cond.selects "StackRoom" y_S_send y_S_send ∈ gt := List.mem_filter.mpr ⟨List.mem_of_getElem? (i := 427) (by decide +kernel), rfl⟩
set_option maxRecDepth 20000 in
theorem co_S_send : Cond.code y_S_send b_S_send 4 (some .boolean) ∈ gt := List.mem_filter.mpr ⟨List.mem_of_getElem? (i := 428) rfl, rfl⟩
theorem ml_L_S_kill : Cond.methodLink "StackRoomLaw" 112 y_S_kill ∈ gt := List.mem_filter.mpr ⟨List.mem_of_getElem? (i := 429) (by decide +kernel), rfl⟩
theorem im_S_kill : Cond.instanceMethod y_S_kill ∈ gt := List.mem_filter.mpr ⟨List.mem_of_getElem? (i := 430) (by decide +kernel), rfl⟩
theorem se_S_S_kill_S : Cond.selects "StackRoom" y_S_kill y_S_kill ∈ gt := List.mem_filter.mpr ⟨List.mem_of_getElem? (i := 431) (by decide +kernel), rfl⟩
set_option maxRecDepth 20000 in
theorem co_S_kill : Cond.code y_S_kill b_S_kill 5 (some .boolean) ∈ gt := List.mem_filter.mpr ⟨List.mem_of_getElem? (i := 432) rfl, rfl⟩
theorem ml_L_S_temporary : Cond.methodLink "StackRoomLaw" 117 y_S_temporary ∈ gt := List.mem_filter.mpr ⟨List.mem_of_getElem? (i := 433) (by decide +kernel), rfl⟩
theorem im_S_temporary : Cond.instanceMethod y_S_temporary ∈ gt := List.mem_filter.mpr ⟨List.mem_of_getElem? (i := 434) (by decide +kernel), rfl⟩
theorem se_S_S_temporary_S : Cond.selects "StackRoom" y_S_temporary y_S_temporary ∈ gt := List.mem_filter.mpr ⟨List.mem_of_getElem? (i := 435) (by decide +kernel), rfl⟩
set_option maxRecDepth 20000 in
theorem co_S_temporary : Cond.code y_S_temporary b_S_temporary 5 (some .boolean) ∈ gt := List.mem_filter.mpr ⟨List.mem_of_getElem? (i := 436) rfl, rfl⟩
theorem ml_S_X_hasTemporary : Cond.methodLink "StackRoom" 150 y_X_hasTemporary ∈ gt := List.mem_filter.mpr ⟨List.mem_of_getElem? (i := 437) (by decide +kernel), rfl⟩
theorem im_X_hasTemporary : Cond.instanceMethod y_X_hasTemporary ∈ gt := List.mem_filter.mpr ⟨List.mem_of_getElem? (i := 438) (by decide +kernel), rfl⟩
theorem se_X_X_hasTemporary_X : Cond.selects "StackRoom$MethodContext" y_X_hasTemporary y_X_hasTemporary ∈ gt := List.mem_filter.mpr ⟨List.mem_of_getElem? (i := 439) (by decide +kernel), rfl⟩
set_option maxRecDepth 20000 in
theorem co_X_hasTemporary : Cond.code y_X_hasTemporary b_X_hasTemporary 2 (some .boolean) ∈ gt := List.mem_filter.mpr ⟨List.mem_of_getElem? (i := 440) rfl, rfl⟩
theorem ml_X_X_hasField : Cond.methodLink "StackRoom$MethodContext" 24 ⟨"StackRoom$MethodContext", "hasField", "(I)Z"⟩ ∈ gt := List.mem_filter.mpr ⟨List.mem_of_getElem? (i := 441) (by decide +kernel), rfl⟩
theorem sm_X_C_hasField : Cond.sameMethod "StackRoom$MethodContext" "StackRoom$Context" "hasField" "(I)Z" ∈ gt := List.mem_filter.mpr ⟨List.mem_of_getElem? (i := 442) (by decide +kernel), rfl⟩
theorem dc_C_hasField : Cond.declares y_C_hasField ∈ nt := List.mem_filter.mpr ⟨List.mem_of_getElem? (i := 443) (by decide +kernel), rfl⟩
theorem se_X_X_hasField_C : Cond.selects "StackRoom$MethodContext" ⟨"StackRoom$MethodContext", "hasField", "(I)Z"⟩ y_C_hasField ∈ gt := List.mem_filter.mpr ⟨List.mem_of_getElem? (i := 444) (by decide +kernel), rfl⟩
theorem ml_S_X_fieldAt : Cond.methodLink "StackRoom" 153 ⟨"StackRoom$MethodContext", "fieldAt", "(I)LStackRoom$Value;"⟩ ∈ gt := List.mem_filter.mpr ⟨List.mem_of_getElem? (i := 445) (by decide +kernel), rfl⟩
theorem sm_X_C_fieldAt : Cond.sameMethod "StackRoom$MethodContext" "StackRoom$Context" "fieldAt" "(I)LStackRoom$Value;" ∈ gt := List.mem_filter.mpr ⟨List.mem_of_getElem? (i := 446) (by decide +kernel), rfl⟩
theorem dc_C_fieldAt : Cond.declares y_C_fieldAt ∈ nt := List.mem_filter.mpr ⟨List.mem_of_getElem? (i := 447) (by decide +kernel), rfl⟩
theorem se_X_X_fieldAt_C : Cond.selects "StackRoom$MethodContext" ⟨"StackRoom$MethodContext", "fieldAt", "(I)LStackRoom$Value;"⟩ y_C_fieldAt ∈ gt := List.mem_filter.mpr ⟨List.mem_of_getElem? (i := 448) (by decide +kernel), rfl⟩
theorem ml_L_S_keep : Cond.methodLink "StackRoomLaw" 121 y_S_keep ∈ gt := List.mem_filter.mpr ⟨List.mem_of_getElem? (i := 449) (by decide +kernel), rfl⟩
theorem im_S_keep : Cond.instanceMethod y_S_keep ∈ gt := List.mem_filter.mpr ⟨List.mem_of_getElem? (i := 450) (by decide +kernel), rfl⟩
theorem se_S_S_keep_S : Cond.selects "StackRoom" y_S_keep y_S_keep ∈ gt := List.mem_filter.mpr ⟨List.mem_of_getElem? (i := 451) (by decide +kernel), rfl⟩
set_option maxRecDepth 20000 in
theorem co_S_keep : Cond.code y_S_keep b_S_keep 5 (some .boolean) ∈ gt := List.mem_filter.mpr ⟨List.mem_of_getElem? (i := 452) rfl, rfl⟩
theorem ml_S_X_putField : Cond.methodLink "StackRoom" 154 ⟨"StackRoom$MethodContext", "putField", "(ILStackRoom$Value;)V"⟩ ∈ gt := List.mem_filter.mpr ⟨List.mem_of_getElem? (i := 453) (by decide +kernel), rfl⟩
theorem sm_X_C_putField : Cond.sameMethod "StackRoom$MethodContext" "StackRoom$Context" "putField" "(ILStackRoom$Value;)V" ∈ gt := List.mem_filter.mpr ⟨List.mem_of_getElem? (i := 454) (by decide +kernel), rfl⟩
theorem dc_C_putField : Cond.declares y_C_putField ∈ nt := List.mem_filter.mpr ⟨List.mem_of_getElem? (i := 455) (by decide +kernel), rfl⟩
theorem se_X_X_putField_C : Cond.selects "StackRoom$MethodContext" ⟨"StackRoom$MethodContext", "putField", "(ILStackRoom$Value;)V"⟩ y_C_putField ∈ gt := List.mem_filter.mpr ⟨List.mem_of_getElem? (i := 456) (by decide +kernel), rfl⟩
theorem ml_L_S_words : Cond.methodLink "StackRoomLaw" 125 y_S_words ∈ gt := List.mem_filter.mpr ⟨List.mem_of_getElem? (i := 457) (by decide +kernel), rfl⟩
theorem im_S_words : Cond.instanceMethod y_S_words ∈ gt := List.mem_filter.mpr ⟨List.mem_of_getElem? (i := 458) (by decide +kernel), rfl⟩
theorem se_S_S_words_S : Cond.selects "StackRoom" y_S_words y_S_words ∈ gt := List.mem_filter.mpr ⟨List.mem_of_getElem? (i := 459) (by decide +kernel), rfl⟩
set_option maxRecDepth 20000 in
theorem co_S_words : Cond.code y_S_words b_S_words 1 (some .int) ∈ gt := List.mem_filter.mpr ⟨List.mem_of_getElem? (i := 460) rfl, rfl⟩
theorem ml_L_S_entries : Cond.methodLink "StackRoomLaw" 130 y_S_entries ∈ gt := List.mem_filter.mpr ⟨List.mem_of_getElem? (i := 461) (by decide +kernel), rfl⟩
theorem im_S_entries : Cond.instanceMethod y_S_entries ∈ gt := List.mem_filter.mpr ⟨List.mem_of_getElem? (i := 462) (by decide +kernel), rfl⟩
theorem se_S_S_entries_S : Cond.selects "StackRoom" y_S_entries y_S_entries ∈ gt := List.mem_filter.mpr ⟨List.mem_of_getElem? (i := 463) (by decide +kernel), rfl⟩
set_option maxRecDepth 20000 in
theorem co_S_entries : Cond.code y_S_entries b_S_entries 1 (some .int) ∈ gt := List.mem_filter.mpr ⟨List.mem_of_getElem? (i := 464) rfl, rfl⟩
theorem ml_L_S_contexts : Cond.methodLink "StackRoomLaw" 134 y_S_contexts ∈ gt := List.mem_filter.mpr ⟨List.mem_of_getElem? (i := 465) (by decide +kernel), rfl⟩
theorem im_S_contexts : Cond.instanceMethod y_S_contexts ∈ gt := List.mem_filter.mpr ⟨List.mem_of_getElem? (i := 466) (by decide +kernel), rfl⟩
theorem se_S_S_contexts_S : Cond.selects "StackRoom" y_S_contexts y_S_contexts ∈ gt := List.mem_filter.mpr ⟨List.mem_of_getElem? (i := 467) (by decide +kernel), rfl⟩
set_option maxRecDepth 20000 in
theorem co_S_contexts : Cond.code y_S_contexts b_S_contexts 1 (some .int) ∈ gt := List.mem_filter.mpr ⟨List.mem_of_getElem? (i := 468) rfl, rfl⟩
theorem ml_L_L_cell : Cond.methodLink "StackRoomLaw" 9 y_L_cell ∈ gt := List.mem_filter.mpr ⟨List.mem_of_getElem? (i := 469) (by decide +kernel), rfl⟩
theorem st_L_cell : Cond.static y_L_cell ∈ gt := List.mem_filter.mpr ⟨List.mem_of_getElem? (i := 470) (by decide +kernel), rfl⟩
set_option maxRecDepth 20000 in
theorem co_L_cell : Cond.code y_L_cell b_L_cell 2 (some .int) ∈ gt := List.mem_filter.mpr ⟨List.mem_of_getElem? (i := 471) rfl, rfl⟩
theorem cl_L_R : Cond.classLink "StackRoomLaw" 18 "StackRoomModel" ∈ gt := List.mem_filter.mpr ⟨List.mem_of_getElem? (i := 472) (by decide +kernel), rfl⟩
theorem is_R : Cond.instantiable "StackRoomModel" 25 ∈ gt := List.mem_filter.mpr ⟨List.mem_of_getElem? (i := 473) (by decide +kernel), rfl⟩
theorem ml_L_R_init : Cond.methodLink "StackRoomLaw" 20 y_R_init ∈ gt := List.mem_filter.mpr ⟨List.mem_of_getElem? (i := 474) (by decide +kernel), rfl⟩
theorem im_R_init : Cond.instanceMethod y_R_init ∈ gt := List.mem_filter.mpr ⟨List.mem_of_getElem? (i := 475) (by decide +kernel), rfl⟩
set_option maxRecDepth 20000 in
theorem co_R_init : Cond.code y_R_init b_R_init 3 none ∈ gt := List.mem_filter.mpr ⟨List.mem_of_getElem? (i := 476) rfl, rfl⟩
theorem ml_R_O_init : Cond.methodLink "StackRoomModel" 1 y_O_init ∈ gt := List.mem_filter.mpr ⟨List.mem_of_getElem? (i := 477) (by decide +kernel), rfl⟩
theorem cs_R_32768 : Cond.constant "StackRoomModel" 55 (32768) ∈ gt := List.mem_filter.mpr ⟨List.mem_of_getElem? (i := 478) (by decide +kernel), rfl⟩
theorem fl_R_R_words : Cond.fieldLink "StackRoomModel" 68 "StackRoomModel" "words" "I" ∈ gt := List.mem_filter.mpr ⟨List.mem_of_getElem? (i := 479) (by decide +kernel), rfl⟩
theorem fl_R_R_entries : Cond.fieldLink "StackRoomModel" 71 "StackRoomModel" "entries" "I" ∈ gt := List.mem_filter.mpr ⟨List.mem_of_getElem? (i := 480) (by decide +kernel), rfl⟩
theorem fl_R_R_made : Cond.fieldLink "StackRoomModel" 7 "StackRoomModel" "made" "I" ∈ gt := List.mem_filter.mpr ⟨List.mem_of_getElem? (i := 481) (by decide +kernel), rfl⟩
theorem fl_R_R_registers : Cond.fieldLink "StackRoomModel" 13 "StackRoomModel" "registers" "[I" ∈ gt := List.mem_filter.mpr ⟨List.mem_of_getElem? (i := 482) (by decide +kernel), rfl⟩
theorem fl_R_R_kinds : Cond.fieldLink "StackRoomModel" 17 "StackRoomModel" "kinds" "[B" ∈ gt := List.mem_filter.mpr ⟨List.mem_of_getElem? (i := 483) (by decide +kernel), rfl⟩
theorem fl_R_R_identities : Cond.fieldLink "StackRoomModel" 21 "StackRoomModel" "identities" "[I" ∈ gt := List.mem_filter.mpr ⟨List.mem_of_getElem? (i := 484) (by decide +kernel), rfl⟩
theorem fl_R_R_arguments : Cond.fieldLink "StackRoomModel" 24 "StackRoomModel" "arguments" "[I" ∈ gt := List.mem_filter.mpr ⟨List.mem_of_getElem? (i := 485) (by decide +kernel), rfl⟩
theorem fl_R_R_temporaries : Cond.fieldLink "StackRoomModel" 27 "StackRoomModel" "temporaries" "[I" ∈ gt := List.mem_filter.mpr ⟨List.mem_of_getElem? (i := 486) (by decide +kernel), rfl⟩
theorem fl_R_R_depths : Cond.fieldLink "StackRoomModel" 30 "StackRoomModel" "depths" "[I" ∈ gt := List.mem_filter.mpr ⟨List.mem_of_getElem? (i := 487) (by decide +kernel), rfl⟩
theorem fl_R_R_senders : Cond.fieldLink "StackRoomModel" 33 "StackRoomModel" "senders" "[I" ∈ gt := List.mem_filter.mpr ⟨List.mem_of_getElem? (i := 488) (by decide +kernel), rfl⟩
theorem fl_R_R_dead : Cond.fieldLink "StackRoomModel" 36 "StackRoomModel" "dead" "[Z" ∈ gt := List.mem_filter.mpr ⟨List.mem_of_getElem? (i := 489) (by decide +kernel), rfl⟩
theorem fl_R_R_heights : Cond.fieldLink "StackRoomModel" 40 "StackRoomModel" "heights" "[I" ∈ gt := List.mem_filter.mpr ⟨List.mem_of_getElem? (i := 490) (by decide +kernel), rfl⟩
theorem fl_R_R_links : Cond.fieldLink "StackRoomModel" 43 "StackRoomModel" "links" "[I" ∈ gt := List.mem_filter.mpr ⟨List.mem_of_getElem? (i := 491) (by decide +kernel), rfl⟩
theorem fl_R_R_counts : Cond.fieldLink "StackRoomModel" 46 "StackRoomModel" "counts" "[I" ∈ gt := List.mem_filter.mpr ⟨List.mem_of_getElem? (i := 492) (by decide +kernel), rfl⟩
theorem fl_R_R_begins : Cond.fieldLink "StackRoomModel" 49 "StackRoomModel" "begins" "[I" ∈ gt := List.mem_filter.mpr ⟨List.mem_of_getElem? (i := 493) (by decide +kernel), rfl⟩
theorem fl_R_R_rooms : Cond.fieldLink "StackRoomModel" 52 "StackRoomModel" "rooms" "[I" ∈ gt := List.mem_filter.mpr ⟨List.mem_of_getElem? (i := 494) (by decide +kernel), rfl⟩
theorem fl_R_R_fields : Cond.fieldLink "StackRoomModel" 56 "StackRoomModel" "fields" "[I" ∈ gt := List.mem_filter.mpr ⟨List.mem_of_getElem? (i := 495) (by decide +kernel), rfl⟩
theorem fl_R_R_other : Cond.fieldLink "StackRoomModel" 59 "StackRoomModel" "other" "[I" ∈ gt := List.mem_filter.mpr ⟨List.mem_of_getElem? (i := 496) (by decide +kernel), rfl⟩
theorem fl_R_R_used : Cond.fieldLink "StackRoomModel" 110 "StackRoomModel" "used" "I" ∈ gt := List.mem_filter.mpr ⟨List.mem_of_getElem? (i := 497) (by decide +kernel), rfl⟩
theorem fl_R_R_seen : Cond.fieldLink "StackRoomModel" 62 "StackRoomModel" "seen" "[Z" ∈ gt := List.mem_filter.mpr ⟨List.mem_of_getElem? (i := 498) (by decide +kernel), rfl⟩
theorem fl_R_R_todo : Cond.fieldLink "StackRoomModel" 65 "StackRoomModel" "todo" "[I" ∈ gt := List.mem_filter.mpr ⟨List.mem_of_getElem? (i := 499) (by decide +kernel), rfl⟩
theorem fl_R_R_reached : Cond.fieldLink "StackRoomModel" 91 "StackRoomModel" "reached" "I" ∈ gt := List.mem_filter.mpr ⟨List.mem_of_getElem? (i := 500) (by decide +kernel), rfl⟩
theorem fl_R_R_reachedObjects : Cond.fieldLink "StackRoomModel" 94 "StackRoomModel" "reachedObjects" "I" ∈ gt := List.mem_filter.mpr ⟨List.mem_of_getElem? (i := 501) (by decide +kernel), rfl⟩
theorem fl_R_R_reachedWords : Cond.fieldLink "StackRoomModel" 97 "StackRoomModel" "reachedWords" "I" ∈ gt := List.mem_filter.mpr ⟨List.mem_of_getElem? (i := 502) (by decide +kernel), rfl⟩
theorem fl_R_R_reachedContexts : Cond.fieldLink "StackRoomModel" 100 "StackRoomModel" "reachedContexts" "I" ∈ gt := List.mem_filter.mpr ⟨List.mem_of_getElem? (i := 503) (by decide +kernel), rfl⟩
theorem ac_int : Cond.arrayClass .int ∈ gt := List.mem_filter.mpr ⟨List.mem_of_getElem? (i := 555) (by decide +kernel), rfl⟩
theorem ac_byte : Cond.arrayClass .byte ∈ gt := List.mem_filter.mpr ⟨List.mem_of_getElem? (i := 556) (by decide +kernel), rfl⟩
theorem ac_boolean : Cond.arrayClass .boolean ∈ gt := List.mem_filter.mpr ⟨List.mem_of_getElem? (i := 557) (by decide +kernel), rfl⟩
theorem ml_L_R_words : Cond.methodLink "StackRoomLaw" 129 y_R_words ∈ gt := List.mem_filter.mpr ⟨List.mem_of_getElem? (i := 558) (by decide +kernel), rfl⟩
theorem im_R_words : Cond.instanceMethod y_R_words ∈ gt := List.mem_filter.mpr ⟨List.mem_of_getElem? (i := 559) (by decide +kernel), rfl⟩
theorem se_R_R_words_R : Cond.selects "StackRoomModel" y_R_words y_R_words ∈ gt := List.mem_filter.mpr ⟨List.mem_of_getElem? (i := 560) (by decide +kernel), rfl⟩
set_option maxRecDepth 20000 in
theorem co_R_words : Cond.code y_R_words b_R_words 1 (some .int) ∈ gt := List.mem_filter.mpr ⟨List.mem_of_getElem? (i := 561) rfl, rfl⟩
theorem ml_R_R_look : Cond.methodLink "StackRoomModel" 107 y_R_look ∈ gt := List.mem_filter.mpr ⟨List.mem_of_getElem? (i := 562) (by decide +kernel), rfl⟩
theorem im_R_look : Cond.instanceMethod y_R_look ∈ gt := List.mem_filter.mpr ⟨List.mem_of_getElem? (i := 564) (by decide +kernel), rfl⟩
set_option maxRecDepth 20000 in
theorem co_R_look : Cond.code y_R_look b_R_look 4 none ∈ gt := List.mem_filter.mpr ⟨List.mem_of_getElem? (i := 565) rfl, rfl⟩
theorem ml_R_R_see : Cond.methodLink "StackRoomModel" 103 y_R_see ∈ gt := List.mem_filter.mpr ⟨List.mem_of_getElem? (i := 566) (by decide +kernel), rfl⟩
theorem im_R_see : Cond.instanceMethod y_R_see ∈ gt := List.mem_filter.mpr ⟨List.mem_of_getElem? (i := 568) (by decide +kernel), rfl⟩
set_option maxRecDepth 20000 in
theorem co_R_see : Cond.code y_R_see b_R_see 2 none ∈ gt := List.mem_filter.mpr ⟨List.mem_of_getElem? (i := 569) rfl, rfl⟩
theorem ml_R_R_isObject : Cond.methodLink "StackRoomModel" 80 y_R_isObject ∈ gt := List.mem_filter.mpr ⟨List.mem_of_getElem? (i := 570) (by decide +kernel), rfl⟩
theorem st_R_isObject : Cond.static y_R_isObject ∈ gt := List.mem_filter.mpr ⟨List.mem_of_getElem? (i := 571) (by decide +kernel), rfl⟩
set_option maxRecDepth 20000 in
theorem co_R_isObject : Cond.code y_R_isObject b_R_isObject 1 (some .boolean) ∈ gt := List.mem_filter.mpr ⟨List.mem_of_getElem? (i := 572) rfl, rfl⟩
theorem ml_L_R_entries : Cond.methodLink "StackRoomLaw" 133 y_R_entries ∈ gt := List.mem_filter.mpr ⟨List.mem_of_getElem? (i := 573) (by decide +kernel), rfl⟩
theorem im_R_entries : Cond.instanceMethod y_R_entries ∈ gt := List.mem_filter.mpr ⟨List.mem_of_getElem? (i := 574) (by decide +kernel), rfl⟩
theorem se_R_R_entries_R : Cond.selects "StackRoomModel" y_R_entries y_R_entries ∈ gt := List.mem_filter.mpr ⟨List.mem_of_getElem? (i := 575) (by decide +kernel), rfl⟩
set_option maxRecDepth 20000 in
theorem co_R_entries : Cond.code y_R_entries b_R_entries 1 (some .int) ∈ gt := List.mem_filter.mpr ⟨List.mem_of_getElem? (i := 576) rfl, rfl⟩
theorem ml_L_R_contexts : Cond.methodLink "StackRoomLaw" 137 y_R_contexts ∈ gt := List.mem_filter.mpr ⟨List.mem_of_getElem? (i := 577) (by decide +kernel), rfl⟩
theorem im_R_contexts : Cond.instanceMethod y_R_contexts ∈ gt := List.mem_filter.mpr ⟨List.mem_of_getElem? (i := 578) (by decide +kernel), rfl⟩
theorem se_R_R_contexts_R : Cond.selects "StackRoomModel" y_R_contexts y_R_contexts ∈ gt := List.mem_filter.mpr ⟨List.mem_of_getElem? (i := 579) (by decide +kernel), rfl⟩
set_option maxRecDepth 20000 in
theorem co_R_contexts : Cond.code y_R_contexts b_R_contexts 1 (some .int) ∈ gt := List.mem_filter.mpr ⟨List.mem_of_getElem? (i := 580) rfl, rfl⟩
theorem ml_L_R_number : Cond.methodLink "StackRoomLaw" 25 y_R_number ∈ gt := List.mem_filter.mpr ⟨List.mem_of_getElem? (i := 581) (by decide +kernel), rfl⟩
theorem im_R_number : Cond.instanceMethod y_R_number ∈ gt := List.mem_filter.mpr ⟨List.mem_of_getElem? (i := 582) (by decide +kernel), rfl⟩
theorem se_R_R_number_R : Cond.selects "StackRoomModel" y_R_number y_R_number ∈ gt := List.mem_filter.mpr ⟨List.mem_of_getElem? (i := 583) (by decide +kernel), rfl⟩
set_option maxRecDepth 20000 in
theorem co_R_number : Cond.code y_R_number b_R_number 3 (some .boolean) ∈ gt := List.mem_filter.mpr ⟨List.mem_of_getElem? (i := 584) rfl, rfl⟩
theorem ml_R_R_isRegister : Cond.methodLink "StackRoomModel" 76 y_R_isRegister ∈ gt := List.mem_filter.mpr ⟨List.mem_of_getElem? (i := 585) (by decide +kernel), rfl⟩
theorem st_R_isRegister : Cond.static y_R_isRegister ∈ gt := List.mem_filter.mpr ⟨List.mem_of_getElem? (i := 586) (by decide +kernel), rfl⟩
set_option maxRecDepth 20000 in
theorem co_R_isRegister : Cond.code y_R_isRegister b_R_isRegister 1 (some .boolean) ∈ gt := List.mem_filter.mpr ⟨List.mem_of_getElem? (i := 587) rfl, rfl⟩
theorem ml_R_R_isNumber : Cond.methodLink "StackRoomModel" 116 y_R_isNumber ∈ gt := List.mem_filter.mpr ⟨List.mem_of_getElem? (i := 588) (by decide +kernel), rfl⟩
theorem st_R_isNumber : Cond.static y_R_isNumber ∈ gt := List.mem_filter.mpr ⟨List.mem_of_getElem? (i := 589) (by decide +kernel), rfl⟩
set_option maxRecDepth 20000 in
theorem co_R_isNumber : Cond.code y_R_isNumber b_R_isNumber 1 (some .boolean) ∈ gt := List.mem_filter.mpr ⟨List.mem_of_getElem? (i := 590) rfl, rfl⟩
theorem cs_R_m1073741824 : Cond.constant "StackRoomModel" 74 (-1073741824) ∈ gt := List.mem_filter.mpr ⟨List.mem_of_getElem? (i := 591) (by decide +kernel), rfl⟩
theorem cs_R_1073741823 : Cond.constant "StackRoomModel" 75 (1073741823) ∈ gt := List.mem_filter.mpr ⟨List.mem_of_getElem? (i := 592) (by decide +kernel), rfl⟩
theorem ml_R_R_numeral : Cond.methodLink "StackRoomModel" 119 y_R_numeral ∈ gt := List.mem_filter.mpr ⟨List.mem_of_getElem? (i := 593) (by decide +kernel), rfl⟩
theorem st_R_numeral : Cond.static y_R_numeral ∈ gt := List.mem_filter.mpr ⟨List.mem_of_getElem? (i := 594) (by decide +kernel), rfl⟩
set_option maxRecDepth 20000 in
theorem co_R_numeral : Cond.code y_R_numeral b_R_numeral 1 (some .int) ∈ gt := List.mem_filter.mpr ⟨List.mem_of_getElem? (i := 595) rfl, rfl⟩
theorem ml_L_R_move : Cond.methodLink "StackRoomLaw" 29 y_R_move ∈ gt := List.mem_filter.mpr ⟨List.mem_of_getElem? (i := 596) (by decide +kernel), rfl⟩
theorem im_R_move : Cond.instanceMethod y_R_move ∈ gt := List.mem_filter.mpr ⟨List.mem_of_getElem? (i := 597) (by decide +kernel), rfl⟩
theorem se_R_R_move_R : Cond.selects "StackRoomModel" y_R_move y_R_move ∈ gt := List.mem_filter.mpr ⟨List.mem_of_getElem? (i := 598) (by decide +kernel), rfl⟩
set_option maxRecDepth 20000 in
theorem co_R_move : Cond.code y_R_move b_R_move 3 (some .boolean) ∈ gt := List.mem_filter.mpr ⟨List.mem_of_getElem? (i := 599) rfl, rfl⟩
theorem ml_L_R_clear : Cond.methodLink "StackRoomLaw" 34 y_R_clear ∈ gt := List.mem_filter.mpr ⟨List.mem_of_getElem? (i := 600) (by decide +kernel), rfl⟩
theorem im_R_clear : Cond.instanceMethod y_R_clear ∈ gt := List.mem_filter.mpr ⟨List.mem_of_getElem? (i := 601) (by decide +kernel), rfl⟩
theorem se_R_R_clear_R : Cond.selects "StackRoomModel" y_R_clear y_R_clear ∈ gt := List.mem_filter.mpr ⟨List.mem_of_getElem? (i := 602) (by decide +kernel), rfl⟩
set_option maxRecDepth 20000 in
theorem co_R_clear : Cond.code y_R_clear b_R_clear 2 (some .boolean) ∈ gt := List.mem_filter.mpr ⟨List.mem_of_getElem? (i := 603) rfl, rfl⟩
theorem ml_L_R_kind : Cond.methodLink "StackRoomLaw" 39 y_R_kind ∈ gt := List.mem_filter.mpr ⟨List.mem_of_getElem? (i := 604) (by decide +kernel), rfl⟩
theorem im_R_kind : Cond.instanceMethod y_R_kind ∈ gt := List.mem_filter.mpr ⟨List.mem_of_getElem? (i := 605) (by decide +kernel), rfl⟩
theorem se_R_R_kind_R : Cond.selects "StackRoomModel" y_R_kind y_R_kind ∈ gt := List.mem_filter.mpr ⟨List.mem_of_getElem? (i := 606) (by decide +kernel), rfl⟩
set_option maxRecDepth 20000 in
theorem co_R_kind : Cond.code y_R_kind b_R_kind 3 (some .int) ∈ gt := List.mem_filter.mpr ⟨List.mem_of_getElem? (i := 607) rfl, rfl⟩
theorem ml_L_R_value : Cond.methodLink "StackRoomLaw" 43 y_R_value ∈ gt := List.mem_filter.mpr ⟨List.mem_of_getElem? (i := 608) (by decide +kernel), rfl⟩
theorem im_R_value : Cond.instanceMethod y_R_value ∈ gt := List.mem_filter.mpr ⟨List.mem_of_getElem? (i := 609) (by decide +kernel), rfl⟩
theorem se_R_R_value_R : Cond.selects "StackRoomModel" y_R_value y_R_value ∈ gt := List.mem_filter.mpr ⟨List.mem_of_getElem? (i := 610) (by decide +kernel), rfl⟩
set_option maxRecDepth 20000 in
theorem co_R_value : Cond.code y_R_value b_R_value 3 (some .int) ∈ gt := List.mem_filter.mpr ⟨List.mem_of_getElem? (i := 611) rfl, rfl⟩
theorem ml_L_R_method : Cond.methodLink "StackRoomLaw" 48 y_R_method ∈ gt := List.mem_filter.mpr ⟨List.mem_of_getElem? (i := 612) (by decide +kernel), rfl⟩
theorem im_R_method : Cond.instanceMethod y_R_method ∈ gt := List.mem_filter.mpr ⟨List.mem_of_getElem? (i := 613) (by decide +kernel), rfl⟩
theorem se_R_R_method_R : Cond.selects "StackRoomModel" y_R_method y_R_method ∈ gt := List.mem_filter.mpr ⟨List.mem_of_getElem? (i := 614) (by decide +kernel), rfl⟩
set_option maxRecDepth 20000 in
theorem co_R_method : Cond.code y_R_method b_R_method 6 (some .int) ∈ gt := List.mem_filter.mpr ⟨List.mem_of_getElem? (i := 615) rfl, rfl⟩
theorem ml_R_R_isMethod : Cond.methodLink "StackRoomModel" 122 y_R_isMethod ∈ gt := List.mem_filter.mpr ⟨List.mem_of_getElem? (i := 616) (by decide +kernel), rfl⟩
theorem st_R_isMethod : Cond.static y_R_isMethod ∈ gt := List.mem_filter.mpr ⟨List.mem_of_getElem? (i := 617) (by decide +kernel), rfl⟩
set_option maxRecDepth 20000 in
theorem co_R_isMethod : Cond.code y_R_isMethod b_R_isMethod 3 (some .boolean) ∈ gt := List.mem_filter.mpr ⟨List.mem_of_getElem? (i := 618) rfl, rfl⟩
theorem ml_R_R_make : Cond.methodLink "StackRoomModel" 126 y_R_make ∈ gt := List.mem_filter.mpr ⟨List.mem_of_getElem? (i := 619) (by decide +kernel), rfl⟩
theorem im_R_make : Cond.instanceMethod y_R_make ∈ gt := List.mem_filter.mpr ⟨List.mem_of_getElem? (i := 621) (by decide +kernel), rfl⟩
set_option maxRecDepth 20000 in
theorem co_R_make : Cond.code y_R_make b_R_make 7 (some .int) ∈ gt := List.mem_filter.mpr ⟨List.mem_of_getElem? (i := 622) rfl, rfl⟩
theorem ml_R_R_letGo : Cond.methodLink "StackRoomModel" 113 y_R_letGo ∈ gt := List.mem_filter.mpr ⟨List.mem_of_getElem? (i := 623) (by decide +kernel), rfl⟩
theorem im_R_letGo : Cond.instanceMethod y_R_letGo ∈ gt := List.mem_filter.mpr ⟨List.mem_of_getElem? (i := 625) (by decide +kernel), rfl⟩
set_option maxRecDepth 20000 in
theorem co_R_letGo : Cond.code y_R_letGo b_R_letGo 4 none ∈ gt := List.mem_filter.mpr ⟨List.mem_of_getElem? (i := 626) rfl, rfl⟩
theorem ml_R_R_give : Cond.methodLink "StackRoomModel" 130 y_R_give ∈ gt := List.mem_filter.mpr ⟨List.mem_of_getElem? (i := 627) (by decide +kernel), rfl⟩
theorem im_R_give : Cond.instanceMethod y_R_give ∈ gt := List.mem_filter.mpr ⟨List.mem_of_getElem? (i := 629) (by decide +kernel), rfl⟩
set_option maxRecDepth 20000 in
theorem co_R_give : Cond.code y_R_give b_R_give 5 none ∈ gt := List.mem_filter.mpr ⟨List.mem_of_getElem? (i := 630) rfl, rfl⟩
theorem ml_L_R_change : Cond.methodLink "StackRoomLaw" 53 y_R_change ∈ gt := List.mem_filter.mpr ⟨List.mem_of_getElem? (i := 631) (by decide +kernel), rfl⟩
theorem im_R_change : Cond.instanceMethod y_R_change ∈ gt := List.mem_filter.mpr ⟨List.mem_of_getElem? (i := 632) (by decide +kernel), rfl⟩
theorem se_R_R_change_R : Cond.selects "StackRoomModel" y_R_change y_R_change ∈ gt := List.mem_filter.mpr ⟨List.mem_of_getElem? (i := 633) (by decide +kernel), rfl⟩
set_option maxRecDepth 20000 in
theorem co_R_change : Cond.code y_R_change b_R_change 6 (some .boolean) ∈ gt := List.mem_filter.mpr ⟨List.mem_of_getElem? (i := 634) rfl, rfl⟩
theorem ml_R_R_objectIn : Cond.methodLink "StackRoomModel" 83 y_R_objectIn ∈ gt := List.mem_filter.mpr ⟨List.mem_of_getElem? (i := 635) (by decide +kernel), rfl⟩
theorem im_R_objectIn : Cond.instanceMethod y_R_objectIn ∈ gt := List.mem_filter.mpr ⟨List.mem_of_getElem? (i := 637) (by decide +kernel), rfl⟩
set_option maxRecDepth 20000 in
theorem co_R_objectIn : Cond.code y_R_objectIn b_R_objectIn 5 (some .int) ∈ gt := List.mem_filter.mpr ⟨List.mem_of_getElem? (i := 638) rfl, rfl⟩
theorem ml_L_R_context : Cond.methodLink "StackRoomLaw" 58 y_R_context ∈ gt := List.mem_filter.mpr ⟨List.mem_of_getElem? (i := 639) (by decide +kernel), rfl⟩
theorem im_R_context : Cond.instanceMethod y_R_context ∈ gt := List.mem_filter.mpr ⟨List.mem_of_getElem? (i := 640) (by decide +kernel), rfl⟩
theorem se_R_R_context_R : Cond.selects "StackRoomModel" y_R_context y_R_context ∈ gt := List.mem_filter.mpr ⟨List.mem_of_getElem? (i := 641) (by decide +kernel), rfl⟩
set_option maxRecDepth 20000 in
theorem co_R_context : Cond.code y_R_context b_R_context 8 (some .int) ∈ gt := List.mem_filter.mpr ⟨List.mem_of_getElem? (i := 642) rfl, rfl⟩
theorem ml_R_R_isNilOrContext : Cond.methodLink "StackRoomModel" 134 y_R_isNilOrContext ∈ gt := List.mem_filter.mpr ⟨List.mem_of_getElem? (i := 643) (by decide +kernel), rfl⟩
theorem im_R_isNilOrContext : Cond.instanceMethod y_R_isNilOrContext ∈ gt := List.mem_filter.mpr ⟨List.mem_of_getElem? (i := 645) (by decide +kernel), rfl⟩
set_option maxRecDepth 20000 in
theorem co_R_isNilOrContext : Cond.code y_R_isNilOrContext b_R_isNilOrContext 2 (some .boolean) ∈ gt := List.mem_filter.mpr ⟨List.mem_of_getElem? (i := 646) rfl, rfl⟩
theorem ml_R_R_contextIn : Cond.methodLink "StackRoomModel" 87 y_R_contextIn ∈ gt := List.mem_filter.mpr ⟨List.mem_of_getElem? (i := 647) (by decide +kernel), rfl⟩
theorem im_R_contextIn : Cond.instanceMethod y_R_contextIn ∈ gt := List.mem_filter.mpr ⟨List.mem_of_getElem? (i := 649) (by decide +kernel), rfl⟩
set_option maxRecDepth 20000 in
theorem co_R_contextIn : Cond.code y_R_contextIn b_R_contextIn 2 (some .int) ∈ gt := List.mem_filter.mpr ⟨List.mem_of_getElem? (i := 650) rfl, rfl⟩
theorem ml_R_R_settle : Cond.methodLink "StackRoomModel" 137 y_R_settle ∈ gt := List.mem_filter.mpr ⟨List.mem_of_getElem? (i := 651) (by decide +kernel), rfl⟩
theorem im_R_settle : Cond.instanceMethod y_R_settle ∈ gt := List.mem_filter.mpr ⟨List.mem_of_getElem? (i := 653) (by decide +kernel), rfl⟩
set_option maxRecDepth 20000 in
theorem co_R_settle : Cond.code y_R_settle b_R_settle 7 (some .int) ∈ gt := List.mem_filter.mpr ⟨List.mem_of_getElem? (i := 654) rfl, rfl⟩
theorem ml_L_R_block : Cond.methodLink "StackRoomLaw" 62 y_R_block ∈ gt := List.mem_filter.mpr ⟨List.mem_of_getElem? (i := 655) (by decide +kernel), rfl⟩
theorem im_R_block : Cond.instanceMethod y_R_block ∈ gt := List.mem_filter.mpr ⟨List.mem_of_getElem? (i := 656) (by decide +kernel), rfl⟩
theorem se_R_R_block_R : Cond.selects "StackRoomModel" y_R_block y_R_block ∈ gt := List.mem_filter.mpr ⟨List.mem_of_getElem? (i := 657) (by decide +kernel), rfl⟩
set_option maxRecDepth 20000 in
theorem co_R_block : Cond.code y_R_block b_R_block 8 (some .int) ∈ gt := List.mem_filter.mpr ⟨List.mem_of_getElem? (i := 658) rfl, rfl⟩
theorem ml_R_R_homeOf : Cond.methodLink "StackRoomModel" 141 y_R_homeOf ∈ gt := List.mem_filter.mpr ⟨List.mem_of_getElem? (i := 659) (by decide +kernel), rfl⟩
theorem im_R_homeOf : Cond.instanceMethod y_R_homeOf ∈ gt := List.mem_filter.mpr ⟨List.mem_of_getElem? (i := 661) (by decide +kernel), rfl⟩
set_option maxRecDepth 20000 in
theorem co_R_homeOf : Cond.code y_R_homeOf b_R_homeOf 2 (some .int) ∈ gt := List.mem_filter.mpr ⟨List.mem_of_getElem? (i := 662) rfl, rfl⟩
theorem ml_L_R_push : Cond.methodLink "StackRoomLaw" 66 y_R_push ∈ gt := List.mem_filter.mpr ⟨List.mem_of_getElem? (i := 663) (by decide +kernel), rfl⟩
theorem im_R_push : Cond.instanceMethod y_R_push ∈ gt := List.mem_filter.mpr ⟨List.mem_of_getElem? (i := 664) (by decide +kernel), rfl⟩
theorem se_R_R_push_R : Cond.selects "StackRoomModel" y_R_push y_R_push ∈ gt := List.mem_filter.mpr ⟨List.mem_of_getElem? (i := 665) (by decide +kernel), rfl⟩
set_option maxRecDepth 20000 in
theorem co_R_push : Cond.code y_R_push b_R_push 4 (some .boolean) ∈ gt := List.mem_filter.mpr ⟨List.mem_of_getElem? (i := 666) rfl, rfl⟩
theorem ml_R_R_pushes : Cond.methodLink "StackRoomModel" 144 y_R_pushes ∈ gt := List.mem_filter.mpr ⟨List.mem_of_getElem? (i := 667) (by decide +kernel), rfl⟩
theorem im_R_pushes : Cond.instanceMethod y_R_pushes ∈ gt := List.mem_filter.mpr ⟨List.mem_of_getElem? (i := 669) (by decide +kernel), rfl⟩
set_option maxRecDepth 20000 in
theorem co_R_pushes : Cond.code y_R_pushes b_R_pushes 3 (some .boolean) ∈ gt := List.mem_filter.mpr ⟨List.mem_of_getElem? (i := 670) rfl, rfl⟩
theorem ml_L_R_fill : Cond.methodLink "StackRoomLaw" 70 y_R_fill ∈ gt := List.mem_filter.mpr ⟨List.mem_of_getElem? (i := 671) (by decide +kernel), rfl⟩
theorem im_R_fill : Cond.instanceMethod y_R_fill ∈ gt := List.mem_filter.mpr ⟨List.mem_of_getElem? (i := 672) (by decide +kernel), rfl⟩
theorem se_R_R_fill_R : Cond.selects "StackRoomModel" y_R_fill y_R_fill ∈ gt := List.mem_filter.mpr ⟨List.mem_of_getElem? (i := 673) (by decide +kernel), rfl⟩
set_option maxRecDepth 20000 in
theorem co_R_fill : Cond.code y_R_fill b_R_fill 6 (some .int) ∈ gt := List.mem_filter.mpr ⟨List.mem_of_getElem? (i := 674) rfl, rfl⟩
theorem ml_L_R_pop : Cond.methodLink "StackRoomLaw" 74 y_R_pop ∈ gt := List.mem_filter.mpr ⟨List.mem_of_getElem? (i := 675) (by decide +kernel), rfl⟩
theorem im_R_pop : Cond.instanceMethod y_R_pop ∈ gt := List.mem_filter.mpr ⟨List.mem_of_getElem? (i := 676) (by decide +kernel), rfl⟩
theorem se_R_R_pop_R : Cond.selects "StackRoomModel" y_R_pop y_R_pop ∈ gt := List.mem_filter.mpr ⟨List.mem_of_getElem? (i := 677) (by decide +kernel), rfl⟩
set_option maxRecDepth 20000 in
theorem co_R_pop : Cond.code y_R_pop b_R_pop 4 (some .boolean) ∈ gt := List.mem_filter.mpr ⟨List.mem_of_getElem? (i := 678) rfl, rfl⟩
theorem ml_R_R_floorOf : Cond.methodLink "StackRoomModel" 148 y_R_floorOf ∈ gt := List.mem_filter.mpr ⟨List.mem_of_getElem? (i := 679) (by decide +kernel), rfl⟩
theorem im_R_floorOf : Cond.instanceMethod y_R_floorOf ∈ gt := List.mem_filter.mpr ⟨List.mem_of_getElem? (i := 681) (by decide +kernel), rfl⟩
set_option maxRecDepth 20000 in
theorem co_R_floorOf : Cond.code y_R_floorOf b_R_floorOf 2 (some .int) ∈ gt := List.mem_filter.mpr ⟨List.mem_of_getElem? (i := 682) rfl, rfl⟩
theorem ml_R_R_popped : Cond.methodLink "StackRoomModel" 151 y_R_popped ∈ gt := List.mem_filter.mpr ⟨List.mem_of_getElem? (i := 683) (by decide +kernel), rfl⟩
theorem im_R_popped : Cond.instanceMethod y_R_popped ∈ gt := List.mem_filter.mpr ⟨List.mem_of_getElem? (i := 685) (by decide +kernel), rfl⟩
set_option maxRecDepth 20000 in
theorem co_R_popped : Cond.code y_R_popped b_R_popped 3 (some .int) ∈ gt := List.mem_filter.mpr ⟨List.mem_of_getElem? (i := 686) rfl, rfl⟩
theorem ml_L_R_peek : Cond.methodLink "StackRoomLaw" 79 y_R_peek ∈ gt := List.mem_filter.mpr ⟨List.mem_of_getElem? (i := 687) (by decide +kernel), rfl⟩
theorem im_R_peek : Cond.instanceMethod y_R_peek ∈ gt := List.mem_filter.mpr ⟨List.mem_of_getElem? (i := 688) (by decide +kernel), rfl⟩
theorem se_R_R_peek_R : Cond.selects "StackRoomModel" y_R_peek y_R_peek ∈ gt := List.mem_filter.mpr ⟨List.mem_of_getElem? (i := 689) (by decide +kernel), rfl⟩
set_option maxRecDepth 20000 in
theorem co_R_peek : Cond.code y_R_peek b_R_peek 5 (some .boolean) ∈ gt := List.mem_filter.mpr ⟨List.mem_of_getElem? (i := 690) rfl, rfl⟩
theorem ml_L_R_drop : Cond.methodLink "StackRoomLaw" 83 y_R_drop ∈ gt := List.mem_filter.mpr ⟨List.mem_of_getElem? (i := 691) (by decide +kernel), rfl⟩
theorem im_R_drop : Cond.instanceMethod y_R_drop ∈ gt := List.mem_filter.mpr ⟨List.mem_of_getElem? (i := 692) (by decide +kernel), rfl⟩
theorem se_R_R_drop_R : Cond.selects "StackRoomModel" y_R_drop y_R_drop ∈ gt := List.mem_filter.mpr ⟨List.mem_of_getElem? (i := 693) (by decide +kernel), rfl⟩
set_option maxRecDepth 20000 in
theorem co_R_drop : Cond.code y_R_drop b_R_drop 5 (some .boolean) ∈ gt := List.mem_filter.mpr ⟨List.mem_of_getElem? (i := 694) rfl, rfl⟩
theorem ml_L_R_height : Cond.methodLink "StackRoomLaw" 87 y_R_height ∈ gt := List.mem_filter.mpr ⟨List.mem_of_getElem? (i := 695) (by decide +kernel), rfl⟩
theorem im_R_height : Cond.instanceMethod y_R_height ∈ gt := List.mem_filter.mpr ⟨List.mem_of_getElem? (i := 696) (by decide +kernel), rfl⟩
theorem se_R_R_height_R : Cond.selects "StackRoomModel" y_R_height y_R_height ∈ gt := List.mem_filter.mpr ⟨List.mem_of_getElem? (i := 697) (by decide +kernel), rfl⟩
set_option maxRecDepth 20000 in
theorem co_R_height : Cond.code y_R_height b_R_height 3 (some .int) ∈ gt := List.mem_filter.mpr ⟨List.mem_of_getElem? (i := 698) rfl, rfl⟩
theorem ml_L_R_room : Cond.methodLink "StackRoomLaw" 91 y_R_room ∈ gt := List.mem_filter.mpr ⟨List.mem_of_getElem? (i := 699) (by decide +kernel), rfl⟩
theorem im_R_room : Cond.instanceMethod y_R_room ∈ gt := List.mem_filter.mpr ⟨List.mem_of_getElem? (i := 700) (by decide +kernel), rfl⟩
theorem se_R_R_room_R : Cond.selects "StackRoomModel" y_R_room y_R_room ∈ gt := List.mem_filter.mpr ⟨List.mem_of_getElem? (i := 701) (by decide +kernel), rfl⟩
set_option maxRecDepth 20000 in
theorem co_R_room : Cond.code y_R_room b_R_room 3 (some .int) ∈ gt := List.mem_filter.mpr ⟨List.mem_of_getElem? (i := 702) rfl, rfl⟩
theorem ml_L_R_floor : Cond.methodLink "StackRoomLaw" 95 y_R_floor ∈ gt := List.mem_filter.mpr ⟨List.mem_of_getElem? (i := 703) (by decide +kernel), rfl⟩
theorem im_R_floor : Cond.instanceMethod y_R_floor ∈ gt := List.mem_filter.mpr ⟨List.mem_of_getElem? (i := 704) (by decide +kernel), rfl⟩
theorem se_R_R_floor_R : Cond.selects "StackRoomModel" y_R_floor y_R_floor ∈ gt := List.mem_filter.mpr ⟨List.mem_of_getElem? (i := 705) (by decide +kernel), rfl⟩
set_option maxRecDepth 20000 in
theorem co_R_floor : Cond.code y_R_floor b_R_floor 3 (some .int) ∈ gt := List.mem_filter.mpr ⟨List.mem_of_getElem? (i := 706) rfl, rfl⟩
theorem ml_L_R_count : Cond.methodLink "StackRoomLaw" 99 y_R_count ∈ gt := List.mem_filter.mpr ⟨List.mem_of_getElem? (i := 707) (by decide +kernel), rfl⟩
theorem im_R_count : Cond.instanceMethod y_R_count ∈ gt := List.mem_filter.mpr ⟨List.mem_of_getElem? (i := 708) (by decide +kernel), rfl⟩
theorem se_R_R_count_R : Cond.selects "StackRoomModel" y_R_count y_R_count ∈ gt := List.mem_filter.mpr ⟨List.mem_of_getElem? (i := 709) (by decide +kernel), rfl⟩
set_option maxRecDepth 20000 in
theorem co_R_count : Cond.code y_R_count b_R_count 3 (some .int) ∈ gt := List.mem_filter.mpr ⟨List.mem_of_getElem? (i := 710) rfl, rfl⟩
theorem ml_L_R_home : Cond.methodLink "StackRoomLaw" 103 y_R_home ∈ gt := List.mem_filter.mpr ⟨List.mem_of_getElem? (i := 711) (by decide +kernel), rfl⟩
theorem im_R_home : Cond.instanceMethod y_R_home ∈ gt := List.mem_filter.mpr ⟨List.mem_of_getElem? (i := 712) (by decide +kernel), rfl⟩
theorem se_R_R_home_R : Cond.selects "StackRoomModel" y_R_home y_R_home ∈ gt := List.mem_filter.mpr ⟨List.mem_of_getElem? (i := 713) (by decide +kernel), rfl⟩
set_option maxRecDepth 20000 in
theorem co_R_home : Cond.code y_R_home b_R_home 4 (some .boolean) ∈ gt := List.mem_filter.mpr ⟨List.mem_of_getElem? (i := 714) rfl, rfl⟩
theorem ml_L_R_sender : Cond.methodLink "StackRoomLaw" 107 y_R_sender ∈ gt := List.mem_filter.mpr ⟨List.mem_of_getElem? (i := 715) (by decide +kernel), rfl⟩
theorem im_R_sender : Cond.instanceMethod y_R_sender ∈ gt := List.mem_filter.mpr ⟨List.mem_of_getElem? (i := 716) (by decide +kernel), rfl⟩
theorem se_R_R_sender_R : Cond.selects "StackRoomModel" y_R_sender y_R_sender ∈ gt := List.mem_filter.mpr ⟨List.mem_of_getElem? (i := 717) (by decide +kernel), rfl⟩
set_option maxRecDepth 20000 in
theorem co_R_sender : Cond.code y_R_sender b_R_sender 4 (some .boolean) ∈ gt := List.mem_filter.mpr ⟨List.mem_of_getElem? (i := 718) rfl, rfl⟩
theorem ml_L_R_send : Cond.methodLink "StackRoomLaw" 111 y_R_send ∈ gt := List.mem_filter.mpr ⟨List.mem_of_getElem? (i := 719) (by decide +kernel), rfl⟩
theorem im_R_send : Cond.instanceMethod y_R_send ∈ gt := List.mem_filter.mpr ⟨List.mem_of_getElem? (i := 720) (by decide +kernel), rfl⟩
theorem se_R_R_send_R : Cond.selects "StackRoomModel" y_R_send y_R_send ∈ gt := List.mem_filter.mpr ⟨List.mem_of_getElem? (i := 721) (by decide +kernel), rfl⟩
set_option maxRecDepth 20000 in
theorem co_R_send : Cond.code y_R_send b_R_send 4 (some .boolean) ∈ gt := List.mem_filter.mpr ⟨List.mem_of_getElem? (i := 722) rfl, rfl⟩
theorem ml_L_R_kill : Cond.methodLink "StackRoomLaw" 116 y_R_kill ∈ gt := List.mem_filter.mpr ⟨List.mem_of_getElem? (i := 723) (by decide +kernel), rfl⟩
theorem im_R_kill : Cond.instanceMethod y_R_kill ∈ gt := List.mem_filter.mpr ⟨List.mem_of_getElem? (i := 724) (by decide +kernel), rfl⟩
theorem se_R_R_kill_R : Cond.selects "StackRoomModel" y_R_kill y_R_kill ∈ gt := List.mem_filter.mpr ⟨List.mem_of_getElem? (i := 725) (by decide +kernel), rfl⟩
set_option maxRecDepth 20000 in
theorem co_R_kill : Cond.code y_R_kill b_R_kill 5 (some .boolean) ∈ gt := List.mem_filter.mpr ⟨List.mem_of_getElem? (i := 726) rfl, rfl⟩
theorem ml_L_R_temporary : Cond.methodLink "StackRoomLaw" 120 y_R_temporary ∈ gt := List.mem_filter.mpr ⟨List.mem_of_getElem? (i := 727) (by decide +kernel), rfl⟩
theorem im_R_temporary : Cond.instanceMethod y_R_temporary ∈ gt := List.mem_filter.mpr ⟨List.mem_of_getElem? (i := 728) (by decide +kernel), rfl⟩
theorem se_R_R_temporary_R : Cond.selects "StackRoomModel" y_R_temporary y_R_temporary ∈ gt := List.mem_filter.mpr ⟨List.mem_of_getElem? (i := 729) (by decide +kernel), rfl⟩
set_option maxRecDepth 20000 in
theorem co_R_temporary : Cond.code y_R_temporary b_R_temporary 5 (some .boolean) ∈ gt := List.mem_filter.mpr ⟨List.mem_of_getElem? (i := 730) rfl, rfl⟩
theorem ml_R_R_placeOf : Cond.methodLink "StackRoomModel" 154 y_R_placeOf ∈ gt := List.mem_filter.mpr ⟨List.mem_of_getElem? (i := 731) (by decide +kernel), rfl⟩
theorem im_R_placeOf : Cond.instanceMethod y_R_placeOf ∈ gt := List.mem_filter.mpr ⟨List.mem_of_getElem? (i := 733) (by decide +kernel), rfl⟩
set_option maxRecDepth 20000 in
theorem co_R_placeOf : Cond.code y_R_placeOf b_R_placeOf 5 (some .int) ∈ gt := List.mem_filter.mpr ⟨List.mem_of_getElem? (i := 734) rfl, rfl⟩
theorem ml_L_R_keep : Cond.methodLink "StackRoomLaw" 124 y_R_keep ∈ gt := List.mem_filter.mpr ⟨List.mem_of_getElem? (i := 735) (by decide +kernel), rfl⟩
theorem im_R_keep : Cond.instanceMethod y_R_keep ∈ gt := List.mem_filter.mpr ⟨List.mem_of_getElem? (i := 736) (by decide +kernel), rfl⟩
theorem se_R_R_keep_R : Cond.selects "StackRoomModel" y_R_keep y_R_keep ∈ gt := List.mem_filter.mpr ⟨List.mem_of_getElem? (i := 737) (by decide +kernel), rfl⟩
set_option maxRecDepth 20000 in
theorem co_R_keep : Cond.code y_R_keep b_R_keep 5 (some .boolean) ∈ gt := List.mem_filter.mpr ⟨List.mem_of_getElem? (i := 738) rfl, rfl⟩
theorem ca_B_T : Cond.castable "StackRoom$BlockContext" "StackRoom$Thing" ∈ nt := List.mem_filter.mpr ⟨List.mem_of_getElem? (i := 739) (by decide +kernel), rfl⟩
theorem ca_M_T : Cond.castable "StackRoom$Method" "StackRoom$Thing" ∈ nt := List.mem_filter.mpr ⟨List.mem_of_getElem? (i := 740) (by decide +kernel), rfl⟩
theorem ca_X_T : Cond.castable "StackRoom$MethodContext" "StackRoom$Thing" ∈ nt := List.mem_filter.mpr ⟨List.mem_of_getElem? (i := 741) (by decide +kernel), rfl⟩
theorem ca_B_C : Cond.castable "StackRoom$BlockContext" "StackRoom$Context" ∈ nt := List.mem_filter.mpr ⟨List.mem_of_getElem? (i := 742) (by decide +kernel), rfl⟩
theorem ca_X_C : Cond.castable "StackRoom$MethodContext" "StackRoom$Context" ∈ nt := List.mem_filter.mpr ⟨List.mem_of_getElem? (i := 743) (by decide +kernel), rfl⟩
theorem ca_M_M : Cond.castable "StackRoom$Method" "StackRoom$Method" ∈ nt := List.mem_filter.mpr ⟨List.mem_of_getElem? (i := 744) (by decide +kernel), rfl⟩
theorem ca_B_B : Cond.castable "StackRoom$BlockContext" "StackRoom$BlockContext" ∈ nt := List.mem_filter.mpr ⟨List.mem_of_getElem? (i := 745) (by decide +kernel), rfl⟩
theorem ca_B_V : Cond.castable "StackRoom$BlockContext" "StackRoom$Value" ∈ nt := List.mem_filter.mpr ⟨List.mem_of_getElem? (i := 746) (by decide +kernel), rfl⟩
theorem ca_M_V : Cond.castable "StackRoom$Method" "StackRoom$Value" ∈ nt := List.mem_filter.mpr ⟨List.mem_of_getElem? (i := 747) (by decide +kernel), rfl⟩
theorem ca_X_V : Cond.castable "StackRoom$MethodContext" "StackRoom$Value" ∈ nt := List.mem_filter.mpr ⟨List.mem_of_getElem? (i := 748) (by decide +kernel), rfl⟩
theorem ca_W_V : Cond.castable "StackRoom$Whole" "StackRoom$Value" ∈ nt := List.mem_filter.mpr ⟨List.mem_of_getElem? (i := 749) (by decide +kernel), rfl⟩
theorem se_S_S_canBeMade_S : Cond.selects "StackRoom" y_S_canBeMade y_S_canBeMade ∈ gt := List.mem_filter.mpr ⟨List.mem_of_getElem? (i := 0) (by decide +kernel), rfl⟩
theorem se_S_S_survey_S : Cond.selects "StackRoom" y_S_survey y_S_survey ∈ gt := List.mem_filter.mpr ⟨List.mem_of_getElem? (i := 1) (by decide +kernel), rfl⟩
theorem se_S_S_reach_S : Cond.selects "StackRoom" y_S_reach y_S_reach ∈ gt := List.mem_filter.mpr ⟨List.mem_of_getElem? (i := 2) (by decide +kernel), rfl⟩
theorem se_S_S_reachPartsOf_S : Cond.selects "StackRoom" y_S_reachPartsOf y_S_reachPartsOf ∈ gt := List.mem_filter.mpr ⟨List.mem_of_getElem? (i := 3) (by decide +kernel), rfl⟩
theorem se_S_S_methodIn_S : Cond.selects "StackRoom" y_S_methodIn y_S_methodIn ∈ gt := List.mem_filter.mpr ⟨List.mem_of_getElem? (i := 4) (by decide +kernel), rfl⟩
theorem se_S_S_isSender_S : Cond.selects "StackRoom" y_S_isSender y_S_isSender ∈ gt := List.mem_filter.mpr ⟨List.mem_of_getElem? (i := 5) (by decide +kernel), rfl⟩
theorem se_S_S_contextIn_S : Cond.selects "StackRoom" y_S_contextIn y_S_contextIn ∈ gt := List.mem_filter.mpr ⟨List.mem_of_getElem? (i := 6) (by decide +kernel), rfl⟩
theorem se_R_R_look_R : Cond.selects "StackRoomModel" y_R_look y_R_look ∈ gt := List.mem_filter.mpr ⟨List.mem_of_getElem? (i := 7) (by decide +kernel), rfl⟩
theorem se_R_R_see_R : Cond.selects "StackRoomModel" y_R_see y_R_see ∈ gt := List.mem_filter.mpr ⟨List.mem_of_getElem? (i := 8) (by decide +kernel), rfl⟩
theorem se_R_R_make_R : Cond.selects "StackRoomModel" y_R_make y_R_make ∈ gt := List.mem_filter.mpr ⟨List.mem_of_getElem? (i := 9) (by decide +kernel), rfl⟩
theorem se_R_R_letGo_R : Cond.selects "StackRoomModel" y_R_letGo y_R_letGo ∈ gt := List.mem_filter.mpr ⟨List.mem_of_getElem? (i := 10) (by decide +kernel), rfl⟩
theorem se_R_R_give_R : Cond.selects "StackRoomModel" y_R_give y_R_give ∈ gt := List.mem_filter.mpr ⟨List.mem_of_getElem? (i := 11) (by decide +kernel), rfl⟩
theorem se_R_R_objectIn_R : Cond.selects "StackRoomModel" y_R_objectIn y_R_objectIn ∈ gt := List.mem_filter.mpr ⟨List.mem_of_getElem? (i := 12) (by decide +kernel), rfl⟩
theorem se_R_R_isNilOrContext_R : Cond.selects "StackRoomModel" y_R_isNilOrContext y_R_isNilOrContext ∈ gt := List.mem_filter.mpr ⟨List.mem_of_getElem? (i := 13) (by decide +kernel), rfl⟩
theorem se_R_R_contextIn_R : Cond.selects "StackRoomModel" y_R_contextIn y_R_contextIn ∈ gt := List.mem_filter.mpr ⟨List.mem_of_getElem? (i := 14) (by decide +kernel), rfl⟩
theorem se_R_R_settle_R : Cond.selects "StackRoomModel" y_R_settle y_R_settle ∈ gt := List.mem_filter.mpr ⟨List.mem_of_getElem? (i := 15) (by decide +kernel), rfl⟩
theorem se_R_R_homeOf_R : Cond.selects "StackRoomModel" y_R_homeOf y_R_homeOf ∈ gt := List.mem_filter.mpr ⟨List.mem_of_getElem? (i := 16) (by decide +kernel), rfl⟩
theorem se_R_R_pushes_R : Cond.selects "StackRoomModel" y_R_pushes y_R_pushes ∈ gt := List.mem_filter.mpr ⟨List.mem_of_getElem? (i := 17) (by decide +kernel), rfl⟩
theorem se_R_R_floorOf_R : Cond.selects "StackRoomModel" y_R_floorOf y_R_floorOf ∈ gt := List.mem_filter.mpr ⟨List.mem_of_getElem? (i := 18) (by decide +kernel), rfl⟩
theorem se_R_R_popped_R : Cond.selects "StackRoomModel" y_R_popped y_R_popped ∈ gt := List.mem_filter.mpr ⟨List.mem_of_getElem? (i := 19) (by decide +kernel), rfl⟩
theorem se_R_R_placeOf_R : Cond.selects "StackRoomModel" y_R_placeOf y_R_placeOf ∈ gt := List.mem_filter.mpr ⟨List.mem_of_getElem? (i := 20) (by decide +kernel), rfl⟩
theorem gi_base : GoodIn gt gt := fun w h => ⟨h, good_of_word (List.mem_filter.mp h).2⟩
theorem gi_ws {w : Cond} (h : w ∈ gt) : GoodIn gt (w :: gt) := fun v hv => (List.mem_cons.mp hv).elim (fun e => gi_base v (e ▸ h)) (gi_base v)
theorem gi_all {ws : List Cond} {hs : List Cond} (h : ∀ w ∈ hs, w ∈ gt) (hG : GoodIn gt ws) : GoodIn gt (hs ++ ws) := fun v hv => (List.mem_append.mp hv).elim (fun e => gi_base v (h v e)) (hG v)
abbrev w_S_init : List Cond := Cond.code y_S_init b_S_init 3 none :: gt
abbrev w_S_isWithin : List Cond := Cond.code y_S_isWithin b_S_isWithin 3 (some .boolean) :: gt
abbrev w_S_number : List Cond := Cond.code y_S_number b_S_number 3 (some .boolean) :: gt
abbrev w_S_isRegister : List Cond := Cond.code y_S_isRegister b_S_isRegister 1 (some .boolean) :: gt
abbrev w_S_isNumber : List Cond := Cond.code y_S_isNumber b_S_isNumber 1 (some .boolean) :: gt
abbrev w_W_init : List Cond := Cond.code y_W_init b_W_init 2 none :: gt
abbrev w_V_init : List Cond := Cond.code y_V_init b_V_init 1 none :: gt
abbrev w_S_move : List Cond := Cond.code y_S_move b_S_move 3 (some .boolean) :: gt
abbrev w_S_clear : List Cond := Cond.code y_S_clear b_S_clear 2 (some .boolean) :: gt
abbrev w_S_kind : List Cond := Cond.code y_S_kind b_S_kind 3 (some .int) :: gt
abbrev w_B_kindCode : List Cond := Cond.code y_B_kindCode b_B_kindCode 1 (some .int) :: gt
abbrev w_M_kindCode : List Cond := Cond.code y_M_kindCode b_M_kindCode 1 (some .int) :: gt
abbrev w_X_kindCode : List Cond := Cond.code y_X_kindCode b_X_kindCode 1 (some .int) :: gt
abbrev w_W_kindCode : List Cond := Cond.code y_W_kindCode b_W_kindCode 1 (some .int) :: gt
abbrev w_S_value : List Cond := Cond.code y_S_value b_S_value 3 (some .int) :: gt
abbrev w_T_shown : List Cond := Cond.code y_T_shown b_T_shown 1 (some .int) :: gt
abbrev w_W_shown : List Cond := Cond.code y_W_shown b_W_shown 1 (some .int) :: gt
abbrev w_S_method : List Cond := Cond.code y_S_method b_S_method 5 (some .int) :: gt
abbrev w_S_areMethodNumbers : List Cond := Cond.code y_S_areMethodNumbers b_S_areMethodNumbers 3 (some .boolean) :: gt
abbrev w_S_canBeMade : List Cond := Cond.code y_S_canBeMade b_S_canBeMade 3 (some .boolean) :: gt
abbrev w_S_survey : List Cond := Cond.code y_S_survey b_S_survey 4 none :: gt
abbrev w_S_reach : List Cond := Cond.code y_S_reach b_S_reach 3 none :: gt
abbrev w_C_wordsTaken : List Cond := Cond.code y_C_wordsTaken b_C_wordsTaken 1 (some .int) :: gt
abbrev w_B_headFields : List Cond := Cond.code y_B_headFields b_B_headFields 1 (some .int) :: gt
abbrev w_X_headFields : List Cond := Cond.code y_X_headFields b_X_headFields 1 (some .int) :: gt
abbrev w_M_wordsTaken : List Cond := Cond.code y_M_wordsTaken b_M_wordsTaken 1 (some .int) :: gt
abbrev w_C_entriesTaken : List Cond := Cond.code y_C_entriesTaken b_C_entriesTaken 1 (some .int) :: gt
abbrev w_M_entriesTaken : List Cond := Cond.code y_M_entriesTaken b_M_entriesTaken 1 (some .int) :: gt
abbrev w_S_reachPartsOf : List Cond := Cond.code y_S_reachPartsOf b_S_reachPartsOf 3 none :: gt
abbrev w_B_origin : List Cond := Cond.code y_B_origin b_B_origin 1 (some (.object "StackRoom$Thing")) :: gt
abbrev w_X_origin : List Cond := Cond.code y_X_origin b_X_origin 1 (some (.object "StackRoom$Thing")) :: gt
abbrev w_M_init : List Cond := Cond.code y_M_init b_M_init 4 none :: gt
abbrev w_T_init : List Cond := Cond.code y_T_init b_T_init 2 none :: gt
abbrev w_S_change : List Cond := Cond.code y_S_change b_S_change 6 (some .boolean) :: gt
abbrev w_S_methodIn : List Cond := Cond.code y_S_methodIn b_S_methodIn 4 (some (.object "StackRoom$Method")) :: gt
abbrev w_M_setNumbers : List Cond := Cond.code y_M_setNumbers b_M_setNumbers 3 none :: gt
abbrev w_S_context : List Cond := Cond.code y_S_context b_S_context 6 (some .int) :: gt
abbrev w_S_isSender : List Cond := Cond.code y_S_isSender b_S_isSender 2 (some .boolean) :: gt
abbrev w_S_contextIn : List Cond := Cond.code y_S_contextIn b_S_contextIn 4 (some (.object "StackRoom$Context")) :: gt
abbrev w_X_init : List Cond := Cond.code y_X_init b_X_init 4 none :: gt
abbrev w_C_init : List Cond := Cond.code y_C_init b_C_init 6 none :: gt
abbrev w_S_block : List Cond := Cond.code y_S_block b_S_block 7 (some .int) :: gt
abbrev w_B_homeContext : List Cond := Cond.code y_B_homeContext b_B_homeContext 1 (some (.object "StackRoom$MethodContext")) :: gt
abbrev w_X_homeContext : List Cond := Cond.code y_X_homeContext b_X_homeContext 1 (some (.object "StackRoom$MethodContext")) :: gt
abbrev w_B_init : List Cond := Cond.code y_B_init b_B_init 4 none :: gt
abbrev w_S_push : List Cond := Cond.code y_S_push b_S_push 4 (some .boolean) :: gt
abbrev w_C_isFull : List Cond := Cond.code y_C_isFull b_C_isFull 1 (some .boolean) :: gt
abbrev w_C_pushOne : List Cond := Cond.code y_C_pushOne b_C_pushOne 2 none :: gt
abbrev w_C_putField : List Cond := Cond.code y_C_putField b_C_putField 3 none :: gt
abbrev w_C_hasField : List Cond := Cond.code y_C_hasField b_C_hasField 2 (some .boolean) :: gt
abbrev w_S_fill : List Cond := Cond.code y_S_fill b_S_fill 6 (some .int) :: gt
abbrev w_S_areNumbers : List Cond := Cond.code y_S_areNumbers b_S_areNumbers 2 (some .boolean) :: gt
abbrev w_S_pop : List Cond := Cond.code y_S_pop b_S_pop 4 (some .boolean) :: gt
abbrev w_C_depthNow : List Cond := Cond.code y_C_depthNow b_C_depthNow 1 (some .int) :: gt
abbrev w_B_floorNow : List Cond := Cond.code y_B_floorNow b_B_floorNow 1 (some .int) :: gt
abbrev w_X_floorNow : List Cond := Cond.code y_X_floorNow b_X_floorNow 1 (some .int) :: gt
abbrev w_C_popOne : List Cond := Cond.code y_C_popOne b_C_popOne 2 (some (.object "StackRoom$Value")) :: gt
abbrev w_C_fieldAt : List Cond := Cond.code y_C_fieldAt b_C_fieldAt 2 (some (.object "StackRoom$Value")) :: gt
abbrev w_S_peek : List Cond := Cond.code y_S_peek b_S_peek 5 (some .boolean) :: gt
abbrev w_S_drop : List Cond := Cond.code y_S_drop b_S_drop 5 (some .boolean) :: gt
abbrev w_S_height : List Cond := Cond.code y_S_height b_S_height 3 (some .int) :: gt
abbrev w_S_room : List Cond := Cond.code y_S_room b_S_room 3 (some .int) :: gt
abbrev w_S_floor : List Cond := Cond.code y_S_floor b_S_floor 3 (some .int) :: gt
abbrev w_S_count : List Cond := Cond.code y_S_count b_S_count 4 (some .int) :: gt
abbrev w_S_home : List Cond := Cond.code y_S_home b_S_home 4 (some .boolean) :: gt
abbrev w_S_sender : List Cond := Cond.code y_S_sender b_S_sender 4 (some .boolean) :: gt
abbrev w_S_send : List Cond := Cond.code y_S_send b_S_send 4 (some .boolean) :: gt
abbrev w_S_kill : List Cond := Cond.code y_S_kill b_S_kill 5 (some .boolean) :: gt
abbrev w_S_temporary : List Cond := Cond.code y_S_temporary b_S_temporary 5 (some .boolean) :: gt
abbrev w_X_hasTemporary : List Cond := Cond.code y_X_hasTemporary b_X_hasTemporary 2 (some .boolean) :: gt
abbrev w_S_keep : List Cond := Cond.code y_S_keep b_S_keep 5 (some .boolean) :: gt
abbrev w_S_words : List Cond := Cond.code y_S_words b_S_words 1 (some .int) :: gt
abbrev w_S_entries : List Cond := Cond.code y_S_entries b_S_entries 1 (some .int) :: gt
abbrev w_S_contexts : List Cond := Cond.code y_S_contexts b_S_contexts 1 (some .int) :: gt
abbrev w_L_cell : List Cond := Cond.code y_L_cell b_L_cell 2 (some .int) :: gt
abbrev w_R_init : List Cond := Cond.code y_R_init b_R_init 3 none :: gt
abbrev w_R_words : List Cond := Cond.code y_R_words b_R_words 1 (some .int) :: gt
abbrev w_R_look : List Cond := Cond.code y_R_look b_R_look 4 none :: gt
abbrev w_R_see : List Cond := Cond.code y_R_see b_R_see 2 none :: gt
abbrev w_R_isObject : List Cond := Cond.code y_R_isObject b_R_isObject 1 (some .boolean) :: gt
abbrev w_R_entries : List Cond := Cond.code y_R_entries b_R_entries 1 (some .int) :: gt
abbrev w_R_contexts : List Cond := Cond.code y_R_contexts b_R_contexts 1 (some .int) :: gt
abbrev w_R_number : List Cond := Cond.code y_R_number b_R_number 3 (some .boolean) :: gt
abbrev w_R_isRegister : List Cond := Cond.code y_R_isRegister b_R_isRegister 1 (some .boolean) :: gt
abbrev w_R_isNumber : List Cond := Cond.code y_R_isNumber b_R_isNumber 1 (some .boolean) :: gt
abbrev w_R_numeral : List Cond := Cond.code y_R_numeral b_R_numeral 1 (some .int) :: gt
abbrev w_R_move : List Cond := Cond.code y_R_move b_R_move 3 (some .boolean) :: gt
abbrev w_R_clear : List Cond := Cond.code y_R_clear b_R_clear 2 (some .boolean) :: gt
abbrev w_R_kind : List Cond := Cond.code y_R_kind b_R_kind 3 (some .int) :: gt
abbrev w_R_value : List Cond := Cond.code y_R_value b_R_value 3 (some .int) :: gt
abbrev w_R_method : List Cond := Cond.code y_R_method b_R_method 6 (some .int) :: gt
abbrev w_R_isMethod : List Cond := Cond.code y_R_isMethod b_R_isMethod 3 (some .boolean) :: gt
abbrev w_R_make : List Cond := Cond.code y_R_make b_R_make 7 (some .int) :: gt
abbrev w_R_letGo : List Cond := Cond.code y_R_letGo b_R_letGo 4 none :: gt
abbrev w_R_give : List Cond := Cond.code y_R_give b_R_give 5 none :: gt
abbrev w_R_change : List Cond := Cond.code y_R_change b_R_change 6 (some .boolean) :: gt
abbrev w_R_objectIn : List Cond := Cond.code y_R_objectIn b_R_objectIn 5 (some .int) :: gt
abbrev w_R_context : List Cond := Cond.code y_R_context b_R_context 8 (some .int) :: gt
abbrev w_R_isNilOrContext : List Cond := Cond.code y_R_isNilOrContext b_R_isNilOrContext 2 (some .boolean) :: gt
abbrev w_R_contextIn : List Cond := Cond.code y_R_contextIn b_R_contextIn 2 (some .int) :: gt
abbrev w_R_settle : List Cond := Cond.code y_R_settle b_R_settle 7 (some .int) :: gt
abbrev w_R_block : List Cond := Cond.code y_R_block b_R_block 8 (some .int) :: gt
abbrev w_R_homeOf : List Cond := Cond.code y_R_homeOf b_R_homeOf 2 (some .int) :: gt
abbrev w_R_push : List Cond := Cond.code y_R_push b_R_push 4 (some .boolean) :: gt
abbrev w_R_pushes : List Cond := Cond.code y_R_pushes b_R_pushes 3 (some .boolean) :: gt
abbrev w_R_fill : List Cond := Cond.code y_R_fill b_R_fill 6 (some .int) :: gt
abbrev w_R_pop : List Cond := Cond.code y_R_pop b_R_pop 4 (some .boolean) :: gt
abbrev w_R_floorOf : List Cond := Cond.code y_R_floorOf b_R_floorOf 2 (some .int) :: gt
abbrev w_R_popped : List Cond := Cond.code y_R_popped b_R_popped 3 (some .int) :: gt
abbrev w_R_peek : List Cond := Cond.code y_R_peek b_R_peek 5 (some .boolean) :: gt
abbrev w_R_drop : List Cond := Cond.code y_R_drop b_R_drop 5 (some .boolean) :: gt
abbrev w_R_height : List Cond := Cond.code y_R_height b_R_height 3 (some .int) :: gt
abbrev w_R_room : List Cond := Cond.code y_R_room b_R_room 3 (some .int) :: gt
abbrev w_R_floor : List Cond := Cond.code y_R_floor b_R_floor 3 (some .int) :: gt
abbrev w_R_count : List Cond := Cond.code y_R_count b_R_count 3 (some .int) :: gt
abbrev w_R_home : List Cond := Cond.code y_R_home b_R_home 4 (some .boolean) :: gt
abbrev w_R_sender : List Cond := Cond.code y_R_sender b_R_sender 4 (some .boolean) :: gt
abbrev w_R_send : List Cond := Cond.code y_R_send b_R_send 4 (some .boolean) :: gt
abbrev w_R_kill : List Cond := Cond.code y_R_kill b_R_kill 5 (some .boolean) :: gt
abbrev w_R_temporary : List Cond := Cond.code y_R_temporary b_R_temporary 5 (some .boolean) :: gt
abbrev w_R_placeOf : List Cond := Cond.code y_R_placeOf b_R_placeOf 5 (some .int) :: gt
abbrev w_R_keep : List Cond := Cond.code y_R_keep b_R_keep 5 (some .boolean) :: gt
end
section
/-! WORLDS TOLD BY A FUNCTION: G says what stands at an address. Behind it stands a list, for the kit's rows. -/
abbrev gw_G : Type := Nat → Option va_E
def gw_A (G : gw_G) (sz : Nat) : Nat → Prop := fun q => (∃ e, G q = some e) ∨ sz ≤ q
def gw_P (D : va_G) (cl : List vw_C) (A : Nat → Prop) (G : gw_G) (H : Heap) : Prop :=
  ∃ ws : va_W, va_P D cl ws H ∧ va_D A ws ∧ ∀ (a : Nat) (e : va_E), G a = some e ↔ (a, e) ∈ ws
def gw_N : gw_G := fun _ => none
theorem gw_P.nil {D : va_G} {cl : List vw_C} {A : Nat → Prop} {H : Heap} : gw_P D cl A gw_N H := ⟨[], fun k q h => by simp at h, ⟨fun i j p q h => by simp at h, fun k q h => by simp at h⟩, fun a e => ⟨fun h => (by cases h), fun h => (by cases h)⟩⟩
theorem gw_P.at {D : va_G} {cl : List vw_C} {A : Nat → Prop} {G : gw_G} {H : Heap} (h : gw_P D cl A G H) {a : Nat} {e : va_E} (ha : G a = some e) : va_at D cl (a, e) H := by
  obtain ⟨ws, hP, hD, hw⟩ := h
  obtain ⟨k, hk⟩ := List.getElem?_of_mem ((hw a e).mp ha)
  exact hP k _ hk
theorem gw_P.one {D : va_G} {cl : List vw_C} {A : Nat → Prop} {G : gw_G} {H : Heap} (h : gw_P D cl A G H) {a : Nat} {e : va_E} (ha : G a = some e) : va_P D cl [(a, e)] H := by
  intro k q hk
  cases k with
  | zero => cases hk; exact h.at ha
  | succ k => simp at hk
theorem gw_P.two {D : va_G} {cl : List vw_C} {A : Nat → Prop} {G : gw_G} {H : Heap} (h : gw_P D cl A G H) {a b : Nat} {e f : va_E} (ha : G a = some e) (hb : G b = some f) : va_P D cl [(a, e), (b, f)] H := va_P.app (w1 := [(a, e)]) (w2 := [(b, f)]) (h.one ha) (h.one hb)
theorem gw_P.lt {D : va_G} {cl : List vw_C} {A : Nat → Prop} {G : gw_G} {H : Heap} (h : gw_P D cl A G H) {a : Nat} {e : va_E} (ha : G a = some e) : a < H.size := (h.at ha).lt
theorem gw_P.inA {D : va_G} {cl : List vw_C} {A : Nat → Prop} {G : gw_G} {H : Heap} (h : gw_P D cl A G H) {a : Nat} {e : va_E} (ha : G a = some e) : A a := by
  obtain ⟨ws, hP, hD, hw⟩ := h
  obtain ⟨k, hk⟩ := List.getElem?_of_mem ((hw a e).mp ha)
  exact hD.2 k _ hk
theorem gw_P.weaken {D : va_G} {cl : List vw_C} {A B : Nat → Prop} {G : gw_G} {H : Heap} (h : gw_P D cl A G H) (hAB : ∀ a e, G a = some e → A a → B a) : gw_P D cl B G H := by
  obtain ⟨ws, hP, hD, hw⟩ := h
  exact ⟨ws, hP, hD.weaken (fun k q hk hq => hAB q.1 q.2 ((hw q.1 q.2).mpr (List.mem_of_getElem? hk)) hq), hw⟩
theorem gw_P.self {D : va_G} {cl : List vw_C} {A : Nat → Prop} {G : gw_G} {H : Heap} {sz : Nat} (h : gw_P D cl A G H) : gw_P D cl (gw_A G sz) G H := h.weaken (fun _ e he _ => Or.inl ⟨e, he⟩)
theorem gw_P.triv {D : va_G} {cl : List vw_C} {A : Nat → Prop} {G : gw_G} {H : Heap} (h : gw_P D cl A G H) : gw_P D cl (fun _ => True) G H := h.weaken (fun _ _ _ _ => trivial)
theorem gw_P.kept {D : va_G} {cl : List vw_C} {A : Nat → Prop} {G : gw_G} {H H1 : Heap} (h : gw_P D cl A G H) (hk : ∀ a e, G a = some e → H1[a]? = H[a]?) : gw_P D cl A G H1 := by
  obtain ⟨ws, hP, hD, hw⟩ := h
  exact ⟨ws, hP.kept (fun k q hq => hk q.1 q.2 ((hw q.1 q.2).mpr (List.mem_of_getElem? hq))), hD, hw⟩
/-- another world's cells stay, where a call changed only this one's -/
theorem gw_P.frame {D : va_G} {cl : List vw_C} {A : Nat → Prop} {G K : gw_G} {H H1 : Heap} (h : gw_P D cl A K H) (hk : ∀ q : Nat, q < H.size → ¬ gw_A G H.size q → H1[q]? = H[q]?) (hd : ∀ a e, K a = some e → G a = none) : gw_P D cl A K H1 := h.kept (fun a e he => hk a (h.lt he) (fun z => by
  rcases z with ⟨e2, h2⟩ | h2
  · rw [hd a e he] at h2; cases h2
  · exact absurd (h.lt he) (by omega)))
theorem gw_set {A : Nat → Prop} {ws : va_W} {G : gw_G} {k a : Nat} {e0 e : va_E} (hD : va_D A ws) (hw : ∀ (a : Nat) (e : va_E), G a = some e ↔ (a, e) ∈ ws) (hk : ws[k]? = some (a, e0)) : ∀ (b : Nat) (f : va_E), va_up G a (some e) b = some f ↔ (b, f) ∈ ws.set k (a, e) := by
  have hl := (List.getElem?_eq_some_iff.mp hk).1
  intro b f
  by_cases hb : b = a
  · subst hb
    rw [va_up_self]
    constructor
    · intro h
      cases h
      exact List.mem_of_getElem? (List.getElem?_set_self hl)
    · intro h
      obtain ⟨j, hj⟩ := List.getElem?_of_mem h
      by_cases hjk : j = k
      · subst hjk
        rw [List.getElem?_set_self hl] at hj
        cases hj; rfl
      · rw [List.getElem?_set_ne (Ne.symm hjk)] at hj
        exact absurd (hD.1 j k _ _ hj hk rfl) hjk
  · rw [va_up_ne _ _ hb, hw]
    constructor
    · intro h
      obtain ⟨j, hj⟩ := List.getElem?_of_mem h
      have hjk : j ≠ k := fun e => by
        subst e
        rw [hk] at hj
        cases hj
        exact hb rfl
      exact List.mem_of_getElem? (by rw [List.getElem?_set_ne (Ne.symm hjk)]; exact hj)
    · intro h
      obtain ⟨j, hj⟩ := List.getElem?_of_mem h
      by_cases hjk : j = k
      · subst hjk
        rw [List.getElem?_set_self hl] at hj
        cases hj
        exact absurd rfl hb
      · rw [List.getElem?_set_ne (Ne.symm hjk)] at hj
        exact List.mem_of_getElem? hj
theorem gw_push {A : Nat → Prop} {ws : va_W} {G : gw_G} {q : Nat} {e : va_E} (hD : va_D A (ws ++ [(q, e)])) (hw : ∀ (a : Nat) (e : va_E), G a = some e ↔ (a, e) ∈ ws) : (∀ (b : Nat) (f : va_E), va_up G q (some e) b = some f ↔ (b, f) ∈ ws ++ [(q, e)]) ∧ G q = none := by
  have hq : ∀ f, (q, f) ∉ ws := fun f hf => by
    obtain ⟨j, hj⟩ := List.getElem?_of_mem hf
    have hl := (List.getElem?_eq_some_iff.mp hj).1
    have h1 : (ws ++ [(q, e)])[j]? = some (q, f) := by rw [List.getElem?_append_left hl]; exact hj
    have h2 : (ws ++ [(q, e)])[ws.length]? = some (q, e) := by rw [List.getElem?_append_right (Nat.le_refl _), Nat.sub_self]; rfl
    have := hD.1 _ _ _ _ h1 h2 rfl
    omega
  refine ⟨fun b f => ?_, ?_⟩
  · by_cases hb : b = q
    · subst hb
      rw [va_up_self]
      constructor
      · intro h
        cases h
        exact List.mem_append_right _ List.mem_cons_self
      · intro h
        rcases List.mem_append.mp h with h | h
        · exact absurd h (hq f)
        · cases List.mem_singleton.mp h
          rfl
    · rw [va_up_ne _ _ hb, hw]
      constructor
      · intro h
        exact List.mem_append_left _ h
      · intro h
        rcases List.mem_append.mp h with h | h
        · exact h
        · cases List.mem_singleton.mp h
          exact absurd rfl hb
  · cases hg : G q with
    | none => rfl
    | some f => exact absurd ((hw q f).mp hg) (hq f)
/-- two addresses with different things differ -/
theorem gw_ne {G : gw_G} {a b : Nat} {e f : va_E} (ha : G a = some e) (hb : G b = some f) (h : e ≠ f) : a ≠ b := fun z => by
  subst z
  rw [ha] at hb
  exact h (Option.some.inj hb)
theorem gw_neN {G : gw_G} {a b : Nat} {e : va_E} (ha : G a = some e) (hb : G b = none) : a ≠ b := fun z => by
  subst z
  rw [ha] at hb
  cases hb
theorem gw_up {G : gw_G} {a b : Nat} {e : va_E} {v : Option va_E} (hb : G b = some e) (h : b ≠ a) : va_up G a v b = some e := by rw [va_up_ne _ _ h]; exact hb
theorem gw_join {D : va_G} {cl : List vw_C} {A : Nat → Prop} {G G1 : gw_G} {H0 H H1 : Heap} {locs : List Loc} (hP : gw_P D cl A G H) (hS : va_S A H0 H locs) (hA : ∀ q, H0.size ≤ q → A q) (h1 : gw_P D cl (gw_A G H.size) G1 H1) : gw_P D cl A G1 H1 := h1.weaken (fun a e _ h => by
  rcases h with ⟨f, hf⟩ | h
  · exact hP.inA hf
  · exact hA a (Nat.le_trans hS.1 h))
theorem gw_free {D : va_G} {cl : List vw_C} {A : Nat → Prop} {G : gw_G} {H0 H : Heap} {locs : List Loc} (hP : gw_P D cl A G H) (hS : va_S A H0 H locs) (hA : ∀ q, H0.size ≤ q → A q) : ∀ q, gw_A G H.size q → A q := fun q h => by
  rcases h with ⟨f, hf⟩ | h
  · exact hP.inA hf
  · exact hA q (Nat.le_trans hS.1 h)
section GWR
variable {p : Program} {l : Launch} {e : Env} {R : Room} {s : State} {m : MethodId} {args : Array Value} {below : List Frame} {meth : Method} {c : Code} {H : Heap} {locs : List Loc} {cells slots : Nat} {Q : State → Prop}
variable {cc : ByteArray} {pc : Nat} {ls : Array Slot} {rest : List Value} {D : va_G} {cl : List vw_C} {A : Nat → Prop} {a : Nat} {tys : List (ClassId × FieldType)} {G : gw_G} {H0 : Heap}
theorem gw_put (hexec : p.tables.exec = Jvm.exec) (hb : c.code = cc) {own ref C : String} {T : u_T} {N ci index : Nat} {Ts : List Cond} (hts : ∀ w ∈ Ts, w.before args s = true) (hin : ∀ w ∈ u_ws C T N, w ∈ Ts) (ty0 : Nat → FieldType) (hty : ∀ k, k < N → parseFieldDescriptor (T k).2.2.1 = some (ty0 k)) (hnm : ∀ a, a < N → ∀ b, b < N → a ≠ b → (T a).2.1 ≠ (T b).2.1) (hown : s.vm.findClass own = some m.cls) (hK : va_K D cl tys s) (hP : gw_P D cl A G H) (hS0 : va_S A H0 H locs) {fs : List Value} (he : G a = some (.inr (ci, fs))) (hc : cl[ci]? = some (C, T, N)) (k : Nat) (hk : k < N) (hlink : (Cond.fieldLink own index ref (T k).2.1 (T k).2.2.1).before args s = true) (hsame : ∀ x, s.fieldFound? (T k).1 (T k).2.1 (T k).2.2.1 = some x → s.fieldFound? ref (T k).2.1 (T k).2.2.1 = some x) (hfin : (T k).2.2.2 = false) {ty : FieldType} {v : Value} (hd : parseFieldDescriptor (T k).2.2.1 = some ty) (hn : narrow ty v = v) (hfit : fits ty v = true) (hl : k < fs.length)
    (hdg : decode cc pc = .ok (.putfield index, 3)) (kk : ∀ (H1 : Heap) (locs1 : List Loc), gw_P D cl A (va_up G a (some (.inr (ci, fs.set k v)))) H1 → va_S A H0 H1 locs1 → W p l e R s m args below meth c H1 locs1 cells slots Q (F0 m (pc + 3) ls rest)) : W p l e R s m args below meth c H locs cells slots Q (F0 m pc ls (v :: .ref a :: rest)) := by
  obtain ⟨ws, hP, hD, hw⟩ := hP
  obtain ⟨q0, hq0⟩ := List.getElem?_of_mem ((hw a _).mp he)
  exact va_put hexec hb hts hin ty0 hty hnm hown hK hP hD hS0 q0 hq0 hc k hk hlink hsame hfin hd hn hfit hl hdg (fun H1 locs1 hP1 hD1 hS1 => kk H1 locs1 ⟨_, hP1, hD1, gw_set hD hw hq0⟩ hS1)
theorem gw_putN (hexec : p.tables.exec = Jvm.exec) (hb : c.code = cc) {own ref C host : String} {T : u_T} {N ci index : Nat} {Ts : List Cond} (hts : ∀ w ∈ Ts, w.before args s = true) (hin : ∀ w ∈ u_ws C T N, w ∈ Ts) (ty0 : Nat → FieldType) (hty : ∀ k, k < N → parseFieldDescriptor (T k).2.2.1 = some (ty0 k)) (hnm : ∀ a, a < N → ∀ b, b < N → a ≠ b → (T a).2.1 ≠ (T b).2.1) (hown : s.vm.findClass own = some m.cls) (hK : va_K D cl tys s) (hP : gw_P D cl A G H) (hS0 : va_S A H0 H locs) {fs : List Value} (he : G a = some (.inr (ci, fs))) (hc : cl[ci]? = some (C, T, N)) (k : Nat) (hk : k < N) (hlink : (Cond.fieldLinkNest own index ref (T k).2.1 (T k).2.2.1 host).before args s = true) (hsame : ∀ x, s.fieldFound? (T k).1 (T k).2.1 (T k).2.2.1 = some x → s.fieldFound? ref (T k).2.1 (T k).2.2.1 = some x) (hfin : (T k).2.2.2 = false) {ty : FieldType} {v : Value} (hd : parseFieldDescriptor (T k).2.2.1 = some ty) (hn : narrow ty v = v) (hfit : fits ty v = true) (hl : k < fs.length)
    (hdg : decode cc pc = .ok (.putfield index, 3)) (kk : ∀ (H1 : Heap) (locs1 : List Loc), gw_P D cl A (va_up G a (some (.inr (ci, fs.set k v)))) H1 → va_S A H0 H1 locs1 → W p l e R s m args below meth c H1 locs1 cells slots Q (F0 m (pc + 3) ls rest)) : W p l e R s m args below meth c H locs cells slots Q (F0 m pc ls (v :: .ref a :: rest)) := by
  obtain ⟨ws, hP, hD, hw⟩ := hP
  obtain ⟨q0, hq0⟩ := List.getElem?_of_mem ((hw a _).mp he)
  exact va_putN hexec hb hts hin ty0 hty hnm hown hK hP hD hS0 q0 hq0 hc k hk hlink hsame hfin hd hn hfit hl hdg (fun H1 locs1 hP1 hD1 hS1 => kk H1 locs1 ⟨_, hP1, hD1, gw_set hD hw hq0⟩ hS1)
theorem gw_putF (hexec : p.tables.exec = Jvm.exec) (hb : c.code = cc) {own ref C : String} {T : u_T} {N ci index : Nat} {Ts : List Cond} (hts : ∀ w ∈ Ts, w.before args s = true) (hin : ∀ w ∈ u_ws C T N, w ∈ Ts) (ty0 : Nat → FieldType) (hty : ∀ k, k < N → parseFieldDescriptor (T k).2.2.1 = some (ty0 k)) (hnm : ∀ a, a < N → ∀ b, b < N → a ≠ b → (T a).2.1 ≠ (T b).2.1) (hown : s.vm.findClass own = some m.cls) (hK : va_K D cl tys s) (hP : gw_P D cl A G H) (hS0 : va_S A H0 H locs) {fs : List Value} (he : G a = some (.inr (ci, fs))) (hc : cl[ci]? = some (C, T, N)) (k : Nat) (hk : k < N) (hlink : (Cond.fieldLink own index ref (T k).2.1 (T k).2.2.1).before args s = true) (hsame : ∀ x, s.fieldFound? (T k).1 (T k).2.1 (T k).2.2.1 = some x → s.fieldFound? ref (T k).2.1 (T k).2.2.1 = some x) (hfin : (T k).2.2.2 = true) (hin2 : meth.name = "<init>") (hdecl : (T k).1 = own) {ty : FieldType} {v : Value} (hd : parseFieldDescriptor (T k).2.2.1 = some ty) (hn : narrow ty v = v) (hfit : fits ty v = true) (hl : k < fs.length)
    (hdg : decode cc pc = .ok (.putfield index, 3)) (kk : ∀ (H1 : Heap) (locs1 : List Loc), gw_P D cl A (va_up G a (some (.inr (ci, fs.set k v)))) H1 → va_S A H0 H1 locs1 → W p l e R s m args below meth c H1 locs1 cells slots Q (F0 m (pc + 3) ls rest)) : W p l e R s m args below meth c H locs cells slots Q (F0 m pc ls (v :: .ref a :: rest)) := by
  obtain ⟨ws, hP, hD, hw⟩ := hP
  obtain ⟨q0, hq0⟩ := List.getElem?_of_mem ((hw a _).mp he)
  exact va_putF hexec hb hts hin ty0 hty hnm hown hK hP hD hS0 q0 hq0 hc k hk hlink hsame hfin hin2 hdecl hd hn hfit hl hdg (fun H1 locs1 hP1 hD1 hS1 => kk H1 locs1 ⟨_, hP1, hD1, gw_set hD hw hq0⟩ hS1)
theorem gw_iast (hexec : p.tables.exec = Jvm.exec) (hb : c.code = cc) (hK : va_K D cl tys s) (hP : gw_P D cl A G H) (hS : va_S A H0 H locs) (t0 : Nat) {cA : ClassId} {n : Nat} {f : Nat → Int32} (ha : G a = some (.inl (cA, n, .inl f))) (ht : tys[t0]? = some (cA, .int)) {i : Int32} {x : Int32} (hin : vp_in i n) (hdg : decode cc pc = .ok (.iastore, 1))
    (kk : ∀ (H1 : Heap) (locs1 : List Loc), gw_P D cl A (va_up G a (some (.inl (cA, n, .inl (upd f i.toNatClampNeg x))))) H1 → va_S A H0 H1 locs1 → W p l e R s m args below meth c H1 locs1 cells slots Q (F0 m (pc + 1) ls rest)) : W p l e R s m args below meth c H locs cells slots Q (F0 m pc ls (.int x :: .int i :: .ref a :: rest)) := by
  obtain ⟨ws, hP, hD, hw⟩ := hP
  obtain ⟨q0, hq0⟩ := List.getElem?_of_mem ((hw a _).mp ha)
  exact va_iast hexec hb hK hP hD hS q0 t0 hq0 ht hin hdg (fun H1 locs1 hP1 hD1 hS1 => kk H1 locs1 ⟨_, hP1, hD1, gw_set hD hw hq0⟩ hS1)
theorem gw_astqM (hexec : p.tables.exec = Jvm.exec) (hb : c.code = cc) (hK : va_K D cl tys s) (hP : gw_P D cl A G H) (hS : va_S A H0 H locs) (t0 : Nat) {E : String} {cA : ClassId} {n v : Nat} {f : Nat → Option Nat} (ha : G a = some (.inl (cA, n, .inr (.inr (.inr (.inr f)))))) (ht : tys[t0]? = some (cA, .object E)) (hr : va_Any E s H v) {i : Int32} (hin : vp_in i n) (hdg : decode cc pc = .ok (.aastore, 1))
    (kk : ∀ (H1 : Heap) (locs1 : List Loc), gw_P D cl A (va_up G a (some (.inl (cA, n, .inr (.inr (.inr (.inr (va_up f i.toNatClampNeg (some v))))))))) H1 → va_S A H0 H1 locs1 → W p l e R s m args below meth c H1 locs1 cells slots Q (F0 m (pc + 1) ls rest)) : W p l e R s m args below meth c H locs cells slots Q (F0 m pc ls (.ref v :: .int i :: .ref a :: rest)) := by
  obtain ⟨ws, hP, hD, hw⟩ := hP
  obtain ⟨q0, hq0⟩ := List.getElem?_of_mem ((hw a _).mp ha)
  exact va_astqM hexec hb hK hP hD hS q0 t0 hq0 ht hr hin hdg (fun H1 locs1 hP1 hD1 hS1 => kk H1 locs1 ⟨_, hP1, hD1, gw_set hD hw hq0⟩ hS1)
theorem gw_astqN (hexec : p.tables.exec = Jvm.exec) (hb : c.code = cc) (hK : va_K D cl tys s) (hP : gw_P D cl A G H) (hS : va_S A H0 H locs) (t0 : Nat) {cA : ClassId} {C : String} {n : Nat} {f : Nat → Option Nat} (ha : G a = some (.inl (cA, n, .inr (.inr (.inr (.inr f)))))) (ht : tys[t0]? = some (cA, .object C)) {i : Int32} (hin : vp_in i n) (hdg : decode cc pc = .ok (.aastore, 1))
    (kk : ∀ (H1 : Heap) (locs1 : List Loc), gw_P D cl A (va_up G a (some (.inl (cA, n, .inr (.inr (.inr (.inr (va_up f i.toNatClampNeg none)))))))) H1 → va_S A H0 H1 locs1 → W p l e R s m args below meth c H1 locs1 cells slots Q (F0 m (pc + 1) ls rest)) : W p l e R s m args below meth c H locs cells slots Q (F0 m pc ls (.null :: .int i :: .ref a :: rest)) := by
  obtain ⟨ws, hP, hD, hw⟩ := hP
  obtain ⟨q0, hq0⟩ := List.getElem?_of_mem ((hw a _).mp ha)
  exact va_astqN hexec hb hK hP hD hS q0 t0 hq0 ht hin hdg (fun H1 locs1 hP1 hD1 hS1 => kk H1 locs1 ⟨_, hP1, hD1, gw_set hD hw hq0⟩ hS1)
theorem gw_new (hexec : p.tables.exec = Jvm.exec) (hb : c.code = cc) {own C : String} {T : u_T} {N ci index : Nat} {Ts : List Cond} (hts : ∀ w ∈ Ts, w.before args s = true) (hin : ∀ w ∈ u_ws C T N, w ∈ Ts) (ty : Nat → FieldType) (hty : ∀ k, k < N → parseFieldDescriptor (T k).2.2.1 = some (ty k)) (hown : s.vm.findClass own = some m.cls) (hcl : (Cond.classLink own index C).before args s = true) (hinst : (Cond.instantiable C N).before args s = true) (hini : (Cond.initialized C).before args s = true)
    (hK : va_K D cl tys s) (hP : gw_P D cl A G H) (hS : va_S A H0 H locs) (hA : ∀ q, H0.size ≤ q → A q) (hc : cl[ci]? = some (C, T, N)) {fs : List Value} (hfs : ∀ j, j < N → defaultValue (ty j) = vp_V fs j) (hcells : cells + 1 ≤ R.cells) (hslots : slots + N ≤ R.slots) (hdg : decode cc pc = .ok (.new index, 3))
    (kk : ∀ (q : Nat) (H1 : Heap), gw_P D cl A (va_up G q (some (.inr (ci, fs)))) H1 → G q = none → va_S A H0 H1 locs →
      W p l e R s m args below meth c H1 locs (cells + 1) (slots + N) Q (F0 m (pc + 3) ls (.ref q :: rest))) : W p l e R s m args below meth c H locs cells slots Q (F0 m pc ls rest) := by
  obtain ⟨ws, hP, hD, hw⟩ := hP
  exact va_new hexec hb hts hin ty hty hown hcl hinst hini hK hP hD hS hA hc hfs hcells hslots hdg (fun q H1 hP1 hD1 hS1 => kk q H1 ⟨_, hP1, hD1, (gw_push hD1 hw).1⟩ (gw_push hD1 hw).2 hS1)
theorem gw_newq (hexec : p.tables.exec = Jvm.exec) (hb : c.code = cc) {own C : String} {index : Nat} (hown : s.vm.findClass own = some m.cls) (hclink : (Cond.classLink own index C).before args s = true) (hover : va_AO C s) (hK : va_K D cl tys s) (hP : gw_P D cl A G H) (hS : va_S A H0 H locs) (hA : ∀ q, H0.size ≤ q → A q)
    {n : Int32} {N' : Nat} (hn : ¬ n < 0) (hN : n.toNatClampNeg = N') (hbytes : N' * 4 ≤ 536870912) (hcells : cells + 1 ≤ R.cells) (hslots : slots + N' ≤ R.slots) (hdg : decode cc pc = .ok (.anewarray index, 3))
    (kk : ∀ (q : Nat) (cA : ClassId) (H1 : Heap), va_K D cl (tys ++ [(cA, .object C)]) s → gw_P D cl A (va_up G q (some (.inl (cA, N', .inr (.inr (.inr (.inr (fun _ => none)))))))) H1 → G q = none → va_S A H0 H1 locs →
      W p l e R s m args below meth c H1 locs (cells + 1) (slots + N') Q (F0 m (pc + 3) ls (.ref q :: rest))) : W p l e R s m args below meth c H locs cells slots Q (F0 m pc ls (.int n :: rest)) := by
  obtain ⟨ws, hP, hD, hw⟩ := hP
  exact va_newq hexec hb hown hclink hover hK hP hD hS hA hn hN hbytes hcells hslots hdg (fun q cA H1 hK1 hP1 hD1 hS1 => kk q cA H1 hK1 ⟨_, hP1, hD1, (gw_push hD1 hw).1⟩ (gw_push hD1 hw).2 hS1)
theorem gw_newa (hexec : p.tables.exec = Jvm.exec) (hb : c.code = cc) {atype : ArrayType} (harr : (Cond.arrayClass (newarray.typeOf atype)).before args s = true) {ty : FieldType} (hty : newarray.typeOf atype = ty) (hK : va_K D cl tys s) (hP : gw_P D cl A G H) (hS : va_S A H0 H locs) (hA : ∀ q, H0.size ≤ q → A q)
    {n : Int32} {N' : Nat} {a0 : vp_A} (ha : ∀ cA : ClassId, vp_cell cA a0 = arrV cA N' (fun _ => defaultValue ty)) (hn : ¬ n < 0) (hN : n.toNatClampNeg = N') (hbytes : N' * componentBytes ty ≤ 536870912) (hcells : cells + 1 ≤ R.cells) (hslots : slots + N' ≤ R.slots) (hdg : decode cc pc = .ok (.newarray atype, 2))
    (kk : ∀ (q : Nat) (cA : ClassId) (H1 : Heap), va_K D cl (tys ++ [(cA, ty)]) s → gw_P D cl A (va_up G q (some (.inl (cA, a0)))) H1 → G q = none → va_S A H0 H1 locs →
      W p l e R s m args below meth c H1 locs (cells + 1) (slots + N') Q (F0 m (pc + 2) ls (.ref q :: rest))) : W p l e R s m args below meth c H locs cells slots Q (F0 m pc ls (.int n :: rest)) := by
  obtain ⟨ws, hP, hD, hw⟩ := hP
  exact va_newa hexec hb harr hty hK hP hD hS hA ha hn hN hbytes hcells hslots hdg (fun q cA H1 hK1 hP1 hD1 hS1 => kk q cA H1 hK1 ⟨_, hP1, hD1, (gw_push hD1 hw).1⟩ (gw_push hD1 hw).2 hS1)
theorem gw_recv {ci : Nat} {q : vw_C} {fs : List Value} (hK : va_K D cl tys s) (hP : gw_P D cl A G H) (hc : cl[ci]? = some q) (he : G a = some (.inr (ci, fs))) : ∃ cell : Cell, H[a]? = some cell ∧ cell.vm.isStatics = false ∧ s.vm.findClass q.1 = some cell.cls := va_recv (q0 := 0) hK (hP.one he) hc rfl
theorem gw_any {ci : Nat} {fs : List Value} {r : vw_C} {E : String} (hK : va_K D cl tys s) (hP : gw_P D cl A G H) (he : G a = some (.inr (ci, fs))) (hc : cl[ci]? = some r) (hasg : ∀ comp c0 : ClassId, s.vm.findClass E = some comp → s.vm.findClass r.1 = some c0 → s.vm.assignable c0 comp = true) : va_Any E s H a := va_rAny (q0 := 0) hK (hP.one he) rfl hc hasg
end GWR
/-- what a method is told beside its words: the nest's links, what is declared, castable, not castable -/
def nK (U : State) : Prop := (∀ w ∈ nt, va_Nw w U) ∧ va_AO "StackRoom$Value" U ∧ va_AO "StackRoom$Thing" U ∧ va_Nc "StackRoom$Whole" "StackRoom$Thing" U ∧ va_Nc "StackRoom$Whole" "StackRoom$Context" U ∧ va_Nc "StackRoom$Method" "StackRoom$Context" U ∧ va_Nc "StackRoom$Whole" "StackRoom$Method" U ∧ va_Nc "StackRoom$MethodContext" "StackRoom$Method" U ∧ va_Nc "StackRoom$BlockContext" "StackRoom$Method" U ∧ va_Nc "StackRoom$Whole" "StackRoom$BlockContext" U ∧ va_Nc "StackRoom$Method" "StackRoom$BlockContext" U ∧ va_Nc "StackRoom$MethodContext" "StackRoom$BlockContext" U
theorem nK.warm {s U : State} (hW : s.WarmedH U.vm) (h : nK s) : nK U := by
  obtain ⟨h0, ha, hb, h1, h2, h3, h4, h5, h6, h7, h8, h9⟩ := h
  refine ⟨fun w hw => ?_, ha.moved hW.alike, hb.moved hW.alike, h1.moved hW.alike, h2.moved hW.alike, h3.moved hW.alike, h4.moved hW.alike, h5.moved hW.alike, h6.moved hW.alike, h7.moved hW.alike, h8.moved hW.alike, h9.moved hW.alike⟩
  have hm := (List.mem_filter.mp hw).2
  have hs := h0 w hw
  cases w <;> first | exact va_Nw.warmF hW hs | exact va_Nw.warmM hW hs | exact va_Nw.warmD hW hs | exact va_Nw.warmC hW hs | cases hm
theorem nK.same {s U : State} (hv : s.vm = U.vm) (h : nK s) : nK U := by
  obtain ⟨h0, ha, hb, h1, h2, h3, h4, h5, h6, h7, h8, h9⟩ := h
  have al : s.vm.Alike U.vm := hv ▸ Vm.Alike.refl s.vm
  refine ⟨fun w hw => va_Nw.same ?_ hv (h0 w hw), ha.moved al, hb.moved al, h1.moved al, h2.moved al, h3.moved al, h4.moved al, h5.moved al, h6.moved al, h7.moved al, h8.moved al, h9.moved al⟩
  have hm := (List.mem_filter.mp hw).2
  cases w <;> first | rfl | cases hm
abbrev kK (D : va_G) (tys : List (ClassId × FieldType)) (U : State) : Prop := va_K D vwCl tys U ∧ nK U
/-- a method's start, with the world G; its end -/
def g_pre (D : va_G) (tys : List (ClassId × FieldType)) (G : gw_G) (sz : Nat) (av : List Value) : Array Value → State → Prop := va_Pc av (fun U => U.heap.size = sz ∧ gw_P D vwCl (fun _ => True) G U.heap ∧ kK D tys U)
abbrev g_end (D : va_G) (G : gw_G) (sz : Nat) : gw_G → State → Prop := fun G1 t => gw_P D vwCl (gw_A G sz) G1 t.heap
theorem g_blind {D : va_G} {tys : List (ClassId × FieldType)} {G : gw_G} {sz : Nat} {av : List Value} : FrameBlind (g_pre D tys G sz av) := fun a U g mk q => ⟨q.1, q.2.1, q.2.2.1, va_K.moved (u := U) (U := U.calling g mk a) (Vm.Alike.refl U.vm) q.2.2.2.1, nK.same (s := U) (U := U.calling g mk a) rfl q.2.2.2.2⟩
theorem g_preS {D : va_G} {tys : List (ClassId × FieldType)} {A : Nat → Prop} {G : gw_G} {s : State} {H : Heap} {As : List Value} (hK : kK D tys s) (hP : gw_P D vwCl A G H) : PreS s H (g_pre D tys G H.size As) As := ⟨g_blind, fun U hU hW => ⟨rfl, by rw [hU], by rw [hU]; exact hP.triv, va_K.moved hW.alike hK.1, hK.2.warm hW⟩⟩
theorem g_preV {D : va_G} {tys : List (ClassId × FieldType)} {A : Nat → Prop} {G : gw_G} {s : State} {H : Heap} {As : List Value} {b ci : Nat} {q : vw_C} {fs : List Value} (hK : kK D tys s) (hP : gw_P D vwCl A G H) (hc : vwCl[ci]? = some q) (he : G b = some (.inr (ci, fs))) : PreV s H q.1 b (g_pre D tys G H.size (.ref b :: As)) As := ⟨g_blind, gw_recv hK.1 hP hc he, fun U hU hW => ⟨rfl, by rw [hU], by rw [hU]; exact hP.triv, va_K.moved hW.alike hK.1, hK.2.warm hW⟩⟩
theorem v_blind {av : List Value} : FrameBlind (va_Pc av (fun _ => True)) := fun _ _ _ _ q => q
theorem v_preS {s : State} {H : Heap} {As : List Value} : PreS s H (va_Pc As (fun _ => True)) As := ⟨v_blind, fun _ _ _ => ⟨rfl, trivial⟩⟩
section LQ
variable {p : Program} {l : Launch} {e : Env} {R : Room} {s : State} {m : MethodId} {args : Array Value} {below : List Frame} {meth : Method} {c : Code} {H : Heap} {locs : List Loc} {cells slots : Nat} {Q : State → Prop}
variable {cc : ByteArray} {pc : Nat} {ls : Array Slot} {rest : List Value} {D : va_G} {cl : List vw_C} {A : Nat → Prop} {a : Nat} {tys : List (ClassId × FieldType)} {G : gw_G} {H0 : Heap}
theorem gw_astqO (hexec : p.tables.exec = Jvm.exec) (hb : c.code = cc) (hK : va_K D cl tys s) (hP : gw_P D cl A G H) (hS : va_S A H0 H locs) (t0 : Nat) {E : String} {cA : ClassId} {n : Nat} {v : Option Nat} {f : Nat → Option Nat} (ha : G a = some (.inl (cA, n, .inr (.inr (.inr (.inr f)))))) (ht : tys[t0]? = some (cA, .object E)) (hr : ∀ y, v = some y → va_Any E s H y) {i : Int32} (hin : vp_in i n) (hdg : decode cc pc = .ok (.aastore, 1))
    (kk : ∀ (H1 : Heap) (locs1 : List Loc), gw_P D cl A (va_up G a (some (.inl (cA, n, .inr (.inr (.inr (.inr (va_up f i.toNatClampNeg v)))))))) H1 → va_S A H0 H1 locs1 → W p l e R s m args below meth c H1 locs1 cells slots Q (F0 m (pc + 1) ls rest)) : W p l e R s m args below meth c H locs cells slots Q (F0 m pc ls (va_rf v :: .int i :: .ref a :: rest)) := by
  cases v with
  | none => exact gw_astqN hexec hb hK hP hS t0 ha ht hin hdg kk
  | some y => exact gw_astqM hexec hb hK hP hS t0 ha ht (hr y rfl) hin hdg kk
end LQ
end
section
/-! THE STATE that the document speaks of, as a mathematical value; what is reachable, and what it takes. -/
/-- a value: nil, a number, an object by its identity -/
abbrev sV : Type := Option (Int32 ⊕ Nat)
/-- registers; how many were made; an object's kind (0 none, 2 a method, 3 a method context, 4 a block context); a method's T and D; a context's sender, dead, height, room, fields, origin (its method or home), count -/
abbrev sS : Type := (Nat → sV) × Nat × (Nat → Nat) × (Nat → Nat) × (Nat → Nat) × (Nat → Option Nat) × (Nat → Int32) × (Nat → Nat) × (Nat → Nat) × (Nat → Nat → sV) × (Nat → Nat) × (Nat → Int32)
def s_rg (σ : sS) : Nat → sV := σ.1
def s_md (σ : sS) : Nat := σ.2.1
def s_kd (σ : sS) : Nat → Nat := σ.2.2.1
def s_tt (σ : sS) : Nat → Nat := σ.2.2.2.1
def s_dd (σ : sS) : Nat → Nat := σ.2.2.2.2.1
def s_sn (σ : sS) : Nat → Option Nat := σ.2.2.2.2.2.1
def s_de (σ : sS) : Nat → Int32 := σ.2.2.2.2.2.2.1
def s_ht (σ : sS) : Nat → Nat := σ.2.2.2.2.2.2.2.1
def s_rm (σ : sS) : Nat → Nat := σ.2.2.2.2.2.2.2.2.1
def s_fl (σ : sS) : Nat → Nat → sV := σ.2.2.2.2.2.2.2.2.2.1
def s_og (σ : sS) : Nat → Nat := σ.2.2.2.2.2.2.2.2.2.2.1
def s_ct (σ : sS) : Nat → Int32 := σ.2.2.2.2.2.2.2.2.2.2.2
def s_mk (rg : Nat → sV) (md : Nat) (kd tt dd : Nat → Nat) (sn : Nat → Option Nat) (de : Nat → Int32) (ht rm : Nat → Nat) (fl : Nat → Nat → sV) (og : Nat → Nat) (ct : Nat → Int32) : sS := (rg, md, kd, tt, dd, sn, de, ht, rm, fl, og, ct)
/-- the fields of one object, one of them another -/
def s_upF (fl : Nat → Nat → sV) (i k : Nat) (v : sV) : Nat → Nat → sV := va_up fl i (va_up (fl i) k v)
-- the elementary changes
def s_setR (σ : sS) (k : Nat) (v : sV) : sS := s_mk (va_up (s_rg σ) k v) (s_md σ) (s_kd σ) (s_tt σ) (s_dd σ) (s_sn σ) (s_de σ) (s_ht σ) (s_rm σ) (s_fl σ) (s_og σ) (s_ct σ)
def s_setT (σ : sS) (i t d : Nat) : sS := s_mk (s_rg σ) (s_md σ) (s_kd σ) (va_up (s_tt σ) i t) (va_up (s_dd σ) i d) (s_sn σ) (s_de σ) (s_ht σ) (s_rm σ) (s_fl σ) (s_og σ) (s_ct σ)
def s_setS (σ : sS) (i : Nat) (v : Option Nat) : sS := s_mk (s_rg σ) (s_md σ) (s_kd σ) (s_tt σ) (s_dd σ) (va_up (s_sn σ) i v) (s_de σ) (s_ht σ) (s_rm σ) (s_fl σ) (s_og σ) (s_ct σ)
def s_setD (σ : sS) (i : Nat) (v : Int32) : sS := s_mk (s_rg σ) (s_md σ) (s_kd σ) (s_tt σ) (s_dd σ) (s_sn σ) (va_up (s_de σ) i v) (s_ht σ) (s_rm σ) (s_fl σ) (s_og σ) (s_ct σ)
def s_setF (σ : sS) (i k : Nat) (v : sV) : sS := s_mk (s_rg σ) (s_md σ) (s_kd σ) (s_tt σ) (s_dd σ) (s_sn σ) (s_de σ) (s_ht σ) (s_rm σ) (s_upF (s_fl σ) i k v) (s_og σ) (s_ct σ)
def s_setH (σ : sS) (i h : Nat) : sS := s_mk (s_rg σ) (s_md σ) (s_kd σ) (s_tt σ) (s_dd σ) (s_sn σ) (s_de σ) (va_up (s_ht σ) i h) (s_rm σ) (s_fl σ) (s_og σ) (s_ct σ)
def s_push (σ : sS) (i : Nat) (v : sV) : sS := s_setH (s_setF σ i (s_ht σ i) v) i (s_ht σ i + 1)
def s_pop (σ : sS) (i : Nat) : sS := s_setF (s_setH σ i (s_ht σ i - 1)) i (s_ht σ i - 1) none
def s_newM (σ : sS) (t d : Nat) : sS := s_mk (s_rg σ) (s_md σ + 2) (va_up (s_kd σ) (s_md σ + 2) 2) (va_up (s_tt σ) (s_md σ + 2) t) (va_up (s_dd σ) (s_md σ + 2) d) (s_sn σ) (s_de σ) (s_ht σ) (s_rm σ) (s_fl σ) (s_og σ) (s_ct σ)
-- what a register has
def s_okR (r : Int32) : Prop := 0 ≤ r ∧ r ≤ 15
def s_okV (v : Int32) : Prop := -1073741824 ≤ v ∧ v ≤ 1073741823
def s_okM (a t d : Int32) : Prop := (0 ≤ a ∧ a ≤ 15) ∧ (a ≤ t ∧ t ≤ 31) ∧ (0 ≤ d ∧ d ≤ 63)
def s_isC (σ : sS) (i : Nat) : Prop := s_kd σ i = 3 ∨ s_kd σ i = 4
/-- register r has the method i -/
def s_M (σ : sS) (r : Int32) (i : Nat) : Prop := s_okR r ∧ s_rg σ r.toNatClampNeg = some (.inr i) ∧ s_kd σ i = 2
/-- register r has the context i -/
def s_C (σ : sS) (r : Int32) (i : Nat) : Prop := s_okR r ∧ s_rg σ r.toNatClampNeg = some (.inr i) ∧ s_isC σ i
/-- register r is a sender: nil, or the context i -/
def s_S (σ : sS) (r : Int32) (o : Option Nat) : Prop := s_okR r ∧ ((o = none ∧ s_rg σ r.toNatClampNeg = none) ∨ ∃ i, o = some i ∧ s_rg σ r.toNatClampNeg = some (.inr i) ∧ s_isC σ i)
/-- a context's home -/
def s_hm (σ : sS) (i : Nat) : Nat := if s_kd σ i = 4 then s_og σ i else i
/-- a context's floor -/
def s_fr (σ : sS) (i : Nat) : Nat := if s_kd σ i = 4 then 0 else s_tt σ (s_og σ i)
-- what is reachable
def s_edge (σ : sS) (j i : Nat) : Prop := s_isC σ j ∧ (s_sn σ j = some i ∨ s_og σ j = i ∨ ∃ k, k < s_rm σ j ∧ s_fl σ j k = some (.inr i))
def s_rch (σ : sS) (i : Nat) : Prop := ∀ S : Nat → Prop, (∀ r, r < 16 → ∀ j, s_rg σ r = some (.inr j) → S j) → (∀ j k, S j → s_edge σ j k → S k) → S i
theorem s_rch_root {σ : sS} {r i : Nat} (hr : r < 16) (h : s_rg σ r = some (.inr i)) : s_rch σ i := fun _ h1 _ => h1 r hr i h
theorem s_rch_edge {σ : sS} {j i : Nat} (hj : s_rch σ j) (h : s_edge σ j i) : s_rch σ i := fun S h1 h2 => h2 j i (hj S h1 h2) h
/-- the words and the objects that an object takes -/
def s_wd (σ : sS) (i : Nat) : Nat := if s_kd σ i = 2 then 10 else if s_kd σ i = 3 then 9 + s_rm σ i else 10 + s_rm σ i
def s_en (σ : sS) (i : Nat) : Nat := if s_kd σ i = 2 then 2 else 1
def s_cn (σ : sS) (i : Nat) : Nat := if s_kd σ i = 2 then 0 else 1
/-- each reachable object once -/
def s_enum (σ : sS) (L : List Nat) : Prop := L.Nodup ∧ ∀ i, i ∈ L ↔ s_rch σ i
noncomputable def s_all (σ : sS) : List Nat := (List.range (s_md σ + 1)).filter (fun i => @decide (s_rch σ i) (Classical.propDecidable _))
noncomputable def s_W (σ : sS) : Nat := ((s_all σ).map (s_wd σ)).sum
noncomputable def s_N (σ : sS) : Nat := ((s_all σ).map (s_en σ)).sum
noncomputable def s_K (σ : sS) : Nat := ((s_all σ).map (s_cn σ)).sum
/-- what always holds -/
def s_I (σ : sS) : Prop :=
  2 ≤ s_md σ ∧
  (∀ i, s_kd σ i ≠ 0 → 2 < i ∧ i ≤ s_md σ ∧ (s_kd σ i = 2 ∨ s_kd σ i = 3 ∨ s_kd σ i = 4)) ∧
  (∀ r, r < 16 → ∀ i, s_rg σ r = some (.inr i) → s_kd σ i ≠ 0) ∧
  (∀ i, s_kd σ i = 2 → s_tt σ i ≤ 31 ∧ s_dd σ i ≤ 63) ∧
  (∀ i, s_kd σ i = 3 → s_kd σ (s_og σ i) = 2) ∧
  (∀ i, s_kd σ i = 4 → s_kd σ (s_og σ i) = 3) ∧
  (∀ i, s_isC σ i → (∀ j, s_sn σ i = some j → s_isC σ j) ∧ s_ht σ i ≤ s_rm σ i ∧ s_rm σ i ≤ 94 ∧ (s_de σ i = 0 ∨ s_de σ i = 1) ∧ ∀ k, k < s_rm σ i → ∀ j, s_fl σ i k = some (.inr j) → s_kd σ j ≠ 0)
def s_OK (w n : Nat) (σ : sS) : Prop := s_I σ ∧ s_W σ + 8 ≤ w ∧ s_N σ + 2 ≤ n
theorem sm_sub {f : Nat → Nat} : ∀ (L' L : List Nat), L'.Nodup → (∀ i, i ∈ L' → i ∈ L) → (L'.map f).sum ≤ (L.map f).sum
  | [], _, _, _ => by simp
  | a :: L', L, hn, hs => by
    have ha : a ∈ L := hs a List.mem_cons_self
    have e1 : (L.map f).sum = ((a :: L.erase a).map f).sum := ((List.perm_cons_erase ha).map f).sum_nat
    have hn' := List.nodup_cons.mp hn
    have ih := sm_sub (f := f) L' (L.erase a) hn'.2 (fun i hi => (List.mem_erase_of_ne (fun e : i = a => hn'.1 (e ▸ hi))).mpr (hs i (List.mem_cons_of_mem _ hi)))
    rw [e1]
    simp only [List.map_cons, List.sum_cons]
    omega
theorem s_rch_kd {σ : sS} (h : s_I σ) {i : Nat} (hr : s_rch σ i) : s_kd σ i ≠ 0 := by
  obtain ⟨-, -, h3, -, h5, h6, h7⟩ := h
  refine hr (fun i => s_kd σ i ≠ 0) (fun r hr j hj => h3 r hr j hj) (fun j k _ hjk => ?_)
  obtain ⟨hc, he⟩ := hjk
  rcases he with he | he | ⟨q, hq, he⟩
  · rcases (h7 j hc).1 k he with e | e <;> omega
  · subst he
    rcases hc with e | e
    · have := h5 j e; omega
    · have := h6 j e; omega
  · exact (h7 j hc).2.2.2.2 q hq k he
theorem s_rch_le {σ : sS} (h : s_I σ) {i : Nat} (hr : s_rch σ i) : 2 < i ∧ i ≤ s_md σ := ⟨(h.2.1 i (s_rch_kd h hr)).1, (h.2.1 i (s_rch_kd h hr)).2.1⟩
theorem s_all_enum {σ : sS} (h : s_I σ) : s_enum σ (s_all σ) := by
  refine ⟨List.Pairwise.filter _ List.nodup_range, fun i => ?_⟩
  unfold s_all
  rw [List.mem_filter, List.mem_range]
  constructor
  · intro q
    exact @of_decide_eq_true _ (Classical.propDecidable _) q.2
  · intro q
    exact ⟨by have := (s_rch_le h q).2; omega, @decide_eq_true _ (Classical.propDecidable _) q⟩
theorem s_enum_perm {σ : sS} {L L' : List Nat} (h : s_enum σ L) (h' : s_enum σ L') : L.Perm L' := (List.perm_ext_iff_of_nodup h.1 h'.1).mpr (fun i => (h.2 i).trans (h'.2 i).symm)
theorem s_W_enum {σ : sS} (h : s_I σ) {L : List Nat} (hL : s_enum σ L) : (L.map (s_wd σ)).sum = s_W σ := ((s_enum_perm hL (s_all_enum h)).map _).sum_nat
theorem s_N_enum {σ : sS} (h : s_I σ) {L : List Nat} (hL : s_enum σ L) : (L.map (s_en σ)).sum = s_N σ := ((s_enum_perm hL (s_all_enum h)).map _).sum_nat
theorem s_K_enum {σ : sS} (h : s_I σ) {L : List Nat} (hL : s_enum σ L) : (L.map (s_cn σ)).sum = s_K σ := ((s_enum_perm hL (s_all_enum h)).map _).sum_nat
theorem s_OK_of {w n : Nat} {σ σ' : sS} (h : s_OK w n σ) (hI : s_I σ') (hr : ∀ i, s_rch σ' i → s_rch σ i) (hw : ∀ i, s_rch σ i → s_wd σ' i = s_wd σ i ∧ s_en σ' i = s_en σ i) : s_OK w n σ' := by
  obtain ⟨h0, h1, h2⟩ := h
  have hs : ∀ i, i ∈ s_all σ' → i ∈ s_all σ := fun i hi => ((s_all_enum h0).2 i).mpr (hr i (((s_all_enum hI).2 i).mp hi))
  have k1 := sm_sub (f := s_wd σ') _ _ (s_all_enum hI).1 hs
  have k2 := sm_sub (f := s_en σ') _ _ (s_all_enum hI).1 hs
  have e1 : (s_all σ).map (s_wd σ') = (s_all σ).map (s_wd σ) := List.map_congr_left (fun i hi => (hw i (((s_all_enum h0).2 i).mp hi)).1)
  have e2 : (s_all σ).map (s_en σ') = (s_all σ).map (s_en σ) := List.map_congr_left (fun i hi => (hw i (((s_all_enum h0).2 i).mp hi)).2)
  rw [e1] at k1
  rw [e2] at k2
  unfold s_W at h1
  unfold s_N at h2
  refine ⟨hI, ?_, ?_⟩
  · unfold s_W; omega
  · unfold s_N; omega
theorem s_OK_new {w n q : Nat} {σ σ' : sS} (h : s_OK w n σ) (hI : s_I σ') (hr : ∀ i, s_rch σ' i → s_rch σ i ∨ i = q) (hw : ∀ i, s_rch σ i → s_wd σ' i = s_wd σ i ∧ s_en σ' i = s_en σ i) (f1 : s_wd σ' q + s_W σ + 8 ≤ w) (f2 : s_en σ' q + s_N σ + 2 ≤ n) : s_OK w n σ' := by
  obtain ⟨h0, h1, h2⟩ := h
  have hs : ∀ i, i ∈ s_all σ' → i ∈ q :: s_all σ := fun i hi => by
    rcases hr i (((s_all_enum hI).2 i).mp hi) with e | e
    · exact List.mem_cons_of_mem _ (((s_all_enum h0).2 i).mpr e)
    · rw [e]; exact List.mem_cons_self
  have k1 := sm_sub (f := s_wd σ') _ _ (s_all_enum hI).1 hs
  have k2 := sm_sub (f := s_en σ') _ _ (s_all_enum hI).1 hs
  have e1 : (s_all σ).map (s_wd σ') = (s_all σ).map (s_wd σ) := List.map_congr_left (fun i hi => (hw i (((s_all_enum h0).2 i).mp hi)).1)
  have e2 : (s_all σ).map (s_en σ') = (s_all σ).map (s_en σ) := List.map_congr_left (fun i hi => (hw i (((s_all_enum h0).2 i).mp hi)).2)
  rw [List.map_cons, List.sum_cons, e1] at k1
  rw [List.map_cons, List.sum_cons, e2] at k2
  unfold s_W at f1
  unfold s_N at f2
  refine ⟨hI, ?_, ?_⟩
  · unfold s_W; omega
  · unfold s_N; omega
-- the elementary changes keep it
theorem s_setR_OK {w n k : Nat} {σ : sS} {v : sV} (h : s_OK w n σ) (hv : ∀ i, v = some (.inr i) → s_rch σ i) : s_OK w n (s_setR σ k v) := by
  have h0 := h.1
  refine s_OK_of h ?_ ?_ (fun i _ => ⟨rfl, rfl⟩)
  · obtain ⟨h1, h2, h3, h4⟩ := h0
    refine ⟨h1, h2, fun r hr i hi => ?_, h4⟩
    have hi : va_up (s_rg σ) k v r = some (.inr i) := hi
    by_cases e : r = k
    · subst e
      rw [va_up_self] at hi
      exact s_rch_kd h.1 (hv i hi)
    · rw [va_up_ne _ _ e] at hi
      exact h3 r hr i hi
  · intro i hi
    refine hi (s_rch σ) (fun r hr j hj => ?_) (fun j k hj hjk => s_rch_edge hj hjk)
    have hj : va_up (s_rg σ) k v r = some (.inr j) := hj
    by_cases e : r = k
    · subst e
      rw [va_up_self] at hj
      exact hv j hj
    · rw [va_up_ne _ _ e] at hj
      exact s_rch_root hr hj
theorem s_setT_OK {w n i t d : Nat} {σ : sS} (h : s_OK w n σ) (ht : t ≤ 31) (hd : d ≤ 63) : s_OK w n (s_setT σ i t d) := by
  have h0 := h.1
  refine s_OK_of h ?_ (fun i hi => hi) (fun i _ => ⟨rfl, rfl⟩)
  obtain ⟨h1, h2, h3, h4, h5⟩ := h0
  refine ⟨h1, h2, h3, fun j hj => ?_, h5⟩
  show va_up (s_tt σ) i t j ≤ 31 ∧ va_up (s_dd σ) i d j ≤ 63
  by_cases e : j = i
  · subst e
    rw [va_up_self, va_up_self]
    exact ⟨ht, hd⟩
  · rw [va_up_ne _ _ e, va_up_ne _ _ e]
    exact h4 j hj
theorem s_setS_OK {w n i : Nat} {σ : sS} {v : Option Nat} (h : s_OK w n σ) (hv : ∀ j, v = some j → s_rch σ j ∧ s_isC σ j) : s_OK w n (s_setS σ i v) := by
  have h0 := h.1
  refine s_OK_of h ?_ ?_ (fun i _ => ⟨rfl, rfl⟩)
  · obtain ⟨h1, h2, h3, h4, h5, h6, h7⟩ := h0
    refine ⟨h1, h2, h3, h4, h5, h6, fun j hj => ⟨fun k hk => ?_, (h7 j hj).2⟩⟩
    have hk : va_up (s_sn σ) i v j = some k := hk
    by_cases e : j = i
    · subst e
      rw [va_up_self] at hk
      exact (hv k hk).2
    · rw [va_up_ne _ _ e] at hk
      exact (h7 j hj).1 k hk
  · intro q hq
    refine hq (s_rch σ) (fun r hr j hj => s_rch_root hr hj) (fun j k hj hjk => ?_)
    obtain ⟨hc, he⟩ := hjk
    rcases he with he | he
    · have he : va_up (s_sn σ) i v j = some k := he
      by_cases e : j = i
      · subst e
        rw [va_up_self] at he
        exact (hv k he).1
      · rw [va_up_ne _ _ e] at he
        exact s_rch_edge hj ⟨hc, Or.inl he⟩
    · exact s_rch_edge hj ⟨hc, Or.inr he⟩
theorem s_setD_OK {w n i : Nat} {σ : sS} {v : Int32} (h : s_OK w n σ) (hv : v = 0 ∨ v = 1) : s_OK w n (s_setD σ i v) := by
  have h0 := h.1
  refine s_OK_of h ?_ (fun i hi => hi) (fun i _ => ⟨rfl, rfl⟩)
  obtain ⟨h1, h2, h3, h4, h5, h6, h7⟩ := h0
  refine ⟨h1, h2, h3, h4, h5, h6, fun j hj => ⟨(h7 j hj).1, (h7 j hj).2.1, (h7 j hj).2.2.1, ?_, (h7 j hj).2.2.2.2⟩⟩
  show va_up (s_de σ) i v j = 0 ∨ va_up (s_de σ) i v j = 1
  by_cases e : j = i
  · subst e
    rw [va_up_self]
    exact hv
  · rw [va_up_ne _ _ e]
    exact (h7 j hj).2.2.2.1
theorem s_setH_OK {w n i q : Nat} {σ : sS} (h : s_OK w n σ) (hq : q ≤ s_rm σ i) : s_OK w n (s_setH σ i q) := by
  have h0 := h.1
  refine s_OK_of h ?_ (fun i hi => hi) (fun i _ => ⟨rfl, rfl⟩)
  obtain ⟨h1, h2, h3, h4, h5, h6, h7⟩ := h0
  refine ⟨h1, h2, h3, h4, h5, h6, fun j hj => ⟨(h7 j hj).1, ?_, (h7 j hj).2.2⟩⟩
  show va_up (s_ht σ) i q j ≤ s_rm σ j
  by_cases e : j = i
  · subst e
    rw [va_up_self]
    exact hq
  · rw [va_up_ne _ _ e]
    exact (h7 j hj).2.1
theorem s_upF_cases {fl : Nat → Nat → sV} {i k j q : Nat} {v : sV} {u : sV} (h : s_upF fl i k v j q = u) : (j = i ∧ q = k ∧ v = u) ∨ (fl j q = u) := by
  unfold s_upF at h
  by_cases e : j = i
  · subst e
    rw [va_up_self] at h
    by_cases e2 : q = k
    · subst e2
      rw [va_up_self] at h
      exact Or.inl ⟨rfl, rfl, h⟩
    · rw [va_up_ne _ _ e2] at h
      exact Or.inr h
  · rw [va_up_ne _ _ e] at h
    exact Or.inr h
theorem s_setF_OK {w n i k : Nat} {σ : sS} {v : sV} (h : s_OK w n σ) (hv : ∀ j, v = some (.inr j) → s_rch σ j) : s_OK w n (s_setF σ i k v) := by
  have h0 := h.1
  refine s_OK_of h ?_ ?_ (fun i _ => ⟨rfl, rfl⟩)
  · obtain ⟨h1, h2, h3, h4, h5, h6, h7⟩ := h0
    refine ⟨h1, h2, h3, h4, h5, h6, fun j hj => ⟨(h7 j hj).1, (h7 j hj).2.1, (h7 j hj).2.2.1, (h7 j hj).2.2.2.1, fun q hq a ha => ?_⟩⟩
    rcases s_upF_cases ha with ⟨-, -, e⟩ | e
    · exact s_rch_kd h.1 (hv a e)
    · exact (h7 j hj).2.2.2.2 q hq a e
  · intro q hq
    refine hq (s_rch σ) (fun r hr j hj => s_rch_root hr hj) (fun j a hj hjk => ?_)
    obtain ⟨hc, he⟩ := hjk
    rcases he with he | he | ⟨b, hb, he⟩
    · exact s_rch_edge hj ⟨hc, Or.inl he⟩
    · exact s_rch_edge hj ⟨hc, Or.inr (Or.inl he)⟩
    · rcases s_upF_cases he with ⟨-, -, e⟩ | e
      · exact hv a e
      · exact s_rch_edge hj ⟨hc, Or.inr (Or.inr ⟨b, hb, e⟩)⟩
theorem s_push_OK {w n i : Nat} {σ : sS} {v : sV} (h : s_OK w n σ) (hv : ∀ j, v = some (.inr j) → s_rch σ j) (hh : s_ht σ i < s_rm σ i) : s_OK w n (s_push σ i v) := s_setH_OK (s_setF_OK h hv) hh
theorem s_pop_OK {w n i : Nat} {σ : sS} (h : s_OK w n σ) (hi : s_isC σ i) : s_OK w n (s_pop σ i) := s_setF_OK (s_setH_OK h (by have := (h.1.2.2.2.2.2.2 i hi).2.1; omega)) (fun j e => by cases e)
theorem s_newM_OK {w n r t d : Nat} {σ : sS} (h : s_OK w n σ) (ht : t ≤ 31) (hd : d ≤ 63) (f1 : 10 + s_W σ + 8 ≤ w) (f2 : 2 + s_N σ + 2 ≤ n) : s_OK w n (s_setR (s_newM σ t d) r (some (.inr (s_md σ + 2)))) := by
  have h0 := h.1
  have ne : ∀ i, s_kd σ i ≠ 0 → i ≠ s_md σ + 2 := fun i hi e => by have := (h0.2.1 i hi).2.1; omega
  have kq : va_up (s_kd σ) (s_md σ + 2) 2 (s_md σ + 2) = 2 := va_up_self _ _ _
  have kn : ∀ i, i ≠ s_md σ + 2 → va_up (s_kd σ) (s_md σ + 2) 2 i = s_kd σ i := fun i e => va_up_ne _ _ e
  have k0 : ∀ i, s_kd σ i ≠ 0 → va_up (s_kd σ) (s_md σ + 2) 2 i = s_kd σ i := fun i e => kn i (ne i e)
  have c0 : ∀ i, s_isC (s_setR (s_newM σ t d) r (some (.inr (s_md σ + 2)))) i → s_isC σ i ∧ i ≠ s_md σ + 2 := fun i hi => by
    have hi : va_up (s_kd σ) (s_md σ + 2) 2 i = 3 ∨ va_up (s_kd σ) (s_md σ + 2) 2 i = 4 := hi
    by_cases e : i = s_md σ + 2
    · rw [e, kq] at hi
      omega
    · rw [kn i e] at hi
      exact ⟨hi, e⟩
  have hI : s_I (s_setR (s_newM σ t d) r (some (.inr (s_md σ + 2)))) := by
    obtain ⟨h1, h2, h3, h4, h5, h6, h7⟩ := h0
    refine ⟨Nat.le_trans h1 (Nat.le_add_right _ _), fun i hi => ?_, fun q hq i hi => ?_, fun i hi => ?_, fun i hi => ?_, fun i hi => ?_, fun i hi => ?_⟩
    · have hi : va_up (s_kd σ) (s_md σ + 2) 2 i ≠ 0 := hi
      show 2 < i ∧ i ≤ s_md σ + 2 ∧ (va_up (s_kd σ) (s_md σ + 2) 2 i = 2 ∨ va_up (s_kd σ) (s_md σ + 2) 2 i = 3 ∨ va_up (s_kd σ) (s_md σ + 2) 2 i = 4)
      by_cases e : i = s_md σ + 2
      · rw [e, kq]
        exact ⟨by omega, by omega, Or.inl rfl⟩
      · rw [kn i e] at hi ⊢
        have := h2 i hi
        exact ⟨this.1, by omega, this.2.2⟩
    · have hi : va_up (s_rg σ) r (some (.inr (s_md σ + 2))) q = some (.inr i) := hi
      show va_up (s_kd σ) (s_md σ + 2) 2 i ≠ 0
      by_cases e : q = r
      · rw [e, va_up_self] at hi
        cases hi
        rw [kq]; decide
      · rw [va_up_ne _ _ e] at hi
        have := h3 q hq i hi
        rw [k0 i this]; exact this
    · have hi : va_up (s_kd σ) (s_md σ + 2) 2 i = 2 := hi
      show va_up (s_tt σ) (s_md σ + 2) t i ≤ 31 ∧ va_up (s_dd σ) (s_md σ + 2) d i ≤ 63
      by_cases e : i = s_md σ + 2
      · rw [e, va_up_self, va_up_self]
        exact ⟨ht, hd⟩
      · rw [kn i e] at hi
        rw [va_up_ne _ _ e, va_up_ne _ _ e]
        exact h4 i hi
    · have hc := c0 i (Or.inl hi)
      have hi : va_up (s_kd σ) (s_md σ + 2) 2 i = 3 := hi
      rw [kn i hc.2] at hi
      show va_up (s_kd σ) (s_md σ + 2) 2 (s_og σ i) = 2
      have := h5 i hi
      rw [k0 _ (by omega)]; exact this
    · have hc := c0 i (Or.inr hi)
      have hi : va_up (s_kd σ) (s_md σ + 2) 2 i = 4 := hi
      rw [kn i hc.2] at hi
      show va_up (s_kd σ) (s_md σ + 2) 2 (s_og σ i) = 3
      have := h6 i hi
      rw [k0 _ (by omega)]; exact this
    · have hc := (c0 i hi).1
      obtain ⟨g1, g2, g3, g4, g5⟩ := h7 i hc
      refine ⟨fun j hj => ?_, g2, g3, g4, fun k hk j hj => ?_⟩
      · have := g1 j hj
        show va_up (s_kd σ) (s_md σ + 2) 2 j = 3 ∨ va_up (s_kd σ) (s_md σ + 2) 2 j = 4
        rw [k0 j (by rcases this with e | e <;> omega)]
        exact this
      · have := g5 k hk j hj
        show va_up (s_kd σ) (s_md σ + 2) 2 j ≠ 0
        rw [k0 j this]; exact this
  refine s_OK_new (q := s_md σ + 2) h hI (fun i hi => ?_) (fun i hi => ?_) ?_ ?_
  · refine hi (fun i => s_rch σ i ∨ i = s_md σ + 2) (fun q hq j hj => ?_) (fun j k hj hjk => ?_)
    · have hj : va_up (s_rg σ) r (some (.inr (s_md σ + 2))) q = some (.inr j) := hj
      by_cases e : q = r
      · rw [e, va_up_self] at hj
        cases hj
        exact Or.inr rfl
      · rw [va_up_ne _ _ e] at hj
        exact Or.inl (s_rch_root hq hj)
    · obtain ⟨hc, he⟩ := hjk
      have hc := c0 j hc
      rcases hj with hj | hj
      · exact Or.inl (s_rch_edge hj ⟨hc.1, he⟩)
      · exact absurd hj hc.2
  · have e := k0 i (s_rch_kd h0 hi)
    unfold s_wd s_en
    rw [show s_kd (s_setR (s_newM σ t d) r (some (.inr (s_md σ + 2)))) i = s_kd σ i from e]
    exact ⟨rfl, rfl⟩
  · unfold s_wd
    rw [if_pos (show s_kd (s_setR (s_newM σ t d) r (some (.inr (s_md σ + 2)))) (s_md σ + 2) = 2 from kq)]
    exact f1
  · unfold s_en
    rw [if_pos (show s_kd (s_setR (s_newM σ t d) r (some (.inr (s_md σ + 2)))) (s_md σ + 2) = 2 from kq)]
    exact f2
/-- a new context, of any kind -/
def s_newX (σ : sS) (kk : Nat) (s : Option Nat) (dd : Int32) (ht rm og : Nat) (ct : Int32) : sS := s_mk (s_rg σ) (s_md σ + 1) (va_up (s_kd σ) (s_md σ + 1) kk) (s_tt σ) (s_dd σ) (va_up (s_sn σ) (s_md σ + 1) s) (va_up (s_de σ) (s_md σ + 1) dd) (va_up (s_ht σ) (s_md σ + 1) ht) (va_up (s_rm σ) (s_md σ + 1) rm) (va_up (s_fl σ) (s_md σ + 1) (fun _ => none)) (va_up (s_og σ) (s_md σ + 1) og) (va_up (s_ct σ) (s_md σ + 1) ct)
theorem s_newX_OK {w n r kk ht rm og : Nat} {s : Option Nat} {de ct : Int32} {σ : sS} (h : s_OK w n σ) (hk : (kk = 3 ∧ s_kd σ og = 2) ∨ (kk = 4 ∧ s_kd σ og = 3)) (hs : ∀ j, s = some j → s_rch σ j ∧ s_isC σ j) (hde : de = 0 ∨ de = 1) (hht : ht ≤ rm) (hrm : rm ≤ 94) (hog : s_rch σ og) (f1 : (if kk = 3 then 9 + rm else 10 + rm) + s_W σ + 8 ≤ w) (f2 : 1 + s_N σ + 2 ≤ n) : s_OK w n (s_setR (s_newX σ kk s de ht rm og ct) r (some (.inr (s_md σ + 1)))) := by
  have h0 := h.1
  have ne : ∀ i, s_kd σ i ≠ 0 → i ≠ s_md σ + 1 := fun i hi e => by have := (h0.2.1 i hi).2.1; omega
  have kq : va_up (s_kd σ) (s_md σ + 1) kk (s_md σ + 1) = kk := va_up_self _ _ _
  have kn : ∀ i, i ≠ s_md σ + 1 → va_up (s_kd σ) (s_md σ + 1) kk i = s_kd σ i := fun i e => va_up_ne _ _ e
  have k0 : ∀ i, s_kd σ i ≠ 0 → va_up (s_kd σ) (s_md σ + 1) kk i = s_kd σ i := fun i e => kn i (ne i e)
  have kk34 : kk = 3 ∨ kk = 4 := by rcases hk with e | e <;> omega
  have c0 : ∀ i, s_isC (s_setR (s_newX σ kk s de ht rm og ct) r (some (.inr (s_md σ + 1)))) i → (s_isC σ i ∧ i ≠ s_md σ + 1) ∨ i = s_md σ + 1 := fun i hi => by
    have hi : va_up (s_kd σ) (s_md σ + 1) kk i = 3 ∨ va_up (s_kd σ) (s_md σ + 1) kk i = 4 := hi
    by_cases e : i = s_md σ + 1
    · exact Or.inr e
    · rw [kn i e] at hi
      exact Or.inl ⟨hi, e⟩
  have hI : s_I (s_setR (s_newX σ kk s de ht rm og ct) r (some (.inr (s_md σ + 1)))) := by
    obtain ⟨h1, h2, h3, h4, h5, h6, h7⟩ := h0
    refine ⟨Nat.le_trans h1 (Nat.le_add_right _ _), fun i hi => ?_, fun q hq i hi => ?_, fun i hi => ?_, fun i hi => ?_, fun i hi => ?_, fun i hi => ?_⟩
    · have hi : va_up (s_kd σ) (s_md σ + 1) kk i ≠ 0 := hi
      show 2 < i ∧ i ≤ s_md σ + 1 ∧ (va_up (s_kd σ) (s_md σ + 1) kk i = 2 ∨ va_up (s_kd σ) (s_md σ + 1) kk i = 3 ∨ va_up (s_kd σ) (s_md σ + 1) kk i = 4)
      by_cases e : i = s_md σ + 1
      · rw [e, kq]
        exact ⟨by omega, by omega, Or.inr kk34⟩
      · rw [kn i e] at hi ⊢
        have := h2 i hi
        exact ⟨this.1, by omega, this.2.2⟩
    · have hi : va_up (s_rg σ) r (some (.inr (s_md σ + 1))) q = some (.inr i) := hi
      show va_up (s_kd σ) (s_md σ + 1) kk i ≠ 0
      by_cases e : q = r
      · rw [e, va_up_self] at hi
        cases hi
        rw [kq]; omega
      · rw [va_up_ne _ _ e] at hi
        have := h3 q hq i hi
        rw [k0 i this]; exact this
    · have hi : va_up (s_kd σ) (s_md σ + 1) kk i = 2 := hi
      by_cases e : i = s_md σ + 1
      · rw [e, kq] at hi; omega
      · rw [kn i e] at hi
        exact h4 i hi
    · have hi : va_up (s_kd σ) (s_md σ + 1) kk i = 3 := hi
      show va_up (s_kd σ) (s_md σ + 1) kk (va_up (s_og σ) (s_md σ + 1) og i) = 2
      by_cases e : i = s_md σ + 1
      · rw [e, kq] at hi
        rw [e, va_up_self]
        have := hk.resolve_right (fun q => by omega)
        rw [k0 _ (by omega)]; exact this.2
      · rw [kn i e] at hi
        rw [va_up_ne _ _ e]
        have := h5 i hi
        rw [k0 _ (by omega)]; exact this
    · have hi : va_up (s_kd σ) (s_md σ + 1) kk i = 4 := hi
      show va_up (s_kd σ) (s_md σ + 1) kk (va_up (s_og σ) (s_md σ + 1) og i) = 3
      by_cases e : i = s_md σ + 1
      · rw [e, kq] at hi
        rw [e, va_up_self]
        have := hk.resolve_left (fun q => by omega)
        rw [k0 _ (by omega)]; exact this.2
      · rw [kn i e] at hi
        rw [va_up_ne _ _ e]
        have := h6 i hi
        rw [k0 _ (by omega)]; exact this
    · show (∀ j, va_up (s_sn σ) (s_md σ + 1) s i = some j → va_up (s_kd σ) (s_md σ + 1) kk j = 3 ∨ va_up (s_kd σ) (s_md σ + 1) kk j = 4) ∧ va_up (s_ht σ) (s_md σ + 1) ht i ≤ va_up (s_rm σ) (s_md σ + 1) rm i ∧ va_up (s_rm σ) (s_md σ + 1) rm i ≤ 94 ∧ (va_up (s_de σ) (s_md σ + 1) de i = 0 ∨ va_up (s_de σ) (s_md σ + 1) de i = 1) ∧ ∀ k, k < va_up (s_rm σ) (s_md σ + 1) rm i → ∀ j, va_up (s_fl σ) (s_md σ + 1) (fun _ => none) i k = some (.inr j) → va_up (s_kd σ) (s_md σ + 1) kk j ≠ 0
      rcases c0 i hi with ⟨hc, e⟩ | e
      · simp only [va_up_ne _ _ e]
        obtain ⟨g1, g2, g3, g4, g5⟩ := h7 i hc
        refine ⟨fun j hj => ?_, g2, g3, g4, fun k hk j hj => ?_⟩
        · have := g1 j hj
          rw [k0 j (by rcases this with e | e <;> omega)]
          exact this
        · have := g5 k hk j hj
          rw [k0 j this]; exact this
      · subst e
        simp only [va_up_self]
        refine ⟨fun j hj => ?_, hht, hrm, hde, fun k hk j hj => by cases hj⟩
        have := (hs j hj).2
        rw [k0 j (by rcases this with e | e <;> omega)]
        exact this
  refine s_OK_new (q := s_md σ + 1) h hI (fun i hi => ?_) (fun i hi => ?_) ?_ ?_
  · refine hi (fun i => s_rch σ i ∨ i = s_md σ + 1) (fun q hq j hj => ?_) (fun j k hj hjk => ?_)
    · have hj : va_up (s_rg σ) r (some (.inr (s_md σ + 1))) q = some (.inr j) := hj
      by_cases e : q = r
      · rw [e, va_up_self] at hj
        cases hj
        exact Or.inr rfl
      · rw [va_up_ne _ _ e] at hj
        exact Or.inl (s_rch_root hq hj)
    · obtain ⟨hc, he⟩ := hjk
      have he : va_up (s_sn σ) (s_md σ + 1) s j = some k ∨ va_up (s_og σ) (s_md σ + 1) og j = k ∨ ∃ b, b < va_up (s_rm σ) (s_md σ + 1) rm j ∧ va_up (s_fl σ) (s_md σ + 1) (fun _ => none) j b = some (.inr k) := he
      rcases c0 j hc with ⟨hc, e⟩ | e
      · simp only [va_up_ne _ _ e] at he
        exact Or.inl (s_rch_edge (hj.resolve_right e) ⟨hc, he⟩)
      · subst e
        simp only [va_up_self] at he
        rcases he with he | he | ⟨b, -, he⟩
        · exact Or.inl (hs k he).1
        · exact Or.inl (he ▸ hog)
        · cases he
  · have hn := ne i (s_rch_kd h0 hi)
    have e := kn i hn
    unfold s_wd s_en
    rw [show s_kd (s_setR (s_newX σ kk s de ht rm og ct) r (some (.inr (s_md σ + 1)))) i = s_kd σ i from e, show s_rm (s_setR (s_newX σ kk s de ht rm og ct) r (some (.inr (s_md σ + 1)))) i = s_rm σ i from va_up_ne _ _ hn]
    exact ⟨rfl, rfl⟩
  · unfold s_wd
    rw [show s_kd (s_setR (s_newX σ kk s de ht rm og ct) r (some (.inr (s_md σ + 1)))) (s_md σ + 1) = kk from kq, show s_rm (s_setR (s_newX σ kk s de ht rm og ct) r (some (.inr (s_md σ + 1)))) (s_md σ + 1) = rm from va_up_self _ _ _, if_neg (by omega)]
    exact f1
  · unfold s_en
    rw [show s_kd (s_setR (s_newX σ kk s de ht rm og ct) r (some (.inr (s_md σ + 1)))) (s_md σ + 1) = kk from kq, if_neg (by omega)]
    exact f2
end
section
/-! THE CALLS, as the document says them, over the mathematical state: the answer, and the state behind. -/
def s_mi (σ : sS) (r : Int32) : Option Nat := if 0 ≤ r ∧ r ≤ 15 then (match s_rg σ r.toNatClampNeg with
  | some (.inr i) => if s_kd σ i = 2 then some i else none
  | _ => none) else none
def s_ci (σ : sS) (r : Int32) : Option Nat := if 0 ≤ r ∧ r ≤ 15 then (match s_rg σ r.toNatClampNeg with
  | some (.inr i) => if s_kd σ i = 3 ∨ s_kd σ i = 4 then some i else none
  | _ => none) else none
/-- a register that is nil or has a context: what it is as a sender -/
def s_si (σ : sS) (r : Int32) : Option (Option Nat) := if 0 ≤ r ∧ r ≤ 15 then (match s_rg σ r.toNatClampNeg with
  | none => some none
  | some (.inr i) => if s_kd σ i = 3 ∨ s_kd σ i = 4 then some (some i) else none
  | _ => none) else none
def s_get (σ : sS) (r : Int32) : sV := s_rg σ r.toNatClampNeg
def s_put (σ : sS) (r : Int32) (v : sV) : sS := s_setR σ r.toNatClampNeg v
def s_fill (σ : sS) (i : Nat) (v : Int32) : Nat → sS
  | 0 => σ
  | k + 1 => s_push (s_fill σ i v k) i (some (.inl (v + nI k)))
def s_drop (σ : sS) (i : Nat) : Nat → sS
  | 0 => σ
  | k + 1 => s_pop (s_drop σ i k) i
def p_number (σ : sS) (r v : Int32) : Int32 × sS := if (0 ≤ r ∧ r ≤ 15) ∧ (-1073741824 ≤ v ∧ v ≤ 1073741823) then (1, s_put σ r (some (.inl v))) else (0, σ)
def p_move (σ : sS) (r f : Int32) : Int32 × sS := if (0 ≤ r ∧ r ≤ 15) ∧ (0 ≤ f ∧ f ≤ 15) then (1, s_put σ r (s_get σ f)) else (0, σ)
def p_clear (σ : sS) (r : Int32) : Int32 × sS := if 0 ≤ r ∧ r ≤ 15 then (1, s_put σ r none) else (0, σ)
def p_kind (σ : sS) (r : Int32) : Int32 := if 0 ≤ r ∧ r ≤ 15 then (match s_get σ r with
  | none => 0
  | some (.inl _) => 1
  | some (.inr i) => nI (s_kd σ i)) else -1
def p_value (σ : sS) (r : Int32) : Int32 := if 0 ≤ r ∧ r ≤ 15 then (match s_get σ r with
  | none => 0
  | some (.inl v) => v
  | some (.inr i) => nI i) else 0
def s_fit (w n : Nat) (σ : sS) (a b : Nat) : Prop := a + s_W σ + 8 ≤ w ∧ b + s_N σ + 2 ≤ n
noncomputable def p_method (w n : Nat) (σ : sS) (r a t d : Int32) : Int32 × sS :=
  if (0 ≤ r ∧ r ≤ 15) ∧ (0 ≤ a ∧ a ≤ 15) ∧ (a ≤ t ∧ t ≤ 31) ∧ (0 ≤ d ∧ d ≤ 63) then
    (if 10 + s_W σ + 8 ≤ w ∧ 2 + s_N σ + 2 ≤ n then (nI (s_md σ + 2), s_put (s_newM σ t.toNatClampNeg d.toNatClampNeg) r (some (.inr (s_md σ + 2)))) else (-2, σ))
  else (-1, σ)
def p_change (σ : sS) (r a t d : Int32) : Int32 × sS := match s_mi σ r with
  | some i => if (0 ≤ a ∧ a ≤ 15) ∧ (a ≤ t ∧ t ≤ 31) ∧ (0 ≤ d ∧ d ≤ 63) then (1, s_setT σ i t.toNatClampNeg d.toNatClampNeg) else (0, σ)
  | none => (0, σ)
noncomputable def p_context (w n : Nat) (σ : sS) (r m s : Int32) : Int32 × sS := match s_mi σ m, s_si σ s with
  | some i, some o => if 0 ≤ r ∧ r ≤ 15 then
      (if 9 + (s_tt σ i + s_dd σ i) + s_W σ + 8 ≤ w ∧ 1 + s_N σ + 2 ≤ n then (nI (s_md σ + 1), s_put (s_newX σ 3 o 0 (s_tt σ i) (s_tt σ i + s_dd σ i) i 0) r (some (.inr (s_md σ + 1)))) else (-2, σ)) else (-1, σ)
  | _, _ => (-1, σ)
noncomputable def p_block (w n : Nat) (σ : sS) (r c k : Int32) : Int32 × sS := match s_ci σ c with
  | some i => if (0 ≤ r ∧ r ≤ 15) ∧ (0 ≤ k ∧ k ≤ 15) then
      (if 10 + s_dd σ (s_og σ (s_hm σ i)) + s_W σ + 8 ≤ w ∧ 1 + s_N σ + 2 ≤ n then (nI (s_md σ + 1), s_put (s_newX σ 4 none 1 0 (s_dd σ (s_og σ (s_hm σ i))) (s_hm σ i) k) r (some (.inr (s_md σ + 1)))) else (-2, σ)) else (-1, σ)
  | none => (-1, σ)
def p_push (σ : sS) (c f : Int32) : Int32 × sS := match s_ci σ c with
  | some i => if (0 ≤ f ∧ f ≤ 15) ∧ s_ht σ i < s_rm σ i then (1, s_push σ i (s_get σ f)) else (0, σ)
  | none => (0, σ)
def p_fill (σ : sS) (c v k : Int32) : Int32 × sS := match s_ci σ c with
  | some i => if (0 ≤ k ∧ k ≤ 100) ∧ (k = 0 ∨ ((-1073741824 ≤ v ∧ v ≤ 1073741823) ∧ v ≤ 1073741823 - (k - 1))) then (nI (min k.toNatClampNeg (s_rm σ i - s_ht σ i)), s_fill σ i v (min k.toNatClampNeg (s_rm σ i - s_ht σ i))) else (-1, σ)
  | none => (-1, σ)
def p_pop (σ : sS) (r c : Int32) : Int32 × sS := match s_ci σ c with
  | some i => if (0 ≤ r ∧ r ≤ 15) ∧ s_fr σ i < s_ht σ i then (1, s_put (s_pop σ i) r (s_fl σ i (s_ht σ i - 1))) else (0, σ)
  | none => (0, σ)
def p_peek (σ : sS) (r c u : Int32) : Int32 × sS := match s_ci σ c with
  | some i => if (0 ≤ r ∧ r ≤ 15) ∧ 0 ≤ u ∧ s_fr σ i + u.toNatClampNeg < s_ht σ i then (1, s_put σ r (s_fl σ i (s_ht σ i - 1 - u.toNatClampNeg))) else (0, σ)
  | none => (0, σ)
def p_drop (σ : sS) (c k : Int32) : Int32 × sS := match s_ci σ c with
  | some i => if 0 ≤ k ∧ (k = 0 ∨ s_fr σ i + k.toNatClampNeg ≤ s_ht σ i) then (1, s_drop σ i k.toNatClampNeg) else (0, σ)
  | none => (0, σ)
def p_height (σ : sS) (c : Int32) : Int32 := match s_ci σ c with
  | some i => nI (s_ht σ i)
  | none => -1
def p_room (σ : sS) (c : Int32) : Int32 := match s_ci σ c with
  | some i => nI (s_rm σ i)
  | none => -1
def p_floor (σ : sS) (c : Int32) : Int32 := match s_ci σ c with
  | some i => nI (s_fr σ i)
  | none => -1
def p_count (σ : sS) (c : Int32) : Int32 := match s_ci σ c with
  | some i => if s_kd σ i = 4 then s_ct σ i else -1
  | none => -1
def p_home (σ : sS) (r c : Int32) : Int32 × sS := match s_ci σ c with
  | some i => if 0 ≤ r ∧ r ≤ 15 then (1, s_put σ r (some (.inr (s_hm σ i)))) else (0, σ)
  | none => (0, σ)
def p_sender (σ : sS) (r c : Int32) : Int32 × sS := match s_ci σ c with
  | some i => if 0 ≤ r ∧ r ≤ 15 then (1, s_put σ r ((s_sn σ i).map .inr)) else (0, σ)
  | none => (0, σ)
def p_send (σ : sS) (c s : Int32) : Int32 × sS := match s_ci σ c, s_si σ s with
  | some i, some o => (1, s_setS σ i o)
  | _, _ => (0, σ)
def p_kill (σ : sS) (c d : Int32) : Int32 × sS := match s_ci σ c with
  | some i => (s_de σ i, s_setD σ i d)
  | none => (0, σ)
def p_temporary (σ : sS) (r c i : Int32) : Int32 × sS := match s_ci σ c with
  | some j => if (0 ≤ r ∧ r ≤ 15) ∧ 0 ≤ i ∧ i.toNatClampNeg < s_tt σ (s_og σ (s_hm σ j)) ∧ i.toNatClampNeg < s_rm σ (s_hm σ j) then (1, s_put σ r (s_fl σ (s_hm σ j) i.toNatClampNeg)) else (0, σ)
  | none => (0, σ)
def p_keep (σ : sS) (c i f : Int32) : Int32 × sS := match s_ci σ c with
  | some j => if (0 ≤ f ∧ f ≤ 15) ∧ 0 ≤ i ∧ i.toNatClampNeg < s_tt σ (s_og σ (s_hm σ j)) ∧ i.toNatClampNeg < s_rm σ (s_hm σ j) then (1, s_setF σ (s_hm σ j) i.toNatClampNeg (s_get σ f)) else (0, σ)
  | none => (0, σ)
noncomputable def p_words (w : Nat) (σ : sS) : Int32 := nI (w - 8 - s_W σ)
noncomputable def p_entries (n : Nat) (σ : sS) : Int32 := nI (n - 2 - s_N σ)
noncomputable def p_contexts (σ : sS) : Int32 := nI (s_K σ)
theorem s_mi_some {σ : sS} {r : Int32} {i : Nat} (h : s_mi σ r = some i) : (0 ≤ r ∧ r ≤ 15) ∧ s_get σ r = some (.inr i) ∧ s_kd σ i = 2 := by
  unfold s_mi at h
  split at h
  · rename_i hr
    split at h
    · rename_i j hj
      split at h
      · rename_i hk
        cases h
        exact ⟨hr, hj, hk⟩
      · cases h
    · cases h
  · cases h
theorem s_ci_some {σ : sS} {r : Int32} {i : Nat} (h : s_ci σ r = some i) : (0 ≤ r ∧ r ≤ 15) ∧ s_get σ r = some (.inr i) ∧ s_isC σ i := by
  unfold s_ci at h
  split at h
  · rename_i hr
    split at h
    · rename_i j hj
      split at h
      · rename_i hk
        cases h
        exact ⟨hr, hj, hk⟩
      · cases h
    · cases h
  · cases h
theorem s_si_some {σ : sS} {r : Int32} {o : Option Nat} (h : s_si σ r = some o) : (0 ≤ r ∧ r ≤ 15) ∧ ((o = none ∧ s_get σ r = none) ∨ ∃ i, o = some i ∧ s_get σ r = some (.inr i) ∧ s_isC σ i) := by
  unfold s_si at h
  split at h
  · rename_i hr
    refine ⟨hr, ?_⟩
    split at h
    · rename_i hj
      cases h
      exact Or.inl ⟨rfl, hj⟩
    · rename_i j hj
      split at h
      · rename_i hk
        cases h
        exact Or.inr ⟨j, rfl, hj, hk⟩
      · cases h
    · cases h
  · cases h
theorem s_reg {r : Int32} (h : 0 ≤ r ∧ r ≤ 15) : r.toNatClampNeg < 16 := by
  obtain ⟨j, hj, rfl⟩ := nI_of2 (n := 15) rfl (fun q => absurd h.1 (Int32.not_le.mpr q)) h.2
  rw [nI_clamp (by omega)]
  omega
theorem s_get_rch {σ : sS} {r : Int32} {i : Nat} (hr : 0 ≤ r ∧ r ≤ 15) (h : s_get σ r = some (.inr i)) : s_rch σ i := s_rch_root (s_reg hr) h
theorem s_ci_rch {σ : sS} {r : Int32} {i : Nat} (h : s_ci σ r = some i) : s_rch σ i := s_get_rch (s_ci_some h).1 (s_ci_some h).2.1
theorem s_mi_rch {σ : sS} {r : Int32} {i : Nat} (h : s_mi σ r = some i) : s_rch σ i := s_get_rch (s_mi_some h).1 (s_mi_some h).2.1
theorem s_hm_rch {σ : sS} {i : Nat} (h : s_rch σ i) (hi : s_isC σ i) : s_rch σ (s_hm σ i) := by
  unfold s_hm
  split
  · exact s_rch_edge h ⟨hi, Or.inr (Or.inl rfl)⟩
  · exact h
theorem s_hm_kd {σ : sS} {i : Nat} (hI : s_I σ) (hi : s_isC σ i) : s_kd σ (s_hm σ i) = 3 := by
  unfold s_hm
  split
  · rename_i h
    exact hI.2.2.2.2.2.1 i h
  · rename_i h
    exact hi.resolve_right h
theorem s_fill_st (σ : sS) (i : Nat) (v : Int32) : ∀ k, s_ht (s_fill σ i v k) i = s_ht σ i + k ∧ s_rm (s_fill σ i v k) = s_rm σ ∧ s_kd (s_fill σ i v k) = s_kd σ ∧ s_md (s_fill σ i v k) = s_md σ
  | 0 => ⟨rfl, rfl, rfl, rfl⟩
  | k + 1 => by
    obtain ⟨h1, h2, h3, h4⟩ := s_fill_st σ i v k
    refine ⟨?_, h2, h3, h4⟩
    show va_up (s_ht (s_fill σ i v k)) i (s_ht (s_fill σ i v k) i + 1) i = s_ht σ i + (k + 1)
    rw [va_up_self, h1]
    omega
theorem s_fill_OK {w n i : Nat} {σ : sS} {v : Int32} (h : s_OK w n σ) : ∀ k, s_ht σ i + k ≤ s_rm σ i → s_OK w n (s_fill σ i v k)
  | 0, _ => h
  | k + 1, hk => by
    obtain ⟨h1, h2, h3, h4⟩ := s_fill_st σ i v k
    exact s_push_OK (s_fill_OK h k (by omega)) (fun j e => by cases e) (by rw [h1, h2]; omega)
theorem s_drop_st (σ : sS) (i : Nat) : ∀ k, s_ht (s_drop σ i k) i = s_ht σ i - k ∧ s_rm (s_drop σ i k) = s_rm σ ∧ s_kd (s_drop σ i k) = s_kd σ ∧ s_md (s_drop σ i k) = s_md σ
  | 0 => ⟨rfl, rfl, rfl, rfl⟩
  | k + 1 => by
    obtain ⟨h1, h2, h3, h4⟩ := s_drop_st σ i k
    refine ⟨?_, h2, h3, h4⟩
    show va_up (s_ht (s_drop σ i k)) i (s_ht (s_drop σ i k) i - 1) i = s_ht σ i - (k + 1)
    rw [va_up_self, h1]
    omega
theorem s_drop_OK {w n i : Nat} {σ : sS} (h : s_OK w n σ) (hi : s_isC σ i) : ∀ k, s_OK w n (s_drop σ i k)
  | 0 => h
  | k + 1 => s_pop_OK (s_drop_OK h hi k) (by unfold s_isC; rw [(s_drop_st σ i k).2.2.1]; exact hi)
theorem p_number_OK {w n : Nat} {σ : sS} (h : s_OK w n σ) (r v : Int32) : s_OK w n (p_number σ r v).2 ∧ s_md (p_number σ r v).2 ≤ s_md σ + 2 := by
  unfold p_number
  split
  · exact ⟨s_setR_OK h (fun i e => by cases e), Nat.le_add_right _ _⟩
  · exact ⟨h, Nat.le_add_right _ _⟩
theorem p_move_OK {w n : Nat} {σ : sS} (h : s_OK w n σ) (r f : Int32) : s_OK w n (p_move σ r f).2 ∧ s_md (p_move σ r f).2 ≤ s_md σ + 2 := by
  unfold p_move
  split
  · rename_i hr
    exact ⟨s_setR_OK h (fun i e => s_get_rch hr.2 e), Nat.le_add_right _ _⟩
  · exact ⟨h, Nat.le_add_right _ _⟩
theorem p_clear_OK {w n : Nat} {σ : sS} (h : s_OK w n σ) (r : Int32) : s_OK w n (p_clear σ r).2 ∧ s_md (p_clear σ r).2 ≤ s_md σ + 2 := by
  unfold p_clear
  split
  · exact ⟨s_setR_OK h (fun i e => by cases e), Nat.le_add_right _ _⟩
  · exact ⟨h, Nat.le_add_right _ _⟩
theorem s_clampLe {x : Int32} {k : Nat} (h0 : 0 ≤ x) (hk : k < 2 ^ 31) (h : x ≤ nI k) : x.toNatClampNeg ≤ k := by
  obtain ⟨j, hj, rfl⟩ := nI_of (x := x) (fun q => absurd h0 (Int32.not_le.mpr q))
  rw [nI_clamp hj]
  exact (nI_leI hj hk).mp h
theorem p_method_OK {w n : Nat} {σ : sS} (h : s_OK w n σ) (r a t d : Int32) : s_OK w n (p_method w n σ r a t d).2 ∧ s_md (p_method w n σ r a t d).2 ≤ s_md σ + 2 := by
  unfold p_method
  split
  · rename_i hr
    split
    · rename_i hf
      refine ⟨s_newM_OK h (s_clampLe (Int32.le_trans hr.2.1.1 hr.2.2.1.1) (by decide) hr.2.2.1.2) (s_clampLe hr.2.2.2.1 (by decide) hr.2.2.2.2) hf.1 hf.2, Nat.le_refl _⟩
    · exact ⟨h, Nat.le_add_right _ _⟩
  · exact ⟨h, Nat.le_add_right _ _⟩
theorem p_change_OK {w n : Nat} {σ : sS} (h : s_OK w n σ) (r a t d : Int32) : s_OK w n (p_change σ r a t d).2 ∧ s_md (p_change σ r a t d).2 ≤ s_md σ + 2 := by
  unfold p_change
  split
  · split
    · rename_i hr
      exact ⟨s_setT_OK h (s_clampLe (Int32.le_trans hr.1.1 hr.2.1.1) (by decide) hr.2.1.2) (s_clampLe hr.2.2.1 (by decide) hr.2.2.2), Nat.le_add_right _ _⟩
    · exact ⟨h, Nat.le_add_right _ _⟩
  · exact ⟨h, Nat.le_add_right _ _⟩
theorem p_context_OK {w n : Nat} {σ : sS} (h : s_OK w n σ) (r m s : Int32) : s_OK w n (p_context w n σ r m s).2 ∧ s_md (p_context w n σ r m s).2 ≤ s_md σ + 2 := by
  unfold p_context
  split
  · rename_i i o hi ho
    split
    · rename_i hr
      split
      · rename_i hf
        have hm := s_mi_some hi
        have hb := h.1.2.2.2.1 i hm.2.2
        refine ⟨s_newX_OK h (Or.inl ⟨rfl, hm.2.2⟩) (fun j hj => ?_) (Or.inl rfl) (Nat.le_add_right _ _) (by omega) (s_mi_rch hi) (by rw [if_pos rfl]; exact hf.1) hf.2, Nat.add_le_add_left (by decide) _⟩
        have hs := s_si_some ho
        rcases hs.2 with e | ⟨j', e1, e2, e3⟩
        · rw [e.1] at hj; cases hj
        · rw [e1] at hj; cases hj
          exact ⟨s_get_rch hs.1 e2, e3⟩
      · exact ⟨h, Nat.le_add_right _ _⟩
    · exact ⟨h, Nat.le_add_right _ _⟩
  · exact ⟨h, Nat.le_add_right _ _⟩
theorem p_block_OK {w n : Nat} {σ : sS} (h : s_OK w n σ) (r c k : Int32) : s_OK w n (p_block w n σ r c k).2 ∧ s_md (p_block w n σ r c k).2 ≤ s_md σ + 2 := by
  unfold p_block
  split
  · rename_i i hi
    split
    · split
      · rename_i hf
        have hc := (s_ci_some hi).2.2
        have hk := s_hm_kd h.1 hc
        have hb := h.1.2.2.2.1 _ (h.1.2.2.2.2.1 _ hk)
        exact ⟨s_newX_OK h (Or.inr ⟨rfl, hk⟩) (fun j hj => by cases hj) (Or.inr rfl) (Nat.zero_le _) (by omega) (s_hm_rch (s_ci_rch hi) hc) (by rw [if_neg (by decide)]; exact hf.1) hf.2, Nat.add_le_add_left (by decide) _⟩
      · exact ⟨h, Nat.le_add_right _ _⟩
    · exact ⟨h, Nat.le_add_right _ _⟩
  · exact ⟨h, Nat.le_add_right _ _⟩
theorem p_push_OK {w n : Nat} {σ : sS} (h : s_OK w n σ) (c f : Int32) : s_OK w n (p_push σ c f).2 ∧ s_md (p_push σ c f).2 ≤ s_md σ + 2 := by
  unfold p_push
  split
  · split
    · rename_i hr
      exact ⟨s_push_OK h (fun j e => s_get_rch hr.1 e) hr.2, Nat.le_add_right _ _⟩
    · exact ⟨h, Nat.le_add_right _ _⟩
  · exact ⟨h, Nat.le_add_right _ _⟩
theorem p_fill_OK {w n : Nat} {σ : sS} (h : s_OK w n σ) (c v k : Int32) : s_OK w n (p_fill σ c v k).2 ∧ s_md (p_fill σ c v k).2 ≤ s_md σ + 2 := by
  unfold p_fill
  split
  · rename_i i hi
    split
    · have hh := (h.1.2.2.2.2.2.2 i (s_ci_some hi).2.2).2.1
      exact ⟨s_fill_OK h _ (by omega), by rw [(s_fill_st σ i v _).2.2.2]; exact Nat.le_add_right _ _⟩
    · exact ⟨h, Nat.le_add_right _ _⟩
  · exact ⟨h, Nat.le_add_right _ _⟩
theorem p_pop_OK {w n : Nat} {σ : sS} (h : s_OK w n σ) (r c : Int32) : s_OK w n (p_pop σ r c).2 ∧ s_md (p_pop σ r c).2 ≤ s_md σ + 2 := by
  unfold p_pop
  split
  · rename_i i hi
    split
    · rename_i hr
      have hc := (s_ci_some hi).2.2
      have hh := (h.1.2.2.2.2.2.2 i hc).2.1
      -- the register first, then the pop: the same state
      have h1 : s_OK w n (s_setR σ r.toNatClampNeg (s_fl σ i (s_ht σ i - 1))) := s_setR_OK h (fun j e => s_rch_edge (s_ci_rch hi) ⟨hc, Or.inr (Or.inr ⟨_, by omega, e⟩)⟩)
      exact ⟨s_pop_OK (i := i) h1 hc, Nat.le_add_right _ _⟩
    · exact ⟨h, Nat.le_add_right _ _⟩
  · exact ⟨h, Nat.le_add_right _ _⟩
theorem p_peek_OK {w n : Nat} {σ : sS} (h : s_OK w n σ) (r c u : Int32) : s_OK w n (p_peek σ r c u).2 ∧ s_md (p_peek σ r c u).2 ≤ s_md σ + 2 := by
  unfold p_peek
  split
  · rename_i i hi
    split
    · rename_i hr
      have hc := (s_ci_some hi).2.2
      have hh := (h.1.2.2.2.2.2.2 i hc).2.1
      exact ⟨s_setR_OK h (fun j e => s_rch_edge (s_ci_rch hi) ⟨hc, Or.inr (Or.inr ⟨_, by omega, e⟩)⟩), Nat.le_add_right _ _⟩
    · exact ⟨h, Nat.le_add_right _ _⟩
  · exact ⟨h, Nat.le_add_right _ _⟩
theorem p_drop_OK {w n : Nat} {σ : sS} (h : s_OK w n σ) (c k : Int32) : s_OK w n (p_drop σ c k).2 ∧ s_md (p_drop σ c k).2 ≤ s_md σ + 2 := by
  unfold p_drop
  split
  · rename_i i hi
    split
    · exact ⟨s_drop_OK h (s_ci_some hi).2.2 _, by rw [(s_drop_st σ i _).2.2.2]; exact Nat.le_add_right _ _⟩
    · exact ⟨h, Nat.le_add_right _ _⟩
  · exact ⟨h, Nat.le_add_right _ _⟩
theorem p_home_OK {w n : Nat} {σ : sS} (h : s_OK w n σ) (r c : Int32) : s_OK w n (p_home σ r c).2 ∧ s_md (p_home σ r c).2 ≤ s_md σ + 2 := by
  unfold p_home
  split
  · rename_i i hi
    split
    · exact ⟨s_setR_OK h (fun j e => by cases e; exact s_hm_rch (s_ci_rch hi) (s_ci_some hi).2.2), Nat.le_add_right _ _⟩
    · exact ⟨h, Nat.le_add_right _ _⟩
  · exact ⟨h, Nat.le_add_right _ _⟩
theorem p_sender_OK {w n : Nat} {σ : sS} (h : s_OK w n σ) (r c : Int32) : s_OK w n (p_sender σ r c).2 ∧ s_md (p_sender σ r c).2 ≤ s_md σ + 2 := by
  unfold p_sender
  split
  · rename_i i hi
    split
    · refine ⟨s_setR_OK h (fun j e => s_rch_edge (s_ci_rch hi) ⟨(s_ci_some hi).2.2, Or.inl ?_⟩), Nat.le_add_right _ _⟩
      cases hs : s_sn σ i with
      | none => rw [hs] at e; cases e
      | some q => rw [hs] at e; cases e; rfl
    · exact ⟨h, Nat.le_add_right _ _⟩
  · exact ⟨h, Nat.le_add_right _ _⟩
theorem p_send_OK {w n : Nat} {σ : sS} (h : s_OK w n σ) (c s : Int32) : s_OK w n (p_send σ c s).2 ∧ s_md (p_send σ c s).2 ≤ s_md σ + 2 := by
  unfold p_send
  split
  · rename_i i o hi ho
    refine ⟨s_setS_OK h (fun j hj => ?_), Nat.le_add_right _ _⟩
    have hs := s_si_some ho
    rcases hs.2 with e | ⟨j', e1, e2, e3⟩
    · rw [e.1] at hj; cases hj
    · rw [e1] at hj; cases hj
      exact ⟨s_get_rch hs.1 e2, e3⟩
  · exact ⟨h, Nat.le_add_right _ _⟩
theorem p_kill_OK {w n : Nat} {σ : sS} (h : s_OK w n σ) (c d : Int32) (hd : d = 0 ∨ d = 1) : s_OK w n (p_kill σ c d).2 ∧ s_md (p_kill σ c d).2 ≤ s_md σ + 2 := by
  unfold p_kill
  split
  · exact ⟨s_setD_OK h hd, Nat.le_add_right _ _⟩
  · exact ⟨h, Nat.le_add_right _ _⟩
theorem p_temporary_OK {w n : Nat} {σ : sS} (h : s_OK w n σ) (r c i : Int32) : s_OK w n (p_temporary σ r c i).2 ∧ s_md (p_temporary σ r c i).2 ≤ s_md σ + 2 := by
  unfold p_temporary
  split
  · rename_i j hj
    split
    · rename_i hr
      have hc := (s_ci_some hj).2.2
      exact ⟨s_setR_OK h (fun q e => s_rch_edge (s_hm_rch (s_ci_rch hj) hc) ⟨Or.inl (s_hm_kd h.1 hc), Or.inr (Or.inr ⟨_, hr.2.2.2, e⟩)⟩), Nat.le_add_right _ _⟩
    · exact ⟨h, Nat.le_add_right _ _⟩
  · exact ⟨h, Nat.le_add_right _ _⟩
theorem p_keep_OK {w n : Nat} {σ : sS} (h : s_OK w n σ) (c i f : Int32) : s_OK w n (p_keep σ c i f).2 ∧ s_md (p_keep σ c i f).2 ≤ s_md σ + 2 := by
  unfold p_keep
  split
  · split
    · rename_i hr
      exact ⟨s_setF_OK h (fun q e => s_get_rch hr.1 e), Nat.le_add_right _ _⟩
    · exact ⟨h, Nat.le_add_right _ _⟩
  · exact ⟨h, Nat.le_add_right _ _⟩
end
section
abbrev kS : Nat := 0
abbrev kW : Nat := 1
abbrev kM : Nat := 2
abbrev kC : Nat := 3
abbrev kB : Nat := 4
abbrev kR : Nat := 5
/-! THE CLASS'S CELLS, and the mathematical state that they hold. -/
abbrev qv (f : Nat → Option Nat) : (Nat → Int32) ⊕ (Nat → Int64) ⊕ (Nat → UInt32) ⊕ (Nat → UInt64) ⊕ (Nat → Option Nat) := .inr (.inr (.inr (.inr f)))
/-- the reference r is the value v -/
def c_val (G : gw_G) (ad : Nat → Nat) (v : sV) (r : Option Nat) : Prop := match v with
  | none => r = none
  | some (.inl n) => ∃ a, r = some a ∧ G a = some (.inr (kW, [.int n]))
  | some (.inr i) => r = some (ad i)
/-- the cell of the object i -/
def c_cell (σ : sS) (ad fa : Nat → Nat) (ρ : Nat → Int32) (i : Nat) : va_E :=
  if s_kd σ i = 2 then .inr (kM, [.int (nI i), .int (ρ i), .int (nI (s_tt σ i)), .int (nI (s_dd σ i))])
  else if s_kd σ i = 3 then .inr (kC, [.int (nI i), .int (ρ i), va_rf ((s_sn σ i).map ad), .int (s_de σ i), .int (nI (s_ht σ i)), .ref (fa i), .ref (ad (s_og σ i))])
  else .inr (kB, [.int (nI i), .int (ρ i), va_rf ((s_sn σ i).map ad), .int (s_de σ i), .int (nI (s_ht σ i)), .ref (fa i), .ref (ad (s_og σ i)), .int (s_ct σ i)])
def c_Rep (w n rd md : Nat) (cV cT : ClassId) (σ : sS) (x ra rt : Nat) (ad fa : Nat → Nat) (ρ : Nat → Int32) (fr : Nat → Nat → Option Nat) (rr rf : Nat → Option Nat) (rc wl el cr : Int32) (G : gw_G) : Prop :=
  G x = some (.inr (kS, [.int (nI w), .int (nI n), .ref ra, .int (nI md), .ref rt, .int rc, .int (nI rd), .int wl, .int el, .int cr])) ∧
  G ra = some (.inl (cV, 16, qv rr)) ∧
  G rt = some (.inl (cT, n, qv rf)) ∧
  ra ≠ rt ∧
  (∀ k, k < 16 → c_val G ad (s_rg σ k) (rr k)) ∧
  (∀ i, s_kd σ i ≠ 0 → G (ad i) = some (c_cell σ ad fa ρ i)) ∧
  (∀ i, s_isC σ i → G (fa i) = some (.inl (cV, s_rm σ i, qv (fr i))) ∧ fa i ≠ ra ∧ fa i ≠ rt) ∧
  (∀ i, s_isC σ i → ∀ k, k < s_rm σ i → c_val G ad (s_fl σ i k) (fr i k)) ∧
  (∀ i j, s_isC σ i → s_isC σ j → fa i = fa j → i = j) ∧
  (∀ i, s_kd σ i ≠ 0 → ∃ k, k ≤ rd ∧ ρ i = nI k)
theorem c_val_up {G : gw_G} {ad : Nat → Nat} {v : sV} {r : Option Nat} {q : Nat} {e : Option va_E} (h : c_val G ad v r) (hq : ∀ m, G q ≠ some (.inr (kW, [.int m]))) : c_val (va_up G q e) ad v r := by
  unfold c_val at h ⊢
  split
  · exact h
  · rename_i m
    obtain ⟨a, h1, h2⟩ := h
    refine ⟨a, h1, gw_up h2 (fun z => ?_)⟩
    subst z
    exact hq m h2
  · exact h
theorem c_val_ad {G : gw_G} {ad ad' : Nat → Nat} {v : sV} {r : Option Nat} (h : c_val G ad v r) (hv : ∀ i, v = some (.inr i) → ad' i = ad i) : c_val G ad' v r := by
  unfold c_val at h ⊢
  split
  · exact h
  · exact h
  · rename_i i
    rw [hv i rfl]
    exact h
theorem c_cell_id (σ : sS) (ad fa : Nat → Nat) (ρ : Nat → Int32) (i : Nat) : ∃ (ci : Nat) (fs : List Value), c_cell σ ad fa ρ i = .inr (ci, .int (nI i) :: fs) ∧ ci ≠ kW ∧ ci ≠ kS := by
  unfold c_cell
  split
  · exact ⟨kM, _, rfl, by decide, by decide⟩
  · split
    · exact ⟨kC, _, rfl, by decide, by decide⟩
    · exact ⟨kB, _, rfl, by decide, by decide⟩
theorem c_cell_ni {σ : sS} {ad fa : Nat → Nat} {ρ : Nat → Int32} {i : Nat} (z : ClassId × vp_A) : c_cell σ ad fa ρ i ≠ .inl z := by
  obtain ⟨ci, fs, h, -⟩ := c_cell_id σ ad fa ρ i
  rw [h]
  exact fun q => by cases q
theorem c_cell_nk {σ : sS} {ad fa : Nat → Nat} {ρ : Nat → Int32} {i k : Nat} (hk : k = kW ∨ k = kS) (fs : List Value) : c_cell σ ad fa ρ i ≠ .inr (k, fs) := by
  obtain ⟨ci, fs', h, h1, h2⟩ := c_cell_id σ ad fa ρ i
  rw [h]
  intro q
  cases q
  rcases hk with e | e
  · exact h1 e
  · exact h2 e
theorem c_cell_inj {σ τ : sS} {ad fa ad' fa' : Nat → Nat} {ρ ρ' : Nat → Int32} {i j : Nat} (hi : i < 2 ^ 31) (hj : j < 2 ^ 31) (h : c_cell σ ad fa ρ i = c_cell τ ad' fa' ρ' j) : i = j := by
  obtain ⟨ci, fs, h1, -⟩ := c_cell_id σ ad fa ρ i
  obtain ⟨cj, fs', h2, -⟩ := c_cell_id τ ad' fa' ρ' j
  rw [h1, h2] at h
  have h3 := Sum.inr.inj h
  have h4 : (Value.int (nI i) :: fs) = (Value.int (nI j) :: fs') := congrArg Prod.snd h3
  have h5 : Value.int (nI i) = Value.int (nI j) := (List.cons.inj h4).1
  exact (nI_eq hi hj).mp (Value.int.inj h5)
section CREP
variable {w n rd md : Nat} {cV cT : ClassId} {σ : sS} {x ra rt : Nat} {ad fa : Nat → Nat} {ρ : Nat → Int32} {fr : Nat → Nat → Option Nat} {rr rf : Nat → Option Nat} {rc wl el cr : Int32} {G : gw_G}
theorem c_Rep.inj (h : c_Rep w n rd md cV cT σ x ra rt ad fa ρ fr rr rf rc wl el cr G) (hI : s_I σ) (hm : s_md σ < 2 ^ 31) {i j : Nat} (hi : s_kd σ i ≠ 0) (hj : s_kd σ j ≠ 0) (e : ad i = ad j) : i = j := by
  obtain ⟨-, -, -, -, -, h6, -⟩ := h
  have a1 := h6 i hi
  rw [e, h6 j hj] at a1
  exact (c_cell_inj (by have := (hI.2.1 j hj).2.1; omega) (by have := (hI.2.1 i hi).2.1; omega) (Option.some.inj a1)).symm
/-- a new cell somewhere changes nothing -/
theorem c_Rep.fresh {q : Nat} {e : Option va_E} (h : c_Rep w n rd md cV cT σ x ra rt ad fa ρ fr rr rf rc wl el cr G) (hq : G q = none) : c_Rep w n rd md cV cT σ x ra rt ad fa ρ fr rr rf rc wl el cr (va_up G q e) := by
  obtain ⟨h1, h2, h3, h4, h5, h6, h7, h8, h9, h10⟩ := h
  have hv : ∀ m, G q ≠ some (.inr (kW, [.int m])) := fun m z => by rw [hq] at z; cases z
  exact ⟨gw_up h1 (gw_neN h1 hq), gw_up h2 (gw_neN h2 hq), gw_up h3 (gw_neN h3 hq), h4, fun k hk => c_val_up (h5 k hk) hv, fun i hi => gw_up (h6 i hi) (gw_neN (h6 i hi) hq), fun i hi => ⟨gw_up (h7 i hi).1 (gw_neN (h7 i hi).1 hq), (h7 i hi).2⟩, fun i hi k hk => c_val_up (h8 i hi k hk) hv, h9, h10⟩
/-- a register -/
theorem c_Rep.reg {k : Nat} {v : sV} {r : Option Nat} (h : c_Rep w n rd md cV cT σ x ra rt ad fa ρ fr rr rf rc wl el cr G) (hv : c_val G ad v r) : c_Rep w n rd md cV cT (s_setR σ k v) x ra rt ad fa ρ fr (va_up rr k r) rf rc wl el cr (va_up G ra (some (.inl (cV, 16, qv (va_up rr k r))))) := by
  obtain ⟨h1, h2, h3, h4, h5, h6, h7, h8, h9, h10⟩ := h
  have hw : ∀ m, G ra ≠ some (.inr (kW, [.int m])) := fun m z => by rw [h2] at z; cases z
  refine ⟨gw_up h1 (gw_ne h1 h2 (fun z => by cases z)), va_up_self _ _ _, gw_up h3 (Ne.symm h4), h4, fun j hj => ?_, fun i hi => gw_up (h6 i hi) (gw_ne (h6 i hi) h2 (c_cell_ni _)), fun i hi => ⟨gw_up (h7 i hi).1 (h7 i hi).2.1, (h7 i hi).2⟩, fun i hi k hk => c_val_up (h8 i hi k hk) hw, h9, h10⟩
  show c_val _ ad (va_up (s_rg σ) k v j) (va_up rr k r j)
  by_cases e : j = k
  · subst e
    rw [va_up_self, va_up_self]
    exact c_val_up hv hw
  · rw [va_up_ne _ _ e, va_up_ne _ _ e]
    exact c_val_up (h5 j hj) hw
/-- the room's own numbers -/
theorem c_Rep.own {rd' md' : Nat} {rc' wl' el' cr' : Int32} (h : c_Rep w n rd md cV cT σ x ra rt ad fa ρ fr rr rf rc wl el cr G) (hd : rd ≤ rd') : c_Rep w n rd' md' cV cT σ x ra rt ad fa ρ fr rr rf rc' wl' el' cr' (va_up G x (some (.inr (kS, [.int (nI w), .int (nI n), .ref ra, .int (nI md'), .ref rt, .int rc', .int (nI rd'), .int wl', .int el', .int cr'])))) := by
  obtain ⟨h1, h2, h3, h4, h5, h6, h7, h8, h9, h10⟩ := h
  have hw : ∀ m, G x ≠ some (.inr (kW, [.int m])) := fun m z => by rw [h1] at z; cases z
  refine ⟨va_up_self _ _ _, gw_up h2 (gw_ne h2 h1 (fun z => by cases z)), gw_up h3 (gw_ne h3 h1 (fun z => by cases z)), h4, fun k hk => c_val_up (h5 k hk) hw, fun i hi => gw_up (h6 i hi) (gw_ne (h6 i hi) h1 (c_cell_nk (Or.inr rfl) _)), fun i hi => ⟨gw_up (h7 i hi).1 (gw_ne (h7 i hi).1 h1 (fun z => by cases z)), (h7 i hi).2⟩, fun i hi k hk => c_val_up (h8 i hi k hk) hw, h9, fun i hi => ?_⟩
  obtain ⟨k, hk, e⟩ := h10 i hi
  exact ⟨k, Nat.le_trans hk hd, e⟩
/-- the row of what was reached -/
theorem c_Rep.row {rf' : Nat → Option Nat} (h : c_Rep w n rd md cV cT σ x ra rt ad fa ρ fr rr rf rc wl el cr G) : c_Rep w n rd md cV cT σ x ra rt ad fa ρ fr rr rf' rc wl el cr (va_up G rt (some (.inl (cT, n, qv rf')))) := by
  obtain ⟨h1, h2, h3, h4, h5, h6, h7, h8, h9, h10⟩ := h
  have hw : ∀ m, G rt ≠ some (.inr (kW, [.int m])) := fun m z => by rw [h3] at z; cases z
  exact ⟨gw_up h1 (gw_ne h1 h3 (fun z => by cases z)), gw_up h2 h4, va_up_self _ _ _, h4, fun k hk => c_val_up (h5 k hk) hw, fun i hi => gw_up (h6 i hi) (gw_ne (h6 i hi) h3 (c_cell_ni _)), fun i hi => ⟨gw_up (h7 i hi).1 (h7 i hi).2.2, (h7 i hi).2⟩, fun i hi k hk => c_val_up (h8 i hi k hk) hw, h9, h10⟩
/-- one object's own cell: its numbers, its sender, its mark -/
theorem c_Rep.obj {τ : sS} {ρ' : Nat → Int32} {i : Nat} (h : c_Rep w n rd md cV cT σ x ra rt ad fa ρ fr rr rf rc wl el cr G) (hI : s_I σ) (hm : s_md σ < 2 ^ 31) (hi : s_kd σ i ≠ 0) (e1 : s_rg τ = s_rg σ) (e3 : s_kd τ = s_kd σ) (e4 : s_rm τ = s_rm σ) (e5 : s_fl τ = s_fl σ) (hc : ∀ j, j ≠ i → c_cell τ ad fa ρ' j = c_cell σ ad fa ρ j) (hρ : ∀ j, s_kd σ j ≠ 0 → ∃ k, k ≤ rd ∧ ρ' j = nI k) : c_Rep w n rd md cV cT τ x ra rt ad fa ρ' fr rr rf rc wl el cr (va_up G (ad i) (some (c_cell τ ad fa ρ' i))) := by
  have hinj := fun {a b : Nat} => h.inj hI hm (i := a) (j := b)
  obtain ⟨h1, h2, h3, h4, h5, h6, h7, h8, h9, h10⟩ := h
  have ho := h6 i hi
  have hw : ∀ m, G (ad i) ≠ some (.inr (kW, [.int m])) := fun m z => by
    rw [ho] at z
    exact c_cell_nk (Or.inl rfl) _ (Option.some.inj z)
  unfold c_Rep s_isC
  rw [e1, e3, e4, e5]
  refine ⟨gw_up h1 (gw_ne h1 ho (fun z => c_cell_nk (Or.inr rfl) _ z.symm)), gw_up h2 (gw_ne h2 ho (fun z => c_cell_ni _ z.symm)), gw_up h3 (gw_ne h3 ho (fun z => c_cell_ni _ z.symm)), h4, fun k hk => c_val_up (h5 k hk) hw, fun j hj => ?_, fun j hj => ⟨gw_up (h7 j hj).1 (gw_ne (h7 j hj).1 ho (fun z => c_cell_ni _ z.symm)), (h7 j hj).2⟩, fun j hj k hk => c_val_up (h8 j hj k hk) hw, h9, hρ⟩
  by_cases e : j = i
  · subst e
    exact va_up_self _ _ _
  · rw [hc j e]
    exact gw_up (h6 j hj) (fun z => e (hinj hj hi z))
/-- one field of one context -/
theorem c_Rep.fld {i k : Nat} {v : sV} {r : Option Nat} (h : c_Rep w n rd md cV cT σ x ra rt ad fa ρ fr rr rf rc wl el cr G) (hi : s_isC σ i) (hv : c_val G ad v r) : c_Rep w n rd md cV cT (s_setF σ i k v) x ra rt ad fa ρ (va_up fr i (va_up (fr i) k r)) rr rf rc wl el cr (va_up G (fa i) (some (.inl (cV, s_rm σ i, qv (va_up (fr i) k r))))) := by
  obtain ⟨h1, h2, h3, h4, h5, h6, h7, h8, h9, h10⟩ := h
  obtain ⟨ho, n1, n2⟩ := h7 i hi
  have hw : ∀ m, G (fa i) ≠ some (.inr (kW, [.int m])) := fun m z => by rw [ho] at z; cases z
  refine ⟨gw_up h1 (gw_ne h1 ho (fun z => by cases z)), gw_up h2 (Ne.symm n1), gw_up h3 (Ne.symm n2), h4, fun k hk => c_val_up (h5 k hk) hw, fun j hj => gw_up (h6 j hj) (gw_ne (h6 j hj) ho (c_cell_ni _)), fun j hj => ⟨?_, (h7 j hj).2⟩, fun j hj q hq => ?_, h9, h10⟩
  · show va_up G (fa i) _ (fa j) = some (.inl (cV, s_rm σ j, qv (va_up fr i (va_up (fr i) k r) j)))
    by_cases e : j = i
    · subst e
      rw [va_up_self, va_up_self]
    · rw [va_up_ne _ _ (fun z => e (h9 j i hj hi z)), va_up_ne _ _ e]
      exact (h7 j hj).1
  · show c_val _ ad (s_upF (s_fl σ) i k v j q) (va_up fr i (va_up (fr i) k r) j q)
    have hq : q < s_rm σ j := hq
    unfold s_upF
    by_cases e : j = i
    · subst e
      rw [va_up_self, va_up_self]
      by_cases e2 : q = k
      · subst e2
        rw [va_up_self, va_up_self]
        exact c_val_up hv hw
      · rw [va_up_ne _ _ e2, va_up_ne _ _ e2]
        exact c_val_up (h8 j hj q hq) hw
    · rw [va_up_ne _ _ e, va_up_ne _ _ e]
      exact c_val_up (h8 j hj q hq) hw
/-- the cells of the others, with one more object named -/
theorem c_cell_old {τ : sS} {id q fq : Nat} {ρ0 : Int32} (hI : s_I σ) (hid : s_kd σ id = 0) {j : Nat} (hj : s_kd σ j ≠ 0) (e3 : s_kd τ j = s_kd σ j) (e4 : s_tt τ j = s_tt σ j) (e5 : s_dd τ j = s_dd σ j) (e6 : s_sn τ j = s_sn σ j) (e7 : s_de τ j = s_de σ j) (e8 : s_ht τ j = s_ht σ j) (e9 : s_og τ j = s_og σ j) (e10 : s_ct τ j = s_ct σ j) : c_cell τ (va_up ad id q) (va_up fa id fq) (va_up ρ id ρ0) j = c_cell σ ad fa ρ j := by
  have ne : ∀ a, s_kd σ a ≠ 0 → a ≠ id := fun a ha z => ha (z ▸ hid)
  unfold c_cell
  rw [e3, e4, e5, e6, e7, e8, e9, e10, va_up_ne _ _ (ne j hj), va_up_ne _ _ (ne j hj)]
  have hs : s_isC σ j → (s_sn σ j).map (va_up ad id q) = (s_sn σ j).map ad := fun hc => by
    cases hs : s_sn σ j with
    | none => rfl
    | some a =>
      have ha := (hI.2.2.2.2.2.2 j hc).1 a hs
      show some (va_up ad id q a) = some (ad a)
      rw [va_up_ne _ _ (ne a (by rcases ha with e | e <;> omega))]
  split
  · rfl
  · rename_i k2
    split
    · rename_i k3
      have ho := hI.2.2.2.2.1 j k3
      rw [hs (Or.inl k3), va_up_ne _ _ (ne _ (by omega))]
    · rename_i k3
      have k4 : s_kd σ j = 4 := by
        have := (hI.2.1 j hj).2.2
        omega
      have ho := hI.2.2.2.2.2.1 j k4
      rw [hs (Or.inr k4), va_up_ne _ _ (ne _ (by omega))]
theorem c_Rep.newM {q t d : Nat} (h : c_Rep w n rd md cV cT σ x ra rt ad fa ρ fr rr rf rc wl el cr G) (hI : s_I σ) (hq : G q = some (.inr (kM, [.int (nI (s_md σ + 2)), .int 0, .int (nI t), .int (nI d)]))) : c_Rep w n rd md cV cT (s_newM σ t d) x ra rt (va_up ad (s_md σ + 2) q) (va_up fa (s_md σ + 2) 0) (va_up ρ (s_md σ + 2) 0) fr rr rf rc wl el cr G := by
  obtain ⟨h1, h2, h3, h4, h5, h6, h7, h8, h9, h10⟩ := h
  have hid : s_kd σ (s_md σ + 2) = 0 := by
    cases hz : s_kd σ (s_md σ + 2) with
    | zero => rfl
    | succ a => have := (hI.2.1 (s_md σ + 2) (by omega)).2.1; omega
  have ne : ∀ a, s_kd σ a ≠ 0 → a ≠ s_md σ + 2 := fun a ha z => ha (z ▸ hid)
  have nc : ∀ a, s_isC σ a → a ≠ s_md σ + 2 := fun a ha => ne a (by rcases ha with e | e <;> omega)
  have c0 : ∀ i, s_isC (s_newM σ t d) i → s_isC σ i := fun i hi => by
    have hi : va_up (s_kd σ) (s_md σ + 2) 2 i = 3 ∨ va_up (s_kd σ) (s_md σ + 2) 2 i = 4 := hi
    by_cases e : i = s_md σ + 2
    · rw [e, va_up_self] at hi; omega
    · rw [va_up_ne _ _ e] at hi; exact hi
  refine ⟨h1, h2, h3, h4, fun k hk => c_val_ad (h5 k hk) (fun i e => va_up_ne _ _ (ne i (hI.2.2.1 k hk i e))), fun i hi => ?_, fun i hi => ?_, fun i hi k hk => ?_, fun i j hi hj e => ?_, fun i hi => ?_⟩
  · have hi : va_up (s_kd σ) (s_md σ + 2) 2 i ≠ 0 := hi
    by_cases e : i = s_md σ + 2
    · subst e
      rw [va_up_self]
      unfold c_cell
      rw [if_pos (show s_kd (s_newM σ t d) (s_md σ + 2) = 2 from va_up_self _ _ _), show s_tt (s_newM σ t d) (s_md σ + 2) = t from va_up_self _ _ _, show s_dd (s_newM σ t d) (s_md σ + 2) = d from va_up_self _ _ _, va_up_self]
      exact hq
    · rw [va_up_ne _ _ e] at hi ⊢
      rw [c_cell_old (τ := s_newM σ t d) hI hid hi (va_up_ne _ _ e) (va_up_ne _ _ e) (va_up_ne _ _ e) rfl rfl rfl rfl rfl]
      exact h6 i hi
  · have hc := c0 i hi
    rw [va_up_ne _ _ (nc i hc)]
    exact h7 i hc
  · have hc := c0 i hi
    exact c_val_ad (h8 i hc k hk) (fun j e => va_up_ne _ _ (ne j ((hI.2.2.2.2.2.2 i hc).2.2.2.2 k hk j e)))
  · have ci := c0 i hi
    have cj := c0 j hj
    rw [va_up_ne _ _ (nc i ci), va_up_ne _ _ (nc j cj)] at e
    exact h9 i j ci cj e
  · have hi : va_up (s_kd σ) (s_md σ + 2) 2 i ≠ 0 := hi
    by_cases e : i = s_md σ + 2
    · subst e
      exact ⟨0, Nat.zero_le _, va_up_self _ _ _⟩
    · rw [va_up_ne _ _ e] at hi
      rw [va_up_ne _ _ e]
      exact h10 i hi
theorem c_Rep.newX {q fq kk ht rm og : Nat} {sd : Option Nat} {de ct : Int32} (h : c_Rep w n rd md cV cT σ x ra rt ad fa ρ fr rr rf rc wl el cr G) (hI : s_I σ) (hkk : kk = 3 ∨ kk = 4) (hog : s_kd σ og ≠ 0) (hsd : ∀ j, sd = some j → s_kd σ j ≠ 0)
    (hq : G q = some (if kk = 3 then .inr (kC, [.int (nI (s_md σ + 1)), .int 0, va_rf (sd.map ad), .int de, .int (nI ht), .ref fq, .ref (ad og)]) else .inr (kB, [.int (nI (s_md σ + 1)), .int 0, va_rf (sd.map ad), .int de, .int (nI ht), .ref fq, .ref (ad og), .int ct])))
    (hf : G fq = some (.inl (cV, rm, qv (fun _ => none)))) (n1 : fq ≠ ra) (n2 : fq ≠ rt) (n3 : ∀ i, s_isC σ i → fa i ≠ fq) : c_Rep w n rd md cV cT (s_newX σ kk sd de ht rm og ct) x ra rt (va_up ad (s_md σ + 1) q) (va_up fa (s_md σ + 1) fq) (va_up ρ (s_md σ + 1) 0) (va_up fr (s_md σ + 1) (fun _ => none)) rr rf rc wl el cr G := by
  obtain ⟨h1, h2, h3, h4, h5, h6, h7, h8, h9, h10⟩ := h
  have hid : s_kd σ (s_md σ + 1) = 0 := by
    cases hz : s_kd σ (s_md σ + 1) with
    | zero => rfl
    | succ a => have := (hI.2.1 (s_md σ + 1) (by omega)).2.1; omega
  have ne : ∀ a, s_kd σ a ≠ 0 → a ≠ s_md σ + 1 := fun a ha z => ha (z ▸ hid)
  have nc : ∀ a, s_isC σ a → a ≠ s_md σ + 1 := fun a ha => ne a (by rcases ha with e | e <;> omega)
  have c0 : ∀ i, s_isC (s_newX σ kk sd de ht rm og ct) i → i ≠ s_md σ + 1 → s_isC σ i := fun i hi e => by
    have hi : va_up (s_kd σ) (s_md σ + 1) kk i = 3 ∨ va_up (s_kd σ) (s_md σ + 1) kk i = 4 := hi
    rw [va_up_ne _ _ e] at hi
    exact hi
  refine ⟨h1, h2, h3, h4, fun k hk => c_val_ad (h5 k hk) (fun i e => va_up_ne _ _ (ne i (hI.2.2.1 k hk i e))), fun i hi => ?_, fun i hi => ?_, fun i hi k hk => ?_, fun i j hi hj e => ?_, fun i hi => ?_⟩
  · have hi : va_up (s_kd σ) (s_md σ + 1) kk i ≠ 0 := hi
    by_cases e : i = s_md σ + 1
    · subst e
      rw [va_up_self, hq]
      unfold c_cell
      rw [show s_kd (s_newX σ kk sd de ht rm og ct) (s_md σ + 1) = kk from va_up_self _ _ _, show s_sn (s_newX σ kk sd de ht rm og ct) (s_md σ + 1) = sd from va_up_self _ _ _, show s_de (s_newX σ kk sd de ht rm og ct) (s_md σ + 1) = de from va_up_self _ _ _, show s_ht (s_newX σ kk sd de ht rm og ct) (s_md σ + 1) = ht from va_up_self _ _ _, show s_og (s_newX σ kk sd de ht rm og ct) (s_md σ + 1) = og from va_up_self _ _ _, show s_ct (s_newX σ kk sd de ht rm og ct) (s_md σ + 1) = ct from va_up_self _ _ _, va_up_self, va_up_self, va_up_ne _ _ (ne og hog)]
      have hs : sd.map (va_up ad (s_md σ + 1) q) = sd.map ad := by
        cases sd with
        | none => rfl
        | some a =>
          show some (va_up ad (s_md σ + 1) q a) = some (ad a)
          rw [va_up_ne _ _ (ne a (hsd a rfl))]
      rw [hs, if_neg (show ¬ kk = 2 by omega)]
    · rw [va_up_ne _ _ e] at hi ⊢
      rw [c_cell_old (τ := s_newX σ kk sd de ht rm og ct) hI hid hi (va_up_ne _ _ e) rfl rfl (va_up_ne _ _ e) (va_up_ne _ _ e) (va_up_ne _ _ e) (va_up_ne _ _ e) (va_up_ne _ _ e)]
      exact h6 i hi
  · show G (va_up fa (s_md σ + 1) fq i) = some (.inl (cV, va_up (s_rm σ) (s_md σ + 1) rm i, qv (va_up fr (s_md σ + 1) (fun _ => none) i))) ∧ va_up fa (s_md σ + 1) fq i ≠ ra ∧ va_up fa (s_md σ + 1) fq i ≠ rt
    by_cases e : i = s_md σ + 1
    · subst e
      rw [va_up_self, va_up_self, va_up_self]
      exact ⟨hf, n1, n2⟩
    · rw [va_up_ne _ _ e, va_up_ne _ _ e, va_up_ne _ _ e]
      exact h7 i (c0 i hi e)
  · show c_val G _ (va_up (s_fl σ) (s_md σ + 1) (fun _ => none) i k) (va_up fr (s_md σ + 1) (fun _ => none) i k)
    have hk : k < va_up (s_rm σ) (s_md σ + 1) rm i := hk
    by_cases e : i = s_md σ + 1
    · subst e
      rw [va_up_self, va_up_self]
      exact rfl
    · rw [va_up_ne _ _ e] at hk
      rw [va_up_ne _ _ e, va_up_ne _ _ e]
      have hc := c0 i hi e
      exact c_val_ad (h8 i hc k hk) (fun j z => va_up_ne _ _ (ne j ((hI.2.2.2.2.2.2 i hc).2.2.2.2 k hk j z)))
  · by_cases ei : i = s_md σ + 1 <;> by_cases ej : j = s_md σ + 1
    · rw [ei, ej]
    · rw [ei, va_up_self, va_up_ne _ _ ej] at e
      exact absurd e.symm (n3 j (c0 j hj ej))
    · rw [ej, va_up_self, va_up_ne _ _ ei] at e
      exact absurd e (n3 i (c0 i hi ei))
    · rw [va_up_ne _ _ ei, va_up_ne _ _ ej] at e
      exact h9 i j (c0 i hi ei) (c0 j hj ej) e
  · have hi : va_up (s_kd σ) (s_md σ + 1) kk i ≠ 0 := hi
    by_cases e : i = s_md σ + 1
    · subst e
      exact ⟨0, Nat.zero_le _, va_up_self _ _ _⟩
    · rw [va_up_ne _ _ e] at hi
      rw [va_up_ne _ _ e]
      exact h10 i hi
end CREP
/-! A SURVEY, as lists of identities -/
def s_add (L : List Nat) (v : sV) : List Nat := match v with
  | some (.inr i) => if i ∈ L then L else L ++ [i]
  | _ => L
def s_sum (f : Nat → Nat) (L : List Nat) : Nat := (L.map f).sum
theorem s_sum_push (f : Nat → Nat) (L : List Nat) (i : Nat) : s_sum f (L ++ [i]) = s_sum f L + f i := by
  unfold s_sum
  rw [List.map_append, List.sum_append]
  simp
theorem s_add_pre (L : List Nat) (v : sV) : ∃ M, s_add L v = L ++ M := by
  unfold s_add
  split
  · split
    · exact ⟨[], (List.append_nil L).symm⟩
    · exact ⟨_, rfl⟩
  · exact ⟨[], (List.append_nil L).symm⟩
theorem s_add_in {L : List Nat} {i : Nat} : i ∈ s_add L (some (.inr i)) := by
  show i ∈ if i ∈ L then L else L ++ [i]
  split
  · assumption
  · exact List.mem_append_right _ List.mem_cons_self
theorem s_add_sub {L : List Nat} {v : sV} {i : Nat} (h : i ∈ L) : i ∈ s_add L v := by
  obtain ⟨M, e⟩ := s_add_pre L v
  rw [e]
  exact List.mem_append_left _ h
/-- a list of reachable objects, each once -/
def s_part (σ : sS) (L : List Nat) : Prop := L.Nodup ∧ ∀ i, i ∈ L → s_rch σ i
theorem s_part_nil {σ : sS} : s_part σ [] := ⟨List.nodup_nil, fun i h => by cases h⟩
theorem s_part_push {σ : sS} {L : List Nat} {i : Nat} (h : s_part σ L) (hi : s_rch σ i) (hn : i ∉ L) : s_part σ (L ++ [i]) := by
  refine ⟨?_, fun j hj => ?_⟩
  · rw [List.nodup_append]
    refine ⟨h.1, by simp, fun a ha b hb e => ?_⟩
    rw [List.mem_singleton] at hb
    exact hn (hb ▸ e ▸ ha)
  · rcases List.mem_append.mp hj with q | q
    · exact h.2 j q
    · rw [List.mem_singleton.mp q]; exact hi
theorem s_part_add {σ : sS} {L : List Nat} {v : sV} (h : s_part σ L) (hv : ∀ i, v = some (.inr i) → s_rch σ i) : s_part σ (s_add L v) := by
  unfold s_add
  split
  · rename_i i
    split
    · exact h
    · exact s_part_push h (hv i rfl) (by assumption)
  · exact h
theorem s_part_W {σ : sS} {L : List Nat} (h : s_part σ L) (hI : s_I σ) : s_sum (s_wd σ) L ≤ s_W σ := sm_sub _ _ h.1 (fun i hi => ((s_all_enum hI).2 i).mpr (h.2 i hi))
theorem s_part_N {σ : sS} {L : List Nat} (h : s_part σ L) (hI : s_I σ) : s_sum (s_en σ) L ≤ s_N σ := sm_sub _ _ h.1 (fun i hi => ((s_all_enum hI).2 i).mpr (h.2 i hi))
theorem s_sum_len {f : Nat → Nat} (hf : ∀ i, 1 ≤ f i) : ∀ L : List Nat, L.length ≤ s_sum f L
  | [] => Nat.zero_le _
  | a :: L => by
    have := s_sum_len hf L
    have := hf a
    unfold s_sum at *
    simp only [List.map_cons, List.sum_cons, List.length_cons]
    omega
theorem s_en_pos (σ : sS) (i : Nat) : 1 ≤ s_en σ i := by
  unfold s_en
  split <;> omega
theorem s_part_len {w n : Nat} {σ : sS} {L : List Nat} (h : s_part σ L) (hO : s_OK w n σ) : L.length + 2 ≤ n := by
  have h1 := s_sum_len (s_en_pos σ) L
  have h2 := s_part_N h hO.1
  have h3 := hO.2.2
  omega
theorem s_part_enum {σ : sS} {L : List Nat} (h : s_part σ L) (hr : ∀ r, r < 16 → ∀ j, s_rg σ r = some (.inr j) → j ∈ L) (he : ∀ j, j ∈ L → ∀ k, s_edge σ j k → k ∈ L) : s_enum σ L := ⟨h.1, fun i => ⟨h.2 i, fun q => q (fun i => i ∈ L) hr (fun j k hj hjk => he j hj k hjk)⟩⟩
end
