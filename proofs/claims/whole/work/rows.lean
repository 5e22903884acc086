section
-- ===== PART A: goes FIRST, ahead of the names: the tables' words, and 'selects' of the private methods out of them =====
/-- a private method of a class that the tables say can be made, by its rows of tables_1 -/
def lw_okq (q : MethodName × Nat) : Prop := (q.1.cls ≠ "java/lang/invoke/MethodHandle" ∧ q.1.cls ≠ "java/lang/invoke/VarHandle") ∧ Cond.instantiable q.1.cls q.2 ∈ tables_1 ∧ Cond.privateMethod q.1 ∈ tables_1 ∧ Cond.instanceMethod q.1 ∈ tables_1
theorem lw_p0 : lw_okq (⟨"StackRoom", "canBeMade", "(II)Z"⟩, 10) := ⟨⟨by decide +kernel, by decide +kernel⟩, List.mem_of_getElem? (i := 11) (by decide +kernel), List.mem_of_getElem? (i := 132) (by decide +kernel), List.mem_of_getElem? (i := 133) (by decide +kernel)⟩
theorem lw_p1 : lw_okq (⟨"StackRoom", "survey", "()V"⟩, 10) := ⟨⟨by decide +kernel, by decide +kernel⟩, List.mem_of_getElem? (i := 11) (by decide +kernel), List.mem_of_getElem? (i := 136) (by decide +kernel), List.mem_of_getElem? (i := 137) (by decide +kernel)⟩
theorem lw_p2 : lw_okq (⟨"StackRoom", "reach", "(LStackRoom$Value;)V"⟩, 10) := ⟨⟨by decide +kernel, by decide +kernel⟩, List.mem_of_getElem? (i := 11) (by decide +kernel), List.mem_of_getElem? (i := 140) (by decide +kernel), List.mem_of_getElem? (i := 141) (by decide +kernel)⟩
theorem lw_p3 : lw_okq (⟨"StackRoom", "reachPartsOf", "(LStackRoom$Context;)V"⟩, 10) := ⟨⟨by decide +kernel, by decide +kernel⟩, List.mem_of_getElem? (i := 11) (by decide +kernel), List.mem_of_getElem? (i := 174) (by decide +kernel), List.mem_of_getElem? (i := 175) (by decide +kernel)⟩
theorem lw_p4 : lw_okq (⟨"StackRoom", "methodIn", "(I)LStackRoom$Method;"⟩, 10) := ⟨⟨by decide +kernel, by decide +kernel⟩, List.mem_of_getElem? (i := 11) (by decide +kernel), List.mem_of_getElem? (i := 218) (by decide +kernel), List.mem_of_getElem? (i := 219) (by decide +kernel)⟩
theorem lw_p5 : lw_okq (⟨"StackRoom", "isSender", "(I)Z"⟩, 10) := ⟨⟨by decide +kernel, by decide +kernel⟩, List.mem_of_getElem? (i := 11) (by decide +kernel), List.mem_of_getElem? (i := 230) (by decide +kernel), List.mem_of_getElem? (i := 231) (by decide +kernel)⟩
theorem lw_p6 : lw_okq (⟨"StackRoom", "contextIn", "(I)LStackRoom$Context;"⟩, 10) := ⟨⟨by decide +kernel, by decide +kernel⟩, List.mem_of_getElem? (i := 11) (by decide +kernel), List.mem_of_getElem? (i := 236) (by decide +kernel), List.mem_of_getElem? (i := 237) (by decide +kernel)⟩
theorem lw_p7 : lw_okq (⟨"StackRoomModel", "look", "()V"⟩, 25) := ⟨⟨by decide +kernel, by decide +kernel⟩, List.mem_of_getElem? (i := 452) (by decide +kernel), List.mem_of_getElem? (i := 542) (by decide +kernel), List.mem_of_getElem? (i := 543) (by decide +kernel)⟩
theorem lw_p8 : lw_okq (⟨"StackRoomModel", "see", "(I)V"⟩, 25) := ⟨⟨by decide +kernel, by decide +kernel⟩, List.mem_of_getElem? (i := 452) (by decide +kernel), List.mem_of_getElem? (i := 546) (by decide +kernel), List.mem_of_getElem? (i := 547) (by decide +kernel)⟩
theorem lw_p9 : lw_okq (⟨"StackRoomModel", "make", "(IIII)I"⟩, 25) := ⟨⟨by decide +kernel, by decide +kernel⟩, List.mem_of_getElem? (i := 452) (by decide +kernel), List.mem_of_getElem? (i := 599) (by decide +kernel), List.mem_of_getElem? (i := 600) (by decide +kernel)⟩
theorem lw_p10 : lw_okq (⟨"StackRoomModel", "letGo", "()V"⟩, 25) := ⟨⟨by decide +kernel, by decide +kernel⟩, List.mem_of_getElem? (i := 452) (by decide +kernel), List.mem_of_getElem? (i := 603) (by decide +kernel), List.mem_of_getElem? (i := 604) (by decide +kernel)⟩
theorem lw_p11 : lw_okq (⟨"StackRoomModel", "give", "(IIII)V"⟩, 25) := ⟨⟨by decide +kernel, by decide +kernel⟩, List.mem_of_getElem? (i := 452) (by decide +kernel), List.mem_of_getElem? (i := 607) (by decide +kernel), List.mem_of_getElem? (i := 608) (by decide +kernel)⟩
theorem lw_p12 : lw_okq (⟨"StackRoomModel", "objectIn", "(III)I"⟩, 25) := ⟨⟨by decide +kernel, by decide +kernel⟩, List.mem_of_getElem? (i := 452) (by decide +kernel), List.mem_of_getElem? (i := 615) (by decide +kernel), List.mem_of_getElem? (i := 616) (by decide +kernel)⟩
theorem lw_p13 : lw_okq (⟨"StackRoomModel", "isNilOrContext", "(I)Z"⟩, 25) := ⟨⟨by decide +kernel, by decide +kernel⟩, List.mem_of_getElem? (i := 452) (by decide +kernel), List.mem_of_getElem? (i := 623) (by decide +kernel), List.mem_of_getElem? (i := 624) (by decide +kernel)⟩
theorem lw_p14 : lw_okq (⟨"StackRoomModel", "contextIn", "(I)I"⟩, 25) := ⟨⟨by decide +kernel, by decide +kernel⟩, List.mem_of_getElem? (i := 452) (by decide +kernel), List.mem_of_getElem? (i := 627) (by decide +kernel), List.mem_of_getElem? (i := 628) (by decide +kernel)⟩
theorem lw_p15 : lw_okq (⟨"StackRoomModel", "settle", "(IIIZII)I"⟩, 25) := ⟨⟨by decide +kernel, by decide +kernel⟩, List.mem_of_getElem? (i := 452) (by decide +kernel), List.mem_of_getElem? (i := 631) (by decide +kernel), List.mem_of_getElem? (i := 632) (by decide +kernel)⟩
def lw_privs_1 : List (MethodName × Nat) := [(⟨"StackRoom", "canBeMade", "(II)Z"⟩, 10), (⟨"StackRoom", "survey", "()V"⟩, 10), (⟨"StackRoom", "reach", "(LStackRoom$Value;)V"⟩, 10), (⟨"StackRoom", "reachPartsOf", "(LStackRoom$Context;)V"⟩, 10), (⟨"StackRoom", "methodIn", "(I)LStackRoom$Method;"⟩, 10), (⟨"StackRoom", "isSender", "(I)Z"⟩, 10), (⟨"StackRoom", "contextIn", "(I)LStackRoom$Context;"⟩, 10), (⟨"StackRoomModel", "look", "()V"⟩, 25), (⟨"StackRoomModel", "see", "(I)V"⟩, 25), (⟨"StackRoomModel", "make", "(IIII)I"⟩, 25), (⟨"StackRoomModel", "letGo", "()V"⟩, 25), (⟨"StackRoomModel", "give", "(IIII)V"⟩, 25), (⟨"StackRoomModel", "objectIn", "(III)I"⟩, 25), (⟨"StackRoomModel", "isNilOrContext", "(I)Z"⟩, 25), (⟨"StackRoomModel", "contextIn", "(I)I"⟩, 25), (⟨"StackRoomModel", "settle", "(IIIZII)I"⟩, 25)]
theorem lw_r1 : ∀ q ∈ lw_privs_1, lw_okq q := List.forall_mem_cons.mpr ⟨lw_p0, List.forall_mem_cons.mpr ⟨lw_p1, List.forall_mem_cons.mpr ⟨lw_p2, List.forall_mem_cons.mpr ⟨lw_p3, List.forall_mem_cons.mpr ⟨lw_p4, List.forall_mem_cons.mpr ⟨lw_p5, List.forall_mem_cons.mpr ⟨lw_p6, List.forall_mem_cons.mpr ⟨lw_p7, List.forall_mem_cons.mpr ⟨lw_p8, List.forall_mem_cons.mpr ⟨lw_p9, List.forall_mem_cons.mpr ⟨lw_p10, List.forall_mem_cons.mpr ⟨lw_p11, List.forall_mem_cons.mpr ⟨lw_p12, List.forall_mem_cons.mpr ⟨lw_p13, List.forall_mem_cons.mpr ⟨lw_p14, List.forall_mem_cons.mpr ⟨lw_p15, fun _ h => absurd h List.not_mem_nil⟩⟩⟩⟩⟩⟩⟩⟩⟩⟩⟩⟩⟩⟩⟩⟩
theorem lw_p16 : lw_okq (⟨"StackRoomModel", "homeOf", "(I)I"⟩, 25) := ⟨⟨by decide +kernel, by decide +kernel⟩, List.mem_of_getElem? (i := 452) (by decide +kernel), List.mem_of_getElem? (i := 639) (by decide +kernel), List.mem_of_getElem? (i := 640) (by decide +kernel)⟩
theorem lw_p17 : lw_okq (⟨"StackRoomModel", "pushes", "(II)Z"⟩, 25) := ⟨⟨by decide +kernel, by decide +kernel⟩, List.mem_of_getElem? (i := 452) (by decide +kernel), List.mem_of_getElem? (i := 647) (by decide +kernel), List.mem_of_getElem? (i := 648) (by decide +kernel)⟩
theorem lw_p18 : lw_okq (⟨"StackRoomModel", "floorOf", "(I)I"⟩, 25) := ⟨⟨by decide +kernel, by decide +kernel⟩, List.mem_of_getElem? (i := 452) (by decide +kernel), List.mem_of_getElem? (i := 659) (by decide +kernel), List.mem_of_getElem? (i := 660) (by decide +kernel)⟩
theorem lw_p19 : lw_okq (⟨"StackRoomModel", "popped", "(I)I"⟩, 25) := ⟨⟨by decide +kernel, by decide +kernel⟩, List.mem_of_getElem? (i := 452) (by decide +kernel), List.mem_of_getElem? (i := 663) (by decide +kernel), List.mem_of_getElem? (i := 664) (by decide +kernel)⟩
theorem lw_p20 : lw_okq (⟨"StackRoomModel", "placeOf", "(II)I"⟩, 25) := ⟨⟨by decide +kernel, by decide +kernel⟩, List.mem_of_getElem? (i := 452) (by decide +kernel), List.mem_of_getElem? (i := 711) (by decide +kernel), List.mem_of_getElem? (i := 712) (by decide +kernel)⟩
def lw_privs_2 : List (MethodName × Nat) := [(⟨"StackRoomModel", "homeOf", "(I)I"⟩, 25), (⟨"StackRoomModel", "pushes", "(II)Z"⟩, 25), (⟨"StackRoomModel", "floorOf", "(I)I"⟩, 25), (⟨"StackRoomModel", "popped", "(I)I"⟩, 25), (⟨"StackRoomModel", "placeOf", "(II)I"⟩, 25)]
theorem lw_r2 : ∀ q ∈ lw_privs_2, lw_okq q := List.forall_mem_cons.mpr ⟨lw_p16, List.forall_mem_cons.mpr ⟨lw_p17, List.forall_mem_cons.mpr ⟨lw_p18, List.forall_mem_cons.mpr ⟨lw_p19, List.forall_mem_cons.mpr ⟨lw_p20, fun _ h => absurd h List.not_mem_nil⟩⟩⟩⟩⟩
def lw_privs : List (MethodName × Nat) := lw_privs_1 ++ (lw_privs_2)
def lw_tbl : List Cond := k2_sels lw_privs ++ tables_1
theorem lw_privs_ok : ∀ q ∈ lw_privs, lw_okq q := by
  show ∀ q ∈ lw_privs_1 ++ (lw_privs_2), lw_okq q
  exact List.forall_mem_append.mpr ⟨lw_r1, lw_r2⟩
def T_S : u_T := fun k => match k with
  | 0 => ("StackRoom", "allWords", "I", true)
  | 1 => ("StackRoom", "allEntries", "I", true)
  | 2 => ("StackRoom", "registers", "[LStackRoom$Value;", true)
  | 3 => ("StackRoom", "made", "I", false)
  | 4 => ("StackRoom", "reached", "[LStackRoom$Thing;", true)
  | 5 => ("StackRoom", "reachedCount", "I", false)
  | 6 => ("StackRoom", "round", "I", false)
  | 7 => ("StackRoom", "wordsLeft", "I", false)
  | 8 => ("StackRoom", "entriesLeft", "I", false)
  | _ => ("StackRoom", "contextsReached", "I", false)
def ty_S : Nat → FieldType := fun k => match k with
  | 0 => .int
  | 1 => .int
  | 2 => .array (.object "StackRoom$Value")
  | 3 => .int
  | 4 => .array (.object "StackRoom$Thing")
  | 5 => .int
  | 6 => .int
  | 7 => .int
  | 8 => .int
  | _ => .int
theorem nm_S : ∀ a, a < 10 → ∀ b, b < 10 → a ≠ b → (T_S a).2.1 ≠ (T_S b).2.1 := by decide +kernel
theorem tk_S : ∀ k, k < 10 → parseFieldDescriptor (T_S k).2.2.1 = some (ty_S k) := by decide +kernel
theorem in_S : ∀ w ∈ u_ws "StackRoom" T_S 10, w ∈ lw_tbl.filter goodWord := by decide +kernel
def T_W : u_T := fun k => match k with
  | _ => ("StackRoom$Whole", "amount", "I", true)
def ty_W : Nat → FieldType := fun k => match k with
  | _ => .int
theorem nm_W : ∀ a, a < 1 → ∀ b, b < 1 → a ≠ b → (T_W a).2.1 ≠ (T_W b).2.1 := by decide +kernel
theorem tk_W : ∀ k, k < 1 → parseFieldDescriptor (T_W k).2.2.1 = some (ty_W k) := by decide +kernel
theorem in_W : ∀ w ∈ u_ws "StackRoom$Whole" T_W 1, w ∈ lw_tbl.filter goodWord := by decide +kernel
def T_M : u_T := fun k => match k with
  | 0 => ("StackRoom$Thing", "identity", "I", true)
  | 1 => ("StackRoom$Thing", "round", "I", false)
  | 2 => ("StackRoom$Method", "temporaries", "I", false)
  | _ => ("StackRoom$Method", "depth", "I", false)
def ty_M : Nat → FieldType := fun k => match k with
  | 0 => .int
  | 1 => .int
  | 2 => .int
  | _ => .int
theorem nm_M : ∀ a, a < 4 → ∀ b, b < 4 → a ≠ b → (T_M a).2.1 ≠ (T_M b).2.1 := by decide +kernel
theorem tk_M : ∀ k, k < 4 → parseFieldDescriptor (T_M k).2.2.1 = some (ty_M k) := by decide +kernel
theorem in_M : ∀ w ∈ u_ws "StackRoom$Method" T_M 4, w ∈ lw_tbl.filter goodWord := by decide +kernel
def T_X : u_T := fun k => match k with
  | 0 => ("StackRoom$Thing", "identity", "I", true)
  | 1 => ("StackRoom$Thing", "round", "I", false)
  | 2 => ("StackRoom$Context", "sender", "LStackRoom$Context;", false)
  | 3 => ("StackRoom$Context", "dead", "Z", false)
  | 4 => ("StackRoom$Context", "height", "I", false)
  | 5 => ("StackRoom$Context", "fields", "[LStackRoom$Value;", true)
  | _ => ("StackRoom$MethodContext", "method", "LStackRoom$Method;", true)
def ty_X : Nat → FieldType := fun k => match k with
  | 0 => .int
  | 1 => .int
  | 2 => .object "StackRoom$Context"
  | 3 => .boolean
  | 4 => .int
  | 5 => .array (.object "StackRoom$Value")
  | _ => .object "StackRoom$Method"
theorem nm_X : ∀ a, a < 7 → ∀ b, b < 7 → a ≠ b → (T_X a).2.1 ≠ (T_X b).2.1 := by decide +kernel
theorem tk_X : ∀ k, k < 7 → parseFieldDescriptor (T_X k).2.2.1 = some (ty_X k) := by decide +kernel
theorem in_X : ∀ w ∈ u_ws "StackRoom$MethodContext" T_X 7, w ∈ lw_tbl.filter goodWord := by decide +kernel
def T_B : u_T := fun k => match k with
  | 0 => ("StackRoom$Thing", "identity", "I", true)
  | 1 => ("StackRoom$Thing", "round", "I", false)
  | 2 => ("StackRoom$Context", "sender", "LStackRoom$Context;", false)
  | 3 => ("StackRoom$Context", "dead", "Z", false)
  | 4 => ("StackRoom$Context", "height", "I", false)
  | 5 => ("StackRoom$Context", "fields", "[LStackRoom$Value;", true)
  | 6 => ("StackRoom$BlockContext", "home", "LStackRoom$MethodContext;", true)
  | _ => ("StackRoom$BlockContext", "count", "I", true)
def ty_B : Nat → FieldType := fun k => match k with
  | 0 => .int
  | 1 => .int
  | 2 => .object "StackRoom$Context"
  | 3 => .boolean
  | 4 => .int
  | 5 => .array (.object "StackRoom$Value")
  | 6 => .object "StackRoom$MethodContext"
  | _ => .int
theorem nm_B : ∀ a, a < 8 → ∀ b, b < 8 → a ≠ b → (T_B a).2.1 ≠ (T_B b).2.1 := by decide +kernel
theorem tk_B : ∀ k, k < 8 → parseFieldDescriptor (T_B k).2.2.1 = some (ty_B k) := by decide +kernel
theorem in_B : ∀ w ∈ u_ws "StackRoom$BlockContext" T_B 8, w ∈ lw_tbl.filter goodWord := by decide +kernel
def T_R : u_T := fun k => match k with
  | 0 => ("StackRoomModel", "words", "I", true)
  | 1 => ("StackRoomModel", "entries", "I", true)
  | 2 => ("StackRoomModel", "made", "I", false)
  | 3 => ("StackRoomModel", "registers", "[I", true)
  | 4 => ("StackRoomModel", "kinds", "[B", true)
  | 5 => ("StackRoomModel", "identities", "[I", true)
  | 6 => ("StackRoomModel", "arguments", "[I", true)
  | 7 => ("StackRoomModel", "temporaries", "[I", true)
  | 8 => ("StackRoomModel", "depths", "[I", true)
  | 9 => ("StackRoomModel", "senders", "[I", true)
  | 10 => ("StackRoomModel", "dead", "[Z", true)
  | 11 => ("StackRoomModel", "heights", "[I", true)
  | 12 => ("StackRoomModel", "links", "[I", true)
  | 13 => ("StackRoomModel", "counts", "[I", true)
  | 14 => ("StackRoomModel", "begins", "[I", true)
  | 15 => ("StackRoomModel", "rooms", "[I", true)
  | 16 => ("StackRoomModel", "fields", "[I", false)
  | 17 => ("StackRoomModel", "other", "[I", false)
  | 18 => ("StackRoomModel", "used", "I", false)
  | 19 => ("StackRoomModel", "seen", "[Z", true)
  | 20 => ("StackRoomModel", "todo", "[I", true)
  | 21 => ("StackRoomModel", "reached", "I", false)
  | 22 => ("StackRoomModel", "reachedObjects", "I", false)
  | 23 => ("StackRoomModel", "reachedWords", "I", false)
  | _ => ("StackRoomModel", "reachedContexts", "I", false)
def ty_R : Nat → FieldType := fun k => match k with
  | 0 => .int
  | 1 => .int
  | 2 => .int
  | 3 => .array .int
  | 4 => .array .byte
  | 5 => .array .int
  | 6 => .array .int
  | 7 => .array .int
  | 8 => .array .int
  | 9 => .array .int
  | 10 => .array .boolean
  | 11 => .array .int
  | 12 => .array .int
  | 13 => .array .int
  | 14 => .array .int
  | 15 => .array .int
  | 16 => .array .int
  | 17 => .array .int
  | 18 => .int
  | 19 => .array .boolean
  | 20 => .array .int
  | 21 => .int
  | 22 => .int
  | 23 => .int
  | _ => .int
theorem nm_R : ∀ a, a < 25 → ∀ b, b < 25 → a ≠ b → (T_R a).2.1 ≠ (T_R b).2.1 := by decide +kernel
theorem tk_R : ∀ k, k < 25 → parseFieldDescriptor (T_R k).2.2.1 = some (ty_R k) := by decide +kernel
theorem in_R : ∀ w ∈ u_ws "StackRoomModel" T_R 25, w ∈ lw_tbl.filter goodWord := by decide +kernel
abbrev vwCl : List vw_C := [("StackRoom", T_S, 10), ("StackRoom$Whole", T_W, 1), ("StackRoom$Method", T_M, 4), ("StackRoom$MethodContext", T_X, 7), ("StackRoom$BlockContext", T_B, 8), ("StackRoomModel", T_R, 25)]
abbrev b_S_init : ByteArray := prog_1_method_1_code
def y_S_init : MethodName := ⟨"StackRoom", "<init>", "(II)V"⟩
abbrev b_O_init : ByteArray := ⟨#[0xb1]⟩
def y_O_init : MethodName := ⟨"java/lang/Object", "<init>", "()V"⟩
abbrev b_S_isWithin : ByteArray := prog_1_method_29_code
def y_S_isWithin : MethodName := ⟨"StackRoom", "isWithin", "(III)Z"⟩
abbrev b_S_number : ByteArray := prog_1_method_2_code
def y_S_number : MethodName := ⟨"StackRoom", "number", "(II)Z"⟩
abbrev b_S_isRegister : ByteArray := prog_1_method_30_code
def y_S_isRegister : MethodName := ⟨"StackRoom", "isRegister", "(I)Z"⟩
abbrev b_S_isNumber : ByteArray := prog_1_method_31_code
def y_S_isNumber : MethodName := ⟨"StackRoom", "isNumber", "(I)Z"⟩
abbrev b_W_init : ByteArray := prog_8_method_1_code
def y_W_init : MethodName := ⟨"StackRoom$Whole", "<init>", "(I)V"⟩
abbrev b_V_init : ByteArray := prog_7_method_1_code
def y_V_init : MethodName := ⟨"StackRoom$Value", "<init>", "()V"⟩
abbrev b_S_move : ByteArray := prog_1_method_3_code
def y_S_move : MethodName := ⟨"StackRoom", "move", "(II)Z"⟩
abbrev b_S_clear : ByteArray := prog_1_method_4_code
def y_S_clear : MethodName := ⟨"StackRoom", "clear", "(I)Z"⟩
abbrev b_S_kind : ByteArray := prog_1_method_5_code
def y_S_kind : MethodName := ⟨"StackRoom", "kind", "(I)I"⟩
abbrev b_B_kindCode : ByteArray := prog_2_method_2_code
def y_B_kindCode : MethodName := ⟨"StackRoom$BlockContext", "kindCode", "()I"⟩
abbrev b_M_kindCode : ByteArray := prog_4_method_3_code
def y_M_kindCode : MethodName := ⟨"StackRoom$Method", "kindCode", "()I"⟩
abbrev b_X_kindCode : ByteArray := prog_5_method_3_code
def y_X_kindCode : MethodName := ⟨"StackRoom$MethodContext", "kindCode", "()I"⟩
abbrev b_W_kindCode : ByteArray := prog_8_method_2_code
def y_W_kindCode : MethodName := ⟨"StackRoom$Whole", "kindCode", "()I"⟩
abbrev b_S_value : ByteArray := prog_1_method_6_code
def y_S_value : MethodName := ⟨"StackRoom", "value", "(I)I"⟩
abbrev b_T_shown : ByteArray := prog_6_method_2_code
def y_T_shown : MethodName := ⟨"StackRoom$Thing", "shown", "()I"⟩
abbrev b_W_shown : ByteArray := prog_8_method_3_code
def y_W_shown : MethodName := ⟨"StackRoom$Whole", "shown", "()I"⟩
abbrev b_S_method : ByteArray := prog_1_method_7_code
def y_S_method : MethodName := ⟨"StackRoom", "method", "(IIII)I"⟩
abbrev b_S_areMethodNumbers : ByteArray := prog_1_method_33_code
def y_S_areMethodNumbers : MethodName := ⟨"StackRoom", "areMethodNumbers", "(III)Z"⟩
abbrev b_S_canBeMade : ByteArray := prog_1_method_37_code
def y_S_canBeMade : MethodName := ⟨"StackRoom", "canBeMade", "(II)Z"⟩
abbrev b_S_survey : ByteArray := prog_1_method_38_code
def y_S_survey : MethodName := ⟨"StackRoom", "survey", "()V"⟩
abbrev b_S_reach : ByteArray := prog_1_method_40_code
def y_S_reach : MethodName := ⟨"StackRoom", "reach", "(LStackRoom$Value;)V"⟩
abbrev b_C_wordsTaken : ByteArray := prog_3_method_6_code
def y_C_wordsTaken : MethodName := ⟨"StackRoom$Context", "wordsTaken", "()I"⟩
abbrev b_B_headFields : ByteArray := prog_2_method_3_code
def y_B_headFields : MethodName := ⟨"StackRoom$BlockContext", "headFields", "()I"⟩
abbrev b_X_headFields : ByteArray := prog_5_method_4_code
def y_X_headFields : MethodName := ⟨"StackRoom$MethodContext", "headFields", "()I"⟩
abbrev b_M_wordsTaken : ByteArray := prog_4_method_4_code
def y_M_wordsTaken : MethodName := ⟨"StackRoom$Method", "wordsTaken", "()I"⟩
abbrev b_C_entriesTaken : ByteArray := prog_3_method_7_code
def y_C_entriesTaken : MethodName := ⟨"StackRoom$Context", "entriesTaken", "()I"⟩
abbrev b_M_entriesTaken : ByteArray := prog_4_method_5_code
def y_M_entriesTaken : MethodName := ⟨"StackRoom$Method", "entriesTaken", "()I"⟩
abbrev b_S_reachPartsOf : ByteArray := prog_1_method_39_code
def y_S_reachPartsOf : MethodName := ⟨"StackRoom", "reachPartsOf", "(LStackRoom$Context;)V"⟩
abbrev b_B_origin : ByteArray := prog_2_method_6_code
def y_B_origin : MethodName := ⟨"StackRoom$BlockContext", "origin", "()LStackRoom$Thing;"⟩
abbrev b_X_origin : ByteArray := prog_5_method_7_code
def y_X_origin : MethodName := ⟨"StackRoom$MethodContext", "origin", "()LStackRoom$Thing;"⟩
abbrev b_M_init : ByteArray := prog_4_method_1_code
def y_M_init : MethodName := ⟨"StackRoom$Method", "<init>", "(III)V"⟩
abbrev b_T_init : ByteArray := prog_6_method_1_code
def y_T_init : MethodName := ⟨"StackRoom$Thing", "<init>", "(I)V"⟩
abbrev b_S_change : ByteArray := prog_1_method_8_code
def y_S_change : MethodName := ⟨"StackRoom", "change", "(IIII)Z"⟩
abbrev b_S_methodIn : ByteArray := prog_1_method_35_code
def y_S_methodIn : MethodName := ⟨"StackRoom", "methodIn", "(I)LStackRoom$Method;"⟩
abbrev b_M_setNumbers : ByteArray := prog_4_method_2_code
def y_M_setNumbers : MethodName := ⟨"StackRoom$Method", "setNumbers", "(II)V"⟩
abbrev b_S_context : ByteArray := prog_1_method_9_code
def y_S_context : MethodName := ⟨"StackRoom", "context", "(III)I"⟩
abbrev b_S_isSender : ByteArray := prog_1_method_34_code
def y_S_isSender : MethodName := ⟨"StackRoom", "isSender", "(I)Z"⟩
abbrev b_S_contextIn : ByteArray := prog_1_method_36_code
def y_S_contextIn : MethodName := ⟨"StackRoom", "contextIn", "(I)LStackRoom$Context;"⟩
abbrev b_X_init : ByteArray := prog_5_method_1_code
def y_X_init : MethodName := ⟨"StackRoom$MethodContext", "<init>", "(ILStackRoom$Method;LStackRoom$Context;)V"⟩
abbrev b_C_init : ByteArray := prog_3_method_1_code
def y_C_init : MethodName := ⟨"StackRoom$Context", "<init>", "(ILStackRoom$Context;ZII)V"⟩
abbrev b_S_block : ByteArray := prog_1_method_10_code
def y_S_block : MethodName := ⟨"StackRoom", "block", "(III)I"⟩
abbrev b_B_homeContext : ByteArray := prog_2_method_5_code
def y_B_homeContext : MethodName := ⟨"StackRoom$BlockContext", "homeContext", "()LStackRoom$MethodContext;"⟩
abbrev b_X_homeContext : ByteArray := prog_5_method_6_code
def y_X_homeContext : MethodName := ⟨"StackRoom$MethodContext", "homeContext", "()LStackRoom$MethodContext;"⟩
abbrev b_B_init : ByteArray := prog_2_method_1_code
def y_B_init : MethodName := ⟨"StackRoom$BlockContext", "<init>", "(ILStackRoom$MethodContext;I)V"⟩
abbrev b_S_push : ByteArray := prog_1_method_11_code
def y_S_push : MethodName := ⟨"StackRoom", "push", "(II)Z"⟩
abbrev b_C_isFull : ByteArray := prog_3_method_8_code
def y_C_isFull : MethodName := ⟨"StackRoom$Context", "isFull", "()Z"⟩
abbrev b_C_pushOne : ByteArray := prog_3_method_13_code
def y_C_pushOne : MethodName := ⟨"StackRoom$Context", "pushOne", "(LStackRoom$Value;)V"⟩
abbrev b_C_putField : ByteArray := prog_3_method_12_code
def y_C_putField : MethodName := ⟨"StackRoom$Context", "putField", "(ILStackRoom$Value;)V"⟩
abbrev b_C_hasField : ByteArray := prog_3_method_10_code
def y_C_hasField : MethodName := ⟨"StackRoom$Context", "hasField", "(I)Z"⟩
abbrev b_S_fill : ByteArray := prog_1_method_12_code
def y_S_fill : MethodName := ⟨"StackRoom", "fill", "(III)I"⟩
abbrev b_S_areNumbers : ByteArray := prog_1_method_32_code
def y_S_areNumbers : MethodName := ⟨"StackRoom", "areNumbers", "(II)Z"⟩
abbrev b_S_pop : ByteArray := prog_1_method_13_code
def y_S_pop : MethodName := ⟨"StackRoom", "pop", "(II)Z"⟩
abbrev b_C_depthNow : ByteArray := prog_3_method_9_code
def y_C_depthNow : MethodName := ⟨"StackRoom$Context", "depthNow", "()I"⟩
abbrev b_B_floorNow : ByteArray := prog_2_method_4_code
def y_B_floorNow : MethodName := ⟨"StackRoom$BlockContext", "floorNow", "()I"⟩
abbrev b_X_floorNow : ByteArray := prog_5_method_5_code
def y_X_floorNow : MethodName := ⟨"StackRoom$MethodContext", "floorNow", "()I"⟩
abbrev b_C_popOne : ByteArray := prog_3_method_14_code
def y_C_popOne : MethodName := ⟨"StackRoom$Context", "popOne", "()LStackRoom$Value;"⟩
abbrev b_C_fieldAt : ByteArray := prog_3_method_11_code
def y_C_fieldAt : MethodName := ⟨"StackRoom$Context", "fieldAt", "(I)LStackRoom$Value;"⟩
abbrev b_S_peek : ByteArray := prog_1_method_14_code
def y_S_peek : MethodName := ⟨"StackRoom", "peek", "(III)Z"⟩
abbrev b_S_drop : ByteArray := prog_1_method_15_code
def y_S_drop : MethodName := ⟨"StackRoom", "drop", "(II)Z"⟩
abbrev b_S_height : ByteArray := prog_1_method_16_code
def y_S_height : MethodName := ⟨"StackRoom", "height", "(I)I"⟩
abbrev b_S_room : ByteArray := prog_1_method_17_code
def y_S_room : MethodName := ⟨"StackRoom", "room", "(I)I"⟩
abbrev b_S_floor : ByteArray := prog_1_method_18_code
def y_S_floor : MethodName := ⟨"StackRoom", "floor", "(I)I"⟩
abbrev b_S_count : ByteArray := prog_1_method_19_code
def y_S_count : MethodName := ⟨"StackRoom", "count", "(I)I"⟩
abbrev b_S_home : ByteArray := prog_1_method_20_code
def y_S_home : MethodName := ⟨"StackRoom", "home", "(II)Z"⟩
abbrev b_S_sender : ByteArray := prog_1_method_21_code
def y_S_sender : MethodName := ⟨"StackRoom", "sender", "(II)Z"⟩
abbrev b_S_send : ByteArray := prog_1_method_22_code
def y_S_send : MethodName := ⟨"StackRoom", "send", "(II)Z"⟩
abbrev b_S_kill : ByteArray := prog_1_method_23_code
def y_S_kill : MethodName := ⟨"StackRoom", "kill", "(IZ)Z"⟩
abbrev b_S_temporary : ByteArray := prog_1_method_24_code
def y_S_temporary : MethodName := ⟨"StackRoom", "temporary", "(III)Z"⟩
abbrev b_X_hasTemporary : ByteArray := prog_5_method_2_code
def y_X_hasTemporary : MethodName := ⟨"StackRoom$MethodContext", "hasTemporary", "(I)Z"⟩
abbrev b_S_keep : ByteArray := prog_1_method_25_code
def y_S_keep : MethodName := ⟨"StackRoom", "keep", "(III)Z"⟩
abbrev b_S_words : ByteArray := prog_1_method_26_code
def y_S_words : MethodName := ⟨"StackRoom", "words", "()I"⟩
abbrev b_S_entries : ByteArray := prog_1_method_27_code
def y_S_entries : MethodName := ⟨"StackRoom", "entries", "()I"⟩
abbrev b_S_contexts : ByteArray := prog_1_method_28_code
def y_S_contexts : MethodName := ⟨"StackRoom", "contexts", "()I"⟩
abbrev b_L_cell : ByteArray := method_2_code
def y_L_cell : MethodName := ⟨"StackRoomLaw", "cell", "([II)I"⟩
abbrev b_R_init : ByteArray := prog_10_method_1_code
def y_R_init : MethodName := ⟨"StackRoomModel", "<init>", "(II)V"⟩
abbrev b_R_words : ByteArray := prog_10_method_11_code
def y_R_words : MethodName := ⟨"StackRoomModel", "words", "()I"⟩
abbrev b_R_look : ByteArray := prog_10_method_10_code
def y_R_look : MethodName := ⟨"StackRoomModel", "look", "()V"⟩
abbrev b_R_see : ByteArray := prog_10_method_9_code
def y_R_see : MethodName := ⟨"StackRoomModel", "see", "(I)V"⟩
abbrev b_R_isObject : ByteArray := prog_10_method_5_code
def y_R_isObject : MethodName := ⟨"StackRoomModel", "isObject", "(I)Z"⟩
abbrev b_R_entries : ByteArray := prog_10_method_12_code
def y_R_entries : MethodName := ⟨"StackRoomModel", "entries", "()I"⟩
abbrev b_R_contexts : ByteArray := prog_10_method_13_code
def y_R_contexts : MethodName := ⟨"StackRoomModel", "contexts", "()I"⟩
abbrev b_R_number : ByteArray := prog_10_method_16_code
def y_R_number : MethodName := ⟨"StackRoomModel", "number", "(II)Z"⟩
abbrev b_R_isRegister : ByteArray := prog_10_method_2_code
def y_R_isRegister : MethodName := ⟨"StackRoomModel", "isRegister", "(I)Z"⟩
abbrev b_R_isNumber : ByteArray := prog_10_method_3_code
def y_R_isNumber : MethodName := ⟨"StackRoomModel", "isNumber", "(I)Z"⟩
abbrev b_R_numeral : ByteArray := prog_10_method_4_code
def y_R_numeral : MethodName := ⟨"StackRoomModel", "numeral", "(I)I"⟩
abbrev b_R_move : ByteArray := prog_10_method_17_code
def y_R_move : MethodName := ⟨"StackRoomModel", "move", "(II)Z"⟩
abbrev b_R_clear : ByteArray := prog_10_method_18_code
def y_R_clear : MethodName := ⟨"StackRoomModel", "clear", "(I)Z"⟩
abbrev b_R_kind : ByteArray := prog_10_method_19_code
def y_R_kind : MethodName := ⟨"StackRoomModel", "kind", "(I)I"⟩
abbrev b_R_value : ByteArray := prog_10_method_20_code
def y_R_value : MethodName := ⟨"StackRoomModel", "value", "(I)I"⟩
abbrev b_R_method : ByteArray := prog_10_method_23_code
def y_R_method : MethodName := ⟨"StackRoomModel", "method", "(IIII)I"⟩
abbrev b_R_isMethod : ByteArray := prog_10_method_21_code
def y_R_isMethod : MethodName := ⟨"StackRoomModel", "isMethod", "(III)Z"⟩
abbrev b_R_make : ByteArray := prog_10_method_15_code
def y_R_make : MethodName := ⟨"StackRoomModel", "make", "(IIII)I"⟩
abbrev b_R_letGo : ByteArray := prog_10_method_14_code
def y_R_letGo : MethodName := ⟨"StackRoomModel", "letGo", "()V"⟩
abbrev b_R_give : ByteArray := prog_10_method_22_code
def y_R_give : MethodName := ⟨"StackRoomModel", "give", "(IIII)V"⟩
abbrev b_R_change : ByteArray := prog_10_method_24_code
def y_R_change : MethodName := ⟨"StackRoomModel", "change", "(IIII)Z"⟩
abbrev b_R_objectIn : ByteArray := prog_10_method_6_code
def y_R_objectIn : MethodName := ⟨"StackRoomModel", "objectIn", "(III)I"⟩
abbrev b_R_context : ByteArray := prog_10_method_26_code
def y_R_context : MethodName := ⟨"StackRoomModel", "context", "(III)I"⟩
abbrev b_R_isNilOrContext : ByteArray := prog_10_method_8_code
def y_R_isNilOrContext : MethodName := ⟨"StackRoomModel", "isNilOrContext", "(I)Z"⟩
abbrev b_R_contextIn : ByteArray := prog_10_method_7_code
def y_R_contextIn : MethodName := ⟨"StackRoomModel", "contextIn", "(I)I"⟩
abbrev b_R_settle : ByteArray := prog_10_method_25_code
def y_R_settle : MethodName := ⟨"StackRoomModel", "settle", "(IIIZII)I"⟩
abbrev b_R_block : ByteArray := prog_10_method_28_code
def y_R_block : MethodName := ⟨"StackRoomModel", "block", "(III)I"⟩
abbrev b_R_homeOf : ByteArray := prog_10_method_27_code
def y_R_homeOf : MethodName := ⟨"StackRoomModel", "homeOf", "(I)I"⟩
abbrev b_R_push : ByteArray := prog_10_method_31_code
def y_R_push : MethodName := ⟨"StackRoomModel", "push", "(II)Z"⟩
abbrev b_R_pushes : ByteArray := prog_10_method_30_code
def y_R_pushes : MethodName := ⟨"StackRoomModel", "pushes", "(II)Z"⟩
abbrev b_R_fill : ByteArray := prog_10_method_32_code
def y_R_fill : MethodName := ⟨"StackRoomModel", "fill", "(III)I"⟩
abbrev b_R_pop : ByteArray := prog_10_method_34_code
def y_R_pop : MethodName := ⟨"StackRoomModel", "pop", "(II)Z"⟩
abbrev b_R_floorOf : ByteArray := prog_10_method_29_code
def y_R_floorOf : MethodName := ⟨"StackRoomModel", "floorOf", "(I)I"⟩
abbrev b_R_popped : ByteArray := prog_10_method_33_code
def y_R_popped : MethodName := ⟨"StackRoomModel", "popped", "(I)I"⟩
abbrev b_R_peek : ByteArray := prog_10_method_35_code
def y_R_peek : MethodName := ⟨"StackRoomModel", "peek", "(III)Z"⟩
abbrev b_R_drop : ByteArray := prog_10_method_36_code
def y_R_drop : MethodName := ⟨"StackRoomModel", "drop", "(II)Z"⟩
abbrev b_R_height : ByteArray := prog_10_method_37_code
def y_R_height : MethodName := ⟨"StackRoomModel", "height", "(I)I"⟩
abbrev b_R_room : ByteArray := prog_10_method_38_code
def y_R_room : MethodName := ⟨"StackRoomModel", "room", "(I)I"⟩
abbrev b_R_floor : ByteArray := prog_10_method_39_code
def y_R_floor : MethodName := ⟨"StackRoomModel", "floor", "(I)I"⟩
abbrev b_R_count : ByteArray := prog_10_method_40_code
def y_R_count : MethodName := ⟨"StackRoomModel", "count", "(I)I"⟩
abbrev b_R_home : ByteArray := prog_10_method_41_code
def y_R_home : MethodName := ⟨"StackRoomModel", "home", "(II)Z"⟩
abbrev b_R_sender : ByteArray := prog_10_method_42_code
def y_R_sender : MethodName := ⟨"StackRoomModel", "sender", "(II)Z"⟩
abbrev b_R_send : ByteArray := prog_10_method_43_code
def y_R_send : MethodName := ⟨"StackRoomModel", "send", "(II)Z"⟩
abbrev b_R_kill : ByteArray := prog_10_method_44_code
def y_R_kill : MethodName := ⟨"StackRoomModel", "kill", "(IZ)Z"⟩
abbrev b_R_temporary : ByteArray := prog_10_method_46_code
def y_R_temporary : MethodName := ⟨"StackRoomModel", "temporary", "(III)Z"⟩
abbrev b_R_placeOf : ByteArray := prog_10_method_45_code
def y_R_placeOf : MethodName := ⟨"StackRoomModel", "placeOf", "(II)I"⟩
abbrev b_R_keep : ByteArray := prog_10_method_47_code
def y_R_keep : MethodName := ⟨"StackRoomModel", "keep", "(III)Z"⟩
/-- the words that a method's words may hold; those that it is told beside them -/
def gt : List Cond := lw_tbl.filter goodWord
def nestWord : Cond → Bool
  | .fieldLinkNest .. | .methodLinkNest .. | .declares .. | .castable .. => true
  | _ => false
def nt : List Cond := lw_tbl.filter nestWord
theorem ini_L : Cond.initialized "StackRoomLaw" ∈ gt := List.mem_filter.mpr ⟨List.mem_of_getElem? (i := 21) (by decide +kernel), rfl⟩
theorem ini_S : Cond.initialized "StackRoom" ∈ gt := List.mem_filter.mpr ⟨List.mem_of_getElem? (i := 22) (by decide +kernel), rfl⟩
theorem ini_R : Cond.initialized "StackRoomModel" ∈ gt := List.mem_filter.mpr ⟨List.mem_of_getElem? (i := 23) (by decide +kernel), rfl⟩
theorem ini_V : Cond.initialized "StackRoom$Value" ∈ gt := List.mem_filter.mpr ⟨List.mem_of_getElem? (i := 24) (by decide +kernel), rfl⟩
theorem ini_W : Cond.initialized "StackRoom$Whole" ∈ gt := List.mem_filter.mpr ⟨List.mem_of_getElem? (i := 25) (by decide +kernel), rfl⟩
theorem ini_T : Cond.initialized "StackRoom$Thing" ∈ gt := List.mem_filter.mpr ⟨List.mem_of_getElem? (i := 26) (by decide +kernel), rfl⟩
theorem ini_M : Cond.initialized "StackRoom$Method" ∈ gt := List.mem_filter.mpr ⟨List.mem_of_getElem? (i := 27) (by decide +kernel), rfl⟩
theorem ini_C : Cond.initialized "StackRoom$Context" ∈ gt := List.mem_filter.mpr ⟨List.mem_of_getElem? (i := 28) (by decide +kernel), rfl⟩
theorem ini_X : Cond.initialized "StackRoom$MethodContext" ∈ gt := List.mem_filter.mpr ⟨List.mem_of_getElem? (i := 29) (by decide +kernel), rfl⟩
theorem ini_B : Cond.initialized "StackRoom$BlockContext" ∈ gt := List.mem_filter.mpr ⟨List.mem_of_getElem? (i := 30) (by decide +kernel), rfl⟩
theorem cl_L_S : Cond.classLink "StackRoomLaw" 7 "StackRoom" ∈ gt := List.mem_filter.mpr ⟨List.mem_of_getElem? (i := 31) (by decide +kernel), rfl⟩
theorem is_S : Cond.instantiable "StackRoom" 10 ∈ gt := List.mem_filter.mpr ⟨List.mem_of_getElem? (i := 32) (by decide +kernel), rfl⟩
theorem ml_L_S_init : Cond.methodLink "StackRoomLaw" 15 y_S_init ∈ gt := List.mem_filter.mpr ⟨List.mem_of_getElem? (i := 33) (by decide +kernel), rfl⟩
theorem im_S_init : Cond.instanceMethod y_S_init ∈ gt := List.mem_filter.mpr ⟨List.mem_of_getElem? (i := 34) (by decide +kernel), rfl⟩
set_option maxRecDepth 20000 in
theorem co_S_init : Cond.code y_S_init b_S_init 3 none ∈ gt := List.mem_filter.mpr ⟨List.mem_of_getElem? (i := 35) rfl, rfl⟩
theorem ml_S_O_init : Cond.methodLink "StackRoom" 1 y_O_init ∈ gt := List.mem_filter.mpr ⟨List.mem_of_getElem? (i := 36) (by decide +kernel), rfl⟩
theorem im_O_init : Cond.instanceMethod y_O_init ∈ gt := List.mem_filter.mpr ⟨List.mem_of_getElem? (i := 37) (by decide +kernel), rfl⟩
set_option maxRecDepth 20000 in
theorem co_O_init : Cond.code y_O_init b_O_init 1 none ∈ gt := List.mem_filter.mpr ⟨List.mem_of_getElem? (i := 38) rfl, rfl⟩
theorem cs_S_32768 : Cond.constant "StackRoom" 9 (32768) ∈ gt := List.mem_filter.mpr ⟨List.mem_of_getElem? (i := 39) (by decide +kernel), rfl⟩
theorem ml_S_S_isWithin : Cond.methodLink "StackRoom" 10 y_S_isWithin ∈ gt := List.mem_filter.mpr ⟨List.mem_of_getElem? (i := 40) (by decide +kernel), rfl⟩
theorem st_S_isWithin : Cond.static y_S_isWithin ∈ gt := List.mem_filter.mpr ⟨List.mem_of_getElem? (i := 41) (by decide +kernel), rfl⟩
set_option maxRecDepth 20000 in
theorem co_S_isWithin : Cond.code y_S_isWithin b_S_isWithin 3 (some .boolean) ∈ gt := List.mem_filter.mpr ⟨List.mem_of_getElem? (i := 42) rfl, rfl⟩
theorem cl_S_V : Cond.classLink "StackRoom" 21 "StackRoom$Value" ∈ gt := List.mem_filter.mpr ⟨List.mem_of_getElem? (i := 43) (by decide +kernel), rfl⟩
theorem ao_V : Cond.arrayOver (.object "StackRoom$Value") ∈ lw_tbl := List.mem_of_getElem? (i := 44) (by decide +kernel)
theorem cl_S_T : Cond.classLink "StackRoom" 27 "StackRoom$Thing" ∈ gt := List.mem_filter.mpr ⟨List.mem_of_getElem? (i := 45) (by decide +kernel), rfl⟩
theorem ao_T : Cond.arrayOver (.object "StackRoom$Thing") ∈ lw_tbl := List.mem_of_getElem? (i := 46) (by decide +kernel)
theorem fl_S_S_allWords : Cond.fieldLink "StackRoom" 14 "StackRoom" "allWords" "I" ∈ gt := List.mem_filter.mpr ⟨List.mem_of_getElem? (i := 47) (by decide +kernel), rfl⟩
theorem fl_S_S_allEntries : Cond.fieldLink "StackRoom" 18 "StackRoom" "allEntries" "I" ∈ gt := List.mem_filter.mpr ⟨List.mem_of_getElem? (i := 48) (by decide +kernel), rfl⟩
theorem fl_S_S_registers : Cond.fieldLink "StackRoom" 23 "StackRoom" "registers" "[LStackRoom$Value;" ∈ gt := List.mem_filter.mpr ⟨List.mem_of_getElem? (i := 49) (by decide +kernel), rfl⟩
theorem fl_S_S_made : Cond.fieldLink "StackRoom" 33 "StackRoom" "made" "I" ∈ gt := List.mem_filter.mpr ⟨List.mem_of_getElem? (i := 50) (by decide +kernel), rfl⟩
theorem fl_S_S_reached : Cond.fieldLink "StackRoom" 29 "StackRoom" "reached" "[LStackRoom$Thing;" ∈ gt := List.mem_filter.mpr ⟨List.mem_of_getElem? (i := 51) (by decide +kernel), rfl⟩
theorem fl_S_S_reachedCount : Cond.fieldLink "StackRoom" 175 "StackRoom" "reachedCount" "I" ∈ gt := List.mem_filter.mpr ⟨List.mem_of_getElem? (i := 52) (by decide +kernel), rfl⟩
theorem fl_S_S_round : Cond.fieldLink "StackRoom" 172 "StackRoom" "round" "I" ∈ gt := List.mem_filter.mpr ⟨List.mem_of_getElem? (i := 53) (by decide +kernel), rfl⟩
theorem fl_S_S_wordsLeft : Cond.fieldLink "StackRoom" 161 "StackRoom" "wordsLeft" "I" ∈ gt := List.mem_filter.mpr ⟨List.mem_of_getElem? (i := 54) (by decide +kernel), rfl⟩
theorem fl_S_S_entriesLeft : Cond.fieldLink "StackRoom" 164 "StackRoom" "entriesLeft" "I" ∈ gt := List.mem_filter.mpr ⟨List.mem_of_getElem? (i := 55) (by decide +kernel), rfl⟩
theorem fl_S_S_contextsReached : Cond.fieldLink "StackRoom" 167 "StackRoom" "contextsReached" "I" ∈ gt := List.mem_filter.mpr ⟨List.mem_of_getElem? (i := 56) (by decide +kernel), rfl⟩
theorem ml_L_S_number : Cond.methodLink "StackRoomLaw" 21 y_S_number ∈ gt := List.mem_filter.mpr ⟨List.mem_of_getElem? (i := 78) (by decide +kernel), rfl⟩
theorem im_S_number : Cond.instanceMethod y_S_number ∈ gt := List.mem_filter.mpr ⟨List.mem_of_getElem? (i := 79) (by decide +kernel), rfl⟩
theorem se_S_S_number_S : Cond.selects "StackRoom" y_S_number y_S_number ∈ gt := List.mem_filter.mpr ⟨List.mem_of_getElem? (i := 80) (by decide +kernel), rfl⟩
set_option maxRecDepth 20000 in
theorem co_S_number : Cond.code y_S_number b_S_number 3 (some .boolean) ∈ gt := List.mem_filter.mpr ⟨List.mem_of_getElem? (i := 81) rfl, rfl⟩
theorem ml_S_S_isRegister : Cond.methodLink "StackRoom" 36 y_S_isRegister ∈ gt := List.mem_filter.mpr ⟨List.mem_of_getElem? (i := 82) (by decide +kernel), rfl⟩
theorem st_S_isRegister : Cond.static y_S_isRegister ∈ gt := List.mem_filter.mpr ⟨List.mem_of_getElem? (i := 83) (by decide +kernel), rfl⟩
set_option maxRecDepth 20000 in
theorem co_S_isRegister : Cond.code y_S_isRegister b_S_isRegister 1 (some .boolean) ∈ gt := List.mem_filter.mpr ⟨List.mem_of_getElem? (i := 84) rfl, rfl⟩
theorem ml_S_S_isNumber : Cond.methodLink "StackRoom" 40 y_S_isNumber ∈ gt := List.mem_filter.mpr ⟨List.mem_of_getElem? (i := 85) (by decide +kernel), rfl⟩
theorem st_S_isNumber : Cond.static y_S_isNumber ∈ gt := List.mem_filter.mpr ⟨List.mem_of_getElem? (i := 86) (by decide +kernel), rfl⟩
set_option maxRecDepth 20000 in
theorem co_S_isNumber : Cond.code y_S_isNumber b_S_isNumber 1 (some .boolean) ∈ gt := List.mem_filter.mpr ⟨List.mem_of_getElem? (i := 87) rfl, rfl⟩
theorem cs_S_m1073741824 : Cond.constant "StackRoom" 170 (-1073741824) ∈ gt := List.mem_filter.mpr ⟨List.mem_of_getElem? (i := 88) (by decide +kernel), rfl⟩
theorem cs_S_1073741823 : Cond.constant "StackRoom" 171 (1073741823) ∈ gt := List.mem_filter.mpr ⟨List.mem_of_getElem? (i := 89) (by decide +kernel), rfl⟩
theorem cl_S_W : Cond.classLink "StackRoom" 43 "StackRoom$Whole" ∈ gt := List.mem_filter.mpr ⟨List.mem_of_getElem? (i := 90) (by decide +kernel), rfl⟩
theorem is_W : Cond.instantiable "StackRoom$Whole" 1 ∈ gt := List.mem_filter.mpr ⟨List.mem_of_getElem? (i := 91) (by decide +kernel), rfl⟩
theorem ml_S_W_init : Cond.methodLink "StackRoom" 45 y_W_init ∈ gt := List.mem_filter.mpr ⟨List.mem_of_getElem? (i := 92) (by decide +kernel), rfl⟩
theorem im_W_init : Cond.instanceMethod y_W_init ∈ gt := List.mem_filter.mpr ⟨List.mem_of_getElem? (i := 93) (by decide +kernel), rfl⟩
set_option maxRecDepth 20000 in
theorem co_W_init : Cond.code y_W_init b_W_init 2 none ∈ gt := List.mem_filter.mpr ⟨List.mem_of_getElem? (i := 94) rfl, rfl⟩
theorem mn_W_V_init : Cond.methodLinkNest "StackRoom$Whole" 3 y_V_init "StackRoom" ∈ nt := List.mem_filter.mpr ⟨List.mem_of_getElem? (i := 95) (by decide +kernel), rfl⟩
theorem im_V_init : Cond.instanceMethod y_V_init ∈ gt := List.mem_filter.mpr ⟨List.mem_of_getElem? (i := 96) (by decide +kernel), rfl⟩
set_option maxRecDepth 20000 in
theorem co_V_init : Cond.code y_V_init b_V_init 1 none ∈ gt := List.mem_filter.mpr ⟨List.mem_of_getElem? (i := 97) rfl, rfl⟩
theorem ml_V_O_init : Cond.methodLink "StackRoom$Value" 1 y_O_init ∈ gt := List.mem_filter.mpr ⟨List.mem_of_getElem? (i := 98) (by decide +kernel), rfl⟩
theorem fl_W_W_amount : Cond.fieldLink "StackRoom$Whole" 9 "StackRoom$Whole" "amount" "I" ∈ gt := List.mem_filter.mpr ⟨List.mem_of_getElem? (i := 99) (by decide +kernel), rfl⟩
theorem ml_L_S_move : Cond.methodLink "StackRoomLaw" 26 y_S_move ∈ gt := List.mem_filter.mpr ⟨List.mem_of_getElem? (i := 103) (by decide +kernel), rfl⟩
theorem im_S_move : Cond.instanceMethod y_S_move ∈ gt := List.mem_filter.mpr ⟨List.mem_of_getElem? (i := 104) (by decide +kernel), rfl⟩
theorem se_S_S_move_S : Cond.selects "StackRoom" y_S_move y_S_move ∈ gt := List.mem_filter.mpr ⟨List.mem_of_getElem? (i := 105) (by decide +kernel), rfl⟩
set_option maxRecDepth 20000 in
theorem co_S_move : Cond.code y_S_move b_S_move 3 (some .boolean) ∈ gt := List.mem_filter.mpr ⟨List.mem_of_getElem? (i := 106) rfl, rfl⟩
theorem ml_L_S_clear : Cond.methodLink "StackRoomLaw" 30 y_S_clear ∈ gt := List.mem_filter.mpr ⟨List.mem_of_getElem? (i := 107) (by decide +kernel), rfl⟩
theorem im_S_clear : Cond.instanceMethod y_S_clear ∈ gt := List.mem_filter.mpr ⟨List.mem_of_getElem? (i := 108) (by decide +kernel), rfl⟩
theorem se_S_S_clear_S : Cond.selects "StackRoom" y_S_clear y_S_clear ∈ gt := List.mem_filter.mpr ⟨List.mem_of_getElem? (i := 109) (by decide +kernel), rfl⟩
set_option maxRecDepth 20000 in
theorem co_S_clear : Cond.code y_S_clear b_S_clear 2 (some .boolean) ∈ gt := List.mem_filter.mpr ⟨List.mem_of_getElem? (i := 110) rfl, rfl⟩
theorem ml_L_S_kind : Cond.methodLink "StackRoomLaw" 35 y_S_kind ∈ gt := List.mem_filter.mpr ⟨List.mem_of_getElem? (i := 111) (by decide +kernel), rfl⟩
theorem im_S_kind : Cond.instanceMethod y_S_kind ∈ gt := List.mem_filter.mpr ⟨List.mem_of_getElem? (i := 112) (by decide +kernel), rfl⟩
theorem se_S_S_kind_S : Cond.selects "StackRoom" y_S_kind y_S_kind ∈ gt := List.mem_filter.mpr ⟨List.mem_of_getElem? (i := 113) (by decide +kernel), rfl⟩
set_option maxRecDepth 20000 in
theorem co_S_kind : Cond.code y_S_kind b_S_kind 3 (some .int) ∈ gt := List.mem_filter.mpr ⟨List.mem_of_getElem? (i := 114) rfl, rfl⟩
theorem ml_S_V_kindCode : Cond.methodLink "StackRoom" 48 ⟨"StackRoom$Value", "kindCode", "()I"⟩ ∈ gt := List.mem_filter.mpr ⟨List.mem_of_getElem? (i := 115) (by decide +kernel), rfl⟩
theorem dc_V_kindCode : Cond.declares ⟨"StackRoom$Value", "kindCode", "()I"⟩ ∈ nt := List.mem_filter.mpr ⟨List.mem_of_getElem? (i := 116) (by decide +kernel), rfl⟩
theorem sm_V_V_kindCode : Cond.sameMethod "StackRoom$Value" "StackRoom$Value" "kindCode" "()I" ∈ gt := List.mem_filter.mpr ⟨List.mem_of_getElem? (i := 117) (by decide +kernel), rfl⟩
theorem se_B_V_kindCode_B : Cond.selects "StackRoom$BlockContext" ⟨"StackRoom$Value", "kindCode", "()I"⟩ y_B_kindCode ∈ gt := List.mem_filter.mpr ⟨List.mem_of_getElem? (i := 118) (by decide +kernel), rfl⟩
theorem im_B_kindCode : Cond.instanceMethod y_B_kindCode ∈ gt := List.mem_filter.mpr ⟨List.mem_of_getElem? (i := 119) (by decide +kernel), rfl⟩
set_option maxRecDepth 20000 in
theorem co_B_kindCode : Cond.code y_B_kindCode b_B_kindCode 1 (some .int) ∈ gt := List.mem_filter.mpr ⟨List.mem_of_getElem? (i := 120) rfl, rfl⟩
theorem se_M_V_kindCode_M : Cond.selects "StackRoom$Method" ⟨"StackRoom$Value", "kindCode", "()I"⟩ y_M_kindCode ∈ gt := List.mem_filter.mpr ⟨List.mem_of_getElem? (i := 121) (by decide +kernel), rfl⟩
theorem im_M_kindCode : Cond.instanceMethod y_M_kindCode ∈ gt := List.mem_filter.mpr ⟨List.mem_of_getElem? (i := 122) (by decide +kernel), rfl⟩
set_option maxRecDepth 20000 in
theorem co_M_kindCode : Cond.code y_M_kindCode b_M_kindCode 1 (some .int) ∈ gt := List.mem_filter.mpr ⟨List.mem_of_getElem? (i := 123) rfl, rfl⟩
theorem se_X_V_kindCode_X : Cond.selects "StackRoom$MethodContext" ⟨"StackRoom$Value", "kindCode", "()I"⟩ y_X_kindCode ∈ gt := List.mem_filter.mpr ⟨List.mem_of_getElem? (i := 124) (by decide +kernel), rfl⟩
theorem im_X_kindCode : Cond.instanceMethod y_X_kindCode ∈ gt := List.mem_filter.mpr ⟨List.mem_of_getElem? (i := 125) (by decide +kernel), rfl⟩
set_option maxRecDepth 20000 in
theorem co_X_kindCode : Cond.code y_X_kindCode b_X_kindCode 1 (some .int) ∈ gt := List.mem_filter.mpr ⟨List.mem_of_getElem? (i := 126) rfl, rfl⟩
theorem se_W_V_kindCode_W : Cond.selects "StackRoom$Whole" ⟨"StackRoom$Value", "kindCode", "()I"⟩ y_W_kindCode ∈ gt := List.mem_filter.mpr ⟨List.mem_of_getElem? (i := 127) (by decide +kernel), rfl⟩
theorem im_W_kindCode : Cond.instanceMethod y_W_kindCode ∈ gt := List.mem_filter.mpr ⟨List.mem_of_getElem? (i := 128) (by decide +kernel), rfl⟩
set_option maxRecDepth 20000 in
theorem co_W_kindCode : Cond.code y_W_kindCode b_W_kindCode 1 (some .int) ∈ gt := List.mem_filter.mpr ⟨List.mem_of_getElem? (i := 129) rfl, rfl⟩
theorem ml_L_S_value : Cond.methodLink "StackRoomLaw" 40 y_S_value ∈ gt := List.mem_filter.mpr ⟨List.mem_of_getElem? (i := 130) (by decide +kernel), rfl⟩
theorem im_S_value : Cond.instanceMethod y_S_value ∈ gt := List.mem_filter.mpr ⟨List.mem_of_getElem? (i := 131) (by decide +kernel), rfl⟩
theorem se_S_S_value_S : Cond.selects "StackRoom" y_S_value y_S_value ∈ gt := List.mem_filter.mpr ⟨List.mem_of_getElem? (i := 132) (by decide +kernel), rfl⟩
set_option maxRecDepth 20000 in
theorem co_S_value : Cond.code y_S_value b_S_value 3 (some .int) ∈ gt := List.mem_filter.mpr ⟨List.mem_of_getElem? (i := 133) rfl, rfl⟩
theorem ml_S_V_shown : Cond.methodLink "StackRoom" 52 ⟨"StackRoom$Value", "shown", "()I"⟩ ∈ gt := List.mem_filter.mpr ⟨List.mem_of_getElem? (i := 134) (by decide +kernel), rfl⟩
theorem dc_V_shown : Cond.declares ⟨"StackRoom$Value", "shown", "()I"⟩ ∈ nt := List.mem_filter.mpr ⟨List.mem_of_getElem? (i := 135) (by decide +kernel), rfl⟩
theorem sm_V_V_shown : Cond.sameMethod "StackRoom$Value" "StackRoom$Value" "shown" "()I" ∈ gt := List.mem_filter.mpr ⟨List.mem_of_getElem? (i := 136) (by decide +kernel), rfl⟩
theorem se_B_V_shown_T : Cond.selects "StackRoom$BlockContext" ⟨"StackRoom$Value", "shown", "()I"⟩ y_T_shown ∈ gt := List.mem_filter.mpr ⟨List.mem_of_getElem? (i := 137) (by decide +kernel), rfl⟩
theorem im_T_shown : Cond.instanceMethod y_T_shown ∈ gt := List.mem_filter.mpr ⟨List.mem_of_getElem? (i := 138) (by decide +kernel), rfl⟩
set_option maxRecDepth 20000 in
theorem co_T_shown : Cond.code y_T_shown b_T_shown 1 (some .int) ∈ gt := List.mem_filter.mpr ⟨List.mem_of_getElem? (i := 139) rfl, rfl⟩
theorem se_M_V_shown_T : Cond.selects "StackRoom$Method" ⟨"StackRoom$Value", "shown", "()I"⟩ y_T_shown ∈ gt := List.mem_filter.mpr ⟨List.mem_of_getElem? (i := 140) (by decide +kernel), rfl⟩
theorem se_X_V_shown_T : Cond.selects "StackRoom$MethodContext" ⟨"StackRoom$Value", "shown", "()I"⟩ y_T_shown ∈ gt := List.mem_filter.mpr ⟨List.mem_of_getElem? (i := 141) (by decide +kernel), rfl⟩
theorem se_W_V_shown_W : Cond.selects "StackRoom$Whole" ⟨"StackRoom$Value", "shown", "()I"⟩ y_W_shown ∈ gt := List.mem_filter.mpr ⟨List.mem_of_getElem? (i := 142) (by decide +kernel), rfl⟩
theorem im_W_shown : Cond.instanceMethod y_W_shown ∈ gt := List.mem_filter.mpr ⟨List.mem_of_getElem? (i := 143) (by decide +kernel), rfl⟩
set_option maxRecDepth 20000 in
theorem co_W_shown : Cond.code y_W_shown b_W_shown 1 (some .int) ∈ gt := List.mem_filter.mpr ⟨List.mem_of_getElem? (i := 144) rfl, rfl⟩
theorem ml_L_S_method : Cond.methodLink "StackRoomLaw" 44 y_S_method ∈ gt := List.mem_filter.mpr ⟨List.mem_of_getElem? (i := 145) (by decide +kernel), rfl⟩
theorem im_S_method : Cond.instanceMethod y_S_method ∈ gt := List.mem_filter.mpr ⟨List.mem_of_getElem? (i := 146) (by decide +kernel), rfl⟩
theorem se_S_S_method_S : Cond.selects "StackRoom" y_S_method y_S_method ∈ gt := List.mem_filter.mpr ⟨List.mem_of_getElem? (i := 147) (by decide +kernel), rfl⟩
set_option maxRecDepth 20000 in
theorem co_S_method : Cond.code y_S_method b_S_method 5 (some .int) ∈ gt := List.mem_filter.mpr ⟨List.mem_of_getElem? (i := 148) rfl, rfl⟩
theorem ml_S_S_areMethodNumbers : Cond.methodLink "StackRoom" 55 y_S_areMethodNumbers ∈ gt := List.mem_filter.mpr ⟨List.mem_of_getElem? (i := 149) (by decide +kernel), rfl⟩
theorem st_S_areMethodNumbers : Cond.static y_S_areMethodNumbers ∈ gt := List.mem_filter.mpr ⟨List.mem_of_getElem? (i := 150) (by decide +kernel), rfl⟩
set_option maxRecDepth 20000 in
theorem co_S_areMethodNumbers : Cond.code y_S_areMethodNumbers b_S_areMethodNumbers 3 (some .boolean) ∈ gt := List.mem_filter.mpr ⟨List.mem_of_getElem? (i := 151) rfl, rfl⟩
theorem ml_S_S_canBeMade : Cond.methodLink "StackRoom" 58 y_S_canBeMade ∈ gt := List.mem_filter.mpr ⟨List.mem_of_getElem? (i := 152) (by decide +kernel), rfl⟩
theorem im_S_canBeMade : Cond.instanceMethod y_S_canBeMade ∈ gt := List.mem_filter.mpr ⟨List.mem_of_getElem? (i := 154) (by decide +kernel), rfl⟩
set_option maxRecDepth 20000 in
theorem co_S_canBeMade : Cond.code y_S_canBeMade b_S_canBeMade 3 (some .boolean) ∈ gt := List.mem_filter.mpr ⟨List.mem_of_getElem? (i := 155) rfl, rfl⟩
theorem ml_S_S_survey : Cond.methodLink "StackRoom" 158 y_S_survey ∈ gt := List.mem_filter.mpr ⟨List.mem_of_getElem? (i := 156) (by decide +kernel), rfl⟩
theorem im_S_survey : Cond.instanceMethod y_S_survey ∈ gt := List.mem_filter.mpr ⟨List.mem_of_getElem? (i := 158) (by decide +kernel), rfl⟩
set_option maxRecDepth 20000 in
theorem co_S_survey : Cond.code y_S_survey b_S_survey 4 none ∈ gt := List.mem_filter.mpr ⟨List.mem_of_getElem? (i := 159) rfl, rfl⟩
theorem ml_S_S_reach : Cond.methodLink "StackRoom" 178 y_S_reach ∈ gt := List.mem_filter.mpr ⟨List.mem_of_getElem? (i := 160) (by decide +kernel), rfl⟩
theorem im_S_reach : Cond.instanceMethod y_S_reach ∈ gt := List.mem_filter.mpr ⟨List.mem_of_getElem? (i := 162) (by decide +kernel), rfl⟩
set_option maxRecDepth 20000 in
theorem co_S_reach : Cond.code y_S_reach b_S_reach 3 none ∈ gt := List.mem_filter.mpr ⟨List.mem_of_getElem? (i := 163) rfl, rfl⟩
theorem ml_S_T_wordsTaken : Cond.methodLink "StackRoom" 190 ⟨"StackRoom$Thing", "wordsTaken", "()I"⟩ ∈ gt := List.mem_filter.mpr ⟨List.mem_of_getElem? (i := 164) (by decide +kernel), rfl⟩
theorem dc_T_wordsTaken : Cond.declares ⟨"StackRoom$Thing", "wordsTaken", "()I"⟩ ∈ nt := List.mem_filter.mpr ⟨List.mem_of_getElem? (i := 165) (by decide +kernel), rfl⟩
theorem sm_T_T_wordsTaken : Cond.sameMethod "StackRoom$Thing" "StackRoom$Thing" "wordsTaken" "()I" ∈ gt := List.mem_filter.mpr ⟨List.mem_of_getElem? (i := 166) (by decide +kernel), rfl⟩
theorem se_B_T_wordsTaken_C : Cond.selects "StackRoom$BlockContext" ⟨"StackRoom$Thing", "wordsTaken", "()I"⟩ y_C_wordsTaken ∈ gt := List.mem_filter.mpr ⟨List.mem_of_getElem? (i := 167) (by decide +kernel), rfl⟩
theorem im_C_wordsTaken : Cond.instanceMethod y_C_wordsTaken ∈ gt := List.mem_filter.mpr ⟨List.mem_of_getElem? (i := 168) (by decide +kernel), rfl⟩
set_option maxRecDepth 20000 in
theorem co_C_wordsTaken : Cond.code y_C_wordsTaken b_C_wordsTaken 1 (some .int) ∈ gt := List.mem_filter.mpr ⟨List.mem_of_getElem? (i := 169) rfl, rfl⟩
theorem ml_C_C_headFields : Cond.methodLink "StackRoom$Context" 29 ⟨"StackRoom$Context", "headFields", "()I"⟩ ∈ gt := List.mem_filter.mpr ⟨List.mem_of_getElem? (i := 170) (by decide +kernel), rfl⟩
theorem dc_C_headFields : Cond.declares ⟨"StackRoom$Context", "headFields", "()I"⟩ ∈ nt := List.mem_filter.mpr ⟨List.mem_of_getElem? (i := 171) (by decide +kernel), rfl⟩
theorem sm_C_C_headFields : Cond.sameMethod "StackRoom$Context" "StackRoom$Context" "headFields" "()I" ∈ gt := List.mem_filter.mpr ⟨List.mem_of_getElem? (i := 172) (by decide +kernel), rfl⟩
theorem se_B_C_headFields_B : Cond.selects "StackRoom$BlockContext" ⟨"StackRoom$Context", "headFields", "()I"⟩ y_B_headFields ∈ gt := List.mem_filter.mpr ⟨List.mem_of_getElem? (i := 173) (by decide +kernel), rfl⟩
theorem im_B_headFields : Cond.instanceMethod y_B_headFields ∈ gt := List.mem_filter.mpr ⟨List.mem_of_getElem? (i := 174) (by decide +kernel), rfl⟩
set_option maxRecDepth 20000 in
theorem co_B_headFields : Cond.code y_B_headFields b_B_headFields 1 (some .int) ∈ gt := List.mem_filter.mpr ⟨List.mem_of_getElem? (i := 175) rfl, rfl⟩
theorem se_X_C_headFields_X : Cond.selects "StackRoom$MethodContext" ⟨"StackRoom$Context", "headFields", "()I"⟩ y_X_headFields ∈ gt := List.mem_filter.mpr ⟨List.mem_of_getElem? (i := 176) (by decide +kernel), rfl⟩
theorem im_X_headFields : Cond.instanceMethod y_X_headFields ∈ gt := List.mem_filter.mpr ⟨List.mem_of_getElem? (i := 177) (by decide +kernel), rfl⟩
set_option maxRecDepth 20000 in
theorem co_X_headFields : Cond.code y_X_headFields b_X_headFields 1 (some .int) ∈ gt := List.mem_filter.mpr ⟨List.mem_of_getElem? (i := 178) rfl, rfl⟩
theorem se_M_T_wordsTaken_M : Cond.selects "StackRoom$Method" ⟨"StackRoom$Thing", "wordsTaken", "()I"⟩ y_M_wordsTaken ∈ gt := List.mem_filter.mpr ⟨List.mem_of_getElem? (i := 179) (by decide +kernel), rfl⟩
theorem im_M_wordsTaken : Cond.instanceMethod y_M_wordsTaken ∈ gt := List.mem_filter.mpr ⟨List.mem_of_getElem? (i := 180) (by decide +kernel), rfl⟩
set_option maxRecDepth 20000 in
theorem co_M_wordsTaken : Cond.code y_M_wordsTaken b_M_wordsTaken 1 (some .int) ∈ gt := List.mem_filter.mpr ⟨List.mem_of_getElem? (i := 181) rfl, rfl⟩
theorem se_X_T_wordsTaken_C : Cond.selects "StackRoom$MethodContext" ⟨"StackRoom$Thing", "wordsTaken", "()I"⟩ y_C_wordsTaken ∈ gt := List.mem_filter.mpr ⟨List.mem_of_getElem? (i := 182) (by decide +kernel), rfl⟩
theorem ml_S_T_entriesTaken : Cond.methodLink "StackRoom" 193 ⟨"StackRoom$Thing", "entriesTaken", "()I"⟩ ∈ gt := List.mem_filter.mpr ⟨List.mem_of_getElem? (i := 183) (by decide +kernel), rfl⟩
theorem dc_T_entriesTaken : Cond.declares ⟨"StackRoom$Thing", "entriesTaken", "()I"⟩ ∈ nt := List.mem_filter.mpr ⟨List.mem_of_getElem? (i := 184) (by decide +kernel), rfl⟩
theorem sm_T_T_entriesTaken : Cond.sameMethod "StackRoom$Thing" "StackRoom$Thing" "entriesTaken" "()I" ∈ gt := List.mem_filter.mpr ⟨List.mem_of_getElem? (i := 185) (by decide +kernel), rfl⟩
theorem se_B_T_entriesTaken_C : Cond.selects "StackRoom$BlockContext" ⟨"StackRoom$Thing", "entriesTaken", "()I"⟩ y_C_entriesTaken ∈ gt := List.mem_filter.mpr ⟨List.mem_of_getElem? (i := 186) (by decide +kernel), rfl⟩
theorem im_C_entriesTaken : Cond.instanceMethod y_C_entriesTaken ∈ gt := List.mem_filter.mpr ⟨List.mem_of_getElem? (i := 187) (by decide +kernel), rfl⟩
set_option maxRecDepth 20000 in
theorem co_C_entriesTaken : Cond.code y_C_entriesTaken b_C_entriesTaken 1 (some .int) ∈ gt := List.mem_filter.mpr ⟨List.mem_of_getElem? (i := 188) rfl, rfl⟩
theorem se_M_T_entriesTaken_M : Cond.selects "StackRoom$Method" ⟨"StackRoom$Thing", "entriesTaken", "()I"⟩ y_M_entriesTaken ∈ gt := List.mem_filter.mpr ⟨List.mem_of_getElem? (i := 189) (by decide +kernel), rfl⟩
theorem im_M_entriesTaken : Cond.instanceMethod y_M_entriesTaken ∈ gt := List.mem_filter.mpr ⟨List.mem_of_getElem? (i := 190) (by decide +kernel), rfl⟩
set_option maxRecDepth 20000 in
theorem co_M_entriesTaken : Cond.code y_M_entriesTaken b_M_entriesTaken 1 (some .int) ∈ gt := List.mem_filter.mpr ⟨List.mem_of_getElem? (i := 191) rfl, rfl⟩
theorem se_X_T_entriesTaken_C : Cond.selects "StackRoom$MethodContext" ⟨"StackRoom$Thing", "entriesTaken", "()I"⟩ y_C_entriesTaken ∈ gt := List.mem_filter.mpr ⟨List.mem_of_getElem? (i := 192) (by decide +kernel), rfl⟩
theorem cl_S_C : Cond.classLink "StackRoom" 94 "StackRoom$Context" ∈ gt := List.mem_filter.mpr ⟨List.mem_of_getElem? (i := 193) (by decide +kernel), rfl⟩
theorem ml_S_S_reachPartsOf : Cond.methodLink "StackRoom" 181 y_S_reachPartsOf ∈ gt := List.mem_filter.mpr ⟨List.mem_of_getElem? (i := 194) (by decide +kernel), rfl⟩
theorem im_S_reachPartsOf : Cond.instanceMethod y_S_reachPartsOf ∈ gt := List.mem_filter.mpr ⟨List.mem_of_getElem? (i := 196) (by decide +kernel), rfl⟩
set_option maxRecDepth 20000 in
theorem co_S_reachPartsOf : Cond.code y_S_reachPartsOf b_S_reachPartsOf 3 none ∈ gt := List.mem_filter.mpr ⟨List.mem_of_getElem? (i := 197) rfl, rfl⟩
theorem ml_S_C_origin : Cond.methodLink "StackRoom" 185 ⟨"StackRoom$Context", "origin", "()LStackRoom$Thing;"⟩ ∈ gt := List.mem_filter.mpr ⟨List.mem_of_getElem? (i := 198) (by decide +kernel), rfl⟩
theorem dc_C_origin : Cond.declares ⟨"StackRoom$Context", "origin", "()LStackRoom$Thing;"⟩ ∈ nt := List.mem_filter.mpr ⟨List.mem_of_getElem? (i := 199) (by decide +kernel), rfl⟩
theorem sm_C_C_origin : Cond.sameMethod "StackRoom$Context" "StackRoom$Context" "origin" "()LStackRoom$Thing;" ∈ gt := List.mem_filter.mpr ⟨List.mem_of_getElem? (i := 200) (by decide +kernel), rfl⟩
theorem se_B_C_origin_B : Cond.selects "StackRoom$BlockContext" ⟨"StackRoom$Context", "origin", "()LStackRoom$Thing;"⟩ y_B_origin ∈ gt := List.mem_filter.mpr ⟨List.mem_of_getElem? (i := 201) (by decide +kernel), rfl⟩
theorem im_B_origin : Cond.instanceMethod y_B_origin ∈ gt := List.mem_filter.mpr ⟨List.mem_of_getElem? (i := 202) (by decide +kernel), rfl⟩
set_option maxRecDepth 20000 in
theorem co_B_origin : Cond.code y_B_origin b_B_origin 1 (some (.object "StackRoom$Thing")) ∈ gt := List.mem_filter.mpr ⟨List.mem_of_getElem? (i := 203) rfl, rfl⟩
theorem se_X_C_origin_X : Cond.selects "StackRoom$MethodContext" ⟨"StackRoom$Context", "origin", "()LStackRoom$Thing;"⟩ y_X_origin ∈ gt := List.mem_filter.mpr ⟨List.mem_of_getElem? (i := 204) (by decide +kernel), rfl⟩
theorem im_X_origin : Cond.instanceMethod y_X_origin ∈ gt := List.mem_filter.mpr ⟨List.mem_of_getElem? (i := 205) (by decide +kernel), rfl⟩
set_option maxRecDepth 20000 in
theorem co_X_origin : Cond.code y_X_origin b_X_origin 1 (some (.object "StackRoom$Thing")) ∈ gt := List.mem_filter.mpr ⟨List.mem_of_getElem? (i := 206) rfl, rfl⟩
theorem cl_S_M : Cond.classLink "StackRoom" 62 "StackRoom$Method" ∈ gt := List.mem_filter.mpr ⟨List.mem_of_getElem? (i := 207) (by decide +kernel), rfl⟩
theorem is_M : Cond.instantiable "StackRoom$Method" 4 ∈ gt := List.mem_filter.mpr ⟨List.mem_of_getElem? (i := 208) (by decide +kernel), rfl⟩
theorem ml_S_M_init : Cond.methodLink "StackRoom" 64 y_M_init ∈ gt := List.mem_filter.mpr ⟨List.mem_of_getElem? (i := 209) (by decide +kernel), rfl⟩
theorem im_M_init : Cond.instanceMethod y_M_init ∈ gt := List.mem_filter.mpr ⟨List.mem_of_getElem? (i := 210) (by decide +kernel), rfl⟩
set_option maxRecDepth 20000 in
theorem co_M_init : Cond.code y_M_init b_M_init 4 none ∈ gt := List.mem_filter.mpr ⟨List.mem_of_getElem? (i := 211) rfl, rfl⟩
theorem ml_M_T_init : Cond.methodLink "StackRoom$Method" 3 y_T_init ∈ gt := List.mem_filter.mpr ⟨List.mem_of_getElem? (i := 212) (by decide +kernel), rfl⟩
theorem im_T_init : Cond.instanceMethod y_T_init ∈ gt := List.mem_filter.mpr ⟨List.mem_of_getElem? (i := 213) (by decide +kernel), rfl⟩
set_option maxRecDepth 20000 in
theorem co_T_init : Cond.code y_T_init b_T_init 2 none ∈ gt := List.mem_filter.mpr ⟨List.mem_of_getElem? (i := 214) rfl, rfl⟩
theorem mn_T_V_init : Cond.methodLinkNest "StackRoom$Thing" 1 y_V_init "StackRoom" ∈ nt := List.mem_filter.mpr ⟨List.mem_of_getElem? (i := 215) (by decide +kernel), rfl⟩
theorem fn_X_M_temporaries : Cond.fieldLinkNest "StackRoom$MethodContext" 3 "StackRoom$Method" "temporaries" "I" "StackRoom" ∈ nt := List.mem_filter.mpr ⟨List.mem_of_getElem? (i := 216) (by decide +kernel), rfl⟩
theorem fl_M_M_temporaries : Cond.fieldLink "StackRoom$Method" 9 "StackRoom$Method" "temporaries" "I" ∈ gt := List.mem_filter.mpr ⟨List.mem_of_getElem? (i := 217) (by decide +kernel), rfl⟩
theorem fn_S_M_temporaries : Cond.fieldLinkNest "StackRoom" 78 "StackRoom$Method" "temporaries" "I" "StackRoom" ∈ nt := List.mem_filter.mpr ⟨List.mem_of_getElem? (i := 218) (by decide +kernel), rfl⟩
theorem fn_B_M_depth : Cond.fieldLinkNest "StackRoom$BlockContext" 9 "StackRoom$Method" "depth" "I" "StackRoom" ∈ nt := List.mem_filter.mpr ⟨List.mem_of_getElem? (i := 219) (by decide +kernel), rfl⟩
theorem fl_M_M_depth : Cond.fieldLink "StackRoom$Method" 15 "StackRoom$Method" "depth" "I" ∈ gt := List.mem_filter.mpr ⟨List.mem_of_getElem? (i := 220) (by decide +kernel), rfl⟩
theorem fn_X_M_depth : Cond.fieldLinkNest "StackRoom$MethodContext" 9 "StackRoom$Method" "depth" "I" "StackRoom" ∈ nt := List.mem_filter.mpr ⟨List.mem_of_getElem? (i := 221) (by decide +kernel), rfl⟩
theorem fn_S_M_depth : Cond.fieldLinkNest "StackRoom" 81 "StackRoom$Method" "depth" "I" "StackRoom" ∈ nt := List.mem_filter.mpr ⟨List.mem_of_getElem? (i := 222) (by decide +kernel), rfl⟩
theorem fl_T_T_identity : Cond.fieldLink "StackRoom$Thing" 7 "StackRoom$Thing" "identity" "I" ∈ gt := List.mem_filter.mpr ⟨List.mem_of_getElem? (i := 223) (by decide +kernel), rfl⟩
theorem fn_S_T_round : Cond.fieldLinkNest "StackRoom" 189 "StackRoom$Thing" "round" "I" "StackRoom" ∈ nt := List.mem_filter.mpr ⟨List.mem_of_getElem? (i := 224) (by decide +kernel), rfl⟩
theorem ml_L_S_change : Cond.methodLink "StackRoomLaw" 49 y_S_change ∈ gt := List.mem_filter.mpr ⟨List.mem_of_getElem? (i := 234) (by decide +kernel), rfl⟩
theorem im_S_change : Cond.instanceMethod y_S_change ∈ gt := List.mem_filter.mpr ⟨List.mem_of_getElem? (i := 235) (by decide +kernel), rfl⟩
theorem se_S_S_change_S : Cond.selects "StackRoom" y_S_change y_S_change ∈ gt := List.mem_filter.mpr ⟨List.mem_of_getElem? (i := 236) (by decide +kernel), rfl⟩
set_option maxRecDepth 20000 in
theorem co_S_change : Cond.code y_S_change b_S_change 6 (some .boolean) ∈ gt := List.mem_filter.mpr ⟨List.mem_of_getElem? (i := 237) rfl, rfl⟩
theorem ml_S_S_methodIn : Cond.methodLink "StackRoom" 67 y_S_methodIn ∈ gt := List.mem_filter.mpr ⟨List.mem_of_getElem? (i := 238) (by decide +kernel), rfl⟩
theorem im_S_methodIn : Cond.instanceMethod y_S_methodIn ∈ gt := List.mem_filter.mpr ⟨List.mem_of_getElem? (i := 240) (by decide +kernel), rfl⟩
set_option maxRecDepth 20000 in
theorem co_S_methodIn : Cond.code y_S_methodIn b_S_methodIn 4 (some (.object "StackRoom$Method")) ∈ gt := List.mem_filter.mpr ⟨List.mem_of_getElem? (i := 241) rfl, rfl⟩
theorem ml_S_M_setNumbers : Cond.methodLink "StackRoom" 71 y_M_setNumbers ∈ gt := List.mem_filter.mpr ⟨List.mem_of_getElem? (i := 242) (by decide +kernel), rfl⟩
theorem im_M_setNumbers : Cond.instanceMethod y_M_setNumbers ∈ gt := List.mem_filter.mpr ⟨List.mem_of_getElem? (i := 243) (by decide +kernel), rfl⟩
theorem se_M_M_setNumbers_M : Cond.selects "StackRoom$Method" y_M_setNumbers y_M_setNumbers ∈ gt := List.mem_filter.mpr ⟨List.mem_of_getElem? (i := 244) (by decide +kernel), rfl⟩
set_option maxRecDepth 20000 in
theorem co_M_setNumbers : Cond.code y_M_setNumbers b_M_setNumbers 3 none ∈ gt := List.mem_filter.mpr ⟨List.mem_of_getElem? (i := 245) rfl, rfl⟩
theorem ml_L_S_context : Cond.methodLink "StackRoomLaw" 54 y_S_context ∈ gt := List.mem_filter.mpr ⟨List.mem_of_getElem? (i := 246) (by decide +kernel), rfl⟩
theorem im_S_context : Cond.instanceMethod y_S_context ∈ gt := List.mem_filter.mpr ⟨List.mem_of_getElem? (i := 247) (by decide +kernel), rfl⟩
theorem se_S_S_context_S : Cond.selects "StackRoom" y_S_context y_S_context ∈ gt := List.mem_filter.mpr ⟨List.mem_of_getElem? (i := 248) (by decide +kernel), rfl⟩
set_option maxRecDepth 20000 in
theorem co_S_context : Cond.code y_S_context b_S_context 6 (some .int) ∈ gt := List.mem_filter.mpr ⟨List.mem_of_getElem? (i := 249) rfl, rfl⟩
theorem ml_S_S_isSender : Cond.methodLink "StackRoom" 75 y_S_isSender ∈ gt := List.mem_filter.mpr ⟨List.mem_of_getElem? (i := 250) (by decide +kernel), rfl⟩
theorem im_S_isSender : Cond.instanceMethod y_S_isSender ∈ gt := List.mem_filter.mpr ⟨List.mem_of_getElem? (i := 252) (by decide +kernel), rfl⟩
set_option maxRecDepth 20000 in
theorem co_S_isSender : Cond.code y_S_isSender b_S_isSender 2 (some .boolean) ∈ gt := List.mem_filter.mpr ⟨List.mem_of_getElem? (i := 253) rfl, rfl⟩
theorem cl_S_X : Cond.classLink "StackRoom" 84 "StackRoom$MethodContext" ∈ gt := List.mem_filter.mpr ⟨List.mem_of_getElem? (i := 254) (by decide +kernel), rfl⟩
theorem is_X : Cond.instantiable "StackRoom$MethodContext" 7 ∈ gt := List.mem_filter.mpr ⟨List.mem_of_getElem? (i := 255) (by decide +kernel), rfl⟩
theorem ml_S_S_contextIn : Cond.methodLink "StackRoom" 86 y_S_contextIn ∈ gt := List.mem_filter.mpr ⟨List.mem_of_getElem? (i := 256) (by decide +kernel), rfl⟩
theorem im_S_contextIn : Cond.instanceMethod y_S_contextIn ∈ gt := List.mem_filter.mpr ⟨List.mem_of_getElem? (i := 258) (by decide +kernel), rfl⟩
set_option maxRecDepth 20000 in
theorem co_S_contextIn : Cond.code y_S_contextIn b_S_contextIn 4 (some (.object "StackRoom$Context")) ∈ gt := List.mem_filter.mpr ⟨List.mem_of_getElem? (i := 259) rfl, rfl⟩
theorem ml_S_X_init : Cond.methodLink "StackRoom" 90 y_X_init ∈ gt := List.mem_filter.mpr ⟨List.mem_of_getElem? (i := 260) (by decide +kernel), rfl⟩
theorem im_X_init : Cond.instanceMethod y_X_init ∈ gt := List.mem_filter.mpr ⟨List.mem_of_getElem? (i := 261) (by decide +kernel), rfl⟩
set_option maxRecDepth 20000 in
theorem co_X_init : Cond.code y_X_init b_X_init 4 none ∈ gt := List.mem_filter.mpr ⟨List.mem_of_getElem? (i := 262) rfl, rfl⟩
theorem ml_X_C_init : Cond.methodLink "StackRoom$MethodContext" 12 y_C_init ∈ gt := List.mem_filter.mpr ⟨List.mem_of_getElem? (i := 263) (by decide +kernel), rfl⟩
theorem im_C_init : Cond.instanceMethod y_C_init ∈ gt := List.mem_filter.mpr ⟨List.mem_of_getElem? (i := 264) (by decide +kernel), rfl⟩
set_option maxRecDepth 20000 in
theorem co_C_init : Cond.code y_C_init b_C_init 6 none ∈ gt := List.mem_filter.mpr ⟨List.mem_of_getElem? (i := 265) rfl, rfl⟩
theorem ml_C_T_init : Cond.methodLink "StackRoom$Context" 3 y_T_init ∈ gt := List.mem_filter.mpr ⟨List.mem_of_getElem? (i := 266) (by decide +kernel), rfl⟩
theorem cl_C_V : Cond.classLink "StackRoom$Context" 23 "StackRoom$Value" ∈ gt := List.mem_filter.mpr ⟨List.mem_of_getElem? (i := 267) (by decide +kernel), rfl⟩
theorem fn_B_X_method : Cond.fieldLinkNest "StackRoom$BlockContext" 3 "StackRoom$MethodContext" "method" "LStackRoom$Method;" "StackRoom" ∈ nt := List.mem_filter.mpr ⟨List.mem_of_getElem? (i := 268) (by decide +kernel), rfl⟩
theorem fl_X_X_method : Cond.fieldLink "StackRoom$MethodContext" 18 "StackRoom$MethodContext" "method" "LStackRoom$Method;" ∈ gt := List.mem_filter.mpr ⟨List.mem_of_getElem? (i := 269) (by decide +kernel), rfl⟩
theorem fn_S_X_method : Cond.fieldLinkNest "StackRoom" 99 "StackRoom$MethodContext" "method" "LStackRoom$Method;" "StackRoom" ∈ nt := List.mem_filter.mpr ⟨List.mem_of_getElem? (i := 270) (by decide +kernel), rfl⟩
theorem fl_C_C_sender : Cond.fieldLink "StackRoom$Context" 9 "StackRoom$Context" "sender" "LStackRoom$Context;" ∈ gt := List.mem_filter.mpr ⟨List.mem_of_getElem? (i := 271) (by decide +kernel), rfl⟩
theorem fn_S_C_sender : Cond.fieldLinkNest "StackRoom" 142 "StackRoom$Context" "sender" "LStackRoom$Context;" "StackRoom" ∈ nt := List.mem_filter.mpr ⟨List.mem_of_getElem? (i := 272) (by decide +kernel), rfl⟩
theorem fl_C_C_dead : Cond.fieldLink "StackRoom$Context" 15 "StackRoom$Context" "dead" "Z" ∈ gt := List.mem_filter.mpr ⟨List.mem_of_getElem? (i := 273) (by decide +kernel), rfl⟩
theorem fn_S_C_dead : Cond.fieldLinkNest "StackRoom" 146 "StackRoom$Context" "dead" "Z" "StackRoom" ∈ nt := List.mem_filter.mpr ⟨List.mem_of_getElem? (i := 274) (by decide +kernel), rfl⟩
theorem fl_C_C_height : Cond.fieldLink "StackRoom$Context" 19 "StackRoom$Context" "height" "I" ∈ gt := List.mem_filter.mpr ⟨List.mem_of_getElem? (i := 275) (by decide +kernel), rfl⟩
theorem fn_S_C_height : Cond.fieldLinkNest "StackRoom" 126 "StackRoom$Context" "height" "I" "StackRoom" ∈ nt := List.mem_filter.mpr ⟨List.mem_of_getElem? (i := 276) (by decide +kernel), rfl⟩
theorem fl_C_C_fields : Cond.fieldLink "StackRoom$Context" 25 "StackRoom$Context" "fields" "[LStackRoom$Value;" ∈ gt := List.mem_filter.mpr ⟨List.mem_of_getElem? (i := 277) (by decide +kernel), rfl⟩
theorem fn_S_C_fields : Cond.fieldLinkNest "StackRoom" 133 "StackRoom$Context" "fields" "[LStackRoom$Value;" "StackRoom" ∈ nt := List.mem_filter.mpr ⟨List.mem_of_getElem? (i := 278) (by decide +kernel), rfl⟩
theorem ml_L_S_block : Cond.methodLink "StackRoomLaw" 59 y_S_block ∈ gt := List.mem_filter.mpr ⟨List.mem_of_getElem? (i := 292) (by decide +kernel), rfl⟩
theorem im_S_block : Cond.instanceMethod y_S_block ∈ gt := List.mem_filter.mpr ⟨List.mem_of_getElem? (i := 293) (by decide +kernel), rfl⟩
theorem se_S_S_block_S : Cond.selects "StackRoom" y_S_block y_S_block ∈ gt := List.mem_filter.mpr ⟨List.mem_of_getElem? (i := 294) (by decide +kernel), rfl⟩
set_option maxRecDepth 20000 in
theorem co_S_block : Cond.code y_S_block b_S_block 7 (some .int) ∈ gt := List.mem_filter.mpr ⟨List.mem_of_getElem? (i := 295) rfl, rfl⟩
theorem ml_S_C_homeContext : Cond.methodLink "StackRoom" 93 ⟨"StackRoom$Context", "homeContext", "()LStackRoom$MethodContext;"⟩ ∈ gt := List.mem_filter.mpr ⟨List.mem_of_getElem? (i := 296) (by decide +kernel), rfl⟩
theorem dc_C_homeContext : Cond.declares ⟨"StackRoom$Context", "homeContext", "()LStackRoom$MethodContext;"⟩ ∈ nt := List.mem_filter.mpr ⟨List.mem_of_getElem? (i := 297) (by decide +kernel), rfl⟩
theorem sm_C_C_homeContext : Cond.sameMethod "StackRoom$Context" "StackRoom$Context" "homeContext" "()LStackRoom$MethodContext;" ∈ gt := List.mem_filter.mpr ⟨List.mem_of_getElem? (i := 298) (by decide +kernel), rfl⟩
theorem se_B_C_homeContext_B : Cond.selects "StackRoom$BlockContext" ⟨"StackRoom$Context", "homeContext", "()LStackRoom$MethodContext;"⟩ y_B_homeContext ∈ gt := List.mem_filter.mpr ⟨List.mem_of_getElem? (i := 299) (by decide +kernel), rfl⟩
theorem im_B_homeContext : Cond.instanceMethod y_B_homeContext ∈ gt := List.mem_filter.mpr ⟨List.mem_of_getElem? (i := 300) (by decide +kernel), rfl⟩
set_option maxRecDepth 20000 in
theorem co_B_homeContext : Cond.code y_B_homeContext b_B_homeContext 1 (some (.object "StackRoom$MethodContext")) ∈ gt := List.mem_filter.mpr ⟨List.mem_of_getElem? (i := 301) rfl, rfl⟩
theorem se_X_C_homeContext_X : Cond.selects "StackRoom$MethodContext" ⟨"StackRoom$Context", "homeContext", "()LStackRoom$MethodContext;"⟩ y_X_homeContext ∈ gt := List.mem_filter.mpr ⟨List.mem_of_getElem? (i := 302) (by decide +kernel), rfl⟩
theorem im_X_homeContext : Cond.instanceMethod y_X_homeContext ∈ gt := List.mem_filter.mpr ⟨List.mem_of_getElem? (i := 303) (by decide +kernel), rfl⟩
set_option maxRecDepth 20000 in
theorem co_X_homeContext : Cond.code y_X_homeContext b_X_homeContext 1 (some (.object "StackRoom$MethodContext")) ∈ gt := List.mem_filter.mpr ⟨List.mem_of_getElem? (i := 304) rfl, rfl⟩
theorem cl_S_B : Cond.classLink "StackRoom" 103 "StackRoom$BlockContext" ∈ gt := List.mem_filter.mpr ⟨List.mem_of_getElem? (i := 305) (by decide +kernel), rfl⟩
theorem is_B : Cond.instantiable "StackRoom$BlockContext" 8 ∈ gt := List.mem_filter.mpr ⟨List.mem_of_getElem? (i := 306) (by decide +kernel), rfl⟩
theorem ml_S_B_init : Cond.methodLink "StackRoom" 105 y_B_init ∈ gt := List.mem_filter.mpr ⟨List.mem_of_getElem? (i := 307) (by decide +kernel), rfl⟩
theorem im_B_init : Cond.instanceMethod y_B_init ∈ gt := List.mem_filter.mpr ⟨List.mem_of_getElem? (i := 308) (by decide +kernel), rfl⟩
set_option maxRecDepth 20000 in
theorem co_B_init : Cond.code y_B_init b_B_init 4 none ∈ gt := List.mem_filter.mpr ⟨List.mem_of_getElem? (i := 309) rfl, rfl⟩
theorem ml_B_C_init : Cond.methodLink "StackRoom$BlockContext" 15 y_C_init ∈ gt := List.mem_filter.mpr ⟨List.mem_of_getElem? (i := 310) (by decide +kernel), rfl⟩
theorem fl_B_B_home : Cond.fieldLink "StackRoom$BlockContext" 21 "StackRoom$BlockContext" "home" "LStackRoom$MethodContext;" ∈ gt := List.mem_filter.mpr ⟨List.mem_of_getElem? (i := 311) (by decide +kernel), rfl⟩
theorem fl_B_B_count : Cond.fieldLink "StackRoom$BlockContext" 27 "StackRoom$BlockContext" "count" "I" ∈ gt := List.mem_filter.mpr ⟨List.mem_of_getElem? (i := 312) (by decide +kernel), rfl⟩
theorem fn_S_B_count : Cond.fieldLinkNest "StackRoom" 139 "StackRoom$BlockContext" "count" "I" "StackRoom" ∈ nt := List.mem_filter.mpr ⟨List.mem_of_getElem? (i := 313) (by decide +kernel), rfl⟩
theorem ml_L_S_push : Cond.methodLink "StackRoomLaw" 63 y_S_push ∈ gt := List.mem_filter.mpr ⟨List.mem_of_getElem? (i := 325) (by decide +kernel), rfl⟩
theorem im_S_push : Cond.instanceMethod y_S_push ∈ gt := List.mem_filter.mpr ⟨List.mem_of_getElem? (i := 326) (by decide +kernel), rfl⟩
theorem se_S_S_push_S : Cond.selects "StackRoom" y_S_push y_S_push ∈ gt := List.mem_filter.mpr ⟨List.mem_of_getElem? (i := 327) (by decide +kernel), rfl⟩
set_option maxRecDepth 20000 in
theorem co_S_push : Cond.code y_S_push b_S_push 4 (some .boolean) ∈ gt := List.mem_filter.mpr ⟨List.mem_of_getElem? (i := 328) rfl, rfl⟩
theorem ml_S_C_isFull : Cond.methodLink "StackRoom" 108 y_C_isFull ∈ gt := List.mem_filter.mpr ⟨List.mem_of_getElem? (i := 329) (by decide +kernel), rfl⟩
theorem im_C_isFull : Cond.instanceMethod y_C_isFull ∈ gt := List.mem_filter.mpr ⟨List.mem_of_getElem? (i := 330) (by decide +kernel), rfl⟩
theorem sm_C_C_isFull : Cond.sameMethod "StackRoom$Context" "StackRoom$Context" "isFull" "()Z" ∈ gt := List.mem_filter.mpr ⟨List.mem_of_getElem? (i := 331) (by decide +kernel), rfl⟩
theorem se_B_C_isFull_C : Cond.selects "StackRoom$BlockContext" y_C_isFull y_C_isFull ∈ gt := List.mem_filter.mpr ⟨List.mem_of_getElem? (i := 332) (by decide +kernel), rfl⟩
theorem se_X_C_isFull_C : Cond.selects "StackRoom$MethodContext" y_C_isFull y_C_isFull ∈ gt := List.mem_filter.mpr ⟨List.mem_of_getElem? (i := 333) (by decide +kernel), rfl⟩
set_option maxRecDepth 20000 in
theorem co_C_isFull : Cond.code y_C_isFull b_C_isFull 1 (some .boolean) ∈ gt := List.mem_filter.mpr ⟨List.mem_of_getElem? (i := 334) rfl, rfl⟩
theorem ml_S_C_pushOne : Cond.methodLink "StackRoom" 112 y_C_pushOne ∈ gt := List.mem_filter.mpr ⟨List.mem_of_getElem? (i := 335) (by decide +kernel), rfl⟩
theorem im_C_pushOne : Cond.instanceMethod y_C_pushOne ∈ gt := List.mem_filter.mpr ⟨List.mem_of_getElem? (i := 336) (by decide +kernel), rfl⟩
theorem sm_C_C_pushOne : Cond.sameMethod "StackRoom$Context" "StackRoom$Context" "pushOne" "(LStackRoom$Value;)V" ∈ gt := List.mem_filter.mpr ⟨List.mem_of_getElem? (i := 337) (by decide +kernel), rfl⟩
theorem se_B_C_pushOne_C : Cond.selects "StackRoom$BlockContext" y_C_pushOne y_C_pushOne ∈ gt := List.mem_filter.mpr ⟨List.mem_of_getElem? (i := 338) (by decide +kernel), rfl⟩
theorem se_X_C_pushOne_C : Cond.selects "StackRoom$MethodContext" y_C_pushOne y_C_pushOne ∈ gt := List.mem_filter.mpr ⟨List.mem_of_getElem? (i := 339) (by decide +kernel), rfl⟩
set_option maxRecDepth 20000 in
theorem co_C_pushOne : Cond.code y_C_pushOne b_C_pushOne 2 none ∈ gt := List.mem_filter.mpr ⟨List.mem_of_getElem? (i := 340) rfl, rfl⟩
theorem ml_C_C_putField : Cond.methodLink "StackRoom$Context" 40 y_C_putField ∈ gt := List.mem_filter.mpr ⟨List.mem_of_getElem? (i := 341) (by decide +kernel), rfl⟩
theorem im_C_putField : Cond.instanceMethod y_C_putField ∈ gt := List.mem_filter.mpr ⟨List.mem_of_getElem? (i := 342) (by decide +kernel), rfl⟩
theorem sm_C_C_putField : Cond.sameMethod "StackRoom$Context" "StackRoom$Context" "putField" "(ILStackRoom$Value;)V" ∈ gt := List.mem_filter.mpr ⟨List.mem_of_getElem? (i := 343) (by decide +kernel), rfl⟩
theorem se_B_C_putField_C : Cond.selects "StackRoom$BlockContext" y_C_putField y_C_putField ∈ gt := List.mem_filter.mpr ⟨List.mem_of_getElem? (i := 344) (by decide +kernel), rfl⟩
theorem se_X_C_putField_C : Cond.selects "StackRoom$MethodContext" y_C_putField y_C_putField ∈ gt := List.mem_filter.mpr ⟨List.mem_of_getElem? (i := 345) (by decide +kernel), rfl⟩
set_option maxRecDepth 20000 in
theorem co_C_putField : Cond.code y_C_putField b_C_putField 3 none ∈ gt := List.mem_filter.mpr ⟨List.mem_of_getElem? (i := 346) rfl, rfl⟩
theorem ml_C_C_hasField : Cond.methodLink "StackRoom$Context" 36 y_C_hasField ∈ gt := List.mem_filter.mpr ⟨List.mem_of_getElem? (i := 347) (by decide +kernel), rfl⟩
theorem im_C_hasField : Cond.instanceMethod y_C_hasField ∈ gt := List.mem_filter.mpr ⟨List.mem_of_getElem? (i := 348) (by decide +kernel), rfl⟩
theorem sm_C_C_hasField : Cond.sameMethod "StackRoom$Context" "StackRoom$Context" "hasField" "(I)Z" ∈ gt := List.mem_filter.mpr ⟨List.mem_of_getElem? (i := 349) (by decide +kernel), rfl⟩
theorem se_B_C_hasField_C : Cond.selects "StackRoom$BlockContext" y_C_hasField y_C_hasField ∈ gt := List.mem_filter.mpr ⟨List.mem_of_getElem? (i := 350) (by decide +kernel), rfl⟩
theorem se_X_C_hasField_C : Cond.selects "StackRoom$MethodContext" y_C_hasField y_C_hasField ∈ gt := List.mem_filter.mpr ⟨List.mem_of_getElem? (i := 351) (by decide +kernel), rfl⟩
set_option maxRecDepth 20000 in
theorem co_C_hasField : Cond.code y_C_hasField b_C_hasField 2 (some .boolean) ∈ gt := List.mem_filter.mpr ⟨List.mem_of_getElem? (i := 352) rfl, rfl⟩
theorem ml_L_S_fill : Cond.methodLink "StackRoomLaw" 67 y_S_fill ∈ gt := List.mem_filter.mpr ⟨List.mem_of_getElem? (i := 353) (by decide +kernel), rfl⟩
theorem im_S_fill : Cond.instanceMethod y_S_fill ∈ gt := List.mem_filter.mpr ⟨List.mem_of_getElem? (i := 354) (by decide +kernel), rfl⟩
theorem se_S_S_fill_S : Cond.selects "StackRoom" y_S_fill y_S_fill ∈ gt := List.mem_filter.mpr ⟨List.mem_of_getElem? (i := 355) (by decide +kernel), rfl⟩
set_option maxRecDepth 20000 in
theorem co_S_fill : Cond.code y_S_fill b_S_fill 6 (some .int) ∈ gt := List.mem_filter.mpr ⟨List.mem_of_getElem? (i := 356) rfl, rfl⟩
theorem ml_S_S_areNumbers : Cond.methodLink "StackRoom" 116 y_S_areNumbers ∈ gt := List.mem_filter.mpr ⟨List.mem_of_getElem? (i := 357) (by decide +kernel), rfl⟩
theorem st_S_areNumbers : Cond.static y_S_areNumbers ∈ gt := List.mem_filter.mpr ⟨List.mem_of_getElem? (i := 358) (by decide +kernel), rfl⟩
set_option maxRecDepth 20000 in
theorem co_S_areNumbers : Cond.code y_S_areNumbers b_S_areNumbers 2 (some .boolean) ∈ gt := List.mem_filter.mpr ⟨List.mem_of_getElem? (i := 359) rfl, rfl⟩
theorem ml_L_S_pop : Cond.methodLink "StackRoomLaw" 71 y_S_pop ∈ gt := List.mem_filter.mpr ⟨List.mem_of_getElem? (i := 360) (by decide +kernel), rfl⟩
theorem im_S_pop : Cond.instanceMethod y_S_pop ∈ gt := List.mem_filter.mpr ⟨List.mem_of_getElem? (i := 361) (by decide +kernel), rfl⟩
theorem se_S_S_pop_S : Cond.selects "StackRoom" y_S_pop y_S_pop ∈ gt := List.mem_filter.mpr ⟨List.mem_of_getElem? (i := 362) (by decide +kernel), rfl⟩
set_option maxRecDepth 20000 in
theorem co_S_pop : Cond.code y_S_pop b_S_pop 4 (some .boolean) ∈ gt := List.mem_filter.mpr ⟨List.mem_of_getElem? (i := 363) rfl, rfl⟩
theorem ml_S_C_depthNow : Cond.methodLink "StackRoom" 119 y_C_depthNow ∈ gt := List.mem_filter.mpr ⟨List.mem_of_getElem? (i := 364) (by decide +kernel), rfl⟩
theorem im_C_depthNow : Cond.instanceMethod y_C_depthNow ∈ gt := List.mem_filter.mpr ⟨List.mem_of_getElem? (i := 365) (by decide +kernel), rfl⟩
theorem sm_C_C_depthNow : Cond.sameMethod "StackRoom$Context" "StackRoom$Context" "depthNow" "()I" ∈ gt := List.mem_filter.mpr ⟨List.mem_of_getElem? (i := 366) (by decide +kernel), rfl⟩
theorem se_B_C_depthNow_C : Cond.selects "StackRoom$BlockContext" y_C_depthNow y_C_depthNow ∈ gt := List.mem_filter.mpr ⟨List.mem_of_getElem? (i := 367) (by decide +kernel), rfl⟩
theorem se_X_C_depthNow_C : Cond.selects "StackRoom$MethodContext" y_C_depthNow y_C_depthNow ∈ gt := List.mem_filter.mpr ⟨List.mem_of_getElem? (i := 368) (by decide +kernel), rfl⟩
set_option maxRecDepth 20000 in
theorem co_C_depthNow : Cond.code y_C_depthNow b_C_depthNow 1 (some .int) ∈ gt := List.mem_filter.mpr ⟨List.mem_of_getElem? (i := 369) rfl, rfl⟩
theorem ml_C_C_floorNow : Cond.methodLink "StackRoom$Context" 33 ⟨"StackRoom$Context", "floorNow", "()I"⟩ ∈ gt := List.mem_filter.mpr ⟨List.mem_of_getElem? (i := 370) (by decide +kernel), rfl⟩
theorem dc_C_floorNow : Cond.declares ⟨"StackRoom$Context", "floorNow", "()I"⟩ ∈ nt := List.mem_filter.mpr ⟨List.mem_of_getElem? (i := 371) (by decide +kernel), rfl⟩
theorem sm_C_C_floorNow : Cond.sameMethod "StackRoom$Context" "StackRoom$Context" "floorNow" "()I" ∈ gt := List.mem_filter.mpr ⟨List.mem_of_getElem? (i := 372) (by decide +kernel), rfl⟩
theorem se_B_C_floorNow_B : Cond.selects "StackRoom$BlockContext" ⟨"StackRoom$Context", "floorNow", "()I"⟩ y_B_floorNow ∈ gt := List.mem_filter.mpr ⟨List.mem_of_getElem? (i := 373) (by decide +kernel), rfl⟩
theorem im_B_floorNow : Cond.instanceMethod y_B_floorNow ∈ gt := List.mem_filter.mpr ⟨List.mem_of_getElem? (i := 374) (by decide +kernel), rfl⟩
set_option maxRecDepth 20000 in
theorem co_B_floorNow : Cond.code y_B_floorNow b_B_floorNow 1 (some .int) ∈ gt := List.mem_filter.mpr ⟨List.mem_of_getElem? (i := 375) rfl, rfl⟩
theorem se_X_C_floorNow_X : Cond.selects "StackRoom$MethodContext" ⟨"StackRoom$Context", "floorNow", "()I"⟩ y_X_floorNow ∈ gt := List.mem_filter.mpr ⟨List.mem_of_getElem? (i := 376) (by decide +kernel), rfl⟩
theorem im_X_floorNow : Cond.instanceMethod y_X_floorNow ∈ gt := List.mem_filter.mpr ⟨List.mem_of_getElem? (i := 377) (by decide +kernel), rfl⟩
set_option maxRecDepth 20000 in
theorem co_X_floorNow : Cond.code y_X_floorNow b_X_floorNow 1 (some .int) ∈ gt := List.mem_filter.mpr ⟨List.mem_of_getElem? (i := 378) rfl, rfl⟩
theorem ml_S_C_popOne : Cond.methodLink "StackRoom" 122 y_C_popOne ∈ gt := List.mem_filter.mpr ⟨List.mem_of_getElem? (i := 379) (by decide +kernel), rfl⟩
theorem im_C_popOne : Cond.instanceMethod y_C_popOne ∈ gt := List.mem_filter.mpr ⟨List.mem_of_getElem? (i := 380) (by decide +kernel), rfl⟩
theorem sm_C_C_popOne : Cond.sameMethod "StackRoom$Context" "StackRoom$Context" "popOne" "()LStackRoom$Value;" ∈ gt := List.mem_filter.mpr ⟨List.mem_of_getElem? (i := 381) (by decide +kernel), rfl⟩
theorem se_B_C_popOne_C : Cond.selects "StackRoom$BlockContext" y_C_popOne y_C_popOne ∈ gt := List.mem_filter.mpr ⟨List.mem_of_getElem? (i := 382) (by decide +kernel), rfl⟩
theorem se_X_C_popOne_C : Cond.selects "StackRoom$MethodContext" y_C_popOne y_C_popOne ∈ gt := List.mem_filter.mpr ⟨List.mem_of_getElem? (i := 383) (by decide +kernel), rfl⟩
set_option maxRecDepth 20000 in
theorem co_C_popOne : Cond.code y_C_popOne b_C_popOne 2 (some (.object "StackRoom$Value")) ∈ gt := List.mem_filter.mpr ⟨List.mem_of_getElem? (i := 384) rfl, rfl⟩
theorem ml_C_C_fieldAt : Cond.methodLink "StackRoom$Context" 44 y_C_fieldAt ∈ gt := List.mem_filter.mpr ⟨List.mem_of_getElem? (i := 385) (by decide +kernel), rfl⟩
theorem im_C_fieldAt : Cond.instanceMethod y_C_fieldAt ∈ gt := List.mem_filter.mpr ⟨List.mem_of_getElem? (i := 386) (by decide +kernel), rfl⟩
theorem sm_C_C_fieldAt : Cond.sameMethod "StackRoom$Context" "StackRoom$Context" "fieldAt" "(I)LStackRoom$Value;" ∈ gt := List.mem_filter.mpr ⟨List.mem_of_getElem? (i := 387) (by decide +kernel), rfl⟩
theorem se_B_C_fieldAt_C : Cond.selects "StackRoom$BlockContext" y_C_fieldAt y_C_fieldAt ∈ gt := List.mem_filter.mpr ⟨List.mem_of_getElem? (i := 388) (by decide +kernel), rfl⟩
theorem se_X_C_fieldAt_C : Cond.selects "StackRoom$MethodContext" y_C_fieldAt y_C_fieldAt ∈ gt := List.mem_filter.mpr ⟨List.mem_of_getElem? (i := 389) (by decide +kernel), rfl⟩
set_option maxRecDepth 20000 in
theorem co_C_fieldAt : Cond.code y_C_fieldAt b_C_fieldAt 2 (some (.object "StackRoom$Value")) ∈ gt := List.mem_filter.mpr ⟨List.mem_of_getElem? (i := 390) rfl, rfl⟩
theorem ml_L_S_peek : Cond.methodLink "StackRoomLaw" 75 y_S_peek ∈ gt := List.mem_filter.mpr ⟨List.mem_of_getElem? (i := 391) (by decide +kernel), rfl⟩
theorem im_S_peek : Cond.instanceMethod y_S_peek ∈ gt := List.mem_filter.mpr ⟨List.mem_of_getElem? (i := 392) (by decide +kernel), rfl⟩
theorem se_S_S_peek_S : Cond.selects "StackRoom" y_S_peek y_S_peek ∈ gt := List.mem_filter.mpr ⟨List.mem_of_getElem? (i := 393) (by decide +kernel), rfl⟩
set_option maxRecDepth 20000 in
theorem co_S_peek : Cond.code y_S_peek b_S_peek 5 (some .boolean) ∈ gt := List.mem_filter.mpr ⟨List.mem_of_getElem? (i := 394) rfl, rfl⟩
theorem ml_S_C_fieldAt : Cond.methodLink "StackRoom" 129 y_C_fieldAt ∈ gt := List.mem_filter.mpr ⟨List.mem_of_getElem? (i := 395) (by decide +kernel), rfl⟩
theorem ml_L_S_drop : Cond.methodLink "StackRoomLaw" 80 y_S_drop ∈ gt := List.mem_filter.mpr ⟨List.mem_of_getElem? (i := 396) (by decide +kernel), rfl⟩
theorem im_S_drop : Cond.instanceMethod y_S_drop ∈ gt := List.mem_filter.mpr ⟨List.mem_of_getElem? (i := 397) (by decide +kernel), rfl⟩
theorem se_S_S_drop_S : Cond.selects "StackRoom" y_S_drop y_S_drop ∈ gt := List.mem_filter.mpr ⟨List.mem_of_getElem? (i := 398) (by decide +kernel), rfl⟩
set_option maxRecDepth 20000 in
theorem co_S_drop : Cond.code y_S_drop b_S_drop 5 (some .boolean) ∈ gt := List.mem_filter.mpr ⟨List.mem_of_getElem? (i := 399) rfl, rfl⟩
theorem ml_L_S_height : Cond.methodLink "StackRoomLaw" 84 y_S_height ∈ gt := List.mem_filter.mpr ⟨List.mem_of_getElem? (i := 400) (by decide +kernel), rfl⟩
theorem im_S_height : Cond.instanceMethod y_S_height ∈ gt := List.mem_filter.mpr ⟨List.mem_of_getElem? (i := 401) (by decide +kernel), rfl⟩
theorem se_S_S_height_S : Cond.selects "StackRoom" y_S_height y_S_height ∈ gt := List.mem_filter.mpr ⟨List.mem_of_getElem? (i := 402) (by decide +kernel), rfl⟩
set_option maxRecDepth 20000 in
theorem co_S_height : Cond.code y_S_height b_S_height 3 (some .int) ∈ gt := List.mem_filter.mpr ⟨List.mem_of_getElem? (i := 403) rfl, rfl⟩
theorem ml_L_S_room : Cond.methodLink "StackRoomLaw" 88 y_S_room ∈ gt := List.mem_filter.mpr ⟨List.mem_of_getElem? (i := 404) (by decide +kernel), rfl⟩
theorem im_S_room : Cond.instanceMethod y_S_room ∈ gt := List.mem_filter.mpr ⟨List.mem_of_getElem? (i := 405) (by decide +kernel), rfl⟩
theorem se_S_S_room_S : Cond.selects "StackRoom" y_S_room y_S_room ∈ gt := List.mem_filter.mpr ⟨List.mem_of_getElem? (i := 406) (by decide +kernel), rfl⟩
set_option maxRecDepth 20000 in
theorem co_S_room : Cond.code y_S_room b_S_room 3 (some .int) ∈ gt := List.mem_filter.mpr ⟨List.mem_of_getElem? (i := 407) rfl, rfl⟩
theorem ml_L_S_floor : Cond.methodLink "StackRoomLaw" 92 y_S_floor ∈ gt := List.mem_filter.mpr ⟨List.mem_of_getElem? (i := 408) (by decide +kernel), rfl⟩
theorem im_S_floor : Cond.instanceMethod y_S_floor ∈ gt := List.mem_filter.mpr ⟨List.mem_of_getElem? (i := 409) (by decide +kernel), rfl⟩
theorem se_S_S_floor_S : Cond.selects "StackRoom" y_S_floor y_S_floor ∈ gt := List.mem_filter.mpr ⟨List.mem_of_getElem? (i := 410) (by decide +kernel), rfl⟩
set_option maxRecDepth 20000 in
theorem co_S_floor : Cond.code y_S_floor b_S_floor 3 (some .int) ∈ gt := List.mem_filter.mpr ⟨List.mem_of_getElem? (i := 411) rfl, rfl⟩
theorem ml_S_C_floorNow : Cond.methodLink "StackRoom" 136 ⟨"StackRoom$Context", "floorNow", "()I"⟩ ∈ gt := List.mem_filter.mpr ⟨List.mem_of_getElem? (i := 412) (by decide +kernel), rfl⟩
theorem ml_L_S_count : Cond.methodLink "StackRoomLaw" 96 y_S_count ∈ gt := List.mem_filter.mpr ⟨List.mem_of_getElem? (i := 413) (by decide +kernel), rfl⟩
theorem im_S_count : Cond.instanceMethod y_S_count ∈ gt := List.mem_filter.mpr ⟨List.mem_of_getElem? (i := 414) (by decide +kernel), rfl⟩
theorem se_S_S_count_S : Cond.selects "StackRoom" y_S_count y_S_count ∈ gt := List.mem_filter.mpr ⟨List.mem_of_getElem? (i := 415) (by decide +kernel), rfl⟩
set_option maxRecDepth 20000 in
theorem co_S_count : Cond.code y_S_count b_S_count 4 (some .int) ∈ gt := List.mem_filter.mpr ⟨List.mem_of_getElem? (i := 416) rfl, rfl⟩
theorem ml_L_S_home : Cond.methodLink "StackRoomLaw" 100 y_S_home ∈ gt := List.mem_filter.mpr ⟨List.mem_of_getElem? (i := 417) (by decide +kernel), rfl⟩
theorem im_S_home : Cond.instanceMethod y_S_home ∈ gt := List.mem_filter.mpr ⟨List.mem_of_getElem? (i := 418) (by decide +kernel), rfl⟩
theorem se_S_S_home_S : Cond.selects "StackRoom" y_S_home y_S_home ∈ gt := List.mem_filter.mpr ⟨List.mem_of_getElem? (i := 419) (by decide +kernel), rfl⟩
set_option maxRecDepth 20000 in
theorem co_S_home : Cond.code y_S_home b_S_home 4 (some .boolean) ∈ gt := List.mem_filter.mpr ⟨List.mem_of_getElem? (i := 420) rfl, rfl⟩
theorem ml_L_S_sender : Cond.methodLink "StackRoomLaw" 104 y_S_sender ∈ gt := List.mem_filter.mpr ⟨List.mem_of_getElem? (i := 421) (by decide +kernel), rfl⟩
theorem im_S_sender : Cond.instanceMethod y_S_sender ∈ gt := List.mem_filter.mpr ⟨List.mem_of_getElem? (i := 422) (by decide +kernel), rfl⟩
theorem se_S_S_sender_S : Cond.selects "StackRoom" y_S_sender y_S_sender ∈ gt := List.mem_filter.mpr ⟨List.mem_of_getElem? (i := 423) (by decide +kernel), rfl⟩
set_option maxRecDepth 20000 in
theorem co_S_sender : Cond.code y_S_sender b_S_sender 4 (some .boolean) ∈ gt := List.mem_filter.mpr ⟨List.mem_of_getElem? (i := 424) rfl, rfl⟩
theorem ml_L_S_send : Cond.methodLink "StackRoomLaw" 108 y_S_send ∈ gt := List.mem_filter.mpr ⟨List.mem_of_getElem? (i := 425) (by decide +kernel), rfl⟩
theorem im_S_send : Cond.instanceMethod y_S_send ∈ gt := List.mem_filter.mpr ⟨List.mem_of_getElem? (i := 426) (by decide +kernel), rfl⟩
theorem se_S_S_send_S : Cond.selects "StackRoom" y_S_send y_S_send ∈ gt := List.mem_filter.mpr ⟨List.mem_of_getElem? (i := 427) (by decide +kernel), rfl⟩
set_option maxRecDepth 20000 in
theorem co_S_send : Cond.code y_S_send b_S_send 4 (some .boolean) ∈ gt := List.mem_filter.mpr ⟨List.mem_of_getElem? (i := 428) rfl, rfl⟩
theorem ml_L_S_kill : Cond.methodLink "StackRoomLaw" 112 y_S_kill ∈ gt := List.mem_filter.mpr ⟨List.mem_of_getElem? (i := 429) (by decide +kernel), rfl⟩
theorem im_S_kill : Cond.instanceMethod y_S_kill ∈ gt := List.mem_filter.mpr ⟨List.mem_of_getElem? (i := 430) (by decide +kernel), rfl⟩
theorem se_S_S_kill_S : Cond.selects "StackRoom" y_S_kill y_S_kill ∈ gt := List.mem_filter.mpr ⟨List.mem_of_getElem? (i := 431) (by decide +kernel), rfl⟩
set_option maxRecDepth 20000 in
theorem co_S_kill : Cond.code y_S_kill b_S_kill 5 (some .boolean) ∈ gt := List.mem_filter.mpr ⟨List.mem_of_getElem? (i := 432) rfl, rfl⟩
theorem ml_L_S_temporary : Cond.methodLink "StackRoomLaw" 117 y_S_temporary ∈ gt := List.mem_filter.mpr ⟨List.mem_of_getElem? (i := 433) (by decide +kernel), rfl⟩
theorem im_S_temporary : Cond.instanceMethod y_S_temporary ∈ gt := List.mem_filter.mpr ⟨List.mem_of_getElem? (i := 434) (by decide +kernel), rfl⟩
theorem se_S_S_temporary_S : Cond.selects "StackRoom" y_S_temporary y_S_temporary ∈ gt := List.mem_filter.mpr ⟨List.mem_of_getElem? (i := 435) (by decide +kernel), rfl⟩
set_option maxRecDepth 20000 in
theorem co_S_temporary : Cond.code y_S_temporary b_S_temporary 5 (some .boolean) ∈ gt := List.mem_filter.mpr ⟨List.mem_of_getElem? (i := 436) rfl, rfl⟩
theorem ml_S_X_hasTemporary : Cond.methodLink "StackRoom" 150 y_X_hasTemporary ∈ gt := List.mem_filter.mpr ⟨List.mem_of_getElem? (i := 437) (by decide +kernel), rfl⟩
theorem im_X_hasTemporary : Cond.instanceMethod y_X_hasTemporary ∈ gt := List.mem_filter.mpr ⟨List.mem_of_getElem? (i := 438) (by decide +kernel), rfl⟩
theorem se_X_X_hasTemporary_X : Cond.selects "StackRoom$MethodContext" y_X_hasTemporary y_X_hasTemporary ∈ gt := List.mem_filter.mpr ⟨List.mem_of_getElem? (i := 439) (by decide +kernel), rfl⟩
set_option maxRecDepth 20000 in
theorem co_X_hasTemporary : Cond.code y_X_hasTemporary b_X_hasTemporary 2 (some .boolean) ∈ gt := List.mem_filter.mpr ⟨List.mem_of_getElem? (i := 440) rfl, rfl⟩
theorem ml_X_X_hasField : Cond.methodLink "StackRoom$MethodContext" 24 ⟨"StackRoom$MethodContext", "hasField", "(I)Z"⟩ ∈ gt := List.mem_filter.mpr ⟨List.mem_of_getElem? (i := 441) (by decide +kernel), rfl⟩
theorem sm_X_C_hasField : Cond.sameMethod "StackRoom$MethodContext" "StackRoom$Context" "hasField" "(I)Z" ∈ gt := List.mem_filter.mpr ⟨List.mem_of_getElem? (i := 442) (by decide +kernel), rfl⟩
theorem dc_C_hasField : Cond.declares y_C_hasField ∈ nt := List.mem_filter.mpr ⟨List.mem_of_getElem? (i := 443) (by decide +kernel), rfl⟩
theorem se_X_X_hasField_C : Cond.selects "StackRoom$MethodContext" ⟨"StackRoom$MethodContext", "hasField", "(I)Z"⟩ y_C_hasField ∈ gt := List.mem_filter.mpr ⟨List.mem_of_getElem? (i := 444) (by decide +kernel), rfl⟩
theorem ml_S_X_fieldAt : Cond.methodLink "StackRoom" 153 ⟨"StackRoom$MethodContext", "fieldAt", "(I)LStackRoom$Value;"⟩ ∈ gt := List.mem_filter.mpr ⟨List.mem_of_getElem? (i := 445) (by decide +kernel), rfl⟩
theorem sm_X_C_fieldAt : Cond.sameMethod "StackRoom$MethodContext" "StackRoom$Context" "fieldAt" "(I)LStackRoom$Value;" ∈ gt := List.mem_filter.mpr ⟨List.mem_of_getElem? (i := 446) (by decide +kernel), rfl⟩
theorem dc_C_fieldAt : Cond.declares y_C_fieldAt ∈ nt := List.mem_filter.mpr ⟨List.mem_of_getElem? (i := 447) (by decide +kernel), rfl⟩
theorem se_X_X_fieldAt_C : Cond.selects "StackRoom$MethodContext" ⟨"StackRoom$MethodContext", "fieldAt", "(I)LStackRoom$Value;"⟩ y_C_fieldAt ∈ gt := List.mem_filter.mpr ⟨List.mem_of_getElem? (i := 448) (by decide +kernel), rfl⟩
theorem ml_L_S_keep : Cond.methodLink "StackRoomLaw" 121 y_S_keep ∈ gt := List.mem_filter.mpr ⟨List.mem_of_getElem? (i := 449) (by decide +kernel), rfl⟩
theorem im_S_keep : Cond.instanceMethod y_S_keep ∈ gt := List.mem_filter.mpr ⟨List.mem_of_getElem? (i := 450) (by decide +kernel), rfl⟩
theorem se_S_S_keep_S : Cond.selects "StackRoom" y_S_keep y_S_keep ∈ gt := List.mem_filter.mpr ⟨List.mem_of_getElem? (i := 451) (by decide +kernel), rfl⟩
set_option maxRecDepth 20000 in
theorem co_S_keep : Cond.code y_S_keep b_S_keep 5 (some .boolean) ∈ gt := List.mem_filter.mpr ⟨List.mem_of_getElem? (i := 452) rfl, rfl⟩
theorem ml_S_X_putField : Cond.methodLink "StackRoom" 154 ⟨"StackRoom$MethodContext", "putField", "(ILStackRoom$Value;)V"⟩ ∈ gt := List.mem_filter.mpr ⟨List.mem_of_getElem? (i := 453) (by decide +kernel), rfl⟩
theorem sm_X_C_putField : Cond.sameMethod "StackRoom$MethodContext" "StackRoom$Context" "putField" "(ILStackRoom$Value;)V" ∈ gt := List.mem_filter.mpr ⟨List.mem_of_getElem? (i := 454) (by decide +kernel), rfl⟩
theorem dc_C_putField : Cond.declares y_C_putField ∈ nt := List.mem_filter.mpr ⟨List.mem_of_getElem? (i := 455) (by decide +kernel), rfl⟩
theorem se_X_X_putField_C : Cond.selects "StackRoom$MethodContext" ⟨"StackRoom$MethodContext", "putField", "(ILStackRoom$Value;)V"⟩ y_C_putField ∈ gt := List.mem_filter.mpr ⟨List.mem_of_getElem? (i := 456) (by decide +kernel), rfl⟩
theorem ml_L_S_words : Cond.methodLink "StackRoomLaw" 125 y_S_words ∈ gt := List.mem_filter.mpr ⟨List.mem_of_getElem? (i := 457) (by decide +kernel), rfl⟩
theorem im_S_words : Cond.instanceMethod y_S_words ∈ gt := List.mem_filter.mpr ⟨List.mem_of_getElem? (i := 458) (by decide +kernel), rfl⟩
theorem se_S_S_words_S : Cond.selects "StackRoom" y_S_words y_S_words ∈ gt := List.mem_filter.mpr ⟨List.mem_of_getElem? (i := 459) (by decide +kernel), rfl⟩
set_option maxRecDepth 20000 in
theorem co_S_words : Cond.code y_S_words b_S_words 1 (some .int) ∈ gt := List.mem_filter.mpr ⟨List.mem_of_getElem? (i := 460) rfl, rfl⟩
theorem ml_L_S_entries : Cond.methodLink "StackRoomLaw" 130 y_S_entries ∈ gt := List.mem_filter.mpr ⟨List.mem_of_getElem? (i := 461) (by decide +kernel), rfl⟩
theorem im_S_entries : Cond.instanceMethod y_S_entries ∈ gt := List.mem_filter.mpr ⟨List.mem_of_getElem? (i := 462) (by decide +kernel), rfl⟩
theorem se_S_S_entries_S : Cond.selects "StackRoom" y_S_entries y_S_entries ∈ gt := List.mem_filter.mpr ⟨List.mem_of_getElem? (i := 463) (by decide +kernel), rfl⟩
set_option maxRecDepth 20000 in
theorem co_S_entries : Cond.code y_S_entries b_S_entries 1 (some .int) ∈ gt := List.mem_filter.mpr ⟨List.mem_of_getElem? (i := 464) rfl, rfl⟩
theorem ml_L_S_contexts : Cond.methodLink "StackRoomLaw" 134 y_S_contexts ∈ gt := List.mem_filter.mpr ⟨List.mem_of_getElem? (i := 465) (by decide +kernel), rfl⟩
theorem im_S_contexts : Cond.instanceMethod y_S_contexts ∈ gt := List.mem_filter.mpr ⟨List.mem_of_getElem? (i := 466) (by decide +kernel), rfl⟩
theorem se_S_S_contexts_S : Cond.selects "StackRoom" y_S_contexts y_S_contexts ∈ gt := List.mem_filter.mpr ⟨List.mem_of_getElem? (i := 467) (by decide +kernel), rfl⟩
set_option maxRecDepth 20000 in
theorem co_S_contexts : Cond.code y_S_contexts b_S_contexts 1 (some .int) ∈ gt := List.mem_filter.mpr ⟨List.mem_of_getElem? (i := 468) rfl, rfl⟩
theorem ml_L_L_cell : Cond.methodLink "StackRoomLaw" 9 y_L_cell ∈ gt := List.mem_filter.mpr ⟨List.mem_of_getElem? (i := 469) (by decide +kernel), rfl⟩
theorem st_L_cell : Cond.static y_L_cell ∈ gt := List.mem_filter.mpr ⟨List.mem_of_getElem? (i := 470) (by decide +kernel), rfl⟩
set_option maxRecDepth 20000 in
theorem co_L_cell : Cond.code y_L_cell b_L_cell 2 (some .int) ∈ gt := List.mem_filter.mpr ⟨List.mem_of_getElem? (i := 471) rfl, rfl⟩
theorem cl_L_R : Cond.classLink "StackRoomLaw" 18 "StackRoomModel" ∈ gt := List.mem_filter.mpr ⟨List.mem_of_getElem? (i := 472) (by decide +kernel), rfl⟩
theorem is_R : Cond.instantiable "StackRoomModel" 25 ∈ gt := List.mem_filter.mpr ⟨List.mem_of_getElem? (i := 473) (by decide +kernel), rfl⟩
theorem ml_L_R_init : Cond.methodLink "StackRoomLaw" 20 y_R_init ∈ gt := List.mem_filter.mpr ⟨List.mem_of_getElem? (i := 474) (by decide +kernel), rfl⟩
theorem im_R_init : Cond.instanceMethod y_R_init ∈ gt := List.mem_filter.mpr ⟨List.mem_of_getElem? (i := 475) (by decide +kernel), rfl⟩
set_option maxRecDepth 20000 in
theorem co_R_init : Cond.code y_R_init b_R_init 3 none ∈ gt := List.mem_filter.mpr ⟨List.mem_of_getElem? (i := 476) rfl, rfl⟩
theorem ml_R_O_init : Cond.methodLink "StackRoomModel" 1 y_O_init ∈ gt := List.mem_filter.mpr ⟨List.mem_of_getElem? (i := 477) (by decide +kernel), rfl⟩
theorem cs_R_32768 : Cond.constant "StackRoomModel" 55 (32768) ∈ gt := List.mem_filter.mpr ⟨List.mem_of_getElem? (i := 478) (by decide +kernel), rfl⟩
theorem fl_R_R_words : Cond.fieldLink "StackRoomModel" 68 "StackRoomModel" "words" "I" ∈ gt := List.mem_filter.mpr ⟨List.mem_of_getElem? (i := 479) (by decide +kernel), rfl⟩
theorem fl_R_R_entries : Cond.fieldLink "StackRoomModel" 71 "StackRoomModel" "entries" "I" ∈ gt := List.mem_filter.mpr ⟨List.mem_of_getElem? (i := 480) (by decide +kernel), rfl⟩
theorem fl_R_R_made : Cond.fieldLink "StackRoomModel" 7 "StackRoomModel" "made" "I" ∈ gt := List.mem_filter.mpr ⟨List.mem_of_getElem? (i := 481) (by decide +kernel), rfl⟩
theorem fl_R_R_registers : Cond.fieldLink "StackRoomModel" 13 "StackRoomModel" "registers" "[I" ∈ gt := List.mem_filter.mpr ⟨List.mem_of_getElem? (i := 482) (by decide +kernel), rfl⟩
theorem fl_R_R_kinds : Cond.fieldLink "StackRoomModel" 17 "StackRoomModel" "kinds" "[B" ∈ gt := List.mem_filter.mpr ⟨List.mem_of_getElem? (i := 483) (by decide +kernel), rfl⟩
theorem fl_R_R_identities : Cond.fieldLink "StackRoomModel" 21 "StackRoomModel" "identities" "[I" ∈ gt := List.mem_filter.mpr ⟨List.mem_of_getElem? (i := 484) (by decide +kernel), rfl⟩
theorem fl_R_R_arguments : Cond.fieldLink "StackRoomModel" 24 "StackRoomModel" "arguments" "[I" ∈ gt := List.mem_filter.mpr ⟨List.mem_of_getElem? (i := 485) (by decide +kernel), rfl⟩
theorem fl_R_R_temporaries : Cond.fieldLink "StackRoomModel" 27 "StackRoomModel" "temporaries" "[I" ∈ gt := List.mem_filter.mpr ⟨List.mem_of_getElem? (i := 486) (by decide +kernel), rfl⟩
theorem fl_R_R_depths : Cond.fieldLink "StackRoomModel" 30 "StackRoomModel" "depths" "[I" ∈ gt := List.mem_filter.mpr ⟨List.mem_of_getElem? (i := 487) (by decide +kernel), rfl⟩
theorem fl_R_R_senders : Cond.fieldLink "StackRoomModel" 33 "StackRoomModel" "senders" "[I" ∈ gt := List.mem_filter.mpr ⟨List.mem_of_getElem? (i := 488) (by decide +kernel), rfl⟩
theorem fl_R_R_dead : Cond.fieldLink "StackRoomModel" 36 "StackRoomModel" "dead" "[Z" ∈ gt := List.mem_filter.mpr ⟨List.mem_of_getElem? (i := 489) (by decide +kernel), rfl⟩
theorem fl_R_R_heights : Cond.fieldLink "StackRoomModel" 40 "StackRoomModel" "heights" "[I" ∈ gt := List.mem_filter.mpr ⟨List.mem_of_getElem? (i := 490) (by decide +kernel), rfl⟩
theorem fl_R_R_links : Cond.fieldLink "StackRoomModel" 43 "StackRoomModel" "links" "[I" ∈ gt := List.mem_filter.mpr ⟨List.mem_of_getElem? (i := 491) (by decide +kernel), rfl⟩
theorem fl_R_R_counts : Cond.fieldLink "StackRoomModel" 46 "StackRoomModel" "counts" "[I" ∈ gt := List.mem_filter.mpr ⟨List.mem_of_getElem? (i := 492) (by decide +kernel), rfl⟩
theorem fl_R_R_begins : Cond.fieldLink "StackRoomModel" 49 "StackRoomModel" "begins" "[I" ∈ gt := List.mem_filter.mpr ⟨List.mem_of_getElem? (i := 493) (by decide +kernel), rfl⟩
theorem fl_R_R_rooms : Cond.fieldLink "StackRoomModel" 52 "StackRoomModel" "rooms" "[I" ∈ gt := List.mem_filter.mpr ⟨List.mem_of_getElem? (i := 494) (by decide +kernel), rfl⟩
theorem fl_R_R_fields : Cond.fieldLink "StackRoomModel" 56 "StackRoomModel" "fields" "[I" ∈ gt := List.mem_filter.mpr ⟨List.mem_of_getElem? (i := 495) (by decide +kernel), rfl⟩
theorem fl_R_R_other : Cond.fieldLink "StackRoomModel" 59 "StackRoomModel" "other" "[I" ∈ gt := List.mem_filter.mpr ⟨List.mem_of_getElem? (i := 496) (by decide +kernel), rfl⟩
theorem fl_R_R_used : Cond.fieldLink "StackRoomModel" 110 "StackRoomModel" "used" "I" ∈ gt := List.mem_filter.mpr ⟨List.mem_of_getElem? (i := 497) (by decide +kernel), rfl⟩
theorem fl_R_R_seen : Cond.fieldLink "StackRoomModel" 62 "StackRoomModel" "seen" "[Z" ∈ gt := List.mem_filter.mpr ⟨List.mem_of_getElem? (i := 498) (by decide +kernel), rfl⟩
theorem fl_R_R_todo : Cond.fieldLink "StackRoomModel" 65 "StackRoomModel" "todo" "[I" ∈ gt := List.mem_filter.mpr ⟨List.mem_of_getElem? (i := 499) (by decide +kernel), rfl⟩
theorem fl_R_R_reached : Cond.fieldLink "StackRoomModel" 91 "StackRoomModel" "reached" "I" ∈ gt := List.mem_filter.mpr ⟨List.mem_of_getElem? (i := 500) (by decide +kernel), rfl⟩
theorem fl_R_R_reachedObjects : Cond.fieldLink "StackRoomModel" 94 "StackRoomModel" "reachedObjects" "I" ∈ gt := List.mem_filter.mpr ⟨List.mem_of_getElem? (i := 501) (by decide +kernel), rfl⟩
theorem fl_R_R_reachedWords : Cond.fieldLink "StackRoomModel" 97 "StackRoomModel" "reachedWords" "I" ∈ gt := List.mem_filter.mpr ⟨List.mem_of_getElem? (i := 502) (by decide +kernel), rfl⟩
theorem fl_R_R_reachedContexts : Cond.fieldLink "StackRoomModel" 100 "StackRoomModel" "reachedContexts" "I" ∈ gt := List.mem_filter.mpr ⟨List.mem_of_getElem? (i := 503) (by decide +kernel), rfl⟩
theorem ac_int : Cond.arrayClass .int ∈ gt := List.mem_filter.mpr ⟨List.mem_of_getElem? (i := 555) (by decide +kernel), rfl⟩
theorem ac_byte : Cond.arrayClass .byte ∈ gt := List.mem_filter.mpr ⟨List.mem_of_getElem? (i := 556) (by decide +kernel), rfl⟩
theorem ac_boolean : Cond.arrayClass .boolean ∈ gt := List.mem_filter.mpr ⟨List.mem_of_getElem? (i := 557) (by decide +kernel), rfl⟩
theorem ml_L_R_words : Cond.methodLink "StackRoomLaw" 129 y_R_words ∈ gt := List.mem_filter.mpr ⟨List.mem_of_getElem? (i := 558) (by decide +kernel), rfl⟩
theorem im_R_words : Cond.instanceMethod y_R_words ∈ gt := List.mem_filter.mpr ⟨List.mem_of_getElem? (i := 559) (by decide +kernel), rfl⟩
theorem se_R_R_words_R : Cond.selects "StackRoomModel" y_R_words y_R_words ∈ gt := List.mem_filter.mpr ⟨List.mem_of_getElem? (i := 560) (by decide +kernel), rfl⟩
set_option maxRecDepth 20000 in
theorem co_R_words : Cond.code y_R_words b_R_words 1 (some .int) ∈ gt := List.mem_filter.mpr ⟨List.mem_of_getElem? (i := 561) rfl, rfl⟩
theorem ml_R_R_look : Cond.methodLink "StackRoomModel" 107 y_R_look ∈ gt := List.mem_filter.mpr ⟨List.mem_of_getElem? (i := 562) (by decide +kernel), rfl⟩
theorem im_R_look : Cond.instanceMethod y_R_look ∈ gt := List.mem_filter.mpr ⟨List.mem_of_getElem? (i := 564) (by decide +kernel), rfl⟩
set_option maxRecDepth 20000 in
theorem co_R_look : Cond.code y_R_look b_R_look 4 none ∈ gt := List.mem_filter.mpr ⟨List.mem_of_getElem? (i := 565) rfl, rfl⟩
theorem ml_R_R_see : Cond.methodLink "StackRoomModel" 103 y_R_see ∈ gt := List.mem_filter.mpr ⟨List.mem_of_getElem? (i := 566) (by decide +kernel), rfl⟩
theorem im_R_see : Cond.instanceMethod y_R_see ∈ gt := List.mem_filter.mpr ⟨List.mem_of_getElem? (i := 568) (by decide +kernel), rfl⟩
set_option maxRecDepth 20000 in
theorem co_R_see : Cond.code y_R_see b_R_see 2 none ∈ gt := List.mem_filter.mpr ⟨List.mem_of_getElem? (i := 569) rfl, rfl⟩
theorem ml_R_R_isObject : Cond.methodLink "StackRoomModel" 80 y_R_isObject ∈ gt := List.mem_filter.mpr ⟨List.mem_of_getElem? (i := 570) (by decide +kernel), rfl⟩
theorem st_R_isObject : Cond.static y_R_isObject ∈ gt := List.mem_filter.mpr ⟨List.mem_of_getElem? (i := 571) (by decide +kernel), rfl⟩
set_option maxRecDepth 20000 in
theorem co_R_isObject : Cond.code y_R_isObject b_R_isObject 1 (some .boolean) ∈ gt := List.mem_filter.mpr ⟨List.mem_of_getElem? (i := 572) rfl, rfl⟩
theorem ml_L_R_entries : Cond.methodLink "StackRoomLaw" 133 y_R_entries ∈ gt := List.mem_filter.mpr ⟨List.mem_of_getElem? (i := 573) (by decide +kernel), rfl⟩
theorem im_R_entries : Cond.instanceMethod y_R_entries ∈ gt := List.mem_filter.mpr ⟨List.mem_of_getElem? (i := 574) (by decide +kernel), rfl⟩
theorem se_R_R_entries_R : Cond.selects "StackRoomModel" y_R_entries y_R_entries ∈ gt := List.mem_filter.mpr ⟨List.mem_of_getElem? (i := 575) (by decide +kernel), rfl⟩
set_option maxRecDepth 20000 in
theorem co_R_entries : Cond.code y_R_entries b_R_entries 1 (some .int) ∈ gt := List.mem_filter.mpr ⟨List.mem_of_getElem? (i := 576) rfl, rfl⟩
theorem ml_L_R_contexts : Cond.methodLink "StackRoomLaw" 137 y_R_contexts ∈ gt := List.mem_filter.mpr ⟨List.mem_of_getElem? (i := 577) (by decide +kernel), rfl⟩
theorem im_R_contexts : Cond.instanceMethod y_R_contexts ∈ gt := List.mem_filter.mpr ⟨List.mem_of_getElem? (i := 578) (by decide +kernel), rfl⟩
theorem se_R_R_contexts_R : Cond.selects "StackRoomModel" y_R_contexts y_R_contexts ∈ gt := List.mem_filter.mpr ⟨List.mem_of_getElem? (i := 579) (by decide +kernel), rfl⟩
set_option maxRecDepth 20000 in
theorem co_R_contexts : Cond.code y_R_contexts b_R_contexts 1 (some .int) ∈ gt := List.mem_filter.mpr ⟨List.mem_of_getElem? (i := 580) rfl, rfl⟩
theorem ml_L_R_number : Cond.methodLink "StackRoomLaw" 25 y_R_number ∈ gt := List.mem_filter.mpr ⟨List.mem_of_getElem? (i := 581) (by decide +kernel), rfl⟩
theorem im_R_number : Cond.instanceMethod y_R_number ∈ gt := List.mem_filter.mpr ⟨List.mem_of_getElem? (i := 582) (by decide +kernel), rfl⟩
theorem se_R_R_number_R : Cond.selects "StackRoomModel" y_R_number y_R_number ∈ gt := List.mem_filter.mpr ⟨List.mem_of_getElem? (i := 583) (by decide +kernel), rfl⟩
set_option maxRecDepth 20000 in
theorem co_R_number : Cond.code y_R_number b_R_number 3 (some .boolean) ∈ gt := List.mem_filter.mpr ⟨List.mem_of_getElem? (i := 584) rfl, rfl⟩
theorem ml_R_R_isRegister : Cond.methodLink "StackRoomModel" 76 y_R_isRegister ∈ gt := List.mem_filter.mpr ⟨List.mem_of_getElem? (i := 585) (by decide +kernel), rfl⟩
theorem st_R_isRegister : Cond.static y_R_isRegister ∈ gt := List.mem_filter.mpr ⟨List.mem_of_getElem? (i := 586) (by decide +kernel), rfl⟩
set_option maxRecDepth 20000 in
theorem co_R_isRegister : Cond.code y_R_isRegister b_R_isRegister 1 (some .boolean) ∈ gt := List.mem_filter.mpr ⟨List.mem_of_getElem? (i := 587) rfl, rfl⟩
theorem ml_R_R_isNumber : Cond.methodLink "StackRoomModel" 116 y_R_isNumber ∈ gt := List.mem_filter.mpr ⟨List.mem_of_getElem? (i := 588) (by decide +kernel), rfl⟩
theorem st_R_isNumber : Cond.static y_R_isNumber ∈ gt := List.mem_filter.mpr ⟨List.mem_of_getElem? (i := 589) (by decide +kernel), rfl⟩
set_option maxRecDepth 20000 in
theorem co_R_isNumber : Cond.code y_R_isNumber b_R_isNumber 1 (some .boolean) ∈ gt := List.mem_filter.mpr ⟨List.mem_of_getElem? (i := 590) rfl, rfl⟩
theorem cs_R_m1073741824 : Cond.constant "StackRoomModel" 74 (-1073741824) ∈ gt := List.mem_filter.mpr ⟨List.mem_of_getElem? (i := 591) (by decide +kernel), rfl⟩
theorem cs_R_1073741823 : Cond.constant "StackRoomModel" 75 (1073741823) ∈ gt := List.mem_filter.mpr ⟨List.mem_of_getElem? (i := 592) (by decide +kernel), rfl⟩
theorem ml_R_R_numeral : Cond.methodLink "StackRoomModel" 119 y_R_numeral ∈ gt := List.mem_filter.mpr ⟨List.mem_of_getElem? (i := 593) (by decide +kernel), rfl⟩
theorem st_R_numeral : Cond.static y_R_numeral ∈ gt := List.mem_filter.mpr ⟨List.mem_of_getElem? (i := 594) (by decide +kernel), rfl⟩
set_option maxRecDepth 20000 in
theorem co_R_numeral : Cond.code y_R_numeral b_R_numeral 1 (some .int) ∈ gt := List.mem_filter.mpr ⟨List.mem_of_getElem? (i := 595) rfl, rfl⟩
theorem ml_L_R_move : Cond.methodLink "StackRoomLaw" 29 y_R_move ∈ gt := List.mem_filter.mpr ⟨List.mem_of_getElem? (i := 596) (by decide +kernel), rfl⟩
theorem im_R_move : Cond.instanceMethod y_R_move ∈ gt := List.mem_filter.mpr ⟨List.mem_of_getElem? (i := 597) (by decide +kernel), rfl⟩
theorem se_R_R_move_R : Cond.selects "StackRoomModel" y_R_move y_R_move ∈ gt := List.mem_filter.mpr ⟨List.mem_of_getElem? (i := 598) (by decide +kernel), rfl⟩
set_option maxRecDepth 20000 in
theorem co_R_move : Cond.code y_R_move b_R_move 3 (some .boolean) ∈ gt := List.mem_filter.mpr ⟨List.mem_of_getElem? (i := 599) rfl, rfl⟩
theorem ml_L_R_clear : Cond.methodLink "StackRoomLaw" 34 y_R_clear ∈ gt := List.mem_filter.mpr ⟨List.mem_of_getElem? (i := 600) (by decide +kernel), rfl⟩
theorem im_R_clear : Cond.instanceMethod y_R_clear ∈ gt := List.mem_filter.mpr ⟨List.mem_of_getElem? (i := 601) (by decide +kernel), rfl⟩
theorem se_R_R_clear_R : Cond.selects "StackRoomModel" y_R_clear y_R_clear ∈ gt := List.mem_filter.mpr ⟨List.mem_of_getElem? (i := 602) (by decide +kernel), rfl⟩
set_option maxRecDepth 20000 in
theorem co_R_clear : Cond.code y_R_clear b_R_clear 2 (some .boolean) ∈ gt := List.mem_filter.mpr ⟨List.mem_of_getElem? (i := 603) rfl, rfl⟩
theorem ml_L_R_kind : Cond.methodLink "StackRoomLaw" 39 y_R_kind ∈ gt := List.mem_filter.mpr ⟨List.mem_of_getElem? (i := 604) (by decide +kernel), rfl⟩
theorem im_R_kind : Cond.instanceMethod y_R_kind ∈ gt := List.mem_filter.mpr ⟨List.mem_of_getElem? (i := 605) (by decide +kernel), rfl⟩
theorem se_R_R_kind_R : Cond.selects "StackRoomModel" y_R_kind y_R_kind ∈ gt := List.mem_filter.mpr ⟨List.mem_of_getElem? (i := 606) (by decide +kernel), rfl⟩
set_option maxRecDepth 20000 in
theorem co_R_kind : Cond.code y_R_kind b_R_kind 3 (some .int) ∈ gt := List.mem_filter.mpr ⟨List.mem_of_getElem? (i := 607) rfl, rfl⟩
theorem ml_L_R_value : Cond.methodLink "StackRoomLaw" 43 y_R_value ∈ gt := List.mem_filter.mpr ⟨List.mem_of_getElem? (i := 608) (by decide +kernel), rfl⟩
theorem im_R_value : Cond.instanceMethod y_R_value ∈ gt := List.mem_filter.mpr ⟨List.mem_of_getElem? (i := 609) (by decide +kernel), rfl⟩
theorem se_R_R_value_R : Cond.selects "StackRoomModel" y_R_value y_R_value ∈ gt := List.mem_filter.mpr ⟨List.mem_of_getElem? (i := 610) (by decide +kernel), rfl⟩
set_option maxRecDepth 20000 in
theorem co_R_value : Cond.code y_R_value b_R_value 3 (some .int) ∈ gt := List.mem_filter.mpr ⟨List.mem_of_getElem? (i := 611) rfl, rfl⟩
theorem ml_L_R_method : Cond.methodLink "StackRoomLaw" 48 y_R_method ∈ gt := List.mem_filter.mpr ⟨List.mem_of_getElem? (i := 612) (by decide +kernel), rfl⟩
theorem im_R_method : Cond.instanceMethod y_R_method ∈ gt := List.mem_filter.mpr ⟨List.mem_of_getElem? (i := 613) (by decide +kernel), rfl⟩
theorem se_R_R_method_R : Cond.selects "StackRoomModel" y_R_method y_R_method ∈ gt := List.mem_filter.mpr ⟨List.mem_of_getElem? (i := 614) (by decide +kernel), rfl⟩
set_option maxRecDepth 20000 in
theorem co_R_method : Cond.code y_R_method b_R_method 6 (some .int) ∈ gt := List.mem_filter.mpr ⟨List.mem_of_getElem? (i := 615) rfl, rfl⟩
theorem ml_R_R_isMethod : Cond.methodLink "StackRoomModel" 122 y_R_isMethod ∈ gt := List.mem_filter.mpr ⟨List.mem_of_getElem? (i := 616) (by decide +kernel), rfl⟩
theorem st_R_isMethod : Cond.static y_R_isMethod ∈ gt := List.mem_filter.mpr ⟨List.mem_of_getElem? (i := 617) (by decide +kernel), rfl⟩
set_option maxRecDepth 20000 in
theorem co_R_isMethod : Cond.code y_R_isMethod b_R_isMethod 3 (some .boolean) ∈ gt := List.mem_filter.mpr ⟨List.mem_of_getElem? (i := 618) rfl, rfl⟩
theorem ml_R_R_make : Cond.methodLink "StackRoomModel" 126 y_R_make ∈ gt := List.mem_filter.mpr ⟨List.mem_of_getElem? (i := 619) (by decide +kernel), rfl⟩
theorem im_R_make : Cond.instanceMethod y_R_make ∈ gt := List.mem_filter.mpr ⟨List.mem_of_getElem? (i := 621) (by decide +kernel), rfl⟩
set_option maxRecDepth 20000 in
theorem co_R_make : Cond.code y_R_make b_R_make 7 (some .int) ∈ gt := List.mem_filter.mpr ⟨List.mem_of_getElem? (i := 622) rfl, rfl⟩
theorem ml_R_R_letGo : Cond.methodLink "StackRoomModel" 113 y_R_letGo ∈ gt := List.mem_filter.mpr ⟨List.mem_of_getElem? (i := 623) (by decide +kernel), rfl⟩
theorem im_R_letGo : Cond.instanceMethod y_R_letGo ∈ gt := List.mem_filter.mpr ⟨List.mem_of_getElem? (i := 625) (by decide +kernel), rfl⟩
set_option maxRecDepth 20000 in
theorem co_R_letGo : Cond.code y_R_letGo b_R_letGo 4 none ∈ gt := List.mem_filter.mpr ⟨List.mem_of_getElem? (i := 626) rfl, rfl⟩
theorem ml_R_R_give : Cond.methodLink "StackRoomModel" 130 y_R_give ∈ gt := List.mem_filter.mpr ⟨List.mem_of_getElem? (i := 627) (by decide +kernel), rfl⟩
theorem im_R_give : Cond.instanceMethod y_R_give ∈ gt := List.mem_filter.mpr ⟨List.mem_of_getElem? (i := 629) (by decide +kernel), rfl⟩
set_option maxRecDepth 20000 in
theorem co_R_give : Cond.code y_R_give b_R_give 5 none ∈ gt := List.mem_filter.mpr ⟨List.mem_of_getElem? (i := 630) rfl, rfl⟩
theorem ml_L_R_change : Cond.methodLink "StackRoomLaw" 53 y_R_change ∈ gt := List.mem_filter.mpr ⟨List.mem_of_getElem? (i := 631) (by decide +kernel), rfl⟩
theorem im_R_change : Cond.instanceMethod y_R_change ∈ gt := List.mem_filter.mpr ⟨List.mem_of_getElem? (i := 632) (by decide +kernel), rfl⟩
theorem se_R_R_change_R : Cond.selects "StackRoomModel" y_R_change y_R_change ∈ gt := List.mem_filter.mpr ⟨List.mem_of_getElem? (i := 633) (by decide +kernel), rfl⟩
set_option maxRecDepth 20000 in
theorem co_R_change : Cond.code y_R_change b_R_change 6 (some .boolean) ∈ gt := List.mem_filter.mpr ⟨List.mem_of_getElem? (i := 634) rfl, rfl⟩
theorem ml_R_R_objectIn : Cond.methodLink "StackRoomModel" 83 y_R_objectIn ∈ gt := List.mem_filter.mpr ⟨List.mem_of_getElem? (i := 635) (by decide +kernel), rfl⟩
theorem im_R_objectIn : Cond.instanceMethod y_R_objectIn ∈ gt := List.mem_filter.mpr ⟨List.mem_of_getElem? (i := 637) (by decide +kernel), rfl⟩
set_option maxRecDepth 20000 in
theorem co_R_objectIn : Cond.code y_R_objectIn b_R_objectIn 5 (some .int) ∈ gt := List.mem_filter.mpr ⟨List.mem_of_getElem? (i := 638) rfl, rfl⟩
theorem ml_L_R_context : Cond.methodLink "StackRoomLaw" 58 y_R_context ∈ gt := List.mem_filter.mpr ⟨List.mem_of_getElem? (i := 639) (by decide +kernel), rfl⟩
theorem im_R_context : Cond.instanceMethod y_R_context ∈ gt := List.mem_filter.mpr ⟨List.mem_of_getElem? (i := 640) (by decide +kernel), rfl⟩
theorem se_R_R_context_R : Cond.selects "StackRoomModel" y_R_context y_R_context ∈ gt := List.mem_filter.mpr ⟨List.mem_of_getElem? (i := 641) (by decide +kernel), rfl⟩
set_option maxRecDepth 20000 in
theorem co_R_context : Cond.code y_R_context b_R_context 8 (some .int) ∈ gt := List.mem_filter.mpr ⟨List.mem_of_getElem? (i := 642) rfl, rfl⟩
theorem ml_R_R_isNilOrContext : Cond.methodLink "StackRoomModel" 134 y_R_isNilOrContext ∈ gt := List.mem_filter.mpr ⟨List.mem_of_getElem? (i := 643) (by decide +kernel), rfl⟩
theorem im_R_isNilOrContext : Cond.instanceMethod y_R_isNilOrContext ∈ gt := List.mem_filter.mpr ⟨List.mem_of_getElem? (i := 645) (by decide +kernel), rfl⟩
set_option maxRecDepth 20000 in
theorem co_R_isNilOrContext : Cond.code y_R_isNilOrContext b_R_isNilOrContext 2 (some .boolean) ∈ gt := List.mem_filter.mpr ⟨List.mem_of_getElem? (i := 646) rfl, rfl⟩
theorem ml_R_R_contextIn : Cond.methodLink "StackRoomModel" 87 y_R_contextIn ∈ gt := List.mem_filter.mpr ⟨List.mem_of_getElem? (i := 647) (by decide +kernel), rfl⟩
theorem im_R_contextIn : Cond.instanceMethod y_R_contextIn ∈ gt := List.mem_filter.mpr ⟨List.mem_of_getElem? (i := 649) (by decide +kernel), rfl⟩
set_option maxRecDepth 20000 in
theorem co_R_contextIn : Cond.code y_R_contextIn b_R_contextIn 2 (some .int) ∈ gt := List.mem_filter.mpr ⟨List.mem_of_getElem? (i := 650) rfl, rfl⟩
theorem ml_R_R_settle : Cond.methodLink "StackRoomModel" 137 y_R_settle ∈ gt := List.mem_filter.mpr ⟨List.mem_of_getElem? (i := 651) (by decide +kernel), rfl⟩
theorem im_R_settle : Cond.instanceMethod y_R_settle ∈ gt := List.mem_filter.mpr ⟨List.mem_of_getElem? (i := 653) (by decide +kernel), rfl⟩
set_option maxRecDepth 20000 in
theorem co_R_settle : Cond.code y_R_settle b_R_settle 7 (some .int) ∈ gt := List.mem_filter.mpr ⟨List.mem_of_getElem? (i := 654) rfl, rfl⟩
theorem ml_L_R_block : Cond.methodLink "StackRoomLaw" 62 y_R_block ∈ gt := List.mem_filter.mpr ⟨List.mem_of_getElem? (i := 655) (by decide +kernel), rfl⟩
theorem im_R_block : Cond.instanceMethod y_R_block ∈ gt := List.mem_filter.mpr ⟨List.mem_of_getElem? (i := 656) (by decide +kernel), rfl⟩
theorem se_R_R_block_R : Cond.selects "StackRoomModel" y_R_block y_R_block ∈ gt := List.mem_filter.mpr ⟨List.mem_of_getElem? (i := 657) (by decide +kernel), rfl⟩
set_option maxRecDepth 20000 in
theorem co_R_block : Cond.code y_R_block b_R_block 8 (some .int) ∈ gt := List.mem_filter.mpr ⟨List.mem_of_getElem? (i := 658) rfl, rfl⟩
theorem ml_R_R_homeOf : Cond.methodLink "StackRoomModel" 141 y_R_homeOf ∈ gt := List.mem_filter.mpr ⟨List.mem_of_getElem? (i := 659) (by decide +kernel), rfl⟩
theorem im_R_homeOf : Cond.instanceMethod y_R_homeOf ∈ gt := List.mem_filter.mpr ⟨List.mem_of_getElem? (i := 661) (by decide +kernel), rfl⟩
set_option maxRecDepth 20000 in
theorem co_R_homeOf : Cond.code y_R_homeOf b_R_homeOf 2 (some .int) ∈ gt := List.mem_filter.mpr ⟨List.mem_of_getElem? (i := 662) rfl, rfl⟩
theorem ml_L_R_push : Cond.methodLink "StackRoomLaw" 66 y_R_push ∈ gt := List.mem_filter.mpr ⟨List.mem_of_getElem? (i := 663) (by decide +kernel), rfl⟩
theorem im_R_push : Cond.instanceMethod y_R_push ∈ gt := List.mem_filter.mpr ⟨List.mem_of_getElem? (i := 664) (by decide +kernel), rfl⟩
theorem se_R_R_push_R : Cond.selects "StackRoomModel" y_R_push y_R_push ∈ gt := List.mem_filter.mpr ⟨List.mem_of_getElem? (i := 665) (by decide +kernel), rfl⟩
set_option maxRecDepth 20000 in
theorem co_R_push : Cond.code y_R_push b_R_push 4 (some .boolean) ∈ gt := List.mem_filter.mpr ⟨List.mem_of_getElem? (i := 666) rfl, rfl⟩
theorem ml_R_R_pushes : Cond.methodLink "StackRoomModel" 144 y_R_pushes ∈ gt := List.mem_filter.mpr ⟨List.mem_of_getElem? (i := 667) (by decide +kernel), rfl⟩
theorem im_R_pushes : Cond.instanceMethod y_R_pushes ∈ gt := List.mem_filter.mpr ⟨List.mem_of_getElem? (i := 669) (by decide +kernel), rfl⟩
set_option maxRecDepth 20000 in
theorem co_R_pushes : Cond.code y_R_pushes b_R_pushes 3 (some .boolean) ∈ gt := List.mem_filter.mpr ⟨List.mem_of_getElem? (i := 670) rfl, rfl⟩
theorem ml_L_R_fill : Cond.methodLink "StackRoomLaw" 70 y_R_fill ∈ gt := List.mem_filter.mpr ⟨List.mem_of_getElem? (i := 671) (by decide +kernel), rfl⟩
theorem im_R_fill : Cond.instanceMethod y_R_fill ∈ gt := List.mem_filter.mpr ⟨List.mem_of_getElem? (i := 672) (by decide +kernel), rfl⟩
theorem se_R_R_fill_R : Cond.selects "StackRoomModel" y_R_fill y_R_fill ∈ gt := List.mem_filter.mpr ⟨List.mem_of_getElem? (i := 673) (by decide +kernel), rfl⟩
set_option maxRecDepth 20000 in
theorem co_R_fill : Cond.code y_R_fill b_R_fill 6 (some .int) ∈ gt := List.mem_filter.mpr ⟨List.mem_of_getElem? (i := 674) rfl, rfl⟩
theorem ml_L_R_pop : Cond.methodLink "StackRoomLaw" 74 y_R_pop ∈ gt := List.mem_filter.mpr ⟨List.mem_of_getElem? (i := 675) (by decide +kernel), rfl⟩
theorem im_R_pop : Cond.instanceMethod y_R_pop ∈ gt := List.mem_filter.mpr ⟨List.mem_of_getElem? (i := 676) (by decide +kernel), rfl⟩
theorem se_R_R_pop_R : Cond.selects "StackRoomModel" y_R_pop y_R_pop ∈ gt := List.mem_filter.mpr ⟨List.mem_of_getElem? (i := 677) (by decide +kernel), rfl⟩
set_option maxRecDepth 20000 in
theorem co_R_pop : Cond.code y_R_pop b_R_pop 4 (some .boolean) ∈ gt := List.mem_filter.mpr ⟨List.mem_of_getElem? (i := 678) rfl, rfl⟩
theorem ml_R_R_floorOf : Cond.methodLink "StackRoomModel" 148 y_R_floorOf ∈ gt := List.mem_filter.mpr ⟨List.mem_of_getElem? (i := 679) (by decide +kernel), rfl⟩
theorem im_R_floorOf : Cond.instanceMethod y_R_floorOf ∈ gt := List.mem_filter.mpr ⟨List.mem_of_getElem? (i := 681) (by decide +kernel), rfl⟩
set_option maxRecDepth 20000 in
theorem co_R_floorOf : Cond.code y_R_floorOf b_R_floorOf 2 (some .int) ∈ gt := List.mem_filter.mpr ⟨List.mem_of_getElem? (i := 682) rfl, rfl⟩
theorem ml_R_R_popped : Cond.methodLink "StackRoomModel" 151 y_R_popped ∈ gt := List.mem_filter.mpr ⟨List.mem_of_getElem? (i := 683) (by decide +kernel), rfl⟩
theorem im_R_popped : Cond.instanceMethod y_R_popped ∈ gt := List.mem_filter.mpr ⟨List.mem_of_getElem? (i := 685) (by decide +kernel), rfl⟩
set_option maxRecDepth 20000 in
theorem co_R_popped : Cond.code y_R_popped b_R_popped 3 (some .int) ∈ gt := List.mem_filter.mpr ⟨List.mem_of_getElem? (i := 686) rfl, rfl⟩
theorem ml_L_R_peek : Cond.methodLink "StackRoomLaw" 79 y_R_peek ∈ gt := List.mem_filter.mpr ⟨List.mem_of_getElem? (i := 687) (by decide +kernel), rfl⟩
theorem im_R_peek : Cond.instanceMethod y_R_peek ∈ gt := List.mem_filter.mpr ⟨List.mem_of_getElem? (i := 688) (by decide +kernel), rfl⟩
theorem se_R_R_peek_R : Cond.selects "StackRoomModel" y_R_peek y_R_peek ∈ gt := List.mem_filter.mpr ⟨List.mem_of_getElem? (i := 689) (by decide +kernel), rfl⟩
set_option maxRecDepth 20000 in
theorem co_R_peek : Cond.code y_R_peek b_R_peek 5 (some .boolean) ∈ gt := List.mem_filter.mpr ⟨List.mem_of_getElem? (i := 690) rfl, rfl⟩
theorem ml_L_R_drop : Cond.methodLink "StackRoomLaw" 83 y_R_drop ∈ gt := List.mem_filter.mpr ⟨List.mem_of_getElem? (i := 691) (by decide +kernel), rfl⟩
theorem im_R_drop : Cond.instanceMethod y_R_drop ∈ gt := List.mem_filter.mpr ⟨List.mem_of_getElem? (i := 692) (by decide +kernel), rfl⟩
theorem se_R_R_drop_R : Cond.selects "StackRoomModel" y_R_drop y_R_drop ∈ gt := List.mem_filter.mpr ⟨List.mem_of_getElem? (i := 693) (by decide +kernel), rfl⟩
set_option maxRecDepth 20000 in
theorem co_R_drop : Cond.code y_R_drop b_R_drop 5 (some .boolean) ∈ gt := List.mem_filter.mpr ⟨List.mem_of_getElem? (i := 694) rfl, rfl⟩
theorem ml_L_R_height : Cond.methodLink "StackRoomLaw" 87 y_R_height ∈ gt := List.mem_filter.mpr ⟨List.mem_of_getElem? (i := 695) (by decide +kernel), rfl⟩
theorem im_R_height : Cond.instanceMethod y_R_height ∈ gt := List.mem_filter.mpr ⟨List.mem_of_getElem? (i := 696) (by decide +kernel), rfl⟩
theorem se_R_R_height_R : Cond.selects "StackRoomModel" y_R_height y_R_height ∈ gt := List.mem_filter.mpr ⟨List.mem_of_getElem? (i := 697) (by decide +kernel), rfl⟩
set_option maxRecDepth 20000 in
theorem co_R_height : Cond.code y_R_height b_R_height 3 (some .int) ∈ gt := List.mem_filter.mpr ⟨List.mem_of_getElem? (i := 698) rfl, rfl⟩
theorem ml_L_R_room : Cond.methodLink "StackRoomLaw" 91 y_R_room ∈ gt := List.mem_filter.mpr ⟨List.mem_of_getElem? (i := 699) (by decide +kernel), rfl⟩
theorem im_R_room : Cond.instanceMethod y_R_room ∈ gt := List.mem_filter.mpr ⟨List.mem_of_getElem? (i := 700) (by decide +kernel), rfl⟩
theorem se_R_R_room_R : Cond.selects "StackRoomModel" y_R_room y_R_room ∈ gt := List.mem_filter.mpr ⟨List.mem_of_getElem? (i := 701) (by decide +kernel), rfl⟩
set_option maxRecDepth 20000 in
theorem co_R_room : Cond.code y_R_room b_R_room 3 (some .int) ∈ gt := List.mem_filter.mpr ⟨List.mem_of_getElem? (i := 702) rfl, rfl⟩
theorem ml_L_R_floor : Cond.methodLink "StackRoomLaw" 95 y_R_floor ∈ gt := List.mem_filter.mpr ⟨List.mem_of_getElem? (i := 703) (by decide +kernel), rfl⟩
theorem im_R_floor : Cond.instanceMethod y_R_floor ∈ gt := List.mem_filter.mpr ⟨List.mem_of_getElem? (i := 704) (by decide +kernel), rfl⟩
theorem se_R_R_floor_R : Cond.selects "StackRoomModel" y_R_floor y_R_floor ∈ gt := List.mem_filter.mpr ⟨List.mem_of_getElem? (i := 705) (by decide +kernel), rfl⟩
set_option maxRecDepth 20000 in
theorem co_R_floor : Cond.code y_R_floor b_R_floor 3 (some .int) ∈ gt := List.mem_filter.mpr ⟨List.mem_of_getElem? (i := 706) rfl, rfl⟩
theorem ml_L_R_count : Cond.methodLink "StackRoomLaw" 99 y_R_count ∈ gt := List.mem_filter.mpr ⟨List.mem_of_getElem? (i := 707) (by decide +kernel), rfl⟩
theorem im_R_count : Cond.instanceMethod y_R_count ∈ gt := List.mem_filter.mpr ⟨List.mem_of_getElem? (i := 708) (by decide +kernel), rfl⟩
theorem se_R_R_count_R : Cond.selects "StackRoomModel" y_R_count y_R_count ∈ gt := List.mem_filter.mpr ⟨List.mem_of_getElem? (i := 709) (by decide +kernel), rfl⟩
set_option maxRecDepth 20000 in
theorem co_R_count : Cond.code y_R_count b_R_count 3 (some .int) ∈ gt := List.mem_filter.mpr ⟨List.mem_of_getElem? (i := 710) rfl, rfl⟩
theorem ml_L_R_home : Cond.methodLink "StackRoomLaw" 103 y_R_home ∈ gt := List.mem_filter.mpr ⟨List.mem_of_getElem? (i := 711) (by decide +kernel), rfl⟩
theorem im_R_home : Cond.instanceMethod y_R_home ∈ gt := List.mem_filter.mpr ⟨List.mem_of_getElem? (i := 712) (by decide +kernel), rfl⟩
theorem se_R_R_home_R : Cond.selects "StackRoomModel" y_R_home y_R_home ∈ gt := List.mem_filter.mpr ⟨List.mem_of_getElem? (i := 713) (by decide +kernel), rfl⟩
set_option maxRecDepth 20000 in
theorem co_R_home : Cond.code y_R_home b_R_home 4 (some .boolean) ∈ gt := List.mem_filter.mpr ⟨List.mem_of_getElem? (i := 714) rfl, rfl⟩
theorem ml_L_R_sender : Cond.methodLink "StackRoomLaw" 107 y_R_sender ∈ gt := List.mem_filter.mpr ⟨List.mem_of_getElem? (i := 715) (by decide +kernel), rfl⟩
theorem im_R_sender : Cond.instanceMethod y_R_sender ∈ gt := List.mem_filter.mpr ⟨List.mem_of_getElem? (i := 716) (by decide +kernel), rfl⟩
theorem se_R_R_sender_R : Cond.selects "StackRoomModel" y_R_sender y_R_sender ∈ gt := List.mem_filter.mpr ⟨List.mem_of_getElem? (i := 717) (by decide +kernel), rfl⟩
set_option maxRecDepth 20000 in
theorem co_R_sender : Cond.code y_R_sender b_R_sender 4 (some .boolean) ∈ gt := List.mem_filter.mpr ⟨List.mem_of_getElem? (i := 718) rfl, rfl⟩
theorem ml_L_R_send : Cond.methodLink "StackRoomLaw" 111 y_R_send ∈ gt := List.mem_filter.mpr ⟨List.mem_of_getElem? (i := 719) (by decide +kernel), rfl⟩
theorem im_R_send : Cond.instanceMethod y_R_send ∈ gt := List.mem_filter.mpr ⟨List.mem_of_getElem? (i := 720) (by decide +kernel), rfl⟩
theorem se_R_R_send_R : Cond.selects "StackRoomModel" y_R_send y_R_send ∈ gt := List.mem_filter.mpr ⟨List.mem_of_getElem? (i := 721) (by decide +kernel), rfl⟩
set_option maxRecDepth 20000 in
theorem co_R_send : Cond.code y_R_send b_R_send 4 (some .boolean) ∈ gt := List.mem_filter.mpr ⟨List.mem_of_getElem? (i := 722) rfl, rfl⟩
theorem ml_L_R_kill : Cond.methodLink "StackRoomLaw" 116 y_R_kill ∈ gt := List.mem_filter.mpr ⟨List.mem_of_getElem? (i := 723) (by decide +kernel), rfl⟩
theorem im_R_kill : Cond.instanceMethod y_R_kill ∈ gt := List.mem_filter.mpr ⟨List.mem_of_getElem? (i := 724) (by decide +kernel), rfl⟩
theorem se_R_R_kill_R : Cond.selects "StackRoomModel" y_R_kill y_R_kill ∈ gt := List.mem_filter.mpr ⟨List.mem_of_getElem? (i := 725) (by decide +kernel), rfl⟩
set_option maxRecDepth 20000 in
theorem co_R_kill : Cond.code y_R_kill b_R_kill 5 (some .boolean) ∈ gt := List.mem_filter.mpr ⟨List.mem_of_getElem? (i := 726) rfl, rfl⟩
theorem ml_L_R_temporary : Cond.methodLink "StackRoomLaw" 120 y_R_temporary ∈ gt := List.mem_filter.mpr ⟨List.mem_of_getElem? (i := 727) (by decide +kernel), rfl⟩
theorem im_R_temporary : Cond.instanceMethod y_R_temporary ∈ gt := List.mem_filter.mpr ⟨List.mem_of_getElem? (i := 728) (by decide +kernel), rfl⟩
theorem se_R_R_temporary_R : Cond.selects "StackRoomModel" y_R_temporary y_R_temporary ∈ gt := List.mem_filter.mpr ⟨List.mem_of_getElem? (i := 729) (by decide +kernel), rfl⟩
set_option maxRecDepth 20000 in
theorem co_R_temporary : Cond.code y_R_temporary b_R_temporary 5 (some .boolean) ∈ gt := List.mem_filter.mpr ⟨List.mem_of_getElem? (i := 730) rfl, rfl⟩
theorem ml_R_R_placeOf : Cond.methodLink "StackRoomModel" 154 y_R_placeOf ∈ gt := List.mem_filter.mpr ⟨List.mem_of_getElem? (i := 731) (by decide +kernel), rfl⟩
theorem im_R_placeOf : Cond.instanceMethod y_R_placeOf ∈ gt := List.mem_filter.mpr ⟨List.mem_of_getElem? (i := 733) (by decide +kernel), rfl⟩
set_option maxRecDepth 20000 in
theorem co_R_placeOf : Cond.code y_R_placeOf b_R_placeOf 5 (some .int) ∈ gt := List.mem_filter.mpr ⟨List.mem_of_getElem? (i := 734) rfl, rfl⟩
theorem ml_L_R_keep : Cond.methodLink "StackRoomLaw" 124 y_R_keep ∈ gt := List.mem_filter.mpr ⟨List.mem_of_getElem? (i := 735) (by decide +kernel), rfl⟩
theorem im_R_keep : Cond.instanceMethod y_R_keep ∈ gt := List.mem_filter.mpr ⟨List.mem_of_getElem? (i := 736) (by decide +kernel), rfl⟩
theorem se_R_R_keep_R : Cond.selects "StackRoomModel" y_R_keep y_R_keep ∈ gt := List.mem_filter.mpr ⟨List.mem_of_getElem? (i := 737) (by decide +kernel), rfl⟩
set_option maxRecDepth 20000 in
theorem co_R_keep : Cond.code y_R_keep b_R_keep 5 (some .boolean) ∈ gt := List.mem_filter.mpr ⟨List.mem_of_getElem? (i := 738) rfl, rfl⟩
theorem ca_B_T : Cond.castable "StackRoom$BlockContext" "StackRoom$Thing" ∈ nt := List.mem_filter.mpr ⟨List.mem_of_getElem? (i := 739) (by decide +kernel), rfl⟩
theorem ca_M_T : Cond.castable "StackRoom$Method" "StackRoom$Thing" ∈ nt := List.mem_filter.mpr ⟨List.mem_of_getElem? (i := 740) (by decide +kernel), rfl⟩
theorem ca_X_T : Cond.castable "StackRoom$MethodContext" "StackRoom$Thing" ∈ nt := List.mem_filter.mpr ⟨List.mem_of_getElem? (i := 741) (by decide +kernel), rfl⟩
theorem ca_B_C : Cond.castable "StackRoom$BlockContext" "StackRoom$Context" ∈ nt := List.mem_filter.mpr ⟨List.mem_of_getElem? (i := 742) (by decide +kernel), rfl⟩
theorem ca_X_C : Cond.castable "StackRoom$MethodContext" "StackRoom$Context" ∈ nt := List.mem_filter.mpr ⟨List.mem_of_getElem? (i := 743) (by decide +kernel), rfl⟩
theorem ca_M_M : Cond.castable "StackRoom$Method" "StackRoom$Method" ∈ nt := List.mem_filter.mpr ⟨List.mem_of_getElem? (i := 744) (by decide +kernel), rfl⟩
theorem ca_B_B : Cond.castable "StackRoom$BlockContext" "StackRoom$BlockContext" ∈ nt := List.mem_filter.mpr ⟨List.mem_of_getElem? (i := 745) (by decide +kernel), rfl⟩
theorem ca_B_V : Cond.castable "StackRoom$BlockContext" "StackRoom$Value" ∈ nt := List.mem_filter.mpr ⟨List.mem_of_getElem? (i := 746) (by decide +kernel), rfl⟩
theorem ca_M_V : Cond.castable "StackRoom$Method" "StackRoom$Value" ∈ nt := List.mem_filter.mpr ⟨List.mem_of_getElem? (i := 747) (by decide +kernel), rfl⟩
theorem ca_X_V : Cond.castable "StackRoom$MethodContext" "StackRoom$Value" ∈ nt := List.mem_filter.mpr ⟨List.mem_of_getElem? (i := 748) (by decide +kernel), rfl⟩
theorem ca_W_V : Cond.castable "StackRoom$Whole" "StackRoom$Value" ∈ nt := List.mem_filter.mpr ⟨List.mem_of_getElem? (i := 749) (by decide +kernel), rfl⟩
theorem se_S_S_canBeMade_S : Cond.selects "StackRoom" y_S_canBeMade y_S_canBeMade ∈ gt := List.mem_filter.mpr ⟨List.mem_of_getElem? (i := 0) (by decide +kernel), rfl⟩
theorem se_S_S_survey_S : Cond.selects "StackRoom" y_S_survey y_S_survey ∈ gt := List.mem_filter.mpr ⟨List.mem_of_getElem? (i := 1) (by decide +kernel), rfl⟩
theorem se_S_S_reach_S : Cond.selects "StackRoom" y_S_reach y_S_reach ∈ gt := List.mem_filter.mpr ⟨List.mem_of_getElem? (i := 2) (by decide +kernel), rfl⟩
theorem se_S_S_reachPartsOf_S : Cond.selects "StackRoom" y_S_reachPartsOf y_S_reachPartsOf ∈ gt := List.mem_filter.mpr ⟨List.mem_of_getElem? (i := 3) (by decide +kernel), rfl⟩
theorem se_S_S_methodIn_S : Cond.selects "StackRoom" y_S_methodIn y_S_methodIn ∈ gt := List.mem_filter.mpr ⟨List.mem_of_getElem? (i := 4) (by decide +kernel), rfl⟩
theorem se_S_S_isSender_S : Cond.selects "StackRoom" y_S_isSender y_S_isSender ∈ gt := List.mem_filter.mpr ⟨List.mem_of_getElem? (i := 5) (by decide +kernel), rfl⟩
theorem se_S_S_contextIn_S : Cond.selects "StackRoom" y_S_contextIn y_S_contextIn ∈ gt := List.mem_filter.mpr ⟨List.mem_of_getElem? (i := 6) (by decide +kernel), rfl⟩
theorem se_R_R_look_R : Cond.selects "StackRoomModel" y_R_look y_R_look ∈ gt := List.mem_filter.mpr ⟨List.mem_of_getElem? (i := 7) (by decide +kernel), rfl⟩
theorem se_R_R_see_R : Cond.selects "StackRoomModel" y_R_see y_R_see ∈ gt := List.mem_filter.mpr ⟨List.mem_of_getElem? (i := 8) (by decide +kernel), rfl⟩
theorem se_R_R_make_R : Cond.selects "StackRoomModel" y_R_make y_R_make ∈ gt := List.mem_filter.mpr ⟨List.mem_of_getElem? (i := 9) (by decide +kernel), rfl⟩
theorem se_R_R_letGo_R : Cond.selects "StackRoomModel" y_R_letGo y_R_letGo ∈ gt := List.mem_filter.mpr ⟨List.mem_of_getElem? (i := 10) (by decide +kernel), rfl⟩
theorem se_R_R_give_R : Cond.selects "StackRoomModel" y_R_give y_R_give ∈ gt := List.mem_filter.mpr ⟨List.mem_of_getElem? (i := 11) (by decide +kernel), rfl⟩
theorem se_R_R_objectIn_R : Cond.selects "StackRoomModel" y_R_objectIn y_R_objectIn ∈ gt := List.mem_filter.mpr ⟨List.mem_of_getElem? (i := 12) (by decide +kernel), rfl⟩
theorem se_R_R_isNilOrContext_R : Cond.selects "StackRoomModel" y_R_isNilOrContext y_R_isNilOrContext ∈ gt := List.mem_filter.mpr ⟨List.mem_of_getElem? (i := 13) (by decide +kernel), rfl⟩
theorem se_R_R_contextIn_R : Cond.selects "StackRoomModel" y_R_contextIn y_R_contextIn ∈ gt := List.mem_filter.mpr ⟨List.mem_of_getElem? (i := 14) (by decide +kernel), rfl⟩
theorem se_R_R_settle_R : Cond.selects "StackRoomModel" y_R_settle y_R_settle ∈ gt := List.mem_filter.mpr ⟨List.mem_of_getElem? (i := 15) (by decide +kernel), rfl⟩
theorem se_R_R_homeOf_R : Cond.selects "StackRoomModel" y_R_homeOf y_R_homeOf ∈ gt := List.mem_filter.mpr ⟨List.mem_of_getElem? (i := 16) (by decide +kernel), rfl⟩
theorem se_R_R_pushes_R : Cond.selects "StackRoomModel" y_R_pushes y_R_pushes ∈ gt := List.mem_filter.mpr ⟨List.mem_of_getElem? (i := 17) (by decide +kernel), rfl⟩
theorem se_R_R_floorOf_R : Cond.selects "StackRoomModel" y_R_floorOf y_R_floorOf ∈ gt := List.mem_filter.mpr ⟨List.mem_of_getElem? (i := 18) (by decide +kernel), rfl⟩
theorem se_R_R_popped_R : Cond.selects "StackRoomModel" y_R_popped y_R_popped ∈ gt := List.mem_filter.mpr ⟨List.mem_of_getElem? (i := 19) (by decide +kernel), rfl⟩
theorem se_R_R_placeOf_R : Cond.selects "StackRoomModel" y_R_placeOf y_R_placeOf ∈ gt := List.mem_filter.mpr ⟨List.mem_of_getElem? (i := 20) (by decide +kernel), rfl⟩
theorem gi_base : GoodIn gt gt := fun w h => ⟨h, good_of_word (List.mem_filter.mp h).2⟩
theorem gi_ws {w : Cond} (h : w ∈ gt) : GoodIn gt (w :: gt) := fun v hv => (List.mem_cons.mp hv).elim (fun e => gi_base v (e ▸ h)) (gi_base v)
theorem gi_all {ws : List Cond} {hs : List Cond} (h : ∀ w ∈ hs, w ∈ gt) (hG : GoodIn gt ws) : GoodIn gt (hs ++ ws) := fun v hv => (List.mem_append.mp hv).elim (fun e => gi_base v (h v e)) (hG v)
abbrev w_S_init : List Cond := Cond.code y_S_init b_S_init 3 none :: gt
abbrev w_S_isWithin : List Cond := Cond.code y_S_isWithin b_S_isWithin 3 (some .boolean) :: gt
abbrev w_S_number : List Cond := Cond.code y_S_number b_S_number 3 (some .boolean) :: gt
abbrev w_S_isRegister : List Cond := Cond.code y_S_isRegister b_S_isRegister 1 (some .boolean) :: gt
abbrev w_S_isNumber : List Cond := Cond.code y_S_isNumber b_S_isNumber 1 (some .boolean) :: gt
abbrev w_W_init : List Cond := Cond.code y_W_init b_W_init 2 none :: gt
abbrev w_V_init : List Cond := Cond.code y_V_init b_V_init 1 none :: gt
abbrev w_S_move : List Cond := Cond.code y_S_move b_S_move 3 (some .boolean) :: gt
abbrev w_S_clear : List Cond := Cond.code y_S_clear b_S_clear 2 (some .boolean) :: gt
abbrev w_S_kind : List Cond := Cond.code y_S_kind b_S_kind 3 (some .int) :: gt
abbrev w_B_kindCode : List Cond := Cond.code y_B_kindCode b_B_kindCode 1 (some .int) :: gt
abbrev w_M_kindCode : List Cond := Cond.code y_M_kindCode b_M_kindCode 1 (some .int) :: gt
abbrev w_X_kindCode : List Cond := Cond.code y_X_kindCode b_X_kindCode 1 (some .int) :: gt
abbrev w_W_kindCode : List Cond := Cond.code y_W_kindCode b_W_kindCode 1 (some .int) :: gt
abbrev w_S_value : List Cond := Cond.code y_S_value b_S_value 3 (some .int) :: gt
abbrev w_T_shown : List Cond := Cond.code y_T_shown b_T_shown 1 (some .int) :: gt
abbrev w_W_shown : List Cond := Cond.code y_W_shown b_W_shown 1 (some .int) :: gt
abbrev w_S_method : List Cond := Cond.code y_S_method b_S_method 5 (some .int) :: gt
abbrev w_S_areMethodNumbers : List Cond := Cond.code y_S_areMethodNumbers b_S_areMethodNumbers 3 (some .boolean) :: gt
abbrev w_S_canBeMade : List Cond := Cond.code y_S_canBeMade b_S_canBeMade 3 (some .boolean) :: gt
abbrev w_S_survey : List Cond := Cond.code y_S_survey b_S_survey 4 none :: gt
abbrev w_S_reach : List Cond := Cond.code y_S_reach b_S_reach 3 none :: gt
abbrev w_C_wordsTaken : List Cond := Cond.code y_C_wordsTaken b_C_wordsTaken 1 (some .int) :: gt
abbrev w_B_headFields : List Cond := Cond.code y_B_headFields b_B_headFields 1 (some .int) :: gt
abbrev w_X_headFields : List Cond := Cond.code y_X_headFields b_X_headFields 1 (some .int) :: gt
abbrev w_M_wordsTaken : List Cond := Cond.code y_M_wordsTaken b_M_wordsTaken 1 (some .int) :: gt
abbrev w_C_entriesTaken : List Cond := Cond.code y_C_entriesTaken b_C_entriesTaken 1 (some .int) :: gt
abbrev w_M_entriesTaken : List Cond := Cond.code y_M_entriesTaken b_M_entriesTaken 1 (some .int) :: gt
abbrev w_S_reachPartsOf : List Cond := Cond.code y_S_reachPartsOf b_S_reachPartsOf 3 none :: gt
abbrev w_B_origin : List Cond := Cond.code y_B_origin b_B_origin 1 (some (.object "StackRoom$Thing")) :: gt
abbrev w_X_origin : List Cond := Cond.code y_X_origin b_X_origin 1 (some (.object "StackRoom$Thing")) :: gt
abbrev w_M_init : List Cond := Cond.code y_M_init b_M_init 4 none :: gt
abbrev w_T_init : List Cond := Cond.code y_T_init b_T_init 2 none :: gt
abbrev w_S_change : List Cond := Cond.code y_S_change b_S_change 6 (some .boolean) :: gt
abbrev w_S_methodIn : List Cond := Cond.code y_S_methodIn b_S_methodIn 4 (some (.object "StackRoom$Method")) :: gt
abbrev w_M_setNumbers : List Cond := Cond.code y_M_setNumbers b_M_setNumbers 3 none :: gt
abbrev w_S_context : List Cond := Cond.code y_S_context b_S_context 6 (some .int) :: gt
abbrev w_S_isSender : List Cond := Cond.code y_S_isSender b_S_isSender 2 (some .boolean) :: gt
abbrev w_S_contextIn : List Cond := Cond.code y_S_contextIn b_S_contextIn 4 (some (.object "StackRoom$Context")) :: gt
abbrev w_X_init : List Cond := Cond.code y_X_init b_X_init 4 none :: gt
abbrev w_C_init : List Cond := Cond.code y_C_init b_C_init 6 none :: gt
abbrev w_S_block : List Cond := Cond.code y_S_block b_S_block 7 (some .int) :: gt
abbrev w_B_homeContext : List Cond := Cond.code y_B_homeContext b_B_homeContext 1 (some (.object "StackRoom$MethodContext")) :: gt
abbrev w_X_homeContext : List Cond := Cond.code y_X_homeContext b_X_homeContext 1 (some (.object "StackRoom$MethodContext")) :: gt
abbrev w_B_init : List Cond := Cond.code y_B_init b_B_init 4 none :: gt
abbrev w_S_push : List Cond := Cond.code y_S_push b_S_push 4 (some .boolean) :: gt
abbrev w_C_isFull : List Cond := Cond.code y_C_isFull b_C_isFull 1 (some .boolean) :: gt
abbrev w_C_pushOne : List Cond := Cond.code y_C_pushOne b_C_pushOne 2 none :: gt
abbrev w_C_putField : List Cond := Cond.code y_C_putField b_C_putField 3 none :: gt
abbrev w_C_hasField : List Cond := Cond.code y_C_hasField b_C_hasField 2 (some .boolean) :: gt
abbrev w_S_fill : List Cond := Cond.code y_S_fill b_S_fill 6 (some .int) :: gt
abbrev w_S_areNumbers : List Cond := Cond.code y_S_areNumbers b_S_areNumbers 2 (some .boolean) :: gt
abbrev w_S_pop : List Cond := Cond.code y_S_pop b_S_pop 4 (some .boolean) :: gt
abbrev w_C_depthNow : List Cond := Cond.code y_C_depthNow b_C_depthNow 1 (some .int) :: gt
abbrev w_B_floorNow : List Cond := Cond.code y_B_floorNow b_B_floorNow 1 (some .int) :: gt
abbrev w_X_floorNow : List Cond := Cond.code y_X_floorNow b_X_floorNow 1 (some .int) :: gt
abbrev w_C_popOne : List Cond := Cond.code y_C_popOne b_C_popOne 2 (some (.object "StackRoom$Value")) :: gt
abbrev w_C_fieldAt : List Cond := Cond.code y_C_fieldAt b_C_fieldAt 2 (some (.object "StackRoom$Value")) :: gt
abbrev w_S_peek : List Cond := Cond.code y_S_peek b_S_peek 5 (some .boolean) :: gt
abbrev w_S_drop : List Cond := Cond.code y_S_drop b_S_drop 5 (some .boolean) :: gt
abbrev w_S_height : List Cond := Cond.code y_S_height b_S_height 3 (some .int) :: gt
abbrev w_S_room : List Cond := Cond.code y_S_room b_S_room 3 (some .int) :: gt
abbrev w_S_floor : List Cond := Cond.code y_S_floor b_S_floor 3 (some .int) :: gt
abbrev w_S_count : List Cond := Cond.code y_S_count b_S_count 4 (some .int) :: gt
abbrev w_S_home : List Cond := Cond.code y_S_home b_S_home 4 (some .boolean) :: gt
abbrev w_S_sender : List Cond := Cond.code y_S_sender b_S_sender 4 (some .boolean) :: gt
abbrev w_S_send : List Cond := Cond.code y_S_send b_S_send 4 (some .boolean) :: gt
abbrev w_S_kill : List Cond := Cond.code y_S_kill b_S_kill 5 (some .boolean) :: gt
abbrev w_S_temporary : List Cond := Cond.code y_S_temporary b_S_temporary 5 (some .boolean) :: gt
abbrev w_X_hasTemporary : List Cond := Cond.code y_X_hasTemporary b_X_hasTemporary 2 (some .boolean) :: gt
abbrev w_S_keep : List Cond := Cond.code y_S_keep b_S_keep 5 (some .boolean) :: gt
abbrev w_S_words : List Cond := Cond.code y_S_words b_S_words 1 (some .int) :: gt
abbrev w_S_entries : List Cond := Cond.code y_S_entries b_S_entries 1 (some .int) :: gt
abbrev w_S_contexts : List Cond := Cond.code y_S_contexts b_S_contexts 1 (some .int) :: gt
abbrev w_L_cell : List Cond := Cond.code y_L_cell b_L_cell 2 (some .int) :: gt
abbrev w_R_init : List Cond := Cond.code y_R_init b_R_init 3 none :: gt
abbrev w_R_words : List Cond := Cond.code y_R_words b_R_words 1 (some .int) :: gt
abbrev w_R_look : List Cond := Cond.code y_R_look b_R_look 4 none :: gt
abbrev w_R_see : List Cond := Cond.code y_R_see b_R_see 2 none :: gt
abbrev w_R_isObject : List Cond := Cond.code y_R_isObject b_R_isObject 1 (some .boolean) :: gt
abbrev w_R_entries : List Cond := Cond.code y_R_entries b_R_entries 1 (some .int) :: gt
abbrev w_R_contexts : List Cond := Cond.code y_R_contexts b_R_contexts 1 (some .int) :: gt
abbrev w_R_number : List Cond := Cond.code y_R_number b_R_number 3 (some .boolean) :: gt
abbrev w_R_isRegister : List Cond := Cond.code y_R_isRegister b_R_isRegister 1 (some .boolean) :: gt
abbrev w_R_isNumber : List Cond := Cond.code y_R_isNumber b_R_isNumber 1 (some .boolean) :: gt
abbrev w_R_numeral : List Cond := Cond.code y_R_numeral b_R_numeral 1 (some .int) :: gt
abbrev w_R_move : List Cond := Cond.code y_R_move b_R_move 3 (some .boolean) :: gt
abbrev w_R_clear : List Cond := Cond.code y_R_clear b_R_clear 2 (some .boolean) :: gt
abbrev w_R_kind : List Cond := Cond.code y_R_kind b_R_kind 3 (some .int) :: gt
abbrev w_R_value : List Cond := Cond.code y_R_value b_R_value 3 (some .int) :: gt
abbrev w_R_method : List Cond := Cond.code y_R_method b_R_method 6 (some .int) :: gt
abbrev w_R_isMethod : List Cond := Cond.code y_R_isMethod b_R_isMethod 3 (some .boolean) :: gt
abbrev w_R_make : List Cond := Cond.code y_R_make b_R_make 7 (some .int) :: gt
abbrev w_R_letGo : List Cond := Cond.code y_R_letGo b_R_letGo 4 none :: gt
abbrev w_R_give : List Cond := Cond.code y_R_give b_R_give 5 none :: gt
abbrev w_R_change : List Cond := Cond.code y_R_change b_R_change 6 (some .boolean) :: gt
abbrev w_R_objectIn : List Cond := Cond.code y_R_objectIn b_R_objectIn 5 (some .int) :: gt
abbrev w_R_context : List Cond := Cond.code y_R_context b_R_context 8 (some .int) :: gt
abbrev w_R_isNilOrContext : List Cond := Cond.code y_R_isNilOrContext b_R_isNilOrContext 2 (some .boolean) :: gt
abbrev w_R_contextIn : List Cond := Cond.code y_R_contextIn b_R_contextIn 2 (some .int) :: gt
abbrev w_R_settle : List Cond := Cond.code y_R_settle b_R_settle 7 (some .int) :: gt
abbrev w_R_block : List Cond := Cond.code y_R_block b_R_block 8 (some .int) :: gt
abbrev w_R_homeOf : List Cond := Cond.code y_R_homeOf b_R_homeOf 2 (some .int) :: gt
abbrev w_R_push : List Cond := Cond.code y_R_push b_R_push 4 (some .boolean) :: gt
abbrev w_R_pushes : List Cond := Cond.code y_R_pushes b_R_pushes 3 (some .boolean) :: gt
abbrev w_R_fill : List Cond := Cond.code y_R_fill b_R_fill 6 (some .int) :: gt
abbrev w_R_pop : List Cond := Cond.code y_R_pop b_R_pop 4 (some .boolean) :: gt
abbrev w_R_floorOf : List Cond := Cond.code y_R_floorOf b_R_floorOf 2 (some .int) :: gt
abbrev w_R_popped : List Cond := Cond.code y_R_popped b_R_popped 3 (some .int) :: gt
abbrev w_R_peek : List Cond := Cond.code y_R_peek b_R_peek 5 (some .boolean) :: gt
abbrev w_R_drop : List Cond := Cond.code y_R_drop b_R_drop 5 (some .boolean) :: gt
abbrev w_R_height : List Cond := Cond.code y_R_height b_R_height 3 (some .int) :: gt
abbrev w_R_room : List Cond := Cond.code y_R_room b_R_room 3 (some .int) :: gt
abbrev w_R_floor : List Cond := Cond.code y_R_floor b_R_floor 3 (some .int) :: gt
abbrev w_R_count : List Cond := Cond.code y_R_count b_R_count 3 (some .int) :: gt
abbrev w_R_home : List Cond := Cond.code y_R_home b_R_home 4 (some .boolean) :: gt
abbrev w_R_sender : List Cond := Cond.code y_R_sender b_R_sender 4 (some .boolean) :: gt
abbrev w_R_send : List Cond := Cond.code y_R_send b_R_send 4 (some .boolean) :: gt
abbrev w_R_kill : List Cond := Cond.code y_R_kill b_R_kill 5 (some .boolean) :: gt
abbrev w_R_temporary : List Cond := Cond.code y_R_temporary b_R_temporary 5 (some .boolean) :: gt
abbrev w_R_placeOf : List Cond := Cond.code y_R_placeOf b_R_placeOf 5 (some .int) :: gt
abbrev w_R_keep : List Cond := Cond.code y_R_keep b_R_keep 5 (some .boolean) :: gt
end
section
theorem d_S_init_0 : decode b_S_init 0 = .ok (.aload_n 0, 1) := by decide +kernel
theorem d_S_init_1 : decode b_S_init 1 = .ok (.invokespecial 1, 3) := by decide +kernel
theorem d_S_init_4 : decode b_S_init 4 = .ok (.aload_n 0, 1) := by decide +kernel
theorem d_S_init_5 : decode b_S_init 5 = .ok (.iload_n 1, 1) := by decide +kernel
theorem d_S_init_6 : decode b_S_init 6 = .ok (.sipush 128, 3) := by decide +kernel
theorem d_S_init_9 : decode b_S_init 9 = .ok (.ldc 9, 2) := by decide +kernel
theorem d_S_init_11 : decode b_S_init 11 = .ok (.invokestatic 10, 3) := by decide +kernel
theorem d_S_init_14 : decode b_S_init 14 = .ok (.ifCond .eq 7, 3) := by decide +kernel
theorem d_S_init_17 : decode b_S_init 17 = .ok (.iload_n 1, 1) := by decide +kernel
theorem d_S_init_18 : decode b_S_init 18 = .ok (.goto 5, 3) := by decide +kernel
theorem d_S_init_21 : decode b_S_init 21 = .ok (.ldc 9, 2) := by decide +kernel
theorem d_S_init_23 : decode b_S_init 23 = .ok (.putfield 14, 3) := by decide +kernel
theorem d_S_init_26 : decode b_S_init 26 = .ok (.aload_n 0, 1) := by decide +kernel
theorem d_S_init_27 : decode b_S_init 27 = .ok (.iload_n 2, 1) := by decide +kernel
theorem d_S_init_28 : decode b_S_init 28 = .ok (.bipush 16, 2) := by decide +kernel
theorem d_S_init_30 : decode b_S_init 30 = .ok (.sipush 4096, 3) := by decide +kernel
theorem d_S_init_33 : decode b_S_init 33 = .ok (.invokestatic 10, 3) := by decide +kernel
theorem d_S_init_36 : decode b_S_init 36 = .ok (.ifCond .eq 7, 3) := by decide +kernel
theorem d_S_init_39 : decode b_S_init 39 = .ok (.iload_n 2, 1) := by decide +kernel
theorem d_S_init_40 : decode b_S_init 40 = .ok (.goto 6, 3) := by decide +kernel
theorem d_S_init_43 : decode b_S_init 43 = .ok (.sipush 4096, 3) := by decide +kernel
theorem d_S_init_46 : decode b_S_init 46 = .ok (.putfield 18, 3) := by decide +kernel
theorem d_S_init_49 : decode b_S_init 49 = .ok (.aload_n 0, 1) := by decide +kernel
theorem d_S_init_50 : decode b_S_init 50 = .ok (.bipush 16, 2) := by decide +kernel
theorem d_S_init_52 : decode b_S_init 52 = .ok (.anewarray 21, 3) := by decide +kernel
theorem d_S_init_55 : decode b_S_init 55 = .ok (.putfield 23, 3) := by decide +kernel
theorem d_S_init_58 : decode b_S_init 58 = .ok (.aload_n 0, 1) := by decide +kernel
theorem d_S_init_59 : decode b_S_init 59 = .ok (.aload_n 0, 1) := by decide +kernel
theorem d_S_init_60 : decode b_S_init 60 = .ok (.getfield 18, 3) := by decide +kernel
theorem d_S_init_63 : decode b_S_init 63 = .ok (.anewarray 27, 3) := by decide +kernel
theorem d_S_init_66 : decode b_S_init 66 = .ok (.putfield 29, 3) := by decide +kernel
theorem d_S_init_69 : decode b_S_init 69 = .ok (.aload_n 0, 1) := by decide +kernel
theorem d_S_init_70 : decode b_S_init 70 = .ok (.iconst 2, 1) := by decide +kernel
theorem d_S_init_71 : decode b_S_init 71 = .ok (.putfield 33, 3) := by decide +kernel
theorem d_S_init_74 : decode b_S_init 74 = .ok (.return_, 1) := by decide +kernel
theorem d_S_number_0 : decode b_S_number 0 = .ok (.iload_n 1, 1) := by decide +kernel
theorem d_S_number_1 : decode b_S_number 1 = .ok (.invokestatic 36, 3) := by decide +kernel
theorem d_S_number_4 : decode b_S_number 4 = .ok (.ifCond .eq 10, 3) := by decide +kernel
theorem d_S_number_7 : decode b_S_number 7 = .ok (.iload_n 2, 1) := by decide +kernel
theorem d_S_number_8 : decode b_S_number 8 = .ok (.invokestatic 40, 3) := by decide +kernel
theorem d_S_number_11 : decode b_S_number 11 = .ok (.ifCond .ne 5, 3) := by decide +kernel
theorem d_S_number_14 : decode b_S_number 14 = .ok (.iconst 0, 1) := by decide +kernel
theorem d_S_number_15 : decode b_S_number 15 = .ok (.ireturn, 1) := by decide +kernel
theorem d_S_number_16 : decode b_S_number 16 = .ok (.aload_n 0, 1) := by decide +kernel
theorem d_S_number_17 : decode b_S_number 17 = .ok (.getfield 23, 3) := by decide +kernel
theorem d_S_number_20 : decode b_S_number 20 = .ok (.iload_n 1, 1) := by decide +kernel
theorem d_S_number_21 : decode b_S_number 21 = .ok (.new 43, 3) := by decide +kernel
theorem d_S_number_24 : decode b_S_number 24 = .ok (.dup, 1) := by decide +kernel
theorem d_S_number_25 : decode b_S_number 25 = .ok (.iload_n 2, 1) := by decide +kernel
theorem d_S_number_26 : decode b_S_number 26 = .ok (.invokespecial 45, 3) := by decide +kernel
theorem d_S_number_29 : decode b_S_number 29 = .ok (.aastore, 1) := by decide +kernel
theorem d_S_number_30 : decode b_S_number 30 = .ok (.iconst 1, 1) := by decide +kernel
theorem d_S_number_31 : decode b_S_number 31 = .ok (.ireturn, 1) := by decide +kernel
theorem d_S_move_0 : decode b_S_move 0 = .ok (.iload_n 1, 1) := by decide +kernel
theorem d_S_move_1 : decode b_S_move 1 = .ok (.invokestatic 36, 3) := by decide +kernel
theorem d_S_move_4 : decode b_S_move 4 = .ok (.ifCond .eq 10, 3) := by decide +kernel
theorem d_S_move_7 : decode b_S_move 7 = .ok (.iload_n 2, 1) := by decide +kernel
theorem d_S_move_8 : decode b_S_move 8 = .ok (.invokestatic 36, 3) := by decide +kernel
theorem d_S_move_11 : decode b_S_move 11 = .ok (.ifCond .ne 5, 3) := by decide +kernel
theorem d_S_move_14 : decode b_S_move 14 = .ok (.iconst 0, 1) := by decide +kernel
theorem d_S_move_15 : decode b_S_move 15 = .ok (.ireturn, 1) := by decide +kernel
theorem d_S_move_16 : decode b_S_move 16 = .ok (.aload_n 0, 1) := by decide +kernel
theorem d_S_move_17 : decode b_S_move 17 = .ok (.getfield 23, 3) := by decide +kernel
theorem d_S_move_20 : decode b_S_move 20 = .ok (.iload_n 1, 1) := by decide +kernel
theorem d_S_move_21 : decode b_S_move 21 = .ok (.aload_n 0, 1) := by decide +kernel
theorem d_S_move_22 : decode b_S_move 22 = .ok (.getfield 23, 3) := by decide +kernel
theorem d_S_move_25 : decode b_S_move 25 = .ok (.iload_n 2, 1) := by decide +kernel
theorem d_S_move_26 : decode b_S_move 26 = .ok (.aaload, 1) := by decide +kernel
theorem d_S_move_27 : decode b_S_move 27 = .ok (.aastore, 1) := by decide +kernel
theorem d_S_move_28 : decode b_S_move 28 = .ok (.iconst 1, 1) := by decide +kernel
theorem d_S_move_29 : decode b_S_move 29 = .ok (.ireturn, 1) := by decide +kernel
theorem d_S_clear_0 : decode b_S_clear 0 = .ok (.iload_n 1, 1) := by decide +kernel
theorem d_S_clear_1 : decode b_S_clear 1 = .ok (.invokestatic 36, 3) := by decide +kernel
theorem d_S_clear_4 : decode b_S_clear 4 = .ok (.ifCond .ne 5, 3) := by decide +kernel
theorem d_S_clear_7 : decode b_S_clear 7 = .ok (.iconst 0, 1) := by decide +kernel
theorem d_S_clear_8 : decode b_S_clear 8 = .ok (.ireturn, 1) := by decide +kernel
theorem d_S_clear_9 : decode b_S_clear 9 = .ok (.aload_n 0, 1) := by decide +kernel
theorem d_S_clear_10 : decode b_S_clear 10 = .ok (.getfield 23, 3) := by decide +kernel
theorem d_S_clear_13 : decode b_S_clear 13 = .ok (.iload_n 1, 1) := by decide +kernel
theorem d_S_clear_14 : decode b_S_clear 14 = .ok (.aconst_null, 1) := by decide +kernel
theorem d_S_clear_15 : decode b_S_clear 15 = .ok (.aastore, 1) := by decide +kernel
theorem d_S_clear_16 : decode b_S_clear 16 = .ok (.iconst 1, 1) := by decide +kernel
theorem d_S_clear_17 : decode b_S_clear 17 = .ok (.ireturn, 1) := by decide +kernel
theorem d_S_kind_0 : decode b_S_kind 0 = .ok (.iload_n 1, 1) := by decide +kernel
theorem d_S_kind_1 : decode b_S_kind 1 = .ok (.invokestatic 36, 3) := by decide +kernel
theorem d_S_kind_4 : decode b_S_kind 4 = .ok (.ifCond .ne 5, 3) := by decide +kernel
theorem d_S_kind_7 : decode b_S_kind 7 = .ok (.iconst (-1), 1) := by decide +kernel
theorem d_S_kind_8 : decode b_S_kind 8 = .ok (.ireturn, 1) := by decide +kernel
theorem d_S_kind_9 : decode b_S_kind 9 = .ok (.aload_n 0, 1) := by decide +kernel
theorem d_S_kind_10 : decode b_S_kind 10 = .ok (.getfield 23, 3) := by decide +kernel
theorem d_S_kind_13 : decode b_S_kind 13 = .ok (.iload_n 1, 1) := by decide +kernel
theorem d_S_kind_14 : decode b_S_kind 14 = .ok (.aaload, 1) := by decide +kernel
theorem d_S_kind_15 : decode b_S_kind 15 = .ok (.astore_n 2, 1) := by decide +kernel
theorem d_S_kind_16 : decode b_S_kind 16 = .ok (.aload_n 2, 1) := by decide +kernel
theorem d_S_kind_17 : decode b_S_kind 17 = .ok (.ifnonnull 7, 3) := by decide +kernel
theorem d_S_kind_20 : decode b_S_kind 20 = .ok (.iconst 0, 1) := by decide +kernel
theorem d_S_kind_21 : decode b_S_kind 21 = .ok (.goto 7, 3) := by decide +kernel
theorem d_S_kind_24 : decode b_S_kind 24 = .ok (.aload_n 2, 1) := by decide +kernel
theorem d_S_kind_25 : decode b_S_kind 25 = .ok (.invokevirtual 48, 3) := by decide +kernel
theorem d_S_kind_28 : decode b_S_kind 28 = .ok (.ireturn, 1) := by decide +kernel
theorem d_S_value_0 : decode b_S_value 0 = .ok (.iload_n 1, 1) := by decide +kernel
theorem d_S_value_1 : decode b_S_value 1 = .ok (.invokestatic 36, 3) := by decide +kernel
theorem d_S_value_4 : decode b_S_value 4 = .ok (.ifCond .ne 5, 3) := by decide +kernel
theorem d_S_value_7 : decode b_S_value 7 = .ok (.iconst 0, 1) := by decide +kernel
theorem d_S_value_8 : decode b_S_value 8 = .ok (.ireturn, 1) := by decide +kernel
theorem d_S_value_9 : decode b_S_value 9 = .ok (.aload_n 0, 1) := by decide +kernel
theorem d_S_value_10 : decode b_S_value 10 = .ok (.getfield 23, 3) := by decide +kernel
theorem d_S_value_13 : decode b_S_value 13 = .ok (.iload_n 1, 1) := by decide +kernel
theorem d_S_value_14 : decode b_S_value 14 = .ok (.aaload, 1) := by decide +kernel
theorem d_S_value_15 : decode b_S_value 15 = .ok (.astore_n 2, 1) := by decide +kernel
theorem d_S_value_16 : decode b_S_value 16 = .ok (.aload_n 2, 1) := by decide +kernel
theorem d_S_value_17 : decode b_S_value 17 = .ok (.ifnonnull 7, 3) := by decide +kernel
theorem d_S_value_20 : decode b_S_value 20 = .ok (.iconst 0, 1) := by decide +kernel
theorem d_S_value_21 : decode b_S_value 21 = .ok (.goto 7, 3) := by decide +kernel
theorem d_S_value_24 : decode b_S_value 24 = .ok (.aload_n 2, 1) := by decide +kernel
theorem d_S_value_25 : decode b_S_value 25 = .ok (.invokevirtual 52, 3) := by decide +kernel
theorem d_S_value_28 : decode b_S_value 28 = .ok (.ireturn, 1) := by decide +kernel
theorem d_S_method_0 : decode b_S_method 0 = .ok (.iload_n 1, 1) := by decide +kernel
theorem d_S_method_1 : decode b_S_method 1 = .ok (.invokestatic 36, 3) := by decide +kernel
theorem d_S_method_4 : decode b_S_method 4 = .ok (.ifCond .eq 13, 3) := by decide +kernel
theorem d_S_method_7 : decode b_S_method 7 = .ok (.iload_n 2, 1) := by decide +kernel
theorem d_S_method_8 : decode b_S_method 8 = .ok (.iload_n 3, 1) := by decide +kernel
theorem d_S_method_9 : decode b_S_method 9 = .ok (.iload 4, 2) := by decide +kernel
theorem d_S_method_11 : decode b_S_method 11 = .ok (.invokestatic 55, 3) := by decide +kernel
theorem d_S_method_14 : decode b_S_method 14 = .ok (.ifCond .ne 5, 3) := by decide +kernel
theorem d_S_method_17 : decode b_S_method 17 = .ok (.iconst (-1), 1) := by decide +kernel
theorem d_S_method_18 : decode b_S_method 18 = .ok (.ireturn, 1) := by decide +kernel
theorem d_S_method_19 : decode b_S_method 19 = .ok (.aload_n 0, 1) := by decide +kernel
theorem d_S_method_20 : decode b_S_method 20 = .ok (.bipush 10, 2) := by decide +kernel
theorem d_S_method_22 : decode b_S_method 22 = .ok (.iconst 2, 1) := by decide +kernel
theorem d_S_method_23 : decode b_S_method 23 = .ok (.invokevirtual 58, 3) := by decide +kernel
theorem d_S_method_26 : decode b_S_method 26 = .ok (.ifCond .ne 6, 3) := by decide +kernel
theorem d_S_method_29 : decode b_S_method 29 = .ok (.bipush (-2), 2) := by decide +kernel
theorem d_S_method_31 : decode b_S_method 31 = .ok (.ireturn, 1) := by decide +kernel
theorem d_S_method_32 : decode b_S_method 32 = .ok (.aload_n 0, 1) := by decide +kernel
theorem d_S_method_33 : decode b_S_method 33 = .ok (.dup, 1) := by decide +kernel
theorem d_S_method_34 : decode b_S_method 34 = .ok (.getfield 33, 3) := by decide +kernel
theorem d_S_method_37 : decode b_S_method 37 = .ok (.iconst 2, 1) := by decide +kernel
theorem d_S_method_38 : decode b_S_method 38 = .ok (.iadd, 1) := by decide +kernel
theorem d_S_method_39 : decode b_S_method 39 = .ok (.putfield 33, 3) := by decide +kernel
theorem d_S_method_42 : decode b_S_method 42 = .ok (.aload_n 0, 1) := by decide +kernel
theorem d_S_method_43 : decode b_S_method 43 = .ok (.getfield 23, 3) := by decide +kernel
theorem d_S_method_46 : decode b_S_method 46 = .ok (.iload_n 1, 1) := by decide +kernel
theorem d_S_method_47 : decode b_S_method 47 = .ok (.new 62, 3) := by decide +kernel
theorem d_S_method_50 : decode b_S_method 50 = .ok (.dup, 1) := by decide +kernel
theorem d_S_method_51 : decode b_S_method 51 = .ok (.aload_n 0, 1) := by decide +kernel
theorem d_S_method_52 : decode b_S_method 52 = .ok (.getfield 33, 3) := by decide +kernel
theorem d_S_method_55 : decode b_S_method 55 = .ok (.iload_n 3, 1) := by decide +kernel
theorem d_S_method_56 : decode b_S_method 56 = .ok (.iload 4, 2) := by decide +kernel
theorem d_S_method_58 : decode b_S_method 58 = .ok (.invokespecial 64, 3) := by decide +kernel
theorem d_S_method_61 : decode b_S_method 61 = .ok (.aastore, 1) := by decide +kernel
theorem d_S_method_62 : decode b_S_method 62 = .ok (.aload_n 0, 1) := by decide +kernel
theorem d_S_method_63 : decode b_S_method 63 = .ok (.getfield 33, 3) := by decide +kernel
theorem d_S_method_66 : decode b_S_method 66 = .ok (.ireturn, 1) := by decide +kernel
theorem d_S_change_0 : decode b_S_change 0 = .ok (.aload_n 0, 1) := by decide +kernel
theorem d_S_change_1 : decode b_S_change 1 = .ok (.iload_n 1, 1) := by decide +kernel
theorem d_S_change_2 : decode b_S_change 2 = .ok (.invokevirtual 67, 3) := by decide +kernel
theorem d_S_change_5 : decode b_S_change 5 = .ok (.astore 5, 2) := by decide +kernel
theorem d_S_change_7 : decode b_S_change 7 = .ok (.aload 5, 2) := by decide +kernel
theorem d_S_change_9 : decode b_S_change 9 = .ok (.ifnull 13, 3) := by decide +kernel
theorem d_S_change_12 : decode b_S_change 12 = .ok (.iload_n 2, 1) := by decide +kernel
theorem d_S_change_13 : decode b_S_change 13 = .ok (.iload_n 3, 1) := by decide +kernel
theorem d_S_change_14 : decode b_S_change 14 = .ok (.iload 4, 2) := by decide +kernel
theorem d_S_change_16 : decode b_S_change 16 = .ok (.invokestatic 55, 3) := by decide +kernel
theorem d_S_change_19 : decode b_S_change 19 = .ok (.ifCond .ne 5, 3) := by decide +kernel
theorem d_S_change_22 : decode b_S_change 22 = .ok (.iconst 0, 1) := by decide +kernel
theorem d_S_change_23 : decode b_S_change 23 = .ok (.ireturn, 1) := by decide +kernel
theorem d_S_change_24 : decode b_S_change 24 = .ok (.aload 5, 2) := by decide +kernel
theorem d_S_change_26 : decode b_S_change 26 = .ok (.iload_n 3, 1) := by decide +kernel
theorem d_S_change_27 : decode b_S_change 27 = .ok (.iload 4, 2) := by decide +kernel
theorem d_S_change_29 : decode b_S_change 29 = .ok (.invokevirtual 71, 3) := by decide +kernel
theorem d_S_change_32 : decode b_S_change 32 = .ok (.iconst 1, 1) := by decide +kernel
theorem d_S_change_33 : decode b_S_change 33 = .ok (.ireturn, 1) := by decide +kernel
theorem d_S_context_0 : decode b_S_context 0 = .ok (.aload_n 0, 1) := by decide +kernel
theorem d_S_context_1 : decode b_S_context 1 = .ok (.iload_n 2, 1) := by decide +kernel
theorem d_S_context_2 : decode b_S_context 2 = .ok (.invokevirtual 67, 3) := by decide +kernel
theorem d_S_context_5 : decode b_S_context 5 = .ok (.astore 4, 2) := by decide +kernel
theorem d_S_context_7 : decode b_S_context 7 = .ok (.iload_n 1, 1) := by decide +kernel
theorem d_S_context_8 : decode b_S_context 8 = .ok (.invokestatic 36, 3) := by decide +kernel
theorem d_S_context_11 : decode b_S_context 11 = .ok (.ifCond .eq 16, 3) := by decide +kernel
theorem d_S_context_14 : decode b_S_context 14 = .ok (.aload 4, 2) := by decide +kernel
theorem d_S_context_16 : decode b_S_context 16 = .ok (.ifnull 11, 3) := by decide +kernel
theorem d_S_context_19 : decode b_S_context 19 = .ok (.aload_n 0, 1) := by decide +kernel
theorem d_S_context_20 : decode b_S_context 20 = .ok (.iload_n 3, 1) := by decide +kernel
theorem d_S_context_21 : decode b_S_context 21 = .ok (.invokevirtual 75, 3) := by decide +kernel
theorem d_S_context_24 : decode b_S_context 24 = .ok (.ifCond .ne 5, 3) := by decide +kernel
theorem d_S_context_27 : decode b_S_context 27 = .ok (.iconst (-1), 1) := by decide +kernel
theorem d_S_context_28 : decode b_S_context 28 = .ok (.ireturn, 1) := by decide +kernel
theorem d_S_context_29 : decode b_S_context 29 = .ok (.aload 4, 2) := by decide +kernel
theorem d_S_context_31 : decode b_S_context 31 = .ok (.getfield 78, 3) := by decide +kernel
theorem d_S_context_34 : decode b_S_context 34 = .ok (.aload 4, 2) := by decide +kernel
theorem d_S_context_36 : decode b_S_context 36 = .ok (.getfield 81, 3) := by decide +kernel
theorem d_S_context_39 : decode b_S_context 39 = .ok (.iadd, 1) := by decide +kernel
theorem d_S_context_40 : decode b_S_context 40 = .ok (.istore 5, 2) := by decide +kernel
theorem d_S_context_42 : decode b_S_context 42 = .ok (.aload_n 0, 1) := by decide +kernel
theorem d_S_context_43 : decode b_S_context 43 = .ok (.bipush 9, 2) := by decide +kernel
theorem d_S_context_45 : decode b_S_context 45 = .ok (.iload 5, 2) := by decide +kernel
theorem d_S_context_47 : decode b_S_context 47 = .ok (.iadd, 1) := by decide +kernel
theorem d_S_context_48 : decode b_S_context 48 = .ok (.iconst 1, 1) := by decide +kernel
theorem d_S_context_49 : decode b_S_context 49 = .ok (.invokevirtual 58, 3) := by decide +kernel
theorem d_S_context_52 : decode b_S_context 52 = .ok (.ifCond .ne 6, 3) := by decide +kernel
theorem d_S_context_55 : decode b_S_context 55 = .ok (.bipush (-2), 2) := by decide +kernel
theorem d_S_context_57 : decode b_S_context 57 = .ok (.ireturn, 1) := by decide +kernel
theorem d_S_context_58 : decode b_S_context 58 = .ok (.aload_n 0, 1) := by decide +kernel
theorem d_S_context_59 : decode b_S_context 59 = .ok (.dup, 1) := by decide +kernel
theorem d_S_context_60 : decode b_S_context 60 = .ok (.getfield 33, 3) := by decide +kernel
theorem d_S_context_63 : decode b_S_context 63 = .ok (.iconst 1, 1) := by decide +kernel
theorem d_S_context_64 : decode b_S_context 64 = .ok (.iadd, 1) := by decide +kernel
theorem d_S_context_65 : decode b_S_context 65 = .ok (.putfield 33, 3) := by decide +kernel
theorem d_S_context_68 : decode b_S_context 68 = .ok (.aload_n 0, 1) := by decide +kernel
theorem d_S_context_69 : decode b_S_context 69 = .ok (.getfield 23, 3) := by decide +kernel
theorem d_S_context_72 : decode b_S_context 72 = .ok (.iload_n 1, 1) := by decide +kernel
theorem d_S_context_73 : decode b_S_context 73 = .ok (.new 84, 3) := by decide +kernel
theorem d_S_context_76 : decode b_S_context 76 = .ok (.dup, 1) := by decide +kernel
theorem d_S_context_77 : decode b_S_context 77 = .ok (.aload_n 0, 1) := by decide +kernel
theorem d_S_context_78 : decode b_S_context 78 = .ok (.getfield 33, 3) := by decide +kernel
theorem d_S_context_81 : decode b_S_context 81 = .ok (.aload 4, 2) := by decide +kernel
theorem d_S_context_83 : decode b_S_context 83 = .ok (.aload_n 0, 1) := by decide +kernel
theorem d_S_context_84 : decode b_S_context 84 = .ok (.iload_n 3, 1) := by decide +kernel
theorem d_S_context_85 : decode b_S_context 85 = .ok (.invokevirtual 86, 3) := by decide +kernel
theorem d_S_context_88 : decode b_S_context 88 = .ok (.invokespecial 90, 3) := by decide +kernel
theorem d_S_context_91 : decode b_S_context 91 = .ok (.aastore, 1) := by decide +kernel
theorem d_S_context_92 : decode b_S_context 92 = .ok (.aload_n 0, 1) := by decide +kernel
theorem d_S_context_93 : decode b_S_context 93 = .ok (.getfield 33, 3) := by decide +kernel
theorem d_S_context_96 : decode b_S_context 96 = .ok (.ireturn, 1) := by decide +kernel
theorem d_S_block_0 : decode b_S_block 0 = .ok (.aload_n 0, 1) := by decide +kernel
theorem d_S_block_1 : decode b_S_block 1 = .ok (.iload_n 2, 1) := by decide +kernel
theorem d_S_block_2 : decode b_S_block 2 = .ok (.invokevirtual 86, 3) := by decide +kernel
theorem d_S_block_5 : decode b_S_block 5 = .ok (.astore 4, 2) := by decide +kernel
theorem d_S_block_7 : decode b_S_block 7 = .ok (.iload_n 1, 1) := by decide +kernel
theorem d_S_block_8 : decode b_S_block 8 = .ok (.invokestatic 36, 3) := by decide +kernel
theorem d_S_block_11 : decode b_S_block 11 = .ok (.ifCond .eq 18, 3) := by decide +kernel
theorem d_S_block_14 : decode b_S_block 14 = .ok (.aload 4, 2) := by decide +kernel
theorem d_S_block_16 : decode b_S_block 16 = .ok (.ifnull 13, 3) := by decide +kernel
theorem d_S_block_19 : decode b_S_block 19 = .ok (.iload_n 3, 1) := by decide +kernel
theorem d_S_block_20 : decode b_S_block 20 = .ok (.iconst 0, 1) := by decide +kernel
theorem d_S_block_21 : decode b_S_block 21 = .ok (.bipush 15, 2) := by decide +kernel
theorem d_S_block_23 : decode b_S_block 23 = .ok (.invokestatic 10, 3) := by decide +kernel
theorem d_S_block_26 : decode b_S_block 26 = .ok (.ifCond .ne 5, 3) := by decide +kernel
theorem d_S_block_29 : decode b_S_block 29 = .ok (.iconst (-1), 1) := by decide +kernel
theorem d_S_block_30 : decode b_S_block 30 = .ok (.ireturn, 1) := by decide +kernel
theorem d_S_block_31 : decode b_S_block 31 = .ok (.aload 4, 2) := by decide +kernel
theorem d_S_block_33 : decode b_S_block 33 = .ok (.invokevirtual 93, 3) := by decide +kernel
theorem d_S_block_36 : decode b_S_block 36 = .ok (.astore 5, 2) := by decide +kernel
theorem d_S_block_38 : decode b_S_block 38 = .ok (.aload 5, 2) := by decide +kernel
theorem d_S_block_40 : decode b_S_block 40 = .ok (.getfield 99, 3) := by decide +kernel
theorem d_S_block_43 : decode b_S_block 43 = .ok (.getfield 81, 3) := by decide +kernel
theorem d_S_block_46 : decode b_S_block 46 = .ok (.istore 6, 2) := by decide +kernel
theorem d_S_block_48 : decode b_S_block 48 = .ok (.aload_n 0, 1) := by decide +kernel
theorem d_S_block_49 : decode b_S_block 49 = .ok (.bipush 10, 2) := by decide +kernel
theorem d_S_block_51 : decode b_S_block 51 = .ok (.iload 6, 2) := by decide +kernel
theorem d_S_block_53 : decode b_S_block 53 = .ok (.iadd, 1) := by decide +kernel
theorem d_S_block_54 : decode b_S_block 54 = .ok (.iconst 1, 1) := by decide +kernel
theorem d_S_block_55 : decode b_S_block 55 = .ok (.invokevirtual 58, 3) := by decide +kernel
theorem d_S_block_58 : decode b_S_block 58 = .ok (.ifCond .ne 6, 3) := by decide +kernel
theorem d_S_block_61 : decode b_S_block 61 = .ok (.bipush (-2), 2) := by decide +kernel
theorem d_S_block_63 : decode b_S_block 63 = .ok (.ireturn, 1) := by decide +kernel
theorem d_S_block_64 : decode b_S_block 64 = .ok (.aload_n 0, 1) := by decide +kernel
theorem d_S_block_65 : decode b_S_block 65 = .ok (.dup, 1) := by decide +kernel
theorem d_S_block_66 : decode b_S_block 66 = .ok (.getfield 33, 3) := by decide +kernel
theorem d_S_block_69 : decode b_S_block 69 = .ok (.iconst 1, 1) := by decide +kernel
theorem d_S_block_70 : decode b_S_block 70 = .ok (.iadd, 1) := by decide +kernel
theorem d_S_block_71 : decode b_S_block 71 = .ok (.putfield 33, 3) := by decide +kernel
theorem d_S_block_74 : decode b_S_block 74 = .ok (.aload_n 0, 1) := by decide +kernel
theorem d_S_block_75 : decode b_S_block 75 = .ok (.getfield 23, 3) := by decide +kernel
theorem d_S_block_78 : decode b_S_block 78 = .ok (.iload_n 1, 1) := by decide +kernel
theorem d_S_block_79 : decode b_S_block 79 = .ok (.new 103, 3) := by decide +kernel
theorem d_S_block_82 : decode b_S_block 82 = .ok (.dup, 1) := by decide +kernel
theorem d_S_block_83 : decode b_S_block 83 = .ok (.aload_n 0, 1) := by decide +kernel
theorem d_S_block_84 : decode b_S_block 84 = .ok (.getfield 33, 3) := by decide +kernel
theorem d_S_block_87 : decode b_S_block 87 = .ok (.aload 5, 2) := by decide +kernel
theorem d_S_block_89 : decode b_S_block 89 = .ok (.iload_n 3, 1) := by decide +kernel
theorem d_S_block_90 : decode b_S_block 90 = .ok (.invokespecial 105, 3) := by decide +kernel
theorem d_S_block_93 : decode b_S_block 93 = .ok (.aastore, 1) := by decide +kernel
theorem d_S_block_94 : decode b_S_block 94 = .ok (.aload_n 0, 1) := by decide +kernel
theorem d_S_block_95 : decode b_S_block 95 = .ok (.getfield 33, 3) := by decide +kernel
theorem d_S_block_98 : decode b_S_block 98 = .ok (.ireturn, 1) := by decide +kernel
theorem d_S_push_0 : decode b_S_push 0 = .ok (.aload_n 0, 1) := by decide +kernel
theorem d_S_push_1 : decode b_S_push 1 = .ok (.iload_n 1, 1) := by decide +kernel
theorem d_S_push_2 : decode b_S_push 2 = .ok (.invokevirtual 86, 3) := by decide +kernel
theorem d_S_push_5 : decode b_S_push 5 = .ok (.astore_n 3, 1) := by decide +kernel
theorem d_S_push_6 : decode b_S_push 6 = .ok (.aload_n 3, 1) := by decide +kernel
theorem d_S_push_7 : decode b_S_push 7 = .ok (.ifnull 17, 3) := by decide +kernel
theorem d_S_push_10 : decode b_S_push 10 = .ok (.iload_n 2, 1) := by decide +kernel
theorem d_S_push_11 : decode b_S_push 11 = .ok (.invokestatic 36, 3) := by decide +kernel
theorem d_S_push_14 : decode b_S_push 14 = .ok (.ifCond .eq 10, 3) := by decide +kernel
theorem d_S_push_17 : decode b_S_push 17 = .ok (.aload_n 3, 1) := by decide +kernel
theorem d_S_push_18 : decode b_S_push 18 = .ok (.invokevirtual 108, 3) := by decide +kernel
theorem d_S_push_21 : decode b_S_push 21 = .ok (.ifCond .eq 5, 3) := by decide +kernel
theorem d_S_push_24 : decode b_S_push 24 = .ok (.iconst 0, 1) := by decide +kernel
theorem d_S_push_25 : decode b_S_push 25 = .ok (.ireturn, 1) := by decide +kernel
theorem d_S_push_26 : decode b_S_push 26 = .ok (.aload_n 3, 1) := by decide +kernel
theorem d_S_push_27 : decode b_S_push 27 = .ok (.aload_n 0, 1) := by decide +kernel
theorem d_S_push_28 : decode b_S_push 28 = .ok (.getfield 23, 3) := by decide +kernel
theorem d_S_push_31 : decode b_S_push 31 = .ok (.iload_n 2, 1) := by decide +kernel
theorem d_S_push_32 : decode b_S_push 32 = .ok (.aaload, 1) := by decide +kernel
theorem d_S_push_33 : decode b_S_push 33 = .ok (.invokevirtual 112, 3) := by decide +kernel
theorem d_S_push_36 : decode b_S_push 36 = .ok (.iconst 1, 1) := by decide +kernel
theorem d_S_push_37 : decode b_S_push 37 = .ok (.ireturn, 1) := by decide +kernel
theorem d_S_fill_0 : decode b_S_fill 0 = .ok (.aload_n 0, 1) := by decide +kernel
theorem d_S_fill_1 : decode b_S_fill 1 = .ok (.iload_n 1, 1) := by decide +kernel
theorem d_S_fill_2 : decode b_S_fill 2 = .ok (.invokevirtual 86, 3) := by decide +kernel
theorem d_S_fill_5 : decode b_S_fill 5 = .ok (.astore 4, 2) := by decide +kernel
theorem d_S_fill_7 : decode b_S_fill 7 = .ok (.aload 4, 2) := by decide +kernel
theorem d_S_fill_9 : decode b_S_fill 9 = .ok (.ifnull 21, 3) := by decide +kernel
theorem d_S_fill_12 : decode b_S_fill 12 = .ok (.iload_n 3, 1) := by decide +kernel
theorem d_S_fill_13 : decode b_S_fill 13 = .ok (.iconst 0, 1) := by decide +kernel
theorem d_S_fill_14 : decode b_S_fill 14 = .ok (.bipush 100, 2) := by decide +kernel
theorem d_S_fill_16 : decode b_S_fill 16 = .ok (.invokestatic 10, 3) := by decide +kernel
theorem d_S_fill_19 : decode b_S_fill 19 = .ok (.ifCond .eq 11, 3) := by decide +kernel
theorem d_S_fill_22 : decode b_S_fill 22 = .ok (.iload_n 2, 1) := by decide +kernel
theorem d_S_fill_23 : decode b_S_fill 23 = .ok (.iload_n 3, 1) := by decide +kernel
theorem d_S_fill_24 : decode b_S_fill 24 = .ok (.invokestatic 116, 3) := by decide +kernel
theorem d_S_fill_27 : decode b_S_fill 27 = .ok (.ifCond .ne 5, 3) := by decide +kernel
theorem d_S_fill_30 : decode b_S_fill 30 = .ok (.iconst (-1), 1) := by decide +kernel
theorem d_S_fill_31 : decode b_S_fill 31 = .ok (.ireturn, 1) := by decide +kernel
theorem d_S_fill_32 : decode b_S_fill 32 = .ok (.iconst 0, 1) := by decide +kernel
theorem d_S_fill_33 : decode b_S_fill 33 = .ok (.istore 5, 2) := by decide +kernel
theorem d_S_fill_35 : decode b_S_fill 35 = .ok (.iload 5, 2) := by decide +kernel
theorem d_S_fill_37 : decode b_S_fill 37 = .ok (.iload_n 3, 1) := by decide +kernel
theorem d_S_fill_38 : decode b_S_fill 38 = .ok (.if_icmp .ge 33, 3) := by decide +kernel
theorem d_S_fill_41 : decode b_S_fill 41 = .ok (.aload 4, 2) := by decide +kernel
theorem d_S_fill_43 : decode b_S_fill 43 = .ok (.invokevirtual 108, 3) := by decide +kernel
theorem d_S_fill_46 : decode b_S_fill 46 = .ok (.ifCond .ne 25, 3) := by decide +kernel
theorem d_S_fill_49 : decode b_S_fill 49 = .ok (.aload 4, 2) := by decide +kernel
theorem d_S_fill_51 : decode b_S_fill 51 = .ok (.new 43, 3) := by decide +kernel
theorem d_S_fill_54 : decode b_S_fill 54 = .ok (.dup, 1) := by decide +kernel
theorem d_S_fill_55 : decode b_S_fill 55 = .ok (.iload_n 2, 1) := by decide +kernel
theorem d_S_fill_56 : decode b_S_fill 56 = .ok (.iload 5, 2) := by decide +kernel
theorem d_S_fill_58 : decode b_S_fill 58 = .ok (.iadd, 1) := by decide +kernel
theorem d_S_fill_59 : decode b_S_fill 59 = .ok (.invokespecial 45, 3) := by decide +kernel
theorem d_S_fill_62 : decode b_S_fill 62 = .ok (.invokevirtual 112, 3) := by decide +kernel
theorem d_S_fill_65 : decode b_S_fill 65 = .ok (.iinc 5 1, 3) := by decide +kernel
theorem d_S_fill_68 : decode b_S_fill 68 = .ok (.goto (-33), 3) := by decide +kernel
theorem d_S_fill_71 : decode b_S_fill 71 = .ok (.iload 5, 2) := by decide +kernel
theorem d_S_fill_73 : decode b_S_fill 73 = .ok (.ireturn, 1) := by decide +kernel
theorem d_S_pop_0 : decode b_S_pop 0 = .ok (.aload_n 0, 1) := by decide +kernel
theorem d_S_pop_1 : decode b_S_pop 1 = .ok (.iload_n 2, 1) := by decide +kernel
theorem d_S_pop_2 : decode b_S_pop 2 = .ok (.invokevirtual 86, 3) := by decide +kernel
theorem d_S_pop_5 : decode b_S_pop 5 = .ok (.astore_n 3, 1) := by decide +kernel
theorem d_S_pop_6 : decode b_S_pop 6 = .ok (.iload_n 1, 1) := by decide +kernel
theorem d_S_pop_7 : decode b_S_pop 7 = .ok (.invokestatic 36, 3) := by decide +kernel
theorem d_S_pop_10 : decode b_S_pop 10 = .ok (.ifCond .eq 14, 3) := by decide +kernel
theorem d_S_pop_13 : decode b_S_pop 13 = .ok (.aload_n 3, 1) := by decide +kernel
theorem d_S_pop_14 : decode b_S_pop 14 = .ok (.ifnull 10, 3) := by decide +kernel
theorem d_S_pop_17 : decode b_S_pop 17 = .ok (.aload_n 3, 1) := by decide +kernel
theorem d_S_pop_18 : decode b_S_pop 18 = .ok (.invokevirtual 119, 3) := by decide +kernel
theorem d_S_pop_21 : decode b_S_pop 21 = .ok (.ifCond .gt 5, 3) := by decide +kernel
theorem d_S_pop_24 : decode b_S_pop 24 = .ok (.iconst 0, 1) := by decide +kernel
theorem d_S_pop_25 : decode b_S_pop 25 = .ok (.ireturn, 1) := by decide +kernel
theorem d_S_pop_26 : decode b_S_pop 26 = .ok (.aload_n 0, 1) := by decide +kernel
theorem d_S_pop_27 : decode b_S_pop 27 = .ok (.getfield 23, 3) := by decide +kernel
theorem d_S_pop_30 : decode b_S_pop 30 = .ok (.iload_n 1, 1) := by decide +kernel
theorem d_S_pop_31 : decode b_S_pop 31 = .ok (.aload_n 3, 1) := by decide +kernel
theorem d_S_pop_32 : decode b_S_pop 32 = .ok (.invokevirtual 122, 3) := by decide +kernel
theorem d_S_pop_35 : decode b_S_pop 35 = .ok (.aastore, 1) := by decide +kernel
theorem d_S_pop_36 : decode b_S_pop 36 = .ok (.iconst 1, 1) := by decide +kernel
theorem d_S_pop_37 : decode b_S_pop 37 = .ok (.ireturn, 1) := by decide +kernel
theorem d_S_peek_0 : decode b_S_peek 0 = .ok (.aload_n 0, 1) := by decide +kernel
theorem d_S_peek_1 : decode b_S_peek 1 = .ok (.iload_n 2, 1) := by decide +kernel
theorem d_S_peek_2 : decode b_S_peek 2 = .ok (.invokevirtual 86, 3) := by decide +kernel
theorem d_S_peek_5 : decode b_S_peek 5 = .ok (.astore 4, 2) := by decide +kernel
theorem d_S_peek_7 : decode b_S_peek 7 = .ok (.iload_n 1, 1) := by decide +kernel
theorem d_S_peek_8 : decode b_S_peek 8 = .ok (.invokestatic 36, 3) := by decide +kernel
theorem d_S_peek_11 : decode b_S_peek 11 = .ok (.ifCond .eq 21, 3) := by decide +kernel
theorem d_S_peek_14 : decode b_S_peek 14 = .ok (.aload 4, 2) := by decide +kernel
theorem d_S_peek_16 : decode b_S_peek 16 = .ok (.ifnull 16, 3) := by decide +kernel
theorem d_S_peek_19 : decode b_S_peek 19 = .ok (.iload_n 3, 1) := by decide +kernel
theorem d_S_peek_20 : decode b_S_peek 20 = .ok (.ifCond .lt 12, 3) := by decide +kernel
theorem d_S_peek_23 : decode b_S_peek 23 = .ok (.iload_n 3, 1) := by decide +kernel
theorem d_S_peek_24 : decode b_S_peek 24 = .ok (.aload 4, 2) := by decide +kernel
theorem d_S_peek_26 : decode b_S_peek 26 = .ok (.invokevirtual 119, 3) := by decide +kernel
theorem d_S_peek_29 : decode b_S_peek 29 = .ok (.if_icmp .lt 5, 3) := by decide +kernel
theorem d_S_peek_32 : decode b_S_peek 32 = .ok (.iconst 0, 1) := by decide +kernel
theorem d_S_peek_33 : decode b_S_peek 33 = .ok (.ireturn, 1) := by decide +kernel
theorem d_S_peek_34 : decode b_S_peek 34 = .ok (.aload_n 0, 1) := by decide +kernel
theorem d_S_peek_35 : decode b_S_peek 35 = .ok (.getfield 23, 3) := by decide +kernel
theorem d_S_peek_38 : decode b_S_peek 38 = .ok (.iload_n 1, 1) := by decide +kernel
theorem d_S_peek_39 : decode b_S_peek 39 = .ok (.aload 4, 2) := by decide +kernel
theorem d_S_peek_41 : decode b_S_peek 41 = .ok (.aload 4, 2) := by decide +kernel
theorem d_S_peek_43 : decode b_S_peek 43 = .ok (.getfield 126, 3) := by decide +kernel
theorem d_S_peek_46 : decode b_S_peek 46 = .ok (.iconst 1, 1) := by decide +kernel
theorem d_S_peek_47 : decode b_S_peek 47 = .ok (.isub, 1) := by decide +kernel
theorem d_S_peek_48 : decode b_S_peek 48 = .ok (.iload_n 3, 1) := by decide +kernel
theorem d_S_peek_49 : decode b_S_peek 49 = .ok (.isub, 1) := by decide +kernel
theorem d_S_peek_50 : decode b_S_peek 50 = .ok (.invokevirtual 129, 3) := by decide +kernel
theorem d_S_peek_53 : decode b_S_peek 53 = .ok (.aastore, 1) := by decide +kernel
theorem d_S_peek_54 : decode b_S_peek 54 = .ok (.iconst 1, 1) := by decide +kernel
theorem d_S_peek_55 : decode b_S_peek 55 = .ok (.ireturn, 1) := by decide +kernel
theorem d_S_drop_0 : decode b_S_drop 0 = .ok (.aload_n 0, 1) := by decide +kernel
theorem d_S_drop_1 : decode b_S_drop 1 = .ok (.iload_n 1, 1) := by decide +kernel
theorem d_S_drop_2 : decode b_S_drop 2 = .ok (.invokevirtual 86, 3) := by decide +kernel
theorem d_S_drop_5 : decode b_S_drop 5 = .ok (.astore_n 3, 1) := by decide +kernel
theorem d_S_drop_6 : decode b_S_drop 6 = .ok (.aload_n 3, 1) := by decide +kernel
theorem d_S_drop_7 : decode b_S_drop 7 = .ok (.ifnull 7, 3) := by decide +kernel
theorem d_S_drop_10 : decode b_S_drop 10 = .ok (.iload_n 2, 1) := by decide +kernel
theorem d_S_drop_11 : decode b_S_drop 11 = .ok (.ifCond .ge 5, 3) := by decide +kernel
theorem d_S_drop_14 : decode b_S_drop 14 = .ok (.iconst 0, 1) := by decide +kernel
theorem d_S_drop_15 : decode b_S_drop 15 = .ok (.ireturn, 1) := by decide +kernel
theorem d_S_drop_16 : decode b_S_drop 16 = .ok (.iload_n 2, 1) := by decide +kernel
theorem d_S_drop_17 : decode b_S_drop 17 = .ok (.ifCond .le 13, 3) := by decide +kernel
theorem d_S_drop_20 : decode b_S_drop 20 = .ok (.iload_n 2, 1) := by decide +kernel
theorem d_S_drop_21 : decode b_S_drop 21 = .ok (.aload_n 3, 1) := by decide +kernel
theorem d_S_drop_22 : decode b_S_drop 22 = .ok (.invokevirtual 119, 3) := by decide +kernel
theorem d_S_drop_25 : decode b_S_drop 25 = .ok (.if_icmp .le 5, 3) := by decide +kernel
theorem d_S_drop_28 : decode b_S_drop 28 = .ok (.iconst 0, 1) := by decide +kernel
theorem d_S_drop_29 : decode b_S_drop 29 = .ok (.ireturn, 1) := by decide +kernel
theorem d_S_drop_30 : decode b_S_drop 30 = .ok (.iconst 0, 1) := by decide +kernel
theorem d_S_drop_31 : decode b_S_drop 31 = .ok (.istore 4, 2) := by decide +kernel
theorem d_S_drop_33 : decode b_S_drop 33 = .ok (.iload 4, 2) := by decide +kernel
theorem d_S_drop_35 : decode b_S_drop 35 = .ok (.iload_n 2, 1) := by decide +kernel
theorem d_S_drop_36 : decode b_S_drop 36 = .ok (.if_icmp .ge 14, 3) := by decide +kernel
theorem d_S_drop_39 : decode b_S_drop 39 = .ok (.aload_n 3, 1) := by decide +kernel
theorem d_S_drop_40 : decode b_S_drop 40 = .ok (.invokevirtual 122, 3) := by decide +kernel
theorem d_S_drop_43 : decode b_S_drop 43 = .ok (.pop, 1) := by decide +kernel
theorem d_S_drop_44 : decode b_S_drop 44 = .ok (.iinc 4 1, 3) := by decide +kernel
theorem d_S_drop_47 : decode b_S_drop 47 = .ok (.goto (-14), 3) := by decide +kernel
theorem d_S_drop_50 : decode b_S_drop 50 = .ok (.iconst 1, 1) := by decide +kernel
theorem d_S_drop_51 : decode b_S_drop 51 = .ok (.ireturn, 1) := by decide +kernel
theorem d_S_height_0 : decode b_S_height 0 = .ok (.aload_n 0, 1) := by decide +kernel
theorem d_S_height_1 : decode b_S_height 1 = .ok (.iload_n 1, 1) := by decide +kernel
theorem d_S_height_2 : decode b_S_height 2 = .ok (.invokevirtual 86, 3) := by decide +kernel
theorem d_S_height_5 : decode b_S_height 5 = .ok (.astore_n 2, 1) := by decide +kernel
theorem d_S_height_6 : decode b_S_height 6 = .ok (.aload_n 2, 1) := by decide +kernel
theorem d_S_height_7 : decode b_S_height 7 = .ok (.ifnonnull 7, 3) := by decide +kernel
theorem d_S_height_10 : decode b_S_height 10 = .ok (.iconst (-1), 1) := by decide +kernel
theorem d_S_height_11 : decode b_S_height 11 = .ok (.goto 7, 3) := by decide +kernel
theorem d_S_height_14 : decode b_S_height 14 = .ok (.aload_n 2, 1) := by decide +kernel
theorem d_S_height_15 : decode b_S_height 15 = .ok (.getfield 126, 3) := by decide +kernel
theorem d_S_height_18 : decode b_S_height 18 = .ok (.ireturn, 1) := by decide +kernel
theorem d_S_room_0 : decode b_S_room 0 = .ok (.aload_n 0, 1) := by decide +kernel
theorem d_S_room_1 : decode b_S_room 1 = .ok (.iload_n 1, 1) := by decide +kernel
theorem d_S_room_2 : decode b_S_room 2 = .ok (.invokevirtual 86, 3) := by decide +kernel
theorem d_S_room_5 : decode b_S_room 5 = .ok (.astore_n 2, 1) := by decide +kernel
theorem d_S_room_6 : decode b_S_room 6 = .ok (.aload_n 2, 1) := by decide +kernel
theorem d_S_room_7 : decode b_S_room 7 = .ok (.ifnonnull 7, 3) := by decide +kernel
theorem d_S_room_10 : decode b_S_room 10 = .ok (.iconst (-1), 1) := by decide +kernel
theorem d_S_room_11 : decode b_S_room 11 = .ok (.goto 8, 3) := by decide +kernel
theorem d_S_room_14 : decode b_S_room 14 = .ok (.aload_n 2, 1) := by decide +kernel
theorem d_S_room_15 : decode b_S_room 15 = .ok (.getfield 133, 3) := by decide +kernel
theorem d_S_room_18 : decode b_S_room 18 = .ok (.arraylength, 1) := by decide +kernel
theorem d_S_room_19 : decode b_S_room 19 = .ok (.ireturn, 1) := by decide +kernel
theorem d_S_floor_0 : decode b_S_floor 0 = .ok (.aload_n 0, 1) := by decide +kernel
theorem d_S_floor_1 : decode b_S_floor 1 = .ok (.iload_n 1, 1) := by decide +kernel
theorem d_S_floor_2 : decode b_S_floor 2 = .ok (.invokevirtual 86, 3) := by decide +kernel
theorem d_S_floor_5 : decode b_S_floor 5 = .ok (.astore_n 2, 1) := by decide +kernel
theorem d_S_floor_6 : decode b_S_floor 6 = .ok (.aload_n 2, 1) := by decide +kernel
theorem d_S_floor_7 : decode b_S_floor 7 = .ok (.ifnonnull 7, 3) := by decide +kernel
theorem d_S_floor_10 : decode b_S_floor 10 = .ok (.iconst (-1), 1) := by decide +kernel
theorem d_S_floor_11 : decode b_S_floor 11 = .ok (.goto 7, 3) := by decide +kernel
theorem d_S_floor_14 : decode b_S_floor 14 = .ok (.aload_n 2, 1) := by decide +kernel
theorem d_S_floor_15 : decode b_S_floor 15 = .ok (.invokevirtual 136, 3) := by decide +kernel
theorem d_S_floor_18 : decode b_S_floor 18 = .ok (.ireturn, 1) := by decide +kernel
theorem d_S_count_0 : decode b_S_count 0 = .ok (.iload_n 1, 1) := by decide +kernel
theorem d_S_count_1 : decode b_S_count 1 = .ok (.invokestatic 36, 3) := by decide +kernel
theorem d_S_count_4 : decode b_S_count 4 = .ok (.ifCond .eq 27, 3) := by decide +kernel
theorem d_S_count_7 : decode b_S_count 7 = .ok (.aload_n 0, 1) := by decide +kernel
theorem d_S_count_8 : decode b_S_count 8 = .ok (.getfield 23, 3) := by decide +kernel
theorem d_S_count_11 : decode b_S_count 11 = .ok (.iload_n 1, 1) := by decide +kernel
theorem d_S_count_12 : decode b_S_count 12 = .ok (.aaload, 1) := by decide +kernel
theorem d_S_count_13 : decode b_S_count 13 = .ok (.astore_n 3, 1) := by decide +kernel
theorem d_S_count_14 : decode b_S_count 14 = .ok (.aload_n 3, 1) := by decide +kernel
theorem d_S_count_15 : decode b_S_count 15 = .ok (.instanceof 103, 3) := by decide +kernel
theorem d_S_count_18 : decode b_S_count 18 = .ok (.ifCond .eq 13, 3) := by decide +kernel
theorem d_S_count_21 : decode b_S_count 21 = .ok (.aload_n 3, 1) := by decide +kernel
theorem d_S_count_22 : decode b_S_count 22 = .ok (.checkcast 103, 3) := by decide +kernel
theorem d_S_count_25 : decode b_S_count 25 = .ok (.astore_n 2, 1) := by decide +kernel
theorem d_S_count_26 : decode b_S_count 26 = .ok (.aload_n 2, 1) := by decide +kernel
theorem d_S_count_27 : decode b_S_count 27 = .ok (.getfield 139, 3) := by decide +kernel
theorem d_S_count_30 : decode b_S_count 30 = .ok (.ireturn, 1) := by decide +kernel
theorem d_S_count_31 : decode b_S_count 31 = .ok (.iconst (-1), 1) := by decide +kernel
theorem d_S_count_32 : decode b_S_count 32 = .ok (.ireturn, 1) := by decide +kernel
theorem d_S_home_0 : decode b_S_home 0 = .ok (.aload_n 0, 1) := by decide +kernel
theorem d_S_home_1 : decode b_S_home 1 = .ok (.iload_n 2, 1) := by decide +kernel
theorem d_S_home_2 : decode b_S_home 2 = .ok (.invokevirtual 86, 3) := by decide +kernel
theorem d_S_home_5 : decode b_S_home 5 = .ok (.astore_n 3, 1) := by decide +kernel
theorem d_S_home_6 : decode b_S_home 6 = .ok (.iload_n 1, 1) := by decide +kernel
theorem d_S_home_7 : decode b_S_home 7 = .ok (.invokestatic 36, 3) := by decide +kernel
theorem d_S_home_10 : decode b_S_home 10 = .ok (.ifCond .eq 7, 3) := by decide +kernel
theorem d_S_home_13 : decode b_S_home 13 = .ok (.aload_n 3, 1) := by decide +kernel
theorem d_S_home_14 : decode b_S_home 14 = .ok (.ifnonnull 5, 3) := by decide +kernel
theorem d_S_home_17 : decode b_S_home 17 = .ok (.iconst 0, 1) := by decide +kernel
theorem d_S_home_18 : decode b_S_home 18 = .ok (.ireturn, 1) := by decide +kernel
theorem d_S_home_19 : decode b_S_home 19 = .ok (.aload_n 0, 1) := by decide +kernel
theorem d_S_home_20 : decode b_S_home 20 = .ok (.getfield 23, 3) := by decide +kernel
theorem d_S_home_23 : decode b_S_home 23 = .ok (.iload_n 1, 1) := by decide +kernel
theorem d_S_home_24 : decode b_S_home 24 = .ok (.aload_n 3, 1) := by decide +kernel
theorem d_S_home_25 : decode b_S_home 25 = .ok (.invokevirtual 93, 3) := by decide +kernel
theorem d_S_home_28 : decode b_S_home 28 = .ok (.aastore, 1) := by decide +kernel
theorem d_S_home_29 : decode b_S_home 29 = .ok (.iconst 1, 1) := by decide +kernel
theorem d_S_home_30 : decode b_S_home 30 = .ok (.ireturn, 1) := by decide +kernel
theorem d_S_sender_0 : decode b_S_sender 0 = .ok (.aload_n 0, 1) := by decide +kernel
theorem d_S_sender_1 : decode b_S_sender 1 = .ok (.iload_n 2, 1) := by decide +kernel
theorem d_S_sender_2 : decode b_S_sender 2 = .ok (.invokevirtual 86, 3) := by decide +kernel
theorem d_S_sender_5 : decode b_S_sender 5 = .ok (.astore_n 3, 1) := by decide +kernel
theorem d_S_sender_6 : decode b_S_sender 6 = .ok (.iload_n 1, 1) := by decide +kernel
theorem d_S_sender_7 : decode b_S_sender 7 = .ok (.invokestatic 36, 3) := by decide +kernel
theorem d_S_sender_10 : decode b_S_sender 10 = .ok (.ifCond .eq 7, 3) := by decide +kernel
theorem d_S_sender_13 : decode b_S_sender 13 = .ok (.aload_n 3, 1) := by decide +kernel
theorem d_S_sender_14 : decode b_S_sender 14 = .ok (.ifnonnull 5, 3) := by decide +kernel
theorem d_S_sender_17 : decode b_S_sender 17 = .ok (.iconst 0, 1) := by decide +kernel
theorem d_S_sender_18 : decode b_S_sender 18 = .ok (.ireturn, 1) := by decide +kernel
theorem d_S_sender_19 : decode b_S_sender 19 = .ok (.aload_n 0, 1) := by decide +kernel
theorem d_S_sender_20 : decode b_S_sender 20 = .ok (.getfield 23, 3) := by decide +kernel
theorem d_S_sender_23 : decode b_S_sender 23 = .ok (.iload_n 1, 1) := by decide +kernel
theorem d_S_sender_24 : decode b_S_sender 24 = .ok (.aload_n 3, 1) := by decide +kernel
theorem d_S_sender_25 : decode b_S_sender 25 = .ok (.getfield 142, 3) := by decide +kernel
theorem d_S_sender_28 : decode b_S_sender 28 = .ok (.aastore, 1) := by decide +kernel
theorem d_S_sender_29 : decode b_S_sender 29 = .ok (.iconst 1, 1) := by decide +kernel
theorem d_S_sender_30 : decode b_S_sender 30 = .ok (.ireturn, 1) := by decide +kernel
theorem d_S_send_0 : decode b_S_send 0 = .ok (.aload_n 0, 1) := by decide +kernel
theorem d_S_send_1 : decode b_S_send 1 = .ok (.iload_n 1, 1) := by decide +kernel
theorem d_S_send_2 : decode b_S_send 2 = .ok (.invokevirtual 86, 3) := by decide +kernel
theorem d_S_send_5 : decode b_S_send 5 = .ok (.astore_n 3, 1) := by decide +kernel
theorem d_S_send_6 : decode b_S_send 6 = .ok (.aload_n 3, 1) := by decide +kernel
theorem d_S_send_7 : decode b_S_send 7 = .ok (.ifnull 11, 3) := by decide +kernel
theorem d_S_send_10 : decode b_S_send 10 = .ok (.aload_n 0, 1) := by decide +kernel
theorem d_S_send_11 : decode b_S_send 11 = .ok (.iload_n 2, 1) := by decide +kernel
theorem d_S_send_12 : decode b_S_send 12 = .ok (.invokevirtual 75, 3) := by decide +kernel
theorem d_S_send_15 : decode b_S_send 15 = .ok (.ifCond .ne 5, 3) := by decide +kernel
theorem d_S_send_18 : decode b_S_send 18 = .ok (.iconst 0, 1) := by decide +kernel
theorem d_S_send_19 : decode b_S_send 19 = .ok (.ireturn, 1) := by decide +kernel
theorem d_S_send_20 : decode b_S_send 20 = .ok (.aload_n 3, 1) := by decide +kernel
theorem d_S_send_21 : decode b_S_send 21 = .ok (.aload_n 0, 1) := by decide +kernel
theorem d_S_send_22 : decode b_S_send 22 = .ok (.iload_n 2, 1) := by decide +kernel
theorem d_S_send_23 : decode b_S_send 23 = .ok (.invokevirtual 86, 3) := by decide +kernel
theorem d_S_send_26 : decode b_S_send 26 = .ok (.putfield 142, 3) := by decide +kernel
theorem d_S_send_29 : decode b_S_send 29 = .ok (.iconst 1, 1) := by decide +kernel
theorem d_S_send_30 : decode b_S_send 30 = .ok (.ireturn, 1) := by decide +kernel
theorem d_S_kill_0 : decode b_S_kill 0 = .ok (.aload_n 0, 1) := by decide +kernel
theorem d_S_kill_1 : decode b_S_kill 1 = .ok (.iload_n 1, 1) := by decide +kernel
theorem d_S_kill_2 : decode b_S_kill 2 = .ok (.invokevirtual 86, 3) := by decide +kernel
theorem d_S_kill_5 : decode b_S_kill 5 = .ok (.astore_n 3, 1) := by decide +kernel
theorem d_S_kill_6 : decode b_S_kill 6 = .ok (.aload_n 3, 1) := by decide +kernel
theorem d_S_kill_7 : decode b_S_kill 7 = .ok (.ifnonnull 5, 3) := by decide +kernel
theorem d_S_kill_10 : decode b_S_kill 10 = .ok (.iconst 0, 1) := by decide +kernel
theorem d_S_kill_11 : decode b_S_kill 11 = .ok (.ireturn, 1) := by decide +kernel
theorem d_S_kill_12 : decode b_S_kill 12 = .ok (.aload_n 3, 1) := by decide +kernel
theorem d_S_kill_13 : decode b_S_kill 13 = .ok (.getfield 146, 3) := by decide +kernel
theorem d_S_kill_16 : decode b_S_kill 16 = .ok (.istore 4, 2) := by decide +kernel
theorem d_S_kill_18 : decode b_S_kill 18 = .ok (.aload_n 3, 1) := by decide +kernel
theorem d_S_kill_19 : decode b_S_kill 19 = .ok (.iload_n 2, 1) := by decide +kernel
theorem d_S_kill_20 : decode b_S_kill 20 = .ok (.putfield 146, 3) := by decide +kernel
theorem d_S_kill_23 : decode b_S_kill 23 = .ok (.iload 4, 2) := by decide +kernel
theorem d_S_kill_25 : decode b_S_kill 25 = .ok (.ireturn, 1) := by decide +kernel
theorem d_S_temporary_0 : decode b_S_temporary 0 = .ok (.aload_n 0, 1) := by decide +kernel
theorem d_S_temporary_1 : decode b_S_temporary 1 = .ok (.iload_n 2, 1) := by decide +kernel
theorem d_S_temporary_2 : decode b_S_temporary 2 = .ok (.invokevirtual 86, 3) := by decide +kernel
theorem d_S_temporary_5 : decode b_S_temporary 5 = .ok (.astore 4, 2) := by decide +kernel
theorem d_S_temporary_7 : decode b_S_temporary 7 = .ok (.iload_n 1, 1) := by decide +kernel
theorem d_S_temporary_8 : decode b_S_temporary 8 = .ok (.invokestatic 36, 3) := by decide +kernel
theorem d_S_temporary_11 : decode b_S_temporary 11 = .ok (.ifCond .eq 20, 3) := by decide +kernel
theorem d_S_temporary_14 : decode b_S_temporary 14 = .ok (.aload 4, 2) := by decide +kernel
theorem d_S_temporary_16 : decode b_S_temporary 16 = .ok (.ifnull 15, 3) := by decide +kernel
theorem d_S_temporary_19 : decode b_S_temporary 19 = .ok (.aload 4, 2) := by decide +kernel
theorem d_S_temporary_21 : decode b_S_temporary 21 = .ok (.invokevirtual 93, 3) := by decide +kernel
theorem d_S_temporary_24 : decode b_S_temporary 24 = .ok (.iload_n 3, 1) := by decide +kernel
theorem d_S_temporary_25 : decode b_S_temporary 25 = .ok (.invokevirtual 150, 3) := by decide +kernel
theorem d_S_temporary_28 : decode b_S_temporary 28 = .ok (.ifCond .ne 5, 3) := by decide +kernel
theorem d_S_temporary_31 : decode b_S_temporary 31 = .ok (.iconst 0, 1) := by decide +kernel
theorem d_S_temporary_32 : decode b_S_temporary 32 = .ok (.ireturn, 1) := by decide +kernel
theorem d_S_temporary_33 : decode b_S_temporary 33 = .ok (.aload_n 0, 1) := by decide +kernel
theorem d_S_temporary_34 : decode b_S_temporary 34 = .ok (.getfield 23, 3) := by decide +kernel
theorem d_S_temporary_37 : decode b_S_temporary 37 = .ok (.iload_n 1, 1) := by decide +kernel
theorem d_S_temporary_38 : decode b_S_temporary 38 = .ok (.aload 4, 2) := by decide +kernel
theorem d_S_temporary_40 : decode b_S_temporary 40 = .ok (.invokevirtual 93, 3) := by decide +kernel
theorem d_S_temporary_43 : decode b_S_temporary 43 = .ok (.iload_n 3, 1) := by decide +kernel
theorem d_S_temporary_44 : decode b_S_temporary 44 = .ok (.invokevirtual 153, 3) := by decide +kernel
theorem d_S_temporary_47 : decode b_S_temporary 47 = .ok (.aastore, 1) := by decide +kernel
theorem d_S_temporary_48 : decode b_S_temporary 48 = .ok (.iconst 1, 1) := by decide +kernel
theorem d_S_temporary_49 : decode b_S_temporary 49 = .ok (.ireturn, 1) := by decide +kernel
theorem d_S_keep_0 : decode b_S_keep 0 = .ok (.aload_n 0, 1) := by decide +kernel
theorem d_S_keep_1 : decode b_S_keep 1 = .ok (.iload_n 1, 1) := by decide +kernel
theorem d_S_keep_2 : decode b_S_keep 2 = .ok (.invokevirtual 86, 3) := by decide +kernel
theorem d_S_keep_5 : decode b_S_keep 5 = .ok (.astore 4, 2) := by decide +kernel
theorem d_S_keep_7 : decode b_S_keep 7 = .ok (.aload 4, 2) := by decide +kernel
theorem d_S_keep_9 : decode b_S_keep 9 = .ok (.ifnull 22, 3) := by decide +kernel
theorem d_S_keep_12 : decode b_S_keep 12 = .ok (.iload_n 3, 1) := by decide +kernel
theorem d_S_keep_13 : decode b_S_keep 13 = .ok (.invokestatic 36, 3) := by decide +kernel
theorem d_S_keep_16 : decode b_S_keep 16 = .ok (.ifCond .eq 15, 3) := by decide +kernel
theorem d_S_keep_19 : decode b_S_keep 19 = .ok (.aload 4, 2) := by decide +kernel
theorem d_S_keep_21 : decode b_S_keep 21 = .ok (.invokevirtual 93, 3) := by decide +kernel
theorem d_S_keep_24 : decode b_S_keep 24 = .ok (.iload_n 2, 1) := by decide +kernel
theorem d_S_keep_25 : decode b_S_keep 25 = .ok (.invokevirtual 150, 3) := by decide +kernel
theorem d_S_keep_28 : decode b_S_keep 28 = .ok (.ifCond .ne 5, 3) := by decide +kernel
theorem d_S_keep_31 : decode b_S_keep 31 = .ok (.iconst 0, 1) := by decide +kernel
theorem d_S_keep_32 : decode b_S_keep 32 = .ok (.ireturn, 1) := by decide +kernel
theorem d_S_keep_33 : decode b_S_keep 33 = .ok (.aload 4, 2) := by decide +kernel
theorem d_S_keep_35 : decode b_S_keep 35 = .ok (.invokevirtual 93, 3) := by decide +kernel
theorem d_S_keep_38 : decode b_S_keep 38 = .ok (.iload_n 2, 1) := by decide +kernel
theorem d_S_keep_39 : decode b_S_keep 39 = .ok (.aload_n 0, 1) := by decide +kernel
theorem d_S_keep_40 : decode b_S_keep 40 = .ok (.getfield 23, 3) := by decide +kernel
theorem d_S_keep_43 : decode b_S_keep 43 = .ok (.iload_n 3, 1) := by decide +kernel
theorem d_S_keep_44 : decode b_S_keep 44 = .ok (.aaload, 1) := by decide +kernel
theorem d_S_keep_45 : decode b_S_keep 45 = .ok (.invokevirtual 154, 3) := by decide +kernel
theorem d_S_keep_48 : decode b_S_keep 48 = .ok (.iconst 1, 1) := by decide +kernel
theorem d_S_keep_49 : decode b_S_keep 49 = .ok (.ireturn, 1) := by decide +kernel
theorem d_S_words_0 : decode b_S_words 0 = .ok (.aload_n 0, 1) := by decide +kernel
theorem d_S_words_1 : decode b_S_words 1 = .ok (.invokevirtual 158, 3) := by decide +kernel
theorem d_S_words_4 : decode b_S_words 4 = .ok (.aload_n 0, 1) := by decide +kernel
end
section
theorem d_S_words_5 : decode b_S_words 5 = .ok (.getfield 161, 3) := by decide +kernel
theorem d_S_words_8 : decode b_S_words 8 = .ok (.ireturn, 1) := by decide +kernel
theorem d_S_entries_0 : decode b_S_entries 0 = .ok (.aload_n 0, 1) := by decide +kernel
theorem d_S_entries_1 : decode b_S_entries 1 = .ok (.invokevirtual 158, 3) := by decide +kernel
theorem d_S_entries_4 : decode b_S_entries 4 = .ok (.aload_n 0, 1) := by decide +kernel
theorem d_S_entries_5 : decode b_S_entries 5 = .ok (.getfield 164, 3) := by decide +kernel
theorem d_S_entries_8 : decode b_S_entries 8 = .ok (.ireturn, 1) := by decide +kernel
theorem d_S_contexts_0 : decode b_S_contexts 0 = .ok (.aload_n 0, 1) := by decide +kernel
theorem d_S_contexts_1 : decode b_S_contexts 1 = .ok (.invokevirtual 158, 3) := by decide +kernel
theorem d_S_contexts_4 : decode b_S_contexts 4 = .ok (.aload_n 0, 1) := by decide +kernel
theorem d_S_contexts_5 : decode b_S_contexts 5 = .ok (.getfield 167, 3) := by decide +kernel
theorem d_S_contexts_8 : decode b_S_contexts 8 = .ok (.ireturn, 1) := by decide +kernel
theorem d_S_isWithin_0 : decode b_S_isWithin 0 = .ok (.iload_n 0, 1) := by decide +kernel
theorem d_S_isWithin_1 : decode b_S_isWithin 1 = .ok (.iload_n 1, 1) := by decide +kernel
theorem d_S_isWithin_2 : decode b_S_isWithin 2 = .ok (.if_icmp .lt 12, 3) := by decide +kernel
theorem d_S_isWithin_5 : decode b_S_isWithin 5 = .ok (.iload_n 0, 1) := by decide +kernel
theorem d_S_isWithin_6 : decode b_S_isWithin 6 = .ok (.iload_n 2, 1) := by decide +kernel
theorem d_S_isWithin_7 : decode b_S_isWithin 7 = .ok (.if_icmp .gt 7, 3) := by decide +kernel
theorem d_S_isWithin_10 : decode b_S_isWithin 10 = .ok (.iconst 1, 1) := by decide +kernel
theorem d_S_isWithin_11 : decode b_S_isWithin 11 = .ok (.goto 4, 3) := by decide +kernel
theorem d_S_isWithin_14 : decode b_S_isWithin 14 = .ok (.iconst 0, 1) := by decide +kernel
theorem d_S_isWithin_15 : decode b_S_isWithin 15 = .ok (.ireturn, 1) := by decide +kernel
theorem d_S_isRegister_0 : decode b_S_isRegister 0 = .ok (.iload_n 0, 1) := by decide +kernel
theorem d_S_isRegister_1 : decode b_S_isRegister 1 = .ok (.iconst 0, 1) := by decide +kernel
theorem d_S_isRegister_2 : decode b_S_isRegister 2 = .ok (.bipush 15, 2) := by decide +kernel
theorem d_S_isRegister_4 : decode b_S_isRegister 4 = .ok (.invokestatic 10, 3) := by decide +kernel
theorem d_S_isRegister_7 : decode b_S_isRegister 7 = .ok (.ireturn, 1) := by decide +kernel
theorem d_S_isNumber_0 : decode b_S_isNumber 0 = .ok (.iload_n 0, 1) := by decide +kernel
theorem d_S_isNumber_1 : decode b_S_isNumber 1 = .ok (.ldc 170, 2) := by decide +kernel
theorem d_S_isNumber_3 : decode b_S_isNumber 3 = .ok (.ldc 171, 2) := by decide +kernel
theorem d_S_isNumber_5 : decode b_S_isNumber 5 = .ok (.invokestatic 10, 3) := by decide +kernel
theorem d_S_isNumber_8 : decode b_S_isNumber 8 = .ok (.ireturn, 1) := by decide +kernel
theorem d_S_areNumbers_0 : decode b_S_areNumbers 0 = .ok (.iload_n 1, 1) := by decide +kernel
theorem d_S_areNumbers_1 : decode b_S_areNumbers 1 = .ok (.ifCond .eq 20, 3) := by decide +kernel
theorem d_S_areNumbers_4 : decode b_S_areNumbers 4 = .ok (.iload_n 0, 1) := by decide +kernel
theorem d_S_areNumbers_5 : decode b_S_areNumbers 5 = .ok (.invokestatic 40, 3) := by decide +kernel
theorem d_S_areNumbers_8 : decode b_S_areNumbers 8 = .ok (.ifCond .eq 17, 3) := by decide +kernel
theorem d_S_areNumbers_11 : decode b_S_areNumbers 11 = .ok (.iload_n 0, 1) := by decide +kernel
theorem d_S_areNumbers_12 : decode b_S_areNumbers 12 = .ok (.ldc 171, 2) := by decide +kernel
theorem d_S_areNumbers_14 : decode b_S_areNumbers 14 = .ok (.iload_n 1, 1) := by decide +kernel
theorem d_S_areNumbers_15 : decode b_S_areNumbers 15 = .ok (.iconst 1, 1) := by decide +kernel
theorem d_S_areNumbers_16 : decode b_S_areNumbers 16 = .ok (.isub, 1) := by decide +kernel
theorem d_S_areNumbers_17 : decode b_S_areNumbers 17 = .ok (.isub, 1) := by decide +kernel
theorem d_S_areNumbers_18 : decode b_S_areNumbers 18 = .ok (.if_icmp .gt 7, 3) := by decide +kernel
theorem d_S_areNumbers_21 : decode b_S_areNumbers 21 = .ok (.iconst 1, 1) := by decide +kernel
theorem d_S_areNumbers_22 : decode b_S_areNumbers 22 = .ok (.goto 4, 3) := by decide +kernel
theorem d_S_areNumbers_25 : decode b_S_areNumbers 25 = .ok (.iconst 0, 1) := by decide +kernel
theorem d_S_areNumbers_26 : decode b_S_areNumbers 26 = .ok (.ireturn, 1) := by decide +kernel
theorem d_S_areMethodNumbers_0 : decode b_S_areMethodNumbers 0 = .ok (.iload_n 0, 1) := by decide +kernel
theorem d_S_areMethodNumbers_1 : decode b_S_areMethodNumbers 1 = .ok (.iconst 0, 1) := by decide +kernel
theorem d_S_areMethodNumbers_2 : decode b_S_areMethodNumbers 2 = .ok (.bipush 15, 2) := by decide +kernel
theorem d_S_areMethodNumbers_4 : decode b_S_areMethodNumbers 4 = .ok (.invokestatic 10, 3) := by decide +kernel
theorem d_S_areMethodNumbers_7 : decode b_S_areMethodNumbers 7 = .ok (.ifCond .eq 27, 3) := by decide +kernel
theorem d_S_areMethodNumbers_10 : decode b_S_areMethodNumbers 10 = .ok (.iload_n 1, 1) := by decide +kernel
theorem d_S_areMethodNumbers_11 : decode b_S_areMethodNumbers 11 = .ok (.iload_n 0, 1) := by decide +kernel
theorem d_S_areMethodNumbers_12 : decode b_S_areMethodNumbers 12 = .ok (.bipush 31, 2) := by decide +kernel
theorem d_S_areMethodNumbers_14 : decode b_S_areMethodNumbers 14 = .ok (.invokestatic 10, 3) := by decide +kernel
theorem d_S_areMethodNumbers_17 : decode b_S_areMethodNumbers 17 = .ok (.ifCond .eq 17, 3) := by decide +kernel
theorem d_S_areMethodNumbers_20 : decode b_S_areMethodNumbers 20 = .ok (.iload_n 2, 1) := by decide +kernel
theorem d_S_areMethodNumbers_21 : decode b_S_areMethodNumbers 21 = .ok (.iconst 0, 1) := by decide +kernel
theorem d_S_areMethodNumbers_22 : decode b_S_areMethodNumbers 22 = .ok (.bipush 63, 2) := by decide +kernel
theorem d_S_areMethodNumbers_24 : decode b_S_areMethodNumbers 24 = .ok (.invokestatic 10, 3) := by decide +kernel
theorem d_S_areMethodNumbers_27 : decode b_S_areMethodNumbers 27 = .ok (.ifCond .eq 7, 3) := by decide +kernel
theorem d_S_areMethodNumbers_30 : decode b_S_areMethodNumbers 30 = .ok (.iconst 1, 1) := by decide +kernel
theorem d_S_areMethodNumbers_31 : decode b_S_areMethodNumbers 31 = .ok (.goto 4, 3) := by decide +kernel
theorem d_S_areMethodNumbers_34 : decode b_S_areMethodNumbers 34 = .ok (.iconst 0, 1) := by decide +kernel
theorem d_S_areMethodNumbers_35 : decode b_S_areMethodNumbers 35 = .ok (.ireturn, 1) := by decide +kernel
theorem d_S_isSender_0 : decode b_S_isSender 0 = .ok (.iload_n 1, 1) := by decide +kernel
theorem d_S_isSender_1 : decode b_S_isSender 1 = .ok (.invokestatic 36, 3) := by decide +kernel
theorem d_S_isSender_4 : decode b_S_isSender 4 = .ok (.ifCond .eq 28, 3) := by decide +kernel
theorem d_S_isSender_7 : decode b_S_isSender 7 = .ok (.aload_n 0, 1) := by decide +kernel
theorem d_S_isSender_8 : decode b_S_isSender 8 = .ok (.getfield 23, 3) := by decide +kernel
theorem d_S_isSender_11 : decode b_S_isSender 11 = .ok (.iload_n 1, 1) := by decide +kernel
theorem d_S_isSender_12 : decode b_S_isSender 12 = .ok (.aaload, 1) := by decide +kernel
theorem d_S_isSender_13 : decode b_S_isSender 13 = .ok (.ifnull 15, 3) := by decide +kernel
theorem d_S_isSender_16 : decode b_S_isSender 16 = .ok (.aload_n 0, 1) := by decide +kernel
theorem d_S_isSender_17 : decode b_S_isSender 17 = .ok (.getfield 23, 3) := by decide +kernel
theorem d_S_isSender_20 : decode b_S_isSender 20 = .ok (.iload_n 1, 1) := by decide +kernel
theorem d_S_isSender_21 : decode b_S_isSender 21 = .ok (.aaload, 1) := by decide +kernel
theorem d_S_isSender_22 : decode b_S_isSender 22 = .ok (.instanceof 94, 3) := by decide +kernel
theorem d_S_isSender_25 : decode b_S_isSender 25 = .ok (.ifCond .eq 7, 3) := by decide +kernel
theorem d_S_isSender_28 : decode b_S_isSender 28 = .ok (.iconst 1, 1) := by decide +kernel
theorem d_S_isSender_29 : decode b_S_isSender 29 = .ok (.goto 4, 3) := by decide +kernel
theorem d_S_isSender_32 : decode b_S_isSender 32 = .ok (.iconst 0, 1) := by decide +kernel
theorem d_S_isSender_33 : decode b_S_isSender 33 = .ok (.ireturn, 1) := by decide +kernel
theorem d_S_methodIn_0 : decode b_S_methodIn 0 = .ok (.iload_n 1, 1) := by decide +kernel
theorem d_S_methodIn_1 : decode b_S_methodIn 1 = .ok (.invokestatic 36, 3) := by decide +kernel
theorem d_S_methodIn_4 : decode b_S_methodIn 4 = .ok (.ifCond .eq 24, 3) := by decide +kernel
theorem d_S_methodIn_7 : decode b_S_methodIn 7 = .ok (.aload_n 0, 1) := by decide +kernel
theorem d_S_methodIn_8 : decode b_S_methodIn 8 = .ok (.getfield 23, 3) := by decide +kernel
theorem d_S_methodIn_11 : decode b_S_methodIn 11 = .ok (.iload_n 1, 1) := by decide +kernel
theorem d_S_methodIn_12 : decode b_S_methodIn 12 = .ok (.aaload, 1) := by decide +kernel
theorem d_S_methodIn_13 : decode b_S_methodIn 13 = .ok (.astore_n 3, 1) := by decide +kernel
theorem d_S_methodIn_14 : decode b_S_methodIn 14 = .ok (.aload_n 3, 1) := by decide +kernel
theorem d_S_methodIn_15 : decode b_S_methodIn 15 = .ok (.instanceof 62, 3) := by decide +kernel
theorem d_S_methodIn_18 : decode b_S_methodIn 18 = .ok (.ifCond .eq 10, 3) := by decide +kernel
theorem d_S_methodIn_21 : decode b_S_methodIn 21 = .ok (.aload_n 3, 1) := by decide +kernel
theorem d_S_methodIn_22 : decode b_S_methodIn 22 = .ok (.checkcast 62, 3) := by decide +kernel
theorem d_S_methodIn_25 : decode b_S_methodIn 25 = .ok (.astore_n 2, 1) := by decide +kernel
theorem d_S_methodIn_26 : decode b_S_methodIn 26 = .ok (.aload_n 2, 1) := by decide +kernel
theorem d_S_methodIn_27 : decode b_S_methodIn 27 = .ok (.areturn, 1) := by decide +kernel
theorem d_S_methodIn_28 : decode b_S_methodIn 28 = .ok (.aconst_null, 1) := by decide +kernel
theorem d_S_methodIn_29 : decode b_S_methodIn 29 = .ok (.areturn, 1) := by decide +kernel
theorem d_S_contextIn_0 : decode b_S_contextIn 0 = .ok (.iload_n 1, 1) := by decide +kernel
theorem d_S_contextIn_1 : decode b_S_contextIn 1 = .ok (.invokestatic 36, 3) := by decide +kernel
theorem d_S_contextIn_4 : decode b_S_contextIn 4 = .ok (.ifCond .eq 24, 3) := by decide +kernel
theorem d_S_contextIn_7 : decode b_S_contextIn 7 = .ok (.aload_n 0, 1) := by decide +kernel
theorem d_S_contextIn_8 : decode b_S_contextIn 8 = .ok (.getfield 23, 3) := by decide +kernel
theorem d_S_contextIn_11 : decode b_S_contextIn 11 = .ok (.iload_n 1, 1) := by decide +kernel
theorem d_S_contextIn_12 : decode b_S_contextIn 12 = .ok (.aaload, 1) := by decide +kernel
theorem d_S_contextIn_13 : decode b_S_contextIn 13 = .ok (.astore_n 3, 1) := by decide +kernel
theorem d_S_contextIn_14 : decode b_S_contextIn 14 = .ok (.aload_n 3, 1) := by decide +kernel
theorem d_S_contextIn_15 : decode b_S_contextIn 15 = .ok (.instanceof 94, 3) := by decide +kernel
theorem d_S_contextIn_18 : decode b_S_contextIn 18 = .ok (.ifCond .eq 10, 3) := by decide +kernel
theorem d_S_contextIn_21 : decode b_S_contextIn 21 = .ok (.aload_n 3, 1) := by decide +kernel
theorem d_S_contextIn_22 : decode b_S_contextIn 22 = .ok (.checkcast 94, 3) := by decide +kernel
theorem d_S_contextIn_25 : decode b_S_contextIn 25 = .ok (.astore_n 2, 1) := by decide +kernel
theorem d_S_contextIn_26 : decode b_S_contextIn 26 = .ok (.aload_n 2, 1) := by decide +kernel
theorem d_S_contextIn_27 : decode b_S_contextIn 27 = .ok (.areturn, 1) := by decide +kernel
theorem d_S_contextIn_28 : decode b_S_contextIn 28 = .ok (.aconst_null, 1) := by decide +kernel
theorem d_S_contextIn_29 : decode b_S_contextIn 29 = .ok (.areturn, 1) := by decide +kernel
theorem d_S_canBeMade_0 : decode b_S_canBeMade 0 = .ok (.aload_n 0, 1) := by decide +kernel
theorem d_S_canBeMade_1 : decode b_S_canBeMade 1 = .ok (.invokevirtual 158, 3) := by decide +kernel
theorem d_S_canBeMade_4 : decode b_S_canBeMade 4 = .ok (.iload_n 1, 1) := by decide +kernel
theorem d_S_canBeMade_5 : decode b_S_canBeMade 5 = .ok (.aload_n 0, 1) := by decide +kernel
theorem d_S_canBeMade_6 : decode b_S_canBeMade 6 = .ok (.getfield 161, 3) := by decide +kernel
theorem d_S_canBeMade_9 : decode b_S_canBeMade 9 = .ok (.if_icmp .gt 15, 3) := by decide +kernel
theorem d_S_canBeMade_12 : decode b_S_canBeMade 12 = .ok (.iload_n 2, 1) := by decide +kernel
theorem d_S_canBeMade_13 : decode b_S_canBeMade 13 = .ok (.aload_n 0, 1) := by decide +kernel
theorem d_S_canBeMade_14 : decode b_S_canBeMade 14 = .ok (.getfield 164, 3) := by decide +kernel
theorem d_S_canBeMade_17 : decode b_S_canBeMade 17 = .ok (.if_icmp .gt 7, 3) := by decide +kernel
theorem d_S_canBeMade_20 : decode b_S_canBeMade 20 = .ok (.iconst 1, 1) := by decide +kernel
theorem d_S_canBeMade_21 : decode b_S_canBeMade 21 = .ok (.goto 4, 3) := by decide +kernel
theorem d_S_canBeMade_24 : decode b_S_canBeMade 24 = .ok (.iconst 0, 1) := by decide +kernel
theorem d_S_canBeMade_25 : decode b_S_canBeMade 25 = .ok (.ireturn, 1) := by decide +kernel
theorem d_S_survey_0 : decode b_S_survey 0 = .ok (.aload_n 0, 1) := by decide +kernel
theorem d_S_survey_1 : decode b_S_survey 1 = .ok (.dup, 1) := by decide +kernel
theorem d_S_survey_2 : decode b_S_survey 2 = .ok (.getfield 172, 3) := by decide +kernel
theorem d_S_survey_5 : decode b_S_survey 5 = .ok (.iconst 1, 1) := by decide +kernel
theorem d_S_survey_6 : decode b_S_survey 6 = .ok (.iadd, 1) := by decide +kernel
theorem d_S_survey_7 : decode b_S_survey 7 = .ok (.putfield 172, 3) := by decide +kernel
theorem d_S_survey_10 : decode b_S_survey 10 = .ok (.aload_n 0, 1) := by decide +kernel
theorem d_S_survey_11 : decode b_S_survey 11 = .ok (.iconst 0, 1) := by decide +kernel
theorem d_S_survey_12 : decode b_S_survey 12 = .ok (.putfield 175, 3) := by decide +kernel
theorem d_S_survey_15 : decode b_S_survey 15 = .ok (.aload_n 0, 1) := by decide +kernel
theorem d_S_survey_16 : decode b_S_survey 16 = .ok (.aload_n 0, 1) := by decide +kernel
theorem d_S_survey_17 : decode b_S_survey 17 = .ok (.getfield 14, 3) := by decide +kernel
theorem d_S_survey_20 : decode b_S_survey 20 = .ok (.bipush 8, 2) := by decide +kernel
theorem d_S_survey_22 : decode b_S_survey 22 = .ok (.isub, 1) := by decide +kernel
theorem d_S_survey_23 : decode b_S_survey 23 = .ok (.putfield 161, 3) := by decide +kernel
theorem d_S_survey_26 : decode b_S_survey 26 = .ok (.aload_n 0, 1) := by decide +kernel
theorem d_S_survey_27 : decode b_S_survey 27 = .ok (.aload_n 0, 1) := by decide +kernel
theorem d_S_survey_28 : decode b_S_survey 28 = .ok (.getfield 18, 3) := by decide +kernel
theorem d_S_survey_31 : decode b_S_survey 31 = .ok (.iconst 2, 1) := by decide +kernel
theorem d_S_survey_32 : decode b_S_survey 32 = .ok (.isub, 1) := by decide +kernel
theorem d_S_survey_33 : decode b_S_survey 33 = .ok (.putfield 164, 3) := by decide +kernel
theorem d_S_survey_36 : decode b_S_survey 36 = .ok (.aload_n 0, 1) := by decide +kernel
theorem d_S_survey_37 : decode b_S_survey 37 = .ok (.iconst 0, 1) := by decide +kernel
theorem d_S_survey_38 : decode b_S_survey 38 = .ok (.putfield 167, 3) := by decide +kernel
theorem d_S_survey_41 : decode b_S_survey 41 = .ok (.iconst 0, 1) := by decide +kernel
theorem d_S_survey_42 : decode b_S_survey 42 = .ok (.istore_n 1, 1) := by decide +kernel
theorem d_S_survey_43 : decode b_S_survey 43 = .ok (.iload_n 1, 1) := by decide +kernel
theorem d_S_survey_44 : decode b_S_survey 44 = .ok (.aload_n 0, 1) := by decide +kernel
theorem d_S_survey_45 : decode b_S_survey 45 = .ok (.getfield 23, 3) := by decide +kernel
theorem d_S_survey_48 : decode b_S_survey 48 = .ok (.arraylength, 1) := by decide +kernel
theorem d_S_survey_49 : decode b_S_survey 49 = .ok (.if_icmp .ge 19, 3) := by decide +kernel
theorem d_S_survey_52 : decode b_S_survey 52 = .ok (.aload_n 0, 1) := by decide +kernel
theorem d_S_survey_53 : decode b_S_survey 53 = .ok (.aload_n 0, 1) := by decide +kernel
theorem d_S_survey_54 : decode b_S_survey 54 = .ok (.getfield 23, 3) := by decide +kernel
theorem d_S_survey_57 : decode b_S_survey 57 = .ok (.iload_n 1, 1) := by decide +kernel
theorem d_S_survey_58 : decode b_S_survey 58 = .ok (.aaload, 1) := by decide +kernel
theorem d_S_survey_59 : decode b_S_survey 59 = .ok (.invokevirtual 178, 3) := by decide +kernel
theorem d_S_survey_62 : decode b_S_survey 62 = .ok (.iinc 1 1, 3) := by decide +kernel
theorem d_S_survey_65 : decode b_S_survey 65 = .ok (.goto (-22), 3) := by decide +kernel
theorem d_S_survey_68 : decode b_S_survey 68 = .ok (.iconst 0, 1) := by decide +kernel
theorem d_S_survey_69 : decode b_S_survey 69 = .ok (.istore_n 1, 1) := by decide +kernel
theorem d_S_survey_70 : decode b_S_survey 70 = .ok (.iload_n 1, 1) := by decide +kernel
theorem d_S_survey_71 : decode b_S_survey 71 = .ok (.aload_n 0, 1) := by decide +kernel
theorem d_S_survey_72 : decode b_S_survey 72 = .ok (.getfield 175, 3) := by decide +kernel
theorem d_S_survey_75 : decode b_S_survey 75 = .ok (.if_icmp .ge 52, 3) := by decide +kernel
theorem d_S_survey_78 : decode b_S_survey 78 = .ok (.iload_n 1, 1) := by decide +kernel
theorem d_S_survey_79 : decode b_S_survey 79 = .ok (.aload_n 0, 1) := by decide +kernel
theorem d_S_survey_80 : decode b_S_survey 80 = .ok (.getfield 29, 3) := by decide +kernel
theorem d_S_survey_83 : decode b_S_survey 83 = .ok (.arraylength, 1) := by decide +kernel
theorem d_S_survey_84 : decode b_S_survey 84 = .ok (.if_icmp .ge 43, 3) := by decide +kernel
theorem d_S_survey_87 : decode b_S_survey 87 = .ok (.aload_n 0, 1) := by decide +kernel
theorem d_S_survey_88 : decode b_S_survey 88 = .ok (.getfield 29, 3) := by decide +kernel
theorem d_S_survey_91 : decode b_S_survey 91 = .ok (.iload_n 1, 1) := by decide +kernel
theorem d_S_survey_92 : decode b_S_survey 92 = .ok (.aaload, 1) := by decide +kernel
theorem d_S_survey_93 : decode b_S_survey 93 = .ok (.astore_n 3, 1) := by decide +kernel
theorem d_S_survey_94 : decode b_S_survey 94 = .ok (.aload_n 3, 1) := by decide +kernel
theorem d_S_survey_95 : decode b_S_survey 95 = .ok (.instanceof 94, 3) := by decide +kernel
theorem d_S_survey_98 : decode b_S_survey 98 = .ok (.ifCond .eq 23, 3) := by decide +kernel
theorem d_S_survey_101 : decode b_S_survey 101 = .ok (.aload_n 3, 1) := by decide +kernel
theorem d_S_survey_102 : decode b_S_survey 102 = .ok (.checkcast 94, 3) := by decide +kernel
theorem d_S_survey_105 : decode b_S_survey 105 = .ok (.astore_n 2, 1) := by decide +kernel
theorem d_S_survey_106 : decode b_S_survey 106 = .ok (.aload_n 0, 1) := by decide +kernel
theorem d_S_survey_107 : decode b_S_survey 107 = .ok (.dup, 1) := by decide +kernel
theorem d_S_survey_108 : decode b_S_survey 108 = .ok (.getfield 167, 3) := by decide +kernel
theorem d_S_survey_111 : decode b_S_survey 111 = .ok (.iconst 1, 1) := by decide +kernel
theorem d_S_survey_112 : decode b_S_survey 112 = .ok (.iadd, 1) := by decide +kernel
theorem d_S_survey_113 : decode b_S_survey 113 = .ok (.putfield 167, 3) := by decide +kernel
theorem d_S_survey_116 : decode b_S_survey 116 = .ok (.aload_n 0, 1) := by decide +kernel
theorem d_S_survey_117 : decode b_S_survey 117 = .ok (.aload_n 2, 1) := by decide +kernel
theorem d_S_survey_118 : decode b_S_survey 118 = .ok (.invokevirtual 181, 3) := by decide +kernel
theorem d_S_survey_121 : decode b_S_survey 121 = .ok (.iinc 1 1, 3) := by decide +kernel
theorem d_S_survey_124 : decode b_S_survey 124 = .ok (.goto (-54), 3) := by decide +kernel
theorem d_S_survey_127 : decode b_S_survey 127 = .ok (.return_, 1) := by decide +kernel
theorem d_S_reachPartsOf_0 : decode b_S_reachPartsOf 0 = .ok (.aload_n 0, 1) := by decide +kernel
theorem d_S_reachPartsOf_1 : decode b_S_reachPartsOf 1 = .ok (.aload_n 1, 1) := by decide +kernel
theorem d_S_reachPartsOf_2 : decode b_S_reachPartsOf 2 = .ok (.getfield 142, 3) := by decide +kernel
theorem d_S_reachPartsOf_5 : decode b_S_reachPartsOf 5 = .ok (.invokevirtual 178, 3) := by decide +kernel
theorem d_S_reachPartsOf_8 : decode b_S_reachPartsOf 8 = .ok (.aload_n 0, 1) := by decide +kernel
theorem d_S_reachPartsOf_9 : decode b_S_reachPartsOf 9 = .ok (.aload_n 1, 1) := by decide +kernel
theorem d_S_reachPartsOf_10 : decode b_S_reachPartsOf 10 = .ok (.invokevirtual 185, 3) := by decide +kernel
theorem d_S_reachPartsOf_13 : decode b_S_reachPartsOf 13 = .ok (.invokevirtual 178, 3) := by decide +kernel
theorem d_S_reachPartsOf_16 : decode b_S_reachPartsOf 16 = .ok (.iconst 0, 1) := by decide +kernel
theorem d_S_reachPartsOf_17 : decode b_S_reachPartsOf 17 = .ok (.istore_n 2, 1) := by decide +kernel
theorem d_S_reachPartsOf_18 : decode b_S_reachPartsOf 18 = .ok (.iload_n 2, 1) := by decide +kernel
theorem d_S_reachPartsOf_19 : decode b_S_reachPartsOf 19 = .ok (.aload_n 1, 1) := by decide +kernel
theorem d_S_reachPartsOf_20 : decode b_S_reachPartsOf 20 = .ok (.getfield 133, 3) := by decide +kernel
theorem d_S_reachPartsOf_23 : decode b_S_reachPartsOf 23 = .ok (.arraylength, 1) := by decide +kernel
theorem d_S_reachPartsOf_24 : decode b_S_reachPartsOf 24 = .ok (.if_icmp .ge 19, 3) := by decide +kernel
theorem d_S_reachPartsOf_27 : decode b_S_reachPartsOf 27 = .ok (.aload_n 0, 1) := by decide +kernel
theorem d_S_reachPartsOf_28 : decode b_S_reachPartsOf 28 = .ok (.aload_n 1, 1) := by decide +kernel
theorem d_S_reachPartsOf_29 : decode b_S_reachPartsOf 29 = .ok (.getfield 133, 3) := by decide +kernel
theorem d_S_reachPartsOf_32 : decode b_S_reachPartsOf 32 = .ok (.iload_n 2, 1) := by decide +kernel
theorem d_S_reachPartsOf_33 : decode b_S_reachPartsOf 33 = .ok (.aaload, 1) := by decide +kernel
theorem d_S_reachPartsOf_34 : decode b_S_reachPartsOf 34 = .ok (.invokevirtual 178, 3) := by decide +kernel
theorem d_S_reachPartsOf_37 : decode b_S_reachPartsOf 37 = .ok (.iinc 2 1, 3) := by decide +kernel
theorem d_S_reachPartsOf_40 : decode b_S_reachPartsOf 40 = .ok (.goto (-22), 3) := by decide +kernel
theorem d_S_reachPartsOf_43 : decode b_S_reachPartsOf 43 = .ok (.return_, 1) := by decide +kernel
theorem d_S_reach_0 : decode b_S_reach 0 = .ok (.aload_n 1, 1) := by decide +kernel
theorem d_S_reach_1 : decode b_S_reach 1 = .ok (.instanceof 27, 3) := by decide +kernel
theorem d_S_reach_4 : decode b_S_reach 4 = .ok (.ifCond .eq 85, 3) := by decide +kernel
theorem d_S_reach_7 : decode b_S_reach 7 = .ok (.aload_n 1, 1) := by decide +kernel
theorem d_S_reach_8 : decode b_S_reach 8 = .ok (.checkcast 27, 3) := by decide +kernel
theorem d_S_reach_11 : decode b_S_reach 11 = .ok (.astore_n 2, 1) := by decide +kernel
theorem d_S_reach_12 : decode b_S_reach 12 = .ok (.aload_n 2, 1) := by decide +kernel
theorem d_S_reach_13 : decode b_S_reach 13 = .ok (.getfield 189, 3) := by decide +kernel
theorem d_S_reach_16 : decode b_S_reach 16 = .ok (.aload_n 0, 1) := by decide +kernel
theorem d_S_reach_17 : decode b_S_reach 17 = .ok (.getfield 172, 3) := by decide +kernel
theorem d_S_reach_20 : decode b_S_reach 20 = .ok (.if_icmp .eq 69, 3) := by decide +kernel
theorem d_S_reach_23 : decode b_S_reach 23 = .ok (.aload_n 0, 1) := by decide +kernel
theorem d_S_reach_24 : decode b_S_reach 24 = .ok (.getfield 175, 3) := by decide +kernel
theorem d_S_reach_27 : decode b_S_reach 27 = .ok (.aload_n 0, 1) := by decide +kernel
theorem d_S_reach_28 : decode b_S_reach 28 = .ok (.getfield 29, 3) := by decide +kernel
theorem d_S_reach_31 : decode b_S_reach 31 = .ok (.arraylength, 1) := by decide +kernel
theorem d_S_reach_32 : decode b_S_reach 32 = .ok (.if_icmp .ge 57, 3) := by decide +kernel
theorem d_S_reach_35 : decode b_S_reach 35 = .ok (.aload_n 2, 1) := by decide +kernel
theorem d_S_reach_36 : decode b_S_reach 36 = .ok (.aload_n 0, 1) := by decide +kernel
theorem d_S_reach_37 : decode b_S_reach 37 = .ok (.getfield 172, 3) := by decide +kernel
theorem d_S_reach_40 : decode b_S_reach 40 = .ok (.putfield 189, 3) := by decide +kernel
theorem d_S_reach_43 : decode b_S_reach 43 = .ok (.aload_n 0, 1) := by decide +kernel
theorem d_S_reach_44 : decode b_S_reach 44 = .ok (.getfield 29, 3) := by decide +kernel
theorem d_S_reach_47 : decode b_S_reach 47 = .ok (.aload_n 0, 1) := by decide +kernel
theorem d_S_reach_48 : decode b_S_reach 48 = .ok (.getfield 175, 3) := by decide +kernel
theorem d_S_reach_51 : decode b_S_reach 51 = .ok (.aload_n 2, 1) := by decide +kernel
theorem d_S_reach_52 : decode b_S_reach 52 = .ok (.aastore, 1) := by decide +kernel
theorem d_S_reach_53 : decode b_S_reach 53 = .ok (.aload_n 0, 1) := by decide +kernel
theorem d_S_reach_54 : decode b_S_reach 54 = .ok (.dup, 1) := by decide +kernel
theorem d_S_reach_55 : decode b_S_reach 55 = .ok (.getfield 175, 3) := by decide +kernel
theorem d_S_reach_58 : decode b_S_reach 58 = .ok (.iconst 1, 1) := by decide +kernel
theorem d_S_reach_59 : decode b_S_reach 59 = .ok (.iadd, 1) := by decide +kernel
theorem d_S_reach_60 : decode b_S_reach 60 = .ok (.putfield 175, 3) := by decide +kernel
theorem d_S_reach_63 : decode b_S_reach 63 = .ok (.aload_n 0, 1) := by decide +kernel
theorem d_S_reach_64 : decode b_S_reach 64 = .ok (.dup, 1) := by decide +kernel
theorem d_S_reach_65 : decode b_S_reach 65 = .ok (.getfield 161, 3) := by decide +kernel
theorem d_S_reach_68 : decode b_S_reach 68 = .ok (.aload_n 2, 1) := by decide +kernel
theorem d_S_reach_69 : decode b_S_reach 69 = .ok (.invokevirtual 190, 3) := by decide +kernel
theorem d_S_reach_72 : decode b_S_reach 72 = .ok (.isub, 1) := by decide +kernel
theorem d_S_reach_73 : decode b_S_reach 73 = .ok (.putfield 161, 3) := by decide +kernel
theorem d_S_reach_76 : decode b_S_reach 76 = .ok (.aload_n 0, 1) := by decide +kernel
theorem d_S_reach_77 : decode b_S_reach 77 = .ok (.dup, 1) := by decide +kernel
theorem d_S_reach_78 : decode b_S_reach 78 = .ok (.getfield 164, 3) := by decide +kernel
theorem d_S_reach_81 : decode b_S_reach 81 = .ok (.aload_n 2, 1) := by decide +kernel
theorem d_S_reach_82 : decode b_S_reach 82 = .ok (.invokevirtual 193, 3) := by decide +kernel
theorem d_S_reach_85 : decode b_S_reach 85 = .ok (.isub, 1) := by decide +kernel
theorem d_S_reach_86 : decode b_S_reach 86 = .ok (.putfield 164, 3) := by decide +kernel
theorem d_S_reach_89 : decode b_S_reach 89 = .ok (.return_, 1) := by decide +kernel
theorem d_B_init_0 : decode b_B_init 0 = .ok (.aload_n 0, 1) := by decide +kernel
theorem d_B_init_1 : decode b_B_init 1 = .ok (.iload_n 1, 1) := by decide +kernel
theorem d_B_init_2 : decode b_B_init 2 = .ok (.aconst_null, 1) := by decide +kernel
theorem d_B_init_3 : decode b_B_init 3 = .ok (.iconst 1, 1) := by decide +kernel
theorem d_B_init_4 : decode b_B_init 4 = .ok (.iconst 0, 1) := by decide +kernel
theorem d_B_init_5 : decode b_B_init 5 = .ok (.aload_n 2, 1) := by decide +kernel
theorem d_B_init_6 : decode b_B_init 6 = .ok (.getfield 3, 3) := by decide +kernel
theorem d_B_init_9 : decode b_B_init 9 = .ok (.getfield 9, 3) := by decide +kernel
theorem d_B_init_12 : decode b_B_init 12 = .ok (.invokespecial 15, 3) := by decide +kernel
theorem d_B_init_15 : decode b_B_init 15 = .ok (.aload_n 0, 1) := by decide +kernel
theorem d_B_init_16 : decode b_B_init 16 = .ok (.aload_n 2, 1) := by decide +kernel
theorem d_B_init_17 : decode b_B_init 17 = .ok (.putfield 21, 3) := by decide +kernel
theorem d_B_init_20 : decode b_B_init 20 = .ok (.aload_n 0, 1) := by decide +kernel
theorem d_B_init_21 : decode b_B_init 21 = .ok (.iload_n 3, 1) := by decide +kernel
theorem d_B_init_22 : decode b_B_init 22 = .ok (.putfield 27, 3) := by decide +kernel
theorem d_B_init_25 : decode b_B_init 25 = .ok (.return_, 1) := by decide +kernel
theorem d_B_kindCode_0 : decode b_B_kindCode 0 = .ok (.iconst 4, 1) := by decide +kernel
theorem d_B_kindCode_1 : decode b_B_kindCode 1 = .ok (.ireturn, 1) := by decide +kernel
theorem d_B_headFields_0 : decode b_B_headFields 0 = .ok (.bipush 6, 2) := by decide +kernel
theorem d_B_headFields_2 : decode b_B_headFields 2 = .ok (.ireturn, 1) := by decide +kernel
theorem d_B_floorNow_0 : decode b_B_floorNow 0 = .ok (.iconst 0, 1) := by decide +kernel
theorem d_B_floorNow_1 : decode b_B_floorNow 1 = .ok (.ireturn, 1) := by decide +kernel
theorem d_B_homeContext_0 : decode b_B_homeContext 0 = .ok (.aload_n 0, 1) := by decide +kernel
theorem d_B_homeContext_1 : decode b_B_homeContext 1 = .ok (.getfield 21, 3) := by decide +kernel
theorem d_B_homeContext_4 : decode b_B_homeContext 4 = .ok (.areturn, 1) := by decide +kernel
theorem d_B_origin_0 : decode b_B_origin 0 = .ok (.aload_n 0, 1) := by decide +kernel
theorem d_B_origin_1 : decode b_B_origin 1 = .ok (.getfield 21, 3) := by decide +kernel
theorem d_B_origin_4 : decode b_B_origin 4 = .ok (.areturn, 1) := by decide +kernel
theorem d_C_init_0 : decode b_C_init 0 = .ok (.aload_n 0, 1) := by decide +kernel
theorem d_C_init_1 : decode b_C_init 1 = .ok (.iload_n 1, 1) := by decide +kernel
theorem d_C_init_2 : decode b_C_init 2 = .ok (.invokespecial 3, 3) := by decide +kernel
theorem d_C_init_5 : decode b_C_init 5 = .ok (.aload_n 0, 1) := by decide +kernel
theorem d_C_init_6 : decode b_C_init 6 = .ok (.aload_n 2, 1) := by decide +kernel
theorem d_C_init_7 : decode b_C_init 7 = .ok (.putfield 9, 3) := by decide +kernel
theorem d_C_init_10 : decode b_C_init 10 = .ok (.aload_n 0, 1) := by decide +kernel
theorem d_C_init_11 : decode b_C_init 11 = .ok (.iload_n 3, 1) := by decide +kernel
theorem d_C_init_12 : decode b_C_init 12 = .ok (.putfield 15, 3) := by decide +kernel
theorem d_C_init_15 : decode b_C_init 15 = .ok (.aload_n 0, 1) := by decide +kernel
theorem d_C_init_16 : decode b_C_init 16 = .ok (.iload 4, 2) := by decide +kernel
theorem d_C_init_18 : decode b_C_init 18 = .ok (.putfield 19, 3) := by decide +kernel
theorem d_C_init_21 : decode b_C_init 21 = .ok (.aload_n 0, 1) := by decide +kernel
theorem d_C_init_22 : decode b_C_init 22 = .ok (.iload 5, 2) := by decide +kernel
theorem d_C_init_24 : decode b_C_init 24 = .ok (.anewarray 23, 3) := by decide +kernel
theorem d_C_init_27 : decode b_C_init 27 = .ok (.putfield 25, 3) := by decide +kernel
theorem d_C_init_30 : decode b_C_init 30 = .ok (.return_, 1) := by decide +kernel
theorem d_C_wordsTaken_0 : decode b_C_wordsTaken 0 = .ok (.iconst 4, 1) := by decide +kernel
theorem d_C_wordsTaken_1 : decode b_C_wordsTaken 1 = .ok (.aload_n 0, 1) := by decide +kernel
theorem d_C_wordsTaken_2 : decode b_C_wordsTaken 2 = .ok (.invokevirtual 29, 3) := by decide +kernel
theorem d_C_wordsTaken_5 : decode b_C_wordsTaken 5 = .ok (.iadd, 1) := by decide +kernel
theorem d_C_wordsTaken_6 : decode b_C_wordsTaken 6 = .ok (.aload_n 0, 1) := by decide +kernel
theorem d_C_wordsTaken_7 : decode b_C_wordsTaken 7 = .ok (.getfield 25, 3) := by decide +kernel
theorem d_C_wordsTaken_10 : decode b_C_wordsTaken 10 = .ok (.arraylength, 1) := by decide +kernel
theorem d_C_wordsTaken_11 : decode b_C_wordsTaken 11 = .ok (.iadd, 1) := by decide +kernel
theorem d_C_wordsTaken_12 : decode b_C_wordsTaken 12 = .ok (.ireturn, 1) := by decide +kernel
theorem d_C_entriesTaken_0 : decode b_C_entriesTaken 0 = .ok (.iconst 1, 1) := by decide +kernel
theorem d_C_entriesTaken_1 : decode b_C_entriesTaken 1 = .ok (.ireturn, 1) := by decide +kernel
theorem d_C_isFull_0 : decode b_C_isFull 0 = .ok (.aload_n 0, 1) := by decide +kernel
theorem d_C_isFull_1 : decode b_C_isFull 1 = .ok (.getfield 19, 3) := by decide +kernel
theorem d_C_isFull_4 : decode b_C_isFull 4 = .ok (.aload_n 0, 1) := by decide +kernel
theorem d_C_isFull_5 : decode b_C_isFull 5 = .ok (.getfield 25, 3) := by decide +kernel
theorem d_C_isFull_8 : decode b_C_isFull 8 = .ok (.arraylength, 1) := by decide +kernel
theorem d_C_isFull_9 : decode b_C_isFull 9 = .ok (.if_icmp .lt 7, 3) := by decide +kernel
theorem d_C_isFull_12 : decode b_C_isFull 12 = .ok (.iconst 1, 1) := by decide +kernel
theorem d_C_isFull_13 : decode b_C_isFull 13 = .ok (.goto 4, 3) := by decide +kernel
theorem d_C_isFull_16 : decode b_C_isFull 16 = .ok (.iconst 0, 1) := by decide +kernel
theorem d_C_isFull_17 : decode b_C_isFull 17 = .ok (.ireturn, 1) := by decide +kernel
theorem d_C_depthNow_0 : decode b_C_depthNow 0 = .ok (.aload_n 0, 1) := by decide +kernel
theorem d_C_depthNow_1 : decode b_C_depthNow 1 = .ok (.getfield 19, 3) := by decide +kernel
theorem d_C_depthNow_4 : decode b_C_depthNow 4 = .ok (.aload_n 0, 1) := by decide +kernel
theorem d_C_depthNow_5 : decode b_C_depthNow 5 = .ok (.invokevirtual 33, 3) := by decide +kernel
theorem d_C_depthNow_8 : decode b_C_depthNow 8 = .ok (.isub, 1) := by decide +kernel
theorem d_C_depthNow_9 : decode b_C_depthNow 9 = .ok (.ireturn, 1) := by decide +kernel
theorem d_C_hasField_0 : decode b_C_hasField 0 = .ok (.iload_n 1, 1) := by decide +kernel
theorem d_C_hasField_1 : decode b_C_hasField 1 = .ok (.ifCond .lt 16, 3) := by decide +kernel
theorem d_C_hasField_4 : decode b_C_hasField 4 = .ok (.iload_n 1, 1) := by decide +kernel
theorem d_C_hasField_5 : decode b_C_hasField 5 = .ok (.aload_n 0, 1) := by decide +kernel
theorem d_C_hasField_6 : decode b_C_hasField 6 = .ok (.getfield 25, 3) := by decide +kernel
theorem d_C_hasField_9 : decode b_C_hasField 9 = .ok (.arraylength, 1) := by decide +kernel
theorem d_C_hasField_10 : decode b_C_hasField 10 = .ok (.if_icmp .ge 7, 3) := by decide +kernel
theorem d_C_hasField_13 : decode b_C_hasField 13 = .ok (.iconst 1, 1) := by decide +kernel
theorem d_C_hasField_14 : decode b_C_hasField 14 = .ok (.goto 4, 3) := by decide +kernel
theorem d_C_hasField_17 : decode b_C_hasField 17 = .ok (.iconst 0, 1) := by decide +kernel
theorem d_C_hasField_18 : decode b_C_hasField 18 = .ok (.ireturn, 1) := by decide +kernel
theorem d_C_fieldAt_0 : decode b_C_fieldAt 0 = .ok (.aload_n 0, 1) := by decide +kernel
theorem d_C_fieldAt_1 : decode b_C_fieldAt 1 = .ok (.iload_n 1, 1) := by decide +kernel
theorem d_C_fieldAt_2 : decode b_C_fieldAt 2 = .ok (.invokevirtual 36, 3) := by decide +kernel
theorem d_C_fieldAt_5 : decode b_C_fieldAt 5 = .ok (.ifCond .eq 12, 3) := by decide +kernel
theorem d_C_fieldAt_8 : decode b_C_fieldAt 8 = .ok (.aload_n 0, 1) := by decide +kernel
theorem d_C_fieldAt_9 : decode b_C_fieldAt 9 = .ok (.getfield 25, 3) := by decide +kernel
theorem d_C_fieldAt_12 : decode b_C_fieldAt 12 = .ok (.iload_n 1, 1) := by decide +kernel
theorem d_C_fieldAt_13 : decode b_C_fieldAt 13 = .ok (.aaload, 1) := by decide +kernel
theorem d_C_fieldAt_14 : decode b_C_fieldAt 14 = .ok (.goto 4, 3) := by decide +kernel
theorem d_C_fieldAt_17 : decode b_C_fieldAt 17 = .ok (.aconst_null, 1) := by decide +kernel
theorem d_C_fieldAt_18 : decode b_C_fieldAt 18 = .ok (.areturn, 1) := by decide +kernel
theorem d_C_putField_0 : decode b_C_putField 0 = .ok (.aload_n 0, 1) := by decide +kernel
theorem d_C_putField_1 : decode b_C_putField 1 = .ok (.iload_n 1, 1) := by decide +kernel
theorem d_C_putField_2 : decode b_C_putField 2 = .ok (.invokevirtual 36, 3) := by decide +kernel
theorem d_C_putField_5 : decode b_C_putField 5 = .ok (.ifCond .eq 10, 3) := by decide +kernel
theorem d_C_putField_8 : decode b_C_putField 8 = .ok (.aload_n 0, 1) := by decide +kernel
theorem d_C_putField_9 : decode b_C_putField 9 = .ok (.getfield 25, 3) := by decide +kernel
theorem d_C_putField_12 : decode b_C_putField 12 = .ok (.iload_n 1, 1) := by decide +kernel
theorem d_C_putField_13 : decode b_C_putField 13 = .ok (.aload_n 2, 1) := by decide +kernel
theorem d_C_putField_14 : decode b_C_putField 14 = .ok (.aastore, 1) := by decide +kernel
theorem d_C_putField_15 : decode b_C_putField 15 = .ok (.return_, 1) := by decide +kernel
theorem d_C_pushOne_0 : decode b_C_pushOne 0 = .ok (.aload_n 0, 1) := by decide +kernel
theorem d_C_pushOne_1 : decode b_C_pushOne 1 = .ok (.aload_n 0, 1) := by decide +kernel
theorem d_C_pushOne_2 : decode b_C_pushOne 2 = .ok (.getfield 19, 3) := by decide +kernel
theorem d_C_pushOne_5 : decode b_C_pushOne 5 = .ok (.aload_n 1, 1) := by decide +kernel
theorem d_C_pushOne_6 : decode b_C_pushOne 6 = .ok (.invokevirtual 40, 3) := by decide +kernel
theorem d_C_pushOne_9 : decode b_C_pushOne 9 = .ok (.aload_n 0, 1) := by decide +kernel
theorem d_C_pushOne_10 : decode b_C_pushOne 10 = .ok (.dup, 1) := by decide +kernel
theorem d_C_pushOne_11 : decode b_C_pushOne 11 = .ok (.getfield 19, 3) := by decide +kernel
theorem d_C_pushOne_14 : decode b_C_pushOne 14 = .ok (.iconst 1, 1) := by decide +kernel
theorem d_C_pushOne_15 : decode b_C_pushOne 15 = .ok (.iadd, 1) := by decide +kernel
theorem d_C_pushOne_16 : decode b_C_pushOne 16 = .ok (.putfield 19, 3) := by decide +kernel
theorem d_C_pushOne_19 : decode b_C_pushOne 19 = .ok (.return_, 1) := by decide +kernel
theorem d_C_popOne_0 : decode b_C_popOne 0 = .ok (.aload_n 0, 1) := by decide +kernel
theorem d_C_popOne_1 : decode b_C_popOne 1 = .ok (.dup, 1) := by decide +kernel
theorem d_C_popOne_2 : decode b_C_popOne 2 = .ok (.getfield 19, 3) := by decide +kernel
theorem d_C_popOne_5 : decode b_C_popOne 5 = .ok (.iconst 1, 1) := by decide +kernel
theorem d_C_popOne_6 : decode b_C_popOne 6 = .ok (.isub, 1) := by decide +kernel
theorem d_C_popOne_7 : decode b_C_popOne 7 = .ok (.putfield 19, 3) := by decide +kernel
theorem d_C_popOne_10 : decode b_C_popOne 10 = .ok (.aload_n 0, 1) := by decide +kernel
theorem d_C_popOne_11 : decode b_C_popOne 11 = .ok (.aload_n 0, 1) := by decide +kernel
theorem d_C_popOne_12 : decode b_C_popOne 12 = .ok (.getfield 19, 3) := by decide +kernel
theorem d_C_popOne_15 : decode b_C_popOne 15 = .ok (.invokevirtual 44, 3) := by decide +kernel
theorem d_C_popOne_18 : decode b_C_popOne 18 = .ok (.astore_n 1, 1) := by decide +kernel
theorem d_C_popOne_19 : decode b_C_popOne 19 = .ok (.aload_n 0, 1) := by decide +kernel
theorem d_C_popOne_20 : decode b_C_popOne 20 = .ok (.aload_n 0, 1) := by decide +kernel
theorem d_C_popOne_21 : decode b_C_popOne 21 = .ok (.getfield 19, 3) := by decide +kernel
theorem d_C_popOne_24 : decode b_C_popOne 24 = .ok (.aconst_null, 1) := by decide +kernel
theorem d_C_popOne_25 : decode b_C_popOne 25 = .ok (.invokevirtual 40, 3) := by decide +kernel
theorem d_C_popOne_28 : decode b_C_popOne 28 = .ok (.aload_n 1, 1) := by decide +kernel
theorem d_C_popOne_29 : decode b_C_popOne 29 = .ok (.areturn, 1) := by decide +kernel
theorem d_M_init_0 : decode b_M_init 0 = .ok (.aload_n 0, 1) := by decide +kernel
theorem d_M_init_1 : decode b_M_init 1 = .ok (.iload_n 1, 1) := by decide +kernel
theorem d_M_init_2 : decode b_M_init 2 = .ok (.invokespecial 3, 3) := by decide +kernel
theorem d_M_init_5 : decode b_M_init 5 = .ok (.aload_n 0, 1) := by decide +kernel
theorem d_M_init_6 : decode b_M_init 6 = .ok (.iload_n 2, 1) := by decide +kernel
theorem d_M_init_7 : decode b_M_init 7 = .ok (.putfield 9, 3) := by decide +kernel
theorem d_M_init_10 : decode b_M_init 10 = .ok (.aload_n 0, 1) := by decide +kernel
theorem d_M_init_11 : decode b_M_init 11 = .ok (.iload_n 3, 1) := by decide +kernel
theorem d_M_init_12 : decode b_M_init 12 = .ok (.putfield 15, 3) := by decide +kernel
theorem d_M_init_15 : decode b_M_init 15 = .ok (.return_, 1) := by decide +kernel
theorem d_M_setNumbers_0 : decode b_M_setNumbers 0 = .ok (.aload_n 0, 1) := by decide +kernel
theorem d_M_setNumbers_1 : decode b_M_setNumbers 1 = .ok (.iload_n 1, 1) := by decide +kernel
theorem d_M_setNumbers_2 : decode b_M_setNumbers 2 = .ok (.putfield 9, 3) := by decide +kernel
theorem d_M_setNumbers_5 : decode b_M_setNumbers 5 = .ok (.aload_n 0, 1) := by decide +kernel
theorem d_M_setNumbers_6 : decode b_M_setNumbers 6 = .ok (.iload_n 2, 1) := by decide +kernel
theorem d_M_setNumbers_7 : decode b_M_setNumbers 7 = .ok (.putfield 15, 3) := by decide +kernel
theorem d_M_setNumbers_10 : decode b_M_setNumbers 10 = .ok (.return_, 1) := by decide +kernel
theorem d_M_kindCode_0 : decode b_M_kindCode 0 = .ok (.iconst 2, 1) := by decide +kernel
theorem d_M_kindCode_1 : decode b_M_kindCode 1 = .ok (.ireturn, 1) := by decide +kernel
theorem d_M_wordsTaken_0 : decode b_M_wordsTaken 0 = .ok (.bipush 10, 2) := by decide +kernel
theorem d_M_wordsTaken_2 : decode b_M_wordsTaken 2 = .ok (.ireturn, 1) := by decide +kernel
theorem d_M_entriesTaken_0 : decode b_M_entriesTaken 0 = .ok (.iconst 2, 1) := by decide +kernel
theorem d_M_entriesTaken_1 : decode b_M_entriesTaken 1 = .ok (.ireturn, 1) := by decide +kernel
theorem d_X_init_0 : decode b_X_init 0 = .ok (.aload_n 0, 1) := by decide +kernel
theorem d_X_init_1 : decode b_X_init 1 = .ok (.iload_n 1, 1) := by decide +kernel
theorem d_X_init_2 : decode b_X_init 2 = .ok (.aload_n 3, 1) := by decide +kernel
theorem d_X_init_3 : decode b_X_init 3 = .ok (.iconst 0, 1) := by decide +kernel
theorem d_X_init_4 : decode b_X_init 4 = .ok (.aload_n 2, 1) := by decide +kernel
theorem d_X_init_5 : decode b_X_init 5 = .ok (.getfield 3, 3) := by decide +kernel
theorem d_X_init_8 : decode b_X_init 8 = .ok (.aload_n 2, 1) := by decide +kernel
theorem d_X_init_9 : decode b_X_init 9 = .ok (.getfield 3, 3) := by decide +kernel
theorem d_X_init_12 : decode b_X_init 12 = .ok (.aload_n 2, 1) := by decide +kernel
theorem d_X_init_13 : decode b_X_init 13 = .ok (.getfield 9, 3) := by decide +kernel
theorem d_X_init_16 : decode b_X_init 16 = .ok (.iadd, 1) := by decide +kernel
theorem d_X_init_17 : decode b_X_init 17 = .ok (.invokespecial 12, 3) := by decide +kernel
theorem d_X_init_20 : decode b_X_init 20 = .ok (.aload_n 0, 1) := by decide +kernel
theorem d_X_init_21 : decode b_X_init 21 = .ok (.aload_n 2, 1) := by decide +kernel
theorem d_X_init_22 : decode b_X_init 22 = .ok (.putfield 18, 3) := by decide +kernel
theorem d_X_init_25 : decode b_X_init 25 = .ok (.return_, 1) := by decide +kernel
theorem d_X_hasTemporary_0 : decode b_X_hasTemporary 0 = .ok (.iload_n 1, 1) := by decide +kernel
theorem d_X_hasTemporary_1 : decode b_X_hasTemporary 1 = .ok (.aload_n 0, 1) := by decide +kernel
theorem d_X_hasTemporary_2 : decode b_X_hasTemporary 2 = .ok (.getfield 18, 3) := by decide +kernel
theorem d_X_hasTemporary_5 : decode b_X_hasTemporary 5 = .ok (.getfield 3, 3) := by decide +kernel
theorem d_X_hasTemporary_8 : decode b_X_hasTemporary 8 = .ok (.if_icmp .ge 15, 3) := by decide +kernel
theorem d_X_hasTemporary_11 : decode b_X_hasTemporary 11 = .ok (.aload_n 0, 1) := by decide +kernel
theorem d_X_hasTemporary_12 : decode b_X_hasTemporary 12 = .ok (.iload_n 1, 1) := by decide +kernel
theorem d_X_hasTemporary_13 : decode b_X_hasTemporary 13 = .ok (.invokevirtual 24, 3) := by decide +kernel
theorem d_X_hasTemporary_16 : decode b_X_hasTemporary 16 = .ok (.ifCond .eq 7, 3) := by decide +kernel
theorem d_X_hasTemporary_19 : decode b_X_hasTemporary 19 = .ok (.iconst 1, 1) := by decide +kernel
theorem d_X_hasTemporary_20 : decode b_X_hasTemporary 20 = .ok (.goto 4, 3) := by decide +kernel
theorem d_X_hasTemporary_23 : decode b_X_hasTemporary 23 = .ok (.iconst 0, 1) := by decide +kernel
theorem d_X_hasTemporary_24 : decode b_X_hasTemporary 24 = .ok (.ireturn, 1) := by decide +kernel
theorem d_X_kindCode_0 : decode b_X_kindCode 0 = .ok (.iconst 3, 1) := by decide +kernel
theorem d_X_kindCode_1 : decode b_X_kindCode 1 = .ok (.ireturn, 1) := by decide +kernel
theorem d_X_headFields_0 : decode b_X_headFields 0 = .ok (.iconst 5, 1) := by decide +kernel
theorem d_X_headFields_1 : decode b_X_headFields 1 = .ok (.ireturn, 1) := by decide +kernel
theorem d_X_floorNow_0 : decode b_X_floorNow 0 = .ok (.aload_n 0, 1) := by decide +kernel
theorem d_X_floorNow_1 : decode b_X_floorNow 1 = .ok (.getfield 18, 3) := by decide +kernel
theorem d_X_floorNow_4 : decode b_X_floorNow 4 = .ok (.getfield 3, 3) := by decide +kernel
theorem d_X_floorNow_7 : decode b_X_floorNow 7 = .ok (.ireturn, 1) := by decide +kernel
theorem d_X_homeContext_0 : decode b_X_homeContext 0 = .ok (.aload_n 0, 1) := by decide +kernel
theorem d_X_homeContext_1 : decode b_X_homeContext 1 = .ok (.areturn, 1) := by decide +kernel
theorem d_X_origin_0 : decode b_X_origin 0 = .ok (.aload_n 0, 1) := by decide +kernel
theorem d_X_origin_1 : decode b_X_origin 1 = .ok (.getfield 18, 3) := by decide +kernel
theorem d_X_origin_4 : decode b_X_origin 4 = .ok (.areturn, 1) := by decide +kernel
theorem d_T_init_0 : decode b_T_init 0 = .ok (.aload_n 0, 1) := by decide +kernel
theorem d_T_init_1 : decode b_T_init 1 = .ok (.invokespecial 1, 3) := by decide +kernel
theorem d_T_init_4 : decode b_T_init 4 = .ok (.aload_n 0, 1) := by decide +kernel
theorem d_T_init_5 : decode b_T_init 5 = .ok (.iload_n 1, 1) := by decide +kernel
theorem d_T_init_6 : decode b_T_init 6 = .ok (.putfield 7, 3) := by decide +kernel
theorem d_T_init_9 : decode b_T_init 9 = .ok (.return_, 1) := by decide +kernel
theorem d_T_shown_0 : decode b_T_shown 0 = .ok (.aload_n 0, 1) := by decide +kernel
theorem d_T_shown_1 : decode b_T_shown 1 = .ok (.getfield 7, 3) := by decide +kernel
theorem d_T_shown_4 : decode b_T_shown 4 = .ok (.ireturn, 1) := by decide +kernel
theorem d_V_init_0 : decode b_V_init 0 = .ok (.aload_n 0, 1) := by decide +kernel
theorem d_V_init_1 : decode b_V_init 1 = .ok (.invokespecial 1, 3) := by decide +kernel
theorem d_V_init_4 : decode b_V_init 4 = .ok (.return_, 1) := by decide +kernel
theorem d_W_init_0 : decode b_W_init 0 = .ok (.aload_n 0, 1) := by decide +kernel
theorem d_W_init_1 : decode b_W_init 1 = .ok (.invokespecial 3, 3) := by decide +kernel
theorem d_W_init_4 : decode b_W_init 4 = .ok (.aload_n 0, 1) := by decide +kernel
theorem d_W_init_5 : decode b_W_init 5 = .ok (.iload_n 1, 1) := by decide +kernel
theorem d_W_init_6 : decode b_W_init 6 = .ok (.putfield 9, 3) := by decide +kernel
theorem d_W_init_9 : decode b_W_init 9 = .ok (.return_, 1) := by decide +kernel
theorem d_W_kindCode_0 : decode b_W_kindCode 0 = .ok (.iconst 1, 1) := by decide +kernel
theorem d_W_kindCode_1 : decode b_W_kindCode 1 = .ok (.ireturn, 1) := by decide +kernel
theorem d_W_shown_0 : decode b_W_shown 0 = .ok (.aload_n 0, 1) := by decide +kernel
theorem d_W_shown_1 : decode b_W_shown 1 = .ok (.getfield 9, 3) := by decide +kernel
theorem d_W_shown_4 : decode b_W_shown 4 = .ok (.ireturn, 1) := by decide +kernel
end
section
theorem d_R_init_0 : decode b_R_init 0 = .ok (.aload_n 0, 1) := by decide +kernel
theorem d_R_init_1 : decode b_R_init 1 = .ok (.invokespecial 1, 3) := by decide +kernel
theorem d_R_init_4 : decode b_R_init 4 = .ok (.aload_n 0, 1) := by decide +kernel
theorem d_R_init_5 : decode b_R_init 5 = .ok (.iconst 2, 1) := by decide +kernel
theorem d_R_init_6 : decode b_R_init 6 = .ok (.putfield 7, 3) := by decide +kernel
theorem d_R_init_9 : decode b_R_init 9 = .ok (.aload_n 0, 1) := by decide +kernel
theorem d_R_init_10 : decode b_R_init 10 = .ok (.bipush 16, 2) := by decide +kernel
theorem d_R_init_12 : decode b_R_init 12 = .ok (.newarray .int, 2) := by decide +kernel
theorem d_R_init_14 : decode b_R_init 14 = .ok (.putfield 13, 3) := by decide +kernel
theorem d_R_init_17 : decode b_R_init 17 = .ok (.aload_n 0, 1) := by decide +kernel
theorem d_R_init_18 : decode b_R_init 18 = .ok (.sipush 4096, 3) := by decide +kernel
theorem d_R_init_21 : decode b_R_init 21 = .ok (.newarray .byte, 2) := by decide +kernel
theorem d_R_init_23 : decode b_R_init 23 = .ok (.putfield 17, 3) := by decide +kernel
theorem d_R_init_26 : decode b_R_init 26 = .ok (.aload_n 0, 1) := by decide +kernel
theorem d_R_init_27 : decode b_R_init 27 = .ok (.sipush 4096, 3) := by decide +kernel
theorem d_R_init_30 : decode b_R_init 30 = .ok (.newarray .int, 2) := by decide +kernel
theorem d_R_init_32 : decode b_R_init 32 = .ok (.putfield 21, 3) := by decide +kernel
theorem d_R_init_35 : decode b_R_init 35 = .ok (.aload_n 0, 1) := by decide +kernel
theorem d_R_init_36 : decode b_R_init 36 = .ok (.sipush 4096, 3) := by decide +kernel
theorem d_R_init_39 : decode b_R_init 39 = .ok (.newarray .int, 2) := by decide +kernel
theorem d_R_init_41 : decode b_R_init 41 = .ok (.putfield 24, 3) := by decide +kernel
theorem d_R_init_44 : decode b_R_init 44 = .ok (.aload_n 0, 1) := by decide +kernel
theorem d_R_init_45 : decode b_R_init 45 = .ok (.sipush 4096, 3) := by decide +kernel
theorem d_R_init_48 : decode b_R_init 48 = .ok (.newarray .int, 2) := by decide +kernel
theorem d_R_init_50 : decode b_R_init 50 = .ok (.putfield 27, 3) := by decide +kernel
theorem d_R_init_53 : decode b_R_init 53 = .ok (.aload_n 0, 1) := by decide +kernel
theorem d_R_init_54 : decode b_R_init 54 = .ok (.sipush 4096, 3) := by decide +kernel
theorem d_R_init_57 : decode b_R_init 57 = .ok (.newarray .int, 2) := by decide +kernel
theorem d_R_init_59 : decode b_R_init 59 = .ok (.putfield 30, 3) := by decide +kernel
theorem d_R_init_62 : decode b_R_init 62 = .ok (.aload_n 0, 1) := by decide +kernel
theorem d_R_init_63 : decode b_R_init 63 = .ok (.sipush 4096, 3) := by decide +kernel
theorem d_R_init_66 : decode b_R_init 66 = .ok (.newarray .int, 2) := by decide +kernel
theorem d_R_init_68 : decode b_R_init 68 = .ok (.putfield 33, 3) := by decide +kernel
theorem d_R_init_71 : decode b_R_init 71 = .ok (.aload_n 0, 1) := by decide +kernel
theorem d_R_init_72 : decode b_R_init 72 = .ok (.sipush 4096, 3) := by decide +kernel
theorem d_R_init_75 : decode b_R_init 75 = .ok (.newarray .boolean, 2) := by decide +kernel
theorem d_R_init_77 : decode b_R_init 77 = .ok (.putfield 36, 3) := by decide +kernel
theorem d_R_init_80 : decode b_R_init 80 = .ok (.aload_n 0, 1) := by decide +kernel
theorem d_R_init_81 : decode b_R_init 81 = .ok (.sipush 4096, 3) := by decide +kernel
theorem d_R_init_84 : decode b_R_init 84 = .ok (.newarray .int, 2) := by decide +kernel
theorem d_R_init_86 : decode b_R_init 86 = .ok (.putfield 40, 3) := by decide +kernel
theorem d_R_init_89 : decode b_R_init 89 = .ok (.aload_n 0, 1) := by decide +kernel
theorem d_R_init_90 : decode b_R_init 90 = .ok (.sipush 4096, 3) := by decide +kernel
theorem d_R_init_93 : decode b_R_init 93 = .ok (.newarray .int, 2) := by decide +kernel
theorem d_R_init_95 : decode b_R_init 95 = .ok (.putfield 43, 3) := by decide +kernel
theorem d_R_init_98 : decode b_R_init 98 = .ok (.aload_n 0, 1) := by decide +kernel
theorem d_R_init_99 : decode b_R_init 99 = .ok (.sipush 4096, 3) := by decide +kernel
theorem d_R_init_102 : decode b_R_init 102 = .ok (.newarray .int, 2) := by decide +kernel
theorem d_R_init_104 : decode b_R_init 104 = .ok (.putfield 46, 3) := by decide +kernel
theorem d_R_init_107 : decode b_R_init 107 = .ok (.aload_n 0, 1) := by decide +kernel
theorem d_R_init_108 : decode b_R_init 108 = .ok (.sipush 4096, 3) := by decide +kernel
theorem d_R_init_111 : decode b_R_init 111 = .ok (.newarray .int, 2) := by decide +kernel
theorem d_R_init_113 : decode b_R_init 113 = .ok (.putfield 49, 3) := by decide +kernel
theorem d_R_init_116 : decode b_R_init 116 = .ok (.aload_n 0, 1) := by decide +kernel
theorem d_R_init_117 : decode b_R_init 117 = .ok (.sipush 4096, 3) := by decide +kernel
theorem d_R_init_120 : decode b_R_init 120 = .ok (.newarray .int, 2) := by decide +kernel
theorem d_R_init_122 : decode b_R_init 122 = .ok (.putfield 52, 3) := by decide +kernel
theorem d_R_init_125 : decode b_R_init 125 = .ok (.aload_n 0, 1) := by decide +kernel
theorem d_R_init_126 : decode b_R_init 126 = .ok (.ldc 55, 2) := by decide +kernel
theorem d_R_init_128 : decode b_R_init 128 = .ok (.newarray .int, 2) := by decide +kernel
theorem d_R_init_130 : decode b_R_init 130 = .ok (.putfield 56, 3) := by decide +kernel
theorem d_R_init_133 : decode b_R_init 133 = .ok (.aload_n 0, 1) := by decide +kernel
theorem d_R_init_134 : decode b_R_init 134 = .ok (.ldc 55, 2) := by decide +kernel
theorem d_R_init_136 : decode b_R_init 136 = .ok (.newarray .int, 2) := by decide +kernel
theorem d_R_init_138 : decode b_R_init 138 = .ok (.putfield 59, 3) := by decide +kernel
theorem d_R_init_141 : decode b_R_init 141 = .ok (.aload_n 0, 1) := by decide +kernel
theorem d_R_init_142 : decode b_R_init 142 = .ok (.sipush 4096, 3) := by decide +kernel
theorem d_R_init_145 : decode b_R_init 145 = .ok (.newarray .boolean, 2) := by decide +kernel
theorem d_R_init_147 : decode b_R_init 147 = .ok (.putfield 62, 3) := by decide +kernel
theorem d_R_init_150 : decode b_R_init 150 = .ok (.aload_n 0, 1) := by decide +kernel
theorem d_R_init_151 : decode b_R_init 151 = .ok (.sipush 4096, 3) := by decide +kernel
theorem d_R_init_154 : decode b_R_init 154 = .ok (.newarray .int, 2) := by decide +kernel
theorem d_R_init_156 : decode b_R_init 156 = .ok (.putfield 65, 3) := by decide +kernel
theorem d_R_init_159 : decode b_R_init 159 = .ok (.aload_n 0, 1) := by decide +kernel
theorem d_R_init_160 : decode b_R_init 160 = .ok (.iload_n 1, 1) := by decide +kernel
theorem d_R_init_161 : decode b_R_init 161 = .ok (.sipush 128, 3) := by decide +kernel
theorem d_R_init_164 : decode b_R_init 164 = .ok (.if_icmp .lt 13, 3) := by decide +kernel
theorem d_R_init_167 : decode b_R_init 167 = .ok (.iload_n 1, 1) := by decide +kernel
theorem d_R_init_168 : decode b_R_init 168 = .ok (.ldc 55, 2) := by decide +kernel
theorem d_R_init_170 : decode b_R_init 170 = .ok (.if_icmp .gt 7, 3) := by decide +kernel
theorem d_R_init_173 : decode b_R_init 173 = .ok (.iload_n 1, 1) := by decide +kernel
theorem d_R_init_174 : decode b_R_init 174 = .ok (.goto 5, 3) := by decide +kernel
theorem d_R_init_177 : decode b_R_init 177 = .ok (.ldc 55, 2) := by decide +kernel
theorem d_R_init_179 : decode b_R_init 179 = .ok (.putfield 68, 3) := by decide +kernel
theorem d_R_init_182 : decode b_R_init 182 = .ok (.aload_n 0, 1) := by decide +kernel
theorem d_R_init_183 : decode b_R_init 183 = .ok (.iload_n 2, 1) := by decide +kernel
theorem d_R_init_184 : decode b_R_init 184 = .ok (.bipush 16, 2) := by decide +kernel
theorem d_R_init_186 : decode b_R_init 186 = .ok (.if_icmp .lt 14, 3) := by decide +kernel
theorem d_R_init_189 : decode b_R_init 189 = .ok (.iload_n 2, 1) := by decide +kernel
theorem d_R_init_190 : decode b_R_init 190 = .ok (.sipush 4096, 3) := by decide +kernel
theorem d_R_init_193 : decode b_R_init 193 = .ok (.if_icmp .gt 7, 3) := by decide +kernel
theorem d_R_init_196 : decode b_R_init 196 = .ok (.iload_n 2, 1) := by decide +kernel
theorem d_R_init_197 : decode b_R_init 197 = .ok (.goto 6, 3) := by decide +kernel
theorem d_R_init_200 : decode b_R_init 200 = .ok (.sipush 4096, 3) := by decide +kernel
theorem d_R_init_203 : decode b_R_init 203 = .ok (.putfield 71, 3) := by decide +kernel
theorem d_R_init_206 : decode b_R_init 206 = .ok (.return_, 1) := by decide +kernel
theorem d_R_isRegister_0 : decode b_R_isRegister 0 = .ok (.iload_n 0, 1) := by decide +kernel
theorem d_R_isRegister_1 : decode b_R_isRegister 1 = .ok (.ifCond .lt 13, 3) := by decide +kernel
theorem d_R_isRegister_4 : decode b_R_isRegister 4 = .ok (.iload_n 0, 1) := by decide +kernel
theorem d_R_isRegister_5 : decode b_R_isRegister 5 = .ok (.bipush 16, 2) := by decide +kernel
theorem d_R_isRegister_7 : decode b_R_isRegister 7 = .ok (.if_icmp .ge 7, 3) := by decide +kernel
theorem d_R_isRegister_10 : decode b_R_isRegister 10 = .ok (.iconst 1, 1) := by decide +kernel
theorem d_R_isRegister_11 : decode b_R_isRegister 11 = .ok (.goto 4, 3) := by decide +kernel
theorem d_R_isRegister_14 : decode b_R_isRegister 14 = .ok (.iconst 0, 1) := by decide +kernel
theorem d_R_isRegister_15 : decode b_R_isRegister 15 = .ok (.ireturn, 1) := by decide +kernel
theorem d_R_isNumber_0 : decode b_R_isNumber 0 = .ok (.iload_n 0, 1) := by decide +kernel
theorem d_R_isNumber_1 : decode b_R_isNumber 1 = .ok (.ldc 74, 2) := by decide +kernel
theorem d_R_isNumber_3 : decode b_R_isNumber 3 = .ok (.if_icmp .lt 13, 3) := by decide +kernel
theorem d_R_isNumber_6 : decode b_R_isNumber 6 = .ok (.iload_n 0, 1) := by decide +kernel
theorem d_R_isNumber_7 : decode b_R_isNumber 7 = .ok (.ldc 75, 2) := by decide +kernel
theorem d_R_isNumber_9 : decode b_R_isNumber 9 = .ok (.if_icmp .gt 7, 3) := by decide +kernel
theorem d_R_isNumber_12 : decode b_R_isNumber 12 = .ok (.iconst 1, 1) := by decide +kernel
theorem d_R_isNumber_13 : decode b_R_isNumber 13 = .ok (.goto 4, 3) := by decide +kernel
theorem d_R_isNumber_16 : decode b_R_isNumber 16 = .ok (.iconst 0, 1) := by decide +kernel
theorem d_R_isNumber_17 : decode b_R_isNumber 17 = .ok (.ireturn, 1) := by decide +kernel
theorem d_R_numeral_0 : decode b_R_numeral 0 = .ok (.iconst 2, 1) := by decide +kernel
theorem d_R_numeral_1 : decode b_R_numeral 1 = .ok (.iload_n 0, 1) := by decide +kernel
theorem d_R_numeral_2 : decode b_R_numeral 2 = .ok (.imul, 1) := by decide +kernel
theorem d_R_numeral_3 : decode b_R_numeral 3 = .ok (.iconst 1, 1) := by decide +kernel
theorem d_R_numeral_4 : decode b_R_numeral 4 = .ok (.iadd, 1) := by decide +kernel
theorem d_R_numeral_5 : decode b_R_numeral 5 = .ok (.ireturn, 1) := by decide +kernel
theorem d_R_isObject_0 : decode b_R_isObject 0 = .ok (.iload_n 0, 1) := by decide +kernel
theorem d_R_isObject_1 : decode b_R_isObject 1 = .ok (.ifCond .eq 13, 3) := by decide +kernel
theorem d_R_isObject_4 : decode b_R_isObject 4 = .ok (.iload_n 0, 1) := by decide +kernel
theorem d_R_isObject_5 : decode b_R_isObject 5 = .ok (.iconst 2, 1) := by decide +kernel
theorem d_R_isObject_6 : decode b_R_isObject 6 = .ok (.irem, 1) := by decide +kernel
theorem d_R_isObject_7 : decode b_R_isObject 7 = .ok (.ifCond .ne 7, 3) := by decide +kernel
theorem d_R_isObject_10 : decode b_R_isObject 10 = .ok (.iconst 1, 1) := by decide +kernel
theorem d_R_isObject_11 : decode b_R_isObject 11 = .ok (.goto 4, 3) := by decide +kernel
theorem d_R_isObject_14 : decode b_R_isObject 14 = .ok (.iconst 0, 1) := by decide +kernel
theorem d_R_isObject_15 : decode b_R_isObject 15 = .ok (.ireturn, 1) := by decide +kernel
theorem d_R_objectIn_0 : decode b_R_objectIn 0 = .ok (.iload_n 1, 1) := by decide +kernel
theorem d_R_objectIn_1 : decode b_R_objectIn 1 = .ok (.invokestatic 76, 3) := by decide +kernel
theorem d_R_objectIn_4 : decode b_R_objectIn 4 = .ok (.ifCond .eq 15, 3) := by decide +kernel
theorem d_R_objectIn_7 : decode b_R_objectIn 7 = .ok (.aload_n 0, 1) := by decide +kernel
theorem d_R_objectIn_8 : decode b_R_objectIn 8 = .ok (.getfield 13, 3) := by decide +kernel
theorem d_R_objectIn_11 : decode b_R_objectIn 11 = .ok (.iload_n 1, 1) := by decide +kernel
theorem d_R_objectIn_12 : decode b_R_objectIn 12 = .ok (.iaload, 1) := by decide +kernel
theorem d_R_objectIn_13 : decode b_R_objectIn 13 = .ok (.invokestatic 80, 3) := by decide +kernel
theorem d_R_objectIn_16 : decode b_R_objectIn 16 = .ok (.ifCond .ne 5, 3) := by decide +kernel
theorem d_R_objectIn_19 : decode b_R_objectIn 19 = .ok (.iconst (-1), 1) := by decide +kernel
theorem d_R_objectIn_20 : decode b_R_objectIn 20 = .ok (.ireturn, 1) := by decide +kernel
theorem d_R_objectIn_21 : decode b_R_objectIn 21 = .ok (.aload_n 0, 1) := by decide +kernel
theorem d_R_objectIn_22 : decode b_R_objectIn 22 = .ok (.getfield 13, 3) := by decide +kernel
theorem d_R_objectIn_25 : decode b_R_objectIn 25 = .ok (.iload_n 1, 1) := by decide +kernel
theorem d_R_objectIn_26 : decode b_R_objectIn 26 = .ok (.iaload, 1) := by decide +kernel
theorem d_R_objectIn_27 : decode b_R_objectIn 27 = .ok (.iconst 2, 1) := by decide +kernel
theorem d_R_objectIn_28 : decode b_R_objectIn 28 = .ok (.idiv, 1) := by decide +kernel
theorem d_R_objectIn_29 : decode b_R_objectIn 29 = .ok (.iconst 1, 1) := by decide +kernel
theorem d_R_objectIn_30 : decode b_R_objectIn 30 = .ok (.isub, 1) := by decide +kernel
theorem d_R_objectIn_31 : decode b_R_objectIn 31 = .ok (.istore 4, 2) := by decide +kernel
theorem d_R_objectIn_33 : decode b_R_objectIn 33 = .ok (.aload_n 0, 1) := by decide +kernel
theorem d_R_objectIn_34 : decode b_R_objectIn 34 = .ok (.getfield 17, 3) := by decide +kernel
theorem d_R_objectIn_37 : decode b_R_objectIn 37 = .ok (.iload 4, 2) := by decide +kernel
theorem d_R_objectIn_39 : decode b_R_objectIn 39 = .ok (.baload, 1) := by decide +kernel
theorem d_R_objectIn_40 : decode b_R_objectIn 40 = .ok (.iload_n 2, 1) := by decide +kernel
theorem d_R_objectIn_41 : decode b_R_objectIn 41 = .ok (.if_icmp .lt 19, 3) := by decide +kernel
theorem d_R_objectIn_44 : decode b_R_objectIn 44 = .ok (.aload_n 0, 1) := by decide +kernel
theorem d_R_objectIn_45 : decode b_R_objectIn 45 = .ok (.getfield 17, 3) := by decide +kernel
theorem d_R_objectIn_48 : decode b_R_objectIn 48 = .ok (.iload 4, 2) := by decide +kernel
theorem d_R_objectIn_50 : decode b_R_objectIn 50 = .ok (.baload, 1) := by decide +kernel
theorem d_R_objectIn_51 : decode b_R_objectIn 51 = .ok (.iload_n 3, 1) := by decide +kernel
theorem d_R_objectIn_52 : decode b_R_objectIn 52 = .ok (.if_icmp .gt 8, 3) := by decide +kernel
theorem d_R_objectIn_55 : decode b_R_objectIn 55 = .ok (.iload 4, 2) := by decide +kernel
theorem d_R_objectIn_57 : decode b_R_objectIn 57 = .ok (.goto 4, 3) := by decide +kernel
theorem d_R_objectIn_60 : decode b_R_objectIn 60 = .ok (.iconst (-1), 1) := by decide +kernel
theorem d_R_objectIn_61 : decode b_R_objectIn 61 = .ok (.ireturn, 1) := by decide +kernel
theorem d_R_contextIn_0 : decode b_R_contextIn 0 = .ok (.aload_n 0, 1) := by decide +kernel
theorem d_R_contextIn_1 : decode b_R_contextIn 1 = .ok (.iload_n 1, 1) := by decide +kernel
theorem d_R_contextIn_2 : decode b_R_contextIn 2 = .ok (.iconst 3, 1) := by decide +kernel
theorem d_R_contextIn_3 : decode b_R_contextIn 3 = .ok (.iconst 4, 1) := by decide +kernel
theorem d_R_contextIn_4 : decode b_R_contextIn 4 = .ok (.invokevirtual 83, 3) := by decide +kernel
theorem d_R_contextIn_7 : decode b_R_contextIn 7 = .ok (.ireturn, 1) := by decide +kernel
theorem d_R_isNilOrContext_0 : decode b_R_isNilOrContext 0 = .ok (.iload_n 1, 1) := by decide +kernel
theorem d_R_isNilOrContext_1 : decode b_R_isNilOrContext 1 = .ok (.invokestatic 76, 3) := by decide +kernel
theorem d_R_isNilOrContext_4 : decode b_R_isNilOrContext 4 = .ok (.ifCond .eq 24, 3) := by decide +kernel
theorem d_R_isNilOrContext_7 : decode b_R_isNilOrContext 7 = .ok (.aload_n 0, 1) := by decide +kernel
theorem d_R_isNilOrContext_8 : decode b_R_isNilOrContext 8 = .ok (.getfield 13, 3) := by decide +kernel
theorem d_R_isNilOrContext_11 : decode b_R_isNilOrContext 11 = .ok (.iload_n 1, 1) := by decide +kernel
theorem d_R_isNilOrContext_12 : decode b_R_isNilOrContext 12 = .ok (.iaload, 1) := by decide +kernel
theorem d_R_isNilOrContext_13 : decode b_R_isNilOrContext 13 = .ok (.ifCond .eq 11, 3) := by decide +kernel
theorem d_R_isNilOrContext_16 : decode b_R_isNilOrContext 16 = .ok (.aload_n 0, 1) := by decide +kernel
theorem d_R_isNilOrContext_17 : decode b_R_isNilOrContext 17 = .ok (.iload_n 1, 1) := by decide +kernel
theorem d_R_isNilOrContext_18 : decode b_R_isNilOrContext 18 = .ok (.invokevirtual 87, 3) := by decide +kernel
theorem d_R_isNilOrContext_21 : decode b_R_isNilOrContext 21 = .ok (.ifCond .lt 7, 3) := by decide +kernel
theorem d_R_isNilOrContext_24 : decode b_R_isNilOrContext 24 = .ok (.iconst 1, 1) := by decide +kernel
theorem d_R_isNilOrContext_25 : decode b_R_isNilOrContext 25 = .ok (.goto 4, 3) := by decide +kernel
theorem d_R_isNilOrContext_28 : decode b_R_isNilOrContext 28 = .ok (.iconst 0, 1) := by decide +kernel
theorem d_R_isNilOrContext_29 : decode b_R_isNilOrContext 29 = .ok (.ireturn, 1) := by decide +kernel
theorem d_R_see_0 : decode b_R_see 0 = .ok (.iload_n 1, 1) := by decide +kernel
theorem d_R_see_1 : decode b_R_see 1 = .ok (.invokestatic 80, 3) := by decide +kernel
theorem d_R_see_4 : decode b_R_see 4 = .ok (.ifCond .eq 51, 3) := by decide +kernel
theorem d_R_see_7 : decode b_R_see 7 = .ok (.aload_n 0, 1) := by decide +kernel
theorem d_R_see_8 : decode b_R_see 8 = .ok (.getfield 62, 3) := by decide +kernel
theorem d_R_see_11 : decode b_R_see 11 = .ok (.iload_n 1, 1) := by decide +kernel
theorem d_R_see_12 : decode b_R_see 12 = .ok (.iconst 2, 1) := by decide +kernel
theorem d_R_see_13 : decode b_R_see 13 = .ok (.idiv, 1) := by decide +kernel
theorem d_R_see_14 : decode b_R_see 14 = .ok (.iconst 1, 1) := by decide +kernel
theorem d_R_see_15 : decode b_R_see 15 = .ok (.isub, 1) := by decide +kernel
theorem d_R_see_16 : decode b_R_see 16 = .ok (.baload, 1) := by decide +kernel
theorem d_R_see_17 : decode b_R_see 17 = .ok (.ifCond .ne 38, 3) := by decide +kernel
theorem d_R_see_20 : decode b_R_see 20 = .ok (.aload_n 0, 1) := by decide +kernel
theorem d_R_see_21 : decode b_R_see 21 = .ok (.getfield 62, 3) := by decide +kernel
theorem d_R_see_24 : decode b_R_see 24 = .ok (.iload_n 1, 1) := by decide +kernel
theorem d_R_see_25 : decode b_R_see 25 = .ok (.iconst 2, 1) := by decide +kernel
theorem d_R_see_26 : decode b_R_see 26 = .ok (.idiv, 1) := by decide +kernel
theorem d_R_see_27 : decode b_R_see 27 = .ok (.iconst 1, 1) := by decide +kernel
theorem d_R_see_28 : decode b_R_see 28 = .ok (.isub, 1) := by decide +kernel
theorem d_R_see_29 : decode b_R_see 29 = .ok (.iconst 1, 1) := by decide +kernel
theorem d_R_see_30 : decode b_R_see 30 = .ok (.bastore, 1) := by decide +kernel
theorem d_R_see_31 : decode b_R_see 31 = .ok (.aload_n 0, 1) := by decide +kernel
theorem d_R_see_32 : decode b_R_see 32 = .ok (.getfield 65, 3) := by decide +kernel
theorem d_R_see_35 : decode b_R_see 35 = .ok (.aload_n 0, 1) := by decide +kernel
theorem d_R_see_36 : decode b_R_see 36 = .ok (.getfield 91, 3) := by decide +kernel
theorem d_R_see_39 : decode b_R_see 39 = .ok (.iload_n 1, 1) := by decide +kernel
theorem d_R_see_40 : decode b_R_see 40 = .ok (.iconst 2, 1) := by decide +kernel
theorem d_R_see_41 : decode b_R_see 41 = .ok (.idiv, 1) := by decide +kernel
theorem d_R_see_42 : decode b_R_see 42 = .ok (.iconst 1, 1) := by decide +kernel
theorem d_R_see_43 : decode b_R_see 43 = .ok (.isub, 1) := by decide +kernel
theorem d_R_see_44 : decode b_R_see 44 = .ok (.iastore, 1) := by decide +kernel
theorem d_R_see_45 : decode b_R_see 45 = .ok (.aload_n 0, 1) := by decide +kernel
theorem d_R_see_46 : decode b_R_see 46 = .ok (.dup, 1) := by decide +kernel
theorem d_R_see_47 : decode b_R_see 47 = .ok (.getfield 91, 3) := by decide +kernel
theorem d_R_see_50 : decode b_R_see 50 = .ok (.iconst 1, 1) := by decide +kernel
theorem d_R_see_51 : decode b_R_see 51 = .ok (.iadd, 1) := by decide +kernel
theorem d_R_see_52 : decode b_R_see 52 = .ok (.putfield 91, 3) := by decide +kernel
theorem d_R_see_55 : decode b_R_see 55 = .ok (.return_, 1) := by decide +kernel
theorem d_R_look_0 : decode b_R_look 0 = .ok (.iconst 0, 1) := by decide +kernel
theorem d_R_look_1 : decode b_R_look 1 = .ok (.istore_n 1, 1) := by decide +kernel
theorem d_R_look_2 : decode b_R_look 2 = .ok (.iload_n 1, 1) := by decide +kernel
theorem d_R_look_3 : decode b_R_look 3 = .ok (.sipush 4096, 3) := by decide +kernel
theorem d_R_look_6 : decode b_R_look 6 = .ok (.if_icmp .ge 16, 3) := by decide +kernel
theorem d_R_look_9 : decode b_R_look 9 = .ok (.aload_n 0, 1) := by decide +kernel
theorem d_R_look_10 : decode b_R_look 10 = .ok (.getfield 62, 3) := by decide +kernel
theorem d_R_look_13 : decode b_R_look 13 = .ok (.iload_n 1, 1) := by decide +kernel
theorem d_R_look_14 : decode b_R_look 14 = .ok (.iconst 0, 1) := by decide +kernel
theorem d_R_look_15 : decode b_R_look 15 = .ok (.bastore, 1) := by decide +kernel
theorem d_R_look_16 : decode b_R_look 16 = .ok (.iinc 1 1, 3) := by decide +kernel
theorem d_R_look_19 : decode b_R_look 19 = .ok (.goto (-17), 3) := by decide +kernel
theorem d_R_look_22 : decode b_R_look 22 = .ok (.aload_n 0, 1) := by decide +kernel
theorem d_R_look_23 : decode b_R_look 23 = .ok (.iconst 0, 1) := by decide +kernel
theorem d_R_look_24 : decode b_R_look 24 = .ok (.putfield 91, 3) := by decide +kernel
theorem d_R_look_27 : decode b_R_look 27 = .ok (.aload_n 0, 1) := by decide +kernel
theorem d_R_look_28 : decode b_R_look 28 = .ok (.iconst 0, 1) := by decide +kernel
theorem d_R_look_29 : decode b_R_look 29 = .ok (.putfield 94, 3) := by decide +kernel
theorem d_R_look_32 : decode b_R_look 32 = .ok (.aload_n 0, 1) := by decide +kernel
theorem d_R_look_33 : decode b_R_look 33 = .ok (.iconst 0, 1) := by decide +kernel
theorem d_R_look_34 : decode b_R_look 34 = .ok (.putfield 97, 3) := by decide +kernel
theorem d_R_look_37 : decode b_R_look 37 = .ok (.aload_n 0, 1) := by decide +kernel
theorem d_R_look_38 : decode b_R_look 38 = .ok (.iconst 0, 1) := by decide +kernel
theorem d_R_look_39 : decode b_R_look 39 = .ok (.putfield 100, 3) := by decide +kernel
theorem d_R_look_42 : decode b_R_look 42 = .ok (.iconst 0, 1) := by decide +kernel
theorem d_R_look_43 : decode b_R_look 43 = .ok (.istore_n 1, 1) := by decide +kernel
theorem d_R_look_44 : decode b_R_look 44 = .ok (.iload_n 1, 1) := by decide +kernel
theorem d_R_look_45 : decode b_R_look 45 = .ok (.bipush 16, 2) := by decide +kernel
theorem d_R_look_47 : decode b_R_look 47 = .ok (.if_icmp .ge 19, 3) := by decide +kernel
theorem d_R_look_50 : decode b_R_look 50 = .ok (.aload_n 0, 1) := by decide +kernel
theorem d_R_look_51 : decode b_R_look 51 = .ok (.aload_n 0, 1) := by decide +kernel
theorem d_R_look_52 : decode b_R_look 52 = .ok (.getfield 13, 3) := by decide +kernel
theorem d_R_look_55 : decode b_R_look 55 = .ok (.iload_n 1, 1) := by decide +kernel
theorem d_R_look_56 : decode b_R_look 56 = .ok (.iaload, 1) := by decide +kernel
theorem d_R_look_57 : decode b_R_look 57 = .ok (.invokevirtual 103, 3) := by decide +kernel
theorem d_R_look_60 : decode b_R_look 60 = .ok (.iinc 1 1, 3) := by decide +kernel
theorem d_R_look_63 : decode b_R_look 63 = .ok (.goto (-19), 3) := by decide +kernel
theorem d_R_look_66 : decode b_R_look 66 = .ok (.iconst 0, 1) := by decide +kernel
theorem d_R_look_67 : decode b_R_look 67 = .ok (.istore_n 1, 1) := by decide +kernel
theorem d_R_look_68 : decode b_R_look 68 = .ok (.iload_n 1, 1) := by decide +kernel
theorem d_R_look_69 : decode b_R_look 69 = .ok (.aload_n 0, 1) := by decide +kernel
theorem d_R_look_70 : decode b_R_look 70 = .ok (.getfield 91, 3) := by decide +kernel
theorem d_R_look_73 : decode b_R_look 73 = .ok (.if_icmp .ge 162, 3) := by decide +kernel
theorem d_R_look_76 : decode b_R_look 76 = .ok (.aload_n 0, 1) := by decide +kernel
theorem d_R_look_77 : decode b_R_look 77 = .ok (.getfield 65, 3) := by decide +kernel
theorem d_R_look_80 : decode b_R_look 80 = .ok (.iload_n 1, 1) := by decide +kernel
theorem d_R_look_81 : decode b_R_look 81 = .ok (.iaload, 1) := by decide +kernel
theorem d_R_look_82 : decode b_R_look 82 = .ok (.istore_n 2, 1) := by decide +kernel
theorem d_R_look_83 : decode b_R_look 83 = .ok (.aload_n 0, 1) := by decide +kernel
theorem d_R_look_84 : decode b_R_look 84 = .ok (.getfield 17, 3) := by decide +kernel
theorem d_R_look_87 : decode b_R_look 87 = .ok (.iload_n 2, 1) := by decide +kernel
theorem d_R_look_88 : decode b_R_look 88 = .ok (.baload, 1) := by decide +kernel
theorem d_R_look_89 : decode b_R_look 89 = .ok (.iconst 2, 1) := by decide +kernel
theorem d_R_look_90 : decode b_R_look 90 = .ok (.if_icmp .ne 27, 3) := by decide +kernel
theorem d_R_look_93 : decode b_R_look 93 = .ok (.aload_n 0, 1) := by decide +kernel
theorem d_R_look_94 : decode b_R_look 94 = .ok (.dup, 1) := by decide +kernel
theorem d_R_look_95 : decode b_R_look 95 = .ok (.getfield 94, 3) := by decide +kernel
theorem d_R_look_98 : decode b_R_look 98 = .ok (.iconst 2, 1) := by decide +kernel
theorem d_R_look_99 : decode b_R_look 99 = .ok (.iadd, 1) := by decide +kernel
theorem d_R_look_100 : decode b_R_look 100 = .ok (.putfield 94, 3) := by decide +kernel
theorem d_R_look_103 : decode b_R_look 103 = .ok (.aload_n 0, 1) := by decide +kernel
theorem d_R_look_104 : decode b_R_look 104 = .ok (.dup, 1) := by decide +kernel
theorem d_R_look_105 : decode b_R_look 105 = .ok (.getfield 97, 3) := by decide +kernel
theorem d_R_look_108 : decode b_R_look 108 = .ok (.bipush 10, 2) := by decide +kernel
theorem d_R_look_110 : decode b_R_look 110 = .ok (.iadd, 1) := by decide +kernel
theorem d_R_look_111 : decode b_R_look 111 = .ok (.putfield 97, 3) := by decide +kernel
theorem d_R_look_114 : decode b_R_look 114 = .ok (.goto 115, 3) := by decide +kernel
theorem d_R_look_117 : decode b_R_look 117 = .ok (.aload_n 0, 1) := by decide +kernel
theorem d_R_look_118 : decode b_R_look 118 = .ok (.dup, 1) := by decide +kernel
theorem d_R_look_119 : decode b_R_look 119 = .ok (.getfield 94, 3) := by decide +kernel
theorem d_R_look_122 : decode b_R_look 122 = .ok (.iconst 1, 1) := by decide +kernel
theorem d_R_look_123 : decode b_R_look 123 = .ok (.iadd, 1) := by decide +kernel
theorem d_R_look_124 : decode b_R_look 124 = .ok (.putfield 94, 3) := by decide +kernel
theorem d_R_look_127 : decode b_R_look 127 = .ok (.aload_n 0, 1) := by decide +kernel
theorem d_R_look_128 : decode b_R_look 128 = .ok (.dup, 1) := by decide +kernel
theorem d_R_look_129 : decode b_R_look 129 = .ok (.getfield 100, 3) := by decide +kernel
theorem d_R_look_132 : decode b_R_look 132 = .ok (.iconst 1, 1) := by decide +kernel
theorem d_R_look_133 : decode b_R_look 133 = .ok (.iadd, 1) := by decide +kernel
theorem d_R_look_134 : decode b_R_look 134 = .ok (.putfield 100, 3) := by decide +kernel
theorem d_R_look_137 : decode b_R_look 137 = .ok (.aload_n 0, 1) := by decide +kernel
theorem d_R_look_138 : decode b_R_look 138 = .ok (.dup, 1) := by decide +kernel
theorem d_R_look_139 : decode b_R_look 139 = .ok (.getfield 97, 3) := by decide +kernel
theorem d_R_look_142 : decode b_R_look 142 = .ok (.aload_n 0, 1) := by decide +kernel
theorem d_R_look_143 : decode b_R_look 143 = .ok (.getfield 17, 3) := by decide +kernel
theorem d_R_look_146 : decode b_R_look 146 = .ok (.iload_n 2, 1) := by decide +kernel
theorem d_R_look_147 : decode b_R_look 147 = .ok (.baload, 1) := by decide +kernel
theorem d_R_look_148 : decode b_R_look 148 = .ok (.iconst 3, 1) := by decide +kernel
theorem d_R_look_149 : decode b_R_look 149 = .ok (.if_icmp .ne 8, 3) := by decide +kernel
theorem d_R_look_152 : decode b_R_look 152 = .ok (.bipush 9, 2) := by decide +kernel
theorem d_R_look_154 : decode b_R_look 154 = .ok (.goto 5, 3) := by decide +kernel
theorem d_R_look_157 : decode b_R_look 157 = .ok (.bipush 10, 2) := by decide +kernel
theorem d_R_look_159 : decode b_R_look 159 = .ok (.aload_n 0, 1) := by decide +kernel
theorem d_R_look_160 : decode b_R_look 160 = .ok (.getfield 52, 3) := by decide +kernel
theorem d_R_look_163 : decode b_R_look 163 = .ok (.iload_n 2, 1) := by decide +kernel
theorem d_R_look_164 : decode b_R_look 164 = .ok (.iaload, 1) := by decide +kernel
theorem d_R_look_165 : decode b_R_look 165 = .ok (.iadd, 1) := by decide +kernel
theorem d_R_look_166 : decode b_R_look 166 = .ok (.iadd, 1) := by decide +kernel
theorem d_R_look_167 : decode b_R_look 167 = .ok (.putfield 97, 3) := by decide +kernel
theorem d_R_look_170 : decode b_R_look 170 = .ok (.aload_n 0, 1) := by decide +kernel
theorem d_R_look_171 : decode b_R_look 171 = .ok (.aload_n 0, 1) := by decide +kernel
theorem d_R_look_172 : decode b_R_look 172 = .ok (.getfield 33, 3) := by decide +kernel
theorem d_R_look_175 : decode b_R_look 175 = .ok (.iload_n 2, 1) := by decide +kernel
theorem d_R_look_176 : decode b_R_look 176 = .ok (.iaload, 1) := by decide +kernel
theorem d_R_look_177 : decode b_R_look 177 = .ok (.invokevirtual 103, 3) := by decide +kernel
theorem d_R_look_180 : decode b_R_look 180 = .ok (.aload_n 0, 1) := by decide +kernel
theorem d_R_look_181 : decode b_R_look 181 = .ok (.iconst 2, 1) := by decide +kernel
theorem d_R_look_182 : decode b_R_look 182 = .ok (.aload_n 0, 1) := by decide +kernel
theorem d_R_look_183 : decode b_R_look 183 = .ok (.getfield 43, 3) := by decide +kernel
theorem d_R_look_186 : decode b_R_look 186 = .ok (.iload_n 2, 1) := by decide +kernel
theorem d_R_look_187 : decode b_R_look 187 = .ok (.iaload, 1) := by decide +kernel
theorem d_R_look_188 : decode b_R_look 188 = .ok (.imul, 1) := by decide +kernel
theorem d_R_look_189 : decode b_R_look 189 = .ok (.iconst 2, 1) := by decide +kernel
theorem d_R_look_190 : decode b_R_look 190 = .ok (.iadd, 1) := by decide +kernel
theorem d_R_look_191 : decode b_R_look 191 = .ok (.invokevirtual 103, 3) := by decide +kernel
theorem d_R_look_194 : decode b_R_look 194 = .ok (.iconst 0, 1) := by decide +kernel
theorem d_R_look_195 : decode b_R_look 195 = .ok (.istore_n 3, 1) := by decide +kernel
theorem d_R_look_196 : decode b_R_look 196 = .ok (.iload_n 3, 1) := by decide +kernel
theorem d_R_look_197 : decode b_R_look 197 = .ok (.aload_n 0, 1) := by decide +kernel
theorem d_R_look_198 : decode b_R_look 198 = .ok (.getfield 52, 3) := by decide +kernel
theorem d_R_look_201 : decode b_R_look 201 = .ok (.iload_n 2, 1) := by decide +kernel
theorem d_R_look_202 : decode b_R_look 202 = .ok (.iaload, 1) := by decide +kernel
theorem d_R_look_203 : decode b_R_look 203 = .ok (.if_icmp .ge 26, 3) := by decide +kernel
theorem d_R_look_206 : decode b_R_look 206 = .ok (.aload_n 0, 1) := by decide +kernel
theorem d_R_look_207 : decode b_R_look 207 = .ok (.aload_n 0, 1) := by decide +kernel
theorem d_R_look_208 : decode b_R_look 208 = .ok (.getfield 56, 3) := by decide +kernel
theorem d_R_look_211 : decode b_R_look 211 = .ok (.aload_n 0, 1) := by decide +kernel
theorem d_R_look_212 : decode b_R_look 212 = .ok (.getfield 49, 3) := by decide +kernel
theorem d_R_look_215 : decode b_R_look 215 = .ok (.iload_n 2, 1) := by decide +kernel
theorem d_R_look_216 : decode b_R_look 216 = .ok (.iaload, 1) := by decide +kernel
theorem d_R_look_217 : decode b_R_look 217 = .ok (.iload_n 3, 1) := by decide +kernel
theorem d_R_look_218 : decode b_R_look 218 = .ok (.iadd, 1) := by decide +kernel
theorem d_R_look_219 : decode b_R_look 219 = .ok (.iaload, 1) := by decide +kernel
theorem d_R_look_220 : decode b_R_look 220 = .ok (.invokevirtual 103, 3) := by decide +kernel
theorem d_R_look_223 : decode b_R_look 223 = .ok (.iinc 3 1, 3) := by decide +kernel
theorem d_R_look_226 : decode b_R_look 226 = .ok (.goto (-30), 3) := by decide +kernel
theorem d_R_look_229 : decode b_R_look 229 = .ok (.iinc 1 1, 3) := by decide +kernel
theorem d_R_look_232 : decode b_R_look 232 = .ok (.goto (-164), 3) := by decide +kernel
theorem d_R_look_235 : decode b_R_look 235 = .ok (.return_, 1) := by decide +kernel
theorem d_R_words_0 : decode b_R_words 0 = .ok (.aload_n 0, 1) := by decide +kernel
theorem d_R_words_1 : decode b_R_words 1 = .ok (.invokevirtual 107, 3) := by decide +kernel
theorem d_R_words_4 : decode b_R_words 4 = .ok (.aload_n 0, 1) := by decide +kernel
theorem d_R_words_5 : decode b_R_words 5 = .ok (.getfield 68, 3) := by decide +kernel
theorem d_R_words_8 : decode b_R_words 8 = .ok (.bipush 8, 2) := by decide +kernel
theorem d_R_words_10 : decode b_R_words 10 = .ok (.isub, 1) := by decide +kernel
theorem d_R_words_11 : decode b_R_words 11 = .ok (.aload_n 0, 1) := by decide +kernel
theorem d_R_words_12 : decode b_R_words 12 = .ok (.getfield 97, 3) := by decide +kernel
theorem d_R_words_15 : decode b_R_words 15 = .ok (.isub, 1) := by decide +kernel
theorem d_R_words_16 : decode b_R_words 16 = .ok (.ireturn, 1) := by decide +kernel
theorem d_R_entries_0 : decode b_R_entries 0 = .ok (.aload_n 0, 1) := by decide +kernel
theorem d_R_entries_1 : decode b_R_entries 1 = .ok (.invokevirtual 107, 3) := by decide +kernel
theorem d_R_entries_4 : decode b_R_entries 4 = .ok (.aload_n 0, 1) := by decide +kernel
theorem d_R_entries_5 : decode b_R_entries 5 = .ok (.getfield 71, 3) := by decide +kernel
theorem d_R_entries_8 : decode b_R_entries 8 = .ok (.iconst 2, 1) := by decide +kernel
theorem d_R_entries_9 : decode b_R_entries 9 = .ok (.isub, 1) := by decide +kernel
theorem d_R_entries_10 : decode b_R_entries 10 = .ok (.aload_n 0, 1) := by decide +kernel
theorem d_R_entries_11 : decode b_R_entries 11 = .ok (.getfield 94, 3) := by decide +kernel
theorem d_R_entries_14 : decode b_R_entries 14 = .ok (.isub, 1) := by decide +kernel
theorem d_R_entries_15 : decode b_R_entries 15 = .ok (.ireturn, 1) := by decide +kernel
theorem d_R_contexts_0 : decode b_R_contexts 0 = .ok (.aload_n 0, 1) := by decide +kernel
theorem d_R_contexts_1 : decode b_R_contexts 1 = .ok (.invokevirtual 107, 3) := by decide +kernel
theorem d_R_contexts_4 : decode b_R_contexts 4 = .ok (.aload_n 0, 1) := by decide +kernel
theorem d_R_contexts_5 : decode b_R_contexts 5 = .ok (.getfield 100, 3) := by decide +kernel
theorem d_R_contexts_8 : decode b_R_contexts 8 = .ok (.ireturn, 1) := by decide +kernel
theorem d_R_letGo_0 : decode b_R_letGo 0 = .ok (.iconst 0, 1) := by decide +kernel
theorem d_R_letGo_1 : decode b_R_letGo 1 = .ok (.istore_n 1, 1) := by decide +kernel
theorem d_R_letGo_2 : decode b_R_letGo 2 = .ok (.iconst 0, 1) := by decide +kernel
theorem d_R_letGo_3 : decode b_R_letGo 3 = .ok (.istore_n 2, 1) := by decide +kernel
theorem d_R_letGo_4 : decode b_R_letGo 4 = .ok (.iload_n 2, 1) := by decide +kernel
theorem d_R_letGo_5 : decode b_R_letGo 5 = .ok (.sipush 4096, 3) := by decide +kernel
theorem d_R_letGo_8 : decode b_R_letGo 8 = .ok (.if_icmp .ge 93, 3) := by decide +kernel
theorem d_R_letGo_11 : decode b_R_letGo 11 = .ok (.aload_n 0, 1) := by decide +kernel
theorem d_R_letGo_12 : decode b_R_letGo 12 = .ok (.getfield 62, 3) := by decide +kernel
theorem d_R_letGo_15 : decode b_R_letGo 15 = .ok (.iload_n 2, 1) := by decide +kernel
theorem d_R_letGo_16 : decode b_R_letGo 16 = .ok (.baload, 1) := by decide +kernel
theorem d_R_letGo_17 : decode b_R_letGo 17 = .ok (.ifCond .ne 13, 3) := by decide +kernel
theorem d_R_letGo_20 : decode b_R_letGo 20 = .ok (.aload_n 0, 1) := by decide +kernel
theorem d_R_letGo_21 : decode b_R_letGo 21 = .ok (.getfield 17, 3) := by decide +kernel
theorem d_R_letGo_24 : decode b_R_letGo 24 = .ok (.iload_n 2, 1) := by decide +kernel
theorem d_R_letGo_25 : decode b_R_letGo 25 = .ok (.iconst 0, 1) := by decide +kernel
theorem d_R_letGo_26 : decode b_R_letGo 26 = .ok (.bastore, 1) := by decide +kernel
theorem d_R_letGo_27 : decode b_R_letGo 27 = .ok (.goto 68, 3) := by decide +kernel
theorem d_R_letGo_30 : decode b_R_letGo 30 = .ok (.aload_n 0, 1) := by decide +kernel
theorem d_R_letGo_31 : decode b_R_letGo 31 = .ok (.getfield 17, 3) := by decide +kernel
theorem d_R_letGo_34 : decode b_R_letGo 34 = .ok (.iload_n 2, 1) := by decide +kernel
theorem d_R_letGo_35 : decode b_R_letGo 35 = .ok (.baload, 1) := by decide +kernel
theorem d_R_letGo_36 : decode b_R_letGo 36 = .ok (.iconst 2, 1) := by decide +kernel
theorem d_R_letGo_37 : decode b_R_letGo 37 = .ok (.if_icmp .eq 58, 3) := by decide +kernel
theorem d_R_letGo_40 : decode b_R_letGo 40 = .ok (.iconst 0, 1) := by decide +kernel
theorem d_R_letGo_41 : decode b_R_letGo 41 = .ok (.istore_n 3, 1) := by decide +kernel
theorem d_R_letGo_42 : decode b_R_letGo 42 = .ok (.iload_n 3, 1) := by decide +kernel
theorem d_R_letGo_43 : decode b_R_letGo 43 = .ok (.aload_n 0, 1) := by decide +kernel
theorem d_R_letGo_44 : decode b_R_letGo 44 = .ok (.getfield 52, 3) := by decide +kernel
theorem d_R_letGo_47 : decode b_R_letGo 47 = .ok (.iload_n 2, 1) := by decide +kernel
theorem d_R_letGo_48 : decode b_R_letGo 48 = .ok (.iaload, 1) := by decide +kernel
theorem d_R_letGo_49 : decode b_R_letGo 49 = .ok (.if_icmp .ge 30, 3) := by decide +kernel
theorem d_R_letGo_52 : decode b_R_letGo 52 = .ok (.aload_n 0, 1) := by decide +kernel
theorem d_R_letGo_53 : decode b_R_letGo 53 = .ok (.getfield 59, 3) := by decide +kernel
theorem d_R_letGo_56 : decode b_R_letGo 56 = .ok (.iload_n 1, 1) := by decide +kernel
theorem d_R_letGo_57 : decode b_R_letGo 57 = .ok (.iload_n 3, 1) := by decide +kernel
theorem d_R_letGo_58 : decode b_R_letGo 58 = .ok (.iadd, 1) := by decide +kernel
theorem d_R_letGo_59 : decode b_R_letGo 59 = .ok (.aload_n 0, 1) := by decide +kernel
theorem d_R_letGo_60 : decode b_R_letGo 60 = .ok (.getfield 56, 3) := by decide +kernel
theorem d_R_letGo_63 : decode b_R_letGo 63 = .ok (.aload_n 0, 1) := by decide +kernel
theorem d_R_letGo_64 : decode b_R_letGo 64 = .ok (.getfield 49, 3) := by decide +kernel
theorem d_R_letGo_67 : decode b_R_letGo 67 = .ok (.iload_n 2, 1) := by decide +kernel
theorem d_R_letGo_68 : decode b_R_letGo 68 = .ok (.iaload, 1) := by decide +kernel
theorem d_R_letGo_69 : decode b_R_letGo 69 = .ok (.iload_n 3, 1) := by decide +kernel
theorem d_R_letGo_70 : decode b_R_letGo 70 = .ok (.iadd, 1) := by decide +kernel
theorem d_R_letGo_71 : decode b_R_letGo 71 = .ok (.iaload, 1) := by decide +kernel
theorem d_R_letGo_72 : decode b_R_letGo 72 = .ok (.iastore, 1) := by decide +kernel
theorem d_R_letGo_73 : decode b_R_letGo 73 = .ok (.iinc 3 1, 3) := by decide +kernel
theorem d_R_letGo_76 : decode b_R_letGo 76 = .ok (.goto (-34), 3) := by decide +kernel
theorem d_R_letGo_79 : decode b_R_letGo 79 = .ok (.aload_n 0, 1) := by decide +kernel
theorem d_R_letGo_80 : decode b_R_letGo 80 = .ok (.getfield 49, 3) := by decide +kernel
theorem d_R_letGo_83 : decode b_R_letGo 83 = .ok (.iload_n 2, 1) := by decide +kernel
theorem d_R_letGo_84 : decode b_R_letGo 84 = .ok (.iload_n 1, 1) := by decide +kernel
theorem d_R_letGo_85 : decode b_R_letGo 85 = .ok (.iastore, 1) := by decide +kernel
theorem d_R_letGo_86 : decode b_R_letGo 86 = .ok (.iload_n 1, 1) := by decide +kernel
theorem d_R_letGo_87 : decode b_R_letGo 87 = .ok (.aload_n 0, 1) := by decide +kernel
theorem d_R_letGo_88 : decode b_R_letGo 88 = .ok (.getfield 52, 3) := by decide +kernel
theorem d_R_letGo_91 : decode b_R_letGo 91 = .ok (.iload_n 2, 1) := by decide +kernel
theorem d_R_letGo_92 : decode b_R_letGo 92 = .ok (.iaload, 1) := by decide +kernel
theorem d_R_letGo_93 : decode b_R_letGo 93 = .ok (.iadd, 1) := by decide +kernel
theorem d_R_letGo_94 : decode b_R_letGo 94 = .ok (.istore_n 1, 1) := by decide +kernel
theorem d_R_letGo_95 : decode b_R_letGo 95 = .ok (.iinc 2 1, 3) := by decide +kernel
theorem d_R_letGo_98 : decode b_R_letGo 98 = .ok (.goto (-94), 3) := by decide +kernel
theorem d_R_letGo_101 : decode b_R_letGo 101 = .ok (.aload_n 0, 1) := by decide +kernel
theorem d_R_letGo_102 : decode b_R_letGo 102 = .ok (.getfield 56, 3) := by decide +kernel
theorem d_R_letGo_105 : decode b_R_letGo 105 = .ok (.astore_n 2, 1) := by decide +kernel
theorem d_R_letGo_106 : decode b_R_letGo 106 = .ok (.aload_n 0, 1) := by decide +kernel
theorem d_R_letGo_107 : decode b_R_letGo 107 = .ok (.aload_n 0, 1) := by decide +kernel
theorem d_R_letGo_108 : decode b_R_letGo 108 = .ok (.getfield 59, 3) := by decide +kernel
theorem d_R_letGo_111 : decode b_R_letGo 111 = .ok (.putfield 56, 3) := by decide +kernel
theorem d_R_letGo_114 : decode b_R_letGo 114 = .ok (.aload_n 0, 1) := by decide +kernel
theorem d_R_letGo_115 : decode b_R_letGo 115 = .ok (.aload_n 2, 1) := by decide +kernel
theorem d_R_letGo_116 : decode b_R_letGo 116 = .ok (.putfield 59, 3) := by decide +kernel
theorem d_R_letGo_119 : decode b_R_letGo 119 = .ok (.aload_n 0, 1) := by decide +kernel
theorem d_R_letGo_120 : decode b_R_letGo 120 = .ok (.iload_n 1, 1) := by decide +kernel
theorem d_R_letGo_121 : decode b_R_letGo 121 = .ok (.putfield 110, 3) := by decide +kernel
theorem d_R_letGo_124 : decode b_R_letGo 124 = .ok (.return_, 1) := by decide +kernel
theorem d_R_make_0 : decode b_R_make 0 = .ok (.aload_n 0, 1) := by decide +kernel
theorem d_R_make_1 : decode b_R_make 1 = .ok (.invokevirtual 107, 3) := by decide +kernel
theorem d_R_make_4 : decode b_R_make 4 = .ok (.aload_n 0, 1) := by decide +kernel
theorem d_R_make_5 : decode b_R_make 5 = .ok (.getfield 97, 3) := by decide +kernel
theorem d_R_make_8 : decode b_R_make 8 = .ok (.bipush 8, 2) := by decide +kernel
theorem d_R_make_10 : decode b_R_make 10 = .ok (.iadd, 1) := by decide +kernel
theorem d_R_make_11 : decode b_R_make 11 = .ok (.iload_n 2, 1) := by decide +kernel
theorem d_R_make_12 : decode b_R_make 12 = .ok (.iadd, 1) := by decide +kernel
theorem d_R_make_13 : decode b_R_make 13 = .ok (.aload_n 0, 1) := by decide +kernel
theorem d_R_make_14 : decode b_R_make 14 = .ok (.getfield 68, 3) := by decide +kernel
theorem d_R_make_17 : decode b_R_make 17 = .ok (.if_icmp .gt 18, 3) := by decide +kernel
theorem d_R_make_20 : decode b_R_make 20 = .ok (.aload_n 0, 1) := by decide +kernel
theorem d_R_make_21 : decode b_R_make 21 = .ok (.getfield 94, 3) := by decide +kernel
theorem d_R_make_24 : decode b_R_make 24 = .ok (.iconst 2, 1) := by decide +kernel
theorem d_R_make_25 : decode b_R_make 25 = .ok (.iadd, 1) := by decide +kernel
theorem d_R_make_26 : decode b_R_make 26 = .ok (.iload_n 3, 1) := by decide +kernel
theorem d_R_make_27 : decode b_R_make 27 = .ok (.iadd, 1) := by decide +kernel
theorem d_R_make_28 : decode b_R_make 28 = .ok (.aload_n 0, 1) := by decide +kernel
theorem d_R_make_29 : decode b_R_make 29 = .ok (.getfield 71, 3) := by decide +kernel
theorem d_R_make_32 : decode b_R_make 32 = .ok (.if_icmp .le 6, 3) := by decide +kernel
theorem d_R_make_35 : decode b_R_make 35 = .ok (.bipush (-2), 2) := by decide +kernel
theorem d_R_make_37 : decode b_R_make 37 = .ok (.ireturn, 1) := by decide +kernel
theorem d_R_make_38 : decode b_R_make 38 = .ok (.aload_n 0, 1) := by decide +kernel
theorem d_R_make_39 : decode b_R_make 39 = .ok (.invokevirtual 113, 3) := by decide +kernel
theorem d_R_make_42 : decode b_R_make 42 = .ok (.iconst 0, 1) := by decide +kernel
theorem d_R_make_43 : decode b_R_make 43 = .ok (.istore 5, 2) := by decide +kernel
theorem d_R_make_45 : decode b_R_make 45 = .ok (.aload_n 0, 1) := by decide +kernel
theorem d_R_make_46 : decode b_R_make 46 = .ok (.getfield 17, 3) := by decide +kernel
theorem d_R_make_49 : decode b_R_make 49 = .ok (.iload 5, 2) := by decide +kernel
theorem d_R_make_51 : decode b_R_make 51 = .ok (.baload, 1) := by decide +kernel
theorem d_R_make_52 : decode b_R_make 52 = .ok (.ifCond .eq 9, 3) := by decide +kernel
theorem d_R_make_55 : decode b_R_make 55 = .ok (.iinc 5 1, 3) := by decide +kernel
theorem d_R_make_58 : decode b_R_make 58 = .ok (.goto (-13), 3) := by decide +kernel
theorem d_R_make_61 : decode b_R_make 61 = .ok (.aload_n 0, 1) := by decide +kernel
theorem d_R_make_62 : decode b_R_make 62 = .ok (.getfield 17, 3) := by decide +kernel
theorem d_R_make_65 : decode b_R_make 65 = .ok (.iload 5, 2) := by decide +kernel
theorem d_R_make_67 : decode b_R_make 67 = .ok (.iload_n 1, 1) := by decide +kernel
theorem d_R_make_68 : decode b_R_make 68 = .ok (.i2b, 1) := by decide +kernel
theorem d_R_make_69 : decode b_R_make 69 = .ok (.bastore, 1) := by decide +kernel
theorem d_R_make_70 : decode b_R_make 70 = .ok (.aload_n 0, 1) := by decide +kernel
theorem d_R_make_71 : decode b_R_make 71 = .ok (.dup, 1) := by decide +kernel
theorem d_R_make_72 : decode b_R_make 72 = .ok (.getfield 7, 3) := by decide +kernel
theorem d_R_make_75 : decode b_R_make 75 = .ok (.iload_n 3, 1) := by decide +kernel
theorem d_R_make_76 : decode b_R_make 76 = .ok (.iadd, 1) := by decide +kernel
theorem d_R_make_77 : decode b_R_make 77 = .ok (.putfield 7, 3) := by decide +kernel
theorem d_R_make_80 : decode b_R_make 80 = .ok (.aload_n 0, 1) := by decide +kernel
theorem d_R_make_81 : decode b_R_make 81 = .ok (.getfield 21, 3) := by decide +kernel
theorem d_R_make_84 : decode b_R_make 84 = .ok (.iload 5, 2) := by decide +kernel
theorem d_R_make_86 : decode b_R_make 86 = .ok (.aload_n 0, 1) := by decide +kernel
theorem d_R_make_87 : decode b_R_make 87 = .ok (.getfield 7, 3) := by decide +kernel
theorem d_R_make_90 : decode b_R_make 90 = .ok (.iastore, 1) := by decide +kernel
theorem d_R_make_91 : decode b_R_make 91 = .ok (.aload_n 0, 1) := by decide +kernel
theorem d_R_make_92 : decode b_R_make 92 = .ok (.getfield 49, 3) := by decide +kernel
theorem d_R_make_95 : decode b_R_make 95 = .ok (.iload 5, 2) := by decide +kernel
theorem d_R_make_97 : decode b_R_make 97 = .ok (.aload_n 0, 1) := by decide +kernel
theorem d_R_make_98 : decode b_R_make 98 = .ok (.getfield 110, 3) := by decide +kernel
theorem d_R_make_101 : decode b_R_make 101 = .ok (.iastore, 1) := by decide +kernel
theorem d_R_make_102 : decode b_R_make 102 = .ok (.aload_n 0, 1) := by decide +kernel
theorem d_R_make_103 : decode b_R_make 103 = .ok (.getfield 52, 3) := by decide +kernel
theorem d_R_make_106 : decode b_R_make 106 = .ok (.iload 5, 2) := by decide +kernel
theorem d_R_make_108 : decode b_R_make 108 = .ok (.iload 4, 2) := by decide +kernel
theorem d_R_make_110 : decode b_R_make 110 = .ok (.iastore, 1) := by decide +kernel
theorem d_R_make_111 : decode b_R_make 111 = .ok (.iconst 0, 1) := by decide +kernel
theorem d_R_make_112 : decode b_R_make 112 = .ok (.istore 6, 2) := by decide +kernel
theorem d_R_make_114 : decode b_R_make 114 = .ok (.iload 6, 2) := by decide +kernel
theorem d_R_make_116 : decode b_R_make 116 = .ok (.iload 4, 2) := by decide +kernel
theorem d_R_make_118 : decode b_R_make 118 = .ok (.if_icmp .ge 22, 3) := by decide +kernel
theorem d_R_make_121 : decode b_R_make 121 = .ok (.aload_n 0, 1) := by decide +kernel
theorem d_R_make_122 : decode b_R_make 122 = .ok (.getfield 56, 3) := by decide +kernel
theorem d_R_make_125 : decode b_R_make 125 = .ok (.aload_n 0, 1) := by decide +kernel
theorem d_R_make_126 : decode b_R_make 126 = .ok (.getfield 110, 3) := by decide +kernel
theorem d_R_make_129 : decode b_R_make 129 = .ok (.iload 6, 2) := by decide +kernel
theorem d_R_make_131 : decode b_R_make 131 = .ok (.iadd, 1) := by decide +kernel
theorem d_R_make_132 : decode b_R_make 132 = .ok (.iconst 0, 1) := by decide +kernel
theorem d_R_make_133 : decode b_R_make 133 = .ok (.iastore, 1) := by decide +kernel
theorem d_R_make_134 : decode b_R_make 134 = .ok (.iinc 6 1, 3) := by decide +kernel
theorem d_R_make_137 : decode b_R_make 137 = .ok (.goto (-23), 3) := by decide +kernel
theorem d_R_make_140 : decode b_R_make 140 = .ok (.aload_n 0, 1) := by decide +kernel
theorem d_R_make_141 : decode b_R_make 141 = .ok (.dup, 1) := by decide +kernel
theorem d_R_make_142 : decode b_R_make 142 = .ok (.getfield 110, 3) := by decide +kernel
theorem d_R_make_145 : decode b_R_make 145 = .ok (.iload 4, 2) := by decide +kernel
theorem d_R_make_147 : decode b_R_make 147 = .ok (.iadd, 1) := by decide +kernel
theorem d_R_make_148 : decode b_R_make 148 = .ok (.putfield 110, 3) := by decide +kernel
theorem d_R_make_151 : decode b_R_make 151 = .ok (.iload 5, 2) := by decide +kernel
theorem d_R_make_153 : decode b_R_make 153 = .ok (.ireturn, 1) := by decide +kernel
theorem d_R_number_0 : decode b_R_number 0 = .ok (.iload_n 1, 1) := by decide +kernel
theorem d_R_number_1 : decode b_R_number 1 = .ok (.invokestatic 76, 3) := by decide +kernel
theorem d_R_number_4 : decode b_R_number 4 = .ok (.ifCond .eq 10, 3) := by decide +kernel
theorem d_R_number_7 : decode b_R_number 7 = .ok (.iload_n 2, 1) := by decide +kernel
theorem d_R_number_8 : decode b_R_number 8 = .ok (.invokestatic 116, 3) := by decide +kernel
theorem d_R_number_11 : decode b_R_number 11 = .ok (.ifCond .ne 5, 3) := by decide +kernel
theorem d_R_number_14 : decode b_R_number 14 = .ok (.iconst 0, 1) := by decide +kernel
theorem d_R_number_15 : decode b_R_number 15 = .ok (.ireturn, 1) := by decide +kernel
theorem d_R_number_16 : decode b_R_number 16 = .ok (.aload_n 0, 1) := by decide +kernel
theorem d_R_number_17 : decode b_R_number 17 = .ok (.getfield 13, 3) := by decide +kernel
theorem d_R_number_20 : decode b_R_number 20 = .ok (.iload_n 1, 1) := by decide +kernel
theorem d_R_number_21 : decode b_R_number 21 = .ok (.iload_n 2, 1) := by decide +kernel
theorem d_R_number_22 : decode b_R_number 22 = .ok (.invokestatic 119, 3) := by decide +kernel
theorem d_R_number_25 : decode b_R_number 25 = .ok (.iastore, 1) := by decide +kernel
theorem d_R_number_26 : decode b_R_number 26 = .ok (.iconst 1, 1) := by decide +kernel
theorem d_R_number_27 : decode b_R_number 27 = .ok (.ireturn, 1) := by decide +kernel
theorem d_R_move_0 : decode b_R_move 0 = .ok (.iload_n 1, 1) := by decide +kernel
theorem d_R_move_1 : decode b_R_move 1 = .ok (.invokestatic 76, 3) := by decide +kernel
theorem d_R_move_4 : decode b_R_move 4 = .ok (.ifCond .eq 10, 3) := by decide +kernel
theorem d_R_move_7 : decode b_R_move 7 = .ok (.iload_n 2, 1) := by decide +kernel
theorem d_R_move_8 : decode b_R_move 8 = .ok (.invokestatic 76, 3) := by decide +kernel
theorem d_R_move_11 : decode b_R_move 11 = .ok (.ifCond .ne 5, 3) := by decide +kernel
theorem d_R_move_14 : decode b_R_move 14 = .ok (.iconst 0, 1) := by decide +kernel
theorem d_R_move_15 : decode b_R_move 15 = .ok (.ireturn, 1) := by decide +kernel
theorem d_R_move_16 : decode b_R_move 16 = .ok (.aload_n 0, 1) := by decide +kernel
theorem d_R_move_17 : decode b_R_move 17 = .ok (.getfield 13, 3) := by decide +kernel
theorem d_R_move_20 : decode b_R_move 20 = .ok (.iload_n 1, 1) := by decide +kernel
theorem d_R_move_21 : decode b_R_move 21 = .ok (.aload_n 0, 1) := by decide +kernel
theorem d_R_move_22 : decode b_R_move 22 = .ok (.getfield 13, 3) := by decide +kernel
theorem d_R_move_25 : decode b_R_move 25 = .ok (.iload_n 2, 1) := by decide +kernel
theorem d_R_move_26 : decode b_R_move 26 = .ok (.iaload, 1) := by decide +kernel
theorem d_R_move_27 : decode b_R_move 27 = .ok (.iastore, 1) := by decide +kernel
theorem d_R_move_28 : decode b_R_move 28 = .ok (.iconst 1, 1) := by decide +kernel
theorem d_R_move_29 : decode b_R_move 29 = .ok (.ireturn, 1) := by decide +kernel
theorem d_R_clear_0 : decode b_R_clear 0 = .ok (.iload_n 1, 1) := by decide +kernel
theorem d_R_clear_1 : decode b_R_clear 1 = .ok (.invokestatic 76, 3) := by decide +kernel
theorem d_R_clear_4 : decode b_R_clear 4 = .ok (.ifCond .ne 5, 3) := by decide +kernel
theorem d_R_clear_7 : decode b_R_clear 7 = .ok (.iconst 0, 1) := by decide +kernel
theorem d_R_clear_8 : decode b_R_clear 8 = .ok (.ireturn, 1) := by decide +kernel
theorem d_R_clear_9 : decode b_R_clear 9 = .ok (.aload_n 0, 1) := by decide +kernel
theorem d_R_clear_10 : decode b_R_clear 10 = .ok (.getfield 13, 3) := by decide +kernel
theorem d_R_clear_13 : decode b_R_clear 13 = .ok (.iload_n 1, 1) := by decide +kernel
theorem d_R_clear_14 : decode b_R_clear 14 = .ok (.iconst 0, 1) := by decide +kernel
theorem d_R_clear_15 : decode b_R_clear 15 = .ok (.iastore, 1) := by decide +kernel
theorem d_R_clear_16 : decode b_R_clear 16 = .ok (.iconst 1, 1) := by decide +kernel
theorem d_R_clear_17 : decode b_R_clear 17 = .ok (.ireturn, 1) := by decide +kernel
theorem d_R_kind_0 : decode b_R_kind 0 = .ok (.iload_n 1, 1) := by decide +kernel
theorem d_R_kind_1 : decode b_R_kind 1 = .ok (.invokestatic 76, 3) := by decide +kernel
theorem d_R_kind_4 : decode b_R_kind 4 = .ok (.ifCond .ne 5, 3) := by decide +kernel
theorem d_R_kind_7 : decode b_R_kind 7 = .ok (.iconst (-1), 1) := by decide +kernel
theorem d_R_kind_8 : decode b_R_kind 8 = .ok (.ireturn, 1) := by decide +kernel
theorem d_R_kind_9 : decode b_R_kind 9 = .ok (.aload_n 0, 1) := by decide +kernel
theorem d_R_kind_10 : decode b_R_kind 10 = .ok (.getfield 13, 3) := by decide +kernel
theorem d_R_kind_13 : decode b_R_kind 13 = .ok (.iload_n 1, 1) := by decide +kernel
theorem d_R_kind_14 : decode b_R_kind 14 = .ok (.iaload, 1) := by decide +kernel
theorem d_R_kind_15 : decode b_R_kind 15 = .ok (.istore_n 2, 1) := by decide +kernel
theorem d_R_kind_16 : decode b_R_kind 16 = .ok (.iload_n 2, 1) := by decide +kernel
theorem d_R_kind_17 : decode b_R_kind 17 = .ok (.ifCond .ne 7, 3) := by decide +kernel
theorem d_R_kind_20 : decode b_R_kind 20 = .ok (.iconst 0, 1) := by decide +kernel
theorem d_R_kind_21 : decode b_R_kind 21 = .ok (.goto 24, 3) := by decide +kernel
theorem d_R_kind_24 : decode b_R_kind 24 = .ok (.iload_n 2, 1) := by decide +kernel
theorem d_R_kind_25 : decode b_R_kind 25 = .ok (.invokestatic 80, 3) := by decide +kernel
theorem d_R_kind_28 : decode b_R_kind 28 = .ok (.ifCond .ne 7, 3) := by decide +kernel
theorem d_R_kind_31 : decode b_R_kind 31 = .ok (.iconst 1, 1) := by decide +kernel
theorem d_R_kind_32 : decode b_R_kind 32 = .ok (.goto 13, 3) := by decide +kernel
theorem d_R_kind_35 : decode b_R_kind 35 = .ok (.aload_n 0, 1) := by decide +kernel
theorem d_R_kind_36 : decode b_R_kind 36 = .ok (.getfield 17, 3) := by decide +kernel
theorem d_R_kind_39 : decode b_R_kind 39 = .ok (.iload_n 2, 1) := by decide +kernel
theorem d_R_kind_40 : decode b_R_kind 40 = .ok (.iconst 2, 1) := by decide +kernel
theorem d_R_kind_41 : decode b_R_kind 41 = .ok (.idiv, 1) := by decide +kernel
theorem d_R_kind_42 : decode b_R_kind 42 = .ok (.iconst 1, 1) := by decide +kernel
theorem d_R_kind_43 : decode b_R_kind 43 = .ok (.isub, 1) := by decide +kernel
theorem d_R_kind_44 : decode b_R_kind 44 = .ok (.baload, 1) := by decide +kernel
theorem d_R_kind_45 : decode b_R_kind 45 = .ok (.ireturn, 1) := by decide +kernel
theorem d_R_value_0 : decode b_R_value 0 = .ok (.iload_n 1, 1) := by decide +kernel
theorem d_R_value_1 : decode b_R_value 1 = .ok (.invokestatic 76, 3) := by decide +kernel
theorem d_R_value_4 : decode b_R_value 4 = .ok (.ifCond .eq 12, 3) := by decide +kernel
theorem d_R_value_7 : decode b_R_value 7 = .ok (.aload_n 0, 1) := by decide +kernel
theorem d_R_value_8 : decode b_R_value 8 = .ok (.getfield 13, 3) := by decide +kernel
theorem d_R_value_11 : decode b_R_value 11 = .ok (.iload_n 1, 1) := by decide +kernel
theorem d_R_value_12 : decode b_R_value 12 = .ok (.iaload, 1) := by decide +kernel
theorem d_R_value_13 : decode b_R_value 13 = .ok (.ifCond .ne 5, 3) := by decide +kernel
theorem d_R_value_16 : decode b_R_value 16 = .ok (.iconst 0, 1) := by decide +kernel
theorem d_R_value_17 : decode b_R_value 17 = .ok (.ireturn, 1) := by decide +kernel
theorem d_R_value_18 : decode b_R_value 18 = .ok (.aload_n 0, 1) := by decide +kernel
theorem d_R_value_19 : decode b_R_value 19 = .ok (.getfield 13, 3) := by decide +kernel
theorem d_R_value_22 : decode b_R_value 22 = .ok (.iload_n 1, 1) := by decide +kernel
theorem d_R_value_23 : decode b_R_value 23 = .ok (.iaload, 1) := by decide +kernel
theorem d_R_value_24 : decode b_R_value 24 = .ok (.istore_n 2, 1) := by decide +kernel
theorem d_R_value_25 : decode b_R_value 25 = .ok (.iload_n 2, 1) := by decide +kernel
theorem d_R_value_26 : decode b_R_value 26 = .ok (.invokestatic 80, 3) := by decide +kernel
theorem d_R_value_29 : decode b_R_value 29 = .ok (.ifCond .eq 16, 3) := by decide +kernel
theorem d_R_value_32 : decode b_R_value 32 = .ok (.aload_n 0, 1) := by decide +kernel
theorem d_R_value_33 : decode b_R_value 33 = .ok (.getfield 21, 3) := by decide +kernel
theorem d_R_value_36 : decode b_R_value 36 = .ok (.iload_n 2, 1) := by decide +kernel
theorem d_R_value_37 : decode b_R_value 37 = .ok (.iconst 2, 1) := by decide +kernel
theorem d_R_value_38 : decode b_R_value 38 = .ok (.idiv, 1) := by decide +kernel
theorem d_R_value_39 : decode b_R_value 39 = .ok (.iconst 1, 1) := by decide +kernel
theorem d_R_value_40 : decode b_R_value 40 = .ok (.isub, 1) := by decide +kernel
theorem d_R_value_41 : decode b_R_value 41 = .ok (.iaload, 1) := by decide +kernel
theorem d_R_value_42 : decode b_R_value 42 = .ok (.goto 6, 3) := by decide +kernel
theorem d_R_value_45 : decode b_R_value 45 = .ok (.iload_n 2, 1) := by decide +kernel
theorem d_R_value_46 : decode b_R_value 46 = .ok (.iconst 1, 1) := by decide +kernel
theorem d_R_value_47 : decode b_R_value 47 = .ok (.ishr, 1) := by decide +kernel
theorem d_R_value_48 : decode b_R_value 48 = .ok (.ireturn, 1) := by decide +kernel
theorem d_R_isMethod_0 : decode b_R_isMethod 0 = .ok (.iload_n 0, 1) := by decide +kernel
theorem d_R_isMethod_1 : decode b_R_isMethod 1 = .ok (.ifCond .lt 34, 3) := by decide +kernel
theorem d_R_isMethod_4 : decode b_R_isMethod 4 = .ok (.iload_n 0, 1) := by decide +kernel
theorem d_R_isMethod_5 : decode b_R_isMethod 5 = .ok (.bipush 15, 2) := by decide +kernel
theorem d_R_isMethod_7 : decode b_R_isMethod 7 = .ok (.if_icmp .gt 28, 3) := by decide +kernel
theorem d_R_isMethod_10 : decode b_R_isMethod 10 = .ok (.iload_n 1, 1) := by decide +kernel
theorem d_R_isMethod_11 : decode b_R_isMethod 11 = .ok (.iload_n 0, 1) := by decide +kernel
theorem d_R_isMethod_12 : decode b_R_isMethod 12 = .ok (.if_icmp .lt 23, 3) := by decide +kernel
theorem d_R_isMethod_15 : decode b_R_isMethod 15 = .ok (.iload_n 1, 1) := by decide +kernel
theorem d_R_isMethod_16 : decode b_R_isMethod 16 = .ok (.bipush 31, 2) := by decide +kernel
theorem d_R_isMethod_18 : decode b_R_isMethod 18 = .ok (.if_icmp .gt 17, 3) := by decide +kernel
theorem d_R_isMethod_21 : decode b_R_isMethod 21 = .ok (.iload_n 2, 1) := by decide +kernel
theorem d_R_isMethod_22 : decode b_R_isMethod 22 = .ok (.ifCond .lt 13, 3) := by decide +kernel
theorem d_R_isMethod_25 : decode b_R_isMethod 25 = .ok (.iload_n 2, 1) := by decide +kernel
theorem d_R_isMethod_26 : decode b_R_isMethod 26 = .ok (.bipush 63, 2) := by decide +kernel
theorem d_R_isMethod_28 : decode b_R_isMethod 28 = .ok (.if_icmp .gt 7, 3) := by decide +kernel
theorem d_R_isMethod_31 : decode b_R_isMethod 31 = .ok (.iconst 1, 1) := by decide +kernel
theorem d_R_isMethod_32 : decode b_R_isMethod 32 = .ok (.goto 4, 3) := by decide +kernel
theorem d_R_isMethod_35 : decode b_R_isMethod 35 = .ok (.iconst 0, 1) := by decide +kernel
theorem d_R_isMethod_36 : decode b_R_isMethod 36 = .ok (.ireturn, 1) := by decide +kernel
theorem d_R_give_0 : decode b_R_give 0 = .ok (.aload_n 0, 1) := by decide +kernel
theorem d_R_give_1 : decode b_R_give 1 = .ok (.getfield 24, 3) := by decide +kernel
theorem d_R_give_4 : decode b_R_give 4 = .ok (.iload_n 1, 1) := by decide +kernel
theorem d_R_give_5 : decode b_R_give 5 = .ok (.iload_n 2, 1) := by decide +kernel
theorem d_R_give_6 : decode b_R_give 6 = .ok (.iastore, 1) := by decide +kernel
theorem d_R_give_7 : decode b_R_give 7 = .ok (.aload_n 0, 1) := by decide +kernel
theorem d_R_give_8 : decode b_R_give 8 = .ok (.getfield 27, 3) := by decide +kernel
theorem d_R_give_11 : decode b_R_give 11 = .ok (.iload_n 1, 1) := by decide +kernel
theorem d_R_give_12 : decode b_R_give 12 = .ok (.iload_n 3, 1) := by decide +kernel
theorem d_R_give_13 : decode b_R_give 13 = .ok (.iastore, 1) := by decide +kernel
theorem d_R_give_14 : decode b_R_give 14 = .ok (.aload_n 0, 1) := by decide +kernel
theorem d_R_give_15 : decode b_R_give 15 = .ok (.getfield 30, 3) := by decide +kernel
theorem d_R_give_18 : decode b_R_give 18 = .ok (.iload_n 1, 1) := by decide +kernel
theorem d_R_give_19 : decode b_R_give 19 = .ok (.iload 4, 2) := by decide +kernel
theorem d_R_give_21 : decode b_R_give 21 = .ok (.iastore, 1) := by decide +kernel
theorem d_R_give_22 : decode b_R_give 22 = .ok (.return_, 1) := by decide +kernel
theorem d_R_method_0 : decode b_R_method 0 = .ok (.iload_n 1, 1) := by decide +kernel
theorem d_R_method_1 : decode b_R_method 1 = .ok (.invokestatic 76, 3) := by decide +kernel
theorem d_R_method_4 : decode b_R_method 4 = .ok (.ifCond .eq 13, 3) := by decide +kernel
theorem d_R_method_7 : decode b_R_method 7 = .ok (.iload_n 2, 1) := by decide +kernel
theorem d_R_method_8 : decode b_R_method 8 = .ok (.iload_n 3, 1) := by decide +kernel
theorem d_R_method_9 : decode b_R_method 9 = .ok (.iload 4, 2) := by decide +kernel
theorem d_R_method_11 : decode b_R_method 11 = .ok (.invokestatic 122, 3) := by decide +kernel
end
section
theorem d_R_method_14 : decode b_R_method 14 = .ok (.ifCond .ne 5, 3) := by decide +kernel
theorem d_R_method_17 : decode b_R_method 17 = .ok (.iconst (-1), 1) := by decide +kernel
theorem d_R_method_18 : decode b_R_method 18 = .ok (.ireturn, 1) := by decide +kernel
theorem d_R_method_19 : decode b_R_method 19 = .ok (.aload_n 0, 1) := by decide +kernel
theorem d_R_method_20 : decode b_R_method 20 = .ok (.iconst 2, 1) := by decide +kernel
theorem d_R_method_21 : decode b_R_method 21 = .ok (.bipush 10, 2) := by decide +kernel
theorem d_R_method_23 : decode b_R_method 23 = .ok (.iconst 2, 1) := by decide +kernel
theorem d_R_method_24 : decode b_R_method 24 = .ok (.iconst 0, 1) := by decide +kernel
theorem d_R_method_25 : decode b_R_method 25 = .ok (.invokevirtual 126, 3) := by decide +kernel
theorem d_R_method_28 : decode b_R_method 28 = .ok (.istore 5, 2) := by decide +kernel
theorem d_R_method_30 : decode b_R_method 30 = .ok (.iload 5, 2) := by decide +kernel
theorem d_R_method_32 : decode b_R_method 32 = .ok (.ifCond .ge 6, 3) := by decide +kernel
theorem d_R_method_35 : decode b_R_method 35 = .ok (.bipush (-2), 2) := by decide +kernel
theorem d_R_method_37 : decode b_R_method 37 = .ok (.ireturn, 1) := by decide +kernel
theorem d_R_method_38 : decode b_R_method 38 = .ok (.aload_n 0, 1) := by decide +kernel
theorem d_R_method_39 : decode b_R_method 39 = .ok (.iload 5, 2) := by decide +kernel
theorem d_R_method_41 : decode b_R_method 41 = .ok (.iload_n 2, 1) := by decide +kernel
theorem d_R_method_42 : decode b_R_method 42 = .ok (.iload_n 3, 1) := by decide +kernel
theorem d_R_method_43 : decode b_R_method 43 = .ok (.iload 4, 2) := by decide +kernel
theorem d_R_method_45 : decode b_R_method 45 = .ok (.invokevirtual 130, 3) := by decide +kernel
theorem d_R_method_48 : decode b_R_method 48 = .ok (.aload_n 0, 1) := by decide +kernel
theorem d_R_method_49 : decode b_R_method 49 = .ok (.getfield 13, 3) := by decide +kernel
theorem d_R_method_52 : decode b_R_method 52 = .ok (.iload_n 1, 1) := by decide +kernel
theorem d_R_method_53 : decode b_R_method 53 = .ok (.iconst 2, 1) := by decide +kernel
theorem d_R_method_54 : decode b_R_method 54 = .ok (.iload 5, 2) := by decide +kernel
theorem d_R_method_56 : decode b_R_method 56 = .ok (.imul, 1) := by decide +kernel
theorem d_R_method_57 : decode b_R_method 57 = .ok (.iconst 2, 1) := by decide +kernel
theorem d_R_method_58 : decode b_R_method 58 = .ok (.iadd, 1) := by decide +kernel
theorem d_R_method_59 : decode b_R_method 59 = .ok (.iastore, 1) := by decide +kernel
theorem d_R_method_60 : decode b_R_method 60 = .ok (.aload_n 0, 1) := by decide +kernel
theorem d_R_method_61 : decode b_R_method 61 = .ok (.getfield 21, 3) := by decide +kernel
theorem d_R_method_64 : decode b_R_method 64 = .ok (.iload 5, 2) := by decide +kernel
theorem d_R_method_66 : decode b_R_method 66 = .ok (.iaload, 1) := by decide +kernel
theorem d_R_method_67 : decode b_R_method 67 = .ok (.ireturn, 1) := by decide +kernel
theorem d_R_change_0 : decode b_R_change 0 = .ok (.aload_n 0, 1) := by decide +kernel
theorem d_R_change_1 : decode b_R_change 1 = .ok (.iload_n 1, 1) := by decide +kernel
theorem d_R_change_2 : decode b_R_change 2 = .ok (.iconst 2, 1) := by decide +kernel
theorem d_R_change_3 : decode b_R_change 3 = .ok (.iconst 2, 1) := by decide +kernel
theorem d_R_change_4 : decode b_R_change 4 = .ok (.invokevirtual 83, 3) := by decide +kernel
theorem d_R_change_7 : decode b_R_change 7 = .ok (.istore 5, 2) := by decide +kernel
theorem d_R_change_9 : decode b_R_change 9 = .ok (.iload 5, 2) := by decide +kernel
theorem d_R_change_11 : decode b_R_change 11 = .ok (.ifCond .lt 13, 3) := by decide +kernel
theorem d_R_change_14 : decode b_R_change 14 = .ok (.iload_n 2, 1) := by decide +kernel
theorem d_R_change_15 : decode b_R_change 15 = .ok (.iload_n 3, 1) := by decide +kernel
theorem d_R_change_16 : decode b_R_change 16 = .ok (.iload 4, 2) := by decide +kernel
theorem d_R_change_18 : decode b_R_change 18 = .ok (.invokestatic 122, 3) := by decide +kernel
theorem d_R_change_21 : decode b_R_change 21 = .ok (.ifCond .ne 5, 3) := by decide +kernel
theorem d_R_change_24 : decode b_R_change 24 = .ok (.iconst 0, 1) := by decide +kernel
theorem d_R_change_25 : decode b_R_change 25 = .ok (.ireturn, 1) := by decide +kernel
theorem d_R_change_26 : decode b_R_change 26 = .ok (.aload_n 0, 1) := by decide +kernel
theorem d_R_change_27 : decode b_R_change 27 = .ok (.iload 5, 2) := by decide +kernel
theorem d_R_change_29 : decode b_R_change 29 = .ok (.iload_n 2, 1) := by decide +kernel
theorem d_R_change_30 : decode b_R_change 30 = .ok (.iload_n 3, 1) := by decide +kernel
theorem d_R_change_31 : decode b_R_change 31 = .ok (.iload 4, 2) := by decide +kernel
theorem d_R_change_33 : decode b_R_change 33 = .ok (.invokevirtual 130, 3) := by decide +kernel
theorem d_R_change_36 : decode b_R_change 36 = .ok (.iconst 1, 1) := by decide +kernel
theorem d_R_change_37 : decode b_R_change 37 = .ok (.ireturn, 1) := by decide +kernel
theorem d_R_settle_0 : decode b_R_settle 0 = .ok (.aload_n 0, 1) := by decide +kernel
theorem d_R_settle_1 : decode b_R_settle 1 = .ok (.getfield 33, 3) := by decide +kernel
theorem d_R_settle_4 : decode b_R_settle 4 = .ok (.iload_n 2, 1) := by decide +kernel
theorem d_R_settle_5 : decode b_R_settle 5 = .ok (.iload_n 3, 1) := by decide +kernel
theorem d_R_settle_6 : decode b_R_settle 6 = .ok (.iastore, 1) := by decide +kernel
theorem d_R_settle_7 : decode b_R_settle 7 = .ok (.aload_n 0, 1) := by decide +kernel
theorem d_R_settle_8 : decode b_R_settle 8 = .ok (.getfield 36, 3) := by decide +kernel
theorem d_R_settle_11 : decode b_R_settle 11 = .ok (.iload_n 2, 1) := by decide +kernel
theorem d_R_settle_12 : decode b_R_settle 12 = .ok (.iload 4, 2) := by decide +kernel
theorem d_R_settle_14 : decode b_R_settle 14 = .ok (.bastore, 1) := by decide +kernel
theorem d_R_settle_15 : decode b_R_settle 15 = .ok (.aload_n 0, 1) := by decide +kernel
theorem d_R_settle_16 : decode b_R_settle 16 = .ok (.getfield 40, 3) := by decide +kernel
theorem d_R_settle_19 : decode b_R_settle 19 = .ok (.iload_n 2, 1) := by decide +kernel
theorem d_R_settle_20 : decode b_R_settle 20 = .ok (.iload 5, 2) := by decide +kernel
theorem d_R_settle_22 : decode b_R_settle 22 = .ok (.iastore, 1) := by decide +kernel
theorem d_R_settle_23 : decode b_R_settle 23 = .ok (.aload_n 0, 1) := by decide +kernel
theorem d_R_settle_24 : decode b_R_settle 24 = .ok (.getfield 43, 3) := by decide +kernel
theorem d_R_settle_27 : decode b_R_settle 27 = .ok (.iload_n 2, 1) := by decide +kernel
theorem d_R_settle_28 : decode b_R_settle 28 = .ok (.iload 6, 2) := by decide +kernel
theorem d_R_settle_30 : decode b_R_settle 30 = .ok (.iastore, 1) := by decide +kernel
theorem d_R_settle_31 : decode b_R_settle 31 = .ok (.aload_n 0, 1) := by decide +kernel
theorem d_R_settle_32 : decode b_R_settle 32 = .ok (.getfield 13, 3) := by decide +kernel
theorem d_R_settle_35 : decode b_R_settle 35 = .ok (.iload_n 1, 1) := by decide +kernel
theorem d_R_settle_36 : decode b_R_settle 36 = .ok (.iconst 2, 1) := by decide +kernel
theorem d_R_settle_37 : decode b_R_settle 37 = .ok (.iload_n 2, 1) := by decide +kernel
theorem d_R_settle_38 : decode b_R_settle 38 = .ok (.imul, 1) := by decide +kernel
theorem d_R_settle_39 : decode b_R_settle 39 = .ok (.iconst 2, 1) := by decide +kernel
theorem d_R_settle_40 : decode b_R_settle 40 = .ok (.iadd, 1) := by decide +kernel
theorem d_R_settle_41 : decode b_R_settle 41 = .ok (.iastore, 1) := by decide +kernel
theorem d_R_settle_42 : decode b_R_settle 42 = .ok (.aload_n 0, 1) := by decide +kernel
theorem d_R_settle_43 : decode b_R_settle 43 = .ok (.getfield 21, 3) := by decide +kernel
theorem d_R_settle_46 : decode b_R_settle 46 = .ok (.iload_n 2, 1) := by decide +kernel
theorem d_R_settle_47 : decode b_R_settle 47 = .ok (.iaload, 1) := by decide +kernel
theorem d_R_settle_48 : decode b_R_settle 48 = .ok (.ireturn, 1) := by decide +kernel
theorem d_R_context_0 : decode b_R_context 0 = .ok (.aload_n 0, 1) := by decide +kernel
theorem d_R_context_1 : decode b_R_context 1 = .ok (.iload_n 2, 1) := by decide +kernel
theorem d_R_context_2 : decode b_R_context 2 = .ok (.iconst 2, 1) := by decide +kernel
theorem d_R_context_3 : decode b_R_context 3 = .ok (.iconst 2, 1) := by decide +kernel
theorem d_R_context_4 : decode b_R_context 4 = .ok (.invokevirtual 83, 3) := by decide +kernel
theorem d_R_context_7 : decode b_R_context 7 = .ok (.istore 4, 2) := by decide +kernel
theorem d_R_context_9 : decode b_R_context 9 = .ok (.iload_n 1, 1) := by decide +kernel
theorem d_R_context_10 : decode b_R_context 10 = .ok (.invokestatic 76, 3) := by decide +kernel
theorem d_R_context_13 : decode b_R_context 13 = .ok (.ifCond .eq 16, 3) := by decide +kernel
theorem d_R_context_16 : decode b_R_context 16 = .ok (.iload 4, 2) := by decide +kernel
theorem d_R_context_18 : decode b_R_context 18 = .ok (.ifCond .lt 11, 3) := by decide +kernel
theorem d_R_context_21 : decode b_R_context 21 = .ok (.aload_n 0, 1) := by decide +kernel
theorem d_R_context_22 : decode b_R_context 22 = .ok (.iload_n 3, 1) := by decide +kernel
theorem d_R_context_23 : decode b_R_context 23 = .ok (.invokevirtual 134, 3) := by decide +kernel
theorem d_R_context_26 : decode b_R_context 26 = .ok (.ifCond .ne 5, 3) := by decide +kernel
theorem d_R_context_29 : decode b_R_context 29 = .ok (.iconst (-1), 1) := by decide +kernel
theorem d_R_context_30 : decode b_R_context 30 = .ok (.ireturn, 1) := by decide +kernel
theorem d_R_context_31 : decode b_R_context 31 = .ok (.aload_n 0, 1) := by decide +kernel
theorem d_R_context_32 : decode b_R_context 32 = .ok (.getfield 27, 3) := by decide +kernel
theorem d_R_context_35 : decode b_R_context 35 = .ok (.iload 4, 2) := by decide +kernel
theorem d_R_context_37 : decode b_R_context 37 = .ok (.iaload, 1) := by decide +kernel
theorem d_R_context_38 : decode b_R_context 38 = .ok (.istore 5, 2) := by decide +kernel
theorem d_R_context_40 : decode b_R_context 40 = .ok (.aload_n 0, 1) := by decide +kernel
theorem d_R_context_41 : decode b_R_context 41 = .ok (.getfield 30, 3) := by decide +kernel
theorem d_R_context_44 : decode b_R_context 44 = .ok (.iload 4, 2) := by decide +kernel
theorem d_R_context_46 : decode b_R_context 46 = .ok (.iaload, 1) := by decide +kernel
theorem d_R_context_47 : decode b_R_context 47 = .ok (.istore 6, 2) := by decide +kernel
theorem d_R_context_49 : decode b_R_context 49 = .ok (.aload_n 0, 1) := by decide +kernel
theorem d_R_context_50 : decode b_R_context 50 = .ok (.iconst 3, 1) := by decide +kernel
theorem d_R_context_51 : decode b_R_context 51 = .ok (.bipush 9, 2) := by decide +kernel
theorem d_R_context_53 : decode b_R_context 53 = .ok (.iload 5, 2) := by decide +kernel
theorem d_R_context_55 : decode b_R_context 55 = .ok (.iadd, 1) := by decide +kernel
theorem d_R_context_56 : decode b_R_context 56 = .ok (.iload 6, 2) := by decide +kernel
theorem d_R_context_58 : decode b_R_context 58 = .ok (.iadd, 1) := by decide +kernel
theorem d_R_context_59 : decode b_R_context 59 = .ok (.iconst 1, 1) := by decide +kernel
theorem d_R_context_60 : decode b_R_context 60 = .ok (.iload 5, 2) := by decide +kernel
theorem d_R_context_62 : decode b_R_context 62 = .ok (.iload 6, 2) := by decide +kernel
theorem d_R_context_64 : decode b_R_context 64 = .ok (.iadd, 1) := by decide +kernel
theorem d_R_context_65 : decode b_R_context 65 = .ok (.invokevirtual 126, 3) := by decide +kernel
theorem d_R_context_68 : decode b_R_context 68 = .ok (.istore 7, 2) := by decide +kernel
theorem d_R_context_70 : decode b_R_context 70 = .ok (.iload 7, 2) := by decide +kernel
theorem d_R_context_72 : decode b_R_context 72 = .ok (.ifCond .ge 8, 3) := by decide +kernel
theorem d_R_context_75 : decode b_R_context 75 = .ok (.bipush (-2), 2) := by decide +kernel
theorem d_R_context_77 : decode b_R_context 77 = .ok (.goto 21, 3) := by decide +kernel
theorem d_R_context_80 : decode b_R_context 80 = .ok (.aload_n 0, 1) := by decide +kernel
theorem d_R_context_81 : decode b_R_context 81 = .ok (.iload_n 1, 1) := by decide +kernel
theorem d_R_context_82 : decode b_R_context 82 = .ok (.iload 7, 2) := by decide +kernel
theorem d_R_context_84 : decode b_R_context 84 = .ok (.aload_n 0, 1) := by decide +kernel
theorem d_R_context_85 : decode b_R_context 85 = .ok (.getfield 13, 3) := by decide +kernel
theorem d_R_context_88 : decode b_R_context 88 = .ok (.iload_n 3, 1) := by decide +kernel
theorem d_R_context_89 : decode b_R_context 89 = .ok (.iaload, 1) := by decide +kernel
theorem d_R_context_90 : decode b_R_context 90 = .ok (.iconst 0, 1) := by decide +kernel
theorem d_R_context_91 : decode b_R_context 91 = .ok (.iload 5, 2) := by decide +kernel
theorem d_R_context_93 : decode b_R_context 93 = .ok (.iload 4, 2) := by decide +kernel
theorem d_R_context_95 : decode b_R_context 95 = .ok (.invokevirtual 137, 3) := by decide +kernel
theorem d_R_context_98 : decode b_R_context 98 = .ok (.ireturn, 1) := by decide +kernel
theorem d_R_homeOf_0 : decode b_R_homeOf 0 = .ok (.aload_n 0, 1) := by decide +kernel
theorem d_R_homeOf_1 : decode b_R_homeOf 1 = .ok (.getfield 17, 3) := by decide +kernel
theorem d_R_homeOf_4 : decode b_R_homeOf 4 = .ok (.iload_n 1, 1) := by decide +kernel
theorem d_R_homeOf_5 : decode b_R_homeOf 5 = .ok (.baload, 1) := by decide +kernel
theorem d_R_homeOf_6 : decode b_R_homeOf 6 = .ok (.iconst 4, 1) := by decide +kernel
theorem d_R_homeOf_7 : decode b_R_homeOf 7 = .ok (.if_icmp .ne 12, 3) := by decide +kernel
theorem d_R_homeOf_10 : decode b_R_homeOf 10 = .ok (.aload_n 0, 1) := by decide +kernel
theorem d_R_homeOf_11 : decode b_R_homeOf 11 = .ok (.getfield 43, 3) := by decide +kernel
theorem d_R_homeOf_14 : decode b_R_homeOf 14 = .ok (.iload_n 1, 1) := by decide +kernel
theorem d_R_homeOf_15 : decode b_R_homeOf 15 = .ok (.iaload, 1) := by decide +kernel
theorem d_R_homeOf_16 : decode b_R_homeOf 16 = .ok (.goto 4, 3) := by decide +kernel
theorem d_R_homeOf_19 : decode b_R_homeOf 19 = .ok (.iload_n 1, 1) := by decide +kernel
theorem d_R_homeOf_20 : decode b_R_homeOf 20 = .ok (.ireturn, 1) := by decide +kernel
theorem d_R_block_0 : decode b_R_block 0 = .ok (.aload_n 0, 1) := by decide +kernel
theorem d_R_block_1 : decode b_R_block 1 = .ok (.iload_n 2, 1) := by decide +kernel
theorem d_R_block_2 : decode b_R_block 2 = .ok (.invokevirtual 87, 3) := by decide +kernel
theorem d_R_block_5 : decode b_R_block 5 = .ok (.istore 4, 2) := by decide +kernel
theorem d_R_block_7 : decode b_R_block 7 = .ok (.iload_n 1, 1) := by decide +kernel
theorem d_R_block_8 : decode b_R_block 8 = .ok (.invokestatic 76, 3) := by decide +kernel
theorem d_R_block_11 : decode b_R_block 11 = .ok (.ifCond .eq 18, 3) := by decide +kernel
theorem d_R_block_14 : decode b_R_block 14 = .ok (.iload 4, 2) := by decide +kernel
theorem d_R_block_16 : decode b_R_block 16 = .ok (.ifCond .lt 13, 3) := by decide +kernel
theorem d_R_block_19 : decode b_R_block 19 = .ok (.iload_n 3, 1) := by decide +kernel
theorem d_R_block_20 : decode b_R_block 20 = .ok (.ifCond .lt 9, 3) := by decide +kernel
theorem d_R_block_23 : decode b_R_block 23 = .ok (.iload_n 3, 1) := by decide +kernel
theorem d_R_block_24 : decode b_R_block 24 = .ok (.bipush 15, 2) := by decide +kernel
theorem d_R_block_26 : decode b_R_block 26 = .ok (.if_icmp .le 5, 3) := by decide +kernel
theorem d_R_block_29 : decode b_R_block 29 = .ok (.iconst (-1), 1) := by decide +kernel
theorem d_R_block_30 : decode b_R_block 30 = .ok (.ireturn, 1) := by decide +kernel
theorem d_R_block_31 : decode b_R_block 31 = .ok (.aload_n 0, 1) := by decide +kernel
theorem d_R_block_32 : decode b_R_block 32 = .ok (.iload 4, 2) := by decide +kernel
theorem d_R_block_34 : decode b_R_block 34 = .ok (.invokevirtual 141, 3) := by decide +kernel
theorem d_R_block_37 : decode b_R_block 37 = .ok (.istore 5, 2) := by decide +kernel
theorem d_R_block_39 : decode b_R_block 39 = .ok (.aload_n 0, 1) := by decide +kernel
theorem d_R_block_40 : decode b_R_block 40 = .ok (.getfield 30, 3) := by decide +kernel
theorem d_R_block_43 : decode b_R_block 43 = .ok (.aload_n 0, 1) := by decide +kernel
theorem d_R_block_44 : decode b_R_block 44 = .ok (.getfield 43, 3) := by decide +kernel
theorem d_R_block_47 : decode b_R_block 47 = .ok (.iload 5, 2) := by decide +kernel
theorem d_R_block_49 : decode b_R_block 49 = .ok (.iaload, 1) := by decide +kernel
theorem d_R_block_50 : decode b_R_block 50 = .ok (.iaload, 1) := by decide +kernel
theorem d_R_block_51 : decode b_R_block 51 = .ok (.istore 6, 2) := by decide +kernel
theorem d_R_block_53 : decode b_R_block 53 = .ok (.aload_n 0, 1) := by decide +kernel
theorem d_R_block_54 : decode b_R_block 54 = .ok (.iconst 4, 1) := by decide +kernel
theorem d_R_block_55 : decode b_R_block 55 = .ok (.bipush 10, 2) := by decide +kernel
theorem d_R_block_57 : decode b_R_block 57 = .ok (.iload 6, 2) := by decide +kernel
theorem d_R_block_59 : decode b_R_block 59 = .ok (.iadd, 1) := by decide +kernel
theorem d_R_block_60 : decode b_R_block 60 = .ok (.iconst 1, 1) := by decide +kernel
theorem d_R_block_61 : decode b_R_block 61 = .ok (.iload 6, 2) := by decide +kernel
theorem d_R_block_63 : decode b_R_block 63 = .ok (.invokevirtual 126, 3) := by decide +kernel
theorem d_R_block_66 : decode b_R_block 66 = .ok (.istore 7, 2) := by decide +kernel
theorem d_R_block_68 : decode b_R_block 68 = .ok (.iload 7, 2) := by decide +kernel
theorem d_R_block_70 : decode b_R_block 70 = .ok (.ifCond .ge 6, 3) := by decide +kernel
theorem d_R_block_73 : decode b_R_block 73 = .ok (.bipush (-2), 2) := by decide +kernel
theorem d_R_block_75 : decode b_R_block 75 = .ok (.ireturn, 1) := by decide +kernel
theorem d_R_block_76 : decode b_R_block 76 = .ok (.aload_n 0, 1) := by decide +kernel
theorem d_R_block_77 : decode b_R_block 77 = .ok (.getfield 46, 3) := by decide +kernel
theorem d_R_block_80 : decode b_R_block 80 = .ok (.iload 7, 2) := by decide +kernel
theorem d_R_block_82 : decode b_R_block 82 = .ok (.iload_n 3, 1) := by decide +kernel
theorem d_R_block_83 : decode b_R_block 83 = .ok (.iastore, 1) := by decide +kernel
theorem d_R_block_84 : decode b_R_block 84 = .ok (.aload_n 0, 1) := by decide +kernel
theorem d_R_block_85 : decode b_R_block 85 = .ok (.iload_n 1, 1) := by decide +kernel
theorem d_R_block_86 : decode b_R_block 86 = .ok (.iload 7, 2) := by decide +kernel
theorem d_R_block_88 : decode b_R_block 88 = .ok (.iconst 0, 1) := by decide +kernel
theorem d_R_block_89 : decode b_R_block 89 = .ok (.iconst 1, 1) := by decide +kernel
theorem d_R_block_90 : decode b_R_block 90 = .ok (.iconst 0, 1) := by decide +kernel
theorem d_R_block_91 : decode b_R_block 91 = .ok (.iload 5, 2) := by decide +kernel
theorem d_R_block_93 : decode b_R_block 93 = .ok (.invokevirtual 137, 3) := by decide +kernel
theorem d_R_block_96 : decode b_R_block 96 = .ok (.ireturn, 1) := by decide +kernel
theorem d_R_floorOf_0 : decode b_R_floorOf 0 = .ok (.aload_n 0, 1) := by decide +kernel
theorem d_R_floorOf_1 : decode b_R_floorOf 1 = .ok (.getfield 17, 3) := by decide +kernel
theorem d_R_floorOf_4 : decode b_R_floorOf 4 = .ok (.iload_n 1, 1) := by decide +kernel
theorem d_R_floorOf_5 : decode b_R_floorOf 5 = .ok (.baload, 1) := by decide +kernel
theorem d_R_floorOf_6 : decode b_R_floorOf 6 = .ok (.iconst 4, 1) := by decide +kernel
theorem d_R_floorOf_7 : decode b_R_floorOf 7 = .ok (.if_icmp .ne 7, 3) := by decide +kernel
theorem d_R_floorOf_10 : decode b_R_floorOf 10 = .ok (.iconst 0, 1) := by decide +kernel
theorem d_R_floorOf_11 : decode b_R_floorOf 11 = .ok (.goto 14, 3) := by decide +kernel
theorem d_R_floorOf_14 : decode b_R_floorOf 14 = .ok (.aload_n 0, 1) := by decide +kernel
theorem d_R_floorOf_15 : decode b_R_floorOf 15 = .ok (.getfield 27, 3) := by decide +kernel
theorem d_R_floorOf_18 : decode b_R_floorOf 18 = .ok (.aload_n 0, 1) := by decide +kernel
theorem d_R_floorOf_19 : decode b_R_floorOf 19 = .ok (.getfield 43, 3) := by decide +kernel
theorem d_R_floorOf_22 : decode b_R_floorOf 22 = .ok (.iload_n 1, 1) := by decide +kernel
theorem d_R_floorOf_23 : decode b_R_floorOf 23 = .ok (.iaload, 1) := by decide +kernel
theorem d_R_floorOf_24 : decode b_R_floorOf 24 = .ok (.iaload, 1) := by decide +kernel
theorem d_R_floorOf_25 : decode b_R_floorOf 25 = .ok (.ireturn, 1) := by decide +kernel
theorem d_R_pushes_0 : decode b_R_pushes 0 = .ok (.aload_n 0, 1) := by decide +kernel
theorem d_R_pushes_1 : decode b_R_pushes 1 = .ok (.getfield 40, 3) := by decide +kernel
theorem d_R_pushes_4 : decode b_R_pushes 4 = .ok (.iload_n 1, 1) := by decide +kernel
theorem d_R_pushes_5 : decode b_R_pushes 5 = .ok (.iaload, 1) := by decide +kernel
theorem d_R_pushes_6 : decode b_R_pushes 6 = .ok (.aload_n 0, 1) := by decide +kernel
theorem d_R_pushes_7 : decode b_R_pushes 7 = .ok (.getfield 52, 3) := by decide +kernel
theorem d_R_pushes_10 : decode b_R_pushes 10 = .ok (.iload_n 1, 1) := by decide +kernel
theorem d_R_pushes_11 : decode b_R_pushes 11 = .ok (.iaload, 1) := by decide +kernel
theorem d_R_pushes_12 : decode b_R_pushes 12 = .ok (.if_icmp .ne 5, 3) := by decide +kernel
theorem d_R_pushes_15 : decode b_R_pushes 15 = .ok (.iconst 0, 1) := by decide +kernel
theorem d_R_pushes_16 : decode b_R_pushes 16 = .ok (.ireturn, 1) := by decide +kernel
theorem d_R_pushes_17 : decode b_R_pushes 17 = .ok (.aload_n 0, 1) := by decide +kernel
theorem d_R_pushes_18 : decode b_R_pushes 18 = .ok (.getfield 56, 3) := by decide +kernel
theorem d_R_pushes_21 : decode b_R_pushes 21 = .ok (.aload_n 0, 1) := by decide +kernel
theorem d_R_pushes_22 : decode b_R_pushes 22 = .ok (.getfield 49, 3) := by decide +kernel
theorem d_R_pushes_25 : decode b_R_pushes 25 = .ok (.iload_n 1, 1) := by decide +kernel
theorem d_R_pushes_26 : decode b_R_pushes 26 = .ok (.iaload, 1) := by decide +kernel
theorem d_R_pushes_27 : decode b_R_pushes 27 = .ok (.aload_n 0, 1) := by decide +kernel
theorem d_R_pushes_28 : decode b_R_pushes 28 = .ok (.getfield 40, 3) := by decide +kernel
theorem d_R_pushes_31 : decode b_R_pushes 31 = .ok (.iload_n 1, 1) := by decide +kernel
theorem d_R_pushes_32 : decode b_R_pushes 32 = .ok (.iaload, 1) := by decide +kernel
theorem d_R_pushes_33 : decode b_R_pushes 33 = .ok (.iadd, 1) := by decide +kernel
theorem d_R_pushes_34 : decode b_R_pushes 34 = .ok (.iload_n 2, 1) := by decide +kernel
theorem d_R_pushes_35 : decode b_R_pushes 35 = .ok (.iastore, 1) := by decide +kernel
theorem d_R_pushes_36 : decode b_R_pushes 36 = .ok (.aload_n 0, 1) := by decide +kernel
theorem d_R_pushes_37 : decode b_R_pushes 37 = .ok (.getfield 40, 3) := by decide +kernel
theorem d_R_pushes_40 : decode b_R_pushes 40 = .ok (.iload_n 1, 1) := by decide +kernel
theorem d_R_pushes_41 : decode b_R_pushes 41 = .ok (.dup2, 1) := by decide +kernel
theorem d_R_pushes_42 : decode b_R_pushes 42 = .ok (.iaload, 1) := by decide +kernel
theorem d_R_pushes_43 : decode b_R_pushes 43 = .ok (.iconst 1, 1) := by decide +kernel
theorem d_R_pushes_44 : decode b_R_pushes 44 = .ok (.iadd, 1) := by decide +kernel
theorem d_R_pushes_45 : decode b_R_pushes 45 = .ok (.iastore, 1) := by decide +kernel
theorem d_R_pushes_46 : decode b_R_pushes 46 = .ok (.iconst 1, 1) := by decide +kernel
theorem d_R_pushes_47 : decode b_R_pushes 47 = .ok (.ireturn, 1) := by decide +kernel
theorem d_R_push_0 : decode b_R_push 0 = .ok (.aload_n 0, 1) := by decide +kernel
theorem d_R_push_1 : decode b_R_push 1 = .ok (.iload_n 1, 1) := by decide +kernel
theorem d_R_push_2 : decode b_R_push 2 = .ok (.invokevirtual 87, 3) := by decide +kernel
theorem d_R_push_5 : decode b_R_push 5 = .ok (.istore_n 3, 1) := by decide +kernel
theorem d_R_push_6 : decode b_R_push 6 = .ok (.iload_n 3, 1) := by decide +kernel
theorem d_R_push_7 : decode b_R_push 7 = .ok (.ifCond .lt 28, 3) := by decide +kernel
theorem d_R_push_10 : decode b_R_push 10 = .ok (.iload_n 2, 1) := by decide +kernel
theorem d_R_push_11 : decode b_R_push 11 = .ok (.invokestatic 76, 3) := by decide +kernel
theorem d_R_push_14 : decode b_R_push 14 = .ok (.ifCond .eq 21, 3) := by decide +kernel
theorem d_R_push_17 : decode b_R_push 17 = .ok (.aload_n 0, 1) := by decide +kernel
theorem d_R_push_18 : decode b_R_push 18 = .ok (.iload_n 3, 1) := by decide +kernel
theorem d_R_push_19 : decode b_R_push 19 = .ok (.aload_n 0, 1) := by decide +kernel
theorem d_R_push_20 : decode b_R_push 20 = .ok (.getfield 13, 3) := by decide +kernel
theorem d_R_push_23 : decode b_R_push 23 = .ok (.iload_n 2, 1) := by decide +kernel
theorem d_R_push_24 : decode b_R_push 24 = .ok (.iaload, 1) := by decide +kernel
theorem d_R_push_25 : decode b_R_push 25 = .ok (.invokevirtual 144, 3) := by decide +kernel
theorem d_R_push_28 : decode b_R_push 28 = .ok (.ifCond .eq 7, 3) := by decide +kernel
theorem d_R_push_31 : decode b_R_push 31 = .ok (.iconst 1, 1) := by decide +kernel
theorem d_R_push_32 : decode b_R_push 32 = .ok (.goto 4, 3) := by decide +kernel
theorem d_R_push_35 : decode b_R_push 35 = .ok (.iconst 0, 1) := by decide +kernel
theorem d_R_push_36 : decode b_R_push 36 = .ok (.ireturn, 1) := by decide +kernel
theorem d_R_fill_0 : decode b_R_fill 0 = .ok (.aload_n 0, 1) := by decide +kernel
theorem d_R_fill_1 : decode b_R_fill 1 = .ok (.iload_n 1, 1) := by decide +kernel
theorem d_R_fill_2 : decode b_R_fill 2 = .ok (.invokevirtual 87, 3) := by decide +kernel
theorem d_R_fill_5 : decode b_R_fill 5 = .ok (.istore 4, 2) := by decide +kernel
theorem d_R_fill_7 : decode b_R_fill 7 = .ok (.iload 4, 2) := by decide +kernel
theorem d_R_fill_9 : decode b_R_fill 9 = .ok (.ifCond .lt 13, 3) := by decide +kernel
theorem d_R_fill_12 : decode b_R_fill 12 = .ok (.iload_n 3, 1) := by decide +kernel
theorem d_R_fill_13 : decode b_R_fill 13 = .ok (.ifCond .lt 9, 3) := by decide +kernel
theorem d_R_fill_16 : decode b_R_fill 16 = .ok (.iload_n 3, 1) := by decide +kernel
theorem d_R_fill_17 : decode b_R_fill 17 = .ok (.bipush 100, 2) := by decide +kernel
theorem d_R_fill_19 : decode b_R_fill 19 = .ok (.if_icmp .le 5, 3) := by decide +kernel
theorem d_R_fill_22 : decode b_R_fill 22 = .ok (.iconst (-1), 1) := by decide +kernel
theorem d_R_fill_23 : decode b_R_fill 23 = .ok (.ireturn, 1) := by decide +kernel
theorem d_R_fill_24 : decode b_R_fill 24 = .ok (.iconst 0, 1) := by decide +kernel
theorem d_R_fill_25 : decode b_R_fill 25 = .ok (.istore 5, 2) := by decide +kernel
theorem d_R_fill_27 : decode b_R_fill 27 = .ok (.iload 5, 2) := by decide +kernel
theorem d_R_fill_29 : decode b_R_fill 29 = .ok (.iload_n 3, 1) := by decide +kernel
theorem d_R_fill_30 : decode b_R_fill 30 = .ok (.if_icmp .ge 27, 3) := by decide +kernel
theorem d_R_fill_33 : decode b_R_fill 33 = .ok (.iload_n 2, 1) := by decide +kernel
theorem d_R_fill_34 : decode b_R_fill 34 = .ok (.invokestatic 116, 3) := by decide +kernel
theorem d_R_fill_37 : decode b_R_fill 37 = .ok (.ifCond .eq 12, 3) := by decide +kernel
theorem d_R_fill_40 : decode b_R_fill 40 = .ok (.iload_n 2, 1) := by decide +kernel
theorem d_R_fill_41 : decode b_R_fill 41 = .ok (.ldc 75, 2) := by decide +kernel
theorem d_R_fill_43 : decode b_R_fill 43 = .ok (.iload 5, 2) := by decide +kernel
theorem d_R_fill_45 : decode b_R_fill 45 = .ok (.isub, 1) := by decide +kernel
theorem d_R_fill_46 : decode b_R_fill 46 = .ok (.if_icmp .le 5, 3) := by decide +kernel
theorem d_R_fill_49 : decode b_R_fill 49 = .ok (.iconst (-1), 1) := by decide +kernel
theorem d_R_fill_50 : decode b_R_fill 50 = .ok (.ireturn, 1) := by decide +kernel
theorem d_R_fill_51 : decode b_R_fill 51 = .ok (.iinc 5 1, 3) := by decide +kernel
theorem d_R_fill_54 : decode b_R_fill 54 = .ok (.goto (-27), 3) := by decide +kernel
theorem d_R_fill_57 : decode b_R_fill 57 = .ok (.iconst 0, 1) := by decide +kernel
theorem d_R_fill_58 : decode b_R_fill 58 = .ok (.istore 5, 2) := by decide +kernel
theorem d_R_fill_60 : decode b_R_fill 60 = .ok (.iload 5, 2) := by decide +kernel
theorem d_R_fill_62 : decode b_R_fill 62 = .ok (.iload_n 3, 1) := by decide +kernel
theorem d_R_fill_63 : decode b_R_fill 63 = .ok (.if_icmp .ge 25, 3) := by decide +kernel
theorem d_R_fill_66 : decode b_R_fill 66 = .ok (.aload_n 0, 1) := by decide +kernel
theorem d_R_fill_67 : decode b_R_fill 67 = .ok (.iload 4, 2) := by decide +kernel
theorem d_R_fill_69 : decode b_R_fill 69 = .ok (.iload_n 2, 1) := by decide +kernel
theorem d_R_fill_70 : decode b_R_fill 70 = .ok (.iload 5, 2) := by decide +kernel
theorem d_R_fill_72 : decode b_R_fill 72 = .ok (.iadd, 1) := by decide +kernel
theorem d_R_fill_73 : decode b_R_fill 73 = .ok (.invokestatic 119, 3) := by decide +kernel
theorem d_R_fill_76 : decode b_R_fill 76 = .ok (.invokevirtual 144, 3) := by decide +kernel
theorem d_R_fill_79 : decode b_R_fill 79 = .ok (.ifCond .eq 9, 3) := by decide +kernel
theorem d_R_fill_82 : decode b_R_fill 82 = .ok (.iinc 5 1, 3) := by decide +kernel
theorem d_R_fill_85 : decode b_R_fill 85 = .ok (.goto (-25), 3) := by decide +kernel
theorem d_R_fill_88 : decode b_R_fill 88 = .ok (.iload 5, 2) := by decide +kernel
theorem d_R_fill_90 : decode b_R_fill 90 = .ok (.ireturn, 1) := by decide +kernel
theorem d_R_popped_0 : decode b_R_popped 0 = .ok (.aload_n 0, 1) := by decide +kernel
theorem d_R_popped_1 : decode b_R_popped 1 = .ok (.getfield 40, 3) := by decide +kernel
theorem d_R_popped_4 : decode b_R_popped 4 = .ok (.iload_n 1, 1) := by decide +kernel
theorem d_R_popped_5 : decode b_R_popped 5 = .ok (.dup2, 1) := by decide +kernel
theorem d_R_popped_6 : decode b_R_popped 6 = .ok (.iaload, 1) := by decide +kernel
theorem d_R_popped_7 : decode b_R_popped 7 = .ok (.iconst 1, 1) := by decide +kernel
theorem d_R_popped_8 : decode b_R_popped 8 = .ok (.isub, 1) := by decide +kernel
theorem d_R_popped_9 : decode b_R_popped 9 = .ok (.iastore, 1) := by decide +kernel
theorem d_R_popped_10 : decode b_R_popped 10 = .ok (.aload_n 0, 1) := by decide +kernel
theorem d_R_popped_11 : decode b_R_popped 11 = .ok (.getfield 56, 3) := by decide +kernel
theorem d_R_popped_14 : decode b_R_popped 14 = .ok (.aload_n 0, 1) := by decide +kernel
theorem d_R_popped_15 : decode b_R_popped 15 = .ok (.getfield 49, 3) := by decide +kernel
theorem d_R_popped_18 : decode b_R_popped 18 = .ok (.iload_n 1, 1) := by decide +kernel
theorem d_R_popped_19 : decode b_R_popped 19 = .ok (.iaload, 1) := by decide +kernel
theorem d_R_popped_20 : decode b_R_popped 20 = .ok (.aload_n 0, 1) := by decide +kernel
theorem d_R_popped_21 : decode b_R_popped 21 = .ok (.getfield 40, 3) := by decide +kernel
theorem d_R_popped_24 : decode b_R_popped 24 = .ok (.iload_n 1, 1) := by decide +kernel
theorem d_R_popped_25 : decode b_R_popped 25 = .ok (.iaload, 1) := by decide +kernel
theorem d_R_popped_26 : decode b_R_popped 26 = .ok (.iadd, 1) := by decide +kernel
theorem d_R_popped_27 : decode b_R_popped 27 = .ok (.iaload, 1) := by decide +kernel
theorem d_R_popped_28 : decode b_R_popped 28 = .ok (.istore_n 2, 1) := by decide +kernel
theorem d_R_popped_29 : decode b_R_popped 29 = .ok (.aload_n 0, 1) := by decide +kernel
theorem d_R_popped_30 : decode b_R_popped 30 = .ok (.getfield 56, 3) := by decide +kernel
theorem d_R_popped_33 : decode b_R_popped 33 = .ok (.aload_n 0, 1) := by decide +kernel
theorem d_R_popped_34 : decode b_R_popped 34 = .ok (.getfield 49, 3) := by decide +kernel
theorem d_R_popped_37 : decode b_R_popped 37 = .ok (.iload_n 1, 1) := by decide +kernel
theorem d_R_popped_38 : decode b_R_popped 38 = .ok (.iaload, 1) := by decide +kernel
theorem d_R_popped_39 : decode b_R_popped 39 = .ok (.aload_n 0, 1) := by decide +kernel
theorem d_R_popped_40 : decode b_R_popped 40 = .ok (.getfield 40, 3) := by decide +kernel
theorem d_R_popped_43 : decode b_R_popped 43 = .ok (.iload_n 1, 1) := by decide +kernel
theorem d_R_popped_44 : decode b_R_popped 44 = .ok (.iaload, 1) := by decide +kernel
theorem d_R_popped_45 : decode b_R_popped 45 = .ok (.iadd, 1) := by decide +kernel
theorem d_R_popped_46 : decode b_R_popped 46 = .ok (.iconst 0, 1) := by decide +kernel
theorem d_R_popped_47 : decode b_R_popped 47 = .ok (.iastore, 1) := by decide +kernel
theorem d_R_popped_48 : decode b_R_popped 48 = .ok (.iload_n 2, 1) := by decide +kernel
theorem d_R_popped_49 : decode b_R_popped 49 = .ok (.ireturn, 1) := by decide +kernel
theorem d_R_pop_0 : decode b_R_pop 0 = .ok (.aload_n 0, 1) := by decide +kernel
theorem d_R_pop_1 : decode b_R_pop 1 = .ok (.iload_n 2, 1) := by decide +kernel
theorem d_R_pop_2 : decode b_R_pop 2 = .ok (.invokevirtual 87, 3) := by decide +kernel
theorem d_R_pop_5 : decode b_R_pop 5 = .ok (.istore_n 3, 1) := by decide +kernel
theorem d_R_pop_6 : decode b_R_pop 6 = .ok (.iload_n 3, 1) := by decide +kernel
theorem d_R_pop_7 : decode b_R_pop 7 = .ok (.ifCond .lt 24, 3) := by decide +kernel
theorem d_R_pop_10 : decode b_R_pop 10 = .ok (.iload_n 1, 1) := by decide +kernel
theorem d_R_pop_11 : decode b_R_pop 11 = .ok (.invokestatic 76, 3) := by decide +kernel
theorem d_R_pop_14 : decode b_R_pop 14 = .ok (.ifCond .eq 17, 3) := by decide +kernel
theorem d_R_pop_17 : decode b_R_pop 17 = .ok (.aload_n 0, 1) := by decide +kernel
theorem d_R_pop_18 : decode b_R_pop 18 = .ok (.getfield 40, 3) := by decide +kernel
theorem d_R_pop_21 : decode b_R_pop 21 = .ok (.iload_n 3, 1) := by decide +kernel
theorem d_R_pop_22 : decode b_R_pop 22 = .ok (.iaload, 1) := by decide +kernel
theorem d_R_pop_23 : decode b_R_pop 23 = .ok (.aload_n 0, 1) := by decide +kernel
theorem d_R_pop_24 : decode b_R_pop 24 = .ok (.iload_n 3, 1) := by decide +kernel
theorem d_R_pop_25 : decode b_R_pop 25 = .ok (.invokevirtual 148, 3) := by decide +kernel
theorem d_R_pop_28 : decode b_R_pop 28 = .ok (.if_icmp .gt 5, 3) := by decide +kernel
theorem d_R_pop_31 : decode b_R_pop 31 = .ok (.iconst 0, 1) := by decide +kernel
theorem d_R_pop_32 : decode b_R_pop 32 = .ok (.ireturn, 1) := by decide +kernel
theorem d_R_pop_33 : decode b_R_pop 33 = .ok (.aload_n 0, 1) := by decide +kernel
theorem d_R_pop_34 : decode b_R_pop 34 = .ok (.getfield 13, 3) := by decide +kernel
theorem d_R_pop_37 : decode b_R_pop 37 = .ok (.iload_n 1, 1) := by decide +kernel
theorem d_R_pop_38 : decode b_R_pop 38 = .ok (.aload_n 0, 1) := by decide +kernel
theorem d_R_pop_39 : decode b_R_pop 39 = .ok (.iload_n 3, 1) := by decide +kernel
theorem d_R_pop_40 : decode b_R_pop 40 = .ok (.invokevirtual 151, 3) := by decide +kernel
theorem d_R_pop_43 : decode b_R_pop 43 = .ok (.iastore, 1) := by decide +kernel
theorem d_R_pop_44 : decode b_R_pop 44 = .ok (.iconst 1, 1) := by decide +kernel
theorem d_R_pop_45 : decode b_R_pop 45 = .ok (.ireturn, 1) := by decide +kernel
theorem d_R_peek_0 : decode b_R_peek 0 = .ok (.aload_n 0, 1) := by decide +kernel
theorem d_R_peek_1 : decode b_R_peek 1 = .ok (.iload_n 2, 1) := by decide +kernel
theorem d_R_peek_2 : decode b_R_peek 2 = .ok (.invokevirtual 87, 3) := by decide +kernel
theorem d_R_peek_5 : decode b_R_peek 5 = .ok (.istore 4, 2) := by decide +kernel
theorem d_R_peek_7 : decode b_R_peek 7 = .ok (.iload 4, 2) := by decide +kernel
theorem d_R_peek_9 : decode b_R_peek 9 = .ok (.ifCond .lt 32, 3) := by decide +kernel
theorem d_R_peek_12 : decode b_R_peek 12 = .ok (.iload_n 1, 1) := by decide +kernel
theorem d_R_peek_13 : decode b_R_peek 13 = .ok (.invokestatic 76, 3) := by decide +kernel
theorem d_R_peek_16 : decode b_R_peek 16 = .ok (.ifCond .eq 25, 3) := by decide +kernel
theorem d_R_peek_19 : decode b_R_peek 19 = .ok (.iload_n 3, 1) := by decide +kernel
theorem d_R_peek_20 : decode b_R_peek 20 = .ok (.ifCond .lt 21, 3) := by decide +kernel
theorem d_R_peek_23 : decode b_R_peek 23 = .ok (.iload_n 3, 1) := by decide +kernel
theorem d_R_peek_24 : decode b_R_peek 24 = .ok (.aload_n 0, 1) := by decide +kernel
theorem d_R_peek_25 : decode b_R_peek 25 = .ok (.getfield 40, 3) := by decide +kernel
theorem d_R_peek_28 : decode b_R_peek 28 = .ok (.iload 4, 2) := by decide +kernel
theorem d_R_peek_30 : decode b_R_peek 30 = .ok (.iaload, 1) := by decide +kernel
theorem d_R_peek_31 : decode b_R_peek 31 = .ok (.aload_n 0, 1) := by decide +kernel
theorem d_R_peek_32 : decode b_R_peek 32 = .ok (.iload 4, 2) := by decide +kernel
theorem d_R_peek_34 : decode b_R_peek 34 = .ok (.invokevirtual 148, 3) := by decide +kernel
theorem d_R_peek_37 : decode b_R_peek 37 = .ok (.isub, 1) := by decide +kernel
theorem d_R_peek_38 : decode b_R_peek 38 = .ok (.if_icmp .lt 5, 3) := by decide +kernel
theorem d_R_peek_41 : decode b_R_peek 41 = .ok (.iconst 0, 1) := by decide +kernel
theorem d_R_peek_42 : decode b_R_peek 42 = .ok (.ireturn, 1) := by decide +kernel
theorem d_R_peek_43 : decode b_R_peek 43 = .ok (.aload_n 0, 1) := by decide +kernel
theorem d_R_peek_44 : decode b_R_peek 44 = .ok (.getfield 13, 3) := by decide +kernel
theorem d_R_peek_47 : decode b_R_peek 47 = .ok (.iload_n 1, 1) := by decide +kernel
theorem d_R_peek_48 : decode b_R_peek 48 = .ok (.aload_n 0, 1) := by decide +kernel
theorem d_R_peek_49 : decode b_R_peek 49 = .ok (.getfield 56, 3) := by decide +kernel
theorem d_R_peek_52 : decode b_R_peek 52 = .ok (.aload_n 0, 1) := by decide +kernel
theorem d_R_peek_53 : decode b_R_peek 53 = .ok (.getfield 49, 3) := by decide +kernel
theorem d_R_peek_56 : decode b_R_peek 56 = .ok (.iload 4, 2) := by decide +kernel
theorem d_R_peek_58 : decode b_R_peek 58 = .ok (.iaload, 1) := by decide +kernel
theorem d_R_peek_59 : decode b_R_peek 59 = .ok (.aload_n 0, 1) := by decide +kernel
theorem d_R_peek_60 : decode b_R_peek 60 = .ok (.getfield 40, 3) := by decide +kernel
theorem d_R_peek_63 : decode b_R_peek 63 = .ok (.iload 4, 2) := by decide +kernel
theorem d_R_peek_65 : decode b_R_peek 65 = .ok (.iaload, 1) := by decide +kernel
theorem d_R_peek_66 : decode b_R_peek 66 = .ok (.iadd, 1) := by decide +kernel
theorem d_R_peek_67 : decode b_R_peek 67 = .ok (.iconst 1, 1) := by decide +kernel
theorem d_R_peek_68 : decode b_R_peek 68 = .ok (.isub, 1) := by decide +kernel
theorem d_R_peek_69 : decode b_R_peek 69 = .ok (.iload_n 3, 1) := by decide +kernel
theorem d_R_peek_70 : decode b_R_peek 70 = .ok (.isub, 1) := by decide +kernel
theorem d_R_peek_71 : decode b_R_peek 71 = .ok (.iaload, 1) := by decide +kernel
theorem d_R_peek_72 : decode b_R_peek 72 = .ok (.iastore, 1) := by decide +kernel
theorem d_R_peek_73 : decode b_R_peek 73 = .ok (.iconst 1, 1) := by decide +kernel
theorem d_R_peek_74 : decode b_R_peek 74 = .ok (.ireturn, 1) := by decide +kernel
theorem d_R_drop_0 : decode b_R_drop 0 = .ok (.aload_n 0, 1) := by decide +kernel
theorem d_R_drop_1 : decode b_R_drop 1 = .ok (.iload_n 1, 1) := by decide +kernel
theorem d_R_drop_2 : decode b_R_drop 2 = .ok (.invokevirtual 87, 3) := by decide +kernel
theorem d_R_drop_5 : decode b_R_drop 5 = .ok (.istore_n 3, 1) := by decide +kernel
theorem d_R_drop_6 : decode b_R_drop 6 = .ok (.iload_n 3, 1) := by decide +kernel
theorem d_R_drop_7 : decode b_R_drop 7 = .ok (.ifCond .lt 27, 3) := by decide +kernel
theorem d_R_drop_10 : decode b_R_drop 10 = .ok (.iload_n 2, 1) := by decide +kernel
theorem d_R_drop_11 : decode b_R_drop 11 = .ok (.ifCond .lt 23, 3) := by decide +kernel
theorem d_R_drop_14 : decode b_R_drop 14 = .ok (.iload_n 2, 1) := by decide +kernel
theorem d_R_drop_15 : decode b_R_drop 15 = .ok (.ifCond .le 21, 3) := by decide +kernel
theorem d_R_drop_18 : decode b_R_drop 18 = .ok (.iload_n 2, 1) := by decide +kernel
theorem d_R_drop_19 : decode b_R_drop 19 = .ok (.aload_n 0, 1) := by decide +kernel
theorem d_R_drop_20 : decode b_R_drop 20 = .ok (.getfield 40, 3) := by decide +kernel
theorem d_R_drop_23 : decode b_R_drop 23 = .ok (.iload_n 3, 1) := by decide +kernel
theorem d_R_drop_24 : decode b_R_drop 24 = .ok (.iaload, 1) := by decide +kernel
theorem d_R_drop_25 : decode b_R_drop 25 = .ok (.aload_n 0, 1) := by decide +kernel
theorem d_R_drop_26 : decode b_R_drop 26 = .ok (.iload_n 3, 1) := by decide +kernel
theorem d_R_drop_27 : decode b_R_drop 27 = .ok (.invokevirtual 148, 3) := by decide +kernel
theorem d_R_drop_30 : decode b_R_drop 30 = .ok (.isub, 1) := by decide +kernel
theorem d_R_drop_31 : decode b_R_drop 31 = .ok (.if_icmp .le 5, 3) := by decide +kernel
theorem d_R_drop_34 : decode b_R_drop 34 = .ok (.iconst 0, 1) := by decide +kernel
theorem d_R_drop_35 : decode b_R_drop 35 = .ok (.ireturn, 1) := by decide +kernel
theorem d_R_drop_36 : decode b_R_drop 36 = .ok (.iconst 0, 1) := by decide +kernel
theorem d_R_drop_37 : decode b_R_drop 37 = .ok (.istore 4, 2) := by decide +kernel
theorem d_R_drop_39 : decode b_R_drop 39 = .ok (.iload 4, 2) := by decide +kernel
theorem d_R_drop_41 : decode b_R_drop 41 = .ok (.iload_n 2, 1) := by decide +kernel
theorem d_R_drop_42 : decode b_R_drop 42 = .ok (.if_icmp .ge 15, 3) := by decide +kernel
theorem d_R_drop_45 : decode b_R_drop 45 = .ok (.aload_n 0, 1) := by decide +kernel
theorem d_R_drop_46 : decode b_R_drop 46 = .ok (.iload_n 3, 1) := by decide +kernel
theorem d_R_drop_47 : decode b_R_drop 47 = .ok (.invokevirtual 151, 3) := by decide +kernel
theorem d_R_drop_50 : decode b_R_drop 50 = .ok (.pop, 1) := by decide +kernel
theorem d_R_drop_51 : decode b_R_drop 51 = .ok (.iinc 4 1, 3) := by decide +kernel
theorem d_R_drop_54 : decode b_R_drop 54 = .ok (.goto (-15), 3) := by decide +kernel
theorem d_R_drop_57 : decode b_R_drop 57 = .ok (.iconst 1, 1) := by decide +kernel
theorem d_R_drop_58 : decode b_R_drop 58 = .ok (.ireturn, 1) := by decide +kernel
theorem d_R_height_0 : decode b_R_height 0 = .ok (.aload_n 0, 1) := by decide +kernel
theorem d_R_height_1 : decode b_R_height 1 = .ok (.iload_n 1, 1) := by decide +kernel
theorem d_R_height_2 : decode b_R_height 2 = .ok (.invokevirtual 87, 3) := by decide +kernel
theorem d_R_height_5 : decode b_R_height 5 = .ok (.istore_n 2, 1) := by decide +kernel
theorem d_R_height_6 : decode b_R_height 6 = .ok (.iload_n 2, 1) := by decide +kernel
theorem d_R_height_7 : decode b_R_height 7 = .ok (.ifCond .ge 7, 3) := by decide +kernel
theorem d_R_height_10 : decode b_R_height 10 = .ok (.iconst (-1), 1) := by decide +kernel
theorem d_R_height_11 : decode b_R_height 11 = .ok (.goto 9, 3) := by decide +kernel
theorem d_R_height_14 : decode b_R_height 14 = .ok (.aload_n 0, 1) := by decide +kernel
theorem d_R_height_15 : decode b_R_height 15 = .ok (.getfield 40, 3) := by decide +kernel
theorem d_R_height_18 : decode b_R_height 18 = .ok (.iload_n 2, 1) := by decide +kernel
theorem d_R_height_19 : decode b_R_height 19 = .ok (.iaload, 1) := by decide +kernel
theorem d_R_height_20 : decode b_R_height 20 = .ok (.ireturn, 1) := by decide +kernel
theorem d_R_room_0 : decode b_R_room 0 = .ok (.aload_n 0, 1) := by decide +kernel
theorem d_R_room_1 : decode b_R_room 1 = .ok (.iload_n 1, 1) := by decide +kernel
theorem d_R_room_2 : decode b_R_room 2 = .ok (.invokevirtual 87, 3) := by decide +kernel
theorem d_R_room_5 : decode b_R_room 5 = .ok (.istore_n 2, 1) := by decide +kernel
theorem d_R_room_6 : decode b_R_room 6 = .ok (.iload_n 2, 1) := by decide +kernel
theorem d_R_room_7 : decode b_R_room 7 = .ok (.ifCond .ge 7, 3) := by decide +kernel
theorem d_R_room_10 : decode b_R_room 10 = .ok (.iconst (-1), 1) := by decide +kernel
theorem d_R_room_11 : decode b_R_room 11 = .ok (.goto 9, 3) := by decide +kernel
theorem d_R_room_14 : decode b_R_room 14 = .ok (.aload_n 0, 1) := by decide +kernel
theorem d_R_room_15 : decode b_R_room 15 = .ok (.getfield 52, 3) := by decide +kernel
theorem d_R_room_18 : decode b_R_room 18 = .ok (.iload_n 2, 1) := by decide +kernel
theorem d_R_room_19 : decode b_R_room 19 = .ok (.iaload, 1) := by decide +kernel
theorem d_R_room_20 : decode b_R_room 20 = .ok (.ireturn, 1) := by decide +kernel
theorem d_R_floor_0 : decode b_R_floor 0 = .ok (.aload_n 0, 1) := by decide +kernel
theorem d_R_floor_1 : decode b_R_floor 1 = .ok (.iload_n 1, 1) := by decide +kernel
theorem d_R_floor_2 : decode b_R_floor 2 = .ok (.invokevirtual 87, 3) := by decide +kernel
theorem d_R_floor_5 : decode b_R_floor 5 = .ok (.istore_n 2, 1) := by decide +kernel
theorem d_R_floor_6 : decode b_R_floor 6 = .ok (.iload_n 2, 1) := by decide +kernel
theorem d_R_floor_7 : decode b_R_floor 7 = .ok (.ifCond .ge 7, 3) := by decide +kernel
theorem d_R_floor_10 : decode b_R_floor 10 = .ok (.iconst (-1), 1) := by decide +kernel
theorem d_R_floor_11 : decode b_R_floor 11 = .ok (.goto 8, 3) := by decide +kernel
theorem d_R_floor_14 : decode b_R_floor 14 = .ok (.aload_n 0, 1) := by decide +kernel
theorem d_R_floor_15 : decode b_R_floor 15 = .ok (.iload_n 2, 1) := by decide +kernel
theorem d_R_floor_16 : decode b_R_floor 16 = .ok (.invokevirtual 148, 3) := by decide +kernel
theorem d_R_floor_19 : decode b_R_floor 19 = .ok (.ireturn, 1) := by decide +kernel
theorem d_R_count_0 : decode b_R_count 0 = .ok (.aload_n 0, 1) := by decide +kernel
theorem d_R_count_1 : decode b_R_count 1 = .ok (.iload_n 1, 1) := by decide +kernel
theorem d_R_count_2 : decode b_R_count 2 = .ok (.iconst 4, 1) := by decide +kernel
theorem d_R_count_3 : decode b_R_count 3 = .ok (.iconst 4, 1) := by decide +kernel
theorem d_R_count_4 : decode b_R_count 4 = .ok (.invokevirtual 83, 3) := by decide +kernel
theorem d_R_count_7 : decode b_R_count 7 = .ok (.istore_n 2, 1) := by decide +kernel
theorem d_R_count_8 : decode b_R_count 8 = .ok (.iload_n 2, 1) := by decide +kernel
theorem d_R_count_9 : decode b_R_count 9 = .ok (.ifCond .ge 7, 3) := by decide +kernel
theorem d_R_count_12 : decode b_R_count 12 = .ok (.iconst (-1), 1) := by decide +kernel
theorem d_R_count_13 : decode b_R_count 13 = .ok (.goto 9, 3) := by decide +kernel
theorem d_R_count_16 : decode b_R_count 16 = .ok (.aload_n 0, 1) := by decide +kernel
theorem d_R_count_17 : decode b_R_count 17 = .ok (.getfield 46, 3) := by decide +kernel
theorem d_R_count_20 : decode b_R_count 20 = .ok (.iload_n 2, 1) := by decide +kernel
theorem d_R_count_21 : decode b_R_count 21 = .ok (.iaload, 1) := by decide +kernel
theorem d_R_count_22 : decode b_R_count 22 = .ok (.ireturn, 1) := by decide +kernel
theorem d_R_home_0 : decode b_R_home 0 = .ok (.aload_n 0, 1) := by decide +kernel
theorem d_R_home_1 : decode b_R_home 1 = .ok (.iload_n 2, 1) := by decide +kernel
theorem d_R_home_2 : decode b_R_home 2 = .ok (.invokevirtual 87, 3) := by decide +kernel
theorem d_R_home_5 : decode b_R_home 5 = .ok (.istore_n 3, 1) := by decide +kernel
theorem d_R_home_6 : decode b_R_home 6 = .ok (.iload_n 3, 1) := by decide +kernel
theorem d_R_home_7 : decode b_R_home 7 = .ok (.ifCond .lt 10, 3) := by decide +kernel
theorem d_R_home_10 : decode b_R_home 10 = .ok (.iload_n 1, 1) := by decide +kernel
theorem d_R_home_11 : decode b_R_home 11 = .ok (.invokestatic 76, 3) := by decide +kernel
theorem d_R_home_14 : decode b_R_home 14 = .ok (.ifCond .ne 5, 3) := by decide +kernel
theorem d_R_home_17 : decode b_R_home 17 = .ok (.iconst 0, 1) := by decide +kernel
theorem d_R_home_18 : decode b_R_home 18 = .ok (.ireturn, 1) := by decide +kernel
theorem d_R_home_19 : decode b_R_home 19 = .ok (.aload_n 0, 1) := by decide +kernel
theorem d_R_home_20 : decode b_R_home 20 = .ok (.getfield 13, 3) := by decide +kernel
theorem d_R_home_23 : decode b_R_home 23 = .ok (.iload_n 1, 1) := by decide +kernel
theorem d_R_home_24 : decode b_R_home 24 = .ok (.iconst 2, 1) := by decide +kernel
theorem d_R_home_25 : decode b_R_home 25 = .ok (.aload_n 0, 1) := by decide +kernel
theorem d_R_home_26 : decode b_R_home 26 = .ok (.iload_n 3, 1) := by decide +kernel
theorem d_R_home_27 : decode b_R_home 27 = .ok (.invokevirtual 141, 3) := by decide +kernel
theorem d_R_home_30 : decode b_R_home 30 = .ok (.imul, 1) := by decide +kernel
theorem d_R_home_31 : decode b_R_home 31 = .ok (.iconst 2, 1) := by decide +kernel
theorem d_R_home_32 : decode b_R_home 32 = .ok (.iadd, 1) := by decide +kernel
theorem d_R_home_33 : decode b_R_home 33 = .ok (.iastore, 1) := by decide +kernel
theorem d_R_home_34 : decode b_R_home 34 = .ok (.iconst 1, 1) := by decide +kernel
theorem d_R_home_35 : decode b_R_home 35 = .ok (.ireturn, 1) := by decide +kernel
theorem d_R_sender_0 : decode b_R_sender 0 = .ok (.aload_n 0, 1) := by decide +kernel
theorem d_R_sender_1 : decode b_R_sender 1 = .ok (.iload_n 2, 1) := by decide +kernel
theorem d_R_sender_2 : decode b_R_sender 2 = .ok (.invokevirtual 87, 3) := by decide +kernel
theorem d_R_sender_5 : decode b_R_sender 5 = .ok (.istore_n 3, 1) := by decide +kernel
theorem d_R_sender_6 : decode b_R_sender 6 = .ok (.iload_n 3, 1) := by decide +kernel
theorem d_R_sender_7 : decode b_R_sender 7 = .ok (.ifCond .lt 10, 3) := by decide +kernel
theorem d_R_sender_10 : decode b_R_sender 10 = .ok (.iload_n 1, 1) := by decide +kernel
theorem d_R_sender_11 : decode b_R_sender 11 = .ok (.invokestatic 76, 3) := by decide +kernel
theorem d_R_sender_14 : decode b_R_sender 14 = .ok (.ifCond .ne 5, 3) := by decide +kernel
theorem d_R_sender_17 : decode b_R_sender 17 = .ok (.iconst 0, 1) := by decide +kernel
theorem d_R_sender_18 : decode b_R_sender 18 = .ok (.ireturn, 1) := by decide +kernel
theorem d_R_sender_19 : decode b_R_sender 19 = .ok (.aload_n 0, 1) := by decide +kernel
theorem d_R_sender_20 : decode b_R_sender 20 = .ok (.getfield 13, 3) := by decide +kernel
theorem d_R_sender_23 : decode b_R_sender 23 = .ok (.iload_n 1, 1) := by decide +kernel
theorem d_R_sender_24 : decode b_R_sender 24 = .ok (.aload_n 0, 1) := by decide +kernel
theorem d_R_sender_25 : decode b_R_sender 25 = .ok (.getfield 33, 3) := by decide +kernel
theorem d_R_sender_28 : decode b_R_sender 28 = .ok (.iload_n 3, 1) := by decide +kernel
theorem d_R_sender_29 : decode b_R_sender 29 = .ok (.iaload, 1) := by decide +kernel
theorem d_R_sender_30 : decode b_R_sender 30 = .ok (.iastore, 1) := by decide +kernel
theorem d_R_sender_31 : decode b_R_sender 31 = .ok (.iconst 1, 1) := by decide +kernel
theorem d_R_sender_32 : decode b_R_sender 32 = .ok (.ireturn, 1) := by decide +kernel
theorem d_R_send_0 : decode b_R_send 0 = .ok (.aload_n 0, 1) := by decide +kernel
theorem d_R_send_1 : decode b_R_send 1 = .ok (.iload_n 1, 1) := by decide +kernel
theorem d_R_send_2 : decode b_R_send 2 = .ok (.invokevirtual 87, 3) := by decide +kernel
theorem d_R_send_5 : decode b_R_send 5 = .ok (.istore_n 3, 1) := by decide +kernel
theorem d_R_send_6 : decode b_R_send 6 = .ok (.iload_n 3, 1) := by decide +kernel
theorem d_R_send_7 : decode b_R_send 7 = .ok (.ifCond .lt 11, 3) := by decide +kernel
theorem d_R_send_10 : decode b_R_send 10 = .ok (.aload_n 0, 1) := by decide +kernel
theorem d_R_send_11 : decode b_R_send 11 = .ok (.iload_n 2, 1) := by decide +kernel
theorem d_R_send_12 : decode b_R_send 12 = .ok (.invokevirtual 134, 3) := by decide +kernel
theorem d_R_send_15 : decode b_R_send 15 = .ok (.ifCond .ne 5, 3) := by decide +kernel
theorem d_R_send_18 : decode b_R_send 18 = .ok (.iconst 0, 1) := by decide +kernel
theorem d_R_send_19 : decode b_R_send 19 = .ok (.ireturn, 1) := by decide +kernel
theorem d_R_send_20 : decode b_R_send 20 = .ok (.aload_n 0, 1) := by decide +kernel
theorem d_R_send_21 : decode b_R_send 21 = .ok (.getfield 33, 3) := by decide +kernel
theorem d_R_send_24 : decode b_R_send 24 = .ok (.iload_n 3, 1) := by decide +kernel
theorem d_R_send_25 : decode b_R_send 25 = .ok (.aload_n 0, 1) := by decide +kernel
theorem d_R_send_26 : decode b_R_send 26 = .ok (.getfield 13, 3) := by decide +kernel
theorem d_R_send_29 : decode b_R_send 29 = .ok (.iload_n 2, 1) := by decide +kernel
theorem d_R_send_30 : decode b_R_send 30 = .ok (.iaload, 1) := by decide +kernel
theorem d_R_send_31 : decode b_R_send 31 = .ok (.iastore, 1) := by decide +kernel
theorem d_R_send_32 : decode b_R_send 32 = .ok (.iconst 1, 1) := by decide +kernel
theorem d_R_send_33 : decode b_R_send 33 = .ok (.ireturn, 1) := by decide +kernel
theorem d_R_kill_0 : decode b_R_kill 0 = .ok (.aload_n 0, 1) := by decide +kernel
theorem d_R_kill_1 : decode b_R_kill 1 = .ok (.iload_n 1, 1) := by decide +kernel
theorem d_R_kill_2 : decode b_R_kill 2 = .ok (.invokevirtual 87, 3) := by decide +kernel
theorem d_R_kill_5 : decode b_R_kill 5 = .ok (.istore_n 3, 1) := by decide +kernel
theorem d_R_kill_6 : decode b_R_kill 6 = .ok (.iload_n 3, 1) := by decide +kernel
theorem d_R_kill_7 : decode b_R_kill 7 = .ok (.ifCond .ge 5, 3) := by decide +kernel
theorem d_R_kill_10 : decode b_R_kill 10 = .ok (.iconst 0, 1) := by decide +kernel
theorem d_R_kill_11 : decode b_R_kill 11 = .ok (.ireturn, 1) := by decide +kernel
theorem d_R_kill_12 : decode b_R_kill 12 = .ok (.aload_n 0, 1) := by decide +kernel
theorem d_R_kill_13 : decode b_R_kill 13 = .ok (.getfield 36, 3) := by decide +kernel
theorem d_R_kill_16 : decode b_R_kill 16 = .ok (.iload_n 3, 1) := by decide +kernel
theorem d_R_kill_17 : decode b_R_kill 17 = .ok (.baload, 1) := by decide +kernel
theorem d_R_kill_18 : decode b_R_kill 18 = .ok (.istore 4, 2) := by decide +kernel
theorem d_R_kill_20 : decode b_R_kill 20 = .ok (.aload_n 0, 1) := by decide +kernel
theorem d_R_kill_21 : decode b_R_kill 21 = .ok (.getfield 36, 3) := by decide +kernel
theorem d_R_kill_24 : decode b_R_kill 24 = .ok (.iload_n 3, 1) := by decide +kernel
theorem d_R_kill_25 : decode b_R_kill 25 = .ok (.iload_n 2, 1) := by decide +kernel
theorem d_R_kill_26 : decode b_R_kill 26 = .ok (.bastore, 1) := by decide +kernel
theorem d_R_kill_27 : decode b_R_kill 27 = .ok (.iload 4, 2) := by decide +kernel
theorem d_R_kill_29 : decode b_R_kill 29 = .ok (.ireturn, 1) := by decide +kernel
theorem d_R_placeOf_0 : decode b_R_placeOf 0 = .ok (.aload_n 0, 1) := by decide +kernel
theorem d_R_placeOf_1 : decode b_R_placeOf 1 = .ok (.iload_n 1, 1) := by decide +kernel
theorem d_R_placeOf_2 : decode b_R_placeOf 2 = .ok (.invokevirtual 87, 3) := by decide +kernel
theorem d_R_placeOf_5 : decode b_R_placeOf 5 = .ok (.istore_n 3, 1) := by decide +kernel
theorem d_R_placeOf_6 : decode b_R_placeOf 6 = .ok (.iload_n 3, 1) := by decide +kernel
theorem d_R_placeOf_7 : decode b_R_placeOf 7 = .ok (.ifCond .ge 5, 3) := by decide +kernel
theorem d_R_placeOf_10 : decode b_R_placeOf 10 = .ok (.iconst (-1), 1) := by decide +kernel
theorem d_R_placeOf_11 : decode b_R_placeOf 11 = .ok (.ireturn, 1) := by decide +kernel
theorem d_R_placeOf_12 : decode b_R_placeOf 12 = .ok (.aload_n 0, 1) := by decide +kernel
theorem d_R_placeOf_13 : decode b_R_placeOf 13 = .ok (.iload_n 3, 1) := by decide +kernel
theorem d_R_placeOf_14 : decode b_R_placeOf 14 = .ok (.invokevirtual 141, 3) := by decide +kernel
theorem d_R_placeOf_17 : decode b_R_placeOf 17 = .ok (.istore 4, 2) := by decide +kernel
theorem d_R_placeOf_19 : decode b_R_placeOf 19 = .ok (.iload_n 2, 1) := by decide +kernel
theorem d_R_placeOf_20 : decode b_R_placeOf 20 = .ok (.ifCond .lt 42, 3) := by decide +kernel
theorem d_R_placeOf_23 : decode b_R_placeOf 23 = .ok (.iload_n 2, 1) := by decide +kernel
theorem d_R_placeOf_24 : decode b_R_placeOf 24 = .ok (.aload_n 0, 1) := by decide +kernel
theorem d_R_placeOf_25 : decode b_R_placeOf 25 = .ok (.getfield 27, 3) := by decide +kernel
theorem d_R_placeOf_28 : decode b_R_placeOf 28 = .ok (.aload_n 0, 1) := by decide +kernel
theorem d_R_placeOf_29 : decode b_R_placeOf 29 = .ok (.getfield 43, 3) := by decide +kernel
theorem d_R_placeOf_32 : decode b_R_placeOf 32 = .ok (.iload 4, 2) := by decide +kernel
theorem d_R_placeOf_34 : decode b_R_placeOf 34 = .ok (.iaload, 1) := by decide +kernel
theorem d_R_placeOf_35 : decode b_R_placeOf 35 = .ok (.iaload, 1) := by decide +kernel
theorem d_R_placeOf_36 : decode b_R_placeOf 36 = .ok (.if_icmp .ge 26, 3) := by decide +kernel
theorem d_R_placeOf_39 : decode b_R_placeOf 39 = .ok (.iload_n 2, 1) := by decide +kernel
theorem d_R_placeOf_40 : decode b_R_placeOf 40 = .ok (.aload_n 0, 1) := by decide +kernel
theorem d_R_placeOf_41 : decode b_R_placeOf 41 = .ok (.getfield 52, 3) := by decide +kernel
theorem d_R_placeOf_44 : decode b_R_placeOf 44 = .ok (.iload 4, 2) := by decide +kernel
theorem d_R_placeOf_46 : decode b_R_placeOf 46 = .ok (.iaload, 1) := by decide +kernel
theorem d_R_placeOf_47 : decode b_R_placeOf 47 = .ok (.if_icmp .ge 15, 3) := by decide +kernel
theorem d_R_placeOf_50 : decode b_R_placeOf 50 = .ok (.aload_n 0, 1) := by decide +kernel
theorem d_R_placeOf_51 : decode b_R_placeOf 51 = .ok (.getfield 49, 3) := by decide +kernel
theorem d_R_placeOf_54 : decode b_R_placeOf 54 = .ok (.iload 4, 2) := by decide +kernel
theorem d_R_placeOf_56 : decode b_R_placeOf 56 = .ok (.iaload, 1) := by decide +kernel
theorem d_R_placeOf_57 : decode b_R_placeOf 57 = .ok (.iload_n 2, 1) := by decide +kernel
theorem d_R_placeOf_58 : decode b_R_placeOf 58 = .ok (.iadd, 1) := by decide +kernel
theorem d_R_placeOf_59 : decode b_R_placeOf 59 = .ok (.goto 4, 3) := by decide +kernel
theorem d_R_placeOf_62 : decode b_R_placeOf 62 = .ok (.iconst (-1), 1) := by decide +kernel
theorem d_R_placeOf_63 : decode b_R_placeOf 63 = .ok (.ireturn, 1) := by decide +kernel
theorem d_R_temporary_0 : decode b_R_temporary 0 = .ok (.aload_n 0, 1) := by decide +kernel
theorem d_R_temporary_1 : decode b_R_temporary 1 = .ok (.iload_n 2, 1) := by decide +kernel
theorem d_R_temporary_2 : decode b_R_temporary 2 = .ok (.iload_n 3, 1) := by decide +kernel
theorem d_R_temporary_3 : decode b_R_temporary 3 = .ok (.invokevirtual 154, 3) := by decide +kernel
theorem d_R_temporary_6 : decode b_R_temporary 6 = .ok (.istore 4, 2) := by decide +kernel
theorem d_R_temporary_8 : decode b_R_temporary 8 = .ok (.iload 4, 2) := by decide +kernel
theorem d_R_temporary_10 : decode b_R_temporary 10 = .ok (.ifCond .lt 10, 3) := by decide +kernel
theorem d_R_temporary_13 : decode b_R_temporary 13 = .ok (.iload_n 1, 1) := by decide +kernel
theorem d_R_temporary_14 : decode b_R_temporary 14 = .ok (.invokestatic 76, 3) := by decide +kernel
theorem d_R_temporary_17 : decode b_R_temporary 17 = .ok (.ifCond .ne 5, 3) := by decide +kernel
theorem d_R_temporary_20 : decode b_R_temporary 20 = .ok (.iconst 0, 1) := by decide +kernel
theorem d_R_temporary_21 : decode b_R_temporary 21 = .ok (.ireturn, 1) := by decide +kernel
theorem d_R_temporary_22 : decode b_R_temporary 22 = .ok (.aload_n 0, 1) := by decide +kernel
theorem d_R_temporary_23 : decode b_R_temporary 23 = .ok (.getfield 13, 3) := by decide +kernel
theorem d_R_temporary_26 : decode b_R_temporary 26 = .ok (.iload_n 1, 1) := by decide +kernel
theorem d_R_temporary_27 : decode b_R_temporary 27 = .ok (.aload_n 0, 1) := by decide +kernel
theorem d_R_temporary_28 : decode b_R_temporary 28 = .ok (.getfield 56, 3) := by decide +kernel
theorem d_R_temporary_31 : decode b_R_temporary 31 = .ok (.iload 4, 2) := by decide +kernel
theorem d_R_temporary_33 : decode b_R_temporary 33 = .ok (.iaload, 1) := by decide +kernel
theorem d_R_temporary_34 : decode b_R_temporary 34 = .ok (.iastore, 1) := by decide +kernel
theorem d_R_temporary_35 : decode b_R_temporary 35 = .ok (.iconst 1, 1) := by decide +kernel
theorem d_R_temporary_36 : decode b_R_temporary 36 = .ok (.ireturn, 1) := by decide +kernel
theorem d_R_keep_0 : decode b_R_keep 0 = .ok (.aload_n 0, 1) := by decide +kernel
theorem d_R_keep_1 : decode b_R_keep 1 = .ok (.iload_n 1, 1) := by decide +kernel
theorem d_R_keep_2 : decode b_R_keep 2 = .ok (.iload_n 2, 1) := by decide +kernel
theorem d_R_keep_3 : decode b_R_keep 3 = .ok (.invokevirtual 154, 3) := by decide +kernel
theorem d_R_keep_6 : decode b_R_keep 6 = .ok (.istore 4, 2) := by decide +kernel
theorem d_R_keep_8 : decode b_R_keep 8 = .ok (.iload 4, 2) := by decide +kernel
theorem d_R_keep_10 : decode b_R_keep 10 = .ok (.ifCond .lt 10, 3) := by decide +kernel
theorem d_R_keep_13 : decode b_R_keep 13 = .ok (.iload_n 3, 1) := by decide +kernel
theorem d_R_keep_14 : decode b_R_keep 14 = .ok (.invokestatic 76, 3) := by decide +kernel
theorem d_R_keep_17 : decode b_R_keep 17 = .ok (.ifCond .ne 5, 3) := by decide +kernel
theorem d_R_keep_20 : decode b_R_keep 20 = .ok (.iconst 0, 1) := by decide +kernel
theorem d_R_keep_21 : decode b_R_keep 21 = .ok (.ireturn, 1) := by decide +kernel
theorem d_R_keep_22 : decode b_R_keep 22 = .ok (.aload_n 0, 1) := by decide +kernel
theorem d_R_keep_23 : decode b_R_keep 23 = .ok (.getfield 56, 3) := by decide +kernel
theorem d_R_keep_26 : decode b_R_keep 26 = .ok (.iload 4, 2) := by decide +kernel
theorem d_R_keep_28 : decode b_R_keep 28 = .ok (.aload_n 0, 1) := by decide +kernel
theorem d_R_keep_29 : decode b_R_keep 29 = .ok (.getfield 13, 3) := by decide +kernel
theorem d_R_keep_32 : decode b_R_keep 32 = .ok (.iload_n 3, 1) := by decide +kernel
theorem d_R_keep_33 : decode b_R_keep 33 = .ok (.iaload, 1) := by decide +kernel
theorem d_R_keep_34 : decode b_R_keep 34 = .ok (.iastore, 1) := by decide +kernel
theorem d_R_keep_35 : decode b_R_keep 35 = .ok (.iconst 1, 1) := by decide +kernel
theorem d_R_keep_36 : decode b_R_keep 36 = .ok (.ireturn, 1) := by decide +kernel
end
section
theorem d_L_cell_0 : decode b_L_cell 0 = .ok (.iload_n 1, 1) := by decide +kernel
theorem d_L_cell_1 : decode b_L_cell 1 = .ok (.aload_n 0, 1) := by decide +kernel
theorem d_L_cell_2 : decode b_L_cell 2 = .ok (.arraylength, 1) := by decide +kernel
theorem d_L_cell_3 : decode b_L_cell 3 = .ok (.if_icmp .ge 9, 3) := by decide +kernel
theorem d_L_cell_6 : decode b_L_cell 6 = .ok (.aload_n 0, 1) := by decide +kernel
theorem d_L_cell_7 : decode b_L_cell 7 = .ok (.iload_n 1, 1) := by decide +kernel
theorem d_L_cell_8 : decode b_L_cell 8 = .ok (.iaload, 1) := by decide +kernel
theorem d_L_cell_9 : decode b_L_cell 9 = .ok (.goto 4, 3) := by decide +kernel
theorem d_L_cell_12 : decode b_L_cell 12 = .ok (.iconst 0, 1) := by decide +kernel
theorem d_L_cell_13 : decode b_L_cell 13 = .ok (.ireturn, 1) := by decide +kernel
theorem d_L_law_0 : decode code 0 = .ok (.new 7, 3) := by decide +kernel
theorem d_L_law_3 : decode code 3 = .ok (.dup, 1) := by decide +kernel
theorem d_L_law_4 : decode code 4 = .ok (.aload_n 0, 1) := by decide +kernel
theorem d_L_law_5 : decode code 5 = .ok (.iconst 0, 1) := by decide +kernel
theorem d_L_law_6 : decode code 6 = .ok (.invokestatic 9, 3) := by decide +kernel
theorem d_L_law_9 : decode code 9 = .ok (.aload_n 0, 1) := by decide +kernel
theorem d_L_law_10 : decode code 10 = .ok (.iconst 1, 1) := by decide +kernel
theorem d_L_law_11 : decode code 11 = .ok (.invokestatic 9, 3) := by decide +kernel
theorem d_L_law_14 : decode code 14 = .ok (.invokespecial 15, 3) := by decide +kernel
theorem d_L_law_17 : decode code 17 = .ok (.astore_n 1, 1) := by decide +kernel
theorem d_L_law_18 : decode code 18 = .ok (.new 18, 3) := by decide +kernel
theorem d_L_law_21 : decode code 21 = .ok (.dup, 1) := by decide +kernel
theorem d_L_law_22 : decode code 22 = .ok (.aload_n 0, 1) := by decide +kernel
theorem d_L_law_23 : decode code 23 = .ok (.iconst 0, 1) := by decide +kernel
theorem d_L_law_24 : decode code 24 = .ok (.invokestatic 9, 3) := by decide +kernel
theorem d_L_law_27 : decode code 27 = .ok (.aload_n 0, 1) := by decide +kernel
theorem d_L_law_28 : decode code 28 = .ok (.iconst 1, 1) := by decide +kernel
theorem d_L_law_29 : decode code 29 = .ok (.invokestatic 9, 3) := by decide +kernel
theorem d_L_law_32 : decode code 32 = .ok (.invokespecial 20, 3) := by decide +kernel
theorem d_L_law_35 : decode code 35 = .ok (.astore_n 2, 1) := by decide +kernel
theorem d_L_law_36 : decode code 36 = .ok (.iconst 2, 1) := by decide +kernel
theorem d_L_law_37 : decode code 37 = .ok (.istore_n 3, 1) := by decide +kernel
theorem d_L_law_38 : decode code 38 = .ok (.iload_n 3, 1) := by decide +kernel
theorem d_L_law_39 : decode code 39 = .ok (.aload_n 0, 1) := by decide +kernel
theorem d_L_law_40 : decode code 40 = .ok (.arraylength, 1) := by decide +kernel
theorem d_L_law_41 : decode code 41 = .ok (.iconst 5, 1) := by decide +kernel
theorem d_L_law_42 : decode code 42 = .ok (.isub, 1) := by decide +kernel
theorem d_L_law_43 : decode code 43 = .ok (.if_icmp .gt 1016, 3) := by decide +kernel
theorem d_L_law_46 : decode code 46 = .ok (.aload_n 0, 1) := by decide +kernel
theorem d_L_law_47 : decode code 47 = .ok (.iload_n 3, 1) := by decide +kernel
theorem d_L_law_48 : decode code 48 = .ok (.iaload, 1) := by decide +kernel
theorem d_L_law_49 : decode code 49 = .ok (.bipush 31, 2) := by decide +kernel
theorem d_L_law_51 : decode code 51 = .ok (.iand, 1) := by decide +kernel
theorem d_L_law_52 : decode code 52 = .ok (.tableswitch 1001 0 26 #[124, 157, 190, 213, 236, 259, 312, 365, 408, 451, 484, 527, 560, 603, 636, 659, 682, 705, 728, 761, 794, 827, 876, 919, 962, 975, 988], 124) := by decide +kernel
theorem d_L_law_176 : decode code 176 = .ok (.aload_n 1, 1) := by decide +kernel
theorem d_L_law_177 : decode code 177 = .ok (.aload_n 0, 1) := by decide +kernel
theorem d_L_law_178 : decode code 178 = .ok (.iload_n 3, 1) := by decide +kernel
theorem d_L_law_179 : decode code 179 = .ok (.iconst 1, 1) := by decide +kernel
theorem d_L_law_180 : decode code 180 = .ok (.iadd, 1) := by decide +kernel
theorem d_L_law_181 : decode code 181 = .ok (.iaload, 1) := by decide +kernel
theorem d_L_law_182 : decode code 182 = .ok (.aload_n 0, 1) := by decide +kernel
theorem d_L_law_183 : decode code 183 = .ok (.iload_n 3, 1) := by decide +kernel
theorem d_L_law_184 : decode code 184 = .ok (.iconst 2, 1) := by decide +kernel
theorem d_L_law_185 : decode code 185 = .ok (.iadd, 1) := by decide +kernel
theorem d_L_law_186 : decode code 186 = .ok (.iaload, 1) := by decide +kernel
theorem d_L_law_187 : decode code 187 = .ok (.invokevirtual 21, 3) := by decide +kernel
theorem d_L_law_190 : decode code 190 = .ok (.aload_n 2, 1) := by decide +kernel
theorem d_L_law_191 : decode code 191 = .ok (.aload_n 0, 1) := by decide +kernel
theorem d_L_law_192 : decode code 192 = .ok (.iload_n 3, 1) := by decide +kernel
theorem d_L_law_193 : decode code 193 = .ok (.iconst 1, 1) := by decide +kernel
theorem d_L_law_194 : decode code 194 = .ok (.iadd, 1) := by decide +kernel
theorem d_L_law_195 : decode code 195 = .ok (.iaload, 1) := by decide +kernel
theorem d_L_law_196 : decode code 196 = .ok (.aload_n 0, 1) := by decide +kernel
theorem d_L_law_197 : decode code 197 = .ok (.iload_n 3, 1) := by decide +kernel
theorem d_L_law_198 : decode code 198 = .ok (.iconst 2, 1) := by decide +kernel
theorem d_L_law_199 : decode code 199 = .ok (.iadd, 1) := by decide +kernel
theorem d_L_law_200 : decode code 200 = .ok (.iaload, 1) := by decide +kernel
theorem d_L_law_201 : decode code 201 = .ok (.invokevirtual 25, 3) := by decide +kernel
theorem d_L_law_204 : decode code 204 = .ok (.if_icmp .eq 849, 3) := by decide +kernel
theorem d_L_law_207 : decode code 207 = .ok (.iconst 0, 1) := by decide +kernel
theorem d_L_law_208 : decode code 208 = .ok (.ireturn, 1) := by decide +kernel
theorem d_L_law_209 : decode code 209 = .ok (.aload_n 1, 1) := by decide +kernel
theorem d_L_law_210 : decode code 210 = .ok (.aload_n 0, 1) := by decide +kernel
theorem d_L_law_211 : decode code 211 = .ok (.iload_n 3, 1) := by decide +kernel
theorem d_L_law_212 : decode code 212 = .ok (.iconst 1, 1) := by decide +kernel
theorem d_L_law_213 : decode code 213 = .ok (.iadd, 1) := by decide +kernel
theorem d_L_law_214 : decode code 214 = .ok (.iaload, 1) := by decide +kernel
theorem d_L_law_215 : decode code 215 = .ok (.aload_n 0, 1) := by decide +kernel
theorem d_L_law_216 : decode code 216 = .ok (.iload_n 3, 1) := by decide +kernel
theorem d_L_law_217 : decode code 217 = .ok (.iconst 2, 1) := by decide +kernel
theorem d_L_law_218 : decode code 218 = .ok (.iadd, 1) := by decide +kernel
theorem d_L_law_219 : decode code 219 = .ok (.iaload, 1) := by decide +kernel
theorem d_L_law_220 : decode code 220 = .ok (.invokevirtual 26, 3) := by decide +kernel
theorem d_L_law_223 : decode code 223 = .ok (.aload_n 2, 1) := by decide +kernel
theorem d_L_law_224 : decode code 224 = .ok (.aload_n 0, 1) := by decide +kernel
theorem d_L_law_225 : decode code 225 = .ok (.iload_n 3, 1) := by decide +kernel
theorem d_L_law_226 : decode code 226 = .ok (.iconst 1, 1) := by decide +kernel
theorem d_L_law_227 : decode code 227 = .ok (.iadd, 1) := by decide +kernel
theorem d_L_law_228 : decode code 228 = .ok (.iaload, 1) := by decide +kernel
theorem d_L_law_229 : decode code 229 = .ok (.aload_n 0, 1) := by decide +kernel
theorem d_L_law_230 : decode code 230 = .ok (.iload_n 3, 1) := by decide +kernel
theorem d_L_law_231 : decode code 231 = .ok (.iconst 2, 1) := by decide +kernel
theorem d_L_law_232 : decode code 232 = .ok (.iadd, 1) := by decide +kernel
theorem d_L_law_233 : decode code 233 = .ok (.iaload, 1) := by decide +kernel
theorem d_L_law_234 : decode code 234 = .ok (.invokevirtual 29, 3) := by decide +kernel
theorem d_L_law_237 : decode code 237 = .ok (.if_icmp .eq 816, 3) := by decide +kernel
theorem d_L_law_240 : decode code 240 = .ok (.iconst 0, 1) := by decide +kernel
theorem d_L_law_241 : decode code 241 = .ok (.ireturn, 1) := by decide +kernel
theorem d_L_law_242 : decode code 242 = .ok (.aload_n 1, 1) := by decide +kernel
theorem d_L_law_243 : decode code 243 = .ok (.aload_n 0, 1) := by decide +kernel
theorem d_L_law_244 : decode code 244 = .ok (.iload_n 3, 1) := by decide +kernel
theorem d_L_law_245 : decode code 245 = .ok (.iconst 1, 1) := by decide +kernel
theorem d_L_law_246 : decode code 246 = .ok (.iadd, 1) := by decide +kernel
theorem d_L_law_247 : decode code 247 = .ok (.iaload, 1) := by decide +kernel
theorem d_L_law_248 : decode code 248 = .ok (.invokevirtual 30, 3) := by decide +kernel
theorem d_L_law_251 : decode code 251 = .ok (.aload_n 2, 1) := by decide +kernel
theorem d_L_law_252 : decode code 252 = .ok (.aload_n 0, 1) := by decide +kernel
theorem d_L_law_253 : decode code 253 = .ok (.iload_n 3, 1) := by decide +kernel
theorem d_L_law_254 : decode code 254 = .ok (.iconst 1, 1) := by decide +kernel
theorem d_L_law_255 : decode code 255 = .ok (.iadd, 1) := by decide +kernel
theorem d_L_law_256 : decode code 256 = .ok (.iaload, 1) := by decide +kernel
theorem d_L_law_257 : decode code 257 = .ok (.invokevirtual 34, 3) := by decide +kernel
theorem d_L_law_260 : decode code 260 = .ok (.if_icmp .eq 793, 3) := by decide +kernel
theorem d_L_law_263 : decode code 263 = .ok (.iconst 0, 1) := by decide +kernel
theorem d_L_law_264 : decode code 264 = .ok (.ireturn, 1) := by decide +kernel
theorem d_L_law_265 : decode code 265 = .ok (.aload_n 1, 1) := by decide +kernel
theorem d_L_law_266 : decode code 266 = .ok (.aload_n 0, 1) := by decide +kernel
theorem d_L_law_267 : decode code 267 = .ok (.iload_n 3, 1) := by decide +kernel
theorem d_L_law_268 : decode code 268 = .ok (.iconst 1, 1) := by decide +kernel
theorem d_L_law_269 : decode code 269 = .ok (.iadd, 1) := by decide +kernel
theorem d_L_law_270 : decode code 270 = .ok (.iaload, 1) := by decide +kernel
theorem d_L_law_271 : decode code 271 = .ok (.invokevirtual 35, 3) := by decide +kernel
theorem d_L_law_274 : decode code 274 = .ok (.aload_n 2, 1) := by decide +kernel
theorem d_L_law_275 : decode code 275 = .ok (.aload_n 0, 1) := by decide +kernel
theorem d_L_law_276 : decode code 276 = .ok (.iload_n 3, 1) := by decide +kernel
theorem d_L_law_277 : decode code 277 = .ok (.iconst 1, 1) := by decide +kernel
theorem d_L_law_278 : decode code 278 = .ok (.iadd, 1) := by decide +kernel
theorem d_L_law_279 : decode code 279 = .ok (.iaload, 1) := by decide +kernel
theorem d_L_law_280 : decode code 280 = .ok (.invokevirtual 39, 3) := by decide +kernel
theorem d_L_law_283 : decode code 283 = .ok (.if_icmp .eq 770, 3) := by decide +kernel
theorem d_L_law_286 : decode code 286 = .ok (.iconst 0, 1) := by decide +kernel
theorem d_L_law_287 : decode code 287 = .ok (.ireturn, 1) := by decide +kernel
theorem d_L_law_288 : decode code 288 = .ok (.aload_n 1, 1) := by decide +kernel
theorem d_L_law_289 : decode code 289 = .ok (.aload_n 0, 1) := by decide +kernel
theorem d_L_law_290 : decode code 290 = .ok (.iload_n 3, 1) := by decide +kernel
theorem d_L_law_291 : decode code 291 = .ok (.iconst 1, 1) := by decide +kernel
theorem d_L_law_292 : decode code 292 = .ok (.iadd, 1) := by decide +kernel
theorem d_L_law_293 : decode code 293 = .ok (.iaload, 1) := by decide +kernel
theorem d_L_law_294 : decode code 294 = .ok (.invokevirtual 40, 3) := by decide +kernel
theorem d_L_law_297 : decode code 297 = .ok (.aload_n 2, 1) := by decide +kernel
theorem d_L_law_298 : decode code 298 = .ok (.aload_n 0, 1) := by decide +kernel
theorem d_L_law_299 : decode code 299 = .ok (.iload_n 3, 1) := by decide +kernel
theorem d_L_law_300 : decode code 300 = .ok (.iconst 1, 1) := by decide +kernel
theorem d_L_law_301 : decode code 301 = .ok (.iadd, 1) := by decide +kernel
theorem d_L_law_302 : decode code 302 = .ok (.iaload, 1) := by decide +kernel
theorem d_L_law_303 : decode code 303 = .ok (.invokevirtual 43, 3) := by decide +kernel
theorem d_L_law_306 : decode code 306 = .ok (.if_icmp .eq 747, 3) := by decide +kernel
theorem d_L_law_309 : decode code 309 = .ok (.iconst 0, 1) := by decide +kernel
theorem d_L_law_310 : decode code 310 = .ok (.ireturn, 1) := by decide +kernel
theorem d_L_law_311 : decode code 311 = .ok (.aload_n 1, 1) := by decide +kernel
theorem d_L_law_312 : decode code 312 = .ok (.aload_n 0, 1) := by decide +kernel
theorem d_L_law_313 : decode code 313 = .ok (.iload_n 3, 1) := by decide +kernel
theorem d_L_law_314 : decode code 314 = .ok (.iconst 1, 1) := by decide +kernel
theorem d_L_law_315 : decode code 315 = .ok (.iadd, 1) := by decide +kernel
theorem d_L_law_316 : decode code 316 = .ok (.iaload, 1) := by decide +kernel
theorem d_L_law_317 : decode code 317 = .ok (.aload_n 0, 1) := by decide +kernel
theorem d_L_law_318 : decode code 318 = .ok (.iload_n 3, 1) := by decide +kernel
theorem d_L_law_319 : decode code 319 = .ok (.iconst 2, 1) := by decide +kernel
theorem d_L_law_320 : decode code 320 = .ok (.iadd, 1) := by decide +kernel
theorem d_L_law_321 : decode code 321 = .ok (.iaload, 1) := by decide +kernel
theorem d_L_law_322 : decode code 322 = .ok (.aload_n 0, 1) := by decide +kernel
theorem d_L_law_323 : decode code 323 = .ok (.iload_n 3, 1) := by decide +kernel
theorem d_L_law_324 : decode code 324 = .ok (.iconst 3, 1) := by decide +kernel
theorem d_L_law_325 : decode code 325 = .ok (.iadd, 1) := by decide +kernel
theorem d_L_law_326 : decode code 326 = .ok (.iaload, 1) := by decide +kernel
theorem d_L_law_327 : decode code 327 = .ok (.aload_n 0, 1) := by decide +kernel
theorem d_L_law_328 : decode code 328 = .ok (.iload_n 3, 1) := by decide +kernel
theorem d_L_law_329 : decode code 329 = .ok (.iconst 4, 1) := by decide +kernel
theorem d_L_law_330 : decode code 330 = .ok (.iadd, 1) := by decide +kernel
theorem d_L_law_331 : decode code 331 = .ok (.iaload, 1) := by decide +kernel
theorem d_L_law_332 : decode code 332 = .ok (.invokevirtual 44, 3) := by decide +kernel
theorem d_L_law_335 : decode code 335 = .ok (.aload_n 2, 1) := by decide +kernel
theorem d_L_law_336 : decode code 336 = .ok (.aload_n 0, 1) := by decide +kernel
theorem d_L_law_337 : decode code 337 = .ok (.iload_n 3, 1) := by decide +kernel
theorem d_L_law_338 : decode code 338 = .ok (.iconst 1, 1) := by decide +kernel
theorem d_L_law_339 : decode code 339 = .ok (.iadd, 1) := by decide +kernel
theorem d_L_law_340 : decode code 340 = .ok (.iaload, 1) := by decide +kernel
theorem d_L_law_341 : decode code 341 = .ok (.aload_n 0, 1) := by decide +kernel
theorem d_L_law_342 : decode code 342 = .ok (.iload_n 3, 1) := by decide +kernel
theorem d_L_law_343 : decode code 343 = .ok (.iconst 2, 1) := by decide +kernel
theorem d_L_law_344 : decode code 344 = .ok (.iadd, 1) := by decide +kernel
theorem d_L_law_345 : decode code 345 = .ok (.iaload, 1) := by decide +kernel
theorem d_L_law_346 : decode code 346 = .ok (.aload_n 0, 1) := by decide +kernel
theorem d_L_law_347 : decode code 347 = .ok (.iload_n 3, 1) := by decide +kernel
theorem d_L_law_348 : decode code 348 = .ok (.iconst 3, 1) := by decide +kernel
theorem d_L_law_349 : decode code 349 = .ok (.iadd, 1) := by decide +kernel
theorem d_L_law_350 : decode code 350 = .ok (.iaload, 1) := by decide +kernel
theorem d_L_law_351 : decode code 351 = .ok (.aload_n 0, 1) := by decide +kernel
theorem d_L_law_352 : decode code 352 = .ok (.iload_n 3, 1) := by decide +kernel
theorem d_L_law_353 : decode code 353 = .ok (.iconst 4, 1) := by decide +kernel
theorem d_L_law_354 : decode code 354 = .ok (.iadd, 1) := by decide +kernel
theorem d_L_law_355 : decode code 355 = .ok (.iaload, 1) := by decide +kernel
theorem d_L_law_356 : decode code 356 = .ok (.invokevirtual 48, 3) := by decide +kernel
theorem d_L_law_359 : decode code 359 = .ok (.if_icmp .eq 694, 3) := by decide +kernel
theorem d_L_law_362 : decode code 362 = .ok (.iconst 0, 1) := by decide +kernel
theorem d_L_law_363 : decode code 363 = .ok (.ireturn, 1) := by decide +kernel
theorem d_L_law_364 : decode code 364 = .ok (.aload_n 1, 1) := by decide +kernel
theorem d_L_law_365 : decode code 365 = .ok (.aload_n 0, 1) := by decide +kernel
theorem d_L_law_366 : decode code 366 = .ok (.iload_n 3, 1) := by decide +kernel
theorem d_L_law_367 : decode code 367 = .ok (.iconst 1, 1) := by decide +kernel
end
section
theorem d_L_law_368 : decode code 368 = .ok (.iadd, 1) := by decide +kernel
theorem d_L_law_369 : decode code 369 = .ok (.iaload, 1) := by decide +kernel
theorem d_L_law_370 : decode code 370 = .ok (.aload_n 0, 1) := by decide +kernel
theorem d_L_law_371 : decode code 371 = .ok (.iload_n 3, 1) := by decide +kernel
theorem d_L_law_372 : decode code 372 = .ok (.iconst 2, 1) := by decide +kernel
theorem d_L_law_373 : decode code 373 = .ok (.iadd, 1) := by decide +kernel
theorem d_L_law_374 : decode code 374 = .ok (.iaload, 1) := by decide +kernel
theorem d_L_law_375 : decode code 375 = .ok (.aload_n 0, 1) := by decide +kernel
theorem d_L_law_376 : decode code 376 = .ok (.iload_n 3, 1) := by decide +kernel
theorem d_L_law_377 : decode code 377 = .ok (.iconst 3, 1) := by decide +kernel
theorem d_L_law_378 : decode code 378 = .ok (.iadd, 1) := by decide +kernel
theorem d_L_law_379 : decode code 379 = .ok (.iaload, 1) := by decide +kernel
theorem d_L_law_380 : decode code 380 = .ok (.aload_n 0, 1) := by decide +kernel
theorem d_L_law_381 : decode code 381 = .ok (.iload_n 3, 1) := by decide +kernel
theorem d_L_law_382 : decode code 382 = .ok (.iconst 4, 1) := by decide +kernel
theorem d_L_law_383 : decode code 383 = .ok (.iadd, 1) := by decide +kernel
theorem d_L_law_384 : decode code 384 = .ok (.iaload, 1) := by decide +kernel
theorem d_L_law_385 : decode code 385 = .ok (.invokevirtual 49, 3) := by decide +kernel
theorem d_L_law_388 : decode code 388 = .ok (.aload_n 2, 1) := by decide +kernel
theorem d_L_law_389 : decode code 389 = .ok (.aload_n 0, 1) := by decide +kernel
theorem d_L_law_390 : decode code 390 = .ok (.iload_n 3, 1) := by decide +kernel
theorem d_L_law_391 : decode code 391 = .ok (.iconst 1, 1) := by decide +kernel
theorem d_L_law_392 : decode code 392 = .ok (.iadd, 1) := by decide +kernel
theorem d_L_law_393 : decode code 393 = .ok (.iaload, 1) := by decide +kernel
theorem d_L_law_394 : decode code 394 = .ok (.aload_n 0, 1) := by decide +kernel
theorem d_L_law_395 : decode code 395 = .ok (.iload_n 3, 1) := by decide +kernel
theorem d_L_law_396 : decode code 396 = .ok (.iconst 2, 1) := by decide +kernel
theorem d_L_law_397 : decode code 397 = .ok (.iadd, 1) := by decide +kernel
theorem d_L_law_398 : decode code 398 = .ok (.iaload, 1) := by decide +kernel
theorem d_L_law_399 : decode code 399 = .ok (.aload_n 0, 1) := by decide +kernel
theorem d_L_law_400 : decode code 400 = .ok (.iload_n 3, 1) := by decide +kernel
theorem d_L_law_401 : decode code 401 = .ok (.iconst 3, 1) := by decide +kernel
theorem d_L_law_402 : decode code 402 = .ok (.iadd, 1) := by decide +kernel
theorem d_L_law_403 : decode code 403 = .ok (.iaload, 1) := by decide +kernel
theorem d_L_law_404 : decode code 404 = .ok (.aload_n 0, 1) := by decide +kernel
theorem d_L_law_405 : decode code 405 = .ok (.iload_n 3, 1) := by decide +kernel
theorem d_L_law_406 : decode code 406 = .ok (.iconst 4, 1) := by decide +kernel
theorem d_L_law_407 : decode code 407 = .ok (.iadd, 1) := by decide +kernel
theorem d_L_law_408 : decode code 408 = .ok (.iaload, 1) := by decide +kernel
theorem d_L_law_409 : decode code 409 = .ok (.invokevirtual 53, 3) := by decide +kernel
theorem d_L_law_412 : decode code 412 = .ok (.if_icmp .eq 641, 3) := by decide +kernel
theorem d_L_law_415 : decode code 415 = .ok (.iconst 0, 1) := by decide +kernel
theorem d_L_law_416 : decode code 416 = .ok (.ireturn, 1) := by decide +kernel
theorem d_L_law_417 : decode code 417 = .ok (.aload_n 1, 1) := by decide +kernel
theorem d_L_law_418 : decode code 418 = .ok (.aload_n 0, 1) := by decide +kernel
theorem d_L_law_419 : decode code 419 = .ok (.iload_n 3, 1) := by decide +kernel
theorem d_L_law_420 : decode code 420 = .ok (.iconst 1, 1) := by decide +kernel
theorem d_L_law_421 : decode code 421 = .ok (.iadd, 1) := by decide +kernel
theorem d_L_law_422 : decode code 422 = .ok (.iaload, 1) := by decide +kernel
theorem d_L_law_423 : decode code 423 = .ok (.aload_n 0, 1) := by decide +kernel
theorem d_L_law_424 : decode code 424 = .ok (.iload_n 3, 1) := by decide +kernel
theorem d_L_law_425 : decode code 425 = .ok (.iconst 2, 1) := by decide +kernel
theorem d_L_law_426 : decode code 426 = .ok (.iadd, 1) := by decide +kernel
theorem d_L_law_427 : decode code 427 = .ok (.iaload, 1) := by decide +kernel
theorem d_L_law_428 : decode code 428 = .ok (.aload_n 0, 1) := by decide +kernel
theorem d_L_law_429 : decode code 429 = .ok (.iload_n 3, 1) := by decide +kernel
theorem d_L_law_430 : decode code 430 = .ok (.iconst 3, 1) := by decide +kernel
theorem d_L_law_431 : decode code 431 = .ok (.iadd, 1) := by decide +kernel
theorem d_L_law_432 : decode code 432 = .ok (.iaload, 1) := by decide +kernel
theorem d_L_law_433 : decode code 433 = .ok (.invokevirtual 54, 3) := by decide +kernel
theorem d_L_law_436 : decode code 436 = .ok (.aload_n 2, 1) := by decide +kernel
theorem d_L_law_437 : decode code 437 = .ok (.aload_n 0, 1) := by decide +kernel
theorem d_L_law_438 : decode code 438 = .ok (.iload_n 3, 1) := by decide +kernel
theorem d_L_law_439 : decode code 439 = .ok (.iconst 1, 1) := by decide +kernel
theorem d_L_law_440 : decode code 440 = .ok (.iadd, 1) := by decide +kernel
theorem d_L_law_441 : decode code 441 = .ok (.iaload, 1) := by decide +kernel
theorem d_L_law_442 : decode code 442 = .ok (.aload_n 0, 1) := by decide +kernel
theorem d_L_law_443 : decode code 443 = .ok (.iload_n 3, 1) := by decide +kernel
theorem d_L_law_444 : decode code 444 = .ok (.iconst 2, 1) := by decide +kernel
theorem d_L_law_445 : decode code 445 = .ok (.iadd, 1) := by decide +kernel
theorem d_L_law_446 : decode code 446 = .ok (.iaload, 1) := by decide +kernel
theorem d_L_law_447 : decode code 447 = .ok (.aload_n 0, 1) := by decide +kernel
theorem d_L_law_448 : decode code 448 = .ok (.iload_n 3, 1) := by decide +kernel
theorem d_L_law_449 : decode code 449 = .ok (.iconst 3, 1) := by decide +kernel
theorem d_L_law_450 : decode code 450 = .ok (.iadd, 1) := by decide +kernel
theorem d_L_law_451 : decode code 451 = .ok (.iaload, 1) := by decide +kernel
theorem d_L_law_452 : decode code 452 = .ok (.invokevirtual 58, 3) := by decide +kernel
theorem d_L_law_455 : decode code 455 = .ok (.if_icmp .eq 598, 3) := by decide +kernel
theorem d_L_law_458 : decode code 458 = .ok (.iconst 0, 1) := by decide +kernel
theorem d_L_law_459 : decode code 459 = .ok (.ireturn, 1) := by decide +kernel
theorem d_L_law_460 : decode code 460 = .ok (.aload_n 1, 1) := by decide +kernel
theorem d_L_law_461 : decode code 461 = .ok (.aload_n 0, 1) := by decide +kernel
theorem d_L_law_462 : decode code 462 = .ok (.iload_n 3, 1) := by decide +kernel
theorem d_L_law_463 : decode code 463 = .ok (.iconst 1, 1) := by decide +kernel
theorem d_L_law_464 : decode code 464 = .ok (.iadd, 1) := by decide +kernel
theorem d_L_law_465 : decode code 465 = .ok (.iaload, 1) := by decide +kernel
theorem d_L_law_466 : decode code 466 = .ok (.aload_n 0, 1) := by decide +kernel
theorem d_L_law_467 : decode code 467 = .ok (.iload_n 3, 1) := by decide +kernel
theorem d_L_law_468 : decode code 468 = .ok (.iconst 2, 1) := by decide +kernel
theorem d_L_law_469 : decode code 469 = .ok (.iadd, 1) := by decide +kernel
theorem d_L_law_470 : decode code 470 = .ok (.iaload, 1) := by decide +kernel
theorem d_L_law_471 : decode code 471 = .ok (.aload_n 0, 1) := by decide +kernel
theorem d_L_law_472 : decode code 472 = .ok (.iload_n 3, 1) := by decide +kernel
theorem d_L_law_473 : decode code 473 = .ok (.iconst 3, 1) := by decide +kernel
theorem d_L_law_474 : decode code 474 = .ok (.iadd, 1) := by decide +kernel
theorem d_L_law_475 : decode code 475 = .ok (.iaload, 1) := by decide +kernel
theorem d_L_law_476 : decode code 476 = .ok (.invokevirtual 59, 3) := by decide +kernel
theorem d_L_law_479 : decode code 479 = .ok (.aload_n 2, 1) := by decide +kernel
theorem d_L_law_480 : decode code 480 = .ok (.aload_n 0, 1) := by decide +kernel
theorem d_L_law_481 : decode code 481 = .ok (.iload_n 3, 1) := by decide +kernel
theorem d_L_law_482 : decode code 482 = .ok (.iconst 1, 1) := by decide +kernel
theorem d_L_law_483 : decode code 483 = .ok (.iadd, 1) := by decide +kernel
theorem d_L_law_484 : decode code 484 = .ok (.iaload, 1) := by decide +kernel
theorem d_L_law_485 : decode code 485 = .ok (.aload_n 0, 1) := by decide +kernel
theorem d_L_law_486 : decode code 486 = .ok (.iload_n 3, 1) := by decide +kernel
theorem d_L_law_487 : decode code 487 = .ok (.iconst 2, 1) := by decide +kernel
theorem d_L_law_488 : decode code 488 = .ok (.iadd, 1) := by decide +kernel
theorem d_L_law_489 : decode code 489 = .ok (.iaload, 1) := by decide +kernel
theorem d_L_law_490 : decode code 490 = .ok (.aload_n 0, 1) := by decide +kernel
theorem d_L_law_491 : decode code 491 = .ok (.iload_n 3, 1) := by decide +kernel
theorem d_L_law_492 : decode code 492 = .ok (.iconst 3, 1) := by decide +kernel
theorem d_L_law_493 : decode code 493 = .ok (.iadd, 1) := by decide +kernel
theorem d_L_law_494 : decode code 494 = .ok (.iaload, 1) := by decide +kernel
theorem d_L_law_495 : decode code 495 = .ok (.invokevirtual 62, 3) := by decide +kernel
theorem d_L_law_498 : decode code 498 = .ok (.if_icmp .eq 555, 3) := by decide +kernel
theorem d_L_law_501 : decode code 501 = .ok (.iconst 0, 1) := by decide +kernel
theorem d_L_law_502 : decode code 502 = .ok (.ireturn, 1) := by decide +kernel
theorem d_L_law_503 : decode code 503 = .ok (.aload_n 1, 1) := by decide +kernel
theorem d_L_law_504 : decode code 504 = .ok (.aload_n 0, 1) := by decide +kernel
theorem d_L_law_505 : decode code 505 = .ok (.iload_n 3, 1) := by decide +kernel
theorem d_L_law_506 : decode code 506 = .ok (.iconst 1, 1) := by decide +kernel
theorem d_L_law_507 : decode code 507 = .ok (.iadd, 1) := by decide +kernel
theorem d_L_law_508 : decode code 508 = .ok (.iaload, 1) := by decide +kernel
theorem d_L_law_509 : decode code 509 = .ok (.aload_n 0, 1) := by decide +kernel
theorem d_L_law_510 : decode code 510 = .ok (.iload_n 3, 1) := by decide +kernel
theorem d_L_law_511 : decode code 511 = .ok (.iconst 2, 1) := by decide +kernel
theorem d_L_law_512 : decode code 512 = .ok (.iadd, 1) := by decide +kernel
theorem d_L_law_513 : decode code 513 = .ok (.iaload, 1) := by decide +kernel
theorem d_L_law_514 : decode code 514 = .ok (.invokevirtual 63, 3) := by decide +kernel
theorem d_L_law_517 : decode code 517 = .ok (.aload_n 2, 1) := by decide +kernel
theorem d_L_law_518 : decode code 518 = .ok (.aload_n 0, 1) := by decide +kernel
theorem d_L_law_519 : decode code 519 = .ok (.iload_n 3, 1) := by decide +kernel
theorem d_L_law_520 : decode code 520 = .ok (.iconst 1, 1) := by decide +kernel
theorem d_L_law_521 : decode code 521 = .ok (.iadd, 1) := by decide +kernel
theorem d_L_law_522 : decode code 522 = .ok (.iaload, 1) := by decide +kernel
theorem d_L_law_523 : decode code 523 = .ok (.aload_n 0, 1) := by decide +kernel
theorem d_L_law_524 : decode code 524 = .ok (.iload_n 3, 1) := by decide +kernel
theorem d_L_law_525 : decode code 525 = .ok (.iconst 2, 1) := by decide +kernel
theorem d_L_law_526 : decode code 526 = .ok (.iadd, 1) := by decide +kernel
theorem d_L_law_527 : decode code 527 = .ok (.iaload, 1) := by decide +kernel
theorem d_L_law_528 : decode code 528 = .ok (.invokevirtual 66, 3) := by decide +kernel
theorem d_L_law_531 : decode code 531 = .ok (.if_icmp .eq 522, 3) := by decide +kernel
theorem d_L_law_534 : decode code 534 = .ok (.iconst 0, 1) := by decide +kernel
theorem d_L_law_535 : decode code 535 = .ok (.ireturn, 1) := by decide +kernel
theorem d_L_law_536 : decode code 536 = .ok (.aload_n 1, 1) := by decide +kernel
theorem d_L_law_537 : decode code 537 = .ok (.aload_n 0, 1) := by decide +kernel
theorem d_L_law_538 : decode code 538 = .ok (.iload_n 3, 1) := by decide +kernel
theorem d_L_law_539 : decode code 539 = .ok (.iconst 1, 1) := by decide +kernel
theorem d_L_law_540 : decode code 540 = .ok (.iadd, 1) := by decide +kernel
theorem d_L_law_541 : decode code 541 = .ok (.iaload, 1) := by decide +kernel
theorem d_L_law_542 : decode code 542 = .ok (.aload_n 0, 1) := by decide +kernel
theorem d_L_law_543 : decode code 543 = .ok (.iload_n 3, 1) := by decide +kernel
theorem d_L_law_544 : decode code 544 = .ok (.iconst 2, 1) := by decide +kernel
theorem d_L_law_545 : decode code 545 = .ok (.iadd, 1) := by decide +kernel
theorem d_L_law_546 : decode code 546 = .ok (.iaload, 1) := by decide +kernel
theorem d_L_law_547 : decode code 547 = .ok (.aload_n 0, 1) := by decide +kernel
theorem d_L_law_548 : decode code 548 = .ok (.iload_n 3, 1) := by decide +kernel
theorem d_L_law_549 : decode code 549 = .ok (.iconst 3, 1) := by decide +kernel
theorem d_L_law_550 : decode code 550 = .ok (.iadd, 1) := by decide +kernel
theorem d_L_law_551 : decode code 551 = .ok (.iaload, 1) := by decide +kernel
theorem d_L_law_552 : decode code 552 = .ok (.invokevirtual 67, 3) := by decide +kernel
theorem d_L_law_555 : decode code 555 = .ok (.aload_n 2, 1) := by decide +kernel
theorem d_L_law_556 : decode code 556 = .ok (.aload_n 0, 1) := by decide +kernel
theorem d_L_law_557 : decode code 557 = .ok (.iload_n 3, 1) := by decide +kernel
theorem d_L_law_558 : decode code 558 = .ok (.iconst 1, 1) := by decide +kernel
theorem d_L_law_559 : decode code 559 = .ok (.iadd, 1) := by decide +kernel
theorem d_L_law_560 : decode code 560 = .ok (.iaload, 1) := by decide +kernel
theorem d_L_law_561 : decode code 561 = .ok (.aload_n 0, 1) := by decide +kernel
theorem d_L_law_562 : decode code 562 = .ok (.iload_n 3, 1) := by decide +kernel
theorem d_L_law_563 : decode code 563 = .ok (.iconst 2, 1) := by decide +kernel
theorem d_L_law_564 : decode code 564 = .ok (.iadd, 1) := by decide +kernel
theorem d_L_law_565 : decode code 565 = .ok (.iaload, 1) := by decide +kernel
theorem d_L_law_566 : decode code 566 = .ok (.aload_n 0, 1) := by decide +kernel
theorem d_L_law_567 : decode code 567 = .ok (.iload_n 3, 1) := by decide +kernel
theorem d_L_law_568 : decode code 568 = .ok (.iconst 3, 1) := by decide +kernel
theorem d_L_law_569 : decode code 569 = .ok (.iadd, 1) := by decide +kernel
theorem d_L_law_570 : decode code 570 = .ok (.iaload, 1) := by decide +kernel
theorem d_L_law_571 : decode code 571 = .ok (.invokevirtual 70, 3) := by decide +kernel
theorem d_L_law_574 : decode code 574 = .ok (.if_icmp .eq 479, 3) := by decide +kernel
theorem d_L_law_577 : decode code 577 = .ok (.iconst 0, 1) := by decide +kernel
theorem d_L_law_578 : decode code 578 = .ok (.ireturn, 1) := by decide +kernel
theorem d_L_law_579 : decode code 579 = .ok (.aload_n 1, 1) := by decide +kernel
theorem d_L_law_580 : decode code 580 = .ok (.aload_n 0, 1) := by decide +kernel
theorem d_L_law_581 : decode code 581 = .ok (.iload_n 3, 1) := by decide +kernel
theorem d_L_law_582 : decode code 582 = .ok (.iconst 1, 1) := by decide +kernel
theorem d_L_law_583 : decode code 583 = .ok (.iadd, 1) := by decide +kernel
theorem d_L_law_584 : decode code 584 = .ok (.iaload, 1) := by decide +kernel
theorem d_L_law_585 : decode code 585 = .ok (.aload_n 0, 1) := by decide +kernel
theorem d_L_law_586 : decode code 586 = .ok (.iload_n 3, 1) := by decide +kernel
theorem d_L_law_587 : decode code 587 = .ok (.iconst 2, 1) := by decide +kernel
theorem d_L_law_588 : decode code 588 = .ok (.iadd, 1) := by decide +kernel
theorem d_L_law_589 : decode code 589 = .ok (.iaload, 1) := by decide +kernel
theorem d_L_law_590 : decode code 590 = .ok (.invokevirtual 71, 3) := by decide +kernel
theorem d_L_law_593 : decode code 593 = .ok (.aload_n 2, 1) := by decide +kernel
theorem d_L_law_594 : decode code 594 = .ok (.aload_n 0, 1) := by decide +kernel
theorem d_L_law_595 : decode code 595 = .ok (.iload_n 3, 1) := by decide +kernel
theorem d_L_law_596 : decode code 596 = .ok (.iconst 1, 1) := by decide +kernel
theorem d_L_law_597 : decode code 597 = .ok (.iadd, 1) := by decide +kernel
theorem d_L_law_598 : decode code 598 = .ok (.iaload, 1) := by decide +kernel
theorem d_L_law_599 : decode code 599 = .ok (.aload_n 0, 1) := by decide +kernel
end
section
theorem d_L_law_600 : decode code 600 = .ok (.iload_n 3, 1) := by decide +kernel
theorem d_L_law_601 : decode code 601 = .ok (.iconst 2, 1) := by decide +kernel
theorem d_L_law_602 : decode code 602 = .ok (.iadd, 1) := by decide +kernel
theorem d_L_law_603 : decode code 603 = .ok (.iaload, 1) := by decide +kernel
theorem d_L_law_604 : decode code 604 = .ok (.invokevirtual 74, 3) := by decide +kernel
theorem d_L_law_607 : decode code 607 = .ok (.if_icmp .eq 446, 3) := by decide +kernel
theorem d_L_law_610 : decode code 610 = .ok (.iconst 0, 1) := by decide +kernel
theorem d_L_law_611 : decode code 611 = .ok (.ireturn, 1) := by decide +kernel
theorem d_L_law_612 : decode code 612 = .ok (.aload_n 1, 1) := by decide +kernel
theorem d_L_law_613 : decode code 613 = .ok (.aload_n 0, 1) := by decide +kernel
theorem d_L_law_614 : decode code 614 = .ok (.iload_n 3, 1) := by decide +kernel
theorem d_L_law_615 : decode code 615 = .ok (.iconst 1, 1) := by decide +kernel
theorem d_L_law_616 : decode code 616 = .ok (.iadd, 1) := by decide +kernel
theorem d_L_law_617 : decode code 617 = .ok (.iaload, 1) := by decide +kernel
theorem d_L_law_618 : decode code 618 = .ok (.aload_n 0, 1) := by decide +kernel
theorem d_L_law_619 : decode code 619 = .ok (.iload_n 3, 1) := by decide +kernel
theorem d_L_law_620 : decode code 620 = .ok (.iconst 2, 1) := by decide +kernel
theorem d_L_law_621 : decode code 621 = .ok (.iadd, 1) := by decide +kernel
theorem d_L_law_622 : decode code 622 = .ok (.iaload, 1) := by decide +kernel
theorem d_L_law_623 : decode code 623 = .ok (.aload_n 0, 1) := by decide +kernel
theorem d_L_law_624 : decode code 624 = .ok (.iload_n 3, 1) := by decide +kernel
theorem d_L_law_625 : decode code 625 = .ok (.iconst 3, 1) := by decide +kernel
theorem d_L_law_626 : decode code 626 = .ok (.iadd, 1) := by decide +kernel
theorem d_L_law_627 : decode code 627 = .ok (.iaload, 1) := by decide +kernel
theorem d_L_law_628 : decode code 628 = .ok (.invokevirtual 75, 3) := by decide +kernel
theorem d_L_law_631 : decode code 631 = .ok (.aload_n 2, 1) := by decide +kernel
theorem d_L_law_632 : decode code 632 = .ok (.aload_n 0, 1) := by decide +kernel
theorem d_L_law_633 : decode code 633 = .ok (.iload_n 3, 1) := by decide +kernel
theorem d_L_law_634 : decode code 634 = .ok (.iconst 1, 1) := by decide +kernel
theorem d_L_law_635 : decode code 635 = .ok (.iadd, 1) := by decide +kernel
theorem d_L_law_636 : decode code 636 = .ok (.iaload, 1) := by decide +kernel
theorem d_L_law_637 : decode code 637 = .ok (.aload_n 0, 1) := by decide +kernel
theorem d_L_law_638 : decode code 638 = .ok (.iload_n 3, 1) := by decide +kernel
theorem d_L_law_639 : decode code 639 = .ok (.iconst 2, 1) := by decide +kernel
theorem d_L_law_640 : decode code 640 = .ok (.iadd, 1) := by decide +kernel
theorem d_L_law_641 : decode code 641 = .ok (.iaload, 1) := by decide +kernel
theorem d_L_law_642 : decode code 642 = .ok (.aload_n 0, 1) := by decide +kernel
theorem d_L_law_643 : decode code 643 = .ok (.iload_n 3, 1) := by decide +kernel
theorem d_L_law_644 : decode code 644 = .ok (.iconst 3, 1) := by decide +kernel
theorem d_L_law_645 : decode code 645 = .ok (.iadd, 1) := by decide +kernel
theorem d_L_law_646 : decode code 646 = .ok (.iaload, 1) := by decide +kernel
theorem d_L_law_647 : decode code 647 = .ok (.invokevirtual 79, 3) := by decide +kernel
theorem d_L_law_650 : decode code 650 = .ok (.if_icmp .eq 403, 3) := by decide +kernel
theorem d_L_law_653 : decode code 653 = .ok (.iconst 0, 1) := by decide +kernel
theorem d_L_law_654 : decode code 654 = .ok (.ireturn, 1) := by decide +kernel
theorem d_L_law_655 : decode code 655 = .ok (.aload_n 1, 1) := by decide +kernel
theorem d_L_law_656 : decode code 656 = .ok (.aload_n 0, 1) := by decide +kernel
theorem d_L_law_657 : decode code 657 = .ok (.iload_n 3, 1) := by decide +kernel
theorem d_L_law_658 : decode code 658 = .ok (.iconst 1, 1) := by decide +kernel
theorem d_L_law_659 : decode code 659 = .ok (.iadd, 1) := by decide +kernel
theorem d_L_law_660 : decode code 660 = .ok (.iaload, 1) := by decide +kernel
theorem d_L_law_661 : decode code 661 = .ok (.aload_n 0, 1) := by decide +kernel
theorem d_L_law_662 : decode code 662 = .ok (.iload_n 3, 1) := by decide +kernel
theorem d_L_law_663 : decode code 663 = .ok (.iconst 2, 1) := by decide +kernel
theorem d_L_law_664 : decode code 664 = .ok (.iadd, 1) := by decide +kernel
theorem d_L_law_665 : decode code 665 = .ok (.iaload, 1) := by decide +kernel
theorem d_L_law_666 : decode code 666 = .ok (.invokevirtual 80, 3) := by decide +kernel
theorem d_L_law_669 : decode code 669 = .ok (.aload_n 2, 1) := by decide +kernel
theorem d_L_law_670 : decode code 670 = .ok (.aload_n 0, 1) := by decide +kernel
theorem d_L_law_671 : decode code 671 = .ok (.iload_n 3, 1) := by decide +kernel
theorem d_L_law_672 : decode code 672 = .ok (.iconst 1, 1) := by decide +kernel
theorem d_L_law_673 : decode code 673 = .ok (.iadd, 1) := by decide +kernel
theorem d_L_law_674 : decode code 674 = .ok (.iaload, 1) := by decide +kernel
theorem d_L_law_675 : decode code 675 = .ok (.aload_n 0, 1) := by decide +kernel
theorem d_L_law_676 : decode code 676 = .ok (.iload_n 3, 1) := by decide +kernel
theorem d_L_law_677 : decode code 677 = .ok (.iconst 2, 1) := by decide +kernel
theorem d_L_law_678 : decode code 678 = .ok (.iadd, 1) := by decide +kernel
theorem d_L_law_679 : decode code 679 = .ok (.iaload, 1) := by decide +kernel
theorem d_L_law_680 : decode code 680 = .ok (.invokevirtual 83, 3) := by decide +kernel
theorem d_L_law_683 : decode code 683 = .ok (.if_icmp .eq 370, 3) := by decide +kernel
theorem d_L_law_686 : decode code 686 = .ok (.iconst 0, 1) := by decide +kernel
theorem d_L_law_687 : decode code 687 = .ok (.ireturn, 1) := by decide +kernel
theorem d_L_law_688 : decode code 688 = .ok (.aload_n 1, 1) := by decide +kernel
theorem d_L_law_689 : decode code 689 = .ok (.aload_n 0, 1) := by decide +kernel
theorem d_L_law_690 : decode code 690 = .ok (.iload_n 3, 1) := by decide +kernel
theorem d_L_law_691 : decode code 691 = .ok (.iconst 1, 1) := by decide +kernel
theorem d_L_law_692 : decode code 692 = .ok (.iadd, 1) := by decide +kernel
theorem d_L_law_693 : decode code 693 = .ok (.iaload, 1) := by decide +kernel
theorem d_L_law_694 : decode code 694 = .ok (.invokevirtual 84, 3) := by decide +kernel
theorem d_L_law_697 : decode code 697 = .ok (.aload_n 2, 1) := by decide +kernel
theorem d_L_law_698 : decode code 698 = .ok (.aload_n 0, 1) := by decide +kernel
theorem d_L_law_699 : decode code 699 = .ok (.iload_n 3, 1) := by decide +kernel
theorem d_L_law_700 : decode code 700 = .ok (.iconst 1, 1) := by decide +kernel
theorem d_L_law_701 : decode code 701 = .ok (.iadd, 1) := by decide +kernel
theorem d_L_law_702 : decode code 702 = .ok (.iaload, 1) := by decide +kernel
theorem d_L_law_703 : decode code 703 = .ok (.invokevirtual 87, 3) := by decide +kernel
theorem d_L_law_706 : decode code 706 = .ok (.if_icmp .eq 347, 3) := by decide +kernel
theorem d_L_law_709 : decode code 709 = .ok (.iconst 0, 1) := by decide +kernel
theorem d_L_law_710 : decode code 710 = .ok (.ireturn, 1) := by decide +kernel
theorem d_L_law_711 : decode code 711 = .ok (.aload_n 1, 1) := by decide +kernel
theorem d_L_law_712 : decode code 712 = .ok (.aload_n 0, 1) := by decide +kernel
theorem d_L_law_713 : decode code 713 = .ok (.iload_n 3, 1) := by decide +kernel
theorem d_L_law_714 : decode code 714 = .ok (.iconst 1, 1) := by decide +kernel
theorem d_L_law_715 : decode code 715 = .ok (.iadd, 1) := by decide +kernel
theorem d_L_law_716 : decode code 716 = .ok (.iaload, 1) := by decide +kernel
theorem d_L_law_717 : decode code 717 = .ok (.invokevirtual 88, 3) := by decide +kernel
theorem d_L_law_720 : decode code 720 = .ok (.aload_n 2, 1) := by decide +kernel
theorem d_L_law_721 : decode code 721 = .ok (.aload_n 0, 1) := by decide +kernel
theorem d_L_law_722 : decode code 722 = .ok (.iload_n 3, 1) := by decide +kernel
theorem d_L_law_723 : decode code 723 = .ok (.iconst 1, 1) := by decide +kernel
theorem d_L_law_724 : decode code 724 = .ok (.iadd, 1) := by decide +kernel
theorem d_L_law_725 : decode code 725 = .ok (.iaload, 1) := by decide +kernel
theorem d_L_law_726 : decode code 726 = .ok (.invokevirtual 91, 3) := by decide +kernel
theorem d_L_law_729 : decode code 729 = .ok (.if_icmp .eq 324, 3) := by decide +kernel
theorem d_L_law_732 : decode code 732 = .ok (.iconst 0, 1) := by decide +kernel
theorem d_L_law_733 : decode code 733 = .ok (.ireturn, 1) := by decide +kernel
theorem d_L_law_734 : decode code 734 = .ok (.aload_n 1, 1) := by decide +kernel
theorem d_L_law_735 : decode code 735 = .ok (.aload_n 0, 1) := by decide +kernel
theorem d_L_law_736 : decode code 736 = .ok (.iload_n 3, 1) := by decide +kernel
theorem d_L_law_737 : decode code 737 = .ok (.iconst 1, 1) := by decide +kernel
theorem d_L_law_738 : decode code 738 = .ok (.iadd, 1) := by decide +kernel
theorem d_L_law_739 : decode code 739 = .ok (.iaload, 1) := by decide +kernel
theorem d_L_law_740 : decode code 740 = .ok (.invokevirtual 92, 3) := by decide +kernel
theorem d_L_law_743 : decode code 743 = .ok (.aload_n 2, 1) := by decide +kernel
theorem d_L_law_744 : decode code 744 = .ok (.aload_n 0, 1) := by decide +kernel
theorem d_L_law_745 : decode code 745 = .ok (.iload_n 3, 1) := by decide +kernel
theorem d_L_law_746 : decode code 746 = .ok (.iconst 1, 1) := by decide +kernel
theorem d_L_law_747 : decode code 747 = .ok (.iadd, 1) := by decide +kernel
theorem d_L_law_748 : decode code 748 = .ok (.iaload, 1) := by decide +kernel
theorem d_L_law_749 : decode code 749 = .ok (.invokevirtual 95, 3) := by decide +kernel
theorem d_L_law_752 : decode code 752 = .ok (.if_icmp .eq 301, 3) := by decide +kernel
theorem d_L_law_755 : decode code 755 = .ok (.iconst 0, 1) := by decide +kernel
theorem d_L_law_756 : decode code 756 = .ok (.ireturn, 1) := by decide +kernel
theorem d_L_law_757 : decode code 757 = .ok (.aload_n 1, 1) := by decide +kernel
theorem d_L_law_758 : decode code 758 = .ok (.aload_n 0, 1) := by decide +kernel
theorem d_L_law_759 : decode code 759 = .ok (.iload_n 3, 1) := by decide +kernel
theorem d_L_law_760 : decode code 760 = .ok (.iconst 1, 1) := by decide +kernel
theorem d_L_law_761 : decode code 761 = .ok (.iadd, 1) := by decide +kernel
theorem d_L_law_762 : decode code 762 = .ok (.iaload, 1) := by decide +kernel
theorem d_L_law_763 : decode code 763 = .ok (.invokevirtual 96, 3) := by decide +kernel
theorem d_L_law_766 : decode code 766 = .ok (.aload_n 2, 1) := by decide +kernel
theorem d_L_law_767 : decode code 767 = .ok (.aload_n 0, 1) := by decide +kernel
theorem d_L_law_768 : decode code 768 = .ok (.iload_n 3, 1) := by decide +kernel
theorem d_L_law_769 : decode code 769 = .ok (.iconst 1, 1) := by decide +kernel
theorem d_L_law_770 : decode code 770 = .ok (.iadd, 1) := by decide +kernel
theorem d_L_law_771 : decode code 771 = .ok (.iaload, 1) := by decide +kernel
theorem d_L_law_772 : decode code 772 = .ok (.invokevirtual 99, 3) := by decide +kernel
theorem d_L_law_775 : decode code 775 = .ok (.if_icmp .eq 278, 3) := by decide +kernel
theorem d_L_law_778 : decode code 778 = .ok (.iconst 0, 1) := by decide +kernel
theorem d_L_law_779 : decode code 779 = .ok (.ireturn, 1) := by decide +kernel
theorem d_L_law_780 : decode code 780 = .ok (.aload_n 1, 1) := by decide +kernel
theorem d_L_law_781 : decode code 781 = .ok (.aload_n 0, 1) := by decide +kernel
theorem d_L_law_782 : decode code 782 = .ok (.iload_n 3, 1) := by decide +kernel
theorem d_L_law_783 : decode code 783 = .ok (.iconst 1, 1) := by decide +kernel
theorem d_L_law_784 : decode code 784 = .ok (.iadd, 1) := by decide +kernel
theorem d_L_law_785 : decode code 785 = .ok (.iaload, 1) := by decide +kernel
theorem d_L_law_786 : decode code 786 = .ok (.aload_n 0, 1) := by decide +kernel
theorem d_L_law_787 : decode code 787 = .ok (.iload_n 3, 1) := by decide +kernel
theorem d_L_law_788 : decode code 788 = .ok (.iconst 2, 1) := by decide +kernel
theorem d_L_law_789 : decode code 789 = .ok (.iadd, 1) := by decide +kernel
theorem d_L_law_790 : decode code 790 = .ok (.iaload, 1) := by decide +kernel
theorem d_L_law_791 : decode code 791 = .ok (.invokevirtual 100, 3) := by decide +kernel
theorem d_L_law_794 : decode code 794 = .ok (.aload_n 2, 1) := by decide +kernel
theorem d_L_law_795 : decode code 795 = .ok (.aload_n 0, 1) := by decide +kernel
theorem d_L_law_796 : decode code 796 = .ok (.iload_n 3, 1) := by decide +kernel
theorem d_L_law_797 : decode code 797 = .ok (.iconst 1, 1) := by decide +kernel
theorem d_L_law_798 : decode code 798 = .ok (.iadd, 1) := by decide +kernel
theorem d_L_law_799 : decode code 799 = .ok (.iaload, 1) := by decide +kernel
theorem d_L_law_800 : decode code 800 = .ok (.aload_n 0, 1) := by decide +kernel
theorem d_L_law_801 : decode code 801 = .ok (.iload_n 3, 1) := by decide +kernel
theorem d_L_law_802 : decode code 802 = .ok (.iconst 2, 1) := by decide +kernel
theorem d_L_law_803 : decode code 803 = .ok (.iadd, 1) := by decide +kernel
theorem d_L_law_804 : decode code 804 = .ok (.iaload, 1) := by decide +kernel
theorem d_L_law_805 : decode code 805 = .ok (.invokevirtual 103, 3) := by decide +kernel
theorem d_L_law_808 : decode code 808 = .ok (.if_icmp .eq 245, 3) := by decide +kernel
theorem d_L_law_811 : decode code 811 = .ok (.iconst 0, 1) := by decide +kernel
theorem d_L_law_812 : decode code 812 = .ok (.ireturn, 1) := by decide +kernel
theorem d_L_law_813 : decode code 813 = .ok (.aload_n 1, 1) := by decide +kernel
theorem d_L_law_814 : decode code 814 = .ok (.aload_n 0, 1) := by decide +kernel
theorem d_L_law_815 : decode code 815 = .ok (.iload_n 3, 1) := by decide +kernel
theorem d_L_law_816 : decode code 816 = .ok (.iconst 1, 1) := by decide +kernel
theorem d_L_law_817 : decode code 817 = .ok (.iadd, 1) := by decide +kernel
theorem d_L_law_818 : decode code 818 = .ok (.iaload, 1) := by decide +kernel
theorem d_L_law_819 : decode code 819 = .ok (.aload_n 0, 1) := by decide +kernel
theorem d_L_law_820 : decode code 820 = .ok (.iload_n 3, 1) := by decide +kernel
theorem d_L_law_821 : decode code 821 = .ok (.iconst 2, 1) := by decide +kernel
theorem d_L_law_822 : decode code 822 = .ok (.iadd, 1) := by decide +kernel
theorem d_L_law_823 : decode code 823 = .ok (.iaload, 1) := by decide +kernel
theorem d_L_law_824 : decode code 824 = .ok (.invokevirtual 104, 3) := by decide +kernel
theorem d_L_law_827 : decode code 827 = .ok (.aload_n 2, 1) := by decide +kernel
theorem d_L_law_828 : decode code 828 = .ok (.aload_n 0, 1) := by decide +kernel
theorem d_L_law_829 : decode code 829 = .ok (.iload_n 3, 1) := by decide +kernel
theorem d_L_law_830 : decode code 830 = .ok (.iconst 1, 1) := by decide +kernel
theorem d_L_law_831 : decode code 831 = .ok (.iadd, 1) := by decide +kernel
theorem d_L_law_832 : decode code 832 = .ok (.iaload, 1) := by decide +kernel
theorem d_L_law_833 : decode code 833 = .ok (.aload_n 0, 1) := by decide +kernel
theorem d_L_law_834 : decode code 834 = .ok (.iload_n 3, 1) := by decide +kernel
theorem d_L_law_835 : decode code 835 = .ok (.iconst 2, 1) := by decide +kernel
theorem d_L_law_836 : decode code 836 = .ok (.iadd, 1) := by decide +kernel
theorem d_L_law_837 : decode code 837 = .ok (.iaload, 1) := by decide +kernel
theorem d_L_law_838 : decode code 838 = .ok (.invokevirtual 107, 3) := by decide +kernel
theorem d_L_law_841 : decode code 841 = .ok (.if_icmp .eq 212, 3) := by decide +kernel
theorem d_L_law_844 : decode code 844 = .ok (.iconst 0, 1) := by decide +kernel
theorem d_L_law_845 : decode code 845 = .ok (.ireturn, 1) := by decide +kernel
theorem d_L_law_846 : decode code 846 = .ok (.aload_n 1, 1) := by decide +kernel
theorem d_L_law_847 : decode code 847 = .ok (.aload_n 0, 1) := by decide +kernel
theorem d_L_law_848 : decode code 848 = .ok (.iload_n 3, 1) := by decide +kernel
theorem d_L_law_849 : decode code 849 = .ok (.iconst 1, 1) := by decide +kernel
theorem d_L_law_850 : decode code 850 = .ok (.iadd, 1) := by decide +kernel
theorem d_L_law_851 : decode code 851 = .ok (.iaload, 1) := by decide +kernel
end
section
theorem d_L_law_852 : decode code 852 = .ok (.aload_n 0, 1) := by decide +kernel
theorem d_L_law_853 : decode code 853 = .ok (.iload_n 3, 1) := by decide +kernel
theorem d_L_law_854 : decode code 854 = .ok (.iconst 2, 1) := by decide +kernel
theorem d_L_law_855 : decode code 855 = .ok (.iadd, 1) := by decide +kernel
theorem d_L_law_856 : decode code 856 = .ok (.iaload, 1) := by decide +kernel
theorem d_L_law_857 : decode code 857 = .ok (.invokevirtual 108, 3) := by decide +kernel
theorem d_L_law_860 : decode code 860 = .ok (.aload_n 2, 1) := by decide +kernel
theorem d_L_law_861 : decode code 861 = .ok (.aload_n 0, 1) := by decide +kernel
theorem d_L_law_862 : decode code 862 = .ok (.iload_n 3, 1) := by decide +kernel
theorem d_L_law_863 : decode code 863 = .ok (.iconst 1, 1) := by decide +kernel
theorem d_L_law_864 : decode code 864 = .ok (.iadd, 1) := by decide +kernel
theorem d_L_law_865 : decode code 865 = .ok (.iaload, 1) := by decide +kernel
theorem d_L_law_866 : decode code 866 = .ok (.aload_n 0, 1) := by decide +kernel
theorem d_L_law_867 : decode code 867 = .ok (.iload_n 3, 1) := by decide +kernel
theorem d_L_law_868 : decode code 868 = .ok (.iconst 2, 1) := by decide +kernel
theorem d_L_law_869 : decode code 869 = .ok (.iadd, 1) := by decide +kernel
theorem d_L_law_870 : decode code 870 = .ok (.iaload, 1) := by decide +kernel
theorem d_L_law_871 : decode code 871 = .ok (.invokevirtual 111, 3) := by decide +kernel
theorem d_L_law_874 : decode code 874 = .ok (.if_icmp .eq 179, 3) := by decide +kernel
theorem d_L_law_877 : decode code 877 = .ok (.iconst 0, 1) := by decide +kernel
theorem d_L_law_878 : decode code 878 = .ok (.ireturn, 1) := by decide +kernel
theorem d_L_law_879 : decode code 879 = .ok (.aload_n 1, 1) := by decide +kernel
theorem d_L_law_880 : decode code 880 = .ok (.aload_n 0, 1) := by decide +kernel
theorem d_L_law_881 : decode code 881 = .ok (.iload_n 3, 1) := by decide +kernel
theorem d_L_law_882 : decode code 882 = .ok (.iconst 1, 1) := by decide +kernel
theorem d_L_law_883 : decode code 883 = .ok (.iadd, 1) := by decide +kernel
theorem d_L_law_884 : decode code 884 = .ok (.iaload, 1) := by decide +kernel
theorem d_L_law_885 : decode code 885 = .ok (.aload_n 0, 1) := by decide +kernel
theorem d_L_law_886 : decode code 886 = .ok (.iload_n 3, 1) := by decide +kernel
theorem d_L_law_887 : decode code 887 = .ok (.iconst 2, 1) := by decide +kernel
theorem d_L_law_888 : decode code 888 = .ok (.iadd, 1) := by decide +kernel
theorem d_L_law_889 : decode code 889 = .ok (.iaload, 1) := by decide +kernel
theorem d_L_law_890 : decode code 890 = .ok (.ifCond .eq 7, 3) := by decide +kernel
theorem d_L_law_893 : decode code 893 = .ok (.iconst 1, 1) := by decide +kernel
theorem d_L_law_894 : decode code 894 = .ok (.goto 4, 3) := by decide +kernel
theorem d_L_law_897 : decode code 897 = .ok (.iconst 0, 1) := by decide +kernel
theorem d_L_law_898 : decode code 898 = .ok (.invokevirtual 112, 3) := by decide +kernel
theorem d_L_law_901 : decode code 901 = .ok (.aload_n 2, 1) := by decide +kernel
theorem d_L_law_902 : decode code 902 = .ok (.aload_n 0, 1) := by decide +kernel
theorem d_L_law_903 : decode code 903 = .ok (.iload_n 3, 1) := by decide +kernel
theorem d_L_law_904 : decode code 904 = .ok (.iconst 1, 1) := by decide +kernel
theorem d_L_law_905 : decode code 905 = .ok (.iadd, 1) := by decide +kernel
theorem d_L_law_906 : decode code 906 = .ok (.iaload, 1) := by decide +kernel
theorem d_L_law_907 : decode code 907 = .ok (.aload_n 0, 1) := by decide +kernel
theorem d_L_law_908 : decode code 908 = .ok (.iload_n 3, 1) := by decide +kernel
theorem d_L_law_909 : decode code 909 = .ok (.iconst 2, 1) := by decide +kernel
theorem d_L_law_910 : decode code 910 = .ok (.iadd, 1) := by decide +kernel
theorem d_L_law_911 : decode code 911 = .ok (.iaload, 1) := by decide +kernel
theorem d_L_law_912 : decode code 912 = .ok (.ifCond .eq 7, 3) := by decide +kernel
theorem d_L_law_915 : decode code 915 = .ok (.iconst 1, 1) := by decide +kernel
theorem d_L_law_916 : decode code 916 = .ok (.goto 4, 3) := by decide +kernel
theorem d_L_law_919 : decode code 919 = .ok (.iconst 0, 1) := by decide +kernel
theorem d_L_law_920 : decode code 920 = .ok (.invokevirtual 116, 3) := by decide +kernel
theorem d_L_law_923 : decode code 923 = .ok (.if_icmp .eq 130, 3) := by decide +kernel
theorem d_L_law_926 : decode code 926 = .ok (.iconst 0, 1) := by decide +kernel
theorem d_L_law_927 : decode code 927 = .ok (.ireturn, 1) := by decide +kernel
theorem d_L_law_928 : decode code 928 = .ok (.aload_n 1, 1) := by decide +kernel
theorem d_L_law_929 : decode code 929 = .ok (.aload_n 0, 1) := by decide +kernel
theorem d_L_law_930 : decode code 930 = .ok (.iload_n 3, 1) := by decide +kernel
theorem d_L_law_931 : decode code 931 = .ok (.iconst 1, 1) := by decide +kernel
theorem d_L_law_932 : decode code 932 = .ok (.iadd, 1) := by decide +kernel
theorem d_L_law_933 : decode code 933 = .ok (.iaload, 1) := by decide +kernel
theorem d_L_law_934 : decode code 934 = .ok (.aload_n 0, 1) := by decide +kernel
theorem d_L_law_935 : decode code 935 = .ok (.iload_n 3, 1) := by decide +kernel
theorem d_L_law_936 : decode code 936 = .ok (.iconst 2, 1) := by decide +kernel
theorem d_L_law_937 : decode code 937 = .ok (.iadd, 1) := by decide +kernel
theorem d_L_law_938 : decode code 938 = .ok (.iaload, 1) := by decide +kernel
theorem d_L_law_939 : decode code 939 = .ok (.aload_n 0, 1) := by decide +kernel
theorem d_L_law_940 : decode code 940 = .ok (.iload_n 3, 1) := by decide +kernel
theorem d_L_law_941 : decode code 941 = .ok (.iconst 3, 1) := by decide +kernel
theorem d_L_law_942 : decode code 942 = .ok (.iadd, 1) := by decide +kernel
theorem d_L_law_943 : decode code 943 = .ok (.iaload, 1) := by decide +kernel
theorem d_L_law_944 : decode code 944 = .ok (.invokevirtual 117, 3) := by decide +kernel
theorem d_L_law_947 : decode code 947 = .ok (.aload_n 2, 1) := by decide +kernel
theorem d_L_law_948 : decode code 948 = .ok (.aload_n 0, 1) := by decide +kernel
theorem d_L_law_949 : decode code 949 = .ok (.iload_n 3, 1) := by decide +kernel
theorem d_L_law_950 : decode code 950 = .ok (.iconst 1, 1) := by decide +kernel
theorem d_L_law_951 : decode code 951 = .ok (.iadd, 1) := by decide +kernel
theorem d_L_law_952 : decode code 952 = .ok (.iaload, 1) := by decide +kernel
theorem d_L_law_953 : decode code 953 = .ok (.aload_n 0, 1) := by decide +kernel
theorem d_L_law_954 : decode code 954 = .ok (.iload_n 3, 1) := by decide +kernel
theorem d_L_law_955 : decode code 955 = .ok (.iconst 2, 1) := by decide +kernel
theorem d_L_law_956 : decode code 956 = .ok (.iadd, 1) := by decide +kernel
theorem d_L_law_957 : decode code 957 = .ok (.iaload, 1) := by decide +kernel
theorem d_L_law_958 : decode code 958 = .ok (.aload_n 0, 1) := by decide +kernel
theorem d_L_law_959 : decode code 959 = .ok (.iload_n 3, 1) := by decide +kernel
theorem d_L_law_960 : decode code 960 = .ok (.iconst 3, 1) := by decide +kernel
theorem d_L_law_961 : decode code 961 = .ok (.iadd, 1) := by decide +kernel
theorem d_L_law_962 : decode code 962 = .ok (.iaload, 1) := by decide +kernel
theorem d_L_law_963 : decode code 963 = .ok (.invokevirtual 120, 3) := by decide +kernel
theorem d_L_law_966 : decode code 966 = .ok (.if_icmp .eq 87, 3) := by decide +kernel
theorem d_L_law_969 : decode code 969 = .ok (.iconst 0, 1) := by decide +kernel
theorem d_L_law_970 : decode code 970 = .ok (.ireturn, 1) := by decide +kernel
theorem d_L_law_971 : decode code 971 = .ok (.aload_n 1, 1) := by decide +kernel
theorem d_L_law_972 : decode code 972 = .ok (.aload_n 0, 1) := by decide +kernel
theorem d_L_law_973 : decode code 973 = .ok (.iload_n 3, 1) := by decide +kernel
theorem d_L_law_974 : decode code 974 = .ok (.iconst 1, 1) := by decide +kernel
theorem d_L_law_975 : decode code 975 = .ok (.iadd, 1) := by decide +kernel
theorem d_L_law_976 : decode code 976 = .ok (.iaload, 1) := by decide +kernel
theorem d_L_law_977 : decode code 977 = .ok (.aload_n 0, 1) := by decide +kernel
theorem d_L_law_978 : decode code 978 = .ok (.iload_n 3, 1) := by decide +kernel
theorem d_L_law_979 : decode code 979 = .ok (.iconst 2, 1) := by decide +kernel
theorem d_L_law_980 : decode code 980 = .ok (.iadd, 1) := by decide +kernel
theorem d_L_law_981 : decode code 981 = .ok (.iaload, 1) := by decide +kernel
theorem d_L_law_982 : decode code 982 = .ok (.aload_n 0, 1) := by decide +kernel
theorem d_L_law_983 : decode code 983 = .ok (.iload_n 3, 1) := by decide +kernel
theorem d_L_law_984 : decode code 984 = .ok (.iconst 3, 1) := by decide +kernel
theorem d_L_law_985 : decode code 985 = .ok (.iadd, 1) := by decide +kernel
theorem d_L_law_986 : decode code 986 = .ok (.iaload, 1) := by decide +kernel
theorem d_L_law_987 : decode code 987 = .ok (.invokevirtual 121, 3) := by decide +kernel
theorem d_L_law_990 : decode code 990 = .ok (.aload_n 2, 1) := by decide +kernel
theorem d_L_law_991 : decode code 991 = .ok (.aload_n 0, 1) := by decide +kernel
theorem d_L_law_992 : decode code 992 = .ok (.iload_n 3, 1) := by decide +kernel
theorem d_L_law_993 : decode code 993 = .ok (.iconst 1, 1) := by decide +kernel
theorem d_L_law_994 : decode code 994 = .ok (.iadd, 1) := by decide +kernel
theorem d_L_law_995 : decode code 995 = .ok (.iaload, 1) := by decide +kernel
theorem d_L_law_996 : decode code 996 = .ok (.aload_n 0, 1) := by decide +kernel
theorem d_L_law_997 : decode code 997 = .ok (.iload_n 3, 1) := by decide +kernel
theorem d_L_law_998 : decode code 998 = .ok (.iconst 2, 1) := by decide +kernel
theorem d_L_law_999 : decode code 999 = .ok (.iadd, 1) := by decide +kernel
theorem d_L_law_1000 : decode code 1000 = .ok (.iaload, 1) := by decide +kernel
theorem d_L_law_1001 : decode code 1001 = .ok (.aload_n 0, 1) := by decide +kernel
theorem d_L_law_1002 : decode code 1002 = .ok (.iload_n 3, 1) := by decide +kernel
theorem d_L_law_1003 : decode code 1003 = .ok (.iconst 3, 1) := by decide +kernel
theorem d_L_law_1004 : decode code 1004 = .ok (.iadd, 1) := by decide +kernel
theorem d_L_law_1005 : decode code 1005 = .ok (.iaload, 1) := by decide +kernel
theorem d_L_law_1006 : decode code 1006 = .ok (.invokevirtual 124, 3) := by decide +kernel
theorem d_L_law_1009 : decode code 1009 = .ok (.if_icmp .eq 44, 3) := by decide +kernel
theorem d_L_law_1012 : decode code 1012 = .ok (.iconst 0, 1) := by decide +kernel
theorem d_L_law_1013 : decode code 1013 = .ok (.ireturn, 1) := by decide +kernel
theorem d_L_law_1014 : decode code 1014 = .ok (.aload_n 1, 1) := by decide +kernel
theorem d_L_law_1015 : decode code 1015 = .ok (.invokevirtual 125, 3) := by decide +kernel
theorem d_L_law_1018 : decode code 1018 = .ok (.aload_n 2, 1) := by decide +kernel
theorem d_L_law_1019 : decode code 1019 = .ok (.invokevirtual 129, 3) := by decide +kernel
theorem d_L_law_1022 : decode code 1022 = .ok (.if_icmp .eq 31, 3) := by decide +kernel
theorem d_L_law_1025 : decode code 1025 = .ok (.iconst 0, 1) := by decide +kernel
theorem d_L_law_1026 : decode code 1026 = .ok (.ireturn, 1) := by decide +kernel
theorem d_L_law_1027 : decode code 1027 = .ok (.aload_n 1, 1) := by decide +kernel
theorem d_L_law_1028 : decode code 1028 = .ok (.invokevirtual 130, 3) := by decide +kernel
theorem d_L_law_1031 : decode code 1031 = .ok (.aload_n 2, 1) := by decide +kernel
theorem d_L_law_1032 : decode code 1032 = .ok (.invokevirtual 133, 3) := by decide +kernel
theorem d_L_law_1035 : decode code 1035 = .ok (.if_icmp .eq 18, 3) := by decide +kernel
theorem d_L_law_1038 : decode code 1038 = .ok (.iconst 0, 1) := by decide +kernel
theorem d_L_law_1039 : decode code 1039 = .ok (.ireturn, 1) := by decide +kernel
theorem d_L_law_1040 : decode code 1040 = .ok (.aload_n 1, 1) := by decide +kernel
theorem d_L_law_1041 : decode code 1041 = .ok (.invokevirtual 134, 3) := by decide +kernel
theorem d_L_law_1044 : decode code 1044 = .ok (.aload_n 2, 1) := by decide +kernel
theorem d_L_law_1045 : decode code 1045 = .ok (.invokevirtual 137, 3) := by decide +kernel
theorem d_L_law_1048 : decode code 1048 = .ok (.if_icmp .eq 5, 3) := by decide +kernel
theorem d_L_law_1051 : decode code 1051 = .ok (.iconst 0, 1) := by decide +kernel
theorem d_L_law_1052 : decode code 1052 = .ok (.ireturn, 1) := by decide +kernel
theorem d_L_law_1053 : decode code 1053 = .ok (.iinc 3 5, 3) := by decide +kernel
theorem d_L_law_1056 : decode code 1056 = .ok (.goto (-1018), 3) := by decide +kernel
theorem d_L_law_1059 : decode code 1059 = .ok (.iconst 1, 1) := by decide +kernel
theorem d_L_law_1060 : decode code 1060 = .ok (.ireturn, 1) := by decide +kernel
end
section
/-! WORLDS TOLD BY A FUNCTION: G says what stands at an address. Behind it stands a list, for the kit's rows. -/
abbrev gw_G : Type := Nat → Option va_E
def gw_A (G : gw_G) (sz : Nat) : Nat → Prop := fun q => (∃ e, G q = some e) ∨ sz ≤ q
def gw_P (D : va_G) (cl : List vw_C) (A : Nat → Prop) (G : gw_G) (H : Heap) : Prop :=
  ∃ ws : va_W, va_P D cl ws H ∧ va_D A ws ∧ ∀ (a : Nat) (e : va_E), G a = some e ↔ (a, e) ∈ ws
def gw_N : gw_G := fun _ => none
theorem gw_P.nil {D : va_G} {cl : List vw_C} {A : Nat → Prop} {H : Heap} : gw_P D cl A gw_N H := ⟨[], fun k q h => by simp at h, ⟨fun i j p q h => by simp at h, fun k q h => by simp at h⟩, fun a e => ⟨fun h => (by cases h), fun h => (by cases h)⟩⟩
theorem gw_P.at {D : va_G} {cl : List vw_C} {A : Nat → Prop} {G : gw_G} {H : Heap} (h : gw_P D cl A G H) {a : Nat} {e : va_E} (ha : G a = some e) : va_at D cl (a, e) H := by
  obtain ⟨ws, hP, hD, hw⟩ := h
  obtain ⟨k, hk⟩ := List.getElem?_of_mem ((hw a e).mp ha)
  exact hP k _ hk
theorem gw_P.one {D : va_G} {cl : List vw_C} {A : Nat → Prop} {G : gw_G} {H : Heap} (h : gw_P D cl A G H) {a : Nat} {e : va_E} (ha : G a = some e) : va_P D cl [(a, e)] H := by
  intro k q hk
  cases k with
  | zero => cases hk; exact h.at ha
  | succ k => simp at hk
theorem gw_P.two {D : va_G} {cl : List vw_C} {A : Nat → Prop} {G : gw_G} {H : Heap} (h : gw_P D cl A G H) {a b : Nat} {e f : va_E} (ha : G a = some e) (hb : G b = some f) : va_P D cl [(a, e), (b, f)] H := va_P.app (w1 := [(a, e)]) (w2 := [(b, f)]) (h.one ha) (h.one hb)
theorem gw_P.lt {D : va_G} {cl : List vw_C} {A : Nat → Prop} {G : gw_G} {H : Heap} (h : gw_P D cl A G H) {a : Nat} {e : va_E} (ha : G a = some e) : a < H.size := (h.at ha).lt
theorem gw_P.inA {D : va_G} {cl : List vw_C} {A : Nat → Prop} {G : gw_G} {H : Heap} (h : gw_P D cl A G H) {a : Nat} {e : va_E} (ha : G a = some e) : A a := by
  obtain ⟨ws, hP, hD, hw⟩ := h
  obtain ⟨k, hk⟩ := List.getElem?_of_mem ((hw a e).mp ha)
  exact hD.2 k _ hk
theorem gw_P.weaken {D : va_G} {cl : List vw_C} {A B : Nat → Prop} {G : gw_G} {H : Heap} (h : gw_P D cl A G H) (hAB : ∀ a e, G a = some e → A a → B a) : gw_P D cl B G H := by
  obtain ⟨ws, hP, hD, hw⟩ := h
  exact ⟨ws, hP, hD.weaken (fun k q hk hq => hAB q.1 q.2 ((hw q.1 q.2).mpr (List.mem_of_getElem? hk)) hq), hw⟩
theorem gw_P.self {D : va_G} {cl : List vw_C} {A : Nat → Prop} {G : gw_G} {H : Heap} {sz : Nat} (h : gw_P D cl A G H) : gw_P D cl (gw_A G sz) G H := h.weaken (fun _ e he _ => Or.inl ⟨e, he⟩)
theorem gw_P.triv {D : va_G} {cl : List vw_C} {A : Nat → Prop} {G : gw_G} {H : Heap} (h : gw_P D cl A G H) : gw_P D cl (fun _ => True) G H := h.weaken (fun _ _ _ _ => trivial)
theorem gw_P.kept {D : va_G} {cl : List vw_C} {A : Nat → Prop} {G : gw_G} {H H1 : Heap} (h : gw_P D cl A G H) (hk : ∀ a e, G a = some e → H1[a]? = H[a]?) : gw_P D cl A G H1 := by
  obtain ⟨ws, hP, hD, hw⟩ := h
  exact ⟨ws, hP.kept (fun k q hq => hk q.1 q.2 ((hw q.1 q.2).mpr (List.mem_of_getElem? hq))), hD, hw⟩
/-- another world's cells stay, where a call changed only this one's -/
theorem gw_P.frame {D : va_G} {cl : List vw_C} {A : Nat → Prop} {G K : gw_G} {H H1 : Heap} (h : gw_P D cl A K H) (hk : ∀ q : Nat, q < H.size → ¬ gw_A G H.size q → H1[q]? = H[q]?) (hd : ∀ a e, K a = some e → G a = none) : gw_P D cl A K H1 := h.kept (fun a e he => hk a (h.lt he) (fun z => by
  rcases z with ⟨e2, h2⟩ | h2
  · rw [hd a e he] at h2; cases h2
  · exact absurd (h.lt he) (by omega)))
theorem gw_set {A : Nat → Prop} {ws : va_W} {G : gw_G} {k a : Nat} {e0 e : va_E} (hD : va_D A ws) (hw : ∀ (a : Nat) (e : va_E), G a = some e ↔ (a, e) ∈ ws) (hk : ws[k]? = some (a, e0)) : ∀ (b : Nat) (f : va_E), va_up G a (some e) b = some f ↔ (b, f) ∈ ws.set k (a, e) := by
  have hl := (List.getElem?_eq_some_iff.mp hk).1
  intro b f
  by_cases hb : b = a
  · subst hb
    rw [va_up_self]
    constructor
    · intro h
      cases h
      exact List.mem_of_getElem? (List.getElem?_set_self hl)
    · intro h
      obtain ⟨j, hj⟩ := List.getElem?_of_mem h
      by_cases hjk : j = k
      · subst hjk
        rw [List.getElem?_set_self hl] at hj
        cases hj; rfl
      · rw [List.getElem?_set_ne (Ne.symm hjk)] at hj
        exact absurd (hD.1 j k _ _ hj hk rfl) hjk
  · rw [va_up_ne _ _ hb, hw]
    constructor
    · intro h
      obtain ⟨j, hj⟩ := List.getElem?_of_mem h
      have hjk : j ≠ k := fun e => by
        subst e
        rw [hk] at hj
        cases hj
        exact hb rfl
      exact List.mem_of_getElem? (by rw [List.getElem?_set_ne (Ne.symm hjk)]; exact hj)
    · intro h
      obtain ⟨j, hj⟩ := List.getElem?_of_mem h
      by_cases hjk : j = k
      · subst hjk
        rw [List.getElem?_set_self hl] at hj
        cases hj
        exact absurd rfl hb
      · rw [List.getElem?_set_ne (Ne.symm hjk)] at hj
        exact List.mem_of_getElem? hj
theorem gw_push {A : Nat → Prop} {ws : va_W} {G : gw_G} {q : Nat} {e : va_E} (hD : va_D A (ws ++ [(q, e)])) (hw : ∀ (a : Nat) (e : va_E), G a = some e ↔ (a, e) ∈ ws) : (∀ (b : Nat) (f : va_E), va_up G q (some e) b = some f ↔ (b, f) ∈ ws ++ [(q, e)]) ∧ G q = none := by
  have hq : ∀ f, (q, f) ∉ ws := fun f hf => by
    obtain ⟨j, hj⟩ := List.getElem?_of_mem hf
    have hl := (List.getElem?_eq_some_iff.mp hj).1
    have h1 : (ws ++ [(q, e)])[j]? = some (q, f) := by rw [List.getElem?_append_left hl]; exact hj
    have h2 : (ws ++ [(q, e)])[ws.length]? = some (q, e) := by rw [List.getElem?_append_right (Nat.le_refl _), Nat.sub_self]; rfl
    have := hD.1 _ _ _ _ h1 h2 rfl
    omega
  refine ⟨fun b f => ?_, ?_⟩
  · by_cases hb : b = q
    · subst hb
      rw [va_up_self]
      constructor
      · intro h
        cases h
        exact List.mem_append_right _ List.mem_cons_self
      · intro h
        rcases List.mem_append.mp h with h | h
        · exact absurd h (hq f)
        · cases List.mem_singleton.mp h
          rfl
    · rw [va_up_ne _ _ hb, hw]
      constructor
      · intro h
        exact List.mem_append_left _ h
      · intro h
        rcases List.mem_append.mp h with h | h
        · exact h
        · cases List.mem_singleton.mp h
          exact absurd rfl hb
  · cases hg : G q with
    | none => rfl
    | some f => exact absurd ((hw q f).mp hg) (hq f)
/-- two addresses with different things differ -/
theorem gw_ne {G : gw_G} {a b : Nat} {e f : va_E} (ha : G a = some e) (hb : G b = some f) (h : e ≠ f) : a ≠ b := fun z => by
  subst z
  rw [ha] at hb
  exact h (Option.some.inj hb)
theorem gw_neN {G : gw_G} {a b : Nat} {e : va_E} (ha : G a = some e) (hb : G b = none) : a ≠ b := fun z => by
  subst z
  rw [ha] at hb
  cases hb
theorem gw_up {G : gw_G} {a b : Nat} {e : va_E} {v : Option va_E} (hb : G b = some e) (h : b ≠ a) : va_up G a v b = some e := by rw [va_up_ne _ _ h]; exact hb
theorem gw_join {D : va_G} {cl : List vw_C} {A : Nat → Prop} {G G1 : gw_G} {H0 H H1 : Heap} {locs : List Loc} (hP : gw_P D cl A G H) (hS : va_S A H0 H locs) (hA : ∀ q, H0.size ≤ q → A q) (h1 : gw_P D cl (gw_A G H.size) G1 H1) : gw_P D cl A G1 H1 := h1.weaken (fun a e _ h => by
  rcases h with ⟨f, hf⟩ | h
  · exact hP.inA hf
  · exact hA a (Nat.le_trans hS.1 h))
theorem gw_free {D : va_G} {cl : List vw_C} {A : Nat → Prop} {G : gw_G} {H0 H : Heap} {locs : List Loc} (hP : gw_P D cl A G H) (hS : va_S A H0 H locs) (hA : ∀ q, H0.size ≤ q → A q) : ∀ q, gw_A G H.size q → A q := fun q h => by
  rcases h with ⟨f, hf⟩ | h
  · exact hP.inA hf
  · exact hA q (Nat.le_trans hS.1 h)
section GWR
variable {p : Program} {l : Launch} {e : Env} {R : Room} {s : State} {m : MethodId} {args : Array Value} {below : List Frame} {meth : Method} {c : Code} {H : Heap} {locs : List Loc} {cells slots : Nat} {Q : State → Prop}
variable {cc : ByteArray} {pc : Nat} {ls : Array Slot} {rest : List Value} {D : va_G} {cl : List vw_C} {A : Nat → Prop} {a : Nat} {tys : List (ClassId × FieldType)} {G : gw_G} {H0 : Heap}
theorem gw_put (hexec : p.tables.exec = Jvm.exec) (hb : c.code = cc) {own ref C : String} {T : u_T} {N ci index : Nat} {Ts : List Cond} (hts : ∀ w ∈ Ts, w.before args s = true) (hin : ∀ w ∈ u_ws C T N, w ∈ Ts) (ty0 : Nat → FieldType) (hty : ∀ k, k < N → parseFieldDescriptor (T k).2.2.1 = some (ty0 k)) (hnm : ∀ a, a < N → ∀ b, b < N → a ≠ b → (T a).2.1 ≠ (T b).2.1) (hown : s.vm.findClass own = some m.cls) (hK : va_K D cl tys s) (hP : gw_P D cl A G H) (hS0 : va_S A H0 H locs) {fs : List Value} (he : G a = some (.inr (ci, fs))) (hc : cl[ci]? = some (C, T, N)) (k : Nat) (hk : k < N) (hlink : (Cond.fieldLink own index ref (T k).2.1 (T k).2.2.1).before args s = true) (hsame : ∀ x, s.fieldFound? (T k).1 (T k).2.1 (T k).2.2.1 = some x → s.fieldFound? ref (T k).2.1 (T k).2.2.1 = some x) (hfin : (T k).2.2.2 = false) {ty : FieldType} {v : Value} (hd : parseFieldDescriptor (T k).2.2.1 = some ty) (hn : narrow ty v = v) (hfit : fits ty v = true) (hl : k < fs.length)
    (hdg : decode cc pc = .ok (.putfield index, 3)) (kk : ∀ (H1 : Heap) (locs1 : List Loc), gw_P D cl A (va_up G a (some (.inr (ci, fs.set k v)))) H1 → va_S A H0 H1 locs1 → W p l e R s m args below meth c H1 locs1 cells slots Q (F0 m (pc + 3) ls rest)) : W p l e R s m args below meth c H locs cells slots Q (F0 m pc ls (v :: .ref a :: rest)) := by
  obtain ⟨ws, hP, hD, hw⟩ := hP
  obtain ⟨q0, hq0⟩ := List.getElem?_of_mem ((hw a _).mp he)
  exact va_put hexec hb hts hin ty0 hty hnm hown hK hP hD hS0 q0 hq0 hc k hk hlink hsame hfin hd hn hfit hl hdg (fun H1 locs1 hP1 hD1 hS1 => kk H1 locs1 ⟨_, hP1, hD1, gw_set hD hw hq0⟩ hS1)
theorem gw_putN (hexec : p.tables.exec = Jvm.exec) (hb : c.code = cc) {own ref C host : String} {T : u_T} {N ci index : Nat} {Ts : List Cond} (hts : ∀ w ∈ Ts, w.before args s = true) (hin : ∀ w ∈ u_ws C T N, w ∈ Ts) (ty0 : Nat → FieldType) (hty : ∀ k, k < N → parseFieldDescriptor (T k).2.2.1 = some (ty0 k)) (hnm : ∀ a, a < N → ∀ b, b < N → a ≠ b → (T a).2.1 ≠ (T b).2.1) (hown : s.vm.findClass own = some m.cls) (hK : va_K D cl tys s) (hP : gw_P D cl A G H) (hS0 : va_S A H0 H locs) {fs : List Value} (he : G a = some (.inr (ci, fs))) (hc : cl[ci]? = some (C, T, N)) (k : Nat) (hk : k < N) (hlink : (Cond.fieldLinkNest own index ref (T k).2.1 (T k).2.2.1 host).before args s = true) (hsame : ∀ x, s.fieldFound? (T k).1 (T k).2.1 (T k).2.2.1 = some x → s.fieldFound? ref (T k).2.1 (T k).2.2.1 = some x) (hfin : (T k).2.2.2 = false) {ty : FieldType} {v : Value} (hd : parseFieldDescriptor (T k).2.2.1 = some ty) (hn : narrow ty v = v) (hfit : fits ty v = true) (hl : k < fs.length)
    (hdg : decode cc pc = .ok (.putfield index, 3)) (kk : ∀ (H1 : Heap) (locs1 : List Loc), gw_P D cl A (va_up G a (some (.inr (ci, fs.set k v)))) H1 → va_S A H0 H1 locs1 → W p l e R s m args below meth c H1 locs1 cells slots Q (F0 m (pc + 3) ls rest)) : W p l e R s m args below meth c H locs cells slots Q (F0 m pc ls (v :: .ref a :: rest)) := by
  obtain ⟨ws, hP, hD, hw⟩ := hP
  obtain ⟨q0, hq0⟩ := List.getElem?_of_mem ((hw a _).mp he)
  exact va_putN hexec hb hts hin ty0 hty hnm hown hK hP hD hS0 q0 hq0 hc k hk hlink hsame hfin hd hn hfit hl hdg (fun H1 locs1 hP1 hD1 hS1 => kk H1 locs1 ⟨_, hP1, hD1, gw_set hD hw hq0⟩ hS1)
theorem gw_putF (hexec : p.tables.exec = Jvm.exec) (hb : c.code = cc) {own ref C : String} {T : u_T} {N ci index : Nat} {Ts : List Cond} (hts : ∀ w ∈ Ts, w.before args s = true) (hin : ∀ w ∈ u_ws C T N, w ∈ Ts) (ty0 : Nat → FieldType) (hty : ∀ k, k < N → parseFieldDescriptor (T k).2.2.1 = some (ty0 k)) (hnm : ∀ a, a < N → ∀ b, b < N → a ≠ b → (T a).2.1 ≠ (T b).2.1) (hown : s.vm.findClass own = some m.cls) (hK : va_K D cl tys s) (hP : gw_P D cl A G H) (hS0 : va_S A H0 H locs) {fs : List Value} (he : G a = some (.inr (ci, fs))) (hc : cl[ci]? = some (C, T, N)) (k : Nat) (hk : k < N) (hlink : (Cond.fieldLink own index ref (T k).2.1 (T k).2.2.1).before args s = true) (hsame : ∀ x, s.fieldFound? (T k).1 (T k).2.1 (T k).2.2.1 = some x → s.fieldFound? ref (T k).2.1 (T k).2.2.1 = some x) (hfin : (T k).2.2.2 = true) (hin2 : meth.name = "<init>") (hdecl : (T k).1 = own) {ty : FieldType} {v : Value} (hd : parseFieldDescriptor (T k).2.2.1 = some ty) (hn : narrow ty v = v) (hfit : fits ty v = true) (hl : k < fs.length)
    (hdg : decode cc pc = .ok (.putfield index, 3)) (kk : ∀ (H1 : Heap) (locs1 : List Loc), gw_P D cl A (va_up G a (some (.inr (ci, fs.set k v)))) H1 → va_S A H0 H1 locs1 → W p l e R s m args below meth c H1 locs1 cells slots Q (F0 m (pc + 3) ls rest)) : W p l e R s m args below meth c H locs cells slots Q (F0 m pc ls (v :: .ref a :: rest)) := by
  obtain ⟨ws, hP, hD, hw⟩ := hP
  obtain ⟨q0, hq0⟩ := List.getElem?_of_mem ((hw a _).mp he)
  exact va_putF hexec hb hts hin ty0 hty hnm hown hK hP hD hS0 q0 hq0 hc k hk hlink hsame hfin hin2 hdecl hd hn hfit hl hdg (fun H1 locs1 hP1 hD1 hS1 => kk H1 locs1 ⟨_, hP1, hD1, gw_set hD hw hq0⟩ hS1)
theorem gw_iast (hexec : p.tables.exec = Jvm.exec) (hb : c.code = cc) (hK : va_K D cl tys s) (hP : gw_P D cl A G H) (hS : va_S A H0 H locs) (t0 : Nat) {cA : ClassId} {n : Nat} {f : Nat → Int32} (ha : G a = some (.inl (cA, n, .inl f))) (ht : tys[t0]? = some (cA, .int)) {i : Int32} {x : Int32} (hin : vp_in i n) (hdg : decode cc pc = .ok (.iastore, 1))
    (kk : ∀ (H1 : Heap) (locs1 : List Loc), gw_P D cl A (va_up G a (some (.inl (cA, n, .inl (upd f i.toNatClampNeg x))))) H1 → va_S A H0 H1 locs1 → W p l e R s m args below meth c H1 locs1 cells slots Q (F0 m (pc + 1) ls rest)) : W p l e R s m args below meth c H locs cells slots Q (F0 m pc ls (.int x :: .int i :: .ref a :: rest)) := by
  obtain ⟨ws, hP, hD, hw⟩ := hP
  obtain ⟨q0, hq0⟩ := List.getElem?_of_mem ((hw a _).mp ha)
  exact va_iast hexec hb hK hP hD hS q0 t0 hq0 ht hin hdg (fun H1 locs1 hP1 hD1 hS1 => kk H1 locs1 ⟨_, hP1, hD1, gw_set hD hw hq0⟩ hS1)
theorem gw_astqM (hexec : p.tables.exec = Jvm.exec) (hb : c.code = cc) (hK : va_K D cl tys s) (hP : gw_P D cl A G H) (hS : va_S A H0 H locs) (t0 : Nat) {E : String} {cA : ClassId} {n v : Nat} {f : Nat → Option Nat} (ha : G a = some (.inl (cA, n, .inr (.inr (.inr (.inr f)))))) (ht : tys[t0]? = some (cA, .object E)) (hr : va_Any E s H v) {i : Int32} (hin : vp_in i n) (hdg : decode cc pc = .ok (.aastore, 1))
    (kk : ∀ (H1 : Heap) (locs1 : List Loc), gw_P D cl A (va_up G a (some (.inl (cA, n, .inr (.inr (.inr (.inr (va_up f i.toNatClampNeg (some v))))))))) H1 → va_S A H0 H1 locs1 → W p l e R s m args below meth c H1 locs1 cells slots Q (F0 m (pc + 1) ls rest)) : W p l e R s m args below meth c H locs cells slots Q (F0 m pc ls (.ref v :: .int i :: .ref a :: rest)) := by
  obtain ⟨ws, hP, hD, hw⟩ := hP
  obtain ⟨q0, hq0⟩ := List.getElem?_of_mem ((hw a _).mp ha)
  exact va_astqM hexec hb hK hP hD hS q0 t0 hq0 ht hr hin hdg (fun H1 locs1 hP1 hD1 hS1 => kk H1 locs1 ⟨_, hP1, hD1, gw_set hD hw hq0⟩ hS1)
theorem gw_astqN (hexec : p.tables.exec = Jvm.exec) (hb : c.code = cc) (hK : va_K D cl tys s) (hP : gw_P D cl A G H) (hS : va_S A H0 H locs) (t0 : Nat) {cA : ClassId} {C : String} {n : Nat} {f : Nat → Option Nat} (ha : G a = some (.inl (cA, n, .inr (.inr (.inr (.inr f)))))) (ht : tys[t0]? = some (cA, .object C)) {i : Int32} (hin : vp_in i n) (hdg : decode cc pc = .ok (.aastore, 1))
    (kk : ∀ (H1 : Heap) (locs1 : List Loc), gw_P D cl A (va_up G a (some (.inl (cA, n, .inr (.inr (.inr (.inr (va_up f i.toNatClampNeg none)))))))) H1 → va_S A H0 H1 locs1 → W p l e R s m args below meth c H1 locs1 cells slots Q (F0 m (pc + 1) ls rest)) : W p l e R s m args below meth c H locs cells slots Q (F0 m pc ls (.null :: .int i :: .ref a :: rest)) := by
  obtain ⟨ws, hP, hD, hw⟩ := hP
  obtain ⟨q0, hq0⟩ := List.getElem?_of_mem ((hw a _).mp ha)
  exact va_astqN hexec hb hK hP hD hS q0 t0 hq0 ht hin hdg (fun H1 locs1 hP1 hD1 hS1 => kk H1 locs1 ⟨_, hP1, hD1, gw_set hD hw hq0⟩ hS1)
theorem gw_new (hexec : p.tables.exec = Jvm.exec) (hb : c.code = cc) {own C : String} {T : u_T} {N ci index : Nat} {Ts : List Cond} (hts : ∀ w ∈ Ts, w.before args s = true) (hin : ∀ w ∈ u_ws C T N, w ∈ Ts) (ty : Nat → FieldType) (hty : ∀ k, k < N → parseFieldDescriptor (T k).2.2.1 = some (ty k)) (hown : s.vm.findClass own = some m.cls) (hcl : (Cond.classLink own index C).before args s = true) (hinst : (Cond.instantiable C N).before args s = true) (hini : (Cond.initialized C).before args s = true)
    (hK : va_K D cl tys s) (hP : gw_P D cl A G H) (hS : va_S A H0 H locs) (hA : ∀ q, H0.size ≤ q → A q) (hc : cl[ci]? = some (C, T, N)) {fs : List Value} (hfs : ∀ j, j < N → defaultValue (ty j) = vp_V fs j) (hcells : cells + 1 ≤ R.cells) (hslots : slots + N ≤ R.slots) (hdg : decode cc pc = .ok (.new index, 3))
    (kk : ∀ (q : Nat) (H1 : Heap), gw_P D cl A (va_up G q (some (.inr (ci, fs)))) H1 → G q = none → va_S A H0 H1 locs →
      W p l e R s m args below meth c H1 locs (cells + 1) (slots + N) Q (F0 m (pc + 3) ls (.ref q :: rest))) : W p l e R s m args below meth c H locs cells slots Q (F0 m pc ls rest) := by
  obtain ⟨ws, hP, hD, hw⟩ := hP
  exact va_new hexec hb hts hin ty hty hown hcl hinst hini hK hP hD hS hA hc hfs hcells hslots hdg (fun q H1 hP1 hD1 hS1 => kk q H1 ⟨_, hP1, hD1, (gw_push hD1 hw).1⟩ (gw_push hD1 hw).2 hS1)
theorem gw_newq (hexec : p.tables.exec = Jvm.exec) (hb : c.code = cc) {own C : String} {index : Nat} (hown : s.vm.findClass own = some m.cls) (hclink : (Cond.classLink own index C).before args s = true) (hover : va_AO C s) (hK : va_K D cl tys s) (hP : gw_P D cl A G H) (hS : va_S A H0 H locs) (hA : ∀ q, H0.size ≤ q → A q)
    {n : Int32} {N' : Nat} (hn : ¬ n < 0) (hN : n.toNatClampNeg = N') (hbytes : N' * 4 ≤ 536870912) (hcells : cells + 1 ≤ R.cells) (hslots : slots + N' ≤ R.slots) (hdg : decode cc pc = .ok (.anewarray index, 3))
    (kk : ∀ (q : Nat) (cA : ClassId) (H1 : Heap), va_K D cl (tys ++ [(cA, .object C)]) s → gw_P D cl A (va_up G q (some (.inl (cA, N', .inr (.inr (.inr (.inr (fun _ => none)))))))) H1 → G q = none → va_S A H0 H1 locs →
      W p l e R s m args below meth c H1 locs (cells + 1) (slots + N') Q (F0 m (pc + 3) ls (.ref q :: rest))) : W p l e R s m args below meth c H locs cells slots Q (F0 m pc ls (.int n :: rest)) := by
  obtain ⟨ws, hP, hD, hw⟩ := hP
  exact va_newq hexec hb hown hclink hover hK hP hD hS hA hn hN hbytes hcells hslots hdg (fun q cA H1 hK1 hP1 hD1 hS1 => kk q cA H1 hK1 ⟨_, hP1, hD1, (gw_push hD1 hw).1⟩ (gw_push hD1 hw).2 hS1)
theorem gw_newa (hexec : p.tables.exec = Jvm.exec) (hb : c.code = cc) {atype : ArrayType} (harr : (Cond.arrayClass (newarray.typeOf atype)).before args s = true) {ty : FieldType} (hty : newarray.typeOf atype = ty) (hK : va_K D cl tys s) (hP : gw_P D cl A G H) (hS : va_S A H0 H locs) (hA : ∀ q, H0.size ≤ q → A q)
    {n : Int32} {N' : Nat} {a0 : vp_A} (ha : ∀ cA : ClassId, vp_cell cA a0 = arrV cA N' (fun _ => defaultValue ty)) (hn : ¬ n < 0) (hN : n.toNatClampNeg = N') (hbytes : N' * componentBytes ty ≤ 536870912) (hcells : cells + 1 ≤ R.cells) (hslots : slots + N' ≤ R.slots) (hdg : decode cc pc = .ok (.newarray atype, 2))
    (kk : ∀ (q : Nat) (cA : ClassId) (H1 : Heap), va_K D cl (tys ++ [(cA, ty)]) s → gw_P D cl A (va_up G q (some (.inl (cA, a0)))) H1 → G q = none → va_S A H0 H1 locs →
      W p l e R s m args below meth c H1 locs (cells + 1) (slots + N') Q (F0 m (pc + 2) ls (.ref q :: rest))) : W p l e R s m args below meth c H locs cells slots Q (F0 m pc ls (.int n :: rest)) := by
  obtain ⟨ws, hP, hD, hw⟩ := hP
  exact va_newa hexec hb harr hty hK hP hD hS hA ha hn hN hbytes hcells hslots hdg (fun q cA H1 hK1 hP1 hD1 hS1 => kk q cA H1 hK1 ⟨_, hP1, hD1, (gw_push hD1 hw).1⟩ (gw_push hD1 hw).2 hS1)
theorem gw_recv {ci : Nat} {q : vw_C} {fs : List Value} (hK : va_K D cl tys s) (hP : gw_P D cl A G H) (hc : cl[ci]? = some q) (he : G a = some (.inr (ci, fs))) : ∃ cell : Cell, H[a]? = some cell ∧ cell.vm.isStatics = false ∧ s.vm.findClass q.1 = some cell.cls := va_recv (q0 := 0) hK (hP.one he) hc rfl
theorem gw_any {ci : Nat} {fs : List Value} {r : vw_C} {E : String} (hK : va_K D cl tys s) (hP : gw_P D cl A G H) (he : G a = some (.inr (ci, fs))) (hc : cl[ci]? = some r) (hasg : ∀ comp c0 : ClassId, s.vm.findClass E = some comp → s.vm.findClass r.1 = some c0 → s.vm.assignable c0 comp = true) : va_Any E s H a := va_rAny (q0 := 0) hK (hP.one he) rfl hc hasg
end GWR
/-- what a method is told beside its words: the nest's links, what is declared, castable, not castable -/
def nK (U : State) : Prop := (∀ w ∈ nt, va_Nw w U) ∧ va_AO "StackRoom$Value" U ∧ va_AO "StackRoom$Thing" U ∧ va_Nc "StackRoom$Whole" "StackRoom$Thing" U ∧ va_Nc "StackRoom$Whole" "StackRoom$Context" U ∧ va_Nc "StackRoom$Method" "StackRoom$Context" U ∧ va_Nc "StackRoom$Whole" "StackRoom$Method" U ∧ va_Nc "StackRoom$MethodContext" "StackRoom$Method" U ∧ va_Nc "StackRoom$BlockContext" "StackRoom$Method" U ∧ va_Nc "StackRoom$Whole" "StackRoom$BlockContext" U ∧ va_Nc "StackRoom$Method" "StackRoom$BlockContext" U ∧ va_Nc "StackRoom$MethodContext" "StackRoom$BlockContext" U
theorem nK.warm {s U : State} (hW : s.WarmedH U.vm) (h : nK s) : nK U := by
  obtain ⟨h0, ha, hb, h1, h2, h3, h4, h5, h6, h7, h8, h9⟩ := h
  refine ⟨fun w hw => ?_, ha.moved hW.alike, hb.moved hW.alike, h1.moved hW.alike, h2.moved hW.alike, h3.moved hW.alike, h4.moved hW.alike, h5.moved hW.alike, h6.moved hW.alike, h7.moved hW.alike, h8.moved hW.alike, h9.moved hW.alike⟩
  have hm := (List.mem_filter.mp hw).2
  have hs := h0 w hw
  cases w <;> first | exact va_Nw.warmF hW hs | exact va_Nw.warmM hW hs | exact va_Nw.warmD hW hs | exact va_Nw.warmC hW hs | cases hm
theorem nK.same {s U : State} (hv : s.vm = U.vm) (h : nK s) : nK U := by
  obtain ⟨h0, ha, hb, h1, h2, h3, h4, h5, h6, h7, h8, h9⟩ := h
  have al : s.vm.Alike U.vm := hv ▸ Vm.Alike.refl s.vm
  refine ⟨fun w hw => va_Nw.same ?_ hv (h0 w hw), ha.moved al, hb.moved al, h1.moved al, h2.moved al, h3.moved al, h4.moved al, h5.moved al, h6.moved al, h7.moved al, h8.moved al, h9.moved al⟩
  have hm := (List.mem_filter.mp hw).2
  cases w <;> first | rfl | cases hm
abbrev kK (D : va_G) (tys : List (ClassId × FieldType)) (U : State) : Prop := va_K D vwCl tys U ∧ nK U
/-- a method's start, with the world G; its end -/
def g_pre (D : va_G) (tys : List (ClassId × FieldType)) (G : gw_G) (sz : Nat) (av : List Value) : Array Value → State → Prop := va_Pc av (fun U => U.heap.size = sz ∧ gw_P D vwCl (fun _ => True) G U.heap ∧ kK D tys U)
abbrev g_end (D : va_G) (G : gw_G) (sz : Nat) : gw_G → State → Prop := fun G1 t => gw_P D vwCl (gw_A G sz) G1 t.heap
theorem g_blind {D : va_G} {tys : List (ClassId × FieldType)} {G : gw_G} {sz : Nat} {av : List Value} : FrameBlind (g_pre D tys G sz av) := fun a U g mk q => ⟨q.1, q.2.1, q.2.2.1, va_K.moved (u := U) (U := U.calling g mk a) (Vm.Alike.refl U.vm) q.2.2.2.1, nK.same (s := U) (U := U.calling g mk a) rfl q.2.2.2.2⟩
theorem g_preS {D : va_G} {tys : List (ClassId × FieldType)} {A : Nat → Prop} {G : gw_G} {s : State} {H : Heap} {As : List Value} (hK : kK D tys s) (hP : gw_P D vwCl A G H) : PreS s H (g_pre D tys G H.size As) As := ⟨g_blind, fun U hU hW => ⟨rfl, by rw [hU], by rw [hU]; exact hP.triv, va_K.moved hW.alike hK.1, hK.2.warm hW⟩⟩
theorem g_preV {D : va_G} {tys : List (ClassId × FieldType)} {A : Nat → Prop} {G : gw_G} {s : State} {H : Heap} {As : List Value} {b ci : Nat} {q : vw_C} {fs : List Value} (hK : kK D tys s) (hP : gw_P D vwCl A G H) (hc : vwCl[ci]? = some q) (he : G b = some (.inr (ci, fs))) : PreV s H q.1 b (g_pre D tys G H.size (.ref b :: As)) As := ⟨g_blind, gw_recv hK.1 hP hc he, fun U hU hW => ⟨rfl, by rw [hU], by rw [hU]; exact hP.triv, va_K.moved hW.alike hK.1, hK.2.warm hW⟩⟩
theorem v_blind {av : List Value} : FrameBlind (va_Pc av (fun _ => True)) := fun _ _ _ _ q => q
theorem v_preS {s : State} {H : Heap} {As : List Value} : PreS s H (va_Pc As (fun _ => True)) As := ⟨v_blind, fun _ _ _ => ⟨rfl, trivial⟩⟩
section LQ
variable {p : Program} {l : Launch} {e : Env} {R : Room} {s : State} {m : MethodId} {args : Array Value} {below : List Frame} {meth : Method} {c : Code} {H : Heap} {locs : List Loc} {cells slots : Nat} {Q : State → Prop}
variable {cc : ByteArray} {pc : Nat} {ls : Array Slot} {rest : List Value} {D : va_G} {cl : List vw_C} {A : Nat → Prop} {a : Nat} {tys : List (ClassId × FieldType)} {G : gw_G} {H0 : Heap}
theorem gw_astqO (hexec : p.tables.exec = Jvm.exec) (hb : c.code = cc) (hK : va_K D cl tys s) (hP : gw_P D cl A G H) (hS : va_S A H0 H locs) (t0 : Nat) {E : String} {cA : ClassId} {n : Nat} {v : Option Nat} {f : Nat → Option Nat} (ha : G a = some (.inl (cA, n, .inr (.inr (.inr (.inr f)))))) (ht : tys[t0]? = some (cA, .object E)) (hr : ∀ y, v = some y → va_Any E s H y) {i : Int32} (hin : vp_in i n) (hdg : decode cc pc = .ok (.aastore, 1))
    (kk : ∀ (H1 : Heap) (locs1 : List Loc), gw_P D cl A (va_up G a (some (.inl (cA, n, .inr (.inr (.inr (.inr (va_up f i.toNatClampNeg v)))))))) H1 → va_S A H0 H1 locs1 → W p l e R s m args below meth c H1 locs1 cells slots Q (F0 m (pc + 1) ls rest)) : W p l e R s m args below meth c H locs cells slots Q (F0 m pc ls (va_rf v :: .int i :: .ref a :: rest)) := by
  cases v with
  | none => exact gw_astqN hexec hb hK hP hS t0 ha ht hin hdg kk
  | some y => exact gw_astqM hexec hb hK hP hS t0 ha ht (hr y rfl) hin hdg kk
end LQ
end
section
/-! THE STATE that the document speaks of, as a mathematical value; what is reachable, and what it takes. -/
/-- a value: nil, a number, an object by its identity -/
abbrev sV : Type := Option (Int32 ⊕ Nat)
/-- registers; how many were made; an object's kind (0 none, 2 a method, 3 a method context, 4 a block context); a method's T and D; a context's sender, dead, height, room, fields, origin (its method or home), count -/
abbrev sS : Type := (Nat → sV) × Nat × (Nat → Nat) × (Nat → Nat) × (Nat → Nat) × (Nat → Option Nat) × (Nat → Int32) × (Nat → Nat) × (Nat → Nat) × (Nat → Nat → sV) × (Nat → Nat) × (Nat → Int32)
def s_rg (σ : sS) : Nat → sV := σ.1
def s_md (σ : sS) : Nat := σ.2.1
def s_kd (σ : sS) : Nat → Nat := σ.2.2.1
def s_tt (σ : sS) : Nat → Nat := σ.2.2.2.1
def s_dd (σ : sS) : Nat → Nat := σ.2.2.2.2.1
def s_sn (σ : sS) : Nat → Option Nat := σ.2.2.2.2.2.1
def s_de (σ : sS) : Nat → Int32 := σ.2.2.2.2.2.2.1
def s_ht (σ : sS) : Nat → Nat := σ.2.2.2.2.2.2.2.1
def s_rm (σ : sS) : Nat → Nat := σ.2.2.2.2.2.2.2.2.1
def s_fl (σ : sS) : Nat → Nat → sV := σ.2.2.2.2.2.2.2.2.2.1
def s_og (σ : sS) : Nat → Nat := σ.2.2.2.2.2.2.2.2.2.2.1
def s_ct (σ : sS) : Nat → Int32 := σ.2.2.2.2.2.2.2.2.2.2.2
def s_mk (rg : Nat → sV) (md : Nat) (kd tt dd : Nat → Nat) (sn : Nat → Option Nat) (de : Nat → Int32) (ht rm : Nat → Nat) (fl : Nat → Nat → sV) (og : Nat → Nat) (ct : Nat → Int32) : sS := (rg, md, kd, tt, dd, sn, de, ht, rm, fl, og, ct)
/-- the fields of one object, one of them another -/
def s_upF (fl : Nat → Nat → sV) (i k : Nat) (v : sV) : Nat → Nat → sV := va_up fl i (va_up (fl i) k v)
-- the elementary changes
def s_setR (σ : sS) (k : Nat) (v : sV) : sS := s_mk (va_up (s_rg σ) k v) (s_md σ) (s_kd σ) (s_tt σ) (s_dd σ) (s_sn σ) (s_de σ) (s_ht σ) (s_rm σ) (s_fl σ) (s_og σ) (s_ct σ)
def s_setT (σ : sS) (i t d : Nat) : sS := s_mk (s_rg σ) (s_md σ) (s_kd σ) (va_up (s_tt σ) i t) (va_up (s_dd σ) i d) (s_sn σ) (s_de σ) (s_ht σ) (s_rm σ) (s_fl σ) (s_og σ) (s_ct σ)
def s_setS (σ : sS) (i : Nat) (v : Option Nat) : sS := s_mk (s_rg σ) (s_md σ) (s_kd σ) (s_tt σ) (s_dd σ) (va_up (s_sn σ) i v) (s_de σ) (s_ht σ) (s_rm σ) (s_fl σ) (s_og σ) (s_ct σ)
def s_setD (σ : sS) (i : Nat) (v : Int32) : sS := s_mk (s_rg σ) (s_md σ) (s_kd σ) (s_tt σ) (s_dd σ) (s_sn σ) (va_up (s_de σ) i v) (s_ht σ) (s_rm σ) (s_fl σ) (s_og σ) (s_ct σ)
def s_setF (σ : sS) (i k : Nat) (v : sV) : sS := s_mk (s_rg σ) (s_md σ) (s_kd σ) (s_tt σ) (s_dd σ) (s_sn σ) (s_de σ) (s_ht σ) (s_rm σ) (s_upF (s_fl σ) i k v) (s_og σ) (s_ct σ)
def s_setH (σ : sS) (i h : Nat) : sS := s_mk (s_rg σ) (s_md σ) (s_kd σ) (s_tt σ) (s_dd σ) (s_sn σ) (s_de σ) (va_up (s_ht σ) i h) (s_rm σ) (s_fl σ) (s_og σ) (s_ct σ)
def s_push (σ : sS) (i : Nat) (v : sV) : sS := s_setH (s_setF σ i (s_ht σ i) v) i (s_ht σ i + 1)
def s_pop (σ : sS) (i : Nat) : sS := s_setF (s_setH σ i (s_ht σ i - 1)) i (s_ht σ i - 1) none
def s_newM (σ : sS) (t d : Nat) : sS := s_mk (s_rg σ) (s_md σ + 2) (va_up (s_kd σ) (s_md σ + 2) 2) (va_up (s_tt σ) (s_md σ + 2) t) (va_up (s_dd σ) (s_md σ + 2) d) (s_sn σ) (s_de σ) (s_ht σ) (s_rm σ) (s_fl σ) (s_og σ) (s_ct σ)
-- what a register has
def s_okR (r : Int32) : Prop := 0 ≤ r ∧ r ≤ 15
def s_okV (v : Int32) : Prop := -1073741824 ≤ v ∧ v ≤ 1073741823
def s_okM (a t d : Int32) : Prop := (0 ≤ a ∧ a ≤ 15) ∧ (a ≤ t ∧ t ≤ 31) ∧ (0 ≤ d ∧ d ≤ 63)
def s_isC (σ : sS) (i : Nat) : Prop := s_kd σ i = 3 ∨ s_kd σ i = 4
/-- register r has the method i -/
def s_M (σ : sS) (r : Int32) (i : Nat) : Prop := s_okR r ∧ s_rg σ r.toNatClampNeg = some (.inr i) ∧ s_kd σ i = 2
/-- register r has the context i -/
def s_C (σ : sS) (r : Int32) (i : Nat) : Prop := s_okR r ∧ s_rg σ r.toNatClampNeg = some (.inr i) ∧ s_isC σ i
/-- register r is a sender: nil, or the context i -/
def s_S (σ : sS) (r : Int32) (o : Option Nat) : Prop := s_okR r ∧ ((o = none ∧ s_rg σ r.toNatClampNeg = none) ∨ ∃ i, o = some i ∧ s_rg σ r.toNatClampNeg = some (.inr i) ∧ s_isC σ i)
/-- a context's home -/
def s_hm (σ : sS) (i : Nat) : Nat := if s_kd σ i = 4 then s_og σ i else i
/-- a context's floor -/
def s_fr (σ : sS) (i : Nat) : Nat := if s_kd σ i = 4 then 0 else s_tt σ (s_og σ i)
-- what is reachable
def s_edge (σ : sS) (j i : Nat) : Prop := s_isC σ j ∧ (s_sn σ j = some i ∨ s_og σ j = i ∨ ∃ k, k < s_rm σ j ∧ s_fl σ j k = some (.inr i))
def s_rch (σ : sS) (i : Nat) : Prop := ∀ S : Nat → Prop, (∀ r, r < 16 → ∀ j, s_rg σ r = some (.inr j) → S j) → (∀ j k, S j → s_edge σ j k → S k) → S i
theorem s_rch_root {σ : sS} {r i : Nat} (hr : r < 16) (h : s_rg σ r = some (.inr i)) : s_rch σ i := fun _ h1 _ => h1 r hr i h
theorem s_rch_edge {σ : sS} {j i : Nat} (hj : s_rch σ j) (h : s_edge σ j i) : s_rch σ i := fun S h1 h2 => h2 j i (hj S h1 h2) h
/-- the words and the objects that an object takes -/
def s_wd (σ : sS) (i : Nat) : Nat := if s_kd σ i = 2 then 10 else if s_kd σ i = 3 then 9 + s_rm σ i else 10 + s_rm σ i
def s_en (σ : sS) (i : Nat) : Nat := if s_kd σ i = 2 then 2 else 1
def s_cn (σ : sS) (i : Nat) : Nat := if s_kd σ i = 2 then 0 else 1
/-- each reachable object once -/
def s_enum (σ : sS) (L : List Nat) : Prop := L.Nodup ∧ ∀ i, i ∈ L ↔ s_rch σ i
noncomputable def s_all (σ : sS) : List Nat := (List.range (s_md σ + 1)).filter (fun i => @decide (s_rch σ i) (Classical.propDecidable _))
noncomputable def s_W (σ : sS) : Nat := ((s_all σ).map (s_wd σ)).sum
noncomputable def s_N (σ : sS) : Nat := ((s_all σ).map (s_en σ)).sum
noncomputable def s_K (σ : sS) : Nat := ((s_all σ).map (s_cn σ)).sum
/-- what always holds -/
def s_I (σ : sS) : Prop :=
  2 ≤ s_md σ ∧
  (∀ i, s_kd σ i ≠ 0 → 2 < i ∧ i ≤ s_md σ ∧ (s_kd σ i = 2 ∨ s_kd σ i = 3 ∨ s_kd σ i = 4)) ∧
  (∀ r, r < 16 → ∀ i, s_rg σ r = some (.inr i) → s_kd σ i ≠ 0) ∧
  (∀ i, s_kd σ i = 2 → s_tt σ i ≤ 31 ∧ s_dd σ i ≤ 63) ∧
  (∀ i, s_kd σ i = 3 → s_kd σ (s_og σ i) = 2) ∧
  (∀ i, s_kd σ i = 4 → s_kd σ (s_og σ i) = 3) ∧
  (∀ i, s_isC σ i → (∀ j, s_sn σ i = some j → s_isC σ j) ∧ s_ht σ i ≤ s_rm σ i ∧ s_rm σ i ≤ 94 ∧ (s_de σ i = 0 ∨ s_de σ i = 1) ∧ ∀ k, k < s_rm σ i → ∀ j, s_fl σ i k = some (.inr j) → s_kd σ j ≠ 0)
def s_OK (w n : Nat) (σ : sS) : Prop := s_I σ ∧ s_W σ + 8 ≤ w ∧ s_N σ + 2 ≤ n
theorem sm_sub {f : Nat → Nat} : ∀ (L' L : List Nat), L'.Nodup → (∀ i, i ∈ L' → i ∈ L) → (L'.map f).sum ≤ (L.map f).sum
  | [], _, _, _ => by simp
  | a :: L', L, hn, hs => by
    have ha : a ∈ L := hs a List.mem_cons_self
    have e1 : (L.map f).sum = ((a :: L.erase a).map f).sum := ((List.perm_cons_erase ha).map f).sum_nat
    have hn' := List.nodup_cons.mp hn
    have ih := sm_sub (f := f) L' (L.erase a) hn'.2 (fun i hi => (List.mem_erase_of_ne (fun e : i = a => hn'.1 (e ▸ hi))).mpr (hs i (List.mem_cons_of_mem _ hi)))
    rw [e1]
    simp only [List.map_cons, List.sum_cons]
    omega
theorem s_rch_kd {σ : sS} (h : s_I σ) {i : Nat} (hr : s_rch σ i) : s_kd σ i ≠ 0 := by
  obtain ⟨-, -, h3, -, h5, h6, h7⟩ := h
  refine hr (fun i => s_kd σ i ≠ 0) (fun r hr j hj => h3 r hr j hj) (fun j k _ hjk => ?_)
  obtain ⟨hc, he⟩ := hjk
  rcases he with he | he | ⟨q, hq, he⟩
  · rcases (h7 j hc).1 k he with e | e <;> omega
  · subst he
    rcases hc with e | e
    · have := h5 j e; omega
    · have := h6 j e; omega
  · exact (h7 j hc).2.2.2.2 q hq k he
theorem s_rch_le {σ : sS} (h : s_I σ) {i : Nat} (hr : s_rch σ i) : 2 < i ∧ i ≤ s_md σ := ⟨(h.2.1 i (s_rch_kd h hr)).1, (h.2.1 i (s_rch_kd h hr)).2.1⟩
theorem s_all_enum {σ : sS} (h : s_I σ) : s_enum σ (s_all σ) := by
  refine ⟨List.Pairwise.filter _ List.nodup_range, fun i => ?_⟩
  unfold s_all
  rw [List.mem_filter, List.mem_range]
  constructor
  · intro q
    exact @of_decide_eq_true _ (Classical.propDecidable _) q.2
  · intro q
    exact ⟨by have := (s_rch_le h q).2; omega, @decide_eq_true _ (Classical.propDecidable _) q⟩
theorem s_enum_perm {σ : sS} {L L' : List Nat} (h : s_enum σ L) (h' : s_enum σ L') : L.Perm L' := (List.perm_ext_iff_of_nodup h.1 h'.1).mpr (fun i => (h.2 i).trans (h'.2 i).symm)
theorem s_W_enum {σ : sS} (h : s_I σ) {L : List Nat} (hL : s_enum σ L) : (L.map (s_wd σ)).sum = s_W σ := ((s_enum_perm hL (s_all_enum h)).map _).sum_nat
theorem s_N_enum {σ : sS} (h : s_I σ) {L : List Nat} (hL : s_enum σ L) : (L.map (s_en σ)).sum = s_N σ := ((s_enum_perm hL (s_all_enum h)).map _).sum_nat
theorem s_K_enum {σ : sS} (h : s_I σ) {L : List Nat} (hL : s_enum σ L) : (L.map (s_cn σ)).sum = s_K σ := ((s_enum_perm hL (s_all_enum h)).map _).sum_nat
theorem s_OK_of {w n : Nat} {σ σ' : sS} (h : s_OK w n σ) (hI : s_I σ') (hr : ∀ i, s_rch σ' i → s_rch σ i) (hw : ∀ i, s_rch σ i → s_wd σ' i = s_wd σ i ∧ s_en σ' i = s_en σ i) : s_OK w n σ' := by
  obtain ⟨h0, h1, h2⟩ := h
  have hs : ∀ i, i ∈ s_all σ' → i ∈ s_all σ := fun i hi => ((s_all_enum h0).2 i).mpr (hr i (((s_all_enum hI).2 i).mp hi))
  have k1 := sm_sub (f := s_wd σ') _ _ (s_all_enum hI).1 hs
  have k2 := sm_sub (f := s_en σ') _ _ (s_all_enum hI).1 hs
  have e1 : (s_all σ).map (s_wd σ') = (s_all σ).map (s_wd σ) := List.map_congr_left (fun i hi => (hw i (((s_all_enum h0).2 i).mp hi)).1)
  have e2 : (s_all σ).map (s_en σ') = (s_all σ).map (s_en σ) := List.map_congr_left (fun i hi => (hw i (((s_all_enum h0).2 i).mp hi)).2)
  rw [e1] at k1
  rw [e2] at k2
  unfold s_W at h1
  unfold s_N at h2
  refine ⟨hI, ?_, ?_⟩
  · unfold s_W; omega
  · unfold s_N; omega
theorem s_OK_new {w n q : Nat} {σ σ' : sS} (h : s_OK w n σ) (hI : s_I σ') (hr : ∀ i, s_rch σ' i → s_rch σ i ∨ i = q) (hw : ∀ i, s_rch σ i → s_wd σ' i = s_wd σ i ∧ s_en σ' i = s_en σ i) (f1 : s_wd σ' q + s_W σ + 8 ≤ w) (f2 : s_en σ' q + s_N σ + 2 ≤ n) : s_OK w n σ' := by
  obtain ⟨h0, h1, h2⟩ := h
  have hs : ∀ i, i ∈ s_all σ' → i ∈ q :: s_all σ := fun i hi => by
    rcases hr i (((s_all_enum hI).2 i).mp hi) with e | e
    · exact List.mem_cons_of_mem _ (((s_all_enum h0).2 i).mpr e)
    · rw [e]; exact List.mem_cons_self
  have k1 := sm_sub (f := s_wd σ') _ _ (s_all_enum hI).1 hs
  have k2 := sm_sub (f := s_en σ') _ _ (s_all_enum hI).1 hs
  have e1 : (s_all σ).map (s_wd σ') = (s_all σ).map (s_wd σ) := List.map_congr_left (fun i hi => (hw i (((s_all_enum h0).2 i).mp hi)).1)
  have e2 : (s_all σ).map (s_en σ') = (s_all σ).map (s_en σ) := List.map_congr_left (fun i hi => (hw i (((s_all_enum h0).2 i).mp hi)).2)
  rw [List.map_cons, List.sum_cons, e1] at k1
  rw [List.map_cons, List.sum_cons, e2] at k2
  unfold s_W at f1
  unfold s_N at f2
  refine ⟨hI, ?_, ?_⟩
  · unfold s_W; omega
  · unfold s_N; omega
-- the elementary changes keep it
theorem s_setR_OK {w n k : Nat} {σ : sS} {v : sV} (h : s_OK w n σ) (hv : ∀ i, v = some (.inr i) → s_rch σ i) : s_OK w n (s_setR σ k v) := by
  have h0 := h.1
  refine s_OK_of h ?_ ?_ (fun i _ => ⟨rfl, rfl⟩)
  · obtain ⟨h1, h2, h3, h4⟩ := h0
    refine ⟨h1, h2, fun r hr i hi => ?_, h4⟩
    have hi : va_up (s_rg σ) k v r = some (.inr i) := hi
    by_cases e : r = k
    · subst e
      rw [va_up_self] at hi
      exact s_rch_kd h.1 (hv i hi)
    · rw [va_up_ne _ _ e] at hi
      exact h3 r hr i hi
  · intro i hi
    refine hi (s_rch σ) (fun r hr j hj => ?_) (fun j k hj hjk => s_rch_edge hj hjk)
    have hj : va_up (s_rg σ) k v r = some (.inr j) := hj
    by_cases e : r = k
    · subst e
      rw [va_up_self] at hj
      exact hv j hj
    · rw [va_up_ne _ _ e] at hj
      exact s_rch_root hr hj
theorem s_setT_OK {w n i t d : Nat} {σ : sS} (h : s_OK w n σ) (ht : t ≤ 31) (hd : d ≤ 63) : s_OK w n (s_setT σ i t d) := by
  have h0 := h.1
  refine s_OK_of h ?_ (fun i hi => hi) (fun i _ => ⟨rfl, rfl⟩)
  obtain ⟨h1, h2, h3, h4, h5⟩ := h0
  refine ⟨h1, h2, h3, fun j hj => ?_, h5⟩
  show va_up (s_tt σ) i t j ≤ 31 ∧ va_up (s_dd σ) i d j ≤ 63
  by_cases e : j = i
  · subst e
    rw [va_up_self, va_up_self]
    exact ⟨ht, hd⟩
  · rw [va_up_ne _ _ e, va_up_ne _ _ e]
    exact h4 j hj
theorem s_setS_OK {w n i : Nat} {σ : sS} {v : Option Nat} (h : s_OK w n σ) (hv : ∀ j, v = some j → s_rch σ j ∧ s_isC σ j) : s_OK w n (s_setS σ i v) := by
  have h0 := h.1
  refine s_OK_of h ?_ ?_ (fun i _ => ⟨rfl, rfl⟩)
  · obtain ⟨h1, h2, h3, h4, h5, h6, h7⟩ := h0
    refine ⟨h1, h2, h3, h4, h5, h6, fun j hj => ⟨fun k hk => ?_, (h7 j hj).2⟩⟩
    have hk : va_up (s_sn σ) i v j = some k := hk
    by_cases e : j = i
    · subst e
      rw [va_up_self] at hk
      exact (hv k hk).2
    · rw [va_up_ne _ _ e] at hk
      exact (h7 j hj).1 k hk
  · intro q hq
    refine hq (s_rch σ) (fun r hr j hj => s_rch_root hr hj) (fun j k hj hjk => ?_)
    obtain ⟨hc, he⟩ := hjk
    rcases he with he | he
    · have he : va_up (s_sn σ) i v j = some k := he
      by_cases e : j = i
      · subst e
        rw [va_up_self] at he
        exact (hv k he).1
      · rw [va_up_ne _ _ e] at he
        exact s_rch_edge hj ⟨hc, Or.inl he⟩
    · exact s_rch_edge hj ⟨hc, Or.inr he⟩
theorem s_setD_OK {w n i : Nat} {σ : sS} {v : Int32} (h : s_OK w n σ) (hv : v = 0 ∨ v = 1) : s_OK w n (s_setD σ i v) := by
  have h0 := h.1
  refine s_OK_of h ?_ (fun i hi => hi) (fun i _ => ⟨rfl, rfl⟩)
  obtain ⟨h1, h2, h3, h4, h5, h6, h7⟩ := h0
  refine ⟨h1, h2, h3, h4, h5, h6, fun j hj => ⟨(h7 j hj).1, (h7 j hj).2.1, (h7 j hj).2.2.1, ?_, (h7 j hj).2.2.2.2⟩⟩
  show va_up (s_de σ) i v j = 0 ∨ va_up (s_de σ) i v j = 1
  by_cases e : j = i
  · subst e
    rw [va_up_self]
    exact hv
  · rw [va_up_ne _ _ e]
    exact (h7 j hj).2.2.2.1
theorem s_setH_OK {w n i q : Nat} {σ : sS} (h : s_OK w n σ) (hq : q ≤ s_rm σ i) : s_OK w n (s_setH σ i q) := by
  have h0 := h.1
  refine s_OK_of h ?_ (fun i hi => hi) (fun i _ => ⟨rfl, rfl⟩)
  obtain ⟨h1, h2, h3, h4, h5, h6, h7⟩ := h0
  refine ⟨h1, h2, h3, h4, h5, h6, fun j hj => ⟨(h7 j hj).1, ?_, (h7 j hj).2.2⟩⟩
  show va_up (s_ht σ) i q j ≤ s_rm σ j
  by_cases e : j = i
  · subst e
    rw [va_up_self]
    exact hq
  · rw [va_up_ne _ _ e]
    exact (h7 j hj).2.1
theorem s_upF_cases {fl : Nat → Nat → sV} {i k j q : Nat} {v : sV} {u : sV} (h : s_upF fl i k v j q = u) : (j = i ∧ q = k ∧ v = u) ∨ (fl j q = u) := by
  unfold s_upF at h
  by_cases e : j = i
  · subst e
    rw [va_up_self] at h
    by_cases e2 : q = k
    · subst e2
      rw [va_up_self] at h
      exact Or.inl ⟨rfl, rfl, h⟩
    · rw [va_up_ne _ _ e2] at h
      exact Or.inr h
  · rw [va_up_ne _ _ e] at h
    exact Or.inr h
theorem s_setF_OK {w n i k : Nat} {σ : sS} {v : sV} (h : s_OK w n σ) (hv : ∀ j, v = some (.inr j) → s_rch σ j) : s_OK w n (s_setF σ i k v) := by
  have h0 := h.1
  refine s_OK_of h ?_ ?_ (fun i _ => ⟨rfl, rfl⟩)
  · obtain ⟨h1, h2, h3, h4, h5, h6, h7⟩ := h0
    refine ⟨h1, h2, h3, h4, h5, h6, fun j hj => ⟨(h7 j hj).1, (h7 j hj).2.1, (h7 j hj).2.2.1, (h7 j hj).2.2.2.1, fun q hq a ha => ?_⟩⟩
    rcases s_upF_cases ha with ⟨-, -, e⟩ | e
    · exact s_rch_kd h.1 (hv a e)
    · exact (h7 j hj).2.2.2.2 q hq a e
  · intro q hq
    refine hq (s_rch σ) (fun r hr j hj => s_rch_root hr hj) (fun j a hj hjk => ?_)
    obtain ⟨hc, he⟩ := hjk
    rcases he with he | he | ⟨b, hb, he⟩
    · exact s_rch_edge hj ⟨hc, Or.inl he⟩
    · exact s_rch_edge hj ⟨hc, Or.inr (Or.inl he)⟩
    · rcases s_upF_cases he with ⟨-, -, e⟩ | e
      · exact hv a e
      · exact s_rch_edge hj ⟨hc, Or.inr (Or.inr ⟨b, hb, e⟩)⟩
theorem s_push_OK {w n i : Nat} {σ : sS} {v : sV} (h : s_OK w n σ) (hv : ∀ j, v = some (.inr j) → s_rch σ j) (hh : s_ht σ i < s_rm σ i) : s_OK w n (s_push σ i v) := s_setH_OK (s_setF_OK h hv) hh
theorem s_pop_OK {w n i : Nat} {σ : sS} (h : s_OK w n σ) (hi : s_isC σ i) : s_OK w n (s_pop σ i) := s_setF_OK (s_setH_OK h (by have := (h.1.2.2.2.2.2.2 i hi).2.1; omega)) (fun j e => by cases e)
theorem s_newM_OK {w n r t d : Nat} {σ : sS} (h : s_OK w n σ) (ht : t ≤ 31) (hd : d ≤ 63) (f1 : 10 + s_W σ + 8 ≤ w) (f2 : 2 + s_N σ + 2 ≤ n) : s_OK w n (s_setR (s_newM σ t d) r (some (.inr (s_md σ + 2)))) := by
  have h0 := h.1
  have ne : ∀ i, s_kd σ i ≠ 0 → i ≠ s_md σ + 2 := fun i hi e => by have := (h0.2.1 i hi).2.1; omega
  have kq : va_up (s_kd σ) (s_md σ + 2) 2 (s_md σ + 2) = 2 := va_up_self _ _ _
  have kn : ∀ i, i ≠ s_md σ + 2 → va_up (s_kd σ) (s_md σ + 2) 2 i = s_kd σ i := fun i e => va_up_ne _ _ e
  have k0 : ∀ i, s_kd σ i ≠ 0 → va_up (s_kd σ) (s_md σ + 2) 2 i = s_kd σ i := fun i e => kn i (ne i e)
  have c0 : ∀ i, s_isC (s_setR (s_newM σ t d) r (some (.inr (s_md σ + 2)))) i → s_isC σ i ∧ i ≠ s_md σ + 2 := fun i hi => by
    have hi : va_up (s_kd σ) (s_md σ + 2) 2 i = 3 ∨ va_up (s_kd σ) (s_md σ + 2) 2 i = 4 := hi
    by_cases e : i = s_md σ + 2
    · rw [e, kq] at hi
      omega
    · rw [kn i e] at hi
      exact ⟨hi, e⟩
  have hI : s_I (s_setR (s_newM σ t d) r (some (.inr (s_md σ + 2)))) := by
    obtain ⟨h1, h2, h3, h4, h5, h6, h7⟩ := h0
    refine ⟨Nat.le_trans h1 (Nat.le_add_right _ _), fun i hi => ?_, fun q hq i hi => ?_, fun i hi => ?_, fun i hi => ?_, fun i hi => ?_, fun i hi => ?_⟩
    · have hi : va_up (s_kd σ) (s_md σ + 2) 2 i ≠ 0 := hi
      show 2 < i ∧ i ≤ s_md σ + 2 ∧ (va_up (s_kd σ) (s_md σ + 2) 2 i = 2 ∨ va_up (s_kd σ) (s_md σ + 2) 2 i = 3 ∨ va_up (s_kd σ) (s_md σ + 2) 2 i = 4)
      by_cases e : i = s_md σ + 2
      · rw [e, kq]
        exact ⟨by omega, by omega, Or.inl rfl⟩
      · rw [kn i e] at hi ⊢
        have := h2 i hi
        exact ⟨this.1, by omega, this.2.2⟩
    · have hi : va_up (s_rg σ) r (some (.inr (s_md σ + 2))) q = some (.inr i) := hi
      show va_up (s_kd σ) (s_md σ + 2) 2 i ≠ 0
      by_cases e : q = r
      · rw [e, va_up_self] at hi
        cases hi
        rw [kq]; decide
      · rw [va_up_ne _ _ e] at hi
        have := h3 q hq i hi
        rw [k0 i this]; exact this
    · have hi : va_up (s_kd σ) (s_md σ + 2) 2 i = 2 := hi
      show va_up (s_tt σ) (s_md σ + 2) t i ≤ 31 ∧ va_up (s_dd σ) (s_md σ + 2) d i ≤ 63
      by_cases e : i = s_md σ + 2
      · rw [e, va_up_self, va_up_self]
        exact ⟨ht, hd⟩
      · rw [kn i e] at hi
        rw [va_up_ne _ _ e, va_up_ne _ _ e]
        exact h4 i hi
    · have hc := c0 i (Or.inl hi)
      have hi : va_up (s_kd σ) (s_md σ + 2) 2 i = 3 := hi
      rw [kn i hc.2] at hi
      show va_up (s_kd σ) (s_md σ + 2) 2 (s_og σ i) = 2
      have := h5 i hi
      rw [k0 _ (by omega)]; exact this
    · have hc := c0 i (Or.inr hi)
      have hi : va_up (s_kd σ) (s_md σ + 2) 2 i = 4 := hi
      rw [kn i hc.2] at hi
      show va_up (s_kd σ) (s_md σ + 2) 2 (s_og σ i) = 3
      have := h6 i hi
      rw [k0 _ (by omega)]; exact this
    · have hc := (c0 i hi).1
      obtain ⟨g1, g2, g3, g4, g5⟩ := h7 i hc
      refine ⟨fun j hj => ?_, g2, g3, g4, fun k hk j hj => ?_⟩
      · have := g1 j hj
        show va_up (s_kd σ) (s_md σ + 2) 2 j = 3 ∨ va_up (s_kd σ) (s_md σ + 2) 2 j = 4
        rw [k0 j (by rcases this with e | e <;> omega)]
        exact this
      · have := g5 k hk j hj
        show va_up (s_kd σ) (s_md σ + 2) 2 j ≠ 0
        rw [k0 j this]; exact this
  refine s_OK_new (q := s_md σ + 2) h hI (fun i hi => ?_) (fun i hi => ?_) ?_ ?_
  · refine hi (fun i => s_rch σ i ∨ i = s_md σ + 2) (fun q hq j hj => ?_) (fun j k hj hjk => ?_)
    · have hj : va_up (s_rg σ) r (some (.inr (s_md σ + 2))) q = some (.inr j) := hj
      by_cases e : q = r
      · rw [e, va_up_self] at hj
        cases hj
        exact Or.inr rfl
      · rw [va_up_ne _ _ e] at hj
        exact Or.inl (s_rch_root hq hj)
    · obtain ⟨hc, he⟩ := hjk
      have hc := c0 j hc
      rcases hj with hj | hj
      · exact Or.inl (s_rch_edge hj ⟨hc.1, he⟩)
      · exact absurd hj hc.2
  · have e := k0 i (s_rch_kd h0 hi)
    unfold s_wd s_en
    rw [show s_kd (s_setR (s_newM σ t d) r (some (.inr (s_md σ + 2)))) i = s_kd σ i from e]
    exact ⟨rfl, rfl⟩
  · unfold s_wd
    rw [if_pos (show s_kd (s_setR (s_newM σ t d) r (some (.inr (s_md σ + 2)))) (s_md σ + 2) = 2 from kq)]
    exact f1
  · unfold s_en
    rw [if_pos (show s_kd (s_setR (s_newM σ t d) r (some (.inr (s_md σ + 2)))) (s_md σ + 2) = 2 from kq)]
    exact f2
/-- a new context, of any kind -/
def s_newX (σ : sS) (kk : Nat) (s : Option Nat) (dd : Int32) (ht rm og : Nat) (ct : Int32) : sS := s_mk (s_rg σ) (s_md σ + 1) (va_up (s_kd σ) (s_md σ + 1) kk) (s_tt σ) (s_dd σ) (va_up (s_sn σ) (s_md σ + 1) s) (va_up (s_de σ) (s_md σ + 1) dd) (va_up (s_ht σ) (s_md σ + 1) ht) (va_up (s_rm σ) (s_md σ + 1) rm) (va_up (s_fl σ) (s_md σ + 1) (fun _ => none)) (va_up (s_og σ) (s_md σ + 1) og) (va_up (s_ct σ) (s_md σ + 1) ct)
theorem s_newX_OK {w n r kk ht rm og : Nat} {s : Option Nat} {de ct : Int32} {σ : sS} (h : s_OK w n σ) (hk : (kk = 3 ∧ s_kd σ og = 2) ∨ (kk = 4 ∧ s_kd σ og = 3)) (hs : ∀ j, s = some j → s_rch σ j ∧ s_isC σ j) (hde : de = 0 ∨ de = 1) (hht : ht ≤ rm) (hrm : rm ≤ 94) (hog : s_rch σ og) (f1 : (if kk = 3 then 9 + rm else 10 + rm) + s_W σ + 8 ≤ w) (f2 : 1 + s_N σ + 2 ≤ n) : s_OK w n (s_setR (s_newX σ kk s de ht rm og ct) r (some (.inr (s_md σ + 1)))) := by
  have h0 := h.1
  have ne : ∀ i, s_kd σ i ≠ 0 → i ≠ s_md σ + 1 := fun i hi e => by have := (h0.2.1 i hi).2.1; omega
  have kq : va_up (s_kd σ) (s_md σ + 1) kk (s_md σ + 1) = kk := va_up_self _ _ _
  have kn : ∀ i, i ≠ s_md σ + 1 → va_up (s_kd σ) (s_md σ + 1) kk i = s_kd σ i := fun i e => va_up_ne _ _ e
  have k0 : ∀ i, s_kd σ i ≠ 0 → va_up (s_kd σ) (s_md σ + 1) kk i = s_kd σ i := fun i e => kn i (ne i e)
  have kk34 : kk = 3 ∨ kk = 4 := by rcases hk with e | e <;> omega
  have c0 : ∀ i, s_isC (s_setR (s_newX σ kk s de ht rm og ct) r (some (.inr (s_md σ + 1)))) i → (s_isC σ i ∧ i ≠ s_md σ + 1) ∨ i = s_md σ + 1 := fun i hi => by
    have hi : va_up (s_kd σ) (s_md σ + 1) kk i = 3 ∨ va_up (s_kd σ) (s_md σ + 1) kk i = 4 := hi
    by_cases e : i = s_md σ + 1
    · exact Or.inr e
    · rw [kn i e] at hi
      exact Or.inl ⟨hi, e⟩
  have hI : s_I (s_setR (s_newX σ kk s de ht rm og ct) r (some (.inr (s_md σ + 1)))) := by
    obtain ⟨h1, h2, h3, h4, h5, h6, h7⟩ := h0
    refine ⟨Nat.le_trans h1 (Nat.le_add_right _ _), fun i hi => ?_, fun q hq i hi => ?_, fun i hi => ?_, fun i hi => ?_, fun i hi => ?_, fun i hi => ?_⟩
    · have hi : va_up (s_kd σ) (s_md σ + 1) kk i ≠ 0 := hi
      show 2 < i ∧ i ≤ s_md σ + 1 ∧ (va_up (s_kd σ) (s_md σ + 1) kk i = 2 ∨ va_up (s_kd σ) (s_md σ + 1) kk i = 3 ∨ va_up (s_kd σ) (s_md σ + 1) kk i = 4)
      by_cases e : i = s_md σ + 1
      · rw [e, kq]
        exact ⟨by omega, by omega, Or.inr kk34⟩
      · rw [kn i e] at hi ⊢
        have := h2 i hi
        exact ⟨this.1, by omega, this.2.2⟩
    · have hi : va_up (s_rg σ) r (some (.inr (s_md σ + 1))) q = some (.inr i) := hi
      show va_up (s_kd σ) (s_md σ + 1) kk i ≠ 0
      by_cases e : q = r
      · rw [e, va_up_self] at hi
        cases hi
        rw [kq]; omega
      · rw [va_up_ne _ _ e] at hi
        have := h3 q hq i hi
        rw [k0 i this]; exact this
    · have hi : va_up (s_kd σ) (s_md σ + 1) kk i = 2 := hi
      by_cases e : i = s_md σ + 1
      · rw [e, kq] at hi; omega
      · rw [kn i e] at hi
        exact h4 i hi
    · have hi : va_up (s_kd σ) (s_md σ + 1) kk i = 3 := hi
      show va_up (s_kd σ) (s_md σ + 1) kk (va_up (s_og σ) (s_md σ + 1) og i) = 2
      by_cases e : i = s_md σ + 1
      · rw [e, kq] at hi
        rw [e, va_up_self]
        have := hk.resolve_right (fun q => by omega)
        rw [k0 _ (by omega)]; exact this.2
      · rw [kn i e] at hi
        rw [va_up_ne _ _ e]
        have := h5 i hi
        rw [k0 _ (by omega)]; exact this
    · have hi : va_up (s_kd σ) (s_md σ + 1) kk i = 4 := hi
      show va_up (s_kd σ) (s_md σ + 1) kk (va_up (s_og σ) (s_md σ + 1) og i) = 3
      by_cases e : i = s_md σ + 1
      · rw [e, kq] at hi
        rw [e, va_up_self]
        have := hk.resolve_left (fun q => by omega)
        rw [k0 _ (by omega)]; exact this.2
      · rw [kn i e] at hi
        rw [va_up_ne _ _ e]
        have := h6 i hi
        rw [k0 _ (by omega)]; exact this
    · show (∀ j, va_up (s_sn σ) (s_md σ + 1) s i = some j → va_up (s_kd σ) (s_md σ + 1) kk j = 3 ∨ va_up (s_kd σ) (s_md σ + 1) kk j = 4) ∧ va_up (s_ht σ) (s_md σ + 1) ht i ≤ va_up (s_rm σ) (s_md σ + 1) rm i ∧ va_up (s_rm σ) (s_md σ + 1) rm i ≤ 94 ∧ (va_up (s_de σ) (s_md σ + 1) de i = 0 ∨ va_up (s_de σ) (s_md σ + 1) de i = 1) ∧ ∀ k, k < va_up (s_rm σ) (s_md σ + 1) rm i → ∀ j, va_up (s_fl σ) (s_md σ + 1) (fun _ => none) i k = some (.inr j) → va_up (s_kd σ) (s_md σ + 1) kk j ≠ 0
      rcases c0 i hi with ⟨hc, e⟩ | e
      · simp only [va_up_ne _ _ e]
        obtain ⟨g1, g2, g3, g4, g5⟩ := h7 i hc
        refine ⟨fun j hj => ?_, g2, g3, g4, fun k hk j hj => ?_⟩
        · have := g1 j hj
          rw [k0 j (by rcases this with e | e <;> omega)]
          exact this
        · have := g5 k hk j hj
          rw [k0 j this]; exact this
      · subst e
        simp only [va_up_self]
        refine ⟨fun j hj => ?_, hht, hrm, hde, fun k hk j hj => by cases hj⟩
        have := (hs j hj).2
        rw [k0 j (by rcases this with e | e <;> omega)]
        exact this
  refine s_OK_new (q := s_md σ + 1) h hI (fun i hi => ?_) (fun i hi => ?_) ?_ ?_
  · refine hi (fun i => s_rch σ i ∨ i = s_md σ + 1) (fun q hq j hj => ?_) (fun j k hj hjk => ?_)
    · have hj : va_up (s_rg σ) r (some (.inr (s_md σ + 1))) q = some (.inr j) := hj
      by_cases e : q = r
      · rw [e, va_up_self] at hj
        cases hj
        exact Or.inr rfl
      · rw [va_up_ne _ _ e] at hj
        exact Or.inl (s_rch_root hq hj)
    · obtain ⟨hc, he⟩ := hjk
      have he : va_up (s_sn σ) (s_md σ + 1) s j = some k ∨ va_up (s_og σ) (s_md σ + 1) og j = k ∨ ∃ b, b < va_up (s_rm σ) (s_md σ + 1) rm j ∧ va_up (s_fl σ) (s_md σ + 1) (fun _ => none) j b = some (.inr k) := he
      rcases c0 j hc with ⟨hc, e⟩ | e
      · simp only [va_up_ne _ _ e] at he
        exact Or.inl (s_rch_edge (hj.resolve_right e) ⟨hc, he⟩)
      · subst e
        simp only [va_up_self] at he
        rcases he with he | he | ⟨b, -, he⟩
        · exact Or.inl (hs k he).1
        · exact Or.inl (he ▸ hog)
        · cases he
  · have hn := ne i (s_rch_kd h0 hi)
    have e := kn i hn
    unfold s_wd s_en
    rw [show s_kd (s_setR (s_newX σ kk s de ht rm og ct) r (some (.inr (s_md σ + 1)))) i = s_kd σ i from e, show s_rm (s_setR (s_newX σ kk s de ht rm og ct) r (some (.inr (s_md σ + 1)))) i = s_rm σ i from va_up_ne _ _ hn]
    exact ⟨rfl, rfl⟩
  · unfold s_wd
    rw [show s_kd (s_setR (s_newX σ kk s de ht rm og ct) r (some (.inr (s_md σ + 1)))) (s_md σ + 1) = kk from kq, show s_rm (s_setR (s_newX σ kk s de ht rm og ct) r (some (.inr (s_md σ + 1)))) (s_md σ + 1) = rm from va_up_self _ _ _, if_neg (by omega)]
    exact f1
  · unfold s_en
    rw [show s_kd (s_setR (s_newX σ kk s de ht rm og ct) r (some (.inr (s_md σ + 1)))) (s_md σ + 1) = kk from kq, if_neg (by omega)]
    exact f2
end
section
/-! THE CALLS, as the document says them, over the mathematical state: the answer, and the state behind. -/
def s_mi (σ : sS) (r : Int32) : Option Nat := if 0 ≤ r ∧ r ≤ 15 then (match s_rg σ r.toNatClampNeg with
  | some (.inr i) => if s_kd σ i = 2 then some i else none
  | _ => none) else none
def s_ci (σ : sS) (r : Int32) : Option Nat := if 0 ≤ r ∧ r ≤ 15 then (match s_rg σ r.toNatClampNeg with
  | some (.inr i) => if s_kd σ i = 3 ∨ s_kd σ i = 4 then some i else none
  | _ => none) else none
/-- a register that is nil or has a context: what it is as a sender -/
def s_si (σ : sS) (r : Int32) : Option (Option Nat) := if 0 ≤ r ∧ r ≤ 15 then (match s_rg σ r.toNatClampNeg with
  | none => some none
  | some (.inr i) => if s_kd σ i = 3 ∨ s_kd σ i = 4 then some (some i) else none
  | _ => none) else none
def s_get (σ : sS) (r : Int32) : sV := s_rg σ r.toNatClampNeg
def s_put (σ : sS) (r : Int32) (v : sV) : sS := s_setR σ r.toNatClampNeg v
def s_fill (σ : sS) (i : Nat) (v : Int32) : Nat → sS
  | 0 => σ
  | k + 1 => s_push (s_fill σ i v k) i (some (.inl (v + nI k)))
def s_drop (σ : sS) (i : Nat) : Nat → sS
  | 0 => σ
  | k + 1 => s_pop (s_drop σ i k) i
def p_number (σ : sS) (r v : Int32) : Int32 × sS := if (0 ≤ r ∧ r ≤ 15) ∧ (-1073741824 ≤ v ∧ v ≤ 1073741823) then (1, s_put σ r (some (.inl v))) else (0, σ)
def p_move (σ : sS) (r f : Int32) : Int32 × sS := if (0 ≤ r ∧ r ≤ 15) ∧ (0 ≤ f ∧ f ≤ 15) then (1, s_put σ r (s_get σ f)) else (0, σ)
def p_clear (σ : sS) (r : Int32) : Int32 × sS := if 0 ≤ r ∧ r ≤ 15 then (1, s_put σ r none) else (0, σ)
def p_kind (σ : sS) (r : Int32) : Int32 := if 0 ≤ r ∧ r ≤ 15 then (match s_get σ r with
  | none => 0
  | some (.inl _) => 1
  | some (.inr i) => nI (s_kd σ i)) else -1
def p_value (σ : sS) (r : Int32) : Int32 := if 0 ≤ r ∧ r ≤ 15 then (match s_get σ r with
  | none => 0
  | some (.inl v) => v
  | some (.inr i) => nI i) else 0
def s_fit (w n : Nat) (σ : sS) (a b : Nat) : Prop := a + s_W σ + 8 ≤ w ∧ b + s_N σ + 2 ≤ n
noncomputable def p_method (w n : Nat) (σ : sS) (r a t d : Int32) : Int32 × sS :=
  if (0 ≤ r ∧ r ≤ 15) ∧ (0 ≤ a ∧ a ≤ 15) ∧ (a ≤ t ∧ t ≤ 31) ∧ (0 ≤ d ∧ d ≤ 63) then
    (if 10 + s_W σ + 8 ≤ w ∧ 2 + s_N σ + 2 ≤ n then (nI (s_md σ + 2), s_put (s_newM σ t.toNatClampNeg d.toNatClampNeg) r (some (.inr (s_md σ + 2)))) else (-2, σ))
  else (-1, σ)
def p_change (σ : sS) (r a t d : Int32) : Int32 × sS := match s_mi σ r with
  | some i => if (0 ≤ a ∧ a ≤ 15) ∧ (a ≤ t ∧ t ≤ 31) ∧ (0 ≤ d ∧ d ≤ 63) then (1, s_setT σ i t.toNatClampNeg d.toNatClampNeg) else (0, σ)
  | none => (0, σ)
noncomputable def p_context (w n : Nat) (σ : sS) (r m s : Int32) : Int32 × sS := match s_mi σ m, s_si σ s with
  | some i, some o => if 0 ≤ r ∧ r ≤ 15 then
      (if 9 + (s_tt σ i + s_dd σ i) + s_W σ + 8 ≤ w ∧ 1 + s_N σ + 2 ≤ n then (nI (s_md σ + 1), s_put (s_newX σ 3 o 0 (s_tt σ i) (s_tt σ i + s_dd σ i) i 0) r (some (.inr (s_md σ + 1)))) else (-2, σ)) else (-1, σ)
  | _, _ => (-1, σ)
noncomputable def p_block (w n : Nat) (σ : sS) (r c k : Int32) : Int32 × sS := match s_ci σ c with
  | some i => if (0 ≤ r ∧ r ≤ 15) ∧ (0 ≤ k ∧ k ≤ 15) then
      (if 10 + s_dd σ (s_og σ (s_hm σ i)) + s_W σ + 8 ≤ w ∧ 1 + s_N σ + 2 ≤ n then (nI (s_md σ + 1), s_put (s_newX σ 4 none 1 0 (s_dd σ (s_og σ (s_hm σ i))) (s_hm σ i) k) r (some (.inr (s_md σ + 1)))) else (-2, σ)) else (-1, σ)
  | none => (-1, σ)
def p_push (σ : sS) (c f : Int32) : Int32 × sS := match s_ci σ c with
  | some i => if (0 ≤ f ∧ f ≤ 15) ∧ s_ht σ i < s_rm σ i then (1, s_push σ i (s_get σ f)) else (0, σ)
  | none => (0, σ)
def p_fill (σ : sS) (c v k : Int32) : Int32 × sS := match s_ci σ c with
  | some i => if (0 ≤ k ∧ k ≤ 100) ∧ (k = 0 ∨ ((-1073741824 ≤ v ∧ v ≤ 1073741823) ∧ v ≤ 1073741823 - (k - 1))) then (nI (min k.toNatClampNeg (s_rm σ i - s_ht σ i)), s_fill σ i v (min k.toNatClampNeg (s_rm σ i - s_ht σ i))) else (-1, σ)
  | none => (-1, σ)
def p_pop (σ : sS) (r c : Int32) : Int32 × sS := match s_ci σ c with
  | some i => if (0 ≤ r ∧ r ≤ 15) ∧ s_fr σ i < s_ht σ i then (1, s_put (s_pop σ i) r (s_fl σ i (s_ht σ i - 1))) else (0, σ)
  | none => (0, σ)
def p_peek (σ : sS) (r c u : Int32) : Int32 × sS := match s_ci σ c with
  | some i => if (0 ≤ r ∧ r ≤ 15) ∧ 0 ≤ u ∧ s_fr σ i + u.toNatClampNeg < s_ht σ i then (1, s_put σ r (s_fl σ i (s_ht σ i - 1 - u.toNatClampNeg))) else (0, σ)
  | none => (0, σ)
def p_drop (σ : sS) (c k : Int32) : Int32 × sS := match s_ci σ c with
  | some i => if 0 ≤ k ∧ (k = 0 ∨ s_fr σ i + k.toNatClampNeg ≤ s_ht σ i) then (1, s_drop σ i k.toNatClampNeg) else (0, σ)
  | none => (0, σ)
def p_height (σ : sS) (c : Int32) : Int32 := match s_ci σ c with
  | some i => nI (s_ht σ i)
  | none => -1
def p_room (σ : sS) (c : Int32) : Int32 := match s_ci σ c with
  | some i => nI (s_rm σ i)
  | none => -1
def p_floor (σ : sS) (c : Int32) : Int32 := match s_ci σ c with
  | some i => nI (s_fr σ i)
  | none => -1
def p_count (σ : sS) (c : Int32) : Int32 := match s_ci σ c with
  | some i => if s_kd σ i = 4 then s_ct σ i else -1
  | none => -1
def p_home (σ : sS) (r c : Int32) : Int32 × sS := match s_ci σ c with
  | some i => if 0 ≤ r ∧ r ≤ 15 then (1, s_put σ r (some (.inr (s_hm σ i)))) else (0, σ)
  | none => (0, σ)
def p_sender (σ : sS) (r c : Int32) : Int32 × sS := match s_ci σ c with
  | some i => if 0 ≤ r ∧ r ≤ 15 then (1, s_put σ r ((s_sn σ i).map .inr)) else (0, σ)
  | none => (0, σ)
def p_send (σ : sS) (c s : Int32) : Int32 × sS := match s_ci σ c, s_si σ s with
  | some i, some o => (1, s_setS σ i o)
  | _, _ => (0, σ)
def p_kill (σ : sS) (c d : Int32) : Int32 × sS := match s_ci σ c with
  | some i => (s_de σ i, s_setD σ i d)
  | none => (0, σ)
def p_temporary (σ : sS) (r c i : Int32) : Int32 × sS := match s_ci σ c with
  | some j => if (0 ≤ r ∧ r ≤ 15) ∧ 0 ≤ i ∧ i.toNatClampNeg < s_tt σ (s_og σ (s_hm σ j)) ∧ i.toNatClampNeg < s_rm σ (s_hm σ j) then (1, s_put σ r (s_fl σ (s_hm σ j) i.toNatClampNeg)) else (0, σ)
  | none => (0, σ)
def p_keep (σ : sS) (c i f : Int32) : Int32 × sS := match s_ci σ c with
  | some j => if (0 ≤ f ∧ f ≤ 15) ∧ 0 ≤ i ∧ i.toNatClampNeg < s_tt σ (s_og σ (s_hm σ j)) ∧ i.toNatClampNeg < s_rm σ (s_hm σ j) then (1, s_setF σ (s_hm σ j) i.toNatClampNeg (s_get σ f)) else (0, σ)
  | none => (0, σ)
noncomputable def p_words (w : Nat) (σ : sS) : Int32 := nI (w - 8 - s_W σ)
noncomputable def p_entries (n : Nat) (σ : sS) : Int32 := nI (n - 2 - s_N σ)
noncomputable def p_contexts (σ : sS) : Int32 := nI (s_K σ)
theorem s_mi_some {σ : sS} {r : Int32} {i : Nat} (h : s_mi σ r = some i) : (0 ≤ r ∧ r ≤ 15) ∧ s_get σ r = some (.inr i) ∧ s_kd σ i = 2 := by
  unfold s_mi at h
  split at h
  · rename_i hr
    split at h
    · rename_i j hj
      split at h
      · rename_i hk
        cases h
        exact ⟨hr, hj, hk⟩
      · cases h
    · cases h
  · cases h
theorem s_ci_some {σ : sS} {r : Int32} {i : Nat} (h : s_ci σ r = some i) : (0 ≤ r ∧ r ≤ 15) ∧ s_get σ r = some (.inr i) ∧ s_isC σ i := by
  unfold s_ci at h
  split at h
  · rename_i hr
    split at h
    · rename_i j hj
      split at h
      · rename_i hk
        cases h
        exact ⟨hr, hj, hk⟩
      · cases h
    · cases h
  · cases h
theorem s_si_some {σ : sS} {r : Int32} {o : Option Nat} (h : s_si σ r = some o) : (0 ≤ r ∧ r ≤ 15) ∧ ((o = none ∧ s_get σ r = none) ∨ ∃ i, o = some i ∧ s_get σ r = some (.inr i) ∧ s_isC σ i) := by
  unfold s_si at h
  split at h
  · rename_i hr
    refine ⟨hr, ?_⟩
    split at h
    · rename_i hj
      cases h
      exact Or.inl ⟨rfl, hj⟩
    · rename_i j hj
      split at h
      · rename_i hk
        cases h
        exact Or.inr ⟨j, rfl, hj, hk⟩
      · cases h
    · cases h
  · cases h
theorem s_reg {r : Int32} (h : 0 ≤ r ∧ r ≤ 15) : r.toNatClampNeg < 16 := by
  obtain ⟨j, hj, rfl⟩ := nI_of2 (n := 15) rfl (fun q => absurd h.1 (Int32.not_le.mpr q)) h.2
  rw [nI_clamp (by omega)]
  omega
theorem s_get_rch {σ : sS} {r : Int32} {i : Nat} (hr : 0 ≤ r ∧ r ≤ 15) (h : s_get σ r = some (.inr i)) : s_rch σ i := s_rch_root (s_reg hr) h
theorem s_ci_rch {σ : sS} {r : Int32} {i : Nat} (h : s_ci σ r = some i) : s_rch σ i := s_get_rch (s_ci_some h).1 (s_ci_some h).2.1
theorem s_mi_rch {σ : sS} {r : Int32} {i : Nat} (h : s_mi σ r = some i) : s_rch σ i := s_get_rch (s_mi_some h).1 (s_mi_some h).2.1
theorem s_hm_rch {σ : sS} {i : Nat} (h : s_rch σ i) (hi : s_isC σ i) : s_rch σ (s_hm σ i) := by
  unfold s_hm
  split
  · exact s_rch_edge h ⟨hi, Or.inr (Or.inl rfl)⟩
  · exact h
theorem s_hm_kd {σ : sS} {i : Nat} (hI : s_I σ) (hi : s_isC σ i) : s_kd σ (s_hm σ i) = 3 := by
  unfold s_hm
  split
  · rename_i h
    exact hI.2.2.2.2.2.1 i h
  · rename_i h
    exact hi.resolve_right h
theorem s_fill_st (σ : sS) (i : Nat) (v : Int32) : ∀ k, s_ht (s_fill σ i v k) i = s_ht σ i + k ∧ s_rm (s_fill σ i v k) = s_rm σ ∧ s_kd (s_fill σ i v k) = s_kd σ ∧ s_md (s_fill σ i v k) = s_md σ
  | 0 => ⟨rfl, rfl, rfl, rfl⟩
  | k + 1 => by
    obtain ⟨h1, h2, h3, h4⟩ := s_fill_st σ i v k
    refine ⟨?_, h2, h3, h4⟩
    show va_up (s_ht (s_fill σ i v k)) i (s_ht (s_fill σ i v k) i + 1) i = s_ht σ i + (k + 1)
    rw [va_up_self, h1]
    omega
theorem s_fill_OK {w n i : Nat} {σ : sS} {v : Int32} (h : s_OK w n σ) : ∀ k, s_ht σ i + k ≤ s_rm σ i → s_OK w n (s_fill σ i v k)
  | 0, _ => h
  | k + 1, hk => by
    obtain ⟨h1, h2, h3, h4⟩ := s_fill_st σ i v k
    exact s_push_OK (s_fill_OK h k (by omega)) (fun j e => by cases e) (by rw [h1, h2]; omega)
theorem s_drop_st (σ : sS) (i : Nat) : ∀ k, s_ht (s_drop σ i k) i = s_ht σ i - k ∧ s_rm (s_drop σ i k) = s_rm σ ∧ s_kd (s_drop σ i k) = s_kd σ ∧ s_md (s_drop σ i k) = s_md σ
  | 0 => ⟨rfl, rfl, rfl, rfl⟩
  | k + 1 => by
    obtain ⟨h1, h2, h3, h4⟩ := s_drop_st σ i k
    refine ⟨?_, h2, h3, h4⟩
    show va_up (s_ht (s_drop σ i k)) i (s_ht (s_drop σ i k) i - 1) i = s_ht σ i - (k + 1)
    rw [va_up_self, h1]
    omega
theorem s_drop_OK {w n i : Nat} {σ : sS} (h : s_OK w n σ) (hi : s_isC σ i) : ∀ k, s_OK w n (s_drop σ i k)
  | 0 => h
  | k + 1 => s_pop_OK (s_drop_OK h hi k) (by unfold s_isC; rw [(s_drop_st σ i k).2.2.1]; exact hi)
theorem p_number_OK {w n : Nat} {σ : sS} (h : s_OK w n σ) (r v : Int32) : s_OK w n (p_number σ r v).2 ∧ s_md (p_number σ r v).2 ≤ s_md σ + 2 := by
  unfold p_number
  split
  · exact ⟨s_setR_OK h (fun i e => by cases e), Nat.le_add_right _ _⟩
  · exact ⟨h, Nat.le_add_right _ _⟩
theorem p_move_OK {w n : Nat} {σ : sS} (h : s_OK w n σ) (r f : Int32) : s_OK w n (p_move σ r f).2 ∧ s_md (p_move σ r f).2 ≤ s_md σ + 2 := by
  unfold p_move
  split
  · rename_i hr
    exact ⟨s_setR_OK h (fun i e => s_get_rch hr.2 e), Nat.le_add_right _ _⟩
  · exact ⟨h, Nat.le_add_right _ _⟩
theorem p_clear_OK {w n : Nat} {σ : sS} (h : s_OK w n σ) (r : Int32) : s_OK w n (p_clear σ r).2 ∧ s_md (p_clear σ r).2 ≤ s_md σ + 2 := by
  unfold p_clear
  split
  · exact ⟨s_setR_OK h (fun i e => by cases e), Nat.le_add_right _ _⟩
  · exact ⟨h, Nat.le_add_right _ _⟩
theorem s_clampLe {x : Int32} {k : Nat} (h0 : 0 ≤ x) (hk : k < 2 ^ 31) (h : x ≤ nI k) : x.toNatClampNeg ≤ k := by
  obtain ⟨j, hj, rfl⟩ := nI_of (x := x) (fun q => absurd h0 (Int32.not_le.mpr q))
  rw [nI_clamp hj]
  exact (nI_leI hj hk).mp h
theorem p_method_OK {w n : Nat} {σ : sS} (h : s_OK w n σ) (r a t d : Int32) : s_OK w n (p_method w n σ r a t d).2 ∧ s_md (p_method w n σ r a t d).2 ≤ s_md σ + 2 := by
  unfold p_method
  split
  · rename_i hr
    split
    · rename_i hf
      refine ⟨s_newM_OK h (s_clampLe (Int32.le_trans hr.2.1.1 hr.2.2.1.1) (by decide) hr.2.2.1.2) (s_clampLe hr.2.2.2.1 (by decide) hr.2.2.2.2) hf.1 hf.2, Nat.le_refl _⟩
    · exact ⟨h, Nat.le_add_right _ _⟩
  · exact ⟨h, Nat.le_add_right _ _⟩
theorem p_change_OK {w n : Nat} {σ : sS} (h : s_OK w n σ) (r a t d : Int32) : s_OK w n (p_change σ r a t d).2 ∧ s_md (p_change σ r a t d).2 ≤ s_md σ + 2 := by
  unfold p_change
  split
  · split
    · rename_i hr
      exact ⟨s_setT_OK h (s_clampLe (Int32.le_trans hr.1.1 hr.2.1.1) (by decide) hr.2.1.2) (s_clampLe hr.2.2.1 (by decide) hr.2.2.2), Nat.le_add_right _ _⟩
    · exact ⟨h, Nat.le_add_right _ _⟩
  · exact ⟨h, Nat.le_add_right _ _⟩
theorem p_context_OK {w n : Nat} {σ : sS} (h : s_OK w n σ) (r m s : Int32) : s_OK w n (p_context w n σ r m s).2 ∧ s_md (p_context w n σ r m s).2 ≤ s_md σ + 2 := by
  unfold p_context
  split
  · rename_i i o hi ho
    split
    · rename_i hr
      split
      · rename_i hf
        have hm := s_mi_some hi
        have hb := h.1.2.2.2.1 i hm.2.2
        refine ⟨s_newX_OK h (Or.inl ⟨rfl, hm.2.2⟩) (fun j hj => ?_) (Or.inl rfl) (Nat.le_add_right _ _) (by omega) (s_mi_rch hi) (by rw [if_pos rfl]; exact hf.1) hf.2, Nat.add_le_add_left (by decide) _⟩
        have hs := s_si_some ho
        rcases hs.2 with e | ⟨j', e1, e2, e3⟩
        · rw [e.1] at hj; cases hj
        · rw [e1] at hj; cases hj
          exact ⟨s_get_rch hs.1 e2, e3⟩
      · exact ⟨h, Nat.le_add_right _ _⟩
    · exact ⟨h, Nat.le_add_right _ _⟩
  · exact ⟨h, Nat.le_add_right _ _⟩
theorem p_block_OK {w n : Nat} {σ : sS} (h : s_OK w n σ) (r c k : Int32) : s_OK w n (p_block w n σ r c k).2 ∧ s_md (p_block w n σ r c k).2 ≤ s_md σ + 2 := by
  unfold p_block
  split
  · rename_i i hi
    split
    · split
      · rename_i hf
        have hc := (s_ci_some hi).2.2
        have hk := s_hm_kd h.1 hc
        have hb := h.1.2.2.2.1 _ (h.1.2.2.2.2.1 _ hk)
        exact ⟨s_newX_OK h (Or.inr ⟨rfl, hk⟩) (fun j hj => by cases hj) (Or.inr rfl) (Nat.zero_le _) (by omega) (s_hm_rch (s_ci_rch hi) hc) (by rw [if_neg (by decide)]; exact hf.1) hf.2, Nat.add_le_add_left (by decide) _⟩
      · exact ⟨h, Nat.le_add_right _ _⟩
    · exact ⟨h, Nat.le_add_right _ _⟩
  · exact ⟨h, Nat.le_add_right _ _⟩
theorem p_push_OK {w n : Nat} {σ : sS} (h : s_OK w n σ) (c f : Int32) : s_OK w n (p_push σ c f).2 ∧ s_md (p_push σ c f).2 ≤ s_md σ + 2 := by
  unfold p_push
  split
  · split
    · rename_i hr
      exact ⟨s_push_OK h (fun j e => s_get_rch hr.1 e) hr.2, Nat.le_add_right _ _⟩
    · exact ⟨h, Nat.le_add_right _ _⟩
  · exact ⟨h, Nat.le_add_right _ _⟩
theorem p_fill_OK {w n : Nat} {σ : sS} (h : s_OK w n σ) (c v k : Int32) : s_OK w n (p_fill σ c v k).2 ∧ s_md (p_fill σ c v k).2 ≤ s_md σ + 2 := by
  unfold p_fill
  split
  · rename_i i hi
    split
    · have hh := (h.1.2.2.2.2.2.2 i (s_ci_some hi).2.2).2.1
      exact ⟨s_fill_OK h _ (by omega), by rw [(s_fill_st σ i v _).2.2.2]; exact Nat.le_add_right _ _⟩
    · exact ⟨h, Nat.le_add_right _ _⟩
  · exact ⟨h, Nat.le_add_right _ _⟩
theorem p_pop_OK {w n : Nat} {σ : sS} (h : s_OK w n σ) (r c : Int32) : s_OK w n (p_pop σ r c).2 ∧ s_md (p_pop σ r c).2 ≤ s_md σ + 2 := by
  unfold p_pop
  split
  · rename_i i hi
    split
    · rename_i hr
      have hc := (s_ci_some hi).2.2
      have hh := (h.1.2.2.2.2.2.2 i hc).2.1
      -- the register first, then the pop: the same state
      have h1 : s_OK w n (s_setR σ r.toNatClampNeg (s_fl σ i (s_ht σ i - 1))) := s_setR_OK h (fun j e => s_rch_edge (s_ci_rch hi) ⟨hc, Or.inr (Or.inr ⟨_, by omega, e⟩)⟩)
      exact ⟨s_pop_OK (i := i) h1 hc, Nat.le_add_right _ _⟩
    · exact ⟨h, Nat.le_add_right _ _⟩
  · exact ⟨h, Nat.le_add_right _ _⟩
theorem p_peek_OK {w n : Nat} {σ : sS} (h : s_OK w n σ) (r c u : Int32) : s_OK w n (p_peek σ r c u).2 ∧ s_md (p_peek σ r c u).2 ≤ s_md σ + 2 := by
  unfold p_peek
  split
  · rename_i i hi
    split
    · rename_i hr
      have hc := (s_ci_some hi).2.2
      have hh := (h.1.2.2.2.2.2.2 i hc).2.1
      exact ⟨s_setR_OK h (fun j e => s_rch_edge (s_ci_rch hi) ⟨hc, Or.inr (Or.inr ⟨_, by omega, e⟩)⟩), Nat.le_add_right _ _⟩
    · exact ⟨h, Nat.le_add_right _ _⟩
  · exact ⟨h, Nat.le_add_right _ _⟩
theorem p_drop_OK {w n : Nat} {σ : sS} (h : s_OK w n σ) (c k : Int32) : s_OK w n (p_drop σ c k).2 ∧ s_md (p_drop σ c k).2 ≤ s_md σ + 2 := by
  unfold p_drop
  split
  · rename_i i hi
    split
    · exact ⟨s_drop_OK h (s_ci_some hi).2.2 _, by rw [(s_drop_st σ i _).2.2.2]; exact Nat.le_add_right _ _⟩
    · exact ⟨h, Nat.le_add_right _ _⟩
  · exact ⟨h, Nat.le_add_right _ _⟩
theorem p_home_OK {w n : Nat} {σ : sS} (h : s_OK w n σ) (r c : Int32) : s_OK w n (p_home σ r c).2 ∧ s_md (p_home σ r c).2 ≤ s_md σ + 2 := by
  unfold p_home
  split
  · rename_i i hi
    split
    · exact ⟨s_setR_OK h (fun j e => by cases e; exact s_hm_rch (s_ci_rch hi) (s_ci_some hi).2.2), Nat.le_add_right _ _⟩
    · exact ⟨h, Nat.le_add_right _ _⟩
  · exact ⟨h, Nat.le_add_right _ _⟩
theorem p_sender_OK {w n : Nat} {σ : sS} (h : s_OK w n σ) (r c : Int32) : s_OK w n (p_sender σ r c).2 ∧ s_md (p_sender σ r c).2 ≤ s_md σ + 2 := by
  unfold p_sender
  split
  · rename_i i hi
    split
    · refine ⟨s_setR_OK h (fun j e => s_rch_edge (s_ci_rch hi) ⟨(s_ci_some hi).2.2, Or.inl ?_⟩), Nat.le_add_right _ _⟩
      cases hs : s_sn σ i with
      | none => rw [hs] at e; cases e
      | some q => rw [hs] at e; cases e; rfl
    · exact ⟨h, Nat.le_add_right _ _⟩
  · exact ⟨h, Nat.le_add_right _ _⟩
theorem p_send_OK {w n : Nat} {σ : sS} (h : s_OK w n σ) (c s : Int32) : s_OK w n (p_send σ c s).2 ∧ s_md (p_send σ c s).2 ≤ s_md σ + 2 := by
  unfold p_send
  split
  · rename_i i o hi ho
    refine ⟨s_setS_OK h (fun j hj => ?_), Nat.le_add_right _ _⟩
    have hs := s_si_some ho
    rcases hs.2 with e | ⟨j', e1, e2, e3⟩
    · rw [e.1] at hj; cases hj
    · rw [e1] at hj; cases hj
      exact ⟨s_get_rch hs.1 e2, e3⟩
  · exact ⟨h, Nat.le_add_right _ _⟩
theorem p_kill_OK {w n : Nat} {σ : sS} (h : s_OK w n σ) (c d : Int32) (hd : d = 0 ∨ d = 1) : s_OK w n (p_kill σ c d).2 ∧ s_md (p_kill σ c d).2 ≤ s_md σ + 2 := by
  unfold p_kill
  split
  · exact ⟨s_setD_OK h hd, Nat.le_add_right _ _⟩
  · exact ⟨h, Nat.le_add_right _ _⟩
theorem p_temporary_OK {w n : Nat} {σ : sS} (h : s_OK w n σ) (r c i : Int32) : s_OK w n (p_temporary σ r c i).2 ∧ s_md (p_temporary σ r c i).2 ≤ s_md σ + 2 := by
  unfold p_temporary
  split
  · rename_i j hj
    split
    · rename_i hr
      have hc := (s_ci_some hj).2.2
      exact ⟨s_setR_OK h (fun q e => s_rch_edge (s_hm_rch (s_ci_rch hj) hc) ⟨Or.inl (s_hm_kd h.1 hc), Or.inr (Or.inr ⟨_, hr.2.2.2, e⟩)⟩), Nat.le_add_right _ _⟩
    · exact ⟨h, Nat.le_add_right _ _⟩
  · exact ⟨h, Nat.le_add_right _ _⟩
theorem p_keep_OK {w n : Nat} {σ : sS} (h : s_OK w n σ) (c i f : Int32) : s_OK w n (p_keep σ c i f).2 ∧ s_md (p_keep σ c i f).2 ≤ s_md σ + 2 := by
  unfold p_keep
  split
  · split
    · rename_i hr
      exact ⟨s_setF_OK h (fun q e => s_get_rch hr.1 e), Nat.le_add_right _ _⟩
    · exact ⟨h, Nat.le_add_right _ _⟩
  · exact ⟨h, Nat.le_add_right _ _⟩
end
section
abbrev kS : Nat := 0
abbrev kW : Nat := 1
abbrev kM : Nat := 2
abbrev kC : Nat := 3
abbrev kB : Nat := 4
abbrev kR : Nat := 5
/-! THE CLASS'S CELLS, and the mathematical state that they hold. -/
abbrev qv (f : Nat → Option Nat) : (Nat → Int32) ⊕ (Nat → Int64) ⊕ (Nat → UInt32) ⊕ (Nat → UInt64) ⊕ (Nat → Option Nat) := .inr (.inr (.inr (.inr f)))
/-- the reference r is the value v -/
def c_val (G : gw_G) (ad : Nat → Nat) (v : sV) (r : Option Nat) : Prop := match v with
  | none => r = none
  | some (.inl n) => ∃ a, r = some a ∧ G a = some (.inr (kW, [.int n]))
  | some (.inr i) => r = some (ad i)
/-- the cell of the object i -/
def c_cell (σ : sS) (ad fa : Nat → Nat) (ρ : Nat → Int32) (i : Nat) : va_E :=
  if s_kd σ i = 2 then .inr (kM, [.int (nI i), .int (ρ i), .int (nI (s_tt σ i)), .int (nI (s_dd σ i))])
  else if s_kd σ i = 3 then .inr (kC, [.int (nI i), .int (ρ i), va_rf ((s_sn σ i).map ad), .int (s_de σ i), .int (nI (s_ht σ i)), .ref (fa i), .ref (ad (s_og σ i))])
  else .inr (kB, [.int (nI i), .int (ρ i), va_rf ((s_sn σ i).map ad), .int (s_de σ i), .int (nI (s_ht σ i)), .ref (fa i), .ref (ad (s_og σ i)), .int (s_ct σ i)])
def c_Rep (w n rd md : Nat) (cV cT : ClassId) (σ : sS) (x ra rt : Nat) (ad fa : Nat → Nat) (ρ : Nat → Int32) (fr : Nat → Nat → Option Nat) (rr rf : Nat → Option Nat) (rc wl el cr : Int32) (G : gw_G) : Prop :=
  G x = some (.inr (kS, [.int (nI w), .int (nI n), .ref ra, .int (nI md), .ref rt, .int rc, .int (nI rd), .int wl, .int el, .int cr])) ∧
  G ra = some (.inl (cV, 16, qv rr)) ∧
  G rt = some (.inl (cT, n, qv rf)) ∧
  ra ≠ rt ∧
  (∀ k, k < 16 → c_val G ad (s_rg σ k) (rr k)) ∧
  (∀ i, s_kd σ i ≠ 0 → G (ad i) = some (c_cell σ ad fa ρ i)) ∧
  (∀ i, s_isC σ i → G (fa i) = some (.inl (cV, s_rm σ i, qv (fr i))) ∧ fa i ≠ ra ∧ fa i ≠ rt) ∧
  (∀ i, s_isC σ i → ∀ k, k < s_rm σ i → c_val G ad (s_fl σ i k) (fr i k)) ∧
  (∀ i j, s_isC σ i → s_isC σ j → fa i = fa j → i = j) ∧
  (∀ i, s_kd σ i ≠ 0 → ∃ k, k ≤ rd ∧ ρ i = nI k)
theorem c_val_up {G : gw_G} {ad : Nat → Nat} {v : sV} {r : Option Nat} {q : Nat} {e : Option va_E} (h : c_val G ad v r) (hq : ∀ m, G q ≠ some (.inr (kW, [.int m]))) : c_val (va_up G q e) ad v r := by
  unfold c_val at h ⊢
  split
  · exact h
  · rename_i m
    obtain ⟨a, h1, h2⟩ := h
    refine ⟨a, h1, gw_up h2 (fun z => ?_)⟩
    subst z
    exact hq m h2
  · exact h
theorem c_val_ad {G : gw_G} {ad ad' : Nat → Nat} {v : sV} {r : Option Nat} (h : c_val G ad v r) (hv : ∀ i, v = some (.inr i) → ad' i = ad i) : c_val G ad' v r := by
  unfold c_val at h ⊢
  split
  · exact h
  · exact h
  · rename_i i
    rw [hv i rfl]
    exact h
theorem c_cell_id (σ : sS) (ad fa : Nat → Nat) (ρ : Nat → Int32) (i : Nat) : ∃ (ci : Nat) (fs : List Value), c_cell σ ad fa ρ i = .inr (ci, .int (nI i) :: fs) ∧ ci ≠ kW ∧ ci ≠ kS := by
  unfold c_cell
  split
  · exact ⟨kM, _, rfl, by decide, by decide⟩
  · split
    · exact ⟨kC, _, rfl, by decide, by decide⟩
    · exact ⟨kB, _, rfl, by decide, by decide⟩
theorem c_cell_ni {σ : sS} {ad fa : Nat → Nat} {ρ : Nat → Int32} {i : Nat} (z : ClassId × vp_A) : c_cell σ ad fa ρ i ≠ .inl z := by
  obtain ⟨ci, fs, h, -⟩ := c_cell_id σ ad fa ρ i
  rw [h]
  exact fun q => by cases q
theorem c_cell_nk {σ : sS} {ad fa : Nat → Nat} {ρ : Nat → Int32} {i k : Nat} (hk : k = kW ∨ k = kS) (fs : List Value) : c_cell σ ad fa ρ i ≠ .inr (k, fs) := by
  obtain ⟨ci, fs', h, h1, h2⟩ := c_cell_id σ ad fa ρ i
  rw [h]
  intro q
  cases q
  rcases hk with e | e
  · exact h1 e
  · exact h2 e
theorem c_cell_inj {σ τ : sS} {ad fa ad' fa' : Nat → Nat} {ρ ρ' : Nat → Int32} {i j : Nat} (hi : i < 2 ^ 31) (hj : j < 2 ^ 31) (h : c_cell σ ad fa ρ i = c_cell τ ad' fa' ρ' j) : i = j := by
  obtain ⟨ci, fs, h1, -⟩ := c_cell_id σ ad fa ρ i
  obtain ⟨cj, fs', h2, -⟩ := c_cell_id τ ad' fa' ρ' j
  rw [h1, h2] at h
  have h3 := Sum.inr.inj h
  have h4 : (Value.int (nI i) :: fs) = (Value.int (nI j) :: fs') := congrArg Prod.snd h3
  have h5 : Value.int (nI i) = Value.int (nI j) := (List.cons.inj h4).1
  exact (nI_eq hi hj).mp (Value.int.inj h5)
section CREP
variable {w n rd md : Nat} {cV cT : ClassId} {σ : sS} {x ra rt : Nat} {ad fa : Nat → Nat} {ρ : Nat → Int32} {fr : Nat → Nat → Option Nat} {rr rf : Nat → Option Nat} {rc wl el cr : Int32} {G : gw_G}
theorem c_Rep.inj (h : c_Rep w n rd md cV cT σ x ra rt ad fa ρ fr rr rf rc wl el cr G) (hI : s_I σ) (hm : s_md σ < 2 ^ 31) {i j : Nat} (hi : s_kd σ i ≠ 0) (hj : s_kd σ j ≠ 0) (e : ad i = ad j) : i = j := by
  obtain ⟨-, -, -, -, -, h6, -⟩ := h
  have a1 := h6 i hi
  rw [e, h6 j hj] at a1
  exact (c_cell_inj (by have := (hI.2.1 j hj).2.1; omega) (by have := (hI.2.1 i hi).2.1; omega) (Option.some.inj a1)).symm
/-- a new cell somewhere changes nothing -/
theorem c_Rep.fresh {q : Nat} {e : Option va_E} (h : c_Rep w n rd md cV cT σ x ra rt ad fa ρ fr rr rf rc wl el cr G) (hq : G q = none) : c_Rep w n rd md cV cT σ x ra rt ad fa ρ fr rr rf rc wl el cr (va_up G q e) := by
  obtain ⟨h1, h2, h3, h4, h5, h6, h7, h8, h9, h10⟩ := h
  have hv : ∀ m, G q ≠ some (.inr (kW, [.int m])) := fun m z => by rw [hq] at z; cases z
  exact ⟨gw_up h1 (gw_neN h1 hq), gw_up h2 (gw_neN h2 hq), gw_up h3 (gw_neN h3 hq), h4, fun k hk => c_val_up (h5 k hk) hv, fun i hi => gw_up (h6 i hi) (gw_neN (h6 i hi) hq), fun i hi => ⟨gw_up (h7 i hi).1 (gw_neN (h7 i hi).1 hq), (h7 i hi).2⟩, fun i hi k hk => c_val_up (h8 i hi k hk) hv, h9, h10⟩
/-- a register -/
theorem c_Rep.reg {k : Nat} {v : sV} {r : Option Nat} (h : c_Rep w n rd md cV cT σ x ra rt ad fa ρ fr rr rf rc wl el cr G) (hv : c_val G ad v r) : c_Rep w n rd md cV cT (s_setR σ k v) x ra rt ad fa ρ fr (va_up rr k r) rf rc wl el cr (va_up G ra (some (.inl (cV, 16, qv (va_up rr k r))))) := by
  obtain ⟨h1, h2, h3, h4, h5, h6, h7, h8, h9, h10⟩ := h
  have hw : ∀ m, G ra ≠ some (.inr (kW, [.int m])) := fun m z => by rw [h2] at z; cases z
  refine ⟨gw_up h1 (gw_ne h1 h2 (fun z => by cases z)), va_up_self _ _ _, gw_up h3 (Ne.symm h4), h4, fun j hj => ?_, fun i hi => gw_up (h6 i hi) (gw_ne (h6 i hi) h2 (c_cell_ni _)), fun i hi => ⟨gw_up (h7 i hi).1 (h7 i hi).2.1, (h7 i hi).2⟩, fun i hi k hk => c_val_up (h8 i hi k hk) hw, h9, h10⟩
  show c_val _ ad (va_up (s_rg σ) k v j) (va_up rr k r j)
  by_cases e : j = k
  · subst e
    rw [va_up_self, va_up_self]
    exact c_val_up hv hw
  · rw [va_up_ne _ _ e, va_up_ne _ _ e]
    exact c_val_up (h5 j hj) hw
/-- the room's own numbers -/
theorem c_Rep.own {rd' md' : Nat} {rc' wl' el' cr' : Int32} (h : c_Rep w n rd md cV cT σ x ra rt ad fa ρ fr rr rf rc wl el cr G) (hd : rd ≤ rd') : c_Rep w n rd' md' cV cT σ x ra rt ad fa ρ fr rr rf rc' wl' el' cr' (va_up G x (some (.inr (kS, [.int (nI w), .int (nI n), .ref ra, .int (nI md'), .ref rt, .int rc', .int (nI rd'), .int wl', .int el', .int cr'])))) := by
  obtain ⟨h1, h2, h3, h4, h5, h6, h7, h8, h9, h10⟩ := h
  have hw : ∀ m, G x ≠ some (.inr (kW, [.int m])) := fun m z => by rw [h1] at z; cases z
  refine ⟨va_up_self _ _ _, gw_up h2 (gw_ne h2 h1 (fun z => by cases z)), gw_up h3 (gw_ne h3 h1 (fun z => by cases z)), h4, fun k hk => c_val_up (h5 k hk) hw, fun i hi => gw_up (h6 i hi) (gw_ne (h6 i hi) h1 (c_cell_nk (Or.inr rfl) _)), fun i hi => ⟨gw_up (h7 i hi).1 (gw_ne (h7 i hi).1 h1 (fun z => by cases z)), (h7 i hi).2⟩, fun i hi k hk => c_val_up (h8 i hi k hk) hw, h9, fun i hi => ?_⟩
  obtain ⟨k, hk, e⟩ := h10 i hi
  exact ⟨k, Nat.le_trans hk hd, e⟩
/-- the row of what was reached -/
theorem c_Rep.row {rf' : Nat → Option Nat} (h : c_Rep w n rd md cV cT σ x ra rt ad fa ρ fr rr rf rc wl el cr G) : c_Rep w n rd md cV cT σ x ra rt ad fa ρ fr rr rf' rc wl el cr (va_up G rt (some (.inl (cT, n, qv rf')))) := by
  obtain ⟨h1, h2, h3, h4, h5, h6, h7, h8, h9, h10⟩ := h
  have hw : ∀ m, G rt ≠ some (.inr (kW, [.int m])) := fun m z => by rw [h3] at z; cases z
  exact ⟨gw_up h1 (gw_ne h1 h3 (fun z => by cases z)), gw_up h2 h4, va_up_self _ _ _, h4, fun k hk => c_val_up (h5 k hk) hw, fun i hi => gw_up (h6 i hi) (gw_ne (h6 i hi) h3 (c_cell_ni _)), fun i hi => ⟨gw_up (h7 i hi).1 (h7 i hi).2.2, (h7 i hi).2⟩, fun i hi k hk => c_val_up (h8 i hi k hk) hw, h9, h10⟩
/-- one object's own cell: its numbers, its sender, its mark -/
theorem c_Rep.obj {τ : sS} {ρ' : Nat → Int32} {i : Nat} (h : c_Rep w n rd md cV cT σ x ra rt ad fa ρ fr rr rf rc wl el cr G) (hI : s_I σ) (hm : s_md σ < 2 ^ 31) (hi : s_kd σ i ≠ 0) (e1 : s_rg τ = s_rg σ) (e3 : s_kd τ = s_kd σ) (e4 : s_rm τ = s_rm σ) (e5 : s_fl τ = s_fl σ) (hc : ∀ j, j ≠ i → c_cell τ ad fa ρ' j = c_cell σ ad fa ρ j) (hρ : ∀ j, s_kd σ j ≠ 0 → ∃ k, k ≤ rd ∧ ρ' j = nI k) : c_Rep w n rd md cV cT τ x ra rt ad fa ρ' fr rr rf rc wl el cr (va_up G (ad i) (some (c_cell τ ad fa ρ' i))) := by
  have hinj := fun {a b : Nat} => h.inj hI hm (i := a) (j := b)
  obtain ⟨h1, h2, h3, h4, h5, h6, h7, h8, h9, h10⟩ := h
  have ho := h6 i hi
  have hw : ∀ m, G (ad i) ≠ some (.inr (kW, [.int m])) := fun m z => by
    rw [ho] at z
    exact c_cell_nk (Or.inl rfl) _ (Option.some.inj z)
  unfold c_Rep s_isC
  rw [e1, e3, e4, e5]
  refine ⟨gw_up h1 (gw_ne h1 ho (fun z => c_cell_nk (Or.inr rfl) _ z.symm)), gw_up h2 (gw_ne h2 ho (fun z => c_cell_ni _ z.symm)), gw_up h3 (gw_ne h3 ho (fun z => c_cell_ni _ z.symm)), h4, fun k hk => c_val_up (h5 k hk) hw, fun j hj => ?_, fun j hj => ⟨gw_up (h7 j hj).1 (gw_ne (h7 j hj).1 ho (fun z => c_cell_ni _ z.symm)), (h7 j hj).2⟩, fun j hj k hk => c_val_up (h8 j hj k hk) hw, h9, hρ⟩
  by_cases e : j = i
  · subst e
    exact va_up_self _ _ _
  · rw [hc j e]
    exact gw_up (h6 j hj) (fun z => e (hinj hj hi z))
/-- one field of one context -/
theorem c_Rep.fld {i k : Nat} {v : sV} {r : Option Nat} (h : c_Rep w n rd md cV cT σ x ra rt ad fa ρ fr rr rf rc wl el cr G) (hi : s_isC σ i) (hv : c_val G ad v r) : c_Rep w n rd md cV cT (s_setF σ i k v) x ra rt ad fa ρ (va_up fr i (va_up (fr i) k r)) rr rf rc wl el cr (va_up G (fa i) (some (.inl (cV, s_rm σ i, qv (va_up (fr i) k r))))) := by
  obtain ⟨h1, h2, h3, h4, h5, h6, h7, h8, h9, h10⟩ := h
  obtain ⟨ho, n1, n2⟩ := h7 i hi
  have hw : ∀ m, G (fa i) ≠ some (.inr (kW, [.int m])) := fun m z => by rw [ho] at z; cases z
  refine ⟨gw_up h1 (gw_ne h1 ho (fun z => by cases z)), gw_up h2 (Ne.symm n1), gw_up h3 (Ne.symm n2), h4, fun k hk => c_val_up (h5 k hk) hw, fun j hj => gw_up (h6 j hj) (gw_ne (h6 j hj) ho (c_cell_ni _)), fun j hj => ⟨?_, (h7 j hj).2⟩, fun j hj q hq => ?_, h9, h10⟩
  · show va_up G (fa i) _ (fa j) = some (.inl (cV, s_rm σ j, qv (va_up fr i (va_up (fr i) k r) j)))
    by_cases e : j = i
    · subst e
      rw [va_up_self, va_up_self]
    · rw [va_up_ne _ _ (fun z => e (h9 j i hj hi z)), va_up_ne _ _ e]
      exact (h7 j hj).1
  · show c_val _ ad (s_upF (s_fl σ) i k v j q) (va_up fr i (va_up (fr i) k r) j q)
    have hq : q < s_rm σ j := hq
    unfold s_upF
    by_cases e : j = i
    · subst e
      rw [va_up_self, va_up_self]
      by_cases e2 : q = k
      · subst e2
        rw [va_up_self, va_up_self]
        exact c_val_up hv hw
      · rw [va_up_ne _ _ e2, va_up_ne _ _ e2]
        exact c_val_up (h8 j hj q hq) hw
    · rw [va_up_ne _ _ e, va_up_ne _ _ e]
      exact c_val_up (h8 j hj q hq) hw
/-- the cells of the others, with one more object named -/
theorem c_cell_old {τ : sS} {id q fq : Nat} {ρ0 : Int32} (hI : s_I σ) (hid : s_kd σ id = 0) {j : Nat} (hj : s_kd σ j ≠ 0) (e3 : s_kd τ j = s_kd σ j) (e4 : s_tt τ j = s_tt σ j) (e5 : s_dd τ j = s_dd σ j) (e6 : s_sn τ j = s_sn σ j) (e7 : s_de τ j = s_de σ j) (e8 : s_ht τ j = s_ht σ j) (e9 : s_og τ j = s_og σ j) (e10 : s_ct τ j = s_ct σ j) : c_cell τ (va_up ad id q) (va_up fa id fq) (va_up ρ id ρ0) j = c_cell σ ad fa ρ j := by
  have ne : ∀ a, s_kd σ a ≠ 0 → a ≠ id := fun a ha z => ha (z ▸ hid)
  unfold c_cell
  rw [e3, e4, e5, e6, e7, e8, e9, e10, va_up_ne _ _ (ne j hj), va_up_ne _ _ (ne j hj)]
  have hs : s_isC σ j → (s_sn σ j).map (va_up ad id q) = (s_sn σ j).map ad := fun hc => by
    cases hs : s_sn σ j with
    | none => rfl
    | some a =>
      have ha := (hI.2.2.2.2.2.2 j hc).1 a hs
      show some (va_up ad id q a) = some (ad a)
      rw [va_up_ne _ _ (ne a (by rcases ha with e | e <;> omega))]
  split
  · rfl
  · rename_i k2
    split
    · rename_i k3
      have ho := hI.2.2.2.2.1 j k3
      rw [hs (Or.inl k3), va_up_ne _ _ (ne _ (by omega))]
    · rename_i k3
      have k4 : s_kd σ j = 4 := by
        have := (hI.2.1 j hj).2.2
        omega
      have ho := hI.2.2.2.2.2.1 j k4
      rw [hs (Or.inr k4), va_up_ne _ _ (ne _ (by omega))]
theorem c_Rep.newM {q t d : Nat} (h : c_Rep w n rd md cV cT σ x ra rt ad fa ρ fr rr rf rc wl el cr G) (hI : s_I σ) (hq : G q = some (.inr (kM, [.int (nI (s_md σ + 2)), .int 0, .int (nI t), .int (nI d)]))) : c_Rep w n rd md cV cT (s_newM σ t d) x ra rt (va_up ad (s_md σ + 2) q) (va_up fa (s_md σ + 2) 0) (va_up ρ (s_md σ + 2) 0) fr rr rf rc wl el cr G := by
  obtain ⟨h1, h2, h3, h4, h5, h6, h7, h8, h9, h10⟩ := h
  have hid : s_kd σ (s_md σ + 2) = 0 := by
    cases hz : s_kd σ (s_md σ + 2) with
    | zero => rfl
    | succ a => have := (hI.2.1 (s_md σ + 2) (by omega)).2.1; omega
  have ne : ∀ a, s_kd σ a ≠ 0 → a ≠ s_md σ + 2 := fun a ha z => ha (z ▸ hid)
  have nc : ∀ a, s_isC σ a → a ≠ s_md σ + 2 := fun a ha => ne a (by rcases ha with e | e <;> omega)
  have c0 : ∀ i, s_isC (s_newM σ t d) i → s_isC σ i := fun i hi => by
    have hi : va_up (s_kd σ) (s_md σ + 2) 2 i = 3 ∨ va_up (s_kd σ) (s_md σ + 2) 2 i = 4 := hi
    by_cases e : i = s_md σ + 2
    · rw [e, va_up_self] at hi; omega
    · rw [va_up_ne _ _ e] at hi; exact hi
  refine ⟨h1, h2, h3, h4, fun k hk => c_val_ad (h5 k hk) (fun i e => va_up_ne _ _ (ne i (hI.2.2.1 k hk i e))), fun i hi => ?_, fun i hi => ?_, fun i hi k hk => ?_, fun i j hi hj e => ?_, fun i hi => ?_⟩
  · have hi : va_up (s_kd σ) (s_md σ + 2) 2 i ≠ 0 := hi
    by_cases e : i = s_md σ + 2
    · subst e
      rw [va_up_self]
      unfold c_cell
      rw [if_pos (show s_kd (s_newM σ t d) (s_md σ + 2) = 2 from va_up_self _ _ _), show s_tt (s_newM σ t d) (s_md σ + 2) = t from va_up_self _ _ _, show s_dd (s_newM σ t d) (s_md σ + 2) = d from va_up_self _ _ _, va_up_self]
      exact hq
    · rw [va_up_ne _ _ e] at hi ⊢
      rw [c_cell_old (τ := s_newM σ t d) hI hid hi (va_up_ne _ _ e) (va_up_ne _ _ e) (va_up_ne _ _ e) rfl rfl rfl rfl rfl]
      exact h6 i hi
  · have hc := c0 i hi
    rw [va_up_ne _ _ (nc i hc)]
    exact h7 i hc
  · have hc := c0 i hi
    exact c_val_ad (h8 i hc k hk) (fun j e => va_up_ne _ _ (ne j ((hI.2.2.2.2.2.2 i hc).2.2.2.2 k hk j e)))
  · have ci := c0 i hi
    have cj := c0 j hj
    rw [va_up_ne _ _ (nc i ci), va_up_ne _ _ (nc j cj)] at e
    exact h9 i j ci cj e
  · have hi : va_up (s_kd σ) (s_md σ + 2) 2 i ≠ 0 := hi
    by_cases e : i = s_md σ + 2
    · subst e
      exact ⟨0, Nat.zero_le _, va_up_self _ _ _⟩
    · rw [va_up_ne _ _ e] at hi
      rw [va_up_ne _ _ e]
      exact h10 i hi
theorem c_Rep.newX {q fq kk ht rm og : Nat} {sd : Option Nat} {de ct : Int32} (h : c_Rep w n rd md cV cT σ x ra rt ad fa ρ fr rr rf rc wl el cr G) (hI : s_I σ) (hkk : kk = 3 ∨ kk = 4) (hog : s_kd σ og ≠ 0) (hsd : ∀ j, sd = some j → s_kd σ j ≠ 0)
    (hq : G q = some (if kk = 3 then .inr (kC, [.int (nI (s_md σ + 1)), .int 0, va_rf (sd.map ad), .int de, .int (nI ht), .ref fq, .ref (ad og)]) else .inr (kB, [.int (nI (s_md σ + 1)), .int 0, va_rf (sd.map ad), .int de, .int (nI ht), .ref fq, .ref (ad og), .int ct])))
    (hf : G fq = some (.inl (cV, rm, qv (fun _ => none)))) (n1 : fq ≠ ra) (n2 : fq ≠ rt) (n3 : ∀ i, s_isC σ i → fa i ≠ fq) : c_Rep w n rd md cV cT (s_newX σ kk sd de ht rm og ct) x ra rt (va_up ad (s_md σ + 1) q) (va_up fa (s_md σ + 1) fq) (va_up ρ (s_md σ + 1) 0) (va_up fr (s_md σ + 1) (fun _ => none)) rr rf rc wl el cr G := by
  obtain ⟨h1, h2, h3, h4, h5, h6, h7, h8, h9, h10⟩ := h
  have hid : s_kd σ (s_md σ + 1) = 0 := by
    cases hz : s_kd σ (s_md σ + 1) with
    | zero => rfl
    | succ a => have := (hI.2.1 (s_md σ + 1) (by omega)).2.1; omega
  have ne : ∀ a, s_kd σ a ≠ 0 → a ≠ s_md σ + 1 := fun a ha z => ha (z ▸ hid)
  have nc : ∀ a, s_isC σ a → a ≠ s_md σ + 1 := fun a ha => ne a (by rcases ha with e | e <;> omega)
  have c0 : ∀ i, s_isC (s_newX σ kk sd de ht rm og ct) i → i ≠ s_md σ + 1 → s_isC σ i := fun i hi e => by
    have hi : va_up (s_kd σ) (s_md σ + 1) kk i = 3 ∨ va_up (s_kd σ) (s_md σ + 1) kk i = 4 := hi
    rw [va_up_ne _ _ e] at hi
    exact hi
  refine ⟨h1, h2, h3, h4, fun k hk => c_val_ad (h5 k hk) (fun i e => va_up_ne _ _ (ne i (hI.2.2.1 k hk i e))), fun i hi => ?_, fun i hi => ?_, fun i hi k hk => ?_, fun i j hi hj e => ?_, fun i hi => ?_⟩
  · have hi : va_up (s_kd σ) (s_md σ + 1) kk i ≠ 0 := hi
    by_cases e : i = s_md σ + 1
    · subst e
      rw [va_up_self, hq]
      unfold c_cell
      rw [show s_kd (s_newX σ kk sd de ht rm og ct) (s_md σ + 1) = kk from va_up_self _ _ _, show s_sn (s_newX σ kk sd de ht rm og ct) (s_md σ + 1) = sd from va_up_self _ _ _, show s_de (s_newX σ kk sd de ht rm og ct) (s_md σ + 1) = de from va_up_self _ _ _, show s_ht (s_newX σ kk sd de ht rm og ct) (s_md σ + 1) = ht from va_up_self _ _ _, show s_og (s_newX σ kk sd de ht rm og ct) (s_md σ + 1) = og from va_up_self _ _ _, show s_ct (s_newX σ kk sd de ht rm og ct) (s_md σ + 1) = ct from va_up_self _ _ _, va_up_self, va_up_self, va_up_ne _ _ (ne og hog)]
      have hs : sd.map (va_up ad (s_md σ + 1) q) = sd.map ad := by
        cases sd with
        | none => rfl
        | some a =>
          show some (va_up ad (s_md σ + 1) q a) = some (ad a)
          rw [va_up_ne _ _ (ne a (hsd a rfl))]
      rw [hs, if_neg (show ¬ kk = 2 by omega)]
    · rw [va_up_ne _ _ e] at hi ⊢
      rw [c_cell_old (τ := s_newX σ kk sd de ht rm og ct) hI hid hi (va_up_ne _ _ e) rfl rfl (va_up_ne _ _ e) (va_up_ne _ _ e) (va_up_ne _ _ e) (va_up_ne _ _ e) (va_up_ne _ _ e)]
      exact h6 i hi
  · show G (va_up fa (s_md σ + 1) fq i) = some (.inl (cV, va_up (s_rm σ) (s_md σ + 1) rm i, qv (va_up fr (s_md σ + 1) (fun _ => none) i))) ∧ va_up fa (s_md σ + 1) fq i ≠ ra ∧ va_up fa (s_md σ + 1) fq i ≠ rt
    by_cases e : i = s_md σ + 1
    · subst e
      rw [va_up_self, va_up_self, va_up_self]
      exact ⟨hf, n1, n2⟩
    · rw [va_up_ne _ _ e, va_up_ne _ _ e, va_up_ne _ _ e]
      exact h7 i (c0 i hi e)
  · show c_val G _ (va_up (s_fl σ) (s_md σ + 1) (fun _ => none) i k) (va_up fr (s_md σ + 1) (fun _ => none) i k)
    have hk : k < va_up (s_rm σ) (s_md σ + 1) rm i := hk
    by_cases e : i = s_md σ + 1
    · subst e
      rw [va_up_self, va_up_self]
      exact rfl
    · rw [va_up_ne _ _ e] at hk
      rw [va_up_ne _ _ e, va_up_ne _ _ e]
      have hc := c0 i hi e
      exact c_val_ad (h8 i hc k hk) (fun j z => va_up_ne _ _ (ne j ((hI.2.2.2.2.2.2 i hc).2.2.2.2 k hk j z)))
  · by_cases ei : i = s_md σ + 1 <;> by_cases ej : j = s_md σ + 1
    · rw [ei, ej]
    · rw [ei, va_up_self, va_up_ne _ _ ej] at e
      exact absurd e.symm (n3 j (c0 j hj ej))
    · rw [ej, va_up_self, va_up_ne _ _ ei] at e
      exact absurd e (n3 i (c0 i hi ei))
    · rw [va_up_ne _ _ ei, va_up_ne _ _ ej] at e
      exact h9 i j (c0 i hi ei) (c0 j hj ej) e
  · have hi : va_up (s_kd σ) (s_md σ + 1) kk i ≠ 0 := hi
    by_cases e : i = s_md σ + 1
    · subst e
      exact ⟨0, Nat.zero_le _, va_up_self _ _ _⟩
    · rw [va_up_ne _ _ e] at hi
      rw [va_up_ne _ _ e]
      exact h10 i hi
end CREP
/-! A SURVEY, as lists of identities -/
def s_add (L : List Nat) (v : sV) : List Nat := match v with
  | some (.inr i) => if i ∈ L then L else L ++ [i]
  | _ => L
def s_sum (f : Nat → Nat) (L : List Nat) : Nat := (L.map f).sum
theorem s_sum_push (f : Nat → Nat) (L : List Nat) (i : Nat) : s_sum f (L ++ [i]) = s_sum f L + f i := by
  unfold s_sum
  rw [List.map_append, List.sum_append]
  simp
theorem s_add_pre (L : List Nat) (v : sV) : ∃ M, s_add L v = L ++ M := by
  unfold s_add
  split
  · split
    · exact ⟨[], (List.append_nil L).symm⟩
    · exact ⟨_, rfl⟩
  · exact ⟨[], (List.append_nil L).symm⟩
theorem s_add_in {L : List Nat} {i : Nat} : i ∈ s_add L (some (.inr i)) := by
  show i ∈ if i ∈ L then L else L ++ [i]
  split
  · assumption
  · exact List.mem_append_right _ List.mem_cons_self
theorem s_add_sub {L : List Nat} {v : sV} {i : Nat} (h : i ∈ L) : i ∈ s_add L v := by
  obtain ⟨M, e⟩ := s_add_pre L v
  rw [e]
  exact List.mem_append_left _ h
/-- a list of reachable objects, each once -/
def s_part (σ : sS) (L : List Nat) : Prop := L.Nodup ∧ ∀ i, i ∈ L → s_rch σ i
theorem s_part_nil {σ : sS} : s_part σ [] := ⟨List.nodup_nil, fun i h => by cases h⟩
theorem s_part_push {σ : sS} {L : List Nat} {i : Nat} (h : s_part σ L) (hi : s_rch σ i) (hn : i ∉ L) : s_part σ (L ++ [i]) := by
  refine ⟨?_, fun j hj => ?_⟩
  · rw [List.nodup_append]
    refine ⟨h.1, by simp, fun a ha b hb e => ?_⟩
    rw [List.mem_singleton] at hb
    exact hn (hb ▸ e ▸ ha)
  · rcases List.mem_append.mp hj with q | q
    · exact h.2 j q
    · rw [List.mem_singleton.mp q]; exact hi
theorem s_part_add {σ : sS} {L : List Nat} {v : sV} (h : s_part σ L) (hv : ∀ i, v = some (.inr i) → s_rch σ i) : s_part σ (s_add L v) := by
  unfold s_add
  split
  · rename_i i
    split
    · exact h
    · exact s_part_push h (hv i rfl) (by assumption)
  · exact h
theorem s_part_W {σ : sS} {L : List Nat} (h : s_part σ L) (hI : s_I σ) : s_sum (s_wd σ) L ≤ s_W σ := sm_sub _ _ h.1 (fun i hi => ((s_all_enum hI).2 i).mpr (h.2 i hi))
theorem s_part_N {σ : sS} {L : List Nat} (h : s_part σ L) (hI : s_I σ) : s_sum (s_en σ) L ≤ s_N σ := sm_sub _ _ h.1 (fun i hi => ((s_all_enum hI).2 i).mpr (h.2 i hi))
theorem s_sum_len {f : Nat → Nat} (hf : ∀ i, 1 ≤ f i) : ∀ L : List Nat, L.length ≤ s_sum f L
  | [] => Nat.zero_le _
  | a :: L => by
    have := s_sum_len hf L
    have := hf a
    unfold s_sum at *
    simp only [List.map_cons, List.sum_cons, List.length_cons]
    omega
theorem s_en_pos (σ : sS) (i : Nat) : 1 ≤ s_en σ i := by
  unfold s_en
  split <;> omega
theorem s_part_len {w n : Nat} {σ : sS} {L : List Nat} (h : s_part σ L) (hO : s_OK w n σ) : L.length + 2 ≤ n := by
  have h1 := s_sum_len (s_en_pos σ) L
  have h2 := s_part_N h hO.1
  have h3 := hO.2.2
  omega
theorem s_part_enum {σ : sS} {L : List Nat} (h : s_part σ L) (hr : ∀ r, r < 16 → ∀ j, s_rg σ r = some (.inr j) → j ∈ L) (he : ∀ j, j ∈ L → ∀ k, s_edge σ j k → k ∈ L) : s_enum σ L := ⟨h.1, fun i => ⟨h.2 i, fun q => q (fun i => i ∈ L) hr (fun j k hj hjk => he j hj k hjk)⟩⟩
end
section
/-! CALLS, with the tables' good words for every method. -/
theorem gi_3 {a b c : Cond} {ws : List Cond} (h1 : a ∈ gt) (h2 : b ∈ gt) (h3 : c ∈ gt) (hG : GoodIn gt ws) : GoodIn gt (([a, b, c] : List Cond) ++ ws) := gi_all (List.forall_mem_cons.mpr ⟨h1, List.forall_mem_cons.mpr ⟨h2, List.forall_mem_cons.mpr ⟨h3, fun _ h => absurd h List.not_mem_nil⟩⟩⟩) hG
theorem gi_4 {a b c d : Cond} {ws : List Cond} (h1 : a ∈ gt) (h2 : b ∈ gt) (h3 : c ∈ gt) (h4 : d ∈ gt) (hG : GoodIn gt ws) : GoodIn gt (([a, b, c, d] : List Cond) ++ ws) := gi_all (List.forall_mem_cons.mpr ⟨h1, List.forall_mem_cons.mpr ⟨h2, List.forall_mem_cons.mpr ⟨h3, List.forall_mem_cons.mpr ⟨h4, fun _ h => absurd h List.not_mem_nil⟩⟩⟩⟩) hG
theorem gi_5 {a b c d e : Cond} {ws : List Cond} (h1 : a ∈ gt) (h2 : b ∈ gt) (h3 : c ∈ gt) (h4 : d ∈ gt) (h5 : e ∈ gt) (hG : GoodIn gt ws) : GoodIn gt (([a, b, c, d, e] : List Cond) ++ ws) := gi_all (List.forall_mem_cons.mpr ⟨h1, List.forall_mem_cons.mpr ⟨h2, List.forall_mem_cons.mpr ⟨h3, List.forall_mem_cons.mpr ⟨h4, List.forall_mem_cons.mpr ⟨h5, fun _ h => absurd h List.not_mem_nil⟩⟩⟩⟩⟩) hG
/-- what a method's descriptor says of its name and number of arguments -/
abbrev hD (y : MethodName) (n : Nat) : Prop := y.cls ≠ "java/lang/invoke/MethodHandle" ∧ y.cls ≠ "java/lang/invoke/VarHandle" ∧ (parseMethodDescriptor y.desc).map (fun d => d.parameters.length) = some n
theorem g_fin {D : va_G} {G G1 : gw_G} {sz : Nat} {t : State} {H : Heap} (ht : t.heap = H) (hP : gw_P D vwCl (gw_A G sz) G1 H) : g_end D G sz G1 t := by
  show gw_P D vwCl (gw_A G sz) G1 t.heap
  rw [ht]
  exact hP
section RUNS
variable {p : Program} {l : Launch} {e : Env} {R : Room} {s : State} {m : MethodId} {args : Array Value} {below : List Frame} {meth : Method} {c : Code} {H : Heap} {locs : List Loc} {cells slots : Nat} {Q : State → Prop}
variable {x y : MethodName} {bytes cc : ByteArray} {maxL nL mc ms n index pc : Nat} {ret : Option FieldType} {rm : Room} {Pc : Array Value → State → Prop} {Qc : Array Value → State → Outcome → State → Prop} {free : Addr → Prop} {own C owner host : String} {b : Addr} {As rest st0 : List Value} {ls : Array Slot}
theorem r_S (C0 : CallFix p m c cc nL s args gt own) (As : List Value) (hM : Met l y (Cond.code y bytes maxL ret :: gt) rm Pc Qc mc ms free) (h1 : Cond.methodLink own index y ∈ gt) (h2 : Cond.static y ∈ gt) (h3 : Cond.initialized y.cls ∈ gt) (h4 : Cond.code y bytes maxL ret ∈ gt) (hd : hD y n) (hp : PreS s H Pc As) (hsz : ls.size = nL) (hdg : decode cc pc = .ok (.invokestatic index, 3))
    (hst : st0 = As.reverse ++ rest) (hn : As.length = n) (hro : (rest.map fun v => v.category).sum ≤ 8) (hrm : rm.cells = mc ∧ rm.slots = ms) (hR : rm.frames + 1 ≤ R.frames ∧ 8 + (maxL + 11) + rm.locals ≤ R.locals) (hf : cells + mc ≤ R.cells ∧ slots + ms ≤ R.slots) : va_Run p l e R s m args below meth c H locs cells slots mc ms (F0 m pc ls st0) rest (Qc As.toArray) free :=
  va_runS C0 hM (va_cwS n C0.2.2.2.2 (gi_3 h1 h2 h3 (gi_ws h4)) rfl hrm.1 hrm.2 hd hR) hp rfl hn hsz hst (lv_room hro) hdg hf
theorem r_V (C0 : CallFix p m c cc nL s args gt own) (As : List Value) (hM : Met l y (Cond.code y bytes maxL ret :: gt) rm Pc Qc mc ms free) (h1 : Cond.methodLink own index y ∈ gt) (h2 : Cond.instanceMethod y ∈ gt) (h5 : Cond.selects C y y ∈ gt) (h3 : Cond.initialized C ∈ gt) (h4 : Cond.code y bytes maxL ret ∈ gt) (hd : y.cls = C ∧ hD y n) (hp : PreV s H C b Pc As) (hsz : ls.size = nL) (hdg : decode cc pc = .ok (.invokevirtual index, 3))
    (hst : st0 = As.reverse ++ .ref b :: rest) (hn : As.length = n) (hro : (rest.map fun v => v.category).sum ≤ 8) (hrm : rm.cells = mc ∧ rm.slots = ms) (hR : rm.frames + 1 ≤ R.frames ∧ 8 + (maxL + 11) + rm.locals ≤ R.locals) (hf : cells + mc ≤ R.cells ∧ slots + ms ≤ R.slots) : va_Run p l e R s m args below meth c H locs cells slots mc ms (F0 m pc ls st0) rest (Qc (Value.ref b :: As).toArray) free :=
  va_runV C0 hM (cwV n C0.2.2.2.2 (gi_4 h1 h2 h5 h3 (gi_ws h4)) rfl hrm.1 hrm.2 hd hR) hp rfl hn hsz hst (lv_room hro) hdg hf
/-- an inherited method -/
theorem r_U (C0 : CallFix p m c cc nL s args gt own) (As : List Value) (hM : Met l y (Cond.code y bytes maxL ret :: gt) rm Pc Qc mc ms free) (h1 : Cond.methodLink own index x ∈ gt) (h6 : Cond.sameMethod x.cls owner x.name x.desc ∈ gt) (h5 : Cond.selects C x y ∈ gt) (h2 : Cond.instanceMethod y ∈ gt) (h3 : Cond.initialized y.cls ∈ gt) (h4 : Cond.code y bytes maxL ret ∈ gt) (hyx : y = ⟨owner, x.name, x.desc⟩) (hd : owner ≠ "java/lang/invoke/MethodHandle" ∧ owner ≠ "java/lang/invoke/VarHandle" ∧ (parseMethodDescriptor x.desc).map (fun d => d.parameters.length) = some n) (hp : PreV s H C b Pc As) (hsz : ls.size = nL) (hdg : decode cc pc = .ok (.invokevirtual index, 3))
    (hst : st0 = As.reverse ++ .ref b :: rest) (hn : As.length = n) (hro : (rest.map fun v => v.category).sum ≤ 8) (hrm : rm.cells = mc ∧ rm.slots = ms) (hR : rm.frames + 1 ≤ R.frames ∧ 8 + (maxL + 11) + rm.locals ≤ R.locals) (hf : cells + mc ≤ R.cells ∧ slots + ms ≤ R.slots) : va_Run p l e R s m args below meth c H locs cells slots mc ms (F0 m pc ls st0) rest (Qc (Value.ref b :: As).toArray) free :=
  va_runU C0 hM (va_cwU n C0.2.2.2.2 (gi_5 h1 h6 h5 h2 h3 (gi_ws h4)) rfl hrm.1 hrm.2 hyx hd hR) hp rfl hn hsz hst (lv_room hro) hdg hf
/-- an abstract method's kinds -/
theorem r_A (C0 : CallFix p m c cc nL s args gt own) (As : List Value) (hM : Met l y (Cond.code y bytes maxL ret :: gt) rm Pc Qc mc ms free) (h1 : Cond.methodLink own index x ∈ gt) (h6 : Cond.sameMethod x.cls owner x.name x.desc ∈ gt) (h5 : Cond.selects C x y ∈ gt) (h2 : Cond.instanceMethod y ∈ gt) (h3 : Cond.initialized y.cls ∈ gt) (h4 : Cond.code y bytes maxL ret ∈ gt) (hz : va_Nw (.declares ⟨owner, x.name, x.desc⟩) s) (hd : owner ≠ "java/lang/invoke/MethodHandle" ∧ owner ≠ "java/lang/invoke/VarHandle" ∧ (parseMethodDescriptor x.desc).map (fun d => d.parameters.length) = some n) (hp : PreV s H C b Pc As) (hsz : ls.size = nL) (hdg : decode cc pc = .ok (.invokevirtual index, 3))
    (hst : st0 = As.reverse ++ .ref b :: rest) (hn : As.length = n) (hro : (rest.map fun v => v.category).sum ≤ 8) (hrm : rm.cells = mc ∧ rm.slots = ms) (hR : rm.frames + 1 ≤ R.frames ∧ 8 + (maxL + 11) + rm.locals ≤ R.locals) (hf : cells + mc ≤ R.cells ∧ slots + ms ≤ R.slots) : va_Run p l e R s m args below meth c H locs cells slots mc ms (F0 m pc ls st0) rest (Qc (Value.ref b :: As).toArray) free :=
  va_runU C0 hM (va_cwA n C0.2.2.2.2 (gi_5 h1 h6 h5 h2 h3 (gi_ws h4)) rfl hrm.1 hrm.2 hz hd hR) hp rfl hn hsz hst (lv_room hro) hdg hf
theorem r_I (C0 : CallFix p m c cc nL s args gt own) (As : List Value) (hM : Met l y (Cond.code y bytes maxL none :: gt) rm Pc Qc mc ms free) (h1 : Cond.methodLink own index y ∈ gt) (h2 : Cond.instanceMethod y ∈ gt) (h3 : Cond.initialized y.cls ∈ gt) (h4 : Cond.code y bytes maxL none ∈ gt) (hy : y.name = "<init>") (hd : hD y n) (hp : PreS s H Pc (.ref b :: As)) (hsz : ls.size = nL) (hdg : decode cc pc = .ok (.invokespecial index, 3))
    (hst : st0 = As.reverse ++ .ref b :: rest) (hn : As.length = n) (hro : (rest.map fun v => v.category).sum ≤ 8) (hrm : rm.cells = mc ∧ rm.slots = ms) (hR : rm.frames + 1 ≤ R.frames ∧ 8 + (maxL + 11) + rm.locals ≤ R.locals) (hf : cells + mc ≤ R.cells ∧ slots + ms ≤ R.slots) : va_Run p l e R s m args below meth c H locs cells slots mc ms (F0 m pc ls st0) rest (Qc (Value.ref b :: As).toArray) free :=
  va_runI C0 hM (cwI n C0.2.2.2.2 (gi_ws h4) rfl hrm.1 hrm.2 (C0.2.2.2.2 _ h3) (C0.2.2.2.2 _ h1) (C0.2.2.2.2 _ h2) hy hd hR) hp rfl hn hsz hst (lv_room hro) hdg hf
theorem r_IN (C0 : CallFix p m c cc nL s args gt own) (As : List Value) (hM : Met l y (Cond.code y bytes maxL none :: gt) rm Pc Qc mc ms free) (h1 : va_Nw (.methodLinkNest own index y host) s) (h2 : Cond.instanceMethod y ∈ gt) (h3 : Cond.initialized y.cls ∈ gt) (h4 : Cond.code y bytes maxL none ∈ gt) (hy : y.name = "<init>") (hd : hD y n) (hp : PreS s H Pc (.ref b :: As)) (hsz : ls.size = nL) (hdg : decode cc pc = .ok (.invokespecial index, 3))
    (hst : st0 = As.reverse ++ .ref b :: rest) (hn : As.length = n) (hro : (rest.map fun v => v.category).sum ≤ 8) (hrm : rm.cells = mc ∧ rm.slots = ms) (hR : rm.frames + 1 ≤ R.frames ∧ 8 + (maxL + 11) + rm.locals ≤ R.locals) (hf : cells + mc ≤ R.cells ∧ slots + ms ≤ R.slots) : va_Run p l e R s m args below meth c H locs cells slots mc ms (F0 m pc ls st0) rest (Qc (Value.ref b :: As).toArray) free :=
  va_runIN C0 hM ⟨va_cnB n C0.2.2.2.2 (gi_ws h4) rfl hrm.1 hrm.2 h1 (C0.2.2.2.2 _ h3) hd hR, hy, C0.2.2.2.2 _ h2⟩ hp rfl hn hsz hst (lv_room hro) hdg hf
-- what goes on behind a call that changes cells
variable {D : va_G} {A : Nat → Prop} {G : gw_G} {H0 : Heap} {a : Array Value}
theorem g_calli {post : Int32 → gw_G → Prop} (hP : gw_P D vwCl A G H) (hS : va_S A H0 H locs) (hA : ∀ q, H0.size ≤ q → A q) (hr : va_Run p l e R s m args below meth c H locs cells slots mc ms (F0 m pc ls st0) rest (va_Qi post (g_end D G H.size) (gw_A G H.size) a) (gw_A G H.size))
    (kk : ∀ (r : Int32) (G1 : gw_G) (H1 : Heap) (locs1 : List Loc), post r G1 → gw_P D vwCl A G1 H1 → va_S A H0 H1 locs1 → H.size ≤ H1.size → (∀ q : Nat, q < H.size → ¬ gw_A G H.size q → H1[q]? = H[q]?) → W p l e R s m args below meth c H1 locs1 (cells + mc) (slots + ms) Q (F0 m (pc + 3) ls (.int r :: rest))) : W p l e R s m args below meth c H locs cells slots Q (F0 m pc ls st0) :=
  va_calli hr hS (fun q _ h => gw_free hP hS hA q h) (gw_free hP hS hA) (fun r u t H1 locs1 ht _ hw hB hz hk hS1 => kk r u H1 locs1 hw (gw_join hP hS hA (ht ▸ hB)) hS1 hz hk)
theorem g_callv {post : gw_G → Prop} (hP : gw_P D vwCl A G H) (hS : va_S A H0 H locs) (hA : ∀ q, H0.size ≤ q → A q) (hr : va_Run p l e R s m args below meth c H locs cells slots mc ms (F0 m pc ls st0) rest (va_Qv post (g_end D G H.size) (gw_A G H.size) a) (gw_A G H.size))
    (kk : ∀ (G1 : gw_G) (H1 : Heap) (locs1 : List Loc), post G1 → gw_P D vwCl A G1 H1 → va_S A H0 H1 locs1 → H.size ≤ H1.size → (∀ q : Nat, q < H.size → ¬ gw_A G H.size q → H1[q]? = H[q]?) → W p l e R s m args below meth c H1 locs1 (cells + mc) (slots + ms) Q (F0 m (pc + 3) ls rest)) : W p l e R s m args below meth c H locs cells slots Q (F0 m pc ls st0) :=
  va_callv hr hS (fun q _ h => gw_free hP hS hA q h) (gw_free hP hS hA) (fun u t H1 locs1 ht _ hw hB hz hk hS1 => kk u H1 locs1 hw (gw_join hP hS hA (ht ▸ hB)) hS1 hz hk)
theorem g_callq {post : Option Nat → gw_G → Prop} (hP : gw_P D vwCl A G H) (hS : va_S A H0 H locs) (hA : ∀ q, H0.size ≤ q → A q) (hr : va_Run p l e R s m args below meth c H locs cells slots mc ms (F0 m pc ls st0) rest (va_Qq post (g_end D G H.size) (gw_A G H.size) a) (gw_A G H.size))
    (kk : ∀ (r : Option Nat) (G1 : gw_G) (H1 : Heap) (locs1 : List Loc), post r G1 → gw_P D vwCl A G1 H1 → va_S A H0 H1 locs1 → H.size ≤ H1.size → (∀ q : Nat, q < H.size → ¬ gw_A G H.size q → H1[q]? = H[q]?) → W p l e R s m args below meth c H1 locs1 (cells + mc) (slots + ms) Q (F0 m (pc + 3) ls (va_rf r :: rest))) : W p l e R s m args below meth c H locs cells slots Q (F0 m pc ls st0) :=
  va_callq hr hS (fun q _ h => gw_free hP hS hA q h) (gw_free hP hS hA) (fun r u t H1 locs1 ht _ hw hB hz hk hS1 => kk r u H1 locs1 hw (gw_join hP hS hA (ht ▸ hB)) hS1 hz hk)
end RUNS
theorem hd_S_init : hD y_S_init 2 := by decide +kernel
theorem hd_O_init : hD y_O_init 0 := by decide +kernel
theorem hd_S_isWithin : hD y_S_isWithin 3 := by decide +kernel
theorem hd_S_number : hD y_S_number 2 := by decide +kernel
theorem hd_S_isRegister : hD y_S_isRegister 1 := by decide +kernel
theorem hd_S_isNumber : hD y_S_isNumber 1 := by decide +kernel
theorem hd_W_init : hD y_W_init 1 := by decide +kernel
theorem hd_V_init : hD y_V_init 0 := by decide +kernel
theorem hd_S_move : hD y_S_move 2 := by decide +kernel
theorem hd_S_clear : hD y_S_clear 1 := by decide +kernel
theorem hd_S_kind : hD y_S_kind 1 := by decide +kernel
theorem hd_B_kindCode : hD y_B_kindCode 0 := by decide +kernel
theorem hd_M_kindCode : hD y_M_kindCode 0 := by decide +kernel
theorem hd_X_kindCode : hD y_X_kindCode 0 := by decide +kernel
theorem hd_W_kindCode : hD y_W_kindCode 0 := by decide +kernel
theorem hd_S_value : hD y_S_value 1 := by decide +kernel
theorem hd_T_shown : hD y_T_shown 0 := by decide +kernel
theorem hd_W_shown : hD y_W_shown 0 := by decide +kernel
theorem hd_S_method : hD y_S_method 4 := by decide +kernel
theorem hd_S_areMethodNumbers : hD y_S_areMethodNumbers 3 := by decide +kernel
theorem hd_S_canBeMade : hD y_S_canBeMade 2 := by decide +kernel
theorem hd_S_survey : hD y_S_survey 0 := by decide +kernel
theorem hd_S_reach : hD y_S_reach 1 := by decide +kernel
theorem hd_C_wordsTaken : hD y_C_wordsTaken 0 := by decide +kernel
theorem hd_B_headFields : hD y_B_headFields 0 := by decide +kernel
theorem hd_X_headFields : hD y_X_headFields 0 := by decide +kernel
theorem hd_M_wordsTaken : hD y_M_wordsTaken 0 := by decide +kernel
theorem hd_C_entriesTaken : hD y_C_entriesTaken 0 := by decide +kernel
theorem hd_M_entriesTaken : hD y_M_entriesTaken 0 := by decide +kernel
theorem hd_S_reachPartsOf : hD y_S_reachPartsOf 1 := by decide +kernel
theorem hd_B_origin : hD y_B_origin 0 := by decide +kernel
theorem hd_X_origin : hD y_X_origin 0 := by decide +kernel
theorem hd_M_init : hD y_M_init 3 := by decide +kernel
theorem hd_T_init : hD y_T_init 1 := by decide +kernel
theorem hd_S_change : hD y_S_change 4 := by decide +kernel
theorem hd_S_methodIn : hD y_S_methodIn 1 := by decide +kernel
theorem hd_M_setNumbers : hD y_M_setNumbers 2 := by decide +kernel
theorem hd_S_context : hD y_S_context 3 := by decide +kernel
theorem hd_S_isSender : hD y_S_isSender 1 := by decide +kernel
theorem hd_S_contextIn : hD y_S_contextIn 1 := by decide +kernel
theorem hd_X_init : hD y_X_init 3 := by decide +kernel
theorem hd_C_init : hD y_C_init 5 := by decide +kernel
theorem hd_S_block : hD y_S_block 3 := by decide +kernel
theorem hd_B_homeContext : hD y_B_homeContext 0 := by decide +kernel
theorem hd_X_homeContext : hD y_X_homeContext 0 := by decide +kernel
theorem hd_B_init : hD y_B_init 3 := by decide +kernel
theorem hd_S_push : hD y_S_push 2 := by decide +kernel
theorem hd_C_isFull : hD y_C_isFull 0 := by decide +kernel
theorem hd_C_pushOne : hD y_C_pushOne 1 := by decide +kernel
theorem hd_C_putField : hD y_C_putField 2 := by decide +kernel
theorem hd_C_hasField : hD y_C_hasField 1 := by decide +kernel
theorem hd_S_fill : hD y_S_fill 3 := by decide +kernel
theorem hd_S_areNumbers : hD y_S_areNumbers 2 := by decide +kernel
theorem hd_S_pop : hD y_S_pop 2 := by decide +kernel
theorem hd_C_depthNow : hD y_C_depthNow 0 := by decide +kernel
theorem hd_B_floorNow : hD y_B_floorNow 0 := by decide +kernel
theorem hd_X_floorNow : hD y_X_floorNow 0 := by decide +kernel
theorem hd_C_popOne : hD y_C_popOne 0 := by decide +kernel
theorem hd_C_fieldAt : hD y_C_fieldAt 1 := by decide +kernel
theorem hd_S_peek : hD y_S_peek 3 := by decide +kernel
theorem hd_S_drop : hD y_S_drop 2 := by decide +kernel
theorem hd_S_height : hD y_S_height 1 := by decide +kernel
theorem hd_S_room : hD y_S_room 1 := by decide +kernel
theorem hd_S_floor : hD y_S_floor 1 := by decide +kernel
theorem hd_S_count : hD y_S_count 1 := by decide +kernel
theorem hd_S_home : hD y_S_home 2 := by decide +kernel
theorem hd_S_sender : hD y_S_sender 2 := by decide +kernel
theorem hd_S_send : hD y_S_send 2 := by decide +kernel
theorem hd_S_kill : hD y_S_kill 2 := by decide +kernel
theorem hd_S_temporary : hD y_S_temporary 3 := by decide +kernel
theorem hd_X_hasTemporary : hD y_X_hasTemporary 1 := by decide +kernel
theorem hd_S_keep : hD y_S_keep 3 := by decide +kernel
theorem hd_S_words : hD y_S_words 0 := by decide +kernel
theorem hd_S_entries : hD y_S_entries 0 := by decide +kernel
theorem hd_S_contexts : hD y_S_contexts 0 := by decide +kernel
theorem hd_L_cell : hD y_L_cell 2 := by decide +kernel
theorem hd_R_init : hD y_R_init 2 := by decide +kernel
theorem hd_R_words : hD y_R_words 0 := by decide +kernel
theorem hd_R_look : hD y_R_look 0 := by decide +kernel
theorem hd_R_see : hD y_R_see 1 := by decide +kernel
theorem hd_R_isObject : hD y_R_isObject 1 := by decide +kernel
theorem hd_R_entries : hD y_R_entries 0 := by decide +kernel
theorem hd_R_contexts : hD y_R_contexts 0 := by decide +kernel
theorem hd_R_number : hD y_R_number 2 := by decide +kernel
theorem hd_R_isRegister : hD y_R_isRegister 1 := by decide +kernel
theorem hd_R_isNumber : hD y_R_isNumber 1 := by decide +kernel
theorem hd_R_numeral : hD y_R_numeral 1 := by decide +kernel
theorem hd_R_move : hD y_R_move 2 := by decide +kernel
theorem hd_R_clear : hD y_R_clear 1 := by decide +kernel
theorem hd_R_kind : hD y_R_kind 1 := by decide +kernel
theorem hd_R_value : hD y_R_value 1 := by decide +kernel
theorem hd_R_method : hD y_R_method 4 := by decide +kernel
theorem hd_R_isMethod : hD y_R_isMethod 3 := by decide +kernel
theorem hd_R_make : hD y_R_make 4 := by decide +kernel
theorem hd_R_letGo : hD y_R_letGo 0 := by decide +kernel
theorem hd_R_give : hD y_R_give 4 := by decide +kernel
theorem hd_R_change : hD y_R_change 4 := by decide +kernel
theorem hd_R_objectIn : hD y_R_objectIn 3 := by decide +kernel
theorem hd_R_context : hD y_R_context 3 := by decide +kernel
theorem hd_R_isNilOrContext : hD y_R_isNilOrContext 1 := by decide +kernel
theorem hd_R_contextIn : hD y_R_contextIn 1 := by decide +kernel
theorem hd_R_settle : hD y_R_settle 6 := by decide +kernel
theorem hd_R_block : hD y_R_block 3 := by decide +kernel
theorem hd_R_homeOf : hD y_R_homeOf 1 := by decide +kernel
theorem hd_R_push : hD y_R_push 2 := by decide +kernel
theorem hd_R_pushes : hD y_R_pushes 2 := by decide +kernel
theorem hd_R_fill : hD y_R_fill 3 := by decide +kernel
theorem hd_R_pop : hD y_R_pop 2 := by decide +kernel
theorem hd_R_floorOf : hD y_R_floorOf 1 := by decide +kernel
theorem hd_R_popped : hD y_R_popped 1 := by decide +kernel
theorem hd_R_peek : hD y_R_peek 3 := by decide +kernel
theorem hd_R_drop : hD y_R_drop 2 := by decide +kernel
theorem hd_R_height : hD y_R_height 1 := by decide +kernel
theorem hd_R_room : hD y_R_room 1 := by decide +kernel
theorem hd_R_floor : hD y_R_floor 1 := by decide +kernel
theorem hd_R_count : hD y_R_count 1 := by decide +kernel
theorem hd_R_home : hD y_R_home 2 := by decide +kernel
theorem hd_R_sender : hD y_R_sender 2 := by decide +kernel
theorem hd_R_send : hD y_R_send 2 := by decide +kernel
theorem hd_R_kill : hD y_R_kill 2 := by decide +kernel
theorem hd_R_temporary : hD y_R_temporary 3 := by decide +kernel
theorem hd_R_placeOf : hD y_R_placeOf 2 := by decide +kernel
theorem hd_R_keep : hD y_R_keep 3 := by decide +kernel
end
section
set_option maxHeartbeats 4000000 in
set_option maxRecDepth 100000 in
theorem k_S_isWithin (l : Launch) (a b d : Int32) : Met l y_S_isWithin w_S_isWithin ({ frames := 0, cells := 0, slots := 0, locals := 0 }) (va_Pc [.int a, .int b, .int d] (fun _ => True)) (vp_Si (fun r => r = if b ≤ a ∧ a ≤ d then 1 else 0)) 0 0 (fun _ => False) := by
  refine Met.ofW (cc := b_S_isWithin) (maxL := 3) (ret := (some .boolean)) (by decide) rfl ?_
  intro p e s m args below meth c s₁ B hml hv
  obtain ⟨rfl, -⟩ := hv
  have hx := B.exec
  have hb := B.bytes
  have hr := B.returns
  have ht := fun w (hw : w ∈ gt) => atoms_spec (ws := w_S_isWithin) B.pre w (List.mem_cons_of_mem _ hw)
  have hown : s.vm.findClass "StackRoom" = some m.cls := findClass_of_methodNamed B.named
  have hlocks := B.notSynchronized
  have C0 : CallFix p m c b_S_isWithin 3 s [.int a, .int b, .int d].toArray gt "StackRoom" := ⟨hx, hb, hml, hown, ht⟩
  have hl := lv_entry ([.int a, .int b, .int d]) (n := 3) (Nat.le_of_ble_eq_true rfl)
  rw [lg_entry_eq]
  generalize (lg_sl ([.int a, .int b, .int d]) ++ List.replicate (3 - (lg_sl ([.int a, .int b, .int d])).length) Slot.unset).toArray = ls at hl ⊢
  have hl : lv_has ls 3 [(0, .int a), (1, .int b), (2, .int d)] := hl
  refine lv_iload_n hx hb d_S_isWithin_0 rfl (lv_at hl 0 rfl) ?_
  refine lv_iload_n hx hb d_S_isWithin_1 rfl (lv_at hl 1 rfl) ?_
  refine lv_icmp_lt (tgt := 14) hx hb d_S_isWithin_2 (by decide) (fun c2 => ?_) (fun c2 => ?_)
  · refine lv_iconst (v := 0) hx hb d_S_isWithin_14 (by decide) ?_
    exact W.zret (v := 0) hx hb hr rfl (fun t ht hW => ⟨_, rfl, by rw [if_neg (fun h => absurd h.1 (Int32.not_le.mpr c2))], ht⟩) (fun _ h => by cases h) d_S_isWithin_15
  · refine lv_iload_n hx hb d_S_isWithin_5 rfl (lv_at hl 0 rfl) ?_
    refine lv_iload_n hx hb d_S_isWithin_6 rfl (lv_at hl 2 rfl) ?_
    refine lv_icmp_gt (tgt := 14) hx hb d_S_isWithin_7 (by decide) (fun c7 => ?_) (fun c7 => ?_)
    · refine lv_iconst (v := 0) hx hb d_S_isWithin_14 (by decide) ?_
      exact W.zret (v := 0) hx hb hr rfl (fun t ht hW => ⟨_, rfl, by rw [if_neg (fun h => absurd h.2 (Int32.not_le.mpr c7))], ht⟩) (fun _ h => by cases h) d_S_isWithin_15
    · refine lv_iconst (v := 1) hx hb d_S_isWithin_10 (by decide) ?_
      refine lv_goto (tgt := 15) hx hb d_S_isWithin_11 (by decide) ?_
      exact W.zret (v := 1) hx hb hr rfl (fun t ht hW => ⟨_, rfl, by rw [if_pos ⟨Int32.not_lt.mp c2, Int32.not_lt.mp c7⟩], ht⟩) (fun _ h => by cases h) d_S_isWithin_15
set_option maxHeartbeats 4000000 in
set_option maxRecDepth 100000 in
theorem k_S_isRegister (l : Launch) (a : Int32) : Met l y_S_isRegister w_S_isRegister ({ frames := 1, cells := 0, slots := 0, locals := 22 }) (va_Pc [.int a] (fun _ => True)) (vp_Si (fun r => r = if 0 ≤ a ∧ a ≤ 15 then 1 else 0)) 0 0 (fun _ => False) := by
  refine Met.ofW (cc := b_S_isRegister) (maxL := 1) (ret := (some .boolean)) (by decide) rfl ?_
  intro p e s m args below meth c s₁ B hml hv
  obtain ⟨rfl, -⟩ := hv
  have hx := B.exec
  have hb := B.bytes
  have hr := B.returns
  have ht := fun w (hw : w ∈ gt) => atoms_spec (ws := w_S_isRegister) B.pre w (List.mem_cons_of_mem _ hw)
  have hown : s.vm.findClass "StackRoom" = some m.cls := findClass_of_methodNamed B.named
  have hlocks := B.notSynchronized
  have C0 : CallFix p m c b_S_isRegister 1 s [.int a].toArray gt "StackRoom" := ⟨hx, hb, hml, hown, ht⟩
  have hl := lv_entry ([.int a]) (n := 1) (Nat.le_of_ble_eq_true rfl)
  rw [lg_entry_eq]
  generalize (lg_sl ([.int a]) ++ List.replicate (1 - (lg_sl ([.int a])).length) Slot.unset).toArray = ls at hl ⊢
  have hl : lv_has ls 1 [(0, .int a)] := hl
  refine lv_iload_n hx hb d_S_isRegister_0 rfl (lv_at hl 0 rfl) ?_
  refine lv_iconst (v := 0) hx hb d_S_isRegister_1 (by decide) ?_
  refine lv_bipush (v := 15) hx hb d_S_isRegister_2 (by decide) ?_
  refine vp_callSi (va_Run.run (r_S (rest := []) C0 [.int a, .int 0, .int 15] (k_S_isWithin l a 0 15) ml_S_S_isWithin st_S_isWithin ini_S co_S_isWithin hd_S_isWithin v_preS hl.1 d_S_isRegister_4 rfl rfl (Nat.le_of_ble_eq_true rfl) ⟨rfl, rfl⟩ ⟨Nat.le_of_ble_eq_true rfl, Nat.le_of_ble_eq_true rfl⟩ ⟨Nat.le_of_ble_eq_true rfl, Nat.le_of_ble_eq_true rfl⟩)) (fun q eq => ?_)
  exact W.zret (v := q) hx hb hr (by rw [eq]; split <;> rfl) (fun t ht hW => ⟨_, rfl, eq, ht⟩) (fun _ h => by cases h) d_S_isRegister_7
set_option maxHeartbeats 4000000 in
set_option maxRecDepth 100000 in
theorem k_S_isNumber (l : Launch) (a : Int32) : Met l y_S_isNumber w_S_isNumber ({ frames := 1, cells := 0, slots := 0, locals := 22 }) (va_Pc [.int a] (fun _ => True)) (vp_Si (fun r => r = if -1073741824 ≤ a ∧ a ≤ 1073741823 then 1 else 0)) 0 0 (fun _ => False) := by
  refine Met.ofW (cc := b_S_isNumber) (maxL := 1) (ret := (some .boolean)) (by decide) rfl ?_
  intro p e s m args below meth c s₁ B hml hv
  obtain ⟨rfl, -⟩ := hv
  have hx := B.exec
  have hb := B.bytes
  have hr := B.returns
  have ht := fun w (hw : w ∈ gt) => atoms_spec (ws := w_S_isNumber) B.pre w (List.mem_cons_of_mem _ hw)
  have hown : s.vm.findClass "StackRoom" = some m.cls := findClass_of_methodNamed B.named
  have hlocks := B.notSynchronized
  have C0 : CallFix p m c b_S_isNumber 1 s [.int a].toArray gt "StackRoom" := ⟨hx, hb, hml, hown, ht⟩
  have hl := lv_entry ([.int a]) (n := 1) (Nat.le_of_ble_eq_true rfl)
  rw [lg_entry_eq]
  generalize (lg_sl ([.int a]) ++ List.replicate (1 - (lg_sl ([.int a])).length) Slot.unset).toArray = ls at hl ⊢
  have hl : lv_has ls 1 [(0, .int a)] := hl
  refine lv_iload_n hx hb d_S_isNumber_0 rfl (lv_at hl 0 rfl) ?_
  refine lv_ldc hx hb hown (ht _ cs_S_m1073741824) d_S_isNumber_1 ?_
  refine lv_ldc hx hb hown (ht _ cs_S_1073741823) d_S_isNumber_3 ?_
  refine vp_callSi (va_Run.run (r_S (rest := []) C0 [.int a, .int (-1073741824), .int 1073741823] (k_S_isWithin l a (-1073741824) 1073741823) ml_S_S_isWithin st_S_isWithin ini_S co_S_isWithin hd_S_isWithin v_preS hl.1 d_S_isNumber_5 rfl rfl (Nat.le_of_ble_eq_true rfl) ⟨rfl, rfl⟩ ⟨Nat.le_of_ble_eq_true rfl, Nat.le_of_ble_eq_true rfl⟩ ⟨Nat.le_of_ble_eq_true rfl, Nat.le_of_ble_eq_true rfl⟩)) (fun q eq => ?_)
  exact W.zret (v := q) hx hb hr (by rw [eq]; split <;> rfl) (fun t ht hW => ⟨_, rfl, eq, ht⟩) (fun _ h => by cases h) d_S_isNumber_8
set_option maxHeartbeats 4000000 in
set_option maxRecDepth 100000 in
theorem k_S_areNumbers (l : Launch) (v k : Int32) : Met l y_S_areNumbers w_S_areNumbers ({ frames := 2, cells := 0, slots := 0, locals := 42 }) (va_Pc [.int v, .int k] (fun _ => True)) (vp_Si (fun r => r = if k = 0 ∨ ((-1073741824 ≤ v ∧ v ≤ 1073741823) ∧ v ≤ 1073741823 - (k - 1)) then 1 else 0)) 0 0 (fun _ => False) := by
  refine Met.ofW (cc := b_S_areNumbers) (maxL := 2) (ret := (some .boolean)) (by decide) rfl ?_
  intro p e s m args below meth c s₁ B hml hv
  obtain ⟨rfl, -⟩ := hv
  have hx := B.exec
  have hb := B.bytes
  have hr := B.returns
  have ht := fun w (hw : w ∈ gt) => atoms_spec (ws := w_S_areNumbers) B.pre w (List.mem_cons_of_mem _ hw)
  have hown : s.vm.findClass "StackRoom" = some m.cls := findClass_of_methodNamed B.named
  have hlocks := B.notSynchronized
  have C0 : CallFix p m c b_S_areNumbers 2 s [.int v, .int k].toArray gt "StackRoom" := ⟨hx, hb, hml, hown, ht⟩
  have hl := lv_entry ([.int v, .int k]) (n := 2) (Nat.le_of_ble_eq_true rfl)
  rw [lg_entry_eq]
  generalize (lg_sl ([.int v, .int k]) ++ List.replicate (2 - (lg_sl ([.int v, .int k])).length) Slot.unset).toArray = ls at hl ⊢
  have hl : lv_has ls 2 [(0, .int v), (1, .int k)] := hl
  refine lv_iload_n hx hb d_S_areNumbers_0 rfl (lv_at hl 1 rfl) ?_
  refine lv_if_eq (tgt := 21) hx hb d_S_areNumbers_1 (by decide) (fun c1 => ?_) (fun c1 => ?_)
  · refine lv_iconst (v := 1) hx hb d_S_areNumbers_21 (by decide) ?_
    refine lv_goto (tgt := 26) hx hb d_S_areNumbers_22 (by decide) ?_
    exact W.zret (v := 1) hx hb hr rfl (fun t ht hW => ⟨_, rfl, by rw [if_pos (Or.inl c1)], ht⟩) (fun _ h => by cases h) d_S_areNumbers_26
  · refine lv_iload_n hx hb d_S_areNumbers_4 rfl (lv_at hl 0 rfl) ?_
    refine vp_callSi (va_Run.run (r_S (rest := []) C0 [.int v] (k_S_isNumber l v) ml_S_S_isNumber st_S_isNumber ini_S co_S_isNumber hd_S_isNumber v_preS hl.1 d_S_areNumbers_5 rfl rfl (Nat.le_of_ble_eq_true rfl) ⟨rfl, rfl⟩ ⟨Nat.le_of_ble_eq_true rfl, Nat.le_of_ble_eq_true rfl⟩ ⟨Nat.le_of_ble_eq_true rfl, Nat.le_of_ble_eq_true rfl⟩)) (fun q eq => ?_)
    refine lv_if_eq (tgt := 25) hx hb d_S_areNumbers_8 (by decide) (fun c8 => ?_) (fun c8 => ?_)
    · refine lv_iconst (v := 0) hx hb d_S_areNumbers_25 (by decide) ?_
      exact W.zret (v := 0) hx hb hr rfl (fun t ht hW => ⟨_, rfl, by rw [if_neg (fun h => h.elim c1 (fun h => absurd (eq.symm.trans c8) (by rw [if_pos h.1]; decide)))], ht⟩) (fun _ h => by cases h) d_S_areNumbers_26
    · refine lv_iload_n hx hb d_S_areNumbers_11 rfl (lv_at hl 0 rfl) ?_
      refine lv_ldc hx hb hown (ht _ cs_S_1073741823) d_S_areNumbers_12 ?_
      refine lv_iload_n hx hb d_S_areNumbers_14 rfl (lv_at hl 1 rfl) ?_
      refine lv_iconst (v := 1) hx hb d_S_areNumbers_15 (by decide) ?_
      refine lv_isub hx hb d_S_areNumbers_16 ?_
      refine lv_isub hx hb d_S_areNumbers_17 ?_
      refine lv_icmp_gt (tgt := 25) hx hb d_S_areNumbers_18 (by decide) (fun c18 => ?_) (fun c18 => ?_)
      · refine lv_iconst (v := 0) hx hb d_S_areNumbers_25 (by decide) ?_
        exact W.zret (v := 0) hx hb hr rfl (fun t ht hW => ⟨_, rfl, by rw [if_neg (fun h => h.elim c1 (fun h => absurd h.2 (Int32.not_le.mpr c18)))], ht⟩) (fun _ h => by cases h) d_S_areNumbers_26
      · refine lv_iconst (v := 1) hx hb d_S_areNumbers_21 (by decide) ?_
        refine lv_goto (tgt := 26) hx hb d_S_areNumbers_22 (by decide) ?_
        exact W.zret (v := 1) hx hb hr rfl (fun t ht hW => ⟨_, rfl, by rw [if_pos (Or.inr ⟨Decidable.byContradiction (fun h => c8 (eq.trans (if_neg h))), Int32.not_lt.mp c18⟩)], ht⟩) (fun _ h => by cases h) d_S_areNumbers_26
set_option maxHeartbeats 4000000 in
set_option maxRecDepth 100000 in
theorem k_S_areMethodNumbers (l : Launch) (a t d : Int32) : Met l y_S_areMethodNumbers w_S_areMethodNumbers ({ frames := 1, cells := 0, slots := 0, locals := 22 }) (va_Pc [.int a, .int t, .int d] (fun _ => True)) (vp_Si (fun r => r = if (0 ≤ a ∧ a ≤ 15) ∧ (a ≤ t ∧ t ≤ 31) ∧ (0 ≤ d ∧ d ≤ 63) then 1 else 0)) 0 0 (fun _ => False) := by
  refine Met.ofW (cc := b_S_areMethodNumbers) (maxL := 3) (ret := (some .boolean)) (by decide) rfl ?_
  intro p e s m args below meth c s₁ B hml hv
  obtain ⟨rfl, -⟩ := hv
  have hx := B.exec
  have hb := B.bytes
  have hr := B.returns
  have ht := fun w (hw : w ∈ gt) => atoms_spec (ws := w_S_areMethodNumbers) B.pre w (List.mem_cons_of_mem _ hw)
  have hown : s.vm.findClass "StackRoom" = some m.cls := findClass_of_methodNamed B.named
  have hlocks := B.notSynchronized
  have C0 : CallFix p m c b_S_areMethodNumbers 3 s [.int a, .int t, .int d].toArray gt "StackRoom" := ⟨hx, hb, hml, hown, ht⟩
  have hl := lv_entry ([.int a, .int t, .int d]) (n := 3) (Nat.le_of_ble_eq_true rfl)
  rw [lg_entry_eq]
  generalize (lg_sl ([.int a, .int t, .int d]) ++ List.replicate (3 - (lg_sl ([.int a, .int t, .int d])).length) Slot.unset).toArray = ls at hl ⊢
  have hl : lv_has ls 3 [(0, .int a), (1, .int t), (2, .int d)] := hl
  refine lv_iload_n hx hb d_S_areMethodNumbers_0 rfl (lv_at hl 0 rfl) ?_
  refine lv_iconst (v := 0) hx hb d_S_areMethodNumbers_1 (by decide) ?_
  refine lv_bipush (v := 15) hx hb d_S_areMethodNumbers_2 (by decide) ?_
  refine vp_callSi (va_Run.run (r_S (rest := []) C0 [.int a, .int 0, .int 15] (k_S_isWithin l a 0 15) ml_S_S_isWithin st_S_isWithin ini_S co_S_isWithin hd_S_isWithin v_preS hl.1 d_S_areMethodNumbers_4 rfl rfl (Nat.le_of_ble_eq_true rfl) ⟨rfl, rfl⟩ ⟨Nat.le_of_ble_eq_true rfl, Nat.le_of_ble_eq_true rfl⟩ ⟨Nat.le_of_ble_eq_true rfl, Nat.le_of_ble_eq_true rfl⟩)) (fun q1 e1 => ?_)
  refine lv_if_eq (tgt := 34) hx hb d_S_areMethodNumbers_7 (by decide) (fun h1 => ?_) (fun h1 => ?_)
  · refine lv_iconst (v := 0) hx hb d_S_areMethodNumbers_34 (by decide) ?_
    exact W.zret (v := 0) hx hb hr rfl (fun t ht hW => ⟨_, rfl, by rw [if_neg (fun h => absurd (e1.symm.trans h1) (by rw [if_pos h.1]; decide))], ht⟩) (fun _ h => by cases h) d_S_areMethodNumbers_35
  · refine lv_iload_n hx hb d_S_areMethodNumbers_10 rfl (lv_at hl 1 rfl) ?_
    refine lv_iload_n hx hb d_S_areMethodNumbers_11 rfl (lv_at hl 0 rfl) ?_
    refine lv_bipush (v := 31) hx hb d_S_areMethodNumbers_12 (by decide) ?_
    refine vp_callSi (va_Run.run (r_S (rest := []) C0 [.int t, .int a, .int 31] (k_S_isWithin l t a 31) ml_S_S_isWithin st_S_isWithin ini_S co_S_isWithin hd_S_isWithin v_preS hl.1 d_S_areMethodNumbers_14 rfl rfl (Nat.le_of_ble_eq_true rfl) ⟨rfl, rfl⟩ ⟨Nat.le_of_ble_eq_true rfl, Nat.le_of_ble_eq_true rfl⟩ ⟨Nat.le_of_ble_eq_true rfl, Nat.le_of_ble_eq_true rfl⟩)) (fun q2 e2 => ?_)
    refine lv_if_eq (tgt := 34) hx hb d_S_areMethodNumbers_17 (by decide) (fun h2 => ?_) (fun h2 => ?_)
    · refine lv_iconst (v := 0) hx hb d_S_areMethodNumbers_34 (by decide) ?_
      exact W.zret (v := 0) hx hb hr rfl (fun t ht hW => ⟨_, rfl, by rw [if_neg (fun h => absurd (e2.symm.trans h2) (by rw [if_pos h.2.1]; decide))], ht⟩) (fun _ h => by cases h) d_S_areMethodNumbers_35
    · refine lv_iload_n hx hb d_S_areMethodNumbers_20 rfl (lv_at hl 2 rfl) ?_
      refine lv_iconst (v := 0) hx hb d_S_areMethodNumbers_21 (by decide) ?_
      refine lv_bipush (v := 63) hx hb d_S_areMethodNumbers_22 (by decide) ?_
      refine vp_callSi (va_Run.run (r_S (rest := []) C0 [.int d, .int 0, .int 63] (k_S_isWithin l d 0 63) ml_S_S_isWithin st_S_isWithin ini_S co_S_isWithin hd_S_isWithin v_preS hl.1 d_S_areMethodNumbers_24 rfl rfl (Nat.le_of_ble_eq_true rfl) ⟨rfl, rfl⟩ ⟨Nat.le_of_ble_eq_true rfl, Nat.le_of_ble_eq_true rfl⟩ ⟨Nat.le_of_ble_eq_true rfl, Nat.le_of_ble_eq_true rfl⟩)) (fun q3 e3 => ?_)
      refine lv_if_eq (tgt := 34) hx hb d_S_areMethodNumbers_27 (by decide) (fun h3 => ?_) (fun h3 => ?_)
      · refine lv_iconst (v := 0) hx hb d_S_areMethodNumbers_34 (by decide) ?_
        exact W.zret (v := 0) hx hb hr rfl (fun t ht hW => ⟨_, rfl, by rw [if_neg (fun h => absurd (e3.symm.trans h3) (by rw [if_pos h.2.2]; decide))], ht⟩) (fun _ h => by cases h) d_S_areMethodNumbers_35
      · refine lv_iconst (v := 1) hx hb d_S_areMethodNumbers_30 (by decide) ?_
        refine lv_goto (tgt := 35) hx hb d_S_areMethodNumbers_31 (by decide) ?_
        exact W.zret (v := 1) hx hb hr rfl (fun t ht hW => ⟨_, rfl, by rw [if_pos ⟨Decidable.byContradiction (fun h => h1 (e1.trans (if_neg h))), Decidable.byContradiction (fun h => h2 (e2.trans (if_neg h))), Decidable.byContradiction (fun h => h3 (e3.trans (if_neg h)))⟩], ht⟩) (fun _ h => by cases h) d_S_areMethodNumbers_35
end
section
section K11
variable {w n rd md : Nat} {cV cT : ClassId} {σ : sS} {x ra rt : Nat} {ad fa : Nat → Nat} {ρ : Nat → Int32} {fr : Nat → Nat → Option Nat} {rr rf : Nat → Option Nat} {rc wl el cr : Int32} {G : gw_G} {D : va_G} {tys : List (ClassId × FieldType)} {sz : Nat}
theorem c_Rep.c2 (h : c_Rep w n rd md cV cT σ x ra rt ad fa ρ fr rr rf rc wl el cr G) {i : Nat} (hk : s_kd σ i = 2) : G (ad i) = some (.inr (kM, [.int (nI i), .int (ρ i), .int (nI (s_tt σ i)), .int (nI (s_dd σ i))])) := by
  rw [h.2.2.2.2.2.1 i (by omega)]
  unfold c_cell
  rw [if_pos hk]
theorem c_Rep.c3 (h : c_Rep w n rd md cV cT σ x ra rt ad fa ρ fr rr rf rc wl el cr G) {i : Nat} (hk : s_kd σ i = 3) : G (ad i) = some (.inr (kC, [.int (nI i), .int (ρ i), va_rf ((s_sn σ i).map ad), .int (s_de σ i), .int (nI (s_ht σ i)), .ref (fa i), .ref (ad (s_og σ i))])) := by
  rw [h.2.2.2.2.2.1 i (by omega)]
  unfold c_cell
  rw [if_neg (by omega), if_pos hk]
theorem c_Rep.c4 (h : c_Rep w n rd md cV cT σ x ra rt ad fa ρ fr rr rf rc wl el cr G) {i : Nat} (hk : s_kd σ i = 4) : G (ad i) = some (.inr (kB, [.int (nI i), .int (ρ i), va_rf ((s_sn σ i).map ad), .int (s_de σ i), .int (nI (s_ht σ i)), .ref (fa i), .ref (ad (s_og σ i)), .int (s_ct σ i)])) := by
  rw [h.2.2.2.2.2.1 i (by omega)]
  unfold c_cell
  rw [if_neg (by omega), if_neg (by omega)]
theorem c_Rep.ca (h : c_Rep w n rd md cV cT σ x ra rt ad fa ρ fr rr rf rc wl el cr G) {i : Nat} (hk : s_isC σ i) : G (fa i) = some (.inl (cV, s_rm σ i, qv (fr i))) := (h.2.2.2.2.2.2.1 i hk).1
theorem s_fr3 {σ : sS} {i : Nat} (hk : s_kd σ i = 3) : s_fr σ i = s_tt σ (s_og σ i) := by unfold s_fr; rw [if_neg (by omega)]
theorem s_fr4 {σ : sS} {i : Nat} (hk : s_kd σ i = 4) : s_fr σ i = 0 := by unfold s_fr; rw [if_pos hk]
theorem s_hm3 {σ : sS} {i : Nat} (hk : s_kd σ i = 3) : s_hm σ i = i := by unfold s_hm; rw [if_neg (by omega)]
theorem s_hm4 {σ : sS} {i : Nat} (hk : s_kd σ i = 4) : s_hm σ i = s_og σ i := by unfold s_hm; rw [if_pos hk]
theorem s_wd2 {σ : sS} {i : Nat} (hk : s_kd σ i = 2) : s_wd σ i = 10 := by unfold s_wd; rw [if_pos hk]
theorem s_wd3 {σ : sS} {i : Nat} (hk : s_kd σ i = 3) : s_wd σ i = 9 + s_rm σ i := by unfold s_wd; rw [if_neg (by omega), if_pos hk]
theorem s_wd4 {σ : sS} {i : Nat} (hk : s_kd σ i = 4) : s_wd σ i = 10 + s_rm σ i := by unfold s_wd; rw [if_neg (by omega), if_neg (by omega)]
theorem s_en2 {σ : sS} {i : Nat} (hk : s_kd σ i = 2) : s_en σ i = 2 := by unfold s_en; rw [if_pos hk]
theorem s_enC {σ : sS} {i : Nat} (hk : s_isC σ i) : s_en σ i = 1 := by unfold s_en; rw [if_neg (by rcases hk with e | e <;> omega)]
set_option maxHeartbeats 4000000 in
set_option maxRecDepth 100000 in
theorem k_W_kindCode (l : Launch) {a : Nat} {v : Int32} (ha : G a = some (.inr (kW, [.int v]))) : Met l y_W_kindCode w_W_kindCode ({ frames := 0, cells := 0, slots := 0, locals := 0 }) (g_pre D tys G sz [.ref a]) (vp_Si (fun rz => rz = 1)) 0 0 (fun _ => False) := by
  refine Met.ofW (cc := b_W_kindCode) (maxL := 1) (ret := (some .int)) (by decide) rfl ?_
  intro p e s m args below meth c s₁ B hml hv
  obtain ⟨rfl, hsz, hP, hK⟩ := hv
  have hx := B.exec
  have hb := B.bytes
  have hr := B.returns
  have ht := fun w (hw : w ∈ gt) => atoms_spec (ws := w_W_kindCode) B.pre w (List.mem_cons_of_mem _ hw)
  have hown : s.vm.findClass "StackRoom$Whole" = some m.cls := findClass_of_methodNamed B.named
  have hlocks := B.notSynchronized
  have C0 : CallFix p m c b_W_kindCode 1 s [.ref a].toArray gt "StackRoom$Whole" := ⟨hx, hb, hml, hown, ht⟩
  have hl := lv_entry ([.ref a]) (n := 1) (Nat.le_of_ble_eq_true rfl)
  rw [lg_entry_eq]
  generalize (lg_sl ([.ref a]) ++ List.replicate (1 - (lg_sl ([.ref a])).length) Slot.unset).toArray = ls at hl ⊢
  have hl : lv_has ls 1 [(0, .ref a)] := hl
  refine lv_iconst (v := 1) hx hb d_W_kindCode_0 (by decide) ?_
  exact W.iret (v := 1) hx hb hr (fun t ht hW => ⟨_, rfl, rfl, ht⟩) (fun _ h => by cases h) d_W_kindCode_1
set_option maxHeartbeats 4000000 in
set_option maxRecDepth 100000 in
theorem k_W_shown (l : Launch) {a : Nat} {v : Int32} (ha : G a = some (.inr (kW, [.int v]))) : Met l y_W_shown w_W_shown ({ frames := 0, cells := 0, slots := 0, locals := 0 }) (g_pre D tys G sz [.ref a]) (vp_Si (fun rz => rz = v)) 0 0 (fun _ => False) := by
  refine Met.ofW (cc := b_W_shown) (maxL := 1) (ret := (some .int)) (by decide) rfl ?_
  intro p e s m args below meth c s₁ B hml hv
  obtain ⟨rfl, hsz, hP, hK⟩ := hv
  have hx := B.exec
  have hb := B.bytes
  have hr := B.returns
  have ht := fun w (hw : w ∈ gt) => atoms_spec (ws := w_W_shown) B.pre w (List.mem_cons_of_mem _ hw)
  have hown : s.vm.findClass "StackRoom$Whole" = some m.cls := findClass_of_methodNamed B.named
  have hlocks := B.notSynchronized
  have C0 : CallFix p m c b_W_shown 1 s [.ref a].toArray gt "StackRoom$Whole" := ⟨hx, hb, hml, hown, ht⟩
  have hl := lv_entry ([.ref a]) (n := 1) (Nat.le_of_ble_eq_true rfl)
  rw [lg_entry_eq]
  generalize (lg_sl ([.ref a]) ++ List.replicate (1 - (lg_sl ([.ref a])).length) Slot.unset).toArray = ls at hl ⊢
  have hl : lv_has ls 1 [(0, .ref a)] := hl
  refine lv_aload_n hx hb d_W_shown_0 rfl (lv_at hl 0 rfl) ?_
  refine va_get (D := D) (ci := 1) (C := "StackRoom$Whole") (T := T_W) (N := 1) (v := .int v) hx hb ht in_W hown hK.1 (hP.one ha) 0 rfl rfl 0 (by decide) (ht _ fl_W_W_amount) (fun _ h9 => h9) rfl d_W_shown_1 ?_
  exact W.iret (v := v) hx hb hr (fun t ht hW => ⟨_, rfl, rfl, ht⟩) (fun _ h => by cases h) d_W_shown_4
set_option maxHeartbeats 4000000 in
set_option maxRecDepth 100000 in
theorem k_M_kindCode (l : Launch) (hR : c_Rep w n rd md cV cT σ x ra rt ad fa ρ fr rr rf rc wl el cr G) {i : Nat} (hi : s_kd σ i = 2) : Met l y_M_kindCode w_M_kindCode ({ frames := 0, cells := 0, slots := 0, locals := 0 }) (g_pre D tys G sz [.ref (ad i)]) (vp_Si (fun rz => rz = nI (s_kd σ i))) 0 0 (fun _ => False) := by
  refine Met.ofW (cc := b_M_kindCode) (maxL := 1) (ret := (some .int)) (by decide) rfl ?_
  intro p e s m args below meth c s₁ B hml hv
  obtain ⟨rfl, hsz, hP, hK⟩ := hv
  have hx := B.exec
  have hb := B.bytes
  have hr := B.returns
  have ht := fun w (hw : w ∈ gt) => atoms_spec (ws := w_M_kindCode) B.pre w (List.mem_cons_of_mem _ hw)
  have hown : s.vm.findClass "StackRoom$Method" = some m.cls := findClass_of_methodNamed B.named
  have hlocks := B.notSynchronized
  have C0 : CallFix p m c b_M_kindCode 1 s [.ref (ad i)].toArray gt "StackRoom$Method" := ⟨hx, hb, hml, hown, ht⟩
  have hl := lv_entry ([.ref (ad i)]) (n := 1) (Nat.le_of_ble_eq_true rfl)
  rw [lg_entry_eq]
  generalize (lg_sl ([.ref (ad i)]) ++ List.replicate (1 - (lg_sl ([.ref (ad i)])).length) Slot.unset).toArray = ls at hl ⊢
  have hl : lv_has ls 1 [(0, .ref (ad i))] := hl
  refine lv_iconst (v := 2) hx hb d_M_kindCode_0 (by decide) ?_
  exact W.iret (v := 2) hx hb hr (fun t ht hW => ⟨_, rfl, by rw [hi]; rfl, ht⟩) (fun _ h => by cases h) d_M_kindCode_1
set_option maxHeartbeats 4000000 in
set_option maxRecDepth 100000 in
theorem k_X_kindCode (l : Launch) (hR : c_Rep w n rd md cV cT σ x ra rt ad fa ρ fr rr rf rc wl el cr G) {i : Nat} (hi : s_kd σ i = 3) : Met l y_X_kindCode w_X_kindCode ({ frames := 0, cells := 0, slots := 0, locals := 0 }) (g_pre D tys G sz [.ref (ad i)]) (vp_Si (fun rz => rz = nI (s_kd σ i))) 0 0 (fun _ => False) := by
  refine Met.ofW (cc := b_X_kindCode) (maxL := 1) (ret := (some .int)) (by decide) rfl ?_
  intro p e s m args below meth c s₁ B hml hv
  obtain ⟨rfl, hsz, hP, hK⟩ := hv
  have hx := B.exec
  have hb := B.bytes
  have hr := B.returns
  have ht := fun w (hw : w ∈ gt) => atoms_spec (ws := w_X_kindCode) B.pre w (List.mem_cons_of_mem _ hw)
  have hown : s.vm.findClass "StackRoom$MethodContext" = some m.cls := findClass_of_methodNamed B.named
  have hlocks := B.notSynchronized
  have C0 : CallFix p m c b_X_kindCode 1 s [.ref (ad i)].toArray gt "StackRoom$MethodContext" := ⟨hx, hb, hml, hown, ht⟩
  have hl := lv_entry ([.ref (ad i)]) (n := 1) (Nat.le_of_ble_eq_true rfl)
  rw [lg_entry_eq]
  generalize (lg_sl ([.ref (ad i)]) ++ List.replicate (1 - (lg_sl ([.ref (ad i)])).length) Slot.unset).toArray = ls at hl ⊢
  have hl : lv_has ls 1 [(0, .ref (ad i))] := hl
  refine lv_iconst (v := 3) hx hb d_X_kindCode_0 (by decide) ?_
  exact W.iret (v := 3) hx hb hr (fun t ht hW => ⟨_, rfl, by rw [hi]; rfl, ht⟩) (fun _ h => by cases h) d_X_kindCode_1
set_option maxHeartbeats 4000000 in
set_option maxRecDepth 100000 in
theorem k_B_kindCode (l : Launch) (hR : c_Rep w n rd md cV cT σ x ra rt ad fa ρ fr rr rf rc wl el cr G) {i : Nat} (hi : s_kd σ i = 4) : Met l y_B_kindCode w_B_kindCode ({ frames := 0, cells := 0, slots := 0, locals := 0 }) (g_pre D tys G sz [.ref (ad i)]) (vp_Si (fun rz => rz = nI (s_kd σ i))) 0 0 (fun _ => False) := by
  refine Met.ofW (cc := b_B_kindCode) (maxL := 1) (ret := (some .int)) (by decide) rfl ?_
  intro p e s m args below meth c s₁ B hml hv
  obtain ⟨rfl, hsz, hP, hK⟩ := hv
  have hx := B.exec
  have hb := B.bytes
  have hr := B.returns
  have ht := fun w (hw : w ∈ gt) => atoms_spec (ws := w_B_kindCode) B.pre w (List.mem_cons_of_mem _ hw)
  have hown : s.vm.findClass "StackRoom$BlockContext" = some m.cls := findClass_of_methodNamed B.named
  have hlocks := B.notSynchronized
  have C0 : CallFix p m c b_B_kindCode 1 s [.ref (ad i)].toArray gt "StackRoom$BlockContext" := ⟨hx, hb, hml, hown, ht⟩
  have hl := lv_entry ([.ref (ad i)]) (n := 1) (Nat.le_of_ble_eq_true rfl)
  rw [lg_entry_eq]
  generalize (lg_sl ([.ref (ad i)]) ++ List.replicate (1 - (lg_sl ([.ref (ad i)])).length) Slot.unset).toArray = ls at hl ⊢
  have hl : lv_has ls 1 [(0, .ref (ad i))] := hl
  refine lv_iconst (v := 4) hx hb d_B_kindCode_0 (by decide) ?_
  exact W.iret (v := 4) hx hb hr (fun t ht hW => ⟨_, rfl, by rw [hi]; rfl, ht⟩) (fun _ h => by cases h) d_B_kindCode_1
set_option maxHeartbeats 4000000 in
set_option maxRecDepth 100000 in
theorem k_M_wordsTaken (l : Launch) (hR : c_Rep w n rd md cV cT σ x ra rt ad fa ρ fr rr rf rc wl el cr G) {i : Nat} (hi : s_kd σ i = 2) : Met l y_M_wordsTaken w_M_wordsTaken ({ frames := 0, cells := 0, slots := 0, locals := 0 }) (g_pre D tys G sz [.ref (ad i)]) (vp_Si (fun rz => rz = nI (s_wd σ i))) 0 0 (fun _ => False) := by
  refine Met.ofW (cc := b_M_wordsTaken) (maxL := 1) (ret := (some .int)) (by decide) rfl ?_
  intro p e s m args below meth c s₁ B hml hv
  obtain ⟨rfl, hsz, hP, hK⟩ := hv
  have hx := B.exec
  have hb := B.bytes
  have hr := B.returns
  have ht := fun w (hw : w ∈ gt) => atoms_spec (ws := w_M_wordsTaken) B.pre w (List.mem_cons_of_mem _ hw)
  have hown : s.vm.findClass "StackRoom$Method" = some m.cls := findClass_of_methodNamed B.named
  have hlocks := B.notSynchronized
  have C0 : CallFix p m c b_M_wordsTaken 1 s [.ref (ad i)].toArray gt "StackRoom$Method" := ⟨hx, hb, hml, hown, ht⟩
  have hl := lv_entry ([.ref (ad i)]) (n := 1) (Nat.le_of_ble_eq_true rfl)
  rw [lg_entry_eq]
  generalize (lg_sl ([.ref (ad i)]) ++ List.replicate (1 - (lg_sl ([.ref (ad i)])).length) Slot.unset).toArray = ls at hl ⊢
  have hl : lv_has ls 1 [(0, .ref (ad i))] := hl
  refine lv_bipush (v := 10) hx hb d_M_wordsTaken_0 (by decide) ?_
  exact W.iret (v := 10) hx hb hr (fun t ht hW => ⟨_, rfl, by rw [s_wd2 hi]; rfl, ht⟩) (fun _ h => by cases h) d_M_wordsTaken_2
set_option maxHeartbeats 4000000 in
set_option maxRecDepth 100000 in
theorem k_M_entriesTaken (l : Launch) (hR : c_Rep w n rd md cV cT σ x ra rt ad fa ρ fr rr rf rc wl el cr G) {i : Nat} (hi : s_kd σ i = 2) : Met l y_M_entriesTaken w_M_entriesTaken ({ frames := 0, cells := 0, slots := 0, locals := 0 }) (g_pre D tys G sz [.ref (ad i)]) (vp_Si (fun rz => rz = nI (s_en σ i))) 0 0 (fun _ => False) := by
  refine Met.ofW (cc := b_M_entriesTaken) (maxL := 1) (ret := (some .int)) (by decide) rfl ?_
  intro p e s m args below meth c s₁ B hml hv
  obtain ⟨rfl, hsz, hP, hK⟩ := hv
  have hx := B.exec
  have hb := B.bytes
  have hr := B.returns
  have ht := fun w (hw : w ∈ gt) => atoms_spec (ws := w_M_entriesTaken) B.pre w (List.mem_cons_of_mem _ hw)
  have hown : s.vm.findClass "StackRoom$Method" = some m.cls := findClass_of_methodNamed B.named
  have hlocks := B.notSynchronized
  have C0 : CallFix p m c b_M_entriesTaken 1 s [.ref (ad i)].toArray gt "StackRoom$Method" := ⟨hx, hb, hml, hown, ht⟩
  have hl := lv_entry ([.ref (ad i)]) (n := 1) (Nat.le_of_ble_eq_true rfl)
  rw [lg_entry_eq]
  generalize (lg_sl ([.ref (ad i)]) ++ List.replicate (1 - (lg_sl ([.ref (ad i)])).length) Slot.unset).toArray = ls at hl ⊢
  have hl : lv_has ls 1 [(0, .ref (ad i))] := hl
  refine lv_iconst (v := 2) hx hb d_M_entriesTaken_0 (by decide) ?_
  exact W.iret (v := 2) hx hb hr (fun t ht hW => ⟨_, rfl, by rw [s_en2 hi]; rfl, ht⟩) (fun _ h => by cases h) d_M_entriesTaken_1
set_option maxHeartbeats 4000000 in
set_option maxRecDepth 100000 in
theorem k_X_headFields (l : Launch) (hR : c_Rep w n rd md cV cT σ x ra rt ad fa ρ fr rr rf rc wl el cr G) {i : Nat} (hi : s_kd σ i = 3) : Met l y_X_headFields w_X_headFields ({ frames := 0, cells := 0, slots := 0, locals := 0 }) (g_pre D tys G sz [.ref (ad i)]) (vp_Si (fun rz => rz = 5)) 0 0 (fun _ => False) := by
  refine Met.ofW (cc := b_X_headFields) (maxL := 1) (ret := (some .int)) (by decide) rfl ?_
  intro p e s m args below meth c s₁ B hml hv
  obtain ⟨rfl, hsz, hP, hK⟩ := hv
  have hx := B.exec
  have hb := B.bytes
  have hr := B.returns
  have ht := fun w (hw : w ∈ gt) => atoms_spec (ws := w_X_headFields) B.pre w (List.mem_cons_of_mem _ hw)
  have hown : s.vm.findClass "StackRoom$MethodContext" = some m.cls := findClass_of_methodNamed B.named
  have hlocks := B.notSynchronized
  have C0 : CallFix p m c b_X_headFields 1 s [.ref (ad i)].toArray gt "StackRoom$MethodContext" := ⟨hx, hb, hml, hown, ht⟩
  have hl := lv_entry ([.ref (ad i)]) (n := 1) (Nat.le_of_ble_eq_true rfl)
  rw [lg_entry_eq]
  generalize (lg_sl ([.ref (ad i)]) ++ List.replicate (1 - (lg_sl ([.ref (ad i)])).length) Slot.unset).toArray = ls at hl ⊢
  have hl : lv_has ls 1 [(0, .ref (ad i))] := hl
  refine lv_iconst (v := 5) hx hb d_X_headFields_0 (by decide) ?_
  exact W.iret (v := 5) hx hb hr (fun t ht hW => ⟨_, rfl, rfl, ht⟩) (fun _ h => by cases h) d_X_headFields_1
set_option maxHeartbeats 4000000 in
set_option maxRecDepth 100000 in
theorem k_B_headFields (l : Launch) (hR : c_Rep w n rd md cV cT σ x ra rt ad fa ρ fr rr rf rc wl el cr G) {i : Nat} (hi : s_kd σ i = 4) : Met l y_B_headFields w_B_headFields ({ frames := 0, cells := 0, slots := 0, locals := 0 }) (g_pre D tys G sz [.ref (ad i)]) (vp_Si (fun rz => rz = 6)) 0 0 (fun _ => False) := by
  refine Met.ofW (cc := b_B_headFields) (maxL := 1) (ret := (some .int)) (by decide) rfl ?_
  intro p e s m args below meth c s₁ B hml hv
  obtain ⟨rfl, hsz, hP, hK⟩ := hv
  have hx := B.exec
  have hb := B.bytes
  have hr := B.returns
  have ht := fun w (hw : w ∈ gt) => atoms_spec (ws := w_B_headFields) B.pre w (List.mem_cons_of_mem _ hw)
  have hown : s.vm.findClass "StackRoom$BlockContext" = some m.cls := findClass_of_methodNamed B.named
  have hlocks := B.notSynchronized
  have C0 : CallFix p m c b_B_headFields 1 s [.ref (ad i)].toArray gt "StackRoom$BlockContext" := ⟨hx, hb, hml, hown, ht⟩
  have hl := lv_entry ([.ref (ad i)]) (n := 1) (Nat.le_of_ble_eq_true rfl)
  rw [lg_entry_eq]
  generalize (lg_sl ([.ref (ad i)]) ++ List.replicate (1 - (lg_sl ([.ref (ad i)])).length) Slot.unset).toArray = ls at hl ⊢
  have hl : lv_has ls 1 [(0, .ref (ad i))] := hl
  refine lv_bipush (v := 6) hx hb d_B_headFields_0 (by decide) ?_
  exact W.iret (v := 6) hx hb hr (fun t ht hW => ⟨_, rfl, rfl, ht⟩) (fun _ h => by cases h) d_B_headFields_2
set_option maxHeartbeats 4000000 in
set_option maxRecDepth 100000 in
theorem k_B_floorNow (l : Launch) (hR : c_Rep w n rd md cV cT σ x ra rt ad fa ρ fr rr rf rc wl el cr G) {i : Nat} (hi : s_kd σ i = 4) : Met l y_B_floorNow w_B_floorNow ({ frames := 0, cells := 0, slots := 0, locals := 0 }) (g_pre D tys G sz [.ref (ad i)]) (vp_Si (fun rz => rz = nI (s_fr σ i))) 0 0 (fun _ => False) := by
  refine Met.ofW (cc := b_B_floorNow) (maxL := 1) (ret := (some .int)) (by decide) rfl ?_
  intro p e s m args below meth c s₁ B hml hv
  obtain ⟨rfl, hsz, hP, hK⟩ := hv
  have hx := B.exec
  have hb := B.bytes
  have hr := B.returns
  have ht := fun w (hw : w ∈ gt) => atoms_spec (ws := w_B_floorNow) B.pre w (List.mem_cons_of_mem _ hw)
  have hown : s.vm.findClass "StackRoom$BlockContext" = some m.cls := findClass_of_methodNamed B.named
  have hlocks := B.notSynchronized
  have C0 : CallFix p m c b_B_floorNow 1 s [.ref (ad i)].toArray gt "StackRoom$BlockContext" := ⟨hx, hb, hml, hown, ht⟩
  have hl := lv_entry ([.ref (ad i)]) (n := 1) (Nat.le_of_ble_eq_true rfl)
  rw [lg_entry_eq]
  generalize (lg_sl ([.ref (ad i)]) ++ List.replicate (1 - (lg_sl ([.ref (ad i)])).length) Slot.unset).toArray = ls at hl ⊢
  have hl : lv_has ls 1 [(0, .ref (ad i))] := hl
  refine lv_iconst (v := 0) hx hb d_B_floorNow_0 (by decide) ?_
  exact W.iret (v := 0) hx hb hr (fun t ht hW => ⟨_, rfl, by rw [s_fr4 hi]; rfl, ht⟩) (fun _ h => by cases h) d_B_floorNow_1
set_option maxHeartbeats 4000000 in
set_option maxRecDepth 100000 in
theorem k_X_floorNow (l : Launch) (hR : c_Rep w n rd md cV cT σ x ra rt ad fa ρ fr rr rf rc wl el cr G) {i : Nat} (hi : s_kd σ i = 3) (hI : s_I σ) : Met l y_X_floorNow w_X_floorNow ({ frames := 0, cells := 0, slots := 0, locals := 0 }) (g_pre D tys G sz [.ref (ad i)]) (vp_Si (fun rz => rz = nI (s_fr σ i))) 0 0 (fun _ => False) := by
  refine Met.ofW (cc := b_X_floorNow) (maxL := 1) (ret := (some .int)) (by decide) rfl ?_
  intro p e s m args below meth c s₁ B hml hv
  obtain ⟨rfl, hsz, hP, hK⟩ := hv
  have hx := B.exec
  have hb := B.bytes
  have hr := B.returns
  have ht := fun w (hw : w ∈ gt) => atoms_spec (ws := w_X_floorNow) B.pre w (List.mem_cons_of_mem _ hw)
  have hown : s.vm.findClass "StackRoom$MethodContext" = some m.cls := findClass_of_methodNamed B.named
  have hlocks := B.notSynchronized
  have C0 : CallFix p m c b_X_floorNow 1 s [.ref (ad i)].toArray gt "StackRoom$MethodContext" := ⟨hx, hb, hml, hown, ht⟩
  have hl := lv_entry ([.ref (ad i)]) (n := 1) (Nat.le_of_ble_eq_true rfl)
  rw [lg_entry_eq]
  generalize (lg_sl ([.ref (ad i)]) ++ List.replicate (1 - (lg_sl ([.ref (ad i)])).length) Slot.unset).toArray = ls at hl ⊢
  have hl : lv_has ls 1 [(0, .ref (ad i))] := hl
  refine lv_aload_n hx hb d_X_floorNow_0 rfl (lv_at hl 0 rfl) ?_
  refine va_get (D := D) (ci := 3) (C := "StackRoom$MethodContext") (T := T_X) (N := 7) (v := .ref (ad (s_og σ i))) hx hb ht in_X hown hK.1 (hP.one (hR.c3 hi)) 0 rfl rfl 6 (by decide) (ht _ fl_X_X_method) (fun _ h9 => h9) rfl d_X_floorNow_1 ?_
  refine va_getN (D := D) (ci := 2) (C := "StackRoom$Method") (T := T_M) (N := 4) (v := .int (nI (s_tt σ (s_og σ i)))) hx hb ht in_M hown hK.1 (hP.one (hR.c2 (hI.2.2.2.2.1 i hi))) 0 rfl rfl 2 (by decide) (va_Nw.use rfl (hK.2.1 _ fn_X_M_temporaries)) (fun _ h9 => h9) rfl d_X_floorNow_4 ?_
  exact W.iret (v := (nI (s_tt σ (s_og σ i)))) hx hb hr (fun t ht hW => ⟨_, rfl, by rw [s_fr3 hi], ht⟩) (fun _ h => by cases h) d_X_floorNow_7
set_option maxHeartbeats 4000000 in
set_option maxRecDepth 100000 in
theorem k_X_homeContext (l : Launch) (hR : c_Rep w n rd md cV cT σ x ra rt ad fa ρ fr rr rf rc wl el cr G) {i : Nat} (hi : s_kd σ i = 3) : Met l y_X_homeContext w_X_homeContext ({ frames := 0, cells := 0, slots := 0, locals := 0 }) (g_pre D tys G sz [.ref (ad i)]) (va_Sq (fun rz => rz = some (ad (s_hm σ i)))) 0 0 (fun _ => False) := by
  refine Met.ofW (cc := b_X_homeContext) (maxL := 1) (ret := (some (.object "StackRoom$MethodContext"))) (by decide) rfl ?_
  intro p e s m args below meth c s₁ B hml hv
  obtain ⟨rfl, hsz, hP, hK⟩ := hv
  have hx := B.exec
  have hb := B.bytes
  have hr := B.returns
  have ht := fun w (hw : w ∈ gt) => atoms_spec (ws := w_X_homeContext) B.pre w (List.mem_cons_of_mem _ hw)
  have hown : s.vm.findClass "StackRoom$MethodContext" = some m.cls := findClass_of_methodNamed B.named
  have hlocks := B.notSynchronized
  have C0 : CallFix p m c b_X_homeContext 1 s [.ref (ad i)].toArray gt "StackRoom$MethodContext" := ⟨hx, hb, hml, hown, ht⟩
  have hl := lv_entry ([.ref (ad i)]) (n := 1) (Nat.le_of_ble_eq_true rfl)
  rw [lg_entry_eq]
  generalize (lg_sl ([.ref (ad i)]) ++ List.replicate (1 - (lg_sl ([.ref (ad i)])).length) Slot.unset).toArray = ls at hl ⊢
  have hl : lv_has ls 1 [(0, .ref (ad i))] := hl
  refine lv_aload_n hx hb d_X_homeContext_0 rfl (lv_at hl 0 rfl) ?_
  exact W.aret (v := .ref (ad i)) (rt := .object "StackRoom$MethodContext") hx hb hr (Or.inl ⟨_, rfl⟩) (Or.inr ⟨_, rfl⟩) (fun t ht hW => ⟨some ((ad i)), rfl, by rw [s_hm3 hi], ht⟩) (fun _ h => by cases h) d_X_homeContext_1
set_option maxHeartbeats 4000000 in
set_option maxRecDepth 100000 in
theorem k_B_homeContext (l : Launch) (hR : c_Rep w n rd md cV cT σ x ra rt ad fa ρ fr rr rf rc wl el cr G) {i : Nat} (hi : s_kd σ i = 4) : Met l y_B_homeContext w_B_homeContext ({ frames := 0, cells := 0, slots := 0, locals := 0 }) (g_pre D tys G sz [.ref (ad i)]) (va_Sq (fun rz => rz = some (ad (s_hm σ i)))) 0 0 (fun _ => False) := by
  refine Met.ofW (cc := b_B_homeContext) (maxL := 1) (ret := (some (.object "StackRoom$MethodContext"))) (by decide) rfl ?_
  intro p e s m args below meth c s₁ B hml hv
  obtain ⟨rfl, hsz, hP, hK⟩ := hv
  have hx := B.exec
  have hb := B.bytes
  have hr := B.returns
  have ht := fun w (hw : w ∈ gt) => atoms_spec (ws := w_B_homeContext) B.pre w (List.mem_cons_of_mem _ hw)
  have hown : s.vm.findClass "StackRoom$BlockContext" = some m.cls := findClass_of_methodNamed B.named
  have hlocks := B.notSynchronized
  have C0 : CallFix p m c b_B_homeContext 1 s [.ref (ad i)].toArray gt "StackRoom$BlockContext" := ⟨hx, hb, hml, hown, ht⟩
  have hl := lv_entry ([.ref (ad i)]) (n := 1) (Nat.le_of_ble_eq_true rfl)
  rw [lg_entry_eq]
  generalize (lg_sl ([.ref (ad i)]) ++ List.replicate (1 - (lg_sl ([.ref (ad i)])).length) Slot.unset).toArray = ls at hl ⊢
  have hl : lv_has ls 1 [(0, .ref (ad i))] := hl
  refine lv_aload_n hx hb d_B_homeContext_0 rfl (lv_at hl 0 rfl) ?_
  refine va_get (D := D) (ci := 4) (C := "StackRoom$BlockContext") (T := T_B) (N := 8) (v := .ref (ad (s_og σ i))) hx hb ht in_B hown hK.1 (hP.one (hR.c4 hi)) 0 rfl rfl 6 (by decide) (ht _ fl_B_B_home) (fun _ h9 => h9) rfl d_B_homeContext_1 ?_
  exact W.aret (v := .ref (ad (s_og σ i))) (rt := .object "StackRoom$MethodContext") hx hb hr (Or.inl ⟨_, rfl⟩) (Or.inr ⟨_, rfl⟩) (fun t ht hW => ⟨some ((ad (s_og σ i))), rfl, by rw [s_hm4 hi], ht⟩) (fun _ h => by cases h) d_B_homeContext_4
set_option maxHeartbeats 4000000 in
set_option maxRecDepth 100000 in
theorem k_B_origin (l : Launch) (hR : c_Rep w n rd md cV cT σ x ra rt ad fa ρ fr rr rf rc wl el cr G) {i : Nat} (hi : s_kd σ i = 4) : Met l y_B_origin w_B_origin ({ frames := 0, cells := 0, slots := 0, locals := 0 }) (g_pre D tys G sz [.ref (ad i)]) (va_Sq (fun rz => rz = some (ad (s_og σ i)))) 0 0 (fun _ => False) := by
  refine Met.ofW (cc := b_B_origin) (maxL := 1) (ret := (some (.object "StackRoom$Thing"))) (by decide) rfl ?_
  intro p e s m args below meth c s₁ B hml hv
  obtain ⟨rfl, hsz, hP, hK⟩ := hv
  have hx := B.exec
  have hb := B.bytes
  have hr := B.returns
  have ht := fun w (hw : w ∈ gt) => atoms_spec (ws := w_B_origin) B.pre w (List.mem_cons_of_mem _ hw)
  have hown : s.vm.findClass "StackRoom$BlockContext" = some m.cls := findClass_of_methodNamed B.named
  have hlocks := B.notSynchronized
  have C0 : CallFix p m c b_B_origin 1 s [.ref (ad i)].toArray gt "StackRoom$BlockContext" := ⟨hx, hb, hml, hown, ht⟩
  have hl := lv_entry ([.ref (ad i)]) (n := 1) (Nat.le_of_ble_eq_true rfl)
  rw [lg_entry_eq]
  generalize (lg_sl ([.ref (ad i)]) ++ List.replicate (1 - (lg_sl ([.ref (ad i)])).length) Slot.unset).toArray = ls at hl ⊢
  have hl : lv_has ls 1 [(0, .ref (ad i))] := hl
  refine lv_aload_n hx hb d_B_origin_0 rfl (lv_at hl 0 rfl) ?_
  refine va_get (D := D) (ci := 4) (C := "StackRoom$BlockContext") (T := T_B) (N := 8) (v := .ref (ad (s_og σ i))) hx hb ht in_B hown hK.1 (hP.one (hR.c4 hi)) 0 rfl rfl 6 (by decide) (ht _ fl_B_B_home) (fun _ h9 => h9) rfl d_B_origin_1 ?_
  exact W.aret (v := .ref (ad (s_og σ i))) (rt := .object "StackRoom$Thing") hx hb hr (Or.inl ⟨_, rfl⟩) (Or.inr ⟨_, rfl⟩) (fun t ht hW => ⟨some ((ad (s_og σ i))), rfl, rfl, ht⟩) (fun _ h => by cases h) d_B_origin_4
set_option maxHeartbeats 4000000 in
set_option maxRecDepth 100000 in
theorem k_X_origin (l : Launch) (hR : c_Rep w n rd md cV cT σ x ra rt ad fa ρ fr rr rf rc wl el cr G) {i : Nat} (hi : s_kd σ i = 3) : Met l y_X_origin w_X_origin ({ frames := 0, cells := 0, slots := 0, locals := 0 }) (g_pre D tys G sz [.ref (ad i)]) (va_Sq (fun rz => rz = some (ad (s_og σ i)))) 0 0 (fun _ => False) := by
  refine Met.ofW (cc := b_X_origin) (maxL := 1) (ret := (some (.object "StackRoom$Thing"))) (by decide) rfl ?_
  intro p e s m args below meth c s₁ B hml hv
  obtain ⟨rfl, hsz, hP, hK⟩ := hv
  have hx := B.exec
  have hb := B.bytes
  have hr := B.returns
  have ht := fun w (hw : w ∈ gt) => atoms_spec (ws := w_X_origin) B.pre w (List.mem_cons_of_mem _ hw)
  have hown : s.vm.findClass "StackRoom$MethodContext" = some m.cls := findClass_of_methodNamed B.named
  have hlocks := B.notSynchronized
  have C0 : CallFix p m c b_X_origin 1 s [.ref (ad i)].toArray gt "StackRoom$MethodContext" := ⟨hx, hb, hml, hown, ht⟩
  have hl := lv_entry ([.ref (ad i)]) (n := 1) (Nat.le_of_ble_eq_true rfl)
  rw [lg_entry_eq]
  generalize (lg_sl ([.ref (ad i)]) ++ List.replicate (1 - (lg_sl ([.ref (ad i)])).length) Slot.unset).toArray = ls at hl ⊢
  have hl : lv_has ls 1 [(0, .ref (ad i))] := hl
  refine lv_aload_n hx hb d_X_origin_0 rfl (lv_at hl 0 rfl) ?_
  refine va_get (D := D) (ci := 3) (C := "StackRoom$MethodContext") (T := T_X) (N := 7) (v := .ref (ad (s_og σ i))) hx hb ht in_X hown hK.1 (hP.one (hR.c3 hi)) 0 rfl rfl 6 (by decide) (ht _ fl_X_X_method) (fun _ h9 => h9) rfl d_X_origin_1 ?_
  exact W.aret (v := .ref (ad (s_og σ i))) (rt := .object "StackRoom$Thing") hx hb hr (Or.inl ⟨_, rfl⟩) (Or.inr ⟨_, rfl⟩) (fun t ht hW => ⟨some ((ad (s_og σ i))), rfl, rfl, ht⟩) (fun _ h => by cases h) d_X_origin_4
set_option maxHeartbeats 4000000 in
set_option maxRecDepth 100000 in
theorem k_T_shown (l : Launch) (hR : c_Rep w n rd md cV cT σ x ra rt ad fa ρ fr rr rf rc wl el cr G) {i : Nat} (hi : s_kd σ i = 2 ∨ s_kd σ i = 3 ∨ s_kd σ i = 4) : Met l y_T_shown w_T_shown ({ frames := 0, cells := 0, slots := 0, locals := 0 }) (g_pre D tys G sz [.ref (ad i)]) (vp_Si (fun rz => rz = nI i)) 0 0 (fun _ => False) := by
  refine Met.ofW (cc := b_T_shown) (maxL := 1) (ret := (some .int)) (by decide) rfl ?_
  intro p e s m args below meth c s₁ B hml hv
  obtain ⟨rfl, hsz, hP, hK⟩ := hv
  have hx := B.exec
  have hb := B.bytes
  have hr := B.returns
  have ht := fun w (hw : w ∈ gt) => atoms_spec (ws := w_T_shown) B.pre w (List.mem_cons_of_mem _ hw)
  have hown : s.vm.findClass "StackRoom$Thing" = some m.cls := findClass_of_methodNamed B.named
  have hlocks := B.notSynchronized
  have C0 : CallFix p m c b_T_shown 1 s [.ref (ad i)].toArray gt "StackRoom$Thing" := ⟨hx, hb, hml, hown, ht⟩
  have hl := lv_entry ([.ref (ad i)]) (n := 1) (Nat.le_of_ble_eq_true rfl)
  rw [lg_entry_eq]
  generalize (lg_sl ([.ref (ad i)]) ++ List.replicate (1 - (lg_sl ([.ref (ad i)])).length) Slot.unset).toArray = ls at hl ⊢
  have hl : lv_has ls 1 [(0, .ref (ad i))] := hl
  rcases hi with hi | hi | hi
  · refine lv_aload_n hx hb d_T_shown_0 rfl (lv_at hl 0 rfl) ?_
    refine va_get (D := D) (ci := 2) (C := "StackRoom$Method") (T := T_M) (N := 4) (v := .int (nI i)) hx hb ht in_M hown hK.1 (hP.one (hR.c2 hi)) 0 rfl rfl 0 (by decide) (ht _ fl_T_T_identity) (fun _ h9 => h9) rfl d_T_shown_1 ?_
    exact W.iret (v := (nI i)) hx hb hr (fun t ht hW => ⟨_, rfl, rfl, ht⟩) (fun _ h => by cases h) d_T_shown_4
  · refine lv_aload_n hx hb d_T_shown_0 rfl (lv_at hl 0 rfl) ?_
    refine va_get (D := D) (ci := 3) (C := "StackRoom$MethodContext") (T := T_X) (N := 7) (v := .int (nI i)) hx hb ht in_X hown hK.1 (hP.one (hR.c3 hi)) 0 rfl rfl 0 (by decide) (ht _ fl_T_T_identity) (fun _ h9 => h9) rfl d_T_shown_1 ?_
    exact W.iret (v := (nI i)) hx hb hr (fun t ht hW => ⟨_, rfl, rfl, ht⟩) (fun _ h => by cases h) d_T_shown_4
  · refine lv_aload_n hx hb d_T_shown_0 rfl (lv_at hl 0 rfl) ?_
    refine va_get (D := D) (ci := 4) (C := "StackRoom$BlockContext") (T := T_B) (N := 8) (v := .int (nI i)) hx hb ht in_B hown hK.1 (hP.one (hR.c4 hi)) 0 rfl rfl 0 (by decide) (ht _ fl_T_T_identity) (fun _ h9 => h9) rfl d_T_shown_1 ?_
    exact W.iret (v := (nI i)) hx hb hr (fun t ht hW => ⟨_, rfl, rfl, ht⟩) (fun _ h => by cases h) d_T_shown_4
set_option maxHeartbeats 4000000 in
set_option maxRecDepth 100000 in
theorem k_C_wordsTaken (l : Launch) (hR : c_Rep w n rd md cV cT σ x ra rt ad fa ρ fr rr rf rc wl el cr G) {i : Nat} (hi : s_isC σ i) (ht0 : tys[0]? = some (cV, .object "StackRoom$Value")) : Met l y_C_wordsTaken w_C_wordsTaken ({ frames := 1, cells := 0, slots := 0, locals := 20 }) (g_pre D tys G sz [.ref (ad i)]) (vp_Si (fun rz => rz = nI (s_wd σ i))) 0 0 (fun _ => False) := by
  refine Met.ofW (cc := b_C_wordsTaken) (maxL := 1) (ret := (some .int)) (by decide) rfl ?_
  intro p e s m args below meth c s₁ B hml hv
  obtain ⟨rfl, hsz, hP, hK⟩ := hv
  have hx := B.exec
  have hb := B.bytes
  have hr := B.returns
  have ht := fun w (hw : w ∈ gt) => atoms_spec (ws := w_C_wordsTaken) B.pre w (List.mem_cons_of_mem _ hw)
  have hown : s.vm.findClass "StackRoom$Context" = some m.cls := findClass_of_methodNamed B.named
  have hlocks := B.notSynchronized
  have C0 : CallFix p m c b_C_wordsTaken 1 s [.ref (ad i)].toArray gt "StackRoom$Context" := ⟨hx, hb, hml, hown, ht⟩
  have hl := lv_entry ([.ref (ad i)]) (n := 1) (Nat.le_of_ble_eq_true rfl)
  rw [lg_entry_eq]
  generalize (lg_sl ([.ref (ad i)]) ++ List.replicate (1 - (lg_sl ([.ref (ad i)])).length) Slot.unset).toArray = ls at hl ⊢
  have hl : lv_has ls 1 [(0, .ref (ad i))] := hl
  rcases id hi with h3 | h4
  · refine lv_iconst (v := 4) hx hb d_C_wordsTaken_0 (by decide) ?_
    refine lv_aload_n hx hb d_C_wordsTaken_1 rfl (lv_at hl 0 rfl) ?_
    refine vp_callSi (va_Run.run (r_A (owner := "StackRoom$Context") (n := 0) (rest := [.int 4]) C0 [] (k_X_headFields l hR h3) ml_C_C_headFields sm_C_C_headFields se_X_C_headFields_X im_X_headFields ini_X co_X_headFields (hK.2.1 _ dc_C_headFields) (by decide +kernel) (g_preV (ci := 3) hK hP rfl (hR.c3 h3)) hl.1 d_C_wordsTaken_2 rfl rfl (Nat.le_of_ble_eq_true rfl) ⟨rfl, rfl⟩ ⟨Nat.le_of_ble_eq_true rfl, Nat.le_of_ble_eq_true rfl⟩ ⟨Nat.le_of_ble_eq_true rfl, Nat.le_of_ble_eq_true rfl⟩)) (fun q eq => ?_)
    refine lv_iadd hx hb d_C_wordsTaken_5 ?_
    refine lv_aload_n hx hb d_C_wordsTaken_6 rfl (lv_at hl 0 rfl) ?_
    refine va_get (D := D) (ci := 3) (C := "StackRoom$MethodContext") (T := T_X) (N := 7) (v := .ref (fa i)) hx hb ht in_X hown hK.1 (hP.one (hR.c3 h3)) 0 rfl rfl 5 (by decide) (ht _ fl_C_C_fields) (fun _ h9 => h9) rfl d_C_wordsTaken_7 ?_
    refine va_alen (v := nI (s_rm σ i)) hx hb hK.1 (hP.one (hR.ca hi)) 0 0 rfl ht0 rfl d_C_wordsTaken_10 ?_
    refine lv_iadd hx hb d_C_wordsTaken_11 ?_
    exact W.iret (v := ((4 + q) + (nI (s_rm σ i)))) hx hb hr (fun t ht hW => ⟨_, rfl, by rw [eq, s_wd3 h3, ← nI_add]; rfl, ht⟩) (fun _ h => by cases h) d_C_wordsTaken_12
  · refine lv_iconst (v := 4) hx hb d_C_wordsTaken_0 (by decide) ?_
    refine lv_aload_n hx hb d_C_wordsTaken_1 rfl (lv_at hl 0 rfl) ?_
    refine vp_callSi (va_Run.run (r_A (owner := "StackRoom$Context") (n := 0) (rest := [.int 4]) C0 [] (k_B_headFields l hR h4) ml_C_C_headFields sm_C_C_headFields se_B_C_headFields_B im_B_headFields ini_B co_B_headFields (hK.2.1 _ dc_C_headFields) (by decide +kernel) (g_preV (ci := 4) hK hP rfl (hR.c4 h4)) hl.1 d_C_wordsTaken_2 rfl rfl (Nat.le_of_ble_eq_true rfl) ⟨rfl, rfl⟩ ⟨Nat.le_of_ble_eq_true rfl, Nat.le_of_ble_eq_true rfl⟩ ⟨Nat.le_of_ble_eq_true rfl, Nat.le_of_ble_eq_true rfl⟩)) (fun q eq => ?_)
    refine lv_iadd hx hb d_C_wordsTaken_5 ?_
    refine lv_aload_n hx hb d_C_wordsTaken_6 rfl (lv_at hl 0 rfl) ?_
    refine va_get (D := D) (ci := 4) (C := "StackRoom$BlockContext") (T := T_B) (N := 8) (v := .ref (fa i)) hx hb ht in_B hown hK.1 (hP.one (hR.c4 h4)) 0 rfl rfl 5 (by decide) (ht _ fl_C_C_fields) (fun _ h9 => h9) rfl d_C_wordsTaken_7 ?_
    refine va_alen (v := nI (s_rm σ i)) hx hb hK.1 (hP.one (hR.ca hi)) 0 0 rfl ht0 rfl d_C_wordsTaken_10 ?_
    refine lv_iadd hx hb d_C_wordsTaken_11 ?_
    exact W.iret (v := ((4 + q) + (nI (s_rm σ i)))) hx hb hr (fun t ht hW => ⟨_, rfl, by rw [eq, s_wd4 h4, ← nI_add]; rfl, ht⟩) (fun _ h => by cases h) d_C_wordsTaken_12
set_option maxHeartbeats 4000000 in
set_option maxRecDepth 100000 in
theorem k_C_entriesTaken (l : Launch) (hR : c_Rep w n rd md cV cT σ x ra rt ad fa ρ fr rr rf rc wl el cr G) {i : Nat} (hi : s_isC σ i) : Met l y_C_entriesTaken w_C_entriesTaken ({ frames := 0, cells := 0, slots := 0, locals := 0 }) (g_pre D tys G sz [.ref (ad i)]) (vp_Si (fun rz => rz = nI (s_en σ i))) 0 0 (fun _ => False) := by
  refine Met.ofW (cc := b_C_entriesTaken) (maxL := 1) (ret := (some .int)) (by decide) rfl ?_
  intro p e s m args below meth c s₁ B hml hv
  obtain ⟨rfl, hsz, hP, hK⟩ := hv
  have hx := B.exec
  have hb := B.bytes
  have hr := B.returns
  have ht := fun w (hw : w ∈ gt) => atoms_spec (ws := w_C_entriesTaken) B.pre w (List.mem_cons_of_mem _ hw)
  have hown : s.vm.findClass "StackRoom$Context" = some m.cls := findClass_of_methodNamed B.named
  have hlocks := B.notSynchronized
  have C0 : CallFix p m c b_C_entriesTaken 1 s [.ref (ad i)].toArray gt "StackRoom$Context" := ⟨hx, hb, hml, hown, ht⟩
  have hl := lv_entry ([.ref (ad i)]) (n := 1) (Nat.le_of_ble_eq_true rfl)
  rw [lg_entry_eq]
  generalize (lg_sl ([.ref (ad i)]) ++ List.replicate (1 - (lg_sl ([.ref (ad i)])).length) Slot.unset).toArray = ls at hl ⊢
  have hl : lv_has ls 1 [(0, .ref (ad i))] := hl
  refine lv_iconst (v := 1) hx hb d_C_entriesTaken_0 (by decide) ?_
  exact W.iret (v := 1) hx hb hr (fun t ht hW => ⟨_, rfl, by rw [s_enC hi]; rfl, ht⟩) (fun _ h => by cases h) d_C_entriesTaken_1
set_option maxHeartbeats 4000000 in
set_option maxRecDepth 100000 in
theorem k_C_isFull (l : Launch) (hR : c_Rep w n rd md cV cT σ x ra rt ad fa ρ fr rr rf rc wl el cr G) {i : Nat} (hi : s_isC σ i) (hI : s_I σ) (ht0 : tys[0]? = some (cV, .object "StackRoom$Value")) : Met l y_C_isFull w_C_isFull ({ frames := 0, cells := 0, slots := 0, locals := 0 }) (g_pre D tys G sz [.ref (ad i)]) (vp_Si (fun rz => rz = if s_rm σ i ≤ s_ht σ i then 1 else 0)) 0 0 (fun _ => False) := by
  refine Met.ofW (cc := b_C_isFull) (maxL := 1) (ret := (some .boolean)) (by decide) rfl ?_
  intro p e s m args below meth c s₁ B hml hv
  obtain ⟨rfl, hsz, hP, hK⟩ := hv
  have hx := B.exec
  have hb := B.bytes
  have hr := B.returns
  have ht := fun w (hw : w ∈ gt) => atoms_spec (ws := w_C_isFull) B.pre w (List.mem_cons_of_mem _ hw)
  have hown : s.vm.findClass "StackRoom$Context" = some m.cls := findClass_of_methodNamed B.named
  have hlocks := B.notSynchronized
  have C0 : CallFix p m c b_C_isFull 1 s [.ref (ad i)].toArray gt "StackRoom$Context" := ⟨hx, hb, hml, hown, ht⟩
  have hl := lv_entry ([.ref (ad i)]) (n := 1) (Nat.le_of_ble_eq_true rfl)
  rw [lg_entry_eq]
  generalize (lg_sl ([.ref (ad i)]) ++ List.replicate (1 - (lg_sl ([.ref (ad i)])).length) Slot.unset).toArray = ls at hl ⊢
  have hl : lv_has ls 1 [(0, .ref (ad i))] := hl
  have hb9 := hI.2.2.2.2.2.2 i hi
  rcases id hi with h3 | h4
  · refine lv_aload_n hx hb d_C_isFull_0 rfl (lv_at hl 0 rfl) ?_
    refine va_get (D := D) (ci := 3) (C := "StackRoom$MethodContext") (T := T_X) (N := 7) (v := .int (nI (s_ht σ i))) hx hb ht in_X hown hK.1 (hP.one (hR.c3 h3)) 0 rfl rfl 4 (by decide) (ht _ fl_C_C_height) (fun _ h9 => h9) rfl d_C_isFull_1 ?_
    refine lv_aload_n hx hb d_C_isFull_4 rfl (lv_at hl 0 rfl) ?_
    refine va_get (D := D) (ci := 3) (C := "StackRoom$MethodContext") (T := T_X) (N := 7) (v := .ref (fa i)) hx hb ht in_X hown hK.1 (hP.one (hR.c3 h3)) 0 rfl rfl 5 (by decide) (ht _ fl_C_C_fields) (fun _ h9 => h9) rfl d_C_isFull_5 ?_
    refine va_alen (v := nI (s_rm σ i)) hx hb hK.1 (hP.one (hR.ca hi)) 0 0 rfl ht0 rfl d_C_isFull_8 ?_
    refine lv_icmp_lt (tgt := 16) hx hb d_C_isFull_9 (by decide) (fun c9 => ?_) (fun c9 => ?_)
    · refine lv_iconst (v := 0) hx hb d_C_isFull_16 (by decide) ?_
      exact W.zret (v := 0) hx hb hr rfl (fun t ht hW => ⟨_, rfl, by rw [if_neg (fun q => absurd ((nI_ltI (by omega) (by omega)).mp c9) (by omega))], ht⟩) (fun _ h => by cases h) d_C_isFull_17
    · refine lv_iconst (v := 1) hx hb d_C_isFull_12 (by decide) ?_
      refine lv_goto (tgt := 17) hx hb d_C_isFull_13 (by decide) ?_
      exact W.zret (v := 1) hx hb hr rfl (fun t ht hW => ⟨_, rfl, by rw [if_pos (Nat.not_lt.mp (fun q => c9 ((nI_ltI (by omega) (by omega)).mpr q)))], ht⟩) (fun _ h => by cases h) d_C_isFull_17
  · refine lv_aload_n hx hb d_C_isFull_0 rfl (lv_at hl 0 rfl) ?_
    refine va_get (D := D) (ci := 4) (C := "StackRoom$BlockContext") (T := T_B) (N := 8) (v := .int (nI (s_ht σ i))) hx hb ht in_B hown hK.1 (hP.one (hR.c4 h4)) 0 rfl rfl 4 (by decide) (ht _ fl_C_C_height) (fun _ h9 => h9) rfl d_C_isFull_1 ?_
    refine lv_aload_n hx hb d_C_isFull_4 rfl (lv_at hl 0 rfl) ?_
    refine va_get (D := D) (ci := 4) (C := "StackRoom$BlockContext") (T := T_B) (N := 8) (v := .ref (fa i)) hx hb ht in_B hown hK.1 (hP.one (hR.c4 h4)) 0 rfl rfl 5 (by decide) (ht _ fl_C_C_fields) (fun _ h9 => h9) rfl d_C_isFull_5 ?_
    refine va_alen (v := nI (s_rm σ i)) hx hb hK.1 (hP.one (hR.ca hi)) 0 0 rfl ht0 rfl d_C_isFull_8 ?_
    refine lv_icmp_lt (tgt := 16) hx hb d_C_isFull_9 (by decide) (fun c9 => ?_) (fun c9 => ?_)
    · refine lv_iconst (v := 0) hx hb d_C_isFull_16 (by decide) ?_
      exact W.zret (v := 0) hx hb hr rfl (fun t ht hW => ⟨_, rfl, by rw [if_neg (fun q => absurd ((nI_ltI (by omega) (by omega)).mp c9) (by omega))], ht⟩) (fun _ h => by cases h) d_C_isFull_17
    · refine lv_iconst (v := 1) hx hb d_C_isFull_12 (by decide) ?_
      refine lv_goto (tgt := 17) hx hb d_C_isFull_13 (by decide) ?_
      exact W.zret (v := 1) hx hb hr rfl (fun t ht hW => ⟨_, rfl, by rw [if_pos (Nat.not_lt.mp (fun q => c9 ((nI_ltI (by omega) (by omega)).mpr q)))], ht⟩) (fun _ h => by cases h) d_C_isFull_17
set_option maxHeartbeats 4000000 in
set_option maxRecDepth 100000 in
theorem k_C_depthNow (l : Launch) (hR : c_Rep w n rd md cV cT σ x ra rt ad fa ρ fr rr rf rc wl el cr G) {i : Nat} (hi : s_isC σ i) (hI : s_I σ) : Met l y_C_depthNow w_C_depthNow ({ frames := 1, cells := 0, slots := 0, locals := 20 }) (g_pre D tys G sz [.ref (ad i)]) (vp_Si (fun rz => rz = nI (s_ht σ i) - nI (s_fr σ i))) 0 0 (fun _ => False) := by
  refine Met.ofW (cc := b_C_depthNow) (maxL := 1) (ret := (some .int)) (by decide) rfl ?_
  intro p e s m args below meth c s₁ B hml hv
  obtain ⟨rfl, hsz, hP, hK⟩ := hv
  have hx := B.exec
  have hb := B.bytes
  have hr := B.returns
  have ht := fun w (hw : w ∈ gt) => atoms_spec (ws := w_C_depthNow) B.pre w (List.mem_cons_of_mem _ hw)
  have hown : s.vm.findClass "StackRoom$Context" = some m.cls := findClass_of_methodNamed B.named
  have hlocks := B.notSynchronized
  have C0 : CallFix p m c b_C_depthNow 1 s [.ref (ad i)].toArray gt "StackRoom$Context" := ⟨hx, hb, hml, hown, ht⟩
  have hl := lv_entry ([.ref (ad i)]) (n := 1) (Nat.le_of_ble_eq_true rfl)
  rw [lg_entry_eq]
  generalize (lg_sl ([.ref (ad i)]) ++ List.replicate (1 - (lg_sl ([.ref (ad i)])).length) Slot.unset).toArray = ls at hl ⊢
  have hl : lv_has ls 1 [(0, .ref (ad i))] := hl
  rcases id hi with h3 | h4
  · refine lv_aload_n hx hb d_C_depthNow_0 rfl (lv_at hl 0 rfl) ?_
    refine va_get (D := D) (ci := 3) (C := "StackRoom$MethodContext") (T := T_X) (N := 7) (v := .int (nI (s_ht σ i))) hx hb ht in_X hown hK.1 (hP.one (hR.c3 h3)) 0 rfl rfl 4 (by decide) (ht _ fl_C_C_height) (fun _ h9 => h9) rfl d_C_depthNow_1 ?_
    refine lv_aload_n hx hb d_C_depthNow_4 rfl (lv_at hl 0 rfl) ?_
    refine vp_callSi (va_Run.run (r_A (owner := "StackRoom$Context") (n := 0) (rest := [.int (nI (s_ht σ i))]) C0 [] (k_X_floorNow l hR h3 hI) ml_C_C_floorNow sm_C_C_floorNow se_X_C_floorNow_X im_X_floorNow ini_X co_X_floorNow (hK.2.1 _ dc_C_floorNow) (by decide +kernel) (g_preV (ci := 3) hK hP rfl (hR.c3 h3)) hl.1 d_C_depthNow_5 rfl rfl (Nat.le_of_ble_eq_true rfl) ⟨rfl, rfl⟩ ⟨Nat.le_of_ble_eq_true rfl, Nat.le_of_ble_eq_true rfl⟩ ⟨Nat.le_of_ble_eq_true rfl, Nat.le_of_ble_eq_true rfl⟩)) (fun q eq => ?_)
    refine lv_isub hx hb d_C_depthNow_8 ?_
    exact W.iret (v := ((nI (s_ht σ i)) - q)) hx hb hr (fun t ht hW => ⟨_, rfl, by rw [eq], ht⟩) (fun _ h => by cases h) d_C_depthNow_9
  · refine lv_aload_n hx hb d_C_depthNow_0 rfl (lv_at hl 0 rfl) ?_
    refine va_get (D := D) (ci := 4) (C := "StackRoom$BlockContext") (T := T_B) (N := 8) (v := .int (nI (s_ht σ i))) hx hb ht in_B hown hK.1 (hP.one (hR.c4 h4)) 0 rfl rfl 4 (by decide) (ht _ fl_C_C_height) (fun _ h9 => h9) rfl d_C_depthNow_1 ?_
    refine lv_aload_n hx hb d_C_depthNow_4 rfl (lv_at hl 0 rfl) ?_
    refine vp_callSi (va_Run.run (r_A (owner := "StackRoom$Context") (n := 0) (rest := [.int (nI (s_ht σ i))]) C0 [] (k_B_floorNow l hR h4) ml_C_C_floorNow sm_C_C_floorNow se_B_C_floorNow_B im_B_floorNow ini_B co_B_floorNow (hK.2.1 _ dc_C_floorNow) (by decide +kernel) (g_preV (ci := 4) hK hP rfl (hR.c4 h4)) hl.1 d_C_depthNow_5 rfl rfl (Nat.le_of_ble_eq_true rfl) ⟨rfl, rfl⟩ ⟨Nat.le_of_ble_eq_true rfl, Nat.le_of_ble_eq_true rfl⟩ ⟨Nat.le_of_ble_eq_true rfl, Nat.le_of_ble_eq_true rfl⟩)) (fun q eq => ?_)
    refine lv_isub hx hb d_C_depthNow_8 ?_
    exact W.iret (v := ((nI (s_ht σ i)) - q)) hx hb hr (fun t ht hW => ⟨_, rfl, by rw [eq], ht⟩) (fun _ h => by cases h) d_C_depthNow_9
set_option maxHeartbeats 4000000 in
set_option maxRecDepth 100000 in
theorem k_C_hasField (l : Launch) (hR : c_Rep w n rd md cV cT σ x ra rt ad fa ρ fr rr rf rc wl el cr G) {i : Nat} (hi : s_isC σ i) (ht0 : tys[0]? = some (cV, .object "StackRoom$Value")) (j : Int32) : Met l y_C_hasField w_C_hasField ({ frames := 0, cells := 0, slots := 0, locals := 0 }) (g_pre D tys G sz [.ref (ad i), .int j]) (vp_Si (fun rz => rz = if 0 ≤ j ∧ j < nI (s_rm σ i) then 1 else 0)) 0 0 (fun _ => False) := by
  refine Met.ofW (cc := b_C_hasField) (maxL := 2) (ret := (some .boolean)) (by decide) rfl ?_
  intro p e s m args below meth c s₁ B hml hv
  obtain ⟨rfl, hsz, hP, hK⟩ := hv
  have hx := B.exec
  have hb := B.bytes
  have hr := B.returns
  have ht := fun w (hw : w ∈ gt) => atoms_spec (ws := w_C_hasField) B.pre w (List.mem_cons_of_mem _ hw)
  have hown : s.vm.findClass "StackRoom$Context" = some m.cls := findClass_of_methodNamed B.named
  have hlocks := B.notSynchronized
  have C0 : CallFix p m c b_C_hasField 2 s [.ref (ad i), .int j].toArray gt "StackRoom$Context" := ⟨hx, hb, hml, hown, ht⟩
  have hl := lv_entry ([.ref (ad i), .int j]) (n := 2) (Nat.le_of_ble_eq_true rfl)
  rw [lg_entry_eq]
  generalize (lg_sl ([.ref (ad i), .int j]) ++ List.replicate (2 - (lg_sl ([.ref (ad i), .int j])).length) Slot.unset).toArray = ls at hl ⊢
  have hl : lv_has ls 2 [(0, .ref (ad i)), (1, .int j)] := hl
  rcases id hi with h3 | h4
  · refine lv_iload_n hx hb d_C_hasField_0 rfl (lv_at hl 1 rfl) ?_
    refine lv_if_lt (tgt := 17) hx hb d_C_hasField_1 (by decide) (fun c1 => ?_) (fun c1 => ?_)
    · refine lv_iconst (v := 0) hx hb d_C_hasField_17 (by decide) ?_
      exact W.zret (v := 0) hx hb hr rfl (fun t ht hW => ⟨_, rfl, by rw [if_neg (fun q => absurd q.1 (Int32.not_le.mpr c1))], ht⟩) (fun _ h => by cases h) d_C_hasField_18
    · refine lv_iload_n hx hb d_C_hasField_4 rfl (lv_at hl 1 rfl) ?_
      refine lv_aload_n hx hb d_C_hasField_5 rfl (lv_at hl 0 rfl) ?_
      refine va_get (D := D) (ci := 3) (C := "StackRoom$MethodContext") (T := T_X) (N := 7) (v := .ref (fa i)) hx hb ht in_X hown hK.1 (hP.one (hR.c3 h3)) 0 rfl rfl 5 (by decide) (ht _ fl_C_C_fields) (fun _ h9 => h9) rfl d_C_hasField_6 ?_
      refine va_alen (v := nI (s_rm σ i)) hx hb hK.1 (hP.one (hR.ca hi)) 0 0 rfl ht0 rfl d_C_hasField_9 ?_
      refine lv_icmp_ge (tgt := 17) hx hb d_C_hasField_10 (by decide) (fun c10 => ?_) (fun c10 => ?_)
      · refine lv_iconst (v := 0) hx hb d_C_hasField_17 (by decide) ?_
        exact W.zret (v := 0) hx hb hr rfl (fun t ht hW => ⟨_, rfl, by rw [if_neg (fun q => absurd q.2 (Int32.not_lt.mpr c10))], ht⟩) (fun _ h => by cases h) d_C_hasField_18
      · refine lv_iconst (v := 1) hx hb d_C_hasField_13 (by decide) ?_
        refine lv_goto (tgt := 18) hx hb d_C_hasField_14 (by decide) ?_
        exact W.zret (v := 1) hx hb hr rfl (fun t ht hW => ⟨_, rfl, by rw [if_pos ⟨Int32.not_lt.mp c1, Int32.not_le.mp c10⟩], ht⟩) (fun _ h => by cases h) d_C_hasField_18
  · refine lv_iload_n hx hb d_C_hasField_0 rfl (lv_at hl 1 rfl) ?_
    refine lv_if_lt (tgt := 17) hx hb d_C_hasField_1 (by decide) (fun c1 => ?_) (fun c1 => ?_)
    · refine lv_iconst (v := 0) hx hb d_C_hasField_17 (by decide) ?_
      exact W.zret (v := 0) hx hb hr rfl (fun t ht hW => ⟨_, rfl, by rw [if_neg (fun q => absurd q.1 (Int32.not_le.mpr c1))], ht⟩) (fun _ h => by cases h) d_C_hasField_18
    · refine lv_iload_n hx hb d_C_hasField_4 rfl (lv_at hl 1 rfl) ?_
      refine lv_aload_n hx hb d_C_hasField_5 rfl (lv_at hl 0 rfl) ?_
      refine va_get (D := D) (ci := 4) (C := "StackRoom$BlockContext") (T := T_B) (N := 8) (v := .ref (fa i)) hx hb ht in_B hown hK.1 (hP.one (hR.c4 h4)) 0 rfl rfl 5 (by decide) (ht _ fl_C_C_fields) (fun _ h9 => h9) rfl d_C_hasField_6 ?_
      refine va_alen (v := nI (s_rm σ i)) hx hb hK.1 (hP.one (hR.ca hi)) 0 0 rfl ht0 rfl d_C_hasField_9 ?_
      refine lv_icmp_ge (tgt := 17) hx hb d_C_hasField_10 (by decide) (fun c10 => ?_) (fun c10 => ?_)
      · refine lv_iconst (v := 0) hx hb d_C_hasField_17 (by decide) ?_
        exact W.zret (v := 0) hx hb hr rfl (fun t ht hW => ⟨_, rfl, by rw [if_neg (fun q => absurd q.2 (Int32.not_lt.mpr c10))], ht⟩) (fun _ h => by cases h) d_C_hasField_18
      · refine lv_iconst (v := 1) hx hb d_C_hasField_13 (by decide) ?_
        refine lv_goto (tgt := 18) hx hb d_C_hasField_14 (by decide) ?_
        exact W.zret (v := 1) hx hb hr rfl (fun t ht hW => ⟨_, rfl, by rw [if_pos ⟨Int32.not_lt.mp c1, Int32.not_le.mp c10⟩], ht⟩) (fun _ h => by cases h) d_C_hasField_18
theorem c_in {j : Int32} {k : Nat} (h : 0 ≤ j ∧ j < nI k) (hk : k < 2 ^ 31) : vp_in j k := by
  obtain ⟨q, hq, rfl⟩ := nI_of (x := j) (fun z => absurd h.1 (Int32.not_le.mpr z))
  exact vp_in_nI ((nI_ltI hq hk).mp h.2) hk
section QR
variable {p : Program} {l : Launch} {e : Env} {R : Room} {s : State} {m : MethodId} {args : Array Value} {below : List Frame} {meth : Method} {c : Code} {H : Heap} {locs : List Loc} {cells slots : Nat}
theorem q_aret {cc : ByteArray} {Qc : Array Value → State → Outcome → State → Prop} {free : Addr → Prop} {v : Option Nat} {rt : FieldType} (hexec : p.tables.exec = Jvm.exec) (hb : c.code = cc) (hr : meth.sig.returnType = some rt) (hrt : (∃ n, rt = .object n) ∨ ∃ t, rt = .array t)
    (hq : ∀ t : State, t.heap = H → s.WarmedH t.vm → Qc args s (.returned (some (va_rf v))) t) (hf : ∀ q ∈ locs, free q.base)
    {pc : Nat} {ls : Array Slot} (hdg : decode cc pc = .ok (.areturn, 1)) (hlocks : meth.locks = false := by assumption) : W p l e R s m args below meth c H locs cells slots (MQ below Qc args s cells slots free) (F0 m pc ls [va_rf v]) :=
  W.aret hexec hb hr hrt (va_rf_or v) hq hf hdg hlocks
end QR
set_option maxHeartbeats 4000000 in
set_option maxRecDepth 100000 in
theorem k_C_fieldAt (l : Launch) (hR : c_Rep w n rd md cV cT σ x ra rt ad fa ρ fr rr rf rc wl el cr G) {i : Nat} (hi : s_isC σ i) (hI : s_I σ) (ht0 : tys[0]? = some (cV, .object "StackRoom$Value")) (j : Int32) : Met l y_C_fieldAt w_C_fieldAt ({ frames := 1, cells := 0, slots := 0, locals := 21 }) (g_pre D tys G sz [.ref (ad i), .int j]) (va_Sq (fun rz => rz = if 0 ≤ j ∧ j < nI (s_rm σ i) then fr i j.toNatClampNeg else none)) 0 0 (fun _ => False) := by
  refine Met.ofW (cc := b_C_fieldAt) (maxL := 2) (ret := (some (.object "StackRoom$Value"))) (by decide) rfl ?_
  intro p e s m args below meth c s₁ B hml hv
  obtain ⟨rfl, hsz, hP, hK⟩ := hv
  have hx := B.exec
  have hb := B.bytes
  have hr := B.returns
  have ht := fun w (hw : w ∈ gt) => atoms_spec (ws := w_C_fieldAt) B.pre w (List.mem_cons_of_mem _ hw)
  have hown : s.vm.findClass "StackRoom$Context" = some m.cls := findClass_of_methodNamed B.named
  have hlocks := B.notSynchronized
  have C0 : CallFix p m c b_C_fieldAt 2 s [.ref (ad i), .int j].toArray gt "StackRoom$Context" := ⟨hx, hb, hml, hown, ht⟩
  have hl := lv_entry ([.ref (ad i), .int j]) (n := 2) (Nat.le_of_ble_eq_true rfl)
  rw [lg_entry_eq]
  generalize (lg_sl ([.ref (ad i), .int j]) ++ List.replicate (2 - (lg_sl ([.ref (ad i), .int j])).length) Slot.unset).toArray = ls at hl ⊢
  have hl : lv_has ls 2 [(0, .ref (ad i)), (1, .int j)] := hl
  rcases id hi with h3 | h4
  · refine lv_aload_n hx hb d_C_fieldAt_0 rfl (lv_at hl 0 rfl) ?_
    refine lv_iload_n hx hb d_C_fieldAt_1 rfl (lv_at hl 1 rfl) ?_
    refine vp_callSi (va_Run.run (r_U (owner := "StackRoom$Context") (n := 1) (rest := []) C0 [.int j] (k_C_hasField l hR hi ht0 j) ml_C_C_hasField sm_C_C_hasField se_X_C_hasField_C im_C_hasField ini_C co_C_hasField rfl (by decide +kernel) (g_preV (ci := 3) hK hP rfl (hR.c3 h3)) hl.1 d_C_fieldAt_2 rfl rfl (Nat.le_of_ble_eq_true rfl) ⟨rfl, rfl⟩ ⟨Nat.le_of_ble_eq_true rfl, Nat.le_of_ble_eq_true rfl⟩ ⟨Nat.le_of_ble_eq_true rfl, Nat.le_of_ble_eq_true rfl⟩)) (fun q eq => ?_)
    refine lv_if_eq (tgt := 17) hx hb d_C_fieldAt_5 (by decide) (fun c5 => ?_) (fun c5 => ?_)
    · refine lv_null hx hb d_C_fieldAt_17 ?_
      exact W.aret (v := .null) (rt := .object "StackRoom$Value") hx hb hr (Or.inl ⟨_, rfl⟩) (Or.inl rfl) (fun t ht hW => ⟨none, rfl, by rw [if_neg (fun z => absurd (eq.symm.trans c5) (by rw [if_pos z]; decide))], ht⟩) (fun _ h => by cases h) d_C_fieldAt_18
    · have hj : 0 ≤ j ∧ j < nI (s_rm σ i) := Decidable.byContradiction (fun h => c5 (eq.trans (if_neg h)))
      have hjin : vp_in j (s_rm σ i) := c_in hj (by have := (hI.2.2.2.2.2.2 i hi).2.2.1; omega)
      refine lv_aload_n hx hb d_C_fieldAt_8 rfl (lv_at hl 0 rfl) ?_
      refine va_get (D := D) (ci := 3) (C := "StackRoom$MethodContext") (T := T_X) (N := 7) (v := .ref (fa i)) hx hb ht in_X hown hK.1 (hP.one (hR.c3 h3)) 0 rfl rfl 5 (by decide) (ht _ fl_C_C_fields) (fun _ h9 => h9) rfl d_C_fieldAt_9 ?_
      refine lv_iload_n hx hb d_C_fieldAt_12 rfl (lv_at hl 1 rfl) ?_
      refine va_aldq (C := "StackRoom$Value") hx hb hK.1 (hP.one (hR.ca hi)) 0 0 rfl ht0 hjin d_C_fieldAt_13 ?_
      refine lv_goto (tgt := 18) hx hb d_C_fieldAt_14 (by decide) ?_
      rw [if_pos hj]
      exact q_aret (rt := .object "StackRoom$Value") hx hb hr (Or.inl ⟨_, rfl⟩) (fun t ht hW => ⟨_, rfl, rfl, ht⟩) (fun _ h => by cases h) d_C_fieldAt_18
  · refine lv_aload_n hx hb d_C_fieldAt_0 rfl (lv_at hl 0 rfl) ?_
    refine lv_iload_n hx hb d_C_fieldAt_1 rfl (lv_at hl 1 rfl) ?_
    refine vp_callSi (va_Run.run (r_U (owner := "StackRoom$Context") (n := 1) (rest := []) C0 [.int j] (k_C_hasField l hR hi ht0 j) ml_C_C_hasField sm_C_C_hasField se_B_C_hasField_C im_C_hasField ini_C co_C_hasField rfl (by decide +kernel) (g_preV (ci := 4) hK hP rfl (hR.c4 h4)) hl.1 d_C_fieldAt_2 rfl rfl (Nat.le_of_ble_eq_true rfl) ⟨rfl, rfl⟩ ⟨Nat.le_of_ble_eq_true rfl, Nat.le_of_ble_eq_true rfl⟩ ⟨Nat.le_of_ble_eq_true rfl, Nat.le_of_ble_eq_true rfl⟩)) (fun q eq => ?_)
    refine lv_if_eq (tgt := 17) hx hb d_C_fieldAt_5 (by decide) (fun c5 => ?_) (fun c5 => ?_)
    · refine lv_null hx hb d_C_fieldAt_17 ?_
      exact W.aret (v := .null) (rt := .object "StackRoom$Value") hx hb hr (Or.inl ⟨_, rfl⟩) (Or.inl rfl) (fun t ht hW => ⟨none, rfl, by rw [if_neg (fun z => absurd (eq.symm.trans c5) (by rw [if_pos z]; decide))], ht⟩) (fun _ h => by cases h) d_C_fieldAt_18
    · have hj : 0 ≤ j ∧ j < nI (s_rm σ i) := Decidable.byContradiction (fun h => c5 (eq.trans (if_neg h)))
      have hjin : vp_in j (s_rm σ i) := c_in hj (by have := (hI.2.2.2.2.2.2 i hi).2.2.1; omega)
      refine lv_aload_n hx hb d_C_fieldAt_8 rfl (lv_at hl 0 rfl) ?_
      refine va_get (D := D) (ci := 4) (C := "StackRoom$BlockContext") (T := T_B) (N := 8) (v := .ref (fa i)) hx hb ht in_B hown hK.1 (hP.one (hR.c4 h4)) 0 rfl rfl 5 (by decide) (ht _ fl_C_C_fields) (fun _ h9 => h9) rfl d_C_fieldAt_9 ?_
      refine lv_iload_n hx hb d_C_fieldAt_12 rfl (lv_at hl 1 rfl) ?_
      refine va_aldq (C := "StackRoom$Value") hx hb hK.1 (hP.one (hR.ca hi)) 0 0 rfl ht0 hjin d_C_fieldAt_13 ?_
      refine lv_goto (tgt := 18) hx hb d_C_fieldAt_14 (by decide) ?_
      rw [if_pos hj]
      exact q_aret (rt := .object "StackRoom$Value") hx hb hr (Or.inl ⟨_, rfl⟩) (fun t ht hW => ⟨_, rfl, rfl, ht⟩) (fun _ h => by cases h) d_C_fieldAt_18
set_option maxHeartbeats 4000000 in
set_option maxRecDepth 100000 in
theorem k_X_hasTemporary (l : Launch) (hR : c_Rep w n rd md cV cT σ x ra rt ad fa ρ fr rr rf rc wl el cr G) {i : Nat} (hi : s_kd σ i = 3) (hI : s_I σ) (ht0 : tys[0]? = some (cV, .object "StackRoom$Value")) (j : Int32) : Met l y_X_hasTemporary w_X_hasTemporary ({ frames := 1, cells := 0, slots := 0, locals := 21 }) (g_pre D tys G sz [.ref (ad i), .int j]) (vp_Si (fun rz => rz = if j < nI (s_tt σ (s_og σ i)) ∧ 0 ≤ j ∧ j < nI (s_rm σ i) then 1 else 0)) 0 0 (fun _ => False) := by
  refine Met.ofW (cc := b_X_hasTemporary) (maxL := 2) (ret := (some .boolean)) (by decide) rfl ?_
  intro p e s m args below meth c s₁ B hml hv
  obtain ⟨rfl, hsz, hP, hK⟩ := hv
  have hx := B.exec
  have hb := B.bytes
  have hr := B.returns
  have ht := fun w (hw : w ∈ gt) => atoms_spec (ws := w_X_hasTemporary) B.pre w (List.mem_cons_of_mem _ hw)
  have hown : s.vm.findClass "StackRoom$MethodContext" = some m.cls := findClass_of_methodNamed B.named
  have hlocks := B.notSynchronized
  have C0 : CallFix p m c b_X_hasTemporary 2 s [.ref (ad i), .int j].toArray gt "StackRoom$MethodContext" := ⟨hx, hb, hml, hown, ht⟩
  have hl := lv_entry ([.ref (ad i), .int j]) (n := 2) (Nat.le_of_ble_eq_true rfl)
  rw [lg_entry_eq]
  generalize (lg_sl ([.ref (ad i), .int j]) ++ List.replicate (2 - (lg_sl ([.ref (ad i), .int j])).length) Slot.unset).toArray = ls at hl ⊢
  have hl : lv_has ls 2 [(0, .ref (ad i)), (1, .int j)] := hl
  refine lv_iload_n hx hb d_X_hasTemporary_0 rfl (lv_at hl 1 rfl) ?_
  refine lv_aload_n hx hb d_X_hasTemporary_1 rfl (lv_at hl 0 rfl) ?_
  refine va_get (D := D) (ci := 3) (C := "StackRoom$MethodContext") (T := T_X) (N := 7) (v := .ref (ad (s_og σ i))) hx hb ht in_X hown hK.1 (hP.one (hR.c3 hi)) 0 rfl rfl 6 (by decide) (ht _ fl_X_X_method) (fun _ h9 => h9) rfl d_X_hasTemporary_2 ?_
  refine va_getN (D := D) (ci := 2) (C := "StackRoom$Method") (T := T_M) (N := 4) (v := .int (nI (s_tt σ (s_og σ i)))) hx hb ht in_M hown hK.1 (hP.one (hR.c2 (hI.2.2.2.2.1 i hi))) 0 rfl rfl 2 (by decide) (va_Nw.use rfl (hK.2.1 _ fn_X_M_temporaries)) (fun _ h9 => h9) rfl d_X_hasTemporary_5 ?_
  refine lv_icmp_ge (tgt := 23) hx hb d_X_hasTemporary_8 (by decide) (fun c8 => ?_) (fun c8 => ?_)
  · refine lv_iconst (v := 0) hx hb d_X_hasTemporary_23 (by decide) ?_
    exact W.zret (v := 0) hx hb hr rfl (fun t ht hW => ⟨_, rfl, by rw [if_neg (fun q => absurd q.1 (Int32.not_lt.mpr c8))], ht⟩) (fun _ h => by cases h) d_X_hasTemporary_24
  · refine lv_aload_n hx hb d_X_hasTemporary_11 rfl (lv_at hl 0 rfl) ?_
    refine lv_iload_n hx hb d_X_hasTemporary_12 rfl (lv_at hl 1 rfl) ?_
    refine vp_callSi (va_Run.run (r_U (owner := "StackRoom$Context") (n := 1) (rest := []) C0 [.int j] (k_C_hasField l hR (Or.inl hi) ht0 j) ml_X_X_hasField sm_X_C_hasField se_X_X_hasField_C im_C_hasField ini_C co_C_hasField rfl (by decide +kernel) (g_preV (ci := 3) hK hP rfl (hR.c3 hi)) hl.1 d_X_hasTemporary_13 rfl rfl (Nat.le_of_ble_eq_true rfl) ⟨rfl, rfl⟩ ⟨Nat.le_of_ble_eq_true rfl, Nat.le_of_ble_eq_true rfl⟩ ⟨Nat.le_of_ble_eq_true rfl, Nat.le_of_ble_eq_true rfl⟩)) (fun q eq => ?_)
    refine lv_if_eq (tgt := 23) hx hb d_X_hasTemporary_16 (by decide) (fun c16 => ?_) (fun c16 => ?_)
    · refine lv_iconst (v := 0) hx hb d_X_hasTemporary_23 (by decide) ?_
      exact W.zret (v := 0) hx hb hr rfl (fun t ht hW => ⟨_, rfl, by rw [if_neg (fun z => absurd (eq.symm.trans c16) (by rw [if_pos z.2]; decide))], ht⟩) (fun _ h => by cases h) d_X_hasTemporary_24
    · refine lv_iconst (v := 1) hx hb d_X_hasTemporary_19 (by decide) ?_
      refine lv_goto (tgt := 24) hx hb d_X_hasTemporary_20 (by decide) ?_
      exact W.zret (v := 1) hx hb hr rfl (fun t ht hW => ⟨_, rfl, by rw [if_pos ⟨Int32.not_le.mp c8, Decidable.byContradiction (fun h => c16 (eq.trans (if_neg h)))⟩], ht⟩) (fun _ h => by cases h) d_X_hasTemporary_24
end K11
end
section
section K12
variable {w n rd md : Nat} {cV cT : ClassId} {σ : sS} {x ra rt : Nat} {ad fa : Nat → Nat} {ρ : Nat → Int32} {fr : Nat → Nat → Option Nat} {rr rf : Nat → Option Nat} {rc wl el cr : Int32} {G : gw_G} {D : va_G} {tys : List (ClassId × FieldType)} {sz : Nat}
/-- a cell that can stand in a register -/
def c_isv (G : gw_G) (a : Nat) : Prop := ∃ (ci : Nat) (fs : List Value), G a = some (.inr (ci, fs)) ∧ (ci = kW ∨ ci = kM ∨ ci = kC ∨ ci = kB)
theorem ca_asg {s : State} {C E : String} (h : va_Nw (.castable C E) s) : ∀ comp c0 : ClassId, s.vm.findClass E = some comp → s.vm.findClass C = some c0 → s.vm.assignable c0 comp = true := by
  intro comp c0 h1 h2
  obtain ⟨c', t', f1, f2, f3⟩ := Cond.castable_spec (va_Nw.use (A := #[]) rfl h)
  cases h2.symm.trans f1
  cases h1.symm.trans f2
  exact f3
theorem c_any {A : Nat → Prop} {s : State} {H : Heap} {a : Nat} (hK : kK D tys s) (hP : gw_P D vwCl A G H) (h : c_isv G a) : va_Any "StackRoom$Value" s H a := by
  obtain ⟨ci, fs, he, hc⟩ := h
  rcases hc with rfl | rfl | rfl | rfl
  · exact gw_any hK.1 hP he rfl (ca_asg (hK.2.1 _ ca_W_V))
  · exact gw_any hK.1 hP he rfl (ca_asg (hK.2.1 _ ca_M_V))
  · exact gw_any hK.1 hP he rfl (ca_asg (hK.2.1 _ ca_X_V))
  · exact gw_any hK.1 hP he rfl (ca_asg (hK.2.1 _ ca_B_V))
theorem c_isv.up {a q : Nat} {e : Option va_E} (h : c_isv G a) (hq : a ≠ q) : c_isv (va_up G q e) a := by
  obtain ⟨ci, fs, he, hc⟩ := h
  exact ⟨ci, fs, gw_up he hq, hc⟩
theorem c_val_isv (hR : c_Rep w n rd md cV cT σ x ra rt ad fa ρ fr rr rf rc wl el cr G) (hI : s_I σ) {v : sV} {r : Option Nat} (hv : c_val G ad v r) (hk : ∀ i, v = some (.inr i) → s_kd σ i ≠ 0) : ∀ a, r = some a → c_isv G a := by
  intro a ha
  unfold c_val at hv
  split at hv
  · rw [hv] at ha; cases ha
  · obtain ⟨b, h1, h2⟩ := hv
    rw [h1] at ha; cases ha
    exact ⟨_, _, h2, Or.inl rfl⟩
  · rename_i i
    rw [hv] at ha; cases ha
    have h0 := hk i rfl
    rcases (hI.2.1 i h0).2.2 with e | e | e
    · exact ⟨_, _, hR.c2 e, Or.inr (Or.inl rfl)⟩
    · exact ⟨_, _, hR.c3 e, Or.inr (Or.inr (Or.inl rfl))⟩
    · exact ⟨_, _, hR.c4 e, Or.inr (Or.inr (Or.inr rfl))⟩
theorem k_arr {D : va_G} {cl : List vw_C} {s : State} {cA cB : ClassId} {C : String} {t0 : Nat} (h0 : va_K D cl tys s) (ht0 : tys[t0]? = some (cB, .object C)) (h1 : va_K D cl (tys ++ [(cA, .object C)]) s) : cA = cB := by
  obtain ⟨-, kA, comp, a1, a2, a3, a4⟩ := h0.2 t0 _ ht0
  obtain ⟨-, kB, comp', b1, b2, b3, b4⟩ := h1.2 tys.length (cA, .object C) (by rw [List.getElem?_append_right (Nat.le_refl _), Nat.sub_self]; rfl)
  exact Option.some.inj (b4.symm.trans a4)
set_option maxHeartbeats 4000000 in
set_option maxRecDepth 100000 in
theorem k_C_putField_N (l : Launch) (hR : c_Rep w n rd md cV cT σ x ra rt ad fa ρ fr rr rf rc wl el cr G) {i : Nat} (hi : s_isC σ i) (ht0 : tys[0]? = some (cV, .object "StackRoom$Value")) (hI : s_I σ) {k : Nat} (hk : k < s_rm σ i) : Met l y_C_putField w_C_putField ({ frames := 1, cells := 0, slots := 0, locals := 21 }) (g_pre D tys G sz [.ref (ad i), .int (nI k), .null]) (va_Qv (fun G1 : gw_G => G1 = va_up G (fa i) (some (.inl (cV, s_rm σ i, qv (va_up (fr i) k none))))) (g_end D G sz) (gw_A G sz)) 0 0 (gw_A G sz) := by
  refine Met.ofW (cc := b_C_putField) (maxL := 3) (ret := none) (by decide) rfl ?_
  intro p e s m args below meth c s₁ B hml hv
  obtain ⟨rfl, hsz, hP, hK⟩ := hv
  have hx := B.exec
  have hb := B.bytes
  have hr := B.returns
  have ht := fun w (hw : w ∈ gt) => atoms_spec (ws := w_C_putField) B.pre w (List.mem_cons_of_mem _ hw)
  have hown : s.vm.findClass "StackRoom$Context" = some m.cls := findClass_of_methodNamed B.named
  have hlocks := B.notSynchronized
  have C0 : CallFix p m c b_C_putField 3 s [.ref (ad i), .int (nI k), .null].toArray gt "StackRoom$Context" := ⟨hx, hb, hml, hown, ht⟩
  subst hsz
  have hP := hP.self (sz := s.heap.size)
  have hA : ∀ q : Nat, s.heap.size ≤ q → gw_A G s.heap.size q := fun q h => Or.inr h
  have hS : va_S (gw_A G s.heap.size) s.heap s.heap [] := va_S.rf
  have hl := lv_entry ([.ref (ad i), .int (nI k), .null]) (n := 3) (Nat.le_of_ble_eq_true rfl)
  rw [lg_entry_eq]
  generalize (lg_sl ([.ref (ad i), .int (nI k), .null]) ++ List.replicate (3 - (lg_sl ([.ref (ad i), .int (nI k), .null])).length) Slot.unset).toArray = ls at hl ⊢
  have hl : lv_has ls 3 [(0, .ref (ad i)), (1, .int (nI k)), (2, .null)] := hl
  have hb9 := (hI.2.2.2.2.2.2 i hi).2.2.1
  rcases id hi with h3 | h4
  · refine lv_aload_n hx hb d_C_putField_0 rfl (lv_at hl 0 rfl) ?_
    refine lv_iload_n hx hb d_C_putField_1 rfl (lv_at hl 1 rfl) ?_
    refine vp_callSi (va_Run.run (r_U (owner := "StackRoom$Context") (n := 1) (rest := []) C0 [.int (nI k)] (k_C_hasField l hR hi ht0 (nI k)) ml_C_C_hasField sm_C_C_hasField se_X_C_hasField_C im_C_hasField ini_C co_C_hasField rfl (by decide +kernel) (g_preV (ci := 3) hK hP rfl (hR.c3 h3)) hl.1 d_C_putField_2 rfl rfl (Nat.le_of_ble_eq_true rfl) ⟨rfl, rfl⟩ ⟨Nat.le_of_ble_eq_true rfl, Nat.le_of_ble_eq_true rfl⟩ ⟨Nat.le_of_ble_eq_true rfl, Nat.le_of_ble_eq_true rfl⟩)) (fun q eq => ?_)
    rw [if_pos ⟨nI_pos' (by omega), (nI_ltI (by omega) (by omega)).mpr hk⟩] at eq
    refine lv_if_eq (tgt := 15) hx hb d_C_putField_5 (by decide) (fun c5 => ?_) (fun c5 => ?_)
    · exact absurd (eq.symm.trans c5) (by decide)
    · refine lv_aload_n hx hb d_C_putField_8 rfl (lv_at hl 0 rfl) ?_
      refine va_get (D := D) (ci := 3) (C := "StackRoom$MethodContext") (T := T_X) (N := 7) (v := .ref (fa i)) hx hb ht in_X hown hK.1 (hP.one (hR.c3 h3)) 0 rfl rfl 5 (by decide) (ht _ fl_C_C_fields) (fun _ h9 => h9) rfl d_C_putField_9 ?_
      refine lv_iload_n hx hb d_C_putField_12 rfl (lv_at hl 1 rfl) ?_
      refine lv_aload_nN hx hb d_C_putField_13 rfl (lv_at hl 2 rfl) ?_
      refine gw_astqN hx hb hK.1 hP hS 0 (hR.ca hi) ht0 (vp_in_nI hk (by omega)) d_C_putField_14 (fun H locs hP hS => ?_)
      rw [nI_clamp (by omega)] at hP
      obtain ⟨G1, eG1⟩ : ∃ z : gw_G, z = va_up G (fa i) (some (.inl (cV, s_rm σ i, qv (va_up (fr i) k none)))) := ⟨_, rfl⟩
      have hP : gw_P D vwCl (gw_A G s.heap.size) G1 H := by rw [eG1]; exact hP
      exact W.vret hx hb hr (fun t ht hW => ⟨⟨G1, rfl, eG1, g_fin ht hP⟩, hS.F ht⟩) hS.2.2 d_C_putField_15
  · refine lv_aload_n hx hb d_C_putField_0 rfl (lv_at hl 0 rfl) ?_
    refine lv_iload_n hx hb d_C_putField_1 rfl (lv_at hl 1 rfl) ?_
    refine vp_callSi (va_Run.run (r_U (owner := "StackRoom$Context") (n := 1) (rest := []) C0 [.int (nI k)] (k_C_hasField l hR hi ht0 (nI k)) ml_C_C_hasField sm_C_C_hasField se_B_C_hasField_C im_C_hasField ini_C co_C_hasField rfl (by decide +kernel) (g_preV (ci := 4) hK hP rfl (hR.c4 h4)) hl.1 d_C_putField_2 rfl rfl (Nat.le_of_ble_eq_true rfl) ⟨rfl, rfl⟩ ⟨Nat.le_of_ble_eq_true rfl, Nat.le_of_ble_eq_true rfl⟩ ⟨Nat.le_of_ble_eq_true rfl, Nat.le_of_ble_eq_true rfl⟩)) (fun q eq => ?_)
    rw [if_pos ⟨nI_pos' (by omega), (nI_ltI (by omega) (by omega)).mpr hk⟩] at eq
    refine lv_if_eq (tgt := 15) hx hb d_C_putField_5 (by decide) (fun c5 => ?_) (fun c5 => ?_)
    · exact absurd (eq.symm.trans c5) (by decide)
    · refine lv_aload_n hx hb d_C_putField_8 rfl (lv_at hl 0 rfl) ?_
      refine va_get (D := D) (ci := 4) (C := "StackRoom$BlockContext") (T := T_B) (N := 8) (v := .ref (fa i)) hx hb ht in_B hown hK.1 (hP.one (hR.c4 h4)) 0 rfl rfl 5 (by decide) (ht _ fl_C_C_fields) (fun _ h9 => h9) rfl d_C_putField_9 ?_
      refine lv_iload_n hx hb d_C_putField_12 rfl (lv_at hl 1 rfl) ?_
      refine lv_aload_nN hx hb d_C_putField_13 rfl (lv_at hl 2 rfl) ?_
      refine gw_astqN hx hb hK.1 hP hS 0 (hR.ca hi) ht0 (vp_in_nI hk (by omega)) d_C_putField_14 (fun H locs hP hS => ?_)
      rw [nI_clamp (by omega)] at hP
      obtain ⟨G2, eG2⟩ : ∃ z : gw_G, z = va_up G (fa i) (some (.inl (cV, s_rm σ i, qv (va_up (fr i) k none)))) := ⟨_, rfl⟩
      have hP : gw_P D vwCl (gw_A G s.heap.size) G2 H := by rw [eG2]; exact hP
      exact W.vret hx hb hr (fun t ht hW => ⟨⟨G2, rfl, eG2, g_fin ht hP⟩, hS.F ht⟩) hS.2.2 d_C_putField_15
set_option maxHeartbeats 4000000 in
set_option maxRecDepth 100000 in
theorem k_C_putField_R (l : Launch) (hR : c_Rep w n rd md cV cT σ x ra rt ad fa ρ fr rr rf rc wl el cr G) {i : Nat} (hi : s_isC σ i) (ht0 : tys[0]? = some (cV, .object "StackRoom$Value")) (hI : s_I σ) {k : Nat} (hk : k < s_rm σ i) {a : Nat} (hv : c_isv G a) : Met l y_C_putField w_C_putField ({ frames := 1, cells := 0, slots := 0, locals := 21 }) (g_pre D tys G sz [.ref (ad i), .int (nI k), .ref a]) (va_Qv (fun G1 : gw_G => G1 = va_up G (fa i) (some (.inl (cV, s_rm σ i, qv (va_up (fr i) k (some a)))))) (g_end D G sz) (gw_A G sz)) 0 0 (gw_A G sz) := by
  refine Met.ofW (cc := b_C_putField) (maxL := 3) (ret := none) (by decide) rfl ?_
  intro p e s m args below meth c s₁ B hml hv
  obtain ⟨rfl, hsz, hP, hK⟩ := hv
  have hx := B.exec
  have hb := B.bytes
  have hr := B.returns
  have ht := fun w (hw : w ∈ gt) => atoms_spec (ws := w_C_putField) B.pre w (List.mem_cons_of_mem _ hw)
  have hown : s.vm.findClass "StackRoom$Context" = some m.cls := findClass_of_methodNamed B.named
  have hlocks := B.notSynchronized
  have C0 : CallFix p m c b_C_putField 3 s [.ref (ad i), .int (nI k), .ref a].toArray gt "StackRoom$Context" := ⟨hx, hb, hml, hown, ht⟩
  subst hsz
  have hP := hP.self (sz := s.heap.size)
  have hA : ∀ q : Nat, s.heap.size ≤ q → gw_A G s.heap.size q := fun q h => Or.inr h
  have hS : va_S (gw_A G s.heap.size) s.heap s.heap [] := va_S.rf
  have hl := lv_entry ([.ref (ad i), .int (nI k), .ref a]) (n := 3) (Nat.le_of_ble_eq_true rfl)
  rw [lg_entry_eq]
  generalize (lg_sl ([.ref (ad i), .int (nI k), .ref a]) ++ List.replicate (3 - (lg_sl ([.ref (ad i), .int (nI k), .ref a])).length) Slot.unset).toArray = ls at hl ⊢
  have hl : lv_has ls 3 [(0, .ref (ad i)), (1, .int (nI k)), (2, .ref a)] := hl
  have hb9 := (hI.2.2.2.2.2.2 i hi).2.2.1
  rcases id hi with h3 | h4
  · refine lv_aload_n hx hb d_C_putField_0 rfl (lv_at hl 0 rfl) ?_
    refine lv_iload_n hx hb d_C_putField_1 rfl (lv_at hl 1 rfl) ?_
    refine vp_callSi (va_Run.run (r_U (owner := "StackRoom$Context") (n := 1) (rest := []) C0 [.int (nI k)] (k_C_hasField l hR hi ht0 (nI k)) ml_C_C_hasField sm_C_C_hasField se_X_C_hasField_C im_C_hasField ini_C co_C_hasField rfl (by decide +kernel) (g_preV (ci := 3) hK hP rfl (hR.c3 h3)) hl.1 d_C_putField_2 rfl rfl (Nat.le_of_ble_eq_true rfl) ⟨rfl, rfl⟩ ⟨Nat.le_of_ble_eq_true rfl, Nat.le_of_ble_eq_true rfl⟩ ⟨Nat.le_of_ble_eq_true rfl, Nat.le_of_ble_eq_true rfl⟩)) (fun q eq => ?_)
    rw [if_pos ⟨nI_pos' (by omega), (nI_ltI (by omega) (by omega)).mpr hk⟩] at eq
    refine lv_if_eq (tgt := 15) hx hb d_C_putField_5 (by decide) (fun c5 => ?_) (fun c5 => ?_)
    · exact absurd (eq.symm.trans c5) (by decide)
    · refine lv_aload_n hx hb d_C_putField_8 rfl (lv_at hl 0 rfl) ?_
      refine va_get (D := D) (ci := 3) (C := "StackRoom$MethodContext") (T := T_X) (N := 7) (v := .ref (fa i)) hx hb ht in_X hown hK.1 (hP.one (hR.c3 h3)) 0 rfl rfl 5 (by decide) (ht _ fl_C_C_fields) (fun _ h9 => h9) rfl d_C_putField_9 ?_
      refine lv_iload_n hx hb d_C_putField_12 rfl (lv_at hl 1 rfl) ?_
      refine lv_aload_n hx hb d_C_putField_13 rfl (lv_at hl 2 rfl) ?_
      refine gw_astqM hx hb hK.1 hP hS 0 (hR.ca hi) ht0 (c_any hK hP hv) (vp_in_nI hk (by omega)) d_C_putField_14 (fun H locs hP hS => ?_)
      rw [nI_clamp (by omega)] at hP
      obtain ⟨G1, eG1⟩ : ∃ z : gw_G, z = va_up G (fa i) (some (.inl (cV, s_rm σ i, qv (va_up (fr i) k (some a))))) := ⟨_, rfl⟩
      have hP : gw_P D vwCl (gw_A G s.heap.size) G1 H := by rw [eG1]; exact hP
      exact W.vret hx hb hr (fun t ht hW => ⟨⟨G1, rfl, eG1, g_fin ht hP⟩, hS.F ht⟩) hS.2.2 d_C_putField_15
  · refine lv_aload_n hx hb d_C_putField_0 rfl (lv_at hl 0 rfl) ?_
    refine lv_iload_n hx hb d_C_putField_1 rfl (lv_at hl 1 rfl) ?_
    refine vp_callSi (va_Run.run (r_U (owner := "StackRoom$Context") (n := 1) (rest := []) C0 [.int (nI k)] (k_C_hasField l hR hi ht0 (nI k)) ml_C_C_hasField sm_C_C_hasField se_B_C_hasField_C im_C_hasField ini_C co_C_hasField rfl (by decide +kernel) (g_preV (ci := 4) hK hP rfl (hR.c4 h4)) hl.1 d_C_putField_2 rfl rfl (Nat.le_of_ble_eq_true rfl) ⟨rfl, rfl⟩ ⟨Nat.le_of_ble_eq_true rfl, Nat.le_of_ble_eq_true rfl⟩ ⟨Nat.le_of_ble_eq_true rfl, Nat.le_of_ble_eq_true rfl⟩)) (fun q eq => ?_)
    rw [if_pos ⟨nI_pos' (by omega), (nI_ltI (by omega) (by omega)).mpr hk⟩] at eq
    refine lv_if_eq (tgt := 15) hx hb d_C_putField_5 (by decide) (fun c5 => ?_) (fun c5 => ?_)
    · exact absurd (eq.symm.trans c5) (by decide)
    · refine lv_aload_n hx hb d_C_putField_8 rfl (lv_at hl 0 rfl) ?_
      refine va_get (D := D) (ci := 4) (C := "StackRoom$BlockContext") (T := T_B) (N := 8) (v := .ref (fa i)) hx hb ht in_B hown hK.1 (hP.one (hR.c4 h4)) 0 rfl rfl 5 (by decide) (ht _ fl_C_C_fields) (fun _ h9 => h9) rfl d_C_putField_9 ?_
      refine lv_iload_n hx hb d_C_putField_12 rfl (lv_at hl 1 rfl) ?_
      refine lv_aload_n hx hb d_C_putField_13 rfl (lv_at hl 2 rfl) ?_
      refine gw_astqM hx hb hK.1 hP hS 0 (hR.ca hi) ht0 (c_any hK hP hv) (vp_in_nI hk (by omega)) d_C_putField_14 (fun H locs hP hS => ?_)
      rw [nI_clamp (by omega)] at hP
      obtain ⟨G2, eG2⟩ : ∃ z : gw_G, z = va_up G (fa i) (some (.inl (cV, s_rm σ i, qv (va_up (fr i) k (some a))))) := ⟨_, rfl⟩
      have hP : gw_P D vwCl (gw_A G s.heap.size) G2 H := by rw [eG2]; exact hP
      exact W.vret hx hb hr (fun t ht hW => ⟨⟨G2, rfl, eG2, g_fin ht hP⟩, hS.F ht⟩) hS.2.2 d_C_putField_15
theorem k_C_putField (l : Launch) (hR : c_Rep w n rd md cV cT σ x ra rt ad fa ρ fr rr rf rc wl el cr G) {i : Nat} (hi : s_isC σ i) (ht0 : tys[0]? = some (cV, .object "StackRoom$Value")) (hI : s_I σ) {k : Nat} (hk : k < s_rm σ i) {r : Option Nat} (hv : ∀ a, r = some a → c_isv G a) : Met l y_C_putField w_C_putField ({ frames := 1, cells := 0, slots := 0, locals := 21 }) (g_pre D tys G sz [.ref (ad i), .int (nI k), va_rf r]) (va_Qv (fun G1 : gw_G => G1 = va_up G (fa i) (some (.inl (cV, s_rm σ i, qv (va_up (fr i) k r))))) (g_end D G sz) (gw_A G sz)) 0 0 (gw_A G sz) := by
  cases r with
  | none => exact k_C_putField_N l hR hi ht0 hI hk
  | some a => exact k_C_putField_R l hR hi ht0 hI hk (hv a rfl)
set_option maxHeartbeats 4000000 in
set_option maxRecDepth 100000 in
theorem k_C_pushOne_N (l : Launch) (hR : c_Rep w n rd md cV cT σ x ra rt ad fa ρ fr rr rf rc wl el cr G) {i : Nat} (hi : s_isC σ i) (ht0 : tys[0]? = some (cV, .object "StackRoom$Value")) (hO : s_OK w n σ) (hm : s_md σ < 2 ^ 31) (hh : s_ht σ i < s_rm σ i) {v : sV} (hv : ∀ j, v = some (.inr j) → s_rch σ j) (hcv : c_val G ad v none) : Met l y_C_pushOne w_C_pushOne ({ frames := 2, cells := 0, slots := 0, locals := 43 }) (g_pre D tys G sz [.ref (ad i), .null]) (va_Qv (fun G1 : gw_G => c_Rep w n rd md cV cT (s_push σ i v) x ra rt ad fa ρ (va_up fr i (va_up (fr i) (s_ht σ i) none)) rr rf rc wl el cr G1) (g_end D G sz) (gw_A G sz)) 0 0 (gw_A G sz) := by
  refine Met.ofW (cc := b_C_pushOne) (maxL := 2) (ret := none) (by decide) rfl ?_
  intro p e s m args below meth c s₁ B hml hv
  obtain ⟨rfl, hsz, hP, hK⟩ := hv
  have hx := B.exec
  have hb := B.bytes
  have hr := B.returns
  have ht := fun w (hw : w ∈ gt) => atoms_spec (ws := w_C_pushOne) B.pre w (List.mem_cons_of_mem _ hw)
  have hown : s.vm.findClass "StackRoom$Context" = some m.cls := findClass_of_methodNamed B.named
  have hlocks := B.notSynchronized
  have C0 : CallFix p m c b_C_pushOne 2 s [.ref (ad i), .null].toArray gt "StackRoom$Context" := ⟨hx, hb, hml, hown, ht⟩
  subst hsz
  have hP := hP.self (sz := s.heap.size)
  have hA : ∀ q : Nat, s.heap.size ≤ q → gw_A G s.heap.size q := fun q h => Or.inr h
  have hS : va_S (gw_A G s.heap.size) s.heap s.heap [] := va_S.rf
  have hl := lv_entry ([.ref (ad i), .null]) (n := 2) (Nat.le_of_ble_eq_true rfl)
  rw [lg_entry_eq]
  generalize (lg_sl ([.ref (ad i), .null]) ++ List.replicate (2 - (lg_sl ([.ref (ad i), .null])).length) Slot.unset).toArray = ls at hl ⊢
  have hl : lv_has ls 2 [(0, .ref (ad i)), (1, .null)] := hl
  have hvv := c_val_isv hR hO.1 hcv (fun j e => s_rch_kd hO.1 (hv j e))
  rcases id hi with h3 | h4
  · refine lv_aload_n hx hb d_C_pushOne_0 rfl (lv_at hl 0 rfl) ?_
    refine lv_aload_n hx hb d_C_pushOne_1 rfl (lv_at hl 0 rfl) ?_
    refine va_get (D := D) (ci := 3) (C := "StackRoom$MethodContext") (T := T_X) (N := 7) (v := .int (nI (s_ht σ i))) hx hb ht in_X hown hK.1 (hP.one (hR.c3 h3)) 0 rfl rfl 4 (by decide) (ht _ fl_C_C_height) (fun _ h9 => h9) rfl d_C_pushOne_2 ?_
    refine lv_aload_nN hx hb d_C_pushOne_5 rfl (lv_at hl 1 rfl) ?_
    refine g_callv hP hS hA (r_U (owner := "StackRoom$Context") (n := 2) (rest := []) C0 [.int (nI (s_ht σ i)), .null] (k_C_putField l hR hi ht0 hO.1 hh (r := none) hvv) ml_C_C_putField sm_C_C_putField se_X_C_putField_C im_C_putField ini_C co_C_putField rfl (by decide +kernel) (g_preV (ci := 3) hK hP rfl (hR.c3 h3)) hl.1 d_C_pushOne_6 rfl rfl (Nat.le_of_ble_eq_true rfl) ⟨rfl, rfl⟩ ⟨Nat.le_of_ble_eq_true rfl, Nat.le_of_ble_eq_true rfl⟩ ⟨Nat.le_of_ble_eq_true rfl, Nat.le_of_ble_eq_true rfl⟩) (fun G1 H locs eG1 hP hS hz9 hk9 => ?_)
    have hR1 := hR.fld (k := s_ht σ i) hi hcv
    rw [← eG1] at hR1
    have hO1 := s_setF_OK (i := i) (k := s_ht σ i) hO hv
    refine lv_aload_n hx hb d_C_pushOne_9 rfl (lv_at hl 0 rfl) ?_
    refine lv_dup hx hb d_C_pushOne_10 rfl ?_
    refine va_get (D := D) (ci := 3) (C := "StackRoom$MethodContext") (T := T_X) (N := 7) (v := .int (nI (s_ht σ i))) hx hb ht in_X hown hK.1 (hP.one (hR1.c3 (i := i) h3)) 0 rfl rfl 4 (by decide) (ht _ fl_C_C_height) (fun _ h9 => h9) rfl d_C_pushOne_11 ?_
    refine lv_iconst (v := 1) hx hb d_C_pushOne_14 (by decide) ?_
    refine lv_iadd hx hb d_C_pushOne_15 ?_
    refine gw_put (D := D) (cl := vwCl) (ci := 3) (C := "StackRoom$MethodContext") (T := T_X) (N := 7) (v := .int ((nI (s_ht σ i)) + 1)) (ty := .int) hx hb ht in_X ty_X tk_X nm_X hown hK.1 hP hS (hR1.c3 (i := i) h3) rfl 4 (by decide) (ht _ fl_C_C_height) (fun _ h9 => h9) rfl (by decide +kernel) rfl rfl (Nat.le_of_ble_eq_true rfl) d_C_pushOne_16 (fun H locs hP hS => ?_)
    obtain ⟨G2, eG2⟩ : ∃ z : gw_G, z = va_up G1 (ad i) (some (.inr (3, [.int (nI i), .int (ρ i), va_rf ((s_sn σ i).map ad), .int (s_de σ i), .int ((nI (s_ht σ i)) + 1), .ref (fa i), .ref (ad (s_og σ i))]))) := ⟨_, rfl⟩
    have hP : gw_P D vwCl (gw_A G s.heap.size) G2 H := by rw [eG2]; exact hP
    have f2 : G2 (ad i) = some (.inr (3, [.int (nI i), .int (ρ i), va_rf ((s_sn σ i).map ad), .int (s_de σ i), .int ((nI (s_ht σ i)) + 1), .ref (fa i), .ref (ad (s_og σ i))])) := by rw [eG2]; exact va_up_self _ _ _
    have e9 : (nI (s_ht σ i) + 1) = nI (s_ht σ i + 1) := nI_1 _
    have hR2 := hR1.obj (i := i) (τ := s_push σ i v) (ρ' := ρ) hO1.1 hm (by rcases hi with e | e <;> (show s_kd σ i ≠ 0; omega)) rfl rfl rfl rfl (fun j hj => by unfold c_cell; rw [show s_ht (s_push σ i v) j = s_ht (s_setF σ i (s_ht σ i) v) j from va_up_ne _ _ hj]; rfl) (fun j hj => hR1.2.2.2.2.2.2.2.2.2 j hj)
    have e8 : c_cell (s_push σ i v) ad fa ρ i = .inr (3, [.int (nI i), .int (ρ i), va_rf ((s_sn σ i).map ad), .int (s_de σ i), .int ((nI (s_ht σ i)) + 1), .ref (fa i), .ref (ad (s_og σ i))]) := by unfold c_cell; rw [show s_kd (s_push σ i v) i = 3 from h3, show s_ht (s_push σ i v) i = s_ht σ i + 1 from va_up_self _ _ _, ← nI_1]; rfl
    rw [e8, ← eG2] at hR2
    exact W.vret hx hb hr (fun t ht hW => ⟨⟨G2, rfl, hR2, g_fin ht hP⟩, hS.F ht⟩) hS.2.2 d_C_pushOne_19
  · refine lv_aload_n hx hb d_C_pushOne_0 rfl (lv_at hl 0 rfl) ?_
    refine lv_aload_n hx hb d_C_pushOne_1 rfl (lv_at hl 0 rfl) ?_
    refine va_get (D := D) (ci := 4) (C := "StackRoom$BlockContext") (T := T_B) (N := 8) (v := .int (nI (s_ht σ i))) hx hb ht in_B hown hK.1 (hP.one (hR.c4 h4)) 0 rfl rfl 4 (by decide) (ht _ fl_C_C_height) (fun _ h9 => h9) rfl d_C_pushOne_2 ?_
    refine lv_aload_nN hx hb d_C_pushOne_5 rfl (lv_at hl 1 rfl) ?_
    refine g_callv hP hS hA (r_U (owner := "StackRoom$Context") (n := 2) (rest := []) C0 [.int (nI (s_ht σ i)), .null] (k_C_putField l hR hi ht0 hO.1 hh (r := none) hvv) ml_C_C_putField sm_C_C_putField se_B_C_putField_C im_C_putField ini_C co_C_putField rfl (by decide +kernel) (g_preV (ci := 4) hK hP rfl (hR.c4 h4)) hl.1 d_C_pushOne_6 rfl rfl (Nat.le_of_ble_eq_true rfl) ⟨rfl, rfl⟩ ⟨Nat.le_of_ble_eq_true rfl, Nat.le_of_ble_eq_true rfl⟩ ⟨Nat.le_of_ble_eq_true rfl, Nat.le_of_ble_eq_true rfl⟩) (fun G1 H locs eG1 hP hS hz9 hk9 => ?_)
    have hR1 := hR.fld (k := s_ht σ i) hi hcv
    rw [← eG1] at hR1
    have hO1 := s_setF_OK (i := i) (k := s_ht σ i) hO hv
    refine lv_aload_n hx hb d_C_pushOne_9 rfl (lv_at hl 0 rfl) ?_
    refine lv_dup hx hb d_C_pushOne_10 rfl ?_
    refine va_get (D := D) (ci := 4) (C := "StackRoom$BlockContext") (T := T_B) (N := 8) (v := .int (nI (s_ht σ i))) hx hb ht in_B hown hK.1 (hP.one (hR1.c4 (i := i) h4)) 0 rfl rfl 4 (by decide) (ht _ fl_C_C_height) (fun _ h9 => h9) rfl d_C_pushOne_11 ?_
    refine lv_iconst (v := 1) hx hb d_C_pushOne_14 (by decide) ?_
    refine lv_iadd hx hb d_C_pushOne_15 ?_
    refine gw_put (D := D) (cl := vwCl) (ci := 4) (C := "StackRoom$BlockContext") (T := T_B) (N := 8) (v := .int ((nI (s_ht σ i)) + 1)) (ty := .int) hx hb ht in_B ty_B tk_B nm_B hown hK.1 hP hS (hR1.c4 (i := i) h4) rfl 4 (by decide) (ht _ fl_C_C_height) (fun _ h9 => h9) rfl (by decide +kernel) rfl rfl (Nat.le_of_ble_eq_true rfl) d_C_pushOne_16 (fun H locs hP hS => ?_)
    obtain ⟨G2, eG2⟩ : ∃ z : gw_G, z = va_up G1 (ad i) (some (.inr (4, [.int (nI i), .int (ρ i), va_rf ((s_sn σ i).map ad), .int (s_de σ i), .int ((nI (s_ht σ i)) + 1), .ref (fa i), .ref (ad (s_og σ i)), .int (s_ct σ i)]))) := ⟨_, rfl⟩
    have hP : gw_P D vwCl (gw_A G s.heap.size) G2 H := by rw [eG2]; exact hP
    have f2 : G2 (ad i) = some (.inr (4, [.int (nI i), .int (ρ i), va_rf ((s_sn σ i).map ad), .int (s_de σ i), .int ((nI (s_ht σ i)) + 1), .ref (fa i), .ref (ad (s_og σ i)), .int (s_ct σ i)])) := by rw [eG2]; exact va_up_self _ _ _
    have e9 : (nI (s_ht σ i) + 1) = nI (s_ht σ i + 1) := nI_1 _
    have hR2 := hR1.obj (i := i) (τ := s_push σ i v) (ρ' := ρ) hO1.1 hm (by rcases hi with e | e <;> (show s_kd σ i ≠ 0; omega)) rfl rfl rfl rfl (fun j hj => by unfold c_cell; rw [show s_ht (s_push σ i v) j = s_ht (s_setF σ i (s_ht σ i) v) j from va_up_ne _ _ hj]; rfl) (fun j hj => hR1.2.2.2.2.2.2.2.2.2 j hj)
    have e8 : c_cell (s_push σ i v) ad fa ρ i = .inr (4, [.int (nI i), .int (ρ i), va_rf ((s_sn σ i).map ad), .int (s_de σ i), .int ((nI (s_ht σ i)) + 1), .ref (fa i), .ref (ad (s_og σ i)), .int (s_ct σ i)]) := by unfold c_cell; rw [show s_kd (s_push σ i v) i = 4 from h4, show s_ht (s_push σ i v) i = s_ht σ i + 1 from va_up_self _ _ _, ← nI_1]; rfl
    rw [e8, ← eG2] at hR2
    exact W.vret hx hb hr (fun t ht hW => ⟨⟨G2, rfl, hR2, g_fin ht hP⟩, hS.F ht⟩) hS.2.2 d_C_pushOne_19
set_option maxHeartbeats 4000000 in
set_option maxRecDepth 100000 in
theorem k_C_pushOne_R (l : Launch) (hR : c_Rep w n rd md cV cT σ x ra rt ad fa ρ fr rr rf rc wl el cr G) {i : Nat} (hi : s_isC σ i) (ht0 : tys[0]? = some (cV, .object "StackRoom$Value")) (hO : s_OK w n σ) (hm : s_md σ < 2 ^ 31) (hh : s_ht σ i < s_rm σ i) {v : sV} (hv : ∀ j, v = some (.inr j) → s_rch σ j) {a : Nat} (hcv : c_val G ad v (some a)) : Met l y_C_pushOne w_C_pushOne ({ frames := 2, cells := 0, slots := 0, locals := 43 }) (g_pre D tys G sz [.ref (ad i), .ref a]) (va_Qv (fun G1 : gw_G => c_Rep w n rd md cV cT (s_push σ i v) x ra rt ad fa ρ (va_up fr i (va_up (fr i) (s_ht σ i) (some a))) rr rf rc wl el cr G1) (g_end D G sz) (gw_A G sz)) 0 0 (gw_A G sz) := by
  refine Met.ofW (cc := b_C_pushOne) (maxL := 2) (ret := none) (by decide) rfl ?_
  intro p e s m args below meth c s₁ B hml hv
  obtain ⟨rfl, hsz, hP, hK⟩ := hv
  have hx := B.exec
  have hb := B.bytes
  have hr := B.returns
  have ht := fun w (hw : w ∈ gt) => atoms_spec (ws := w_C_pushOne) B.pre w (List.mem_cons_of_mem _ hw)
  have hown : s.vm.findClass "StackRoom$Context" = some m.cls := findClass_of_methodNamed B.named
  have hlocks := B.notSynchronized
  have C0 : CallFix p m c b_C_pushOne 2 s [.ref (ad i), .ref a].toArray gt "StackRoom$Context" := ⟨hx, hb, hml, hown, ht⟩
  subst hsz
  have hP := hP.self (sz := s.heap.size)
  have hA : ∀ q : Nat, s.heap.size ≤ q → gw_A G s.heap.size q := fun q h => Or.inr h
  have hS : va_S (gw_A G s.heap.size) s.heap s.heap [] := va_S.rf
  have hl := lv_entry ([.ref (ad i), .ref a]) (n := 2) (Nat.le_of_ble_eq_true rfl)
  rw [lg_entry_eq]
  generalize (lg_sl ([.ref (ad i), .ref a]) ++ List.replicate (2 - (lg_sl ([.ref (ad i), .ref a])).length) Slot.unset).toArray = ls at hl ⊢
  have hl : lv_has ls 2 [(0, .ref (ad i)), (1, .ref a)] := hl
  have hvv := c_val_isv hR hO.1 hcv (fun j e => s_rch_kd hO.1 (hv j e))
  rcases id hi with h3 | h4
  · refine lv_aload_n hx hb d_C_pushOne_0 rfl (lv_at hl 0 rfl) ?_
    refine lv_aload_n hx hb d_C_pushOne_1 rfl (lv_at hl 0 rfl) ?_
    refine va_get (D := D) (ci := 3) (C := "StackRoom$MethodContext") (T := T_X) (N := 7) (v := .int (nI (s_ht σ i))) hx hb ht in_X hown hK.1 (hP.one (hR.c3 h3)) 0 rfl rfl 4 (by decide) (ht _ fl_C_C_height) (fun _ h9 => h9) rfl d_C_pushOne_2 ?_
    refine lv_aload_n hx hb d_C_pushOne_5 rfl (lv_at hl 1 rfl) ?_
    refine g_callv hP hS hA (r_U (owner := "StackRoom$Context") (n := 2) (rest := []) C0 [.int (nI (s_ht σ i)), .ref a] (k_C_putField l hR hi ht0 hO.1 hh (r := (some a)) hvv) ml_C_C_putField sm_C_C_putField se_X_C_putField_C im_C_putField ini_C co_C_putField rfl (by decide +kernel) (g_preV (ci := 3) hK hP rfl (hR.c3 h3)) hl.1 d_C_pushOne_6 rfl rfl (Nat.le_of_ble_eq_true rfl) ⟨rfl, rfl⟩ ⟨Nat.le_of_ble_eq_true rfl, Nat.le_of_ble_eq_true rfl⟩ ⟨Nat.le_of_ble_eq_true rfl, Nat.le_of_ble_eq_true rfl⟩) (fun G1 H locs eG1 hP hS hz9 hk9 => ?_)
    have hR1 := hR.fld (k := s_ht σ i) hi hcv
    rw [← eG1] at hR1
    have hO1 := s_setF_OK (i := i) (k := s_ht σ i) hO hv
    refine lv_aload_n hx hb d_C_pushOne_9 rfl (lv_at hl 0 rfl) ?_
    refine lv_dup hx hb d_C_pushOne_10 rfl ?_
    refine va_get (D := D) (ci := 3) (C := "StackRoom$MethodContext") (T := T_X) (N := 7) (v := .int (nI (s_ht σ i))) hx hb ht in_X hown hK.1 (hP.one (hR1.c3 (i := i) h3)) 0 rfl rfl 4 (by decide) (ht _ fl_C_C_height) (fun _ h9 => h9) rfl d_C_pushOne_11 ?_
    refine lv_iconst (v := 1) hx hb d_C_pushOne_14 (by decide) ?_
    refine lv_iadd hx hb d_C_pushOne_15 ?_
    refine gw_put (D := D) (cl := vwCl) (ci := 3) (C := "StackRoom$MethodContext") (T := T_X) (N := 7) (v := .int ((nI (s_ht σ i)) + 1)) (ty := .int) hx hb ht in_X ty_X tk_X nm_X hown hK.1 hP hS (hR1.c3 (i := i) h3) rfl 4 (by decide) (ht _ fl_C_C_height) (fun _ h9 => h9) rfl (by decide +kernel) rfl rfl (Nat.le_of_ble_eq_true rfl) d_C_pushOne_16 (fun H locs hP hS => ?_)
    obtain ⟨G2, eG2⟩ : ∃ z : gw_G, z = va_up G1 (ad i) (some (.inr (3, [.int (nI i), .int (ρ i), va_rf ((s_sn σ i).map ad), .int (s_de σ i), .int ((nI (s_ht σ i)) + 1), .ref (fa i), .ref (ad (s_og σ i))]))) := ⟨_, rfl⟩
    have hP : gw_P D vwCl (gw_A G s.heap.size) G2 H := by rw [eG2]; exact hP
    have f2 : G2 (ad i) = some (.inr (3, [.int (nI i), .int (ρ i), va_rf ((s_sn σ i).map ad), .int (s_de σ i), .int ((nI (s_ht σ i)) + 1), .ref (fa i), .ref (ad (s_og σ i))])) := by rw [eG2]; exact va_up_self _ _ _
    have e9 : (nI (s_ht σ i) + 1) = nI (s_ht σ i + 1) := nI_1 _
    have hR2 := hR1.obj (i := i) (τ := s_push σ i v) (ρ' := ρ) hO1.1 hm (by rcases hi with e | e <;> (show s_kd σ i ≠ 0; omega)) rfl rfl rfl rfl (fun j hj => by unfold c_cell; rw [show s_ht (s_push σ i v) j = s_ht (s_setF σ i (s_ht σ i) v) j from va_up_ne _ _ hj]; rfl) (fun j hj => hR1.2.2.2.2.2.2.2.2.2 j hj)
    have e8 : c_cell (s_push σ i v) ad fa ρ i = .inr (3, [.int (nI i), .int (ρ i), va_rf ((s_sn σ i).map ad), .int (s_de σ i), .int ((nI (s_ht σ i)) + 1), .ref (fa i), .ref (ad (s_og σ i))]) := by unfold c_cell; rw [show s_kd (s_push σ i v) i = 3 from h3, show s_ht (s_push σ i v) i = s_ht σ i + 1 from va_up_self _ _ _, ← nI_1]; rfl
    rw [e8, ← eG2] at hR2
    exact W.vret hx hb hr (fun t ht hW => ⟨⟨G2, rfl, hR2, g_fin ht hP⟩, hS.F ht⟩) hS.2.2 d_C_pushOne_19
  · refine lv_aload_n hx hb d_C_pushOne_0 rfl (lv_at hl 0 rfl) ?_
    refine lv_aload_n hx hb d_C_pushOne_1 rfl (lv_at hl 0 rfl) ?_
    refine va_get (D := D) (ci := 4) (C := "StackRoom$BlockContext") (T := T_B) (N := 8) (v := .int (nI (s_ht σ i))) hx hb ht in_B hown hK.1 (hP.one (hR.c4 h4)) 0 rfl rfl 4 (by decide) (ht _ fl_C_C_height) (fun _ h9 => h9) rfl d_C_pushOne_2 ?_
    refine lv_aload_n hx hb d_C_pushOne_5 rfl (lv_at hl 1 rfl) ?_
    refine g_callv hP hS hA (r_U (owner := "StackRoom$Context") (n := 2) (rest := []) C0 [.int (nI (s_ht σ i)), .ref a] (k_C_putField l hR hi ht0 hO.1 hh (r := (some a)) hvv) ml_C_C_putField sm_C_C_putField se_B_C_putField_C im_C_putField ini_C co_C_putField rfl (by decide +kernel) (g_preV (ci := 4) hK hP rfl (hR.c4 h4)) hl.1 d_C_pushOne_6 rfl rfl (Nat.le_of_ble_eq_true rfl) ⟨rfl, rfl⟩ ⟨Nat.le_of_ble_eq_true rfl, Nat.le_of_ble_eq_true rfl⟩ ⟨Nat.le_of_ble_eq_true rfl, Nat.le_of_ble_eq_true rfl⟩) (fun G1 H locs eG1 hP hS hz9 hk9 => ?_)
    have hR1 := hR.fld (k := s_ht σ i) hi hcv
    rw [← eG1] at hR1
    have hO1 := s_setF_OK (i := i) (k := s_ht σ i) hO hv
    refine lv_aload_n hx hb d_C_pushOne_9 rfl (lv_at hl 0 rfl) ?_
    refine lv_dup hx hb d_C_pushOne_10 rfl ?_
    refine va_get (D := D) (ci := 4) (C := "StackRoom$BlockContext") (T := T_B) (N := 8) (v := .int (nI (s_ht σ i))) hx hb ht in_B hown hK.1 (hP.one (hR1.c4 (i := i) h4)) 0 rfl rfl 4 (by decide) (ht _ fl_C_C_height) (fun _ h9 => h9) rfl d_C_pushOne_11 ?_
    refine lv_iconst (v := 1) hx hb d_C_pushOne_14 (by decide) ?_
    refine lv_iadd hx hb d_C_pushOne_15 ?_
    refine gw_put (D := D) (cl := vwCl) (ci := 4) (C := "StackRoom$BlockContext") (T := T_B) (N := 8) (v := .int ((nI (s_ht σ i)) + 1)) (ty := .int) hx hb ht in_B ty_B tk_B nm_B hown hK.1 hP hS (hR1.c4 (i := i) h4) rfl 4 (by decide) (ht _ fl_C_C_height) (fun _ h9 => h9) rfl (by decide +kernel) rfl rfl (Nat.le_of_ble_eq_true rfl) d_C_pushOne_16 (fun H locs hP hS => ?_)
    obtain ⟨G2, eG2⟩ : ∃ z : gw_G, z = va_up G1 (ad i) (some (.inr (4, [.int (nI i), .int (ρ i), va_rf ((s_sn σ i).map ad), .int (s_de σ i), .int ((nI (s_ht σ i)) + 1), .ref (fa i), .ref (ad (s_og σ i)), .int (s_ct σ i)]))) := ⟨_, rfl⟩
    have hP : gw_P D vwCl (gw_A G s.heap.size) G2 H := by rw [eG2]; exact hP
    have f2 : G2 (ad i) = some (.inr (4, [.int (nI i), .int (ρ i), va_rf ((s_sn σ i).map ad), .int (s_de σ i), .int ((nI (s_ht σ i)) + 1), .ref (fa i), .ref (ad (s_og σ i)), .int (s_ct σ i)])) := by rw [eG2]; exact va_up_self _ _ _
    have e9 : (nI (s_ht σ i) + 1) = nI (s_ht σ i + 1) := nI_1 _
    have hR2 := hR1.obj (i := i) (τ := s_push σ i v) (ρ' := ρ) hO1.1 hm (by rcases hi with e | e <;> (show s_kd σ i ≠ 0; omega)) rfl rfl rfl rfl (fun j hj => by unfold c_cell; rw [show s_ht (s_push σ i v) j = s_ht (s_setF σ i (s_ht σ i) v) j from va_up_ne _ _ hj]; rfl) (fun j hj => hR1.2.2.2.2.2.2.2.2.2 j hj)
    have e8 : c_cell (s_push σ i v) ad fa ρ i = .inr (4, [.int (nI i), .int (ρ i), va_rf ((s_sn σ i).map ad), .int (s_de σ i), .int ((nI (s_ht σ i)) + 1), .ref (fa i), .ref (ad (s_og σ i)), .int (s_ct σ i)]) := by unfold c_cell; rw [show s_kd (s_push σ i v) i = 4 from h4, show s_ht (s_push σ i v) i = s_ht σ i + 1 from va_up_self _ _ _, ← nI_1]; rfl
    rw [e8, ← eG2] at hR2
    exact W.vret hx hb hr (fun t ht hW => ⟨⟨G2, rfl, hR2, g_fin ht hP⟩, hS.F ht⟩) hS.2.2 d_C_pushOne_19
theorem k_C_pushOne (l : Launch) (hR : c_Rep w n rd md cV cT σ x ra rt ad fa ρ fr rr rf rc wl el cr G) {i : Nat} (hi : s_isC σ i) (ht0 : tys[0]? = some (cV, .object "StackRoom$Value")) (hO : s_OK w n σ) (hm : s_md σ < 2 ^ 31) (hh : s_ht σ i < s_rm σ i) {v : sV} (hv : ∀ j, v = some (.inr j) → s_rch σ j) {r : Option Nat} (hcv : c_val G ad v r) : Met l y_C_pushOne w_C_pushOne ({ frames := 2, cells := 0, slots := 0, locals := 43 }) (g_pre D tys G sz [.ref (ad i), va_rf r]) (va_Qv (fun G1 : gw_G => c_Rep w n rd md cV cT (s_push σ i v) x ra rt ad fa ρ (va_up fr i (va_up (fr i) (s_ht σ i) r)) rr rf rc wl el cr G1) (g_end D G sz) (gw_A G sz)) 0 0 (gw_A G sz) := by
  cases r with
  | none => exact k_C_pushOne_N l hR hi ht0 hO hm hh hv hcv
  | some a => exact k_C_pushOne_R l hR hi ht0 hO hm hh hv hcv
set_option maxHeartbeats 4000000 in
set_option maxRecDepth 100000 in
theorem k_C_popOne (l : Launch) (hR : c_Rep w n rd md cV cT σ x ra rt ad fa ρ fr rr rf rc wl el cr G) {i : Nat} (hi : s_isC σ i) (ht0 : tys[0]? = some (cV, .object "StackRoom$Value")) (hO : s_OK w n σ) (hm : s_md σ < 2 ^ 31) (hh : 0 < s_ht σ i) : Met l y_C_popOne w_C_popOne ({ frames := 2, cells := 0, slots := 0, locals := 43 }) (g_pre D tys G sz [.ref (ad i)]) (va_Qq (fun (rz : Option Nat) (G1 : gw_G) => rz = fr i (s_ht σ i - 1) ∧ c_Rep w n rd md cV cT (s_pop σ i) x ra rt ad fa ρ (va_up fr i (va_up (fr i) (s_ht σ i - 1) none)) rr rf rc wl el cr G1) (g_end D G sz) (gw_A G sz)) 0 0 (gw_A G sz) := by
  refine Met.ofW (cc := b_C_popOne) (maxL := 2) (ret := (some (.object "StackRoom$Value"))) (by decide) rfl ?_
  intro p e s m args below meth c s₁ B hml hv
  obtain ⟨rfl, hsz, hP, hK⟩ := hv
  have hx := B.exec
  have hb := B.bytes
  have hr := B.returns
  have ht := fun w (hw : w ∈ gt) => atoms_spec (ws := w_C_popOne) B.pre w (List.mem_cons_of_mem _ hw)
  have hown : s.vm.findClass "StackRoom$Context" = some m.cls := findClass_of_methodNamed B.named
  have hlocks := B.notSynchronized
  have C0 : CallFix p m c b_C_popOne 2 s [.ref (ad i)].toArray gt "StackRoom$Context" := ⟨hx, hb, hml, hown, ht⟩
  subst hsz
  have hP := hP.self (sz := s.heap.size)
  have hA : ∀ q : Nat, s.heap.size ≤ q → gw_A G s.heap.size q := fun q h => Or.inr h
  have hS : va_S (gw_A G s.heap.size) s.heap s.heap [] := va_S.rf
  have hl := lv_entry ([.ref (ad i)]) (n := 2) (Nat.le_of_ble_eq_true rfl)
  rw [lg_entry_eq]
  generalize (lg_sl ([.ref (ad i)]) ++ List.replicate (2 - (lg_sl ([.ref (ad i)])).length) Slot.unset).toArray = ls at hl ⊢
  have hl : lv_has ls 2 [(0, .ref (ad i))] := hl
  rcases id hi with h3 | h4
  · refine lv_aload_n hx hb d_C_popOne_0 rfl (lv_at hl 0 rfl) ?_
    refine lv_dup hx hb d_C_popOne_1 rfl ?_
    refine va_get (D := D) (ci := 3) (C := "StackRoom$MethodContext") (T := T_X) (N := 7) (v := .int (nI (s_ht σ i))) hx hb ht in_X hown hK.1 (hP.one (hR.c3 h3)) 0 rfl rfl 4 (by decide) (ht _ fl_C_C_height) (fun _ h9 => h9) rfl d_C_popOne_2 ?_
    refine lv_iconst (v := 1) hx hb d_C_popOne_5 (by decide) ?_
    refine lv_isub hx hb d_C_popOne_6 ?_
    refine gw_put (D := D) (cl := vwCl) (ci := 3) (C := "StackRoom$MethodContext") (T := T_X) (N := 7) (v := .int ((nI (s_ht σ i)) - 1)) (ty := .int) hx hb ht in_X ty_X tk_X nm_X hown hK.1 hP hS (hR.c3 h3) rfl 4 (by decide) (ht _ fl_C_C_height) (fun _ h9 => h9) rfl (by decide +kernel) rfl rfl (Nat.le_of_ble_eq_true rfl) d_C_popOne_7 (fun H locs hP hS => ?_)
    obtain ⟨G1, eG1⟩ : ∃ z : gw_G, z = va_up G (ad i) (some (.inr (3, [.int (nI i), .int (ρ i), va_rf ((s_sn σ i).map ad), .int (s_de σ i), .int ((nI (s_ht σ i)) - 1), .ref (fa i), .ref (ad (s_og σ i))]))) := ⟨_, rfl⟩
    have hP : gw_P D vwCl (gw_A G s.heap.size) G1 H := by rw [eG1]; exact hP
    have f1 : G1 (ad i) = some (.inr (3, [.int (nI i), .int (ρ i), va_rf ((s_sn σ i).map ad), .int (s_de σ i), .int ((nI (s_ht σ i)) - 1), .ref (fa i), .ref (ad (s_og σ i))])) := by rw [eG1]; exact va_up_self _ _ _
    have e9 : (nI (s_ht σ i) - 1) = nI (s_ht σ i - 1) := pk_sub (b := 1) hh
    have hR1 := hR.obj (i := i) (τ := s_setH σ i (s_ht σ i - 1)) (ρ' := ρ) hO.1 hm (by rcases hi with e | e <;> omega) rfl rfl rfl rfl (fun j hj => by unfold c_cell; rw [show s_ht (s_setH σ i (s_ht σ i - 1)) j = s_ht σ j from va_up_ne _ _ hj]; rfl) (fun j hj => hR.2.2.2.2.2.2.2.2.2 j hj)
    have e8 : c_cell (s_setH σ i (s_ht σ i - 1)) ad fa ρ i = .inr (3, [.int (nI i), .int (ρ i), va_rf ((s_sn σ i).map ad), .int (s_de σ i), .int ((nI (s_ht σ i)) - 1), .ref (fa i), .ref (ad (s_og σ i))]) := by unfold c_cell; rw [show s_kd (s_setH σ i (s_ht σ i - 1)) i = 3 from h3, show s_ht (s_setH σ i (s_ht σ i - 1)) i = s_ht σ i - 1 from va_up_self _ _ _, e9]; rfl
    rw [e8, ← eG1] at hR1
    have hO1 : s_OK w n (s_setH σ i (s_ht σ i - 1)) := s_setH_OK hO (by have := (hO.1.2.2.2.2.2.2 i hi).2.1; omega)
    refine lv_aload_n hx hb d_C_popOne_10 rfl (lv_at hl 0 rfl) ?_
    refine lv_aload_n hx hb d_C_popOne_11 rfl (lv_at hl 0 rfl) ?_
    refine va_get (D := D) (ci := 3) (C := "StackRoom$MethodContext") (T := T_X) (N := 7) (v := .int ((nI (s_ht σ i)) - 1)) hx hb ht in_X hown hK.1 (hP.one f1) 0 rfl rfl 4 (by decide) (ht _ fl_C_C_height) (fun _ h9 => h9) rfl d_C_popOne_12 ?_
    refine va_csq (va_Run.run (r_U (owner := "StackRoom$Context") (n := 1) (rest := []) C0 [.int ((nI (s_ht σ i)) - 1)] (k_C_fieldAt l hR1 (i := i) hi hO1.1 ht0 (nI (s_ht σ i) - 1)) ml_C_C_fieldAt sm_C_C_fieldAt se_X_C_fieldAt_C im_C_fieldAt ini_C co_C_fieldAt rfl (by decide +kernel) (g_preV (ci := 3) hK hP rfl f1) hl.1 d_C_popOne_15 rfl rfl (Nat.le_of_ble_eq_true rfl) ⟨rfl, rfl⟩ ⟨Nat.le_of_ble_eq_true rfl, Nat.le_of_ble_eq_true rfl⟩ ⟨Nat.le_of_ble_eq_true rfl, Nat.le_of_ble_eq_true rfl⟩)) (fun q eq => ?_)
    have hb9 := (hO.1.2.2.2.2.2.2 i hi).2
    rw [show s_rm (s_setH σ i (s_ht σ i - 1)) i = s_rm σ i from rfl, e9, if_pos ⟨nI_pos' (by omega), (nI_ltI (by omega) (by omega)).mpr (by omega)⟩, nI_clamp (by omega)] at eq
    subst eq
    rcases hq : fr i (s_ht σ i - 1) with _ | a
    · refine W.eq (g2 := F0 m 18 ls [.null]) rfl ?_
      refine lv_astore_nN (lv' := [(1, .null), (0, .ref (ad i))]) hx hb d_C_popOne_18 rfl hl (by decide) rfl (fun ls hl => ?_)
      refine lv_aload_n hx hb d_C_popOne_19 rfl (lv_at hl 1 rfl) ?_
      refine lv_aload_n hx hb d_C_popOne_20 rfl (lv_at hl 1 rfl) ?_
      refine va_get (D := D) (ci := 3) (C := "StackRoom$MethodContext") (T := T_X) (N := 7) (v := .int ((nI (s_ht σ i)) - 1)) hx hb ht in_X hown hK.1 (hP.one f1) 0 rfl rfl 4 (by decide) (ht _ fl_C_C_height) (fun _ h9 => h9) rfl d_C_popOne_21 ?_
      refine lv_null hx hb d_C_popOne_24 ?_
      rw [e9]
      refine g_callv hP hS hA (r_U (owner := "StackRoom$Context") (n := 2) (rest := []) C0 [.int (nI (s_ht σ i - 1)), .null] (k_C_putField_N l hR1 (i := i) hi ht0 hO1.1 (k := s_ht σ i - 1) (show s_ht σ i - 1 < s_rm σ i by omega)) ml_C_C_putField sm_C_C_putField se_X_C_putField_C im_C_putField ini_C co_C_putField rfl (by decide +kernel) (g_preV (ci := 3) hK hP rfl f1) hl.1 d_C_popOne_25 rfl rfl (Nat.le_of_ble_eq_true rfl) ⟨rfl, rfl⟩ ⟨Nat.le_of_ble_eq_true rfl, Nat.le_of_ble_eq_true rfl⟩ ⟨Nat.le_of_ble_eq_true rfl, Nat.le_of_ble_eq_true rfl⟩) (fun G9 H locs eG9 hP hS hz9 hk9 => ?_)
      have hR2 := hR1.fld (k := s_ht σ i - 1) (v := none) (r := none) (i := i) hi rfl
      rw [← eG9] at hR2
      refine lv_aload_nN hx hb d_C_popOne_28 rfl (lv_at hl 0 rfl) ?_
      exact q_aret (v := none) (rt := .object "StackRoom$Value") hx hb hr (Or.inl ⟨_, rfl⟩) (fun t ht hW => ⟨⟨_, G9, rfl, ⟨rfl, hR2⟩, g_fin ht hP⟩, hS.F ht⟩) hS.2.2 d_C_popOne_29
    · refine W.eq (g2 := F0 m 18 ls [.ref a]) rfl ?_
      refine lv_astore_n (lv' := [(1, .ref a), (0, .ref (ad i))]) hx hb d_C_popOne_18 rfl hl (by decide) rfl (fun ls hl => ?_)
      refine lv_aload_n hx hb d_C_popOne_19 rfl (lv_at hl 1 rfl) ?_
      refine lv_aload_n hx hb d_C_popOne_20 rfl (lv_at hl 1 rfl) ?_
      refine va_get (D := D) (ci := 3) (C := "StackRoom$MethodContext") (T := T_X) (N := 7) (v := .int ((nI (s_ht σ i)) - 1)) hx hb ht in_X hown hK.1 (hP.one f1) 0 rfl rfl 4 (by decide) (ht _ fl_C_C_height) (fun _ h9 => h9) rfl d_C_popOne_21 ?_
      refine lv_null hx hb d_C_popOne_24 ?_
      rw [e9]
      refine g_callv hP hS hA (r_U (owner := "StackRoom$Context") (n := 2) (rest := []) C0 [.int (nI (s_ht σ i - 1)), .null] (k_C_putField_N l hR1 (i := i) hi ht0 hO1.1 (k := s_ht σ i - 1) (show s_ht σ i - 1 < s_rm σ i by omega)) ml_C_C_putField sm_C_C_putField se_X_C_putField_C im_C_putField ini_C co_C_putField rfl (by decide +kernel) (g_preV (ci := 3) hK hP rfl f1) hl.1 d_C_popOne_25 rfl rfl (Nat.le_of_ble_eq_true rfl) ⟨rfl, rfl⟩ ⟨Nat.le_of_ble_eq_true rfl, Nat.le_of_ble_eq_true rfl⟩ ⟨Nat.le_of_ble_eq_true rfl, Nat.le_of_ble_eq_true rfl⟩) (fun G9 H locs eG9 hP hS hz9 hk9 => ?_)
      have hR2 := hR1.fld (k := s_ht σ i - 1) (v := none) (r := none) (i := i) hi rfl
      rw [← eG9] at hR2
      refine lv_aload_n hx hb d_C_popOne_28 rfl (lv_at hl 0 rfl) ?_
      exact q_aret (v := some a) (rt := .object "StackRoom$Value") hx hb hr (Or.inl ⟨_, rfl⟩) (fun t ht hW => ⟨⟨_, G9, rfl, ⟨rfl, hR2⟩, g_fin ht hP⟩, hS.F ht⟩) hS.2.2 d_C_popOne_29
  · refine lv_aload_n hx hb d_C_popOne_0 rfl (lv_at hl 0 rfl) ?_
    refine lv_dup hx hb d_C_popOne_1 rfl ?_
    refine va_get (D := D) (ci := 4) (C := "StackRoom$BlockContext") (T := T_B) (N := 8) (v := .int (nI (s_ht σ i))) hx hb ht in_B hown hK.1 (hP.one (hR.c4 h4)) 0 rfl rfl 4 (by decide) (ht _ fl_C_C_height) (fun _ h9 => h9) rfl d_C_popOne_2 ?_
    refine lv_iconst (v := 1) hx hb d_C_popOne_5 (by decide) ?_
    refine lv_isub hx hb d_C_popOne_6 ?_
    refine gw_put (D := D) (cl := vwCl) (ci := 4) (C := "StackRoom$BlockContext") (T := T_B) (N := 8) (v := .int ((nI (s_ht σ i)) - 1)) (ty := .int) hx hb ht in_B ty_B tk_B nm_B hown hK.1 hP hS (hR.c4 h4) rfl 4 (by decide) (ht _ fl_C_C_height) (fun _ h9 => h9) rfl (by decide +kernel) rfl rfl (Nat.le_of_ble_eq_true rfl) d_C_popOne_7 (fun H locs hP hS => ?_)
    obtain ⟨G2, eG2⟩ : ∃ z : gw_G, z = va_up G (ad i) (some (.inr (4, [.int (nI i), .int (ρ i), va_rf ((s_sn σ i).map ad), .int (s_de σ i), .int ((nI (s_ht σ i)) - 1), .ref (fa i), .ref (ad (s_og σ i)), .int (s_ct σ i)]))) := ⟨_, rfl⟩
    have hP : gw_P D vwCl (gw_A G s.heap.size) G2 H := by rw [eG2]; exact hP
    have f2 : G2 (ad i) = some (.inr (4, [.int (nI i), .int (ρ i), va_rf ((s_sn σ i).map ad), .int (s_de σ i), .int ((nI (s_ht σ i)) - 1), .ref (fa i), .ref (ad (s_og σ i)), .int (s_ct σ i)])) := by rw [eG2]; exact va_up_self _ _ _
    have e9 : (nI (s_ht σ i) - 1) = nI (s_ht σ i - 1) := pk_sub (b := 1) hh
    have hR1 := hR.obj (i := i) (τ := s_setH σ i (s_ht σ i - 1)) (ρ' := ρ) hO.1 hm (by rcases hi with e | e <;> omega) rfl rfl rfl rfl (fun j hj => by unfold c_cell; rw [show s_ht (s_setH σ i (s_ht σ i - 1)) j = s_ht σ j from va_up_ne _ _ hj]; rfl) (fun j hj => hR.2.2.2.2.2.2.2.2.2 j hj)
    have e8 : c_cell (s_setH σ i (s_ht σ i - 1)) ad fa ρ i = .inr (4, [.int (nI i), .int (ρ i), va_rf ((s_sn σ i).map ad), .int (s_de σ i), .int ((nI (s_ht σ i)) - 1), .ref (fa i), .ref (ad (s_og σ i)), .int (s_ct σ i)]) := by unfold c_cell; rw [show s_kd (s_setH σ i (s_ht σ i - 1)) i = 4 from h4, show s_ht (s_setH σ i (s_ht σ i - 1)) i = s_ht σ i - 1 from va_up_self _ _ _, e9]; rfl
    rw [e8, ← eG2] at hR1
    have hO1 : s_OK w n (s_setH σ i (s_ht σ i - 1)) := s_setH_OK hO (by have := (hO.1.2.2.2.2.2.2 i hi).2.1; omega)
    refine lv_aload_n hx hb d_C_popOne_10 rfl (lv_at hl 0 rfl) ?_
    refine lv_aload_n hx hb d_C_popOne_11 rfl (lv_at hl 0 rfl) ?_
    refine va_get (D := D) (ci := 4) (C := "StackRoom$BlockContext") (T := T_B) (N := 8) (v := .int ((nI (s_ht σ i)) - 1)) hx hb ht in_B hown hK.1 (hP.one f2) 0 rfl rfl 4 (by decide) (ht _ fl_C_C_height) (fun _ h9 => h9) rfl d_C_popOne_12 ?_
    refine va_csq (va_Run.run (r_U (owner := "StackRoom$Context") (n := 1) (rest := []) C0 [.int ((nI (s_ht σ i)) - 1)] (k_C_fieldAt l hR1 (i := i) hi hO1.1 ht0 (nI (s_ht σ i) - 1)) ml_C_C_fieldAt sm_C_C_fieldAt se_B_C_fieldAt_C im_C_fieldAt ini_C co_C_fieldAt rfl (by decide +kernel) (g_preV (ci := 4) hK hP rfl f2) hl.1 d_C_popOne_15 rfl rfl (Nat.le_of_ble_eq_true rfl) ⟨rfl, rfl⟩ ⟨Nat.le_of_ble_eq_true rfl, Nat.le_of_ble_eq_true rfl⟩ ⟨Nat.le_of_ble_eq_true rfl, Nat.le_of_ble_eq_true rfl⟩)) (fun q eq => ?_)
    have hb9 := (hO.1.2.2.2.2.2.2 i hi).2
    rw [show s_rm (s_setH σ i (s_ht σ i - 1)) i = s_rm σ i from rfl, e9, if_pos ⟨nI_pos' (by omega), (nI_ltI (by omega) (by omega)).mpr (by omega)⟩, nI_clamp (by omega)] at eq
    subst eq
    rcases hq : fr i (s_ht σ i - 1) with _ | a
    · refine W.eq (g2 := F0 m 18 ls [.null]) rfl ?_
      refine lv_astore_nN (lv' := [(1, .null), (0, .ref (ad i))]) hx hb d_C_popOne_18 rfl hl (by decide) rfl (fun ls hl => ?_)
      refine lv_aload_n hx hb d_C_popOne_19 rfl (lv_at hl 1 rfl) ?_
      refine lv_aload_n hx hb d_C_popOne_20 rfl (lv_at hl 1 rfl) ?_
      refine va_get (D := D) (ci := 4) (C := "StackRoom$BlockContext") (T := T_B) (N := 8) (v := .int ((nI (s_ht σ i)) - 1)) hx hb ht in_B hown hK.1 (hP.one f2) 0 rfl rfl 4 (by decide) (ht _ fl_C_C_height) (fun _ h9 => h9) rfl d_C_popOne_21 ?_
      refine lv_null hx hb d_C_popOne_24 ?_
      rw [e9]
      refine g_callv hP hS hA (r_U (owner := "StackRoom$Context") (n := 2) (rest := []) C0 [.int (nI (s_ht σ i - 1)), .null] (k_C_putField_N l hR1 (i := i) hi ht0 hO1.1 (k := s_ht σ i - 1) (show s_ht σ i - 1 < s_rm σ i by omega)) ml_C_C_putField sm_C_C_putField se_B_C_putField_C im_C_putField ini_C co_C_putField rfl (by decide +kernel) (g_preV (ci := 4) hK hP rfl f2) hl.1 d_C_popOne_25 rfl rfl (Nat.le_of_ble_eq_true rfl) ⟨rfl, rfl⟩ ⟨Nat.le_of_ble_eq_true rfl, Nat.le_of_ble_eq_true rfl⟩ ⟨Nat.le_of_ble_eq_true rfl, Nat.le_of_ble_eq_true rfl⟩) (fun G9 H locs eG9 hP hS hz9 hk9 => ?_)
      have hR2 := hR1.fld (k := s_ht σ i - 1) (v := none) (r := none) (i := i) hi rfl
      rw [← eG9] at hR2
      refine lv_aload_nN hx hb d_C_popOne_28 rfl (lv_at hl 0 rfl) ?_
      exact q_aret (v := none) (rt := .object "StackRoom$Value") hx hb hr (Or.inl ⟨_, rfl⟩) (fun t ht hW => ⟨⟨_, G9, rfl, ⟨rfl, hR2⟩, g_fin ht hP⟩, hS.F ht⟩) hS.2.2 d_C_popOne_29
    · refine W.eq (g2 := F0 m 18 ls [.ref a]) rfl ?_
      refine lv_astore_n (lv' := [(1, .ref a), (0, .ref (ad i))]) hx hb d_C_popOne_18 rfl hl (by decide) rfl (fun ls hl => ?_)
      refine lv_aload_n hx hb d_C_popOne_19 rfl (lv_at hl 1 rfl) ?_
      refine lv_aload_n hx hb d_C_popOne_20 rfl (lv_at hl 1 rfl) ?_
      refine va_get (D := D) (ci := 4) (C := "StackRoom$BlockContext") (T := T_B) (N := 8) (v := .int ((nI (s_ht σ i)) - 1)) hx hb ht in_B hown hK.1 (hP.one f2) 0 rfl rfl 4 (by decide) (ht _ fl_C_C_height) (fun _ h9 => h9) rfl d_C_popOne_21 ?_
      refine lv_null hx hb d_C_popOne_24 ?_
      rw [e9]
      refine g_callv hP hS hA (r_U (owner := "StackRoom$Context") (n := 2) (rest := []) C0 [.int (nI (s_ht σ i - 1)), .null] (k_C_putField_N l hR1 (i := i) hi ht0 hO1.1 (k := s_ht σ i - 1) (show s_ht σ i - 1 < s_rm σ i by omega)) ml_C_C_putField sm_C_C_putField se_B_C_putField_C im_C_putField ini_C co_C_putField rfl (by decide +kernel) (g_preV (ci := 4) hK hP rfl f2) hl.1 d_C_popOne_25 rfl rfl (Nat.le_of_ble_eq_true rfl) ⟨rfl, rfl⟩ ⟨Nat.le_of_ble_eq_true rfl, Nat.le_of_ble_eq_true rfl⟩ ⟨Nat.le_of_ble_eq_true rfl, Nat.le_of_ble_eq_true rfl⟩) (fun G9 H locs eG9 hP hS hz9 hk9 => ?_)
      have hR2 := hR1.fld (k := s_ht σ i - 1) (v := none) (r := none) (i := i) hi rfl
      rw [← eG9] at hR2
      refine lv_aload_n hx hb d_C_popOne_28 rfl (lv_at hl 0 rfl) ?_
      exact q_aret (v := some a) (rt := .object "StackRoom$Value") hx hb hr (Or.inl ⟨_, rfl⟩) (fun t ht hW => ⟨⟨_, G9, rfl, ⟨rfl, hR2⟩, g_fin ht hP⟩, hS.F ht⟩) hS.2.2 d_C_popOne_29
theorem va_up_up {α : Type} (f : Nat → α) (k : Nat) (v w : α) : va_up (va_up f k v) k w = va_up f k w := by
  funext b
  by_cases e : b = k
  · subst e; rw [va_up_self, va_up_self]
  · rw [va_up_ne _ _ e, va_up_ne _ _ e, va_up_ne _ _ e]
theorem va_up_sw {α : Type} (f : Nat → α) {j k : Nat} (v w : α) (h : j ≠ k) : va_up (va_up f j v) k w = va_up (va_up f k w) j v := by
  funext b
  by_cases e : b = k
  · subst e; rw [va_up_self, va_up_ne _ _ (Ne.symm h), va_up_self]
  · rw [va_up_ne _ _ e]
    by_cases e2 : b = j
    · subst e2; rw [va_up_self, va_up_self]
    · rw [va_up_ne _ _ e2, va_up_ne _ _ e2, va_up_ne _ _ e]
set_option maxHeartbeats 4000000 in
set_option maxRecDepth 100000 in
theorem k_M_setNumbers (l : Launch) (hR : c_Rep w n rd md cV cT σ x ra rt ad fa ρ fr rr rf rc wl el cr G) {i : Nat} (hi : s_kd σ i = 2) (hI : s_I σ) (hm : s_md σ < 2 ^ 31) (t d : Nat) : Met l y_M_setNumbers w_M_setNumbers ({ frames := 0, cells := 0, slots := 0, locals := 0 }) (g_pre D tys G sz [.ref (ad i), .int (nI t), .int (nI d)]) (va_Qv (fun G1 : gw_G => c_Rep w n rd md cV cT (s_setT σ i t d) x ra rt ad fa ρ fr rr rf rc wl el cr G1) (g_end D G sz) (gw_A G sz)) 0 0 (gw_A G sz) := by
  refine Met.ofW (cc := b_M_setNumbers) (maxL := 3) (ret := none) (by decide) rfl ?_
  intro p e s m args below meth c s₁ B hml hv
  obtain ⟨rfl, hsz, hP, hK⟩ := hv
  have hx := B.exec
  have hb := B.bytes
  have hr := B.returns
  have ht := fun w (hw : w ∈ gt) => atoms_spec (ws := w_M_setNumbers) B.pre w (List.mem_cons_of_mem _ hw)
  have hown : s.vm.findClass "StackRoom$Method" = some m.cls := findClass_of_methodNamed B.named
  have hlocks := B.notSynchronized
  have C0 : CallFix p m c b_M_setNumbers 3 s [.ref (ad i), .int (nI t), .int (nI d)].toArray gt "StackRoom$Method" := ⟨hx, hb, hml, hown, ht⟩
  subst hsz
  have hP := hP.self (sz := s.heap.size)
  have hA : ∀ q : Nat, s.heap.size ≤ q → gw_A G s.heap.size q := fun q h => Or.inr h
  have hS : va_S (gw_A G s.heap.size) s.heap s.heap [] := va_S.rf
  have hl := lv_entry ([.ref (ad i), .int (nI t), .int (nI d)]) (n := 3) (Nat.le_of_ble_eq_true rfl)
  rw [lg_entry_eq]
  generalize (lg_sl ([.ref (ad i), .int (nI t), .int (nI d)]) ++ List.replicate (3 - (lg_sl ([.ref (ad i), .int (nI t), .int (nI d)])).length) Slot.unset).toArray = ls at hl ⊢
  have hl : lv_has ls 3 [(0, .ref (ad i)), (1, .int (nI t)), (2, .int (nI d))] := hl
  refine lv_aload_n hx hb d_M_setNumbers_0 rfl (lv_at hl 0 rfl) ?_
  refine lv_iload_n hx hb d_M_setNumbers_1 rfl (lv_at hl 1 rfl) ?_
  refine gw_put (D := D) (cl := vwCl) (ci := 2) (C := "StackRoom$Method") (T := T_M) (N := 4) (v := .int (nI t)) (ty := .int) hx hb ht in_M ty_M tk_M nm_M hown hK.1 hP hS (hR.c2 hi) rfl 2 (by decide) (ht _ fl_M_M_temporaries) (fun _ h9 => h9) rfl (by decide +kernel) rfl rfl (Nat.le_of_ble_eq_true rfl) d_M_setNumbers_2 (fun H locs hP hS => ?_)
  obtain ⟨G1, eG1⟩ : ∃ z : gw_G, z = va_up G (ad i) (some (.inr (2, [.int (nI i), .int (ρ i), .int (nI t), .int (nI (s_dd σ i))]))) := ⟨_, rfl⟩
  have hP : gw_P D vwCl (gw_A G s.heap.size) G1 H := by rw [eG1]; exact hP
  have f1 : G1 (ad i) = some (.inr (2, [.int (nI i), .int (ρ i), .int (nI t), .int (nI (s_dd σ i))])) := by rw [eG1]; exact va_up_self _ _ _
  refine lv_aload_n hx hb d_M_setNumbers_5 rfl (lv_at hl 0 rfl) ?_
  refine lv_iload_n hx hb d_M_setNumbers_6 rfl (lv_at hl 2 rfl) ?_
  refine gw_put (D := D) (cl := vwCl) (ci := 2) (C := "StackRoom$Method") (T := T_M) (N := 4) (v := .int (nI d)) (ty := .int) hx hb ht in_M ty_M tk_M nm_M hown hK.1 hP hS f1 rfl 3 (by decide) (ht _ fl_M_M_depth) (fun _ h9 => h9) rfl (by decide +kernel) rfl rfl (Nat.le_of_ble_eq_true rfl) d_M_setNumbers_7 (fun H locs hP hS => ?_)
  obtain ⟨G2, eG2⟩ : ∃ z : gw_G, z = va_up G1 (ad i) (some (.inr (2, [.int (nI i), .int (ρ i), .int (nI t), .int (nI d)]))) := ⟨_, rfl⟩
  have hP : gw_P D vwCl (gw_A G s.heap.size) G2 H := by rw [eG2]; exact hP
  have f2 : G2 (ad i) = some (.inr (2, [.int (nI i), .int (ρ i), .int (nI t), .int (nI d)])) := by rw [eG2]; exact va_up_self _ _ _
  have hR2 := hR.obj (i := i) (τ := s_setT σ i t d) (ρ' := ρ) hI hm (by omega) rfl rfl rfl rfl (fun j hj => by unfold c_cell; rw [show s_tt (s_setT σ i t d) j = s_tt σ j from va_up_ne _ _ hj, show s_dd (s_setT σ i t d) j = s_dd σ j from va_up_ne _ _ hj]; rfl) (fun j hj => hR.2.2.2.2.2.2.2.2.2 j hj)
  have e8 : c_cell (s_setT σ i t d) ad fa ρ i = .inr (2, [.int (nI i), .int (ρ i), .int (nI t), .int (nI d)]) := by unfold c_cell; rw [show s_kd (s_setT σ i t d) i = 2 from hi, show s_tt (s_setT σ i t d) i = t from va_up_self _ _ _, show s_dd (s_setT σ i t d) i = d from va_up_self _ _ _]; rfl
  have e7 : G2 = va_up G (ad i) (some (.inr (2, [.int (nI i), .int (ρ i), .int (nI t), .int (nI d)]))) := by rw [eG2, eG1]; exact va_up_up _ _ _ _
  rw [e8, ← e7] at hR2
  exact W.vret hx hb hr (fun t ht hW => ⟨⟨G2, rfl, hR2, g_fin ht hP⟩, hS.F ht⟩) hS.2.2 d_M_setNumbers_10
end K12
end
section
section K13
variable {cV : ClassId} {G : gw_G} {D : va_G} {tys : List (ClassId × FieldType)} {sz : Nat}
set_option maxHeartbeats 4000000 in
set_option maxRecDepth 100000 in
theorem k_V_init (l : Launch) (a : Nat) : Met l y_V_init w_V_init ({ frames := 1, cells := 0, slots := 0, locals := 20 }) (va_Pc [.ref a] (fun _ => True)) (va_Sv (fun _ => True)) 0 0 (fun _ => False) := by
  refine Met.ofW (cc := b_V_init) (maxL := 1) (ret := none) (by decide) rfl ?_
  intro p e s m args below meth c s₁ B hml hv
  obtain ⟨rfl, -⟩ := hv
  have hx := B.exec
  have hb := B.bytes
  have hr := B.returns
  have ht := fun w (hw : w ∈ gt) => atoms_spec (ws := w_V_init) B.pre w (List.mem_cons_of_mem _ hw)
  have hown : s.vm.findClass "StackRoom$Value" = some m.cls := findClass_of_methodNamed B.named
  have hlocks := B.notSynchronized
  have C0 : CallFix p m c b_V_init 1 s [.ref a].toArray gt "StackRoom$Value" := ⟨hx, hb, hml, hown, ht⟩
  have hl := lv_entry ([.ref a]) (n := 1) (Nat.le_of_ble_eq_true rfl)
  rw [lg_entry_eq]
  generalize (lg_sl ([.ref a]) ++ List.replicate (1 - (lg_sl ([.ref a])).length) Slot.unset).toArray = ls at hl ⊢
  have hl : lv_has ls 1 [(0, .ref a)] := hl
  refine lv_aload_n hx hb d_V_init_0 rfl (lv_at hl 0 rfl) ?_
  refine W.objInit hx hb hown (ht _ ml_V_O_init) (ht _ im_O_init) (ht _ co_O_init) rfl (by rw [hml]; exact hl.1) rfl d_V_init_1 (Nat.le_of_ble_eq_true rfl) (Nat.le_of_ble_eq_true rfl) ?_
  refine W.eq (g2 := F0 m 4 ls []) rfl ?_
  exact W.vret hx hb hr (fun t ht hW => ⟨rfl, trivial, ht⟩) (fun _ h => by cases h) d_V_init_4
set_option maxHeartbeats 4000000 in
set_option maxRecDepth 100000 in
theorem k_W_init (l : Launch) {a : Nat} {z : Int32} (ha : G a = some (.inr (kW, [.int z]))) (v : Int32) : Met l y_W_init w_W_init ({ frames := 2, cells := 0, slots := 0, locals := 40 }) (g_pre D tys G sz [.ref a, .int v]) (va_Qv (fun G1 : gw_G => G1 = va_up G a (some (.inr (kW, [.int v])))) (g_end D G sz) (gw_A G sz)) 0 0 (gw_A G sz) := by
  refine Met.ofW (cc := b_W_init) (maxL := 2) (ret := none) (by decide) rfl ?_
  intro p e s m args below meth c s₁ B hml hv
  obtain ⟨rfl, hsz, hP, hK⟩ := hv
  have hx := B.exec
  have hb := B.bytes
  have hr := B.returns
  have ht := fun w (hw : w ∈ gt) => atoms_spec (ws := w_W_init) B.pre w (List.mem_cons_of_mem _ hw)
  have hown : s.vm.findClass "StackRoom$Whole" = some m.cls := findClass_of_methodNamed B.named
  have hlocks := B.notSynchronized
  have hin : meth.name = "<init>" := (name_of_methodNamed B.named B.method).1
  have C0 : CallFix p m c b_W_init 2 s [.ref a, .int v].toArray gt "StackRoom$Whole" := ⟨hx, hb, hml, hown, ht⟩
  subst hsz
  have hP := hP.self (sz := s.heap.size)
  have hA : ∀ q : Nat, s.heap.size ≤ q → gw_A G s.heap.size q := fun q h => Or.inr h
  have hS : va_S (gw_A G s.heap.size) s.heap s.heap [] := va_S.rf
  have hl := lv_entry ([.ref a, .int v]) (n := 2) (Nat.le_of_ble_eq_true rfl)
  rw [lg_entry_eq]
  generalize (lg_sl ([.ref a, .int v]) ++ List.replicate (2 - (lg_sl ([.ref a, .int v])).length) Slot.unset).toArray = ls at hl ⊢
  have hl : lv_has ls 2 [(0, .ref a), (1, .int v)] := hl
  refine lv_aload_n hx hb d_W_init_0 rfl (lv_at hl 0 rfl) ?_
  refine va_csv (va_Run.run (r_IN (rest := []) C0 [] (k_V_init l a) (hK.2.1 _ mn_W_V_init) im_V_init ini_V co_V_init rfl hd_V_init v_preS hl.1 d_W_init_1 rfl rfl (Nat.le_of_ble_eq_true rfl) ⟨rfl, rfl⟩ ⟨Nat.le_of_ble_eq_true rfl, Nat.le_of_ble_eq_true rfl⟩ ⟨Nat.le_of_ble_eq_true rfl, Nat.le_of_ble_eq_true rfl⟩)) (fun _ => ?_)
  refine lv_aload_n hx hb d_W_init_4 rfl (lv_at hl 0 rfl) ?_
  refine lv_iload_n hx hb d_W_init_5 rfl (lv_at hl 1 rfl) ?_
  refine gw_putF (D := D) (cl := vwCl) (ci := 1) (C := "StackRoom$Whole") (T := T_W) (N := 1) (v := .int v) (ty := .int) hx hb ht in_W ty_W tk_W nm_W hown hK.1 hP hS ha rfl 0 (by decide) (ht _ fl_W_W_amount) (fun _ h9 => h9) rfl hin rfl (by decide +kernel) rfl rfl (Nat.le_of_ble_eq_true rfl) d_W_init_6 (fun H locs hP hS => ?_)
  obtain ⟨G1, eG1⟩ : ∃ z : gw_G, z = va_up G a (some (.inr (1, [.int v]))) := ⟨_, rfl⟩
  have hP : gw_P D vwCl (gw_A G s.heap.size) G1 H := by rw [eG1]; exact hP
  have f1 : G1 a = some (.inr (1, [.int v])) := by rw [eG1]; exact va_up_self _ _ _
  exact W.vret hx hb hr (fun t ht hW => ⟨⟨G1, rfl, eG1, g_fin ht hP⟩, hS.F ht⟩) hS.2.2 d_W_init_9
set_option maxHeartbeats 4000000 in
set_option maxRecDepth 100000 in
theorem k_T_init_M (l : Launch) {a : Nat} {z : Int32} (ha : G a = some (.inr (2, [.int z, .int 0, .int 0, .int 0]))) (v : Int32) : Met l y_T_init w_T_init ({ frames := 2, cells := 0, slots := 0, locals := 40 }) (g_pre D tys G sz [.ref a, .int v]) (va_Qv (fun G1 : gw_G => G1 = va_up G a (some (.inr (2, [.int v, .int 0, .int 0, .int 0])))) (g_end D G sz) (gw_A G sz)) 0 0 (gw_A G sz) := by
  refine Met.ofW (cc := b_T_init) (maxL := 2) (ret := none) (by decide) rfl ?_
  intro p e s m args below meth c s₁ B hml hv
  obtain ⟨rfl, hsz, hP, hK⟩ := hv
  have hx := B.exec
  have hb := B.bytes
  have hr := B.returns
  have ht := fun w (hw : w ∈ gt) => atoms_spec (ws := w_T_init) B.pre w (List.mem_cons_of_mem _ hw)
  have hown : s.vm.findClass "StackRoom$Thing" = some m.cls := findClass_of_methodNamed B.named
  have hlocks := B.notSynchronized
  have hin : meth.name = "<init>" := (name_of_methodNamed B.named B.method).1
  have C0 : CallFix p m c b_T_init 2 s [.ref a, .int v].toArray gt "StackRoom$Thing" := ⟨hx, hb, hml, hown, ht⟩
  subst hsz
  have hP := hP.self (sz := s.heap.size)
  have hA : ∀ q : Nat, s.heap.size ≤ q → gw_A G s.heap.size q := fun q h => Or.inr h
  have hS : va_S (gw_A G s.heap.size) s.heap s.heap [] := va_S.rf
  have hl := lv_entry ([.ref a, .int v]) (n := 2) (Nat.le_of_ble_eq_true rfl)
  rw [lg_entry_eq]
  generalize (lg_sl ([.ref a, .int v]) ++ List.replicate (2 - (lg_sl ([.ref a, .int v])).length) Slot.unset).toArray = ls at hl ⊢
  have hl : lv_has ls 2 [(0, .ref a), (1, .int v)] := hl
  refine lv_aload_n hx hb d_T_init_0 rfl (lv_at hl 0 rfl) ?_
  refine va_csv (va_Run.run (r_IN (rest := []) C0 [] (k_V_init l a) (hK.2.1 _ mn_T_V_init) im_V_init ini_V co_V_init rfl hd_V_init v_preS hl.1 d_T_init_1 rfl rfl (Nat.le_of_ble_eq_true rfl) ⟨rfl, rfl⟩ ⟨Nat.le_of_ble_eq_true rfl, Nat.le_of_ble_eq_true rfl⟩ ⟨Nat.le_of_ble_eq_true rfl, Nat.le_of_ble_eq_true rfl⟩)) (fun _ => ?_)
  refine lv_aload_n hx hb d_T_init_4 rfl (lv_at hl 0 rfl) ?_
  refine lv_iload_n hx hb d_T_init_5 rfl (lv_at hl 1 rfl) ?_
  refine gw_putF (D := D) (cl := vwCl) (ci := 2) (C := "StackRoom$Method") (T := T_M) (N := 4) (v := .int v) (ty := .int) hx hb ht in_M ty_M tk_M nm_M hown hK.1 hP hS ha rfl 0 (by decide) (ht _ fl_T_T_identity) (fun _ h9 => h9) rfl hin rfl (by decide +kernel) rfl rfl (Nat.le_of_ble_eq_true rfl) d_T_init_6 (fun H locs hP hS => ?_)
  obtain ⟨G1, eG1⟩ : ∃ z : gw_G, z = va_up G a (some (.inr (2, [.int v, .int 0, .int 0, .int 0]))) := ⟨_, rfl⟩
  have hP : gw_P D vwCl (gw_A G s.heap.size) G1 H := by rw [eG1]; exact hP
  have f1 : G1 a = some (.inr (2, [.int v, .int 0, .int 0, .int 0])) := by rw [eG1]; exact va_up_self _ _ _
  exact W.vret hx hb hr (fun t ht hW => ⟨⟨G1, rfl, eG1, g_fin ht hP⟩, hS.F ht⟩) hS.2.2 d_T_init_9
set_option maxHeartbeats 4000000 in
set_option maxRecDepth 100000 in
theorem k_T_init_X (l : Launch) {a : Nat} {z : Int32} (ha : G a = some (.inr (3, [.int z, .int 0, .null, .int 0, .int 0, .null, .null]))) (v : Int32) : Met l y_T_init w_T_init ({ frames := 2, cells := 0, slots := 0, locals := 40 }) (g_pre D tys G sz [.ref a, .int v]) (va_Qv (fun G1 : gw_G => G1 = va_up G a (some (.inr (3, [.int v, .int 0, .null, .int 0, .int 0, .null, .null])))) (g_end D G sz) (gw_A G sz)) 0 0 (gw_A G sz) := by
  refine Met.ofW (cc := b_T_init) (maxL := 2) (ret := none) (by decide) rfl ?_
  intro p e s m args below meth c s₁ B hml hv
  obtain ⟨rfl, hsz, hP, hK⟩ := hv
  have hx := B.exec
  have hb := B.bytes
  have hr := B.returns
  have ht := fun w (hw : w ∈ gt) => atoms_spec (ws := w_T_init) B.pre w (List.mem_cons_of_mem _ hw)
  have hown : s.vm.findClass "StackRoom$Thing" = some m.cls := findClass_of_methodNamed B.named
  have hlocks := B.notSynchronized
  have hin : meth.name = "<init>" := (name_of_methodNamed B.named B.method).1
  have C0 : CallFix p m c b_T_init 2 s [.ref a, .int v].toArray gt "StackRoom$Thing" := ⟨hx, hb, hml, hown, ht⟩
  subst hsz
  have hP := hP.self (sz := s.heap.size)
  have hA : ∀ q : Nat, s.heap.size ≤ q → gw_A G s.heap.size q := fun q h => Or.inr h
  have hS : va_S (gw_A G s.heap.size) s.heap s.heap [] := va_S.rf
  have hl := lv_entry ([.ref a, .int v]) (n := 2) (Nat.le_of_ble_eq_true rfl)
  rw [lg_entry_eq]
  generalize (lg_sl ([.ref a, .int v]) ++ List.replicate (2 - (lg_sl ([.ref a, .int v])).length) Slot.unset).toArray = ls at hl ⊢
  have hl : lv_has ls 2 [(0, .ref a), (1, .int v)] := hl
  refine lv_aload_n hx hb d_T_init_0 rfl (lv_at hl 0 rfl) ?_
  refine va_csv (va_Run.run (r_IN (rest := []) C0 [] (k_V_init l a) (hK.2.1 _ mn_T_V_init) im_V_init ini_V co_V_init rfl hd_V_init v_preS hl.1 d_T_init_1 rfl rfl (Nat.le_of_ble_eq_true rfl) ⟨rfl, rfl⟩ ⟨Nat.le_of_ble_eq_true rfl, Nat.le_of_ble_eq_true rfl⟩ ⟨Nat.le_of_ble_eq_true rfl, Nat.le_of_ble_eq_true rfl⟩)) (fun _ => ?_)
  refine lv_aload_n hx hb d_T_init_4 rfl (lv_at hl 0 rfl) ?_
  refine lv_iload_n hx hb d_T_init_5 rfl (lv_at hl 1 rfl) ?_
  refine gw_putF (D := D) (cl := vwCl) (ci := 3) (C := "StackRoom$MethodContext") (T := T_X) (N := 7) (v := .int v) (ty := .int) hx hb ht in_X ty_X tk_X nm_X hown hK.1 hP hS ha rfl 0 (by decide) (ht _ fl_T_T_identity) (fun _ h9 => h9) rfl hin rfl (by decide +kernel) rfl rfl (Nat.le_of_ble_eq_true rfl) d_T_init_6 (fun H locs hP hS => ?_)
  obtain ⟨G1, eG1⟩ : ∃ z : gw_G, z = va_up G a (some (.inr (3, [.int v, .int 0, .null, .int 0, .int 0, .null, .null]))) := ⟨_, rfl⟩
  have hP : gw_P D vwCl (gw_A G s.heap.size) G1 H := by rw [eG1]; exact hP
  have f1 : G1 a = some (.inr (3, [.int v, .int 0, .null, .int 0, .int 0, .null, .null])) := by rw [eG1]; exact va_up_self _ _ _
  exact W.vret hx hb hr (fun t ht hW => ⟨⟨G1, rfl, eG1, g_fin ht hP⟩, hS.F ht⟩) hS.2.2 d_T_init_9
set_option maxHeartbeats 4000000 in
set_option maxRecDepth 100000 in
theorem k_T_init_B (l : Launch) {a : Nat} {z : Int32} (ha : G a = some (.inr (4, [.int z, .int 0, .null, .int 0, .int 0, .null, .null, .int 0]))) (v : Int32) : Met l y_T_init w_T_init ({ frames := 2, cells := 0, slots := 0, locals := 40 }) (g_pre D tys G sz [.ref a, .int v]) (va_Qv (fun G1 : gw_G => G1 = va_up G a (some (.inr (4, [.int v, .int 0, .null, .int 0, .int 0, .null, .null, .int 0])))) (g_end D G sz) (gw_A G sz)) 0 0 (gw_A G sz) := by
  refine Met.ofW (cc := b_T_init) (maxL := 2) (ret := none) (by decide) rfl ?_
  intro p e s m args below meth c s₁ B hml hv
  obtain ⟨rfl, hsz, hP, hK⟩ := hv
  have hx := B.exec
  have hb := B.bytes
  have hr := B.returns
  have ht := fun w (hw : w ∈ gt) => atoms_spec (ws := w_T_init) B.pre w (List.mem_cons_of_mem _ hw)
  have hown : s.vm.findClass "StackRoom$Thing" = some m.cls := findClass_of_methodNamed B.named
  have hlocks := B.notSynchronized
  have hin : meth.name = "<init>" := (name_of_methodNamed B.named B.method).1
  have C0 : CallFix p m c b_T_init 2 s [.ref a, .int v].toArray gt "StackRoom$Thing" := ⟨hx, hb, hml, hown, ht⟩
  subst hsz
  have hP := hP.self (sz := s.heap.size)
  have hA : ∀ q : Nat, s.heap.size ≤ q → gw_A G s.heap.size q := fun q h => Or.inr h
  have hS : va_S (gw_A G s.heap.size) s.heap s.heap [] := va_S.rf
  have hl := lv_entry ([.ref a, .int v]) (n := 2) (Nat.le_of_ble_eq_true rfl)
  rw [lg_entry_eq]
  generalize (lg_sl ([.ref a, .int v]) ++ List.replicate (2 - (lg_sl ([.ref a, .int v])).length) Slot.unset).toArray = ls at hl ⊢
  have hl : lv_has ls 2 [(0, .ref a), (1, .int v)] := hl
  refine lv_aload_n hx hb d_T_init_0 rfl (lv_at hl 0 rfl) ?_
  refine va_csv (va_Run.run (r_IN (rest := []) C0 [] (k_V_init l a) (hK.2.1 _ mn_T_V_init) im_V_init ini_V co_V_init rfl hd_V_init v_preS hl.1 d_T_init_1 rfl rfl (Nat.le_of_ble_eq_true rfl) ⟨rfl, rfl⟩ ⟨Nat.le_of_ble_eq_true rfl, Nat.le_of_ble_eq_true rfl⟩ ⟨Nat.le_of_ble_eq_true rfl, Nat.le_of_ble_eq_true rfl⟩)) (fun _ => ?_)
  refine lv_aload_n hx hb d_T_init_4 rfl (lv_at hl 0 rfl) ?_
  refine lv_iload_n hx hb d_T_init_5 rfl (lv_at hl 1 rfl) ?_
  refine gw_putF (D := D) (cl := vwCl) (ci := 4) (C := "StackRoom$BlockContext") (T := T_B) (N := 8) (v := .int v) (ty := .int) hx hb ht in_B ty_B tk_B nm_B hown hK.1 hP hS ha rfl 0 (by decide) (ht _ fl_T_T_identity) (fun _ h9 => h9) rfl hin rfl (by decide +kernel) rfl rfl (Nat.le_of_ble_eq_true rfl) d_T_init_6 (fun H locs hP hS => ?_)
  obtain ⟨G1, eG1⟩ : ∃ z : gw_G, z = va_up G a (some (.inr (4, [.int v, .int 0, .null, .int 0, .int 0, .null, .null, .int 0]))) := ⟨_, rfl⟩
  have hP : gw_P D vwCl (gw_A G s.heap.size) G1 H := by rw [eG1]; exact hP
  have f1 : G1 a = some (.inr (4, [.int v, .int 0, .null, .int 0, .int 0, .null, .null, .int 0])) := by rw [eG1]; exact va_up_self _ _ _
  exact W.vret hx hb hr (fun t ht hW => ⟨⟨G1, rfl, eG1, g_fin ht hP⟩, hS.F ht⟩) hS.2.2 d_T_init_9
set_option maxHeartbeats 4000000 in
set_option maxRecDepth 100000 in
theorem k_M_init (l : Launch) {a : Nat} (ha : G a = some (.inr (2, [.int 0, .int 0, .int 0, .int 0]))) (v t d : Int32) : Met l y_M_init w_M_init ({ frames := 3, cells := 0, slots := 0, locals := 61 }) (g_pre D tys G sz [.ref a, .int v, .int t, .int d]) (va_Qv (fun G1 : gw_G => G1 = va_up G a (some (.inr (2, [.int v, .int 0, .int t, .int d])))) (g_end D G sz) (gw_A G sz)) 0 0 (gw_A G sz) := by
  refine Met.ofW (cc := b_M_init) (maxL := 4) (ret := none) (by decide) rfl ?_
  intro p e s m args below meth c s₁ B hml hv
  obtain ⟨rfl, hsz, hP, hK⟩ := hv
  have hx := B.exec
  have hb := B.bytes
  have hr := B.returns
  have ht := fun w (hw : w ∈ gt) => atoms_spec (ws := w_M_init) B.pre w (List.mem_cons_of_mem _ hw)
  have hown : s.vm.findClass "StackRoom$Method" = some m.cls := findClass_of_methodNamed B.named
  have hlocks := B.notSynchronized
  have hin : meth.name = "<init>" := (name_of_methodNamed B.named B.method).1
  have C0 : CallFix p m c b_M_init 4 s [.ref a, .int v, .int t, .int d].toArray gt "StackRoom$Method" := ⟨hx, hb, hml, hown, ht⟩
  subst hsz
  have hP := hP.self (sz := s.heap.size)
  have hA : ∀ q : Nat, s.heap.size ≤ q → gw_A G s.heap.size q := fun q h => Or.inr h
  have hS : va_S (gw_A G s.heap.size) s.heap s.heap [] := va_S.rf
  have hl := lv_entry ([.ref a, .int v, .int t, .int d]) (n := 4) (Nat.le_of_ble_eq_true rfl)
  rw [lg_entry_eq]
  generalize (lg_sl ([.ref a, .int v, .int t, .int d]) ++ List.replicate (4 - (lg_sl ([.ref a, .int v, .int t, .int d])).length) Slot.unset).toArray = ls at hl ⊢
  have hl : lv_has ls 4 [(0, .ref a), (1, .int v), (2, .int t), (3, .int d)] := hl
  refine lv_aload_n hx hb d_M_init_0 rfl (lv_at hl 0 rfl) ?_
  refine lv_iload_n hx hb d_M_init_1 rfl (lv_at hl 1 rfl) ?_
  refine g_callv hP hS hA (r_I (rest := []) C0 [.int v] (k_T_init_M l ha v) ml_M_T_init im_T_init ini_T co_T_init rfl hd_T_init (g_preS hK hP) hl.1 d_M_init_2 rfl rfl (Nat.le_of_ble_eq_true rfl) ⟨rfl, rfl⟩ ⟨Nat.le_of_ble_eq_true rfl, Nat.le_of_ble_eq_true rfl⟩ ⟨Nat.le_of_ble_eq_true rfl, Nat.le_of_ble_eq_true rfl⟩) (fun G1 H locs eG1 hP hS hz9 hk9 => ?_)
  have f1 : G1 a = some (.inr (2, [.int v, .int 0, .int 0, .int 0])) := by rw [eG1]; exact va_up_self _ _ _
  refine lv_aload_n hx hb d_M_init_5 rfl (lv_at hl 0 rfl) ?_
  refine lv_iload_n hx hb d_M_init_6 rfl (lv_at hl 2 rfl) ?_
  refine gw_put (D := D) (cl := vwCl) (ci := 2) (C := "StackRoom$Method") (T := T_M) (N := 4) (v := .int t) (ty := .int) hx hb ht in_M ty_M tk_M nm_M hown hK.1 hP hS f1 rfl 2 (by decide) (ht _ fl_M_M_temporaries) (fun _ h9 => h9) rfl (by decide +kernel) rfl rfl (Nat.le_of_ble_eq_true rfl) d_M_init_7 (fun H locs hP hS => ?_)
  obtain ⟨G2, eG2⟩ : ∃ z : gw_G, z = va_up G1 a (some (.inr (2, [.int v, .int 0, .int t, .int 0]))) := ⟨_, rfl⟩
  have hP : gw_P D vwCl (gw_A G s.heap.size) G2 H := by rw [eG2]; exact hP
  have f2 : G2 a = some (.inr (2, [.int v, .int 0, .int t, .int 0])) := by rw [eG2]; exact va_up_self _ _ _
  refine lv_aload_n hx hb d_M_init_10 rfl (lv_at hl 0 rfl) ?_
  refine lv_iload_n hx hb d_M_init_11 rfl (lv_at hl 3 rfl) ?_
  refine gw_put (D := D) (cl := vwCl) (ci := 2) (C := "StackRoom$Method") (T := T_M) (N := 4) (v := .int d) (ty := .int) hx hb ht in_M ty_M tk_M nm_M hown hK.1 hP hS f2 rfl 3 (by decide) (ht _ fl_M_M_depth) (fun _ h9 => h9) rfl (by decide +kernel) rfl rfl (Nat.le_of_ble_eq_true rfl) d_M_init_12 (fun H locs hP hS => ?_)
  obtain ⟨G3, eG3⟩ : ∃ z : gw_G, z = va_up G2 a (some (.inr (2, [.int v, .int 0, .int t, .int d]))) := ⟨_, rfl⟩
  have hP : gw_P D vwCl (gw_A G s.heap.size) G3 H := by rw [eG3]; exact hP
  have f3 : G3 a = some (.inr (2, [.int v, .int 0, .int t, .int d])) := by rw [eG3]; exact va_up_self _ _ _
  have e9 : G3 = va_up G a (some (.inr (2, [.int v, .int 0, .int t, .int d]))) := by rw [eG3, eG2, eG1, va_up_up, va_up_up]
  exact W.vret hx hb hr (fun t ht hW => ⟨⟨G3, rfl, e9, g_fin ht hP⟩, hS.F ht⟩) hS.2.2 d_M_init_15
set_option maxHeartbeats 4000000 in
set_option maxRecDepth 100000 in
theorem k_C_init_XN (l : Launch) {a : Nat} (ha : G a = some (.inr (3, [.int 0, .int 0, .null, .int 0, .int 0, .null, .null]))) (ht0 : tys[0]? = some (cV, .object "StackRoom$Value")) (v dd h : Int32) (hdd : dd = 0 ∨ dd = 1) {k : Nat} (hk : k ≤ 94) : Met l y_C_init w_C_init ({ frames := 3, cells := 1, slots := 94, locals := 61 }) (g_pre D tys G sz [.ref a, .int v, .null, .int dd, .int h, .int (nI k)]) (va_Qv (fun G1 : gw_G => ∃ q, G q = none ∧ G1 = va_up (va_up G q (some (.inl (cV, k, qv (fun _ => none))))) a (some (.inr (3, [.int v, .int 0, .null, .int dd, .int h, .ref q, .null])))) (g_end D G sz) (gw_A G sz)) 1 94 (gw_A G sz) := by
  refine Met.ofW (cc := b_C_init) (maxL := 6) (ret := none) (by decide) rfl ?_
  intro p e s m args below meth c s₁ B hml hv
  obtain ⟨rfl, hsz, hP, hK⟩ := hv
  have hx := B.exec
  have hb := B.bytes
  have hr := B.returns
  have ht := fun w (hw : w ∈ gt) => atoms_spec (ws := w_C_init) B.pre w (List.mem_cons_of_mem _ hw)
  have hown : s.vm.findClass "StackRoom$Context" = some m.cls := findClass_of_methodNamed B.named
  have hlocks := B.notSynchronized
  have hin : meth.name = "<init>" := (name_of_methodNamed B.named B.method).1
  have C0 : CallFix p m c b_C_init 6 s [.ref a, .int v, .null, .int dd, .int h, .int (nI k)].toArray gt "StackRoom$Context" := ⟨hx, hb, hml, hown, ht⟩
  subst hsz
  have hP := hP.self (sz := s.heap.size)
  have hA : ∀ q : Nat, s.heap.size ≤ q → gw_A G s.heap.size q := fun q h => Or.inr h
  have hS : va_S (gw_A G s.heap.size) s.heap s.heap [] := va_S.rf
  have hl := lv_entry ([.ref a, .int v, .null, .int dd, .int h, .int (nI k)]) (n := 6) (Nat.le_of_ble_eq_true rfl)
  rw [lg_entry_eq]
  generalize (lg_sl ([.ref a, .int v, .null, .int dd, .int h, .int (nI k)]) ++ List.replicate (6 - (lg_sl ([.ref a, .int v, .null, .int dd, .int h, .int (nI k)])).length) Slot.unset).toArray = ls at hl ⊢
  have hl : lv_has ls 6 [(0, .ref a), (1, .int v), (2, .null), (3, .int dd), (4, .int h), (5, .int (nI k))] := hl
  refine lv_aload_n hx hb d_C_init_0 rfl (lv_at hl 0 rfl) ?_
  refine lv_iload_n hx hb d_C_init_1 rfl (lv_at hl 1 rfl) ?_
  refine g_callv hP hS hA (r_I (rest := []) C0 [.int v] (k_T_init_X l ha v) ml_C_T_init im_T_init ini_T co_T_init rfl hd_T_init (g_preS hK hP) hl.1 d_C_init_2 rfl rfl (Nat.le_of_ble_eq_true rfl) ⟨rfl, rfl⟩ ⟨Nat.le_of_ble_eq_true rfl, Nat.le_of_ble_eq_true rfl⟩ ⟨Nat.le_of_ble_eq_true rfl, Nat.le_of_ble_eq_true rfl⟩) (fun G1 H locs eG1 hP hS hz9 hk9 => ?_)
  have f1 : G1 a = some (.inr (3, [.int v, .int 0, .null, .int 0, .int 0, .null, .null])) := by rw [eG1]; exact va_up_self _ _ _
  refine lv_aload_n hx hb d_C_init_5 rfl (lv_at hl 0 rfl) ?_
  refine lv_aload_nN hx hb d_C_init_6 rfl (lv_at hl 2 rfl) ?_
  refine gw_put (D := D) (cl := vwCl) (ci := 3) (C := "StackRoom$MethodContext") (T := T_X) (N := 7) (v := .null) (ty := .object "StackRoom$Context") hx hb ht in_X ty_X tk_X nm_X hown hK.1 hP hS f1 rfl 2 (by decide) (ht _ fl_C_C_sender) (fun _ h9 => h9) rfl (by decide +kernel) rfl rfl (Nat.le_of_ble_eq_true rfl) d_C_init_7 (fun H locs hP hS => ?_)
  obtain ⟨G2, eG2⟩ : ∃ z : gw_G, z = va_up G1 a (some (.inr (3, [.int v, .int 0, .null, .int 0, .int 0, .null, .null]))) := ⟨_, rfl⟩
  have hP : gw_P D vwCl (gw_A G s.heap.size) G2 H := by rw [eG2]; exact hP
  have f2 : G2 a = some (.inr (3, [.int v, .int 0, .null, .int 0, .int 0, .null, .null])) := by rw [eG2]; exact va_up_self _ _ _
  refine lv_aload_n hx hb d_C_init_10 rfl (lv_at hl 0 rfl) ?_
  refine lv_iload_n hx hb d_C_init_11 rfl (lv_at hl 3 rfl) ?_
  refine gw_put (D := D) (cl := vwCl) (ci := 3) (C := "StackRoom$MethodContext") (T := T_X) (N := 7) (v := .int dd) (ty := .boolean) hx hb ht in_X ty_X tk_X nm_X hown hK.1 hP hS f2 rfl 3 (by decide) (ht _ fl_C_C_dead) (fun _ h9 => h9) rfl (by decide +kernel) (by rcases hdd with e | e <;> rw [e] <;> rfl) (by rcases hdd with e | e <;> rw [e] <;> rfl) (Nat.le_of_ble_eq_true rfl) d_C_init_12 (fun H locs hP hS => ?_)
  obtain ⟨G3, eG3⟩ : ∃ z : gw_G, z = va_up G2 a (some (.inr (3, [.int v, .int 0, .null, .int dd, .int 0, .null, .null]))) := ⟨_, rfl⟩
  have hP : gw_P D vwCl (gw_A G s.heap.size) G3 H := by rw [eG3]; exact hP
  have f3 : G3 a = some (.inr (3, [.int v, .int 0, .null, .int dd, .int 0, .null, .null])) := by rw [eG3]; exact va_up_self _ _ _
  refine lv_aload_n hx hb d_C_init_15 rfl (lv_at hl 0 rfl) ?_
  refine lv_iload hx hb d_C_init_16 (lv_at hl 4 rfl) ?_
  refine gw_put (D := D) (cl := vwCl) (ci := 3) (C := "StackRoom$MethodContext") (T := T_X) (N := 7) (v := .int h) (ty := .int) hx hb ht in_X ty_X tk_X nm_X hown hK.1 hP hS f3 rfl 4 (by decide) (ht _ fl_C_C_height) (fun _ h9 => h9) rfl (by decide +kernel) rfl rfl (Nat.le_of_ble_eq_true rfl) d_C_init_18 (fun H locs hP hS => ?_)
  obtain ⟨G4, eG4⟩ : ∃ z : gw_G, z = va_up G3 a (some (.inr (3, [.int v, .int 0, .null, .int dd, .int h, .null, .null]))) := ⟨_, rfl⟩
  have hP : gw_P D vwCl (gw_A G s.heap.size) G4 H := by rw [eG4]; exact hP
  have f4 : G4 a = some (.inr (3, [.int v, .int 0, .null, .int dd, .int h, .null, .null])) := by rw [eG4]; exact va_up_self _ _ _
  refine lv_aload_n hx hb d_C_init_21 rfl (lv_at hl 0 rfl) ?_
  refine lv_iload hx hb d_C_init_22 (lv_at hl 5 rfl) ?_
  refine gw_newq (C := "StackRoom$Value") hx hb hown (ht _ cl_C_V) hK.2.2.1 hK.1 hP hS hA (n := nI k) (N' := k) (nI_pos (by omega)) (nI_clamp (by omega)) (by omega) (Nat.le_of_ble_eq_true rfl) (show 0 + k ≤ 94 by omega) d_C_init_24 (fun q cA H hK1 hP hq hS => ?_)
  have hcA := k_arr hK.1 ht0 hK1
  subst hcA
  obtain ⟨G5, eG5⟩ : ∃ z : gw_G, z = va_up G4 q (some (.inl (cA, k, qv (fun _ => none)))) := ⟨_, rfl⟩
  have hP : gw_P D vwCl (gw_A G s.heap.size) G5 H := by rw [eG5]; exact hP
  have hqa : a ≠ q := gw_neN f4 hq
  have f6 : G5 a = some (.inr (3, [.int v, .int 0, .null, .int dd, .int h, .null, .null])) := by rw [eG5]; exact gw_up f4 hqa
  refine gw_putF (D := D) (cl := vwCl) (ci := 3) (C := "StackRoom$MethodContext") (T := T_X) (N := 7) (v := .ref q) (ty := .array (.object "StackRoom$Value")) hx hb ht in_X ty_X tk_X nm_X hown hK.1 hP hS f6 rfl 5 (by decide) (ht _ fl_C_C_fields) (fun _ h9 => h9) rfl hin rfl (by decide +kernel) rfl rfl (Nat.le_of_ble_eq_true rfl) d_C_init_27 (fun H locs hP hS => ?_)
  obtain ⟨G7, eG7⟩ : ∃ z : gw_G, z = va_up G5 a (some (.inr (3, [.int v, .int 0, .null, .int dd, .int h, .ref q, .null]))) := ⟨_, rfl⟩
  have hP : gw_P D vwCl (gw_A G s.heap.size) G7 H := by rw [eG7]; exact hP
  have f7 : G7 a = some (.inr (3, [.int v, .int 0, .null, .int dd, .int h, .ref q, .null])) := by rw [eG7]; exact va_up_self _ _ _
  refine W.widen (k := 1) (n := 94) (by omega) (by omega) ?_
  have e9 : G7 = va_up (va_up G q (some (.inl (cA, k, qv (fun _ => none))))) a (some (.inr (3, [.int v, .int 0, .null, .int dd, .int h, .ref q, .null]))) := by rw [eG7, eG5, eG4, eG3, eG2, eG1, va_up_up, va_up_up, va_up_up, va_up_sw _ _ _ hqa, va_up_up]
  have hq9 : G q = none := by rw [eG4, eG3, eG2, eG1, va_up_up, va_up_up, va_up_up, va_up_ne _ _ (Ne.symm hqa)] at hq; exact hq
  exact W.vret hx hb hr (fun t ht hW => ⟨⟨G7, rfl, ⟨q, hq9, e9⟩, g_fin ht hP⟩, hS.F ht⟩) hS.2.2 d_C_init_30
set_option maxHeartbeats 4000000 in
set_option maxRecDepth 100000 in
theorem k_C_init_XR (l : Launch) {a : Nat} (ha : G a = some (.inr (3, [.int 0, .int 0, .null, .int 0, .int 0, .null, .null]))) (ht0 : tys[0]? = some (cV, .object "StackRoom$Value")) (sd : Nat) (v dd h : Int32) (hdd : dd = 0 ∨ dd = 1) {k : Nat} (hk : k ≤ 94) : Met l y_C_init w_C_init ({ frames := 3, cells := 1, slots := 94, locals := 61 }) (g_pre D tys G sz [.ref a, .int v, .ref sd, .int dd, .int h, .int (nI k)]) (va_Qv (fun G1 : gw_G => ∃ q, G q = none ∧ G1 = va_up (va_up G q (some (.inl (cV, k, qv (fun _ => none))))) a (some (.inr (3, [.int v, .int 0, .ref sd, .int dd, .int h, .ref q, .null])))) (g_end D G sz) (gw_A G sz)) 1 94 (gw_A G sz) := by
  refine Met.ofW (cc := b_C_init) (maxL := 6) (ret := none) (by decide) rfl ?_
  intro p e s m args below meth c s₁ B hml hv
  obtain ⟨rfl, hsz, hP, hK⟩ := hv
  have hx := B.exec
  have hb := B.bytes
  have hr := B.returns
  have ht := fun w (hw : w ∈ gt) => atoms_spec (ws := w_C_init) B.pre w (List.mem_cons_of_mem _ hw)
  have hown : s.vm.findClass "StackRoom$Context" = some m.cls := findClass_of_methodNamed B.named
  have hlocks := B.notSynchronized
  have hin : meth.name = "<init>" := (name_of_methodNamed B.named B.method).1
  have C0 : CallFix p m c b_C_init 6 s [.ref a, .int v, .ref sd, .int dd, .int h, .int (nI k)].toArray gt "StackRoom$Context" := ⟨hx, hb, hml, hown, ht⟩
  subst hsz
  have hP := hP.self (sz := s.heap.size)
  have hA : ∀ q : Nat, s.heap.size ≤ q → gw_A G s.heap.size q := fun q h => Or.inr h
  have hS : va_S (gw_A G s.heap.size) s.heap s.heap [] := va_S.rf
  have hl := lv_entry ([.ref a, .int v, .ref sd, .int dd, .int h, .int (nI k)]) (n := 6) (Nat.le_of_ble_eq_true rfl)
  rw [lg_entry_eq]
  generalize (lg_sl ([.ref a, .int v, .ref sd, .int dd, .int h, .int (nI k)]) ++ List.replicate (6 - (lg_sl ([.ref a, .int v, .ref sd, .int dd, .int h, .int (nI k)])).length) Slot.unset).toArray = ls at hl ⊢
  have hl : lv_has ls 6 [(0, .ref a), (1, .int v), (2, .ref sd), (3, .int dd), (4, .int h), (5, .int (nI k))] := hl
  refine lv_aload_n hx hb d_C_init_0 rfl (lv_at hl 0 rfl) ?_
  refine lv_iload_n hx hb d_C_init_1 rfl (lv_at hl 1 rfl) ?_
  refine g_callv hP hS hA (r_I (rest := []) C0 [.int v] (k_T_init_X l ha v) ml_C_T_init im_T_init ini_T co_T_init rfl hd_T_init (g_preS hK hP) hl.1 d_C_init_2 rfl rfl (Nat.le_of_ble_eq_true rfl) ⟨rfl, rfl⟩ ⟨Nat.le_of_ble_eq_true rfl, Nat.le_of_ble_eq_true rfl⟩ ⟨Nat.le_of_ble_eq_true rfl, Nat.le_of_ble_eq_true rfl⟩) (fun G1 H locs eG1 hP hS hz9 hk9 => ?_)
  have f1 : G1 a = some (.inr (3, [.int v, .int 0, .null, .int 0, .int 0, .null, .null])) := by rw [eG1]; exact va_up_self _ _ _
  refine lv_aload_n hx hb d_C_init_5 rfl (lv_at hl 0 rfl) ?_
  refine lv_aload_n hx hb d_C_init_6 rfl (lv_at hl 2 rfl) ?_
  refine gw_put (D := D) (cl := vwCl) (ci := 3) (C := "StackRoom$MethodContext") (T := T_X) (N := 7) (v := .ref sd) (ty := .object "StackRoom$Context") hx hb ht in_X ty_X tk_X nm_X hown hK.1 hP hS f1 rfl 2 (by decide) (ht _ fl_C_C_sender) (fun _ h9 => h9) rfl (by decide +kernel) rfl rfl (Nat.le_of_ble_eq_true rfl) d_C_init_7 (fun H locs hP hS => ?_)
  obtain ⟨G2, eG2⟩ : ∃ z : gw_G, z = va_up G1 a (some (.inr (3, [.int v, .int 0, .ref sd, .int 0, .int 0, .null, .null]))) := ⟨_, rfl⟩
  have hP : gw_P D vwCl (gw_A G s.heap.size) G2 H := by rw [eG2]; exact hP
  have f2 : G2 a = some (.inr (3, [.int v, .int 0, .ref sd, .int 0, .int 0, .null, .null])) := by rw [eG2]; exact va_up_self _ _ _
  refine lv_aload_n hx hb d_C_init_10 rfl (lv_at hl 0 rfl) ?_
  refine lv_iload_n hx hb d_C_init_11 rfl (lv_at hl 3 rfl) ?_
  refine gw_put (D := D) (cl := vwCl) (ci := 3) (C := "StackRoom$MethodContext") (T := T_X) (N := 7) (v := .int dd) (ty := .boolean) hx hb ht in_X ty_X tk_X nm_X hown hK.1 hP hS f2 rfl 3 (by decide) (ht _ fl_C_C_dead) (fun _ h9 => h9) rfl (by decide +kernel) (by rcases hdd with e | e <;> rw [e] <;> rfl) (by rcases hdd with e | e <;> rw [e] <;> rfl) (Nat.le_of_ble_eq_true rfl) d_C_init_12 (fun H locs hP hS => ?_)
  obtain ⟨G3, eG3⟩ : ∃ z : gw_G, z = va_up G2 a (some (.inr (3, [.int v, .int 0, .ref sd, .int dd, .int 0, .null, .null]))) := ⟨_, rfl⟩
  have hP : gw_P D vwCl (gw_A G s.heap.size) G3 H := by rw [eG3]; exact hP
  have f3 : G3 a = some (.inr (3, [.int v, .int 0, .ref sd, .int dd, .int 0, .null, .null])) := by rw [eG3]; exact va_up_self _ _ _
  refine lv_aload_n hx hb d_C_init_15 rfl (lv_at hl 0 rfl) ?_
  refine lv_iload hx hb d_C_init_16 (lv_at hl 4 rfl) ?_
  refine gw_put (D := D) (cl := vwCl) (ci := 3) (C := "StackRoom$MethodContext") (T := T_X) (N := 7) (v := .int h) (ty := .int) hx hb ht in_X ty_X tk_X nm_X hown hK.1 hP hS f3 rfl 4 (by decide) (ht _ fl_C_C_height) (fun _ h9 => h9) rfl (by decide +kernel) rfl rfl (Nat.le_of_ble_eq_true rfl) d_C_init_18 (fun H locs hP hS => ?_)
  obtain ⟨G4, eG4⟩ : ∃ z : gw_G, z = va_up G3 a (some (.inr (3, [.int v, .int 0, .ref sd, .int dd, .int h, .null, .null]))) := ⟨_, rfl⟩
  have hP : gw_P D vwCl (gw_A G s.heap.size) G4 H := by rw [eG4]; exact hP
  have f4 : G4 a = some (.inr (3, [.int v, .int 0, .ref sd, .int dd, .int h, .null, .null])) := by rw [eG4]; exact va_up_self _ _ _
  refine lv_aload_n hx hb d_C_init_21 rfl (lv_at hl 0 rfl) ?_
  refine lv_iload hx hb d_C_init_22 (lv_at hl 5 rfl) ?_
  refine gw_newq (C := "StackRoom$Value") hx hb hown (ht _ cl_C_V) hK.2.2.1 hK.1 hP hS hA (n := nI k) (N' := k) (nI_pos (by omega)) (nI_clamp (by omega)) (by omega) (Nat.le_of_ble_eq_true rfl) (show 0 + k ≤ 94 by omega) d_C_init_24 (fun q cA H hK1 hP hq hS => ?_)
  have hcA := k_arr hK.1 ht0 hK1
  subst hcA
  obtain ⟨G5, eG5⟩ : ∃ z : gw_G, z = va_up G4 q (some (.inl (cA, k, qv (fun _ => none)))) := ⟨_, rfl⟩
  have hP : gw_P D vwCl (gw_A G s.heap.size) G5 H := by rw [eG5]; exact hP
  have hqa : a ≠ q := gw_neN f4 hq
  have f6 : G5 a = some (.inr (3, [.int v, .int 0, .ref sd, .int dd, .int h, .null, .null])) := by rw [eG5]; exact gw_up f4 hqa
  refine gw_putF (D := D) (cl := vwCl) (ci := 3) (C := "StackRoom$MethodContext") (T := T_X) (N := 7) (v := .ref q) (ty := .array (.object "StackRoom$Value")) hx hb ht in_X ty_X tk_X nm_X hown hK.1 hP hS f6 rfl 5 (by decide) (ht _ fl_C_C_fields) (fun _ h9 => h9) rfl hin rfl (by decide +kernel) rfl rfl (Nat.le_of_ble_eq_true rfl) d_C_init_27 (fun H locs hP hS => ?_)
  obtain ⟨G7, eG7⟩ : ∃ z : gw_G, z = va_up G5 a (some (.inr (3, [.int v, .int 0, .ref sd, .int dd, .int h, .ref q, .null]))) := ⟨_, rfl⟩
  have hP : gw_P D vwCl (gw_A G s.heap.size) G7 H := by rw [eG7]; exact hP
  have f7 : G7 a = some (.inr (3, [.int v, .int 0, .ref sd, .int dd, .int h, .ref q, .null])) := by rw [eG7]; exact va_up_self _ _ _
  refine W.widen (k := 1) (n := 94) (by omega) (by omega) ?_
  have e9 : G7 = va_up (va_up G q (some (.inl (cA, k, qv (fun _ => none))))) a (some (.inr (3, [.int v, .int 0, .ref sd, .int dd, .int h, .ref q, .null]))) := by rw [eG7, eG5, eG4, eG3, eG2, eG1, va_up_up, va_up_up, va_up_up, va_up_sw _ _ _ hqa, va_up_up]
  have hq9 : G q = none := by rw [eG4, eG3, eG2, eG1, va_up_up, va_up_up, va_up_up, va_up_ne _ _ (Ne.symm hqa)] at hq; exact hq
  exact W.vret hx hb hr (fun t ht hW => ⟨⟨G7, rfl, ⟨q, hq9, e9⟩, g_fin ht hP⟩, hS.F ht⟩) hS.2.2 d_C_init_30
set_option maxHeartbeats 4000000 in
set_option maxRecDepth 100000 in
theorem k_C_init_BN (l : Launch) {a : Nat} (ha : G a = some (.inr (4, [.int 0, .int 0, .null, .int 0, .int 0, .null, .null, .int 0]))) (ht0 : tys[0]? = some (cV, .object "StackRoom$Value")) (v dd h : Int32) (hdd : dd = 0 ∨ dd = 1) {k : Nat} (hk : k ≤ 94) : Met l y_C_init w_C_init ({ frames := 3, cells := 1, slots := 94, locals := 61 }) (g_pre D tys G sz [.ref a, .int v, .null, .int dd, .int h, .int (nI k)]) (va_Qv (fun G1 : gw_G => ∃ q, G q = none ∧ G1 = va_up (va_up G q (some (.inl (cV, k, qv (fun _ => none))))) a (some (.inr (4, [.int v, .int 0, .null, .int dd, .int h, .ref q, .null, .int 0])))) (g_end D G sz) (gw_A G sz)) 1 94 (gw_A G sz) := by
  refine Met.ofW (cc := b_C_init) (maxL := 6) (ret := none) (by decide) rfl ?_
  intro p e s m args below meth c s₁ B hml hv
  obtain ⟨rfl, hsz, hP, hK⟩ := hv
  have hx := B.exec
  have hb := B.bytes
  have hr := B.returns
  have ht := fun w (hw : w ∈ gt) => atoms_spec (ws := w_C_init) B.pre w (List.mem_cons_of_mem _ hw)
  have hown : s.vm.findClass "StackRoom$Context" = some m.cls := findClass_of_methodNamed B.named
  have hlocks := B.notSynchronized
  have hin : meth.name = "<init>" := (name_of_methodNamed B.named B.method).1
  have C0 : CallFix p m c b_C_init 6 s [.ref a, .int v, .null, .int dd, .int h, .int (nI k)].toArray gt "StackRoom$Context" := ⟨hx, hb, hml, hown, ht⟩
  subst hsz
  have hP := hP.self (sz := s.heap.size)
  have hA : ∀ q : Nat, s.heap.size ≤ q → gw_A G s.heap.size q := fun q h => Or.inr h
  have hS : va_S (gw_A G s.heap.size) s.heap s.heap [] := va_S.rf
  have hl := lv_entry ([.ref a, .int v, .null, .int dd, .int h, .int (nI k)]) (n := 6) (Nat.le_of_ble_eq_true rfl)
  rw [lg_entry_eq]
  generalize (lg_sl ([.ref a, .int v, .null, .int dd, .int h, .int (nI k)]) ++ List.replicate (6 - (lg_sl ([.ref a, .int v, .null, .int dd, .int h, .int (nI k)])).length) Slot.unset).toArray = ls at hl ⊢
  have hl : lv_has ls 6 [(0, .ref a), (1, .int v), (2, .null), (3, .int dd), (4, .int h), (5, .int (nI k))] := hl
  refine lv_aload_n hx hb d_C_init_0 rfl (lv_at hl 0 rfl) ?_
  refine lv_iload_n hx hb d_C_init_1 rfl (lv_at hl 1 rfl) ?_
  refine g_callv hP hS hA (r_I (rest := []) C0 [.int v] (k_T_init_B l ha v) ml_C_T_init im_T_init ini_T co_T_init rfl hd_T_init (g_preS hK hP) hl.1 d_C_init_2 rfl rfl (Nat.le_of_ble_eq_true rfl) ⟨rfl, rfl⟩ ⟨Nat.le_of_ble_eq_true rfl, Nat.le_of_ble_eq_true rfl⟩ ⟨Nat.le_of_ble_eq_true rfl, Nat.le_of_ble_eq_true rfl⟩) (fun G1 H locs eG1 hP hS hz9 hk9 => ?_)
  have f1 : G1 a = some (.inr (4, [.int v, .int 0, .null, .int 0, .int 0, .null, .null, .int 0])) := by rw [eG1]; exact va_up_self _ _ _
  refine lv_aload_n hx hb d_C_init_5 rfl (lv_at hl 0 rfl) ?_
  refine lv_aload_nN hx hb d_C_init_6 rfl (lv_at hl 2 rfl) ?_
  refine gw_put (D := D) (cl := vwCl) (ci := 4) (C := "StackRoom$BlockContext") (T := T_B) (N := 8) (v := .null) (ty := .object "StackRoom$Context") hx hb ht in_B ty_B tk_B nm_B hown hK.1 hP hS f1 rfl 2 (by decide) (ht _ fl_C_C_sender) (fun _ h9 => h9) rfl (by decide +kernel) rfl rfl (Nat.le_of_ble_eq_true rfl) d_C_init_7 (fun H locs hP hS => ?_)
  obtain ⟨G2, eG2⟩ : ∃ z : gw_G, z = va_up G1 a (some (.inr (4, [.int v, .int 0, .null, .int 0, .int 0, .null, .null, .int 0]))) := ⟨_, rfl⟩
  have hP : gw_P D vwCl (gw_A G s.heap.size) G2 H := by rw [eG2]; exact hP
  have f2 : G2 a = some (.inr (4, [.int v, .int 0, .null, .int 0, .int 0, .null, .null, .int 0])) := by rw [eG2]; exact va_up_self _ _ _
  refine lv_aload_n hx hb d_C_init_10 rfl (lv_at hl 0 rfl) ?_
  refine lv_iload_n hx hb d_C_init_11 rfl (lv_at hl 3 rfl) ?_
  refine gw_put (D := D) (cl := vwCl) (ci := 4) (C := "StackRoom$BlockContext") (T := T_B) (N := 8) (v := .int dd) (ty := .boolean) hx hb ht in_B ty_B tk_B nm_B hown hK.1 hP hS f2 rfl 3 (by decide) (ht _ fl_C_C_dead) (fun _ h9 => h9) rfl (by decide +kernel) (by rcases hdd with e | e <;> rw [e] <;> rfl) (by rcases hdd with e | e <;> rw [e] <;> rfl) (Nat.le_of_ble_eq_true rfl) d_C_init_12 (fun H locs hP hS => ?_)
  obtain ⟨G3, eG3⟩ : ∃ z : gw_G, z = va_up G2 a (some (.inr (4, [.int v, .int 0, .null, .int dd, .int 0, .null, .null, .int 0]))) := ⟨_, rfl⟩
  have hP : gw_P D vwCl (gw_A G s.heap.size) G3 H := by rw [eG3]; exact hP
  have f3 : G3 a = some (.inr (4, [.int v, .int 0, .null, .int dd, .int 0, .null, .null, .int 0])) := by rw [eG3]; exact va_up_self _ _ _
  refine lv_aload_n hx hb d_C_init_15 rfl (lv_at hl 0 rfl) ?_
  refine lv_iload hx hb d_C_init_16 (lv_at hl 4 rfl) ?_
  refine gw_put (D := D) (cl := vwCl) (ci := 4) (C := "StackRoom$BlockContext") (T := T_B) (N := 8) (v := .int h) (ty := .int) hx hb ht in_B ty_B tk_B nm_B hown hK.1 hP hS f3 rfl 4 (by decide) (ht _ fl_C_C_height) (fun _ h9 => h9) rfl (by decide +kernel) rfl rfl (Nat.le_of_ble_eq_true rfl) d_C_init_18 (fun H locs hP hS => ?_)
  obtain ⟨G4, eG4⟩ : ∃ z : gw_G, z = va_up G3 a (some (.inr (4, [.int v, .int 0, .null, .int dd, .int h, .null, .null, .int 0]))) := ⟨_, rfl⟩
  have hP : gw_P D vwCl (gw_A G s.heap.size) G4 H := by rw [eG4]; exact hP
  have f4 : G4 a = some (.inr (4, [.int v, .int 0, .null, .int dd, .int h, .null, .null, .int 0])) := by rw [eG4]; exact va_up_self _ _ _
  refine lv_aload_n hx hb d_C_init_21 rfl (lv_at hl 0 rfl) ?_
  refine lv_iload hx hb d_C_init_22 (lv_at hl 5 rfl) ?_
  refine gw_newq (C := "StackRoom$Value") hx hb hown (ht _ cl_C_V) hK.2.2.1 hK.1 hP hS hA (n := nI k) (N' := k) (nI_pos (by omega)) (nI_clamp (by omega)) (by omega) (Nat.le_of_ble_eq_true rfl) (show 0 + k ≤ 94 by omega) d_C_init_24 (fun q cA H hK1 hP hq hS => ?_)
  have hcA := k_arr hK.1 ht0 hK1
  subst hcA
  obtain ⟨G5, eG5⟩ : ∃ z : gw_G, z = va_up G4 q (some (.inl (cA, k, qv (fun _ => none)))) := ⟨_, rfl⟩
  have hP : gw_P D vwCl (gw_A G s.heap.size) G5 H := by rw [eG5]; exact hP
  have hqa : a ≠ q := gw_neN f4 hq
  have f6 : G5 a = some (.inr (4, [.int v, .int 0, .null, .int dd, .int h, .null, .null, .int 0])) := by rw [eG5]; exact gw_up f4 hqa
  refine gw_putF (D := D) (cl := vwCl) (ci := 4) (C := "StackRoom$BlockContext") (T := T_B) (N := 8) (v := .ref q) (ty := .array (.object "StackRoom$Value")) hx hb ht in_B ty_B tk_B nm_B hown hK.1 hP hS f6 rfl 5 (by decide) (ht _ fl_C_C_fields) (fun _ h9 => h9) rfl hin rfl (by decide +kernel) rfl rfl (Nat.le_of_ble_eq_true rfl) d_C_init_27 (fun H locs hP hS => ?_)
  obtain ⟨G7, eG7⟩ : ∃ z : gw_G, z = va_up G5 a (some (.inr (4, [.int v, .int 0, .null, .int dd, .int h, .ref q, .null, .int 0]))) := ⟨_, rfl⟩
  have hP : gw_P D vwCl (gw_A G s.heap.size) G7 H := by rw [eG7]; exact hP
  have f7 : G7 a = some (.inr (4, [.int v, .int 0, .null, .int dd, .int h, .ref q, .null, .int 0])) := by rw [eG7]; exact va_up_self _ _ _
  refine W.widen (k := 1) (n := 94) (by omega) (by omega) ?_
  have e9 : G7 = va_up (va_up G q (some (.inl (cA, k, qv (fun _ => none))))) a (some (.inr (4, [.int v, .int 0, .null, .int dd, .int h, .ref q, .null, .int 0]))) := by rw [eG7, eG5, eG4, eG3, eG2, eG1, va_up_up, va_up_up, va_up_up, va_up_sw _ _ _ hqa, va_up_up]
  have hq9 : G q = none := by rw [eG4, eG3, eG2, eG1, va_up_up, va_up_up, va_up_up, va_up_ne _ _ (Ne.symm hqa)] at hq; exact hq
  exact W.vret hx hb hr (fun t ht hW => ⟨⟨G7, rfl, ⟨q, hq9, e9⟩, g_fin ht hP⟩, hS.F ht⟩) hS.2.2 d_C_init_30
set_option maxHeartbeats 4000000 in
set_option maxRecDepth 100000 in
theorem k_X_init_N (l : Launch) {a mt : Nat} (ha : G a = some (.inr (3, [.int 0, .int 0, .null, .int 0, .int 0, .null, .null]))) (ht0 : tys[0]? = some (cV, .object "StackRoom$Value")) {m0 m1 : Int32} {t d : Nat} (hmt : G mt = some (.inr (kM, [.int m0, .int m1, .int (nI t), .int (nI d)]))) (v : Int32) (hk : t + d ≤ 94) : Met l y_X_init w_X_init ({ frames := 4, cells := 1, slots := 94, locals := 86 }) (g_pre D tys G sz [.ref a, .int v, .ref mt, .null]) (va_Qv (fun G1 : gw_G => ∃ q, G q = none ∧ G1 = va_up (va_up G q (some (.inl (cV, t + d, qv (fun _ => none))))) a (some (.inr (3, [.int v, .int 0, .null, .int 0, .int (nI t), .ref q, .ref mt])))) (g_end D G sz) (gw_A G sz)) 1 94 (gw_A G sz) := by
  refine Met.ofW (cc := b_X_init) (maxL := 4) (ret := none) (by decide) rfl ?_
  intro p e s m args below meth c s₁ B hml hv
  obtain ⟨rfl, hsz, hP, hK⟩ := hv
  have hx := B.exec
  have hb := B.bytes
  have hr := B.returns
  have ht := fun w (hw : w ∈ gt) => atoms_spec (ws := w_X_init) B.pre w (List.mem_cons_of_mem _ hw)
  have hown : s.vm.findClass "StackRoom$MethodContext" = some m.cls := findClass_of_methodNamed B.named
  have hlocks := B.notSynchronized
  have hin : meth.name = "<init>" := (name_of_methodNamed B.named B.method).1
  have C0 : CallFix p m c b_X_init 4 s [.ref a, .int v, .ref mt, .null].toArray gt "StackRoom$MethodContext" := ⟨hx, hb, hml, hown, ht⟩
  subst hsz
  have hP := hP.self (sz := s.heap.size)
  have hA : ∀ q : Nat, s.heap.size ≤ q → gw_A G s.heap.size q := fun q h => Or.inr h
  have hS : va_S (gw_A G s.heap.size) s.heap s.heap [] := va_S.rf
  have hl := lv_entry ([.ref a, .int v, .ref mt, .null]) (n := 4) (Nat.le_of_ble_eq_true rfl)
  rw [lg_entry_eq]
  generalize (lg_sl ([.ref a, .int v, .ref mt, .null]) ++ List.replicate (4 - (lg_sl ([.ref a, .int v, .ref mt, .null])).length) Slot.unset).toArray = ls at hl ⊢
  have hl : lv_has ls 4 [(0, .ref a), (1, .int v), (2, .ref mt), (3, .null)] := hl
  refine lv_aload_n hx hb d_X_init_0 rfl (lv_at hl 0 rfl) ?_
  refine lv_iload_n hx hb d_X_init_1 rfl (lv_at hl 1 rfl) ?_
  refine lv_aload_nN hx hb d_X_init_2 rfl (lv_at hl 3 rfl) ?_
  refine lv_iconst (v := 0) hx hb d_X_init_3 (by decide) ?_
  refine lv_aload_n hx hb d_X_init_4 rfl (lv_at hl 2 rfl) ?_
  refine va_getN (D := D) (ci := 2) (C := "StackRoom$Method") (T := T_M) (N := 4) (v := .int (nI t)) hx hb ht in_M hown hK.1 (hP.one hmt) 0 rfl rfl 2 (by decide) (va_Nw.use rfl (hK.2.1 _ fn_X_M_temporaries)) (fun _ h9 => h9) rfl d_X_init_5 ?_
  refine lv_aload_n hx hb d_X_init_8 rfl (lv_at hl 2 rfl) ?_
  refine va_getN (D := D) (ci := 2) (C := "StackRoom$Method") (T := T_M) (N := 4) (v := .int (nI t)) hx hb ht in_M hown hK.1 (hP.one hmt) 0 rfl rfl 2 (by decide) (va_Nw.use rfl (hK.2.1 _ fn_X_M_temporaries)) (fun _ h9 => h9) rfl d_X_init_9 ?_
  refine lv_aload_n hx hb d_X_init_12 rfl (lv_at hl 2 rfl) ?_
  refine va_getN (D := D) (ci := 2) (C := "StackRoom$Method") (T := T_M) (N := 4) (v := .int (nI d)) hx hb ht in_M hown hK.1 (hP.one hmt) 0 rfl rfl 3 (by decide) (va_Nw.use rfl (hK.2.1 _ fn_X_M_depth)) (fun _ h9 => h9) rfl d_X_init_13 ?_
  refine lv_iadd hx hb d_X_init_16 ?_
  rw [nI_add]
  refine g_callv hP hS hA (r_I (rest := []) C0 [.int v, .null, .int 0, .int (nI t), .int (nI (t + d))] (k_C_init_XN l ha ht0 v 0 (nI t) (Or.inl rfl) (k := t + d) (by omega)) ml_X_C_init im_C_init ini_C co_C_init rfl hd_C_init (g_preS hK hP) hl.1 d_X_init_17 rfl rfl (Nat.le_of_ble_eq_true rfl) ⟨rfl, rfl⟩ ⟨Nat.le_of_ble_eq_true rfl, Nat.le_of_ble_eq_true rfl⟩ ⟨Nat.le_of_ble_eq_true rfl, Nat.le_of_ble_eq_true rfl⟩) (fun G1 H locs eG1 hP hS hz9 hk9 => ?_)
  obtain ⟨q, hq, eG1⟩ := eG1
  have f1 : G1 a = some (.inr (3, [.int v, .int 0, .null, .int 0, .int (nI t), .ref q, .null])) := by rw [eG1]; exact va_up_self _ _ _
  refine lv_aload_n hx hb d_X_init_20 rfl (lv_at hl 0 rfl) ?_
  refine lv_aload_n hx hb d_X_init_21 rfl (lv_at hl 2 rfl) ?_
  refine gw_putF (D := D) (cl := vwCl) (ci := 3) (C := "StackRoom$MethodContext") (T := T_X) (N := 7) (v := .ref mt) (ty := .object "StackRoom$Method") hx hb ht in_X ty_X tk_X nm_X hown hK.1 hP hS f1 rfl 6 (by decide) (ht _ fl_X_X_method) (fun _ h9 => h9) rfl hin rfl (by decide +kernel) rfl rfl (Nat.le_of_ble_eq_true rfl) d_X_init_22 (fun H locs hP hS => ?_)
  obtain ⟨G2, eG2⟩ : ∃ z : gw_G, z = va_up G1 a (some (.inr (3, [.int v, .int 0, .null, .int 0, .int (nI t), .ref q, .ref mt]))) := ⟨_, rfl⟩
  have hP : gw_P D vwCl (gw_A G s.heap.size) G2 H := by rw [eG2]; exact hP
  have f2 : G2 a = some (.inr (3, [.int v, .int 0, .null, .int 0, .int (nI t), .ref q, .ref mt])) := by rw [eG2]; exact va_up_self _ _ _
  have e9 : G2 = va_up (va_up G q (some (.inl (cV, t + d, qv (fun _ => none))))) a (some (.inr (3, [.int v, .int 0, .null, .int 0, .int (nI t), .ref q, .ref mt]))) := by rw [eG2, eG1, va_up_up]
  refine W.widen (k := 1) (n := 94) (by omega) (by omega) ?_
  exact W.vret hx hb hr (fun t ht hW => ⟨⟨G2, rfl, ⟨q, hq, e9⟩, g_fin ht hP⟩, hS.F ht⟩) hS.2.2 d_X_init_25
set_option maxHeartbeats 4000000 in
set_option maxRecDepth 100000 in
theorem k_X_init_R (l : Launch) {a mt : Nat} (ha : G a = some (.inr (3, [.int 0, .int 0, .null, .int 0, .int 0, .null, .null]))) (ht0 : tys[0]? = some (cV, .object "StackRoom$Value")) {m0 m1 : Int32} {t d : Nat} (hmt : G mt = some (.inr (kM, [.int m0, .int m1, .int (nI t), .int (nI d)]))) (sd : Nat) (v : Int32) (hk : t + d ≤ 94) : Met l y_X_init w_X_init ({ frames := 4, cells := 1, slots := 94, locals := 86 }) (g_pre D tys G sz [.ref a, .int v, .ref mt, .ref sd]) (va_Qv (fun G1 : gw_G => ∃ q, G q = none ∧ G1 = va_up (va_up G q (some (.inl (cV, t + d, qv (fun _ => none))))) a (some (.inr (3, [.int v, .int 0, .ref sd, .int 0, .int (nI t), .ref q, .ref mt])))) (g_end D G sz) (gw_A G sz)) 1 94 (gw_A G sz) := by
  refine Met.ofW (cc := b_X_init) (maxL := 4) (ret := none) (by decide) rfl ?_
  intro p e s m args below meth c s₁ B hml hv
  obtain ⟨rfl, hsz, hP, hK⟩ := hv
  have hx := B.exec
  have hb := B.bytes
  have hr := B.returns
  have ht := fun w (hw : w ∈ gt) => atoms_spec (ws := w_X_init) B.pre w (List.mem_cons_of_mem _ hw)
  have hown : s.vm.findClass "StackRoom$MethodContext" = some m.cls := findClass_of_methodNamed B.named
  have hlocks := B.notSynchronized
  have hin : meth.name = "<init>" := (name_of_methodNamed B.named B.method).1
  have C0 : CallFix p m c b_X_init 4 s [.ref a, .int v, .ref mt, .ref sd].toArray gt "StackRoom$MethodContext" := ⟨hx, hb, hml, hown, ht⟩
  subst hsz
  have hP := hP.self (sz := s.heap.size)
  have hA : ∀ q : Nat, s.heap.size ≤ q → gw_A G s.heap.size q := fun q h => Or.inr h
  have hS : va_S (gw_A G s.heap.size) s.heap s.heap [] := va_S.rf
  have hl := lv_entry ([.ref a, .int v, .ref mt, .ref sd]) (n := 4) (Nat.le_of_ble_eq_true rfl)
  rw [lg_entry_eq]
  generalize (lg_sl ([.ref a, .int v, .ref mt, .ref sd]) ++ List.replicate (4 - (lg_sl ([.ref a, .int v, .ref mt, .ref sd])).length) Slot.unset).toArray = ls at hl ⊢
  have hl : lv_has ls 4 [(0, .ref a), (1, .int v), (2, .ref mt), (3, .ref sd)] := hl
  refine lv_aload_n hx hb d_X_init_0 rfl (lv_at hl 0 rfl) ?_
  refine lv_iload_n hx hb d_X_init_1 rfl (lv_at hl 1 rfl) ?_
  refine lv_aload_n hx hb d_X_init_2 rfl (lv_at hl 3 rfl) ?_
  refine lv_iconst (v := 0) hx hb d_X_init_3 (by decide) ?_
  refine lv_aload_n hx hb d_X_init_4 rfl (lv_at hl 2 rfl) ?_
  refine va_getN (D := D) (ci := 2) (C := "StackRoom$Method") (T := T_M) (N := 4) (v := .int (nI t)) hx hb ht in_M hown hK.1 (hP.one hmt) 0 rfl rfl 2 (by decide) (va_Nw.use rfl (hK.2.1 _ fn_X_M_temporaries)) (fun _ h9 => h9) rfl d_X_init_5 ?_
  refine lv_aload_n hx hb d_X_init_8 rfl (lv_at hl 2 rfl) ?_
  refine va_getN (D := D) (ci := 2) (C := "StackRoom$Method") (T := T_M) (N := 4) (v := .int (nI t)) hx hb ht in_M hown hK.1 (hP.one hmt) 0 rfl rfl 2 (by decide) (va_Nw.use rfl (hK.2.1 _ fn_X_M_temporaries)) (fun _ h9 => h9) rfl d_X_init_9 ?_
  refine lv_aload_n hx hb d_X_init_12 rfl (lv_at hl 2 rfl) ?_
  refine va_getN (D := D) (ci := 2) (C := "StackRoom$Method") (T := T_M) (N := 4) (v := .int (nI d)) hx hb ht in_M hown hK.1 (hP.one hmt) 0 rfl rfl 3 (by decide) (va_Nw.use rfl (hK.2.1 _ fn_X_M_depth)) (fun _ h9 => h9) rfl d_X_init_13 ?_
  refine lv_iadd hx hb d_X_init_16 ?_
  rw [nI_add]
  refine g_callv hP hS hA (r_I (rest := []) C0 [.int v, .ref sd, .int 0, .int (nI t), .int (nI (t + d))] (k_C_init_XR l ha ht0 sd v 0 (nI t) (Or.inl rfl) (k := t + d) (by omega)) ml_X_C_init im_C_init ini_C co_C_init rfl hd_C_init (g_preS hK hP) hl.1 d_X_init_17 rfl rfl (Nat.le_of_ble_eq_true rfl) ⟨rfl, rfl⟩ ⟨Nat.le_of_ble_eq_true rfl, Nat.le_of_ble_eq_true rfl⟩ ⟨Nat.le_of_ble_eq_true rfl, Nat.le_of_ble_eq_true rfl⟩) (fun G1 H locs eG1 hP hS hz9 hk9 => ?_)
  obtain ⟨q, hq, eG1⟩ := eG1
  have f1 : G1 a = some (.inr (3, [.int v, .int 0, .ref sd, .int 0, .int (nI t), .ref q, .null])) := by rw [eG1]; exact va_up_self _ _ _
  refine lv_aload_n hx hb d_X_init_20 rfl (lv_at hl 0 rfl) ?_
  refine lv_aload_n hx hb d_X_init_21 rfl (lv_at hl 2 rfl) ?_
  refine gw_putF (D := D) (cl := vwCl) (ci := 3) (C := "StackRoom$MethodContext") (T := T_X) (N := 7) (v := .ref mt) (ty := .object "StackRoom$Method") hx hb ht in_X ty_X tk_X nm_X hown hK.1 hP hS f1 rfl 6 (by decide) (ht _ fl_X_X_method) (fun _ h9 => h9) rfl hin rfl (by decide +kernel) rfl rfl (Nat.le_of_ble_eq_true rfl) d_X_init_22 (fun H locs hP hS => ?_)
  obtain ⟨G2, eG2⟩ : ∃ z : gw_G, z = va_up G1 a (some (.inr (3, [.int v, .int 0, .ref sd, .int 0, .int (nI t), .ref q, .ref mt]))) := ⟨_, rfl⟩
  have hP : gw_P D vwCl (gw_A G s.heap.size) G2 H := by rw [eG2]; exact hP
  have f2 : G2 a = some (.inr (3, [.int v, .int 0, .ref sd, .int 0, .int (nI t), .ref q, .ref mt])) := by rw [eG2]; exact va_up_self _ _ _
  have e9 : G2 = va_up (va_up G q (some (.inl (cV, t + d, qv (fun _ => none))))) a (some (.inr (3, [.int v, .int 0, .ref sd, .int 0, .int (nI t), .ref q, .ref mt]))) := by rw [eG2, eG1, va_up_up]
  refine W.widen (k := 1) (n := 94) (by omega) (by omega) ?_
  exact W.vret hx hb hr (fun t ht hW => ⟨⟨G2, rfl, ⟨q, hq, e9⟩, g_fin ht hP⟩, hS.F ht⟩) hS.2.2 d_X_init_25
theorem k_X_init (l : Launch) {a mt : Nat} (ha : G a = some (.inr (3, [.int 0, .int 0, .null, .int 0, .int 0, .null, .null]))) (ht0 : tys[0]? = some (cV, .object "StackRoom$Value")) {m0 m1 : Int32} {t d : Nat} (hmt : G mt = some (.inr (kM, [.int m0, .int m1, .int (nI t), .int (nI d)]))) (sd : Option Nat) (v : Int32) (hk : t + d ≤ 94) : Met l y_X_init w_X_init ({ frames := 4, cells := 1, slots := 94, locals := 86 }) (g_pre D tys G sz [.ref a, .int v, .ref mt, va_rf sd]) (va_Qv (fun G1 : gw_G => ∃ q, G q = none ∧ G1 = va_up (va_up G q (some (.inl (cV, t + d, qv (fun _ => none))))) a (some (.inr (3, [.int v, .int 0, va_rf sd, .int 0, .int (nI t), .ref q, .ref mt])))) (g_end D G sz) (gw_A G sz)) 1 94 (gw_A G sz) := by
  cases sd with
  | none => exact k_X_init_N l ha ht0 hmt v hk
  | some sd => exact k_X_init_R l ha ht0 hmt sd v hk
set_option maxHeartbeats 4000000 in
set_option maxRecDepth 100000 in
theorem k_B_init (l : Launch) {a hm mt : Nat} (ha : G a = some (.inr (4, [.int 0, .int 0, .null, .int 0, .int 0, .null, .null, .int 0]))) (ht0 : tys[0]? = some (cV, .object "StackRoom$Value")) {h0 h1 h3 h4 m0 m1 m2 : Int32} {hs : Value} {h5 d : Nat} (hhm : G hm = some (.inr (kC, [.int h0, .int h1, hs, .int h3, .int h4, .ref h5, .ref mt]))) (hmt : G mt = some (.inr (kM, [.int m0, .int m1, .int m2, .int (nI d)]))) (v k : Int32) (hk : d ≤ 94) : Met l y_B_init w_B_init ({ frames := 4, cells := 1, slots := 94, locals := 86 }) (g_pre D tys G sz [.ref a, .int v, .ref hm, .int k]) (va_Qv (fun G1 : gw_G => ∃ q, G q = none ∧ G1 = va_up (va_up G q (some (.inl (cV, d, qv (fun _ => none))))) a (some (.inr (4, [.int v, .int 0, .null, .int 1, .int 0, .ref q, .ref hm, .int k])))) (g_end D G sz) (gw_A G sz)) 1 94 (gw_A G sz) := by
  refine Met.ofW (cc := b_B_init) (maxL := 4) (ret := none) (by decide) rfl ?_
  intro p e s m args below meth c s₁ B hml hv
  obtain ⟨rfl, hsz, hP, hK⟩ := hv
  have hx := B.exec
  have hb := B.bytes
  have hr := B.returns
  have ht := fun w (hw : w ∈ gt) => atoms_spec (ws := w_B_init) B.pre w (List.mem_cons_of_mem _ hw)
  have hown : s.vm.findClass "StackRoom$BlockContext" = some m.cls := findClass_of_methodNamed B.named
  have hlocks := B.notSynchronized
  have hin : meth.name = "<init>" := (name_of_methodNamed B.named B.method).1
  have C0 : CallFix p m c b_B_init 4 s [.ref a, .int v, .ref hm, .int k].toArray gt "StackRoom$BlockContext" := ⟨hx, hb, hml, hown, ht⟩
  subst hsz
  have hP := hP.self (sz := s.heap.size)
  have hA : ∀ q : Nat, s.heap.size ≤ q → gw_A G s.heap.size q := fun q h => Or.inr h
  have hS : va_S (gw_A G s.heap.size) s.heap s.heap [] := va_S.rf
  have hl := lv_entry ([.ref a, .int v, .ref hm, .int k]) (n := 4) (Nat.le_of_ble_eq_true rfl)
  rw [lg_entry_eq]
  generalize (lg_sl ([.ref a, .int v, .ref hm, .int k]) ++ List.replicate (4 - (lg_sl ([.ref a, .int v, .ref hm, .int k])).length) Slot.unset).toArray = ls at hl ⊢
  have hl : lv_has ls 4 [(0, .ref a), (1, .int v), (2, .ref hm), (3, .int k)] := hl
  refine lv_aload_n hx hb d_B_init_0 rfl (lv_at hl 0 rfl) ?_
  refine lv_iload_n hx hb d_B_init_1 rfl (lv_at hl 1 rfl) ?_
  refine lv_null hx hb d_B_init_2 ?_
  refine lv_iconst (v := 1) hx hb d_B_init_3 (by decide) ?_
  refine lv_iconst (v := 0) hx hb d_B_init_4 (by decide) ?_
  refine lv_aload_n hx hb d_B_init_5 rfl (lv_at hl 2 rfl) ?_
  refine va_getN (D := D) (ci := 3) (C := "StackRoom$MethodContext") (T := T_X) (N := 7) (v := .ref mt) hx hb ht in_X hown hK.1 (hP.one hhm) 0 rfl rfl 6 (by decide) (va_Nw.use rfl (hK.2.1 _ fn_B_X_method)) (fun _ h9 => h9) rfl d_B_init_6 ?_
  refine va_getN (D := D) (ci := 2) (C := "StackRoom$Method") (T := T_M) (N := 4) (v := .int (nI d)) hx hb ht in_M hown hK.1 (hP.one hmt) 0 rfl rfl 3 (by decide) (va_Nw.use rfl (hK.2.1 _ fn_B_M_depth)) (fun _ h9 => h9) rfl d_B_init_9 ?_
  refine g_callv hP hS hA (r_I (rest := []) C0 [.int v, .null, .int 1, .int 0, .int (nI d)] (k_C_init_BN l ha ht0 v 1 0 (Or.inr rfl) (k := d) (by omega)) ml_B_C_init im_C_init ini_C co_C_init rfl hd_C_init (g_preS hK hP) hl.1 d_B_init_12 rfl rfl (Nat.le_of_ble_eq_true rfl) ⟨rfl, rfl⟩ ⟨Nat.le_of_ble_eq_true rfl, Nat.le_of_ble_eq_true rfl⟩ ⟨Nat.le_of_ble_eq_true rfl, Nat.le_of_ble_eq_true rfl⟩) (fun G1 H locs eG1 hP hS hz9 hk9 => ?_)
  obtain ⟨q, hq, eG1⟩ := eG1
  have f1 : G1 a = some (.inr (4, [.int v, .int 0, .null, .int 1, .int 0, .ref q, .null, .int 0])) := by rw [eG1]; exact va_up_self _ _ _
  refine lv_aload_n hx hb d_B_init_15 rfl (lv_at hl 0 rfl) ?_
  refine lv_aload_n hx hb d_B_init_16 rfl (lv_at hl 2 rfl) ?_
  refine gw_putF (D := D) (cl := vwCl) (ci := 4) (C := "StackRoom$BlockContext") (T := T_B) (N := 8) (v := .ref hm) (ty := .object "StackRoom$MethodContext") hx hb ht in_B ty_B tk_B nm_B hown hK.1 hP hS f1 rfl 6 (by decide) (ht _ fl_B_B_home) (fun _ h9 => h9) rfl hin rfl (by decide +kernel) rfl rfl (Nat.le_of_ble_eq_true rfl) d_B_init_17 (fun H locs hP hS => ?_)
  obtain ⟨G2, eG2⟩ : ∃ z : gw_G, z = va_up G1 a (some (.inr (4, [.int v, .int 0, .null, .int 1, .int 0, .ref q, .ref hm, .int 0]))) := ⟨_, rfl⟩
  have hP : gw_P D vwCl (gw_A G s.heap.size) G2 H := by rw [eG2]; exact hP
  have f2 : G2 a = some (.inr (4, [.int v, .int 0, .null, .int 1, .int 0, .ref q, .ref hm, .int 0])) := by rw [eG2]; exact va_up_self _ _ _
  refine lv_aload_n hx hb d_B_init_20 rfl (lv_at hl 0 rfl) ?_
  refine lv_iload_n hx hb d_B_init_21 rfl (lv_at hl 3 rfl) ?_
  refine gw_putF (D := D) (cl := vwCl) (ci := 4) (C := "StackRoom$BlockContext") (T := T_B) (N := 8) (v := .int k) (ty := .int) hx hb ht in_B ty_B tk_B nm_B hown hK.1 hP hS f2 rfl 7 (by decide) (ht _ fl_B_B_count) (fun _ h9 => h9) rfl hin rfl (by decide +kernel) rfl rfl (Nat.le_of_ble_eq_true rfl) d_B_init_22 (fun H locs hP hS => ?_)
  obtain ⟨G3, eG3⟩ : ∃ z : gw_G, z = va_up G2 a (some (.inr (4, [.int v, .int 0, .null, .int 1, .int 0, .ref q, .ref hm, .int k]))) := ⟨_, rfl⟩
  have hP : gw_P D vwCl (gw_A G s.heap.size) G3 H := by rw [eG3]; exact hP
  have f3 : G3 a = some (.inr (4, [.int v, .int 0, .null, .int 1, .int 0, .ref q, .ref hm, .int k])) := by rw [eG3]; exact va_up_self _ _ _
  have e9 : G3 = va_up (va_up G q (some (.inl (cV, d, qv (fun _ => none))))) a (some (.inr (4, [.int v, .int 0, .null, .int 1, .int 0, .ref q, .ref hm, .int k]))) := by rw [eG3, eG2, eG1, va_up_up, va_up_up]
  refine W.widen (k := 1) (n := 94) (by omega) (by omega) ?_
  exact W.vret hx hb hr (fun t ht hW => ⟨⟨G3, rfl, ⟨q, hq, e9⟩, g_fin ht hP⟩, hS.F ht⟩) hS.2.2 d_B_init_25
end K13
end
section
theorem nK.nWT {U : State} (h : nK U) : va_Nc "StackRoom$Whole" "StackRoom$Thing" U := h.2.2.2.1
theorem nK.nWC {U : State} (h : nK U) : va_Nc "StackRoom$Whole" "StackRoom$Context" U := h.2.2.2.2.1
theorem nK.nMC {U : State} (h : nK U) : va_Nc "StackRoom$Method" "StackRoom$Context" U := h.2.2.2.2.2.1
theorem nK.nWM {U : State} (h : nK U) : va_Nc "StackRoom$Whole" "StackRoom$Method" U := h.2.2.2.2.2.2.1
theorem nK.nXM {U : State} (h : nK U) : va_Nc "StackRoom$MethodContext" "StackRoom$Method" U := h.2.2.2.2.2.2.2.1
theorem nK.nBM {U : State} (h : nK U) : va_Nc "StackRoom$BlockContext" "StackRoom$Method" U := h.2.2.2.2.2.2.2.2.1
theorem nK.nWB {U : State} (h : nK U) : va_Nc "StackRoom$Whole" "StackRoom$BlockContext" U := h.2.2.2.2.2.2.2.2.2.1
theorem nK.nMB {U : State} (h : nK U) : va_Nc "StackRoom$Method" "StackRoom$BlockContext" U := h.2.2.2.2.2.2.2.2.2.2.1
theorem nK.nXB {U : State} (h : nK U) : va_Nc "StackRoom$MethodContext" "StackRoom$BlockContext" U := h.2.2.2.2.2.2.2.2.2.2.2
theorem s_rin {r : Int32} (h : 0 ≤ r ∧ r ≤ 15) : vp_in r 16 := by
  obtain ⟨j, hj, rfl⟩ := nI_of2 (n := 15) rfl (fun q => absurd h.1 (Int32.not_le.mpr q)) h.2
  exact vp_in_nI (by omega) (by decide)
theorem s_ci_no {σ : sS} {r : Int32} (h : ¬ (0 ≤ r ∧ r ≤ 15)) : s_ci σ r = none := by unfold s_ci; rw [if_neg h]
theorem s_ci_nil {σ : sS} {r : Int32} (hq : s_rg σ r.toNatClampNeg = none) : s_ci σ r = none := by unfold s_ci; rw [hq]; split <;> rfl
theorem s_ci_num {σ : sS} {r v : Int32} (hq : s_rg σ r.toNatClampNeg = some (.inl v)) : s_ci σ r = none := by unfold s_ci; rw [hq]; split <;> rfl
theorem s_ci_m {σ : sS} {r : Int32} {j : Nat} (hq : s_rg σ r.toNatClampNeg = some (.inr j)) (hk : s_kd σ j = 2) : s_ci σ r = none := by
  unfold s_ci
  rw [hq]
  split
  · show (if s_kd σ j = 3 ∨ s_kd σ j = 4 then some j else none) = none
    rw [if_neg (by omega)]
  · rfl
theorem s_ci_c {σ : sS} {r : Int32} {j : Nat} (hr : 0 ≤ r ∧ r ≤ 15) (hq : s_rg σ r.toNatClampNeg = some (.inr j)) (hk : s_kd σ j = 3 ∨ s_kd σ j = 4) : s_ci σ r = some j := by
  unfold s_ci
  rw [hq, if_pos hr]
  show (if s_kd σ j = 3 ∨ s_kd σ j = 4 then some j else none) = some j
  rw [if_pos hk]
theorem s_mi_no {σ : sS} {r : Int32} (h : ¬ (0 ≤ r ∧ r ≤ 15)) : s_mi σ r = none := by unfold s_mi; rw [if_neg h]
theorem s_mi_nil {σ : sS} {r : Int32} (hq : s_rg σ r.toNatClampNeg = none) : s_mi σ r = none := by unfold s_mi; rw [hq]; split <;> rfl
theorem s_mi_num {σ : sS} {r v : Int32} (hq : s_rg σ r.toNatClampNeg = some (.inl v)) : s_mi σ r = none := by unfold s_mi; rw [hq]; split <;> rfl
theorem s_mi_c {σ : sS} {r : Int32} {j : Nat} (hq : s_rg σ r.toNatClampNeg = some (.inr j)) (hk : s_kd σ j ≠ 2) : s_mi σ r = none := by
  unfold s_mi
  rw [hq]
  split
  · show (if s_kd σ j = 2 then some j else none) = none
    rw [if_neg hk]
  · rfl
theorem s_mi_m {σ : sS} {r : Int32} {j : Nat} (hr : 0 ≤ r ∧ r ≤ 15) (hq : s_rg σ r.toNatClampNeg = some (.inr j)) (hk : s_kd σ j = 2) : s_mi σ r = some j := by
  unfold s_mi
  rw [hq, if_pos hr]
  show (if s_kd σ j = 2 then some j else none) = some j
  rw [if_pos hk]
theorem s_si_no {σ : sS} {r : Int32} (h : ¬ (0 ≤ r ∧ r ≤ 15)) : s_si σ r = none := by unfold s_si; rw [if_neg h]
theorem s_si_nil {σ : sS} {r : Int32} (hr : 0 ≤ r ∧ r ≤ 15) (hq : s_rg σ r.toNatClampNeg = none) : s_si σ r = some none := by unfold s_si; rw [hq, if_pos hr]
theorem s_si_num {σ : sS} {r v : Int32} (hq : s_rg σ r.toNatClampNeg = some (.inl v)) : s_si σ r = none := by unfold s_si; rw [hq]; split <;> rfl
theorem s_si_m {σ : sS} {r : Int32} {j : Nat} (hq : s_rg σ r.toNatClampNeg = some (.inr j)) (hk : s_kd σ j = 2) : s_si σ r = none := by
  unfold s_si
  rw [hq]
  split
  · show (if s_kd σ j = 3 ∨ s_kd σ j = 4 then some (some j) else none) = none
    rw [if_neg (by omega)]
  · rfl
theorem s_si_c {σ : sS} {r : Int32} {j : Nat} (hr : 0 ≤ r ∧ r ≤ 15) (hq : s_rg σ r.toNatClampNeg = some (.inr j)) (hk : s_kd σ j = 3 ∨ s_kd σ j = 4) : s_si σ r = some (some j) := by
  unfold s_si
  rw [hq, if_pos hr]
  show (if s_kd σ j = 3 ∨ s_kd σ j = 4 then some (some j) else none) = some (some j)
  rw [if_pos hk]
section K14
variable {w n rd md : Nat} {cV cT : ClassId} {σ : sS} {x ra rt : Nat} {ad fa : Nat → Nat} {ρ : Nat → Int32} {fr : Nat → Nat → Option Nat} {rr rf : Nat → Option Nat} {rc wl el cr : Int32} {G : gw_G} {D : va_G} {tys : List (ClassId × FieldType)} {sz : Nat}
set_option maxHeartbeats 4000000 in
set_option maxRecDepth 100000 in
theorem k_S_methodIn (l : Launch) (hR : c_Rep w n rd md cV cT σ x ra rt ad fa ρ fr rr rf rc wl el cr G) (hI : s_I σ) (ht0 : tys[0]? = some (cV, .object "StackRoom$Value")) (r : Int32) : Met l y_S_methodIn w_S_methodIn ({ frames := 2, cells := 0, slots := 0, locals := 42 }) (g_pre D tys G sz [.ref x, .int r]) (va_Sq (fun rz => rz = (s_mi σ r).map ad)) 0 0 (fun _ => False) := by
  refine Met.ofW (cc := b_S_methodIn) (maxL := 4) (ret := (some (.object "StackRoom$Method"))) (by decide) rfl ?_
  intro p e s m args below meth c s₁ B hml hv
  obtain ⟨rfl, hsz, hP, hK⟩ := hv
  have hx := B.exec
  have hb := B.bytes
  have hr := B.returns
  have ht := fun w (hw : w ∈ gt) => atoms_spec (ws := w_S_methodIn) B.pre w (List.mem_cons_of_mem _ hw)
  have hown : s.vm.findClass "StackRoom" = some m.cls := findClass_of_methodNamed B.named
  have hlocks := B.notSynchronized
  have C0 : CallFix p m c b_S_methodIn 4 s [.ref x, .int r].toArray gt "StackRoom" := ⟨hx, hb, hml, hown, ht⟩
  have hl := lv_entry ([.ref x, .int r]) (n := 4) (Nat.le_of_ble_eq_true rfl)
  rw [lg_entry_eq]
  generalize (lg_sl ([.ref x, .int r]) ++ List.replicate (4 - (lg_sl ([.ref x, .int r])).length) Slot.unset).toArray = ls at hl ⊢
  have hl : lv_has ls 4 [(0, .ref x), (1, .int r)] := hl
  refine lv_iload_n hx hb d_S_methodIn_0 rfl (lv_at hl 1 rfl) ?_
  refine vp_callSi (va_Run.run (r_S (rest := []) C0 [.int r] (k_S_isRegister l r) ml_S_S_isRegister st_S_isRegister ini_S co_S_isRegister hd_S_isRegister v_preS hl.1 d_S_methodIn_1 rfl rfl (Nat.le_of_ble_eq_true rfl) ⟨rfl, rfl⟩ ⟨Nat.le_of_ble_eq_true rfl, Nat.le_of_ble_eq_true rfl⟩ ⟨Nat.le_of_ble_eq_true rfl, Nat.le_of_ble_eq_true rfl⟩)) (fun q1 eq1 => ?_)
  refine lv_if_eq (tgt := 28) hx hb d_S_methodIn_4 (by decide) (fun c1 => ?_) (fun c1 => ?_)
  · have hreg : ¬ (0 ≤ r ∧ r ≤ 15) := fun h => absurd (eq1.symm.trans c1) (by rw [if_pos h]; decide)
    refine lv_null hx hb d_S_methodIn_28 ?_
    exact W.aret (v := .null) (rt := .object "StackRoom$Method") hx hb hr (Or.inl ⟨_, rfl⟩) (Or.inl rfl) (fun t ht hW => ⟨none, rfl, by rw [s_mi_no hreg]; rfl, ht⟩) (fun _ h => by cases h) d_S_methodIn_29
  · have hreg : 0 ≤ r ∧ r ≤ 15 := Decidable.byContradiction (fun h => c1 (eq1.trans (if_neg h)))
    refine lv_aload_n hx hb d_S_methodIn_7 rfl (lv_at hl 0 rfl) ?_
    refine va_get (D := D) (ci := 0) (C := "StackRoom") (T := T_S) (N := 10) (v := .ref ra) hx hb ht in_S hown hK.1 (hP.one hR.1) 0 rfl rfl 2 (by decide) (ht _ fl_S_S_registers) (fun _ h9 => h9) rfl d_S_methodIn_8 ?_
    refine lv_iload_n hx hb d_S_methodIn_11 rfl (lv_at hl 1 rfl) ?_
    refine va_aldq (C := "StackRoom$Value") hx hb hK.1 (hP.one hR.2.1) 0 0 rfl ht0 (s_rin hreg) d_S_methodIn_12 ?_
    have hv := hR.2.2.2.2.1 r.toNatClampNeg (s_reg hreg)
    rcases hq : s_rg σ r.toNatClampNeg with _ | (nv | j)
    · have hv : rr r.toNatClampNeg = none := by rw [hq] at hv; exact hv
      rw [hv]
      refine lv_astore_nN (lv' := [(3, .null), (0, .ref x), (1, .int r)]) hx hb d_S_methodIn_13 rfl hl (by decide) rfl (fun ls hl => ?_)
      refine lv_aload_nN hx hb d_S_methodIn_14 rfl (lv_at hl 0 rfl) ?_
      refine lv_instN hx hb d_S_methodIn_15 ?_
      refine lv_if_eq (tgt := 28) hx hb d_S_methodIn_18 (by decide) (fun _ => ?_) (fun h => absurd h (by decide))
      refine lv_null hx hb d_S_methodIn_28 ?_
      exact W.aret (v := .null) (rt := .object "StackRoom$Method") hx hb hr (Or.inl ⟨_, rfl⟩) (Or.inl rfl) (fun t ht hW => ⟨none, rfl, by rw [s_mi_nil hq]; rfl, ht⟩) (fun _ h => by cases h) d_S_methodIn_29
    · obtain ⟨a, h1, h2⟩ : ∃ a, rr r.toNatClampNeg = some a ∧ G a = some (.inr (kW, [.int nv])) := by rw [hq] at hv; exact hv
      rw [h1]
      refine lv_astore_n (lv' := [(3, .ref a), (0, .ref x), (1, .int r)]) hx hb d_S_methodIn_13 rfl hl (by decide) rfl (fun ls hl => ?_)
      refine lv_aload_n hx hb d_S_methodIn_14 rfl (lv_at hl 0 rfl) ?_
      refine va_instNo hx hb hown (ht _ cl_S_M) hK.2.nWM (gw_recv hK.1 hP rfl h2) d_S_methodIn_15 ?_
      refine lv_if_eq (tgt := 28) hx hb d_S_methodIn_18 (by decide) (fun _ => ?_) (fun h => absurd h (by decide))
      refine lv_null hx hb d_S_methodIn_28 ?_
      exact W.aret (v := .null) (rt := .object "StackRoom$Method") hx hb hr (Or.inl ⟨_, rfl⟩) (Or.inl rfl) (fun t ht hW => ⟨none, rfl, by rw [s_mi_num hq]; rfl, ht⟩) (fun _ h => by cases h) d_S_methodIn_29
    · have hv : rr r.toNatClampNeg = some (ad j) := by rw [hq] at hv; exact hv
      rw [hv]
      rcases (hI.2.1 j (hI.2.2.1 _ (s_reg hreg) j hq)).2.2 with hj | hj | hj
      · refine lv_astore_n (lv' := [(3, .ref (ad j)), (0, .ref x), (1, .int r)]) hx hb d_S_methodIn_13 rfl hl (by decide) rfl (fun ls hl => ?_)
        refine lv_aload_n hx hb d_S_methodIn_14 rfl (lv_at hl 0 rfl) ?_
        refine va_instY hx hb hown (ht _ cl_S_M) (hK.2.1 _ ca_M_M) (gw_recv hK.1 hP rfl (hR.c2 hj)) d_S_methodIn_15 ?_
        refine lv_if_eq (tgt := 28) hx hb d_S_methodIn_18 (by decide) (fun h => absurd h (by decide)) (fun _ => ?_)
        refine lv_aload_n hx hb d_S_methodIn_21 rfl (lv_at hl 0 rfl) ?_
        refine va_castY hx hb hown (ht _ cl_S_M) (hK.2.1 _ ca_M_M) (gw_recv hK.1 hP rfl (hR.c2 hj)) d_S_methodIn_22 ?_
        refine lv_astore_n (lv' := [(2, .ref (ad j)), (3, .ref (ad j)), (0, .ref x), (1, .int r)]) hx hb d_S_methodIn_25 rfl hl (by decide) rfl (fun ls hl => ?_)
        refine lv_aload_n hx hb d_S_methodIn_26 rfl (lv_at hl 0 rfl) ?_
        exact W.aret (v := .ref (ad j)) (rt := .object "StackRoom$Method") hx hb hr (Or.inl ⟨_, rfl⟩) (Or.inr ⟨_, rfl⟩) (fun t ht hW => ⟨some ((ad j)), rfl, by rw [s_mi_m hreg hq hj]; rfl, ht⟩) (fun _ h => by cases h) d_S_methodIn_27
      · refine lv_astore_n (lv' := [(3, .ref (ad j)), (0, .ref x), (1, .int r)]) hx hb d_S_methodIn_13 rfl hl (by decide) rfl (fun ls hl => ?_)
        refine lv_aload_n hx hb d_S_methodIn_14 rfl (lv_at hl 0 rfl) ?_
        refine va_instNo hx hb hown (ht _ cl_S_M) hK.2.nXM (gw_recv hK.1 hP rfl (hR.c3 hj)) d_S_methodIn_15 ?_
        refine lv_if_eq (tgt := 28) hx hb d_S_methodIn_18 (by decide) (fun _ => ?_) (fun h => absurd h (by decide))
        refine lv_null hx hb d_S_methodIn_28 ?_
        exact W.aret (v := .null) (rt := .object "StackRoom$Method") hx hb hr (Or.inl ⟨_, rfl⟩) (Or.inl rfl) (fun t ht hW => ⟨none, rfl, by rw [s_mi_c hq (by omega)]; rfl, ht⟩) (fun _ h => by cases h) d_S_methodIn_29
      · refine lv_astore_n (lv' := [(3, .ref (ad j)), (0, .ref x), (1, .int r)]) hx hb d_S_methodIn_13 rfl hl (by decide) rfl (fun ls hl => ?_)
        refine lv_aload_n hx hb d_S_methodIn_14 rfl (lv_at hl 0 rfl) ?_
        refine va_instNo hx hb hown (ht _ cl_S_M) hK.2.nBM (gw_recv hK.1 hP rfl (hR.c4 hj)) d_S_methodIn_15 ?_
        refine lv_if_eq (tgt := 28) hx hb d_S_methodIn_18 (by decide) (fun _ => ?_) (fun h => absurd h (by decide))
        refine lv_null hx hb d_S_methodIn_28 ?_
        exact W.aret (v := .null) (rt := .object "StackRoom$Method") hx hb hr (Or.inl ⟨_, rfl⟩) (Or.inl rfl) (fun t ht hW => ⟨none, rfl, by rw [s_mi_c hq (by omega)]; rfl, ht⟩) (fun _ h => by cases h) d_S_methodIn_29
set_option maxHeartbeats 4000000 in
set_option maxRecDepth 100000 in
theorem k_S_contextIn (l : Launch) (hR : c_Rep w n rd md cV cT σ x ra rt ad fa ρ fr rr rf rc wl el cr G) (hI : s_I σ) (ht0 : tys[0]? = some (cV, .object "StackRoom$Value")) (r : Int32) : Met l y_S_contextIn w_S_contextIn ({ frames := 2, cells := 0, slots := 0, locals := 42 }) (g_pre D tys G sz [.ref x, .int r]) (va_Sq (fun rz => rz = (s_ci σ r).map ad)) 0 0 (fun _ => False) := by
  refine Met.ofW (cc := b_S_contextIn) (maxL := 4) (ret := (some (.object "StackRoom$Context"))) (by decide) rfl ?_
  intro p e s m args below meth c s₁ B hml hv
  obtain ⟨rfl, hsz, hP, hK⟩ := hv
  have hx := B.exec
  have hb := B.bytes
  have hr := B.returns
  have ht := fun w (hw : w ∈ gt) => atoms_spec (ws := w_S_contextIn) B.pre w (List.mem_cons_of_mem _ hw)
  have hown : s.vm.findClass "StackRoom" = some m.cls := findClass_of_methodNamed B.named
  have hlocks := B.notSynchronized
  have C0 : CallFix p m c b_S_contextIn 4 s [.ref x, .int r].toArray gt "StackRoom" := ⟨hx, hb, hml, hown, ht⟩
  have hl := lv_entry ([.ref x, .int r]) (n := 4) (Nat.le_of_ble_eq_true rfl)
  rw [lg_entry_eq]
  generalize (lg_sl ([.ref x, .int r]) ++ List.replicate (4 - (lg_sl ([.ref x, .int r])).length) Slot.unset).toArray = ls at hl ⊢
  have hl : lv_has ls 4 [(0, .ref x), (1, .int r)] := hl
  refine lv_iload_n hx hb d_S_contextIn_0 rfl (lv_at hl 1 rfl) ?_
  refine vp_callSi (va_Run.run (r_S (rest := []) C0 [.int r] (k_S_isRegister l r) ml_S_S_isRegister st_S_isRegister ini_S co_S_isRegister hd_S_isRegister v_preS hl.1 d_S_contextIn_1 rfl rfl (Nat.le_of_ble_eq_true rfl) ⟨rfl, rfl⟩ ⟨Nat.le_of_ble_eq_true rfl, Nat.le_of_ble_eq_true rfl⟩ ⟨Nat.le_of_ble_eq_true rfl, Nat.le_of_ble_eq_true rfl⟩)) (fun q1 eq1 => ?_)
  refine lv_if_eq (tgt := 28) hx hb d_S_contextIn_4 (by decide) (fun c1 => ?_) (fun c1 => ?_)
  · have hreg : ¬ (0 ≤ r ∧ r ≤ 15) := fun h => absurd (eq1.symm.trans c1) (by rw [if_pos h]; decide)
    refine lv_null hx hb d_S_contextIn_28 ?_
    exact W.aret (v := .null) (rt := .object "StackRoom$Context") hx hb hr (Or.inl ⟨_, rfl⟩) (Or.inl rfl) (fun t ht hW => ⟨none, rfl, by rw [s_ci_no hreg]; rfl, ht⟩) (fun _ h => by cases h) d_S_contextIn_29
  · have hreg : 0 ≤ r ∧ r ≤ 15 := Decidable.byContradiction (fun h => c1 (eq1.trans (if_neg h)))
    refine lv_aload_n hx hb d_S_contextIn_7 rfl (lv_at hl 0 rfl) ?_
    refine va_get (D := D) (ci := 0) (C := "StackRoom") (T := T_S) (N := 10) (v := .ref ra) hx hb ht in_S hown hK.1 (hP.one hR.1) 0 rfl rfl 2 (by decide) (ht _ fl_S_S_registers) (fun _ h9 => h9) rfl d_S_contextIn_8 ?_
    refine lv_iload_n hx hb d_S_contextIn_11 rfl (lv_at hl 1 rfl) ?_
    refine va_aldq (C := "StackRoom$Value") hx hb hK.1 (hP.one hR.2.1) 0 0 rfl ht0 (s_rin hreg) d_S_contextIn_12 ?_
    have hv := hR.2.2.2.2.1 r.toNatClampNeg (s_reg hreg)
    rcases hq : s_rg σ r.toNatClampNeg with _ | (nv | j)
    · have hv : rr r.toNatClampNeg = none := by rw [hq] at hv; exact hv
      rw [hv]
      refine lv_astore_nN (lv' := [(3, .null), (0, .ref x), (1, .int r)]) hx hb d_S_contextIn_13 rfl hl (by decide) rfl (fun ls hl => ?_)
      refine lv_aload_nN hx hb d_S_contextIn_14 rfl (lv_at hl 0 rfl) ?_
      refine lv_instN hx hb d_S_contextIn_15 ?_
      refine lv_if_eq (tgt := 28) hx hb d_S_contextIn_18 (by decide) (fun _ => ?_) (fun h => absurd h (by decide))
      refine lv_null hx hb d_S_contextIn_28 ?_
      exact W.aret (v := .null) (rt := .object "StackRoom$Context") hx hb hr (Or.inl ⟨_, rfl⟩) (Or.inl rfl) (fun t ht hW => ⟨none, rfl, by rw [s_ci_nil hq]; rfl, ht⟩) (fun _ h => by cases h) d_S_contextIn_29
    · obtain ⟨a, h1, h2⟩ : ∃ a, rr r.toNatClampNeg = some a ∧ G a = some (.inr (kW, [.int nv])) := by rw [hq] at hv; exact hv
      rw [h1]
      refine lv_astore_n (lv' := [(3, .ref a), (0, .ref x), (1, .int r)]) hx hb d_S_contextIn_13 rfl hl (by decide) rfl (fun ls hl => ?_)
      refine lv_aload_n hx hb d_S_contextIn_14 rfl (lv_at hl 0 rfl) ?_
      refine va_instNo hx hb hown (ht _ cl_S_C) hK.2.nWC (gw_recv hK.1 hP rfl h2) d_S_contextIn_15 ?_
      refine lv_if_eq (tgt := 28) hx hb d_S_contextIn_18 (by decide) (fun _ => ?_) (fun h => absurd h (by decide))
      refine lv_null hx hb d_S_contextIn_28 ?_
      exact W.aret (v := .null) (rt := .object "StackRoom$Context") hx hb hr (Or.inl ⟨_, rfl⟩) (Or.inl rfl) (fun t ht hW => ⟨none, rfl, by rw [s_ci_num hq]; rfl, ht⟩) (fun _ h => by cases h) d_S_contextIn_29
    · have hv : rr r.toNatClampNeg = some (ad j) := by rw [hq] at hv; exact hv
      rw [hv]
      rcases (hI.2.1 j (hI.2.2.1 _ (s_reg hreg) j hq)).2.2 with hj | hj | hj
      · refine lv_astore_n (lv' := [(3, .ref (ad j)), (0, .ref x), (1, .int r)]) hx hb d_S_contextIn_13 rfl hl (by decide) rfl (fun ls hl => ?_)
        refine lv_aload_n hx hb d_S_contextIn_14 rfl (lv_at hl 0 rfl) ?_
        refine va_instNo hx hb hown (ht _ cl_S_C) hK.2.nMC (gw_recv hK.1 hP rfl (hR.c2 hj)) d_S_contextIn_15 ?_
        refine lv_if_eq (tgt := 28) hx hb d_S_contextIn_18 (by decide) (fun _ => ?_) (fun h => absurd h (by decide))
        refine lv_null hx hb d_S_contextIn_28 ?_
        exact W.aret (v := .null) (rt := .object "StackRoom$Context") hx hb hr (Or.inl ⟨_, rfl⟩) (Or.inl rfl) (fun t ht hW => ⟨none, rfl, by rw [s_ci_m hq hj]; rfl, ht⟩) (fun _ h => by cases h) d_S_contextIn_29
      · refine lv_astore_n (lv' := [(3, .ref (ad j)), (0, .ref x), (1, .int r)]) hx hb d_S_contextIn_13 rfl hl (by decide) rfl (fun ls hl => ?_)
        refine lv_aload_n hx hb d_S_contextIn_14 rfl (lv_at hl 0 rfl) ?_
        refine va_instY hx hb hown (ht _ cl_S_C) (hK.2.1 _ ca_X_C) (gw_recv hK.1 hP rfl (hR.c3 hj)) d_S_contextIn_15 ?_
        refine lv_if_eq (tgt := 28) hx hb d_S_contextIn_18 (by decide) (fun h => absurd h (by decide)) (fun _ => ?_)
        refine lv_aload_n hx hb d_S_contextIn_21 rfl (lv_at hl 0 rfl) ?_
        refine va_castY hx hb hown (ht _ cl_S_C) (hK.2.1 _ ca_X_C) (gw_recv hK.1 hP rfl (hR.c3 hj)) d_S_contextIn_22 ?_
        refine lv_astore_n (lv' := [(2, .ref (ad j)), (3, .ref (ad j)), (0, .ref x), (1, .int r)]) hx hb d_S_contextIn_25 rfl hl (by decide) rfl (fun ls hl => ?_)
        refine lv_aload_n hx hb d_S_contextIn_26 rfl (lv_at hl 0 rfl) ?_
        exact W.aret (v := .ref (ad j)) (rt := .object "StackRoom$Context") hx hb hr (Or.inl ⟨_, rfl⟩) (Or.inr ⟨_, rfl⟩) (fun t ht hW => ⟨some ((ad j)), rfl, by rw [s_ci_c hreg hq (Or.inl hj)]; rfl, ht⟩) (fun _ h => by cases h) d_S_contextIn_27
      · refine lv_astore_n (lv' := [(3, .ref (ad j)), (0, .ref x), (1, .int r)]) hx hb d_S_contextIn_13 rfl hl (by decide) rfl (fun ls hl => ?_)
        refine lv_aload_n hx hb d_S_contextIn_14 rfl (lv_at hl 0 rfl) ?_
        refine va_instY hx hb hown (ht _ cl_S_C) (hK.2.1 _ ca_B_C) (gw_recv hK.1 hP rfl (hR.c4 hj)) d_S_contextIn_15 ?_
        refine lv_if_eq (tgt := 28) hx hb d_S_contextIn_18 (by decide) (fun h => absurd h (by decide)) (fun _ => ?_)
        refine lv_aload_n hx hb d_S_contextIn_21 rfl (lv_at hl 0 rfl) ?_
        refine va_castY hx hb hown (ht _ cl_S_C) (hK.2.1 _ ca_B_C) (gw_recv hK.1 hP rfl (hR.c4 hj)) d_S_contextIn_22 ?_
        refine lv_astore_n (lv' := [(2, .ref (ad j)), (3, .ref (ad j)), (0, .ref x), (1, .int r)]) hx hb d_S_contextIn_25 rfl hl (by decide) rfl (fun ls hl => ?_)
        refine lv_aload_n hx hb d_S_contextIn_26 rfl (lv_at hl 0 rfl) ?_
        exact W.aret (v := .ref (ad j)) (rt := .object "StackRoom$Context") hx hb hr (Or.inl ⟨_, rfl⟩) (Or.inr ⟨_, rfl⟩) (fun t ht hW => ⟨some ((ad j)), rfl, by rw [s_ci_c hreg hq (Or.inr hj)]; rfl, ht⟩) (fun _ h => by cases h) d_S_contextIn_27
set_option maxHeartbeats 4000000 in
set_option maxRecDepth 100000 in
theorem k_S_isSender (l : Launch) (hR : c_Rep w n rd md cV cT σ x ra rt ad fa ρ fr rr rf rc wl el cr G) (hI : s_I σ) (ht0 : tys[0]? = some (cV, .object "StackRoom$Value")) (r : Int32) : Met l y_S_isSender w_S_isSender ({ frames := 2, cells := 0, slots := 0, locals := 42 }) (g_pre D tys G sz [.ref x, .int r]) (vp_Si (fun rz => rz = if (s_si σ r).isSome = true then 1 else 0)) 0 0 (fun _ => False) := by
  refine Met.ofW (cc := b_S_isSender) (maxL := 2) (ret := (some .boolean)) (by decide) rfl ?_
  intro p e s m args below meth c s₁ B hml hv
  obtain ⟨rfl, hsz, hP, hK⟩ := hv
  have hx := B.exec
  have hb := B.bytes
  have hr := B.returns
  have ht := fun w (hw : w ∈ gt) => atoms_spec (ws := w_S_isSender) B.pre w (List.mem_cons_of_mem _ hw)
  have hown : s.vm.findClass "StackRoom" = some m.cls := findClass_of_methodNamed B.named
  have hlocks := B.notSynchronized
  have C0 : CallFix p m c b_S_isSender 2 s [.ref x, .int r].toArray gt "StackRoom" := ⟨hx, hb, hml, hown, ht⟩
  have hl := lv_entry ([.ref x, .int r]) (n := 2) (Nat.le_of_ble_eq_true rfl)
  rw [lg_entry_eq]
  generalize (lg_sl ([.ref x, .int r]) ++ List.replicate (2 - (lg_sl ([.ref x, .int r])).length) Slot.unset).toArray = ls at hl ⊢
  have hl : lv_has ls 2 [(0, .ref x), (1, .int r)] := hl
  refine lv_iload_n hx hb d_S_isSender_0 rfl (lv_at hl 1 rfl) ?_
  refine vp_callSi (va_Run.run (r_S (rest := []) C0 [.int r] (k_S_isRegister l r) ml_S_S_isRegister st_S_isRegister ini_S co_S_isRegister hd_S_isRegister v_preS hl.1 d_S_isSender_1 rfl rfl (Nat.le_of_ble_eq_true rfl) ⟨rfl, rfl⟩ ⟨Nat.le_of_ble_eq_true rfl, Nat.le_of_ble_eq_true rfl⟩ ⟨Nat.le_of_ble_eq_true rfl, Nat.le_of_ble_eq_true rfl⟩)) (fun q1 eq1 => ?_)
  refine lv_if_eq (tgt := 32) hx hb d_S_isSender_4 (by decide) (fun c1 => ?_) (fun c1 => ?_)
  · have hreg : ¬ (0 ≤ r ∧ r ≤ 15) := fun h => absurd (eq1.symm.trans c1) (by rw [if_pos h]; decide)
    refine lv_iconst (v := 0) hx hb d_S_isSender_32 (by decide) ?_
    exact W.zret (v := 0) hx hb hr rfl (fun t ht hW => ⟨_, rfl, by rw [s_si_no hreg]; rfl, ht⟩) (fun _ h => by cases h) d_S_isSender_33
  · have hreg : 0 ≤ r ∧ r ≤ 15 := Decidable.byContradiction (fun h => c1 (eq1.trans (if_neg h)))
    refine lv_aload_n hx hb d_S_isSender_7 rfl (lv_at hl 0 rfl) ?_
    refine va_get (D := D) (ci := 0) (C := "StackRoom") (T := T_S) (N := 10) (v := .ref ra) hx hb ht in_S hown hK.1 (hP.one hR.1) 0 rfl rfl 2 (by decide) (ht _ fl_S_S_registers) (fun _ h9 => h9) rfl d_S_isSender_8 ?_
    refine lv_iload_n hx hb d_S_isSender_11 rfl (lv_at hl 1 rfl) ?_
    refine va_aldq (C := "StackRoom$Value") hx hb hK.1 (hP.one hR.2.1) 0 0 rfl ht0 (s_rin hreg) d_S_isSender_12 ?_
    have hv := hR.2.2.2.2.1 r.toNatClampNeg (s_reg hreg)
    rcases hq : s_rg σ r.toNatClampNeg with _ | (nv | j)
    · have hv : rr r.toNatClampNeg = none := by rw [hq] at hv; exact hv
      rw [hv]
      refine lv_ifnullN (tgt := 28) hx hb d_S_isSender_13 (by decide) ?_
      refine lv_iconst (v := 1) hx hb d_S_isSender_28 (by decide) ?_
      refine lv_goto (tgt := 33) hx hb d_S_isSender_29 (by decide) ?_
      exact W.zret (v := 1) hx hb hr rfl (fun t ht hW => ⟨_, rfl, by rw [s_si_nil hreg hq]; rfl, ht⟩) (fun _ h => by cases h) d_S_isSender_33
    · obtain ⟨a, h1, h2⟩ : ∃ a, rr r.toNatClampNeg = some a ∧ G a = some (.inr (kW, [.int nv])) := by rw [hq] at hv; exact hv
      rw [h1]
      refine lv_ifnull hx hb d_S_isSender_13 ?_
      refine lv_aload_n hx hb d_S_isSender_16 rfl (lv_at hl 0 rfl) ?_
      refine va_get (D := D) (ci := 0) (C := "StackRoom") (T := T_S) (N := 10) (v := .ref ra) hx hb ht in_S hown hK.1 (hP.one hR.1) 0 rfl rfl 2 (by decide) (ht _ fl_S_S_registers) (fun _ h9 => h9) rfl d_S_isSender_17 ?_
      refine lv_iload_n hx hb d_S_isSender_20 rfl (lv_at hl 1 rfl) ?_
      refine va_aldq (C := "StackRoom$Value") hx hb hK.1 (hP.one hR.2.1) 0 0 rfl ht0 (s_rin hreg) d_S_isSender_21 ?_
      rw [h1]
      refine va_instNo hx hb hown (ht _ cl_S_C) hK.2.nWC (gw_recv hK.1 hP rfl h2) d_S_isSender_22 ?_
      refine lv_if_eq (tgt := 32) hx hb d_S_isSender_25 (by decide) (fun _ => ?_) (fun h => absurd h (by decide))
      refine lv_iconst (v := 0) hx hb d_S_isSender_32 (by decide) ?_
      exact W.zret (v := 0) hx hb hr rfl (fun t ht hW => ⟨_, rfl, by rw [s_si_num hq]; rfl, ht⟩) (fun _ h => by cases h) d_S_isSender_33
    · have hv : rr r.toNatClampNeg = some (ad j) := by rw [hq] at hv; exact hv
      rw [hv]
      rcases (hI.2.1 j (hI.2.2.1 _ (s_reg hreg) j hq)).2.2 with hj | hj | hj
      · refine lv_ifnull hx hb d_S_isSender_13 ?_
        refine lv_aload_n hx hb d_S_isSender_16 rfl (lv_at hl 0 rfl) ?_
        refine va_get (D := D) (ci := 0) (C := "StackRoom") (T := T_S) (N := 10) (v := .ref ra) hx hb ht in_S hown hK.1 (hP.one hR.1) 0 rfl rfl 2 (by decide) (ht _ fl_S_S_registers) (fun _ h9 => h9) rfl d_S_isSender_17 ?_
        refine lv_iload_n hx hb d_S_isSender_20 rfl (lv_at hl 1 rfl) ?_
        refine va_aldq (C := "StackRoom$Value") hx hb hK.1 (hP.one hR.2.1) 0 0 rfl ht0 (s_rin hreg) d_S_isSender_21 ?_
        rw [hv]
        refine va_instNo hx hb hown (ht _ cl_S_C) hK.2.nMC (gw_recv hK.1 hP rfl (hR.c2 hj)) d_S_isSender_22 ?_
        refine lv_if_eq (tgt := 32) hx hb d_S_isSender_25 (by decide) (fun _ => ?_) (fun h => absurd h (by decide))
        refine lv_iconst (v := 0) hx hb d_S_isSender_32 (by decide) ?_
        exact W.zret (v := 0) hx hb hr rfl (fun t ht hW => ⟨_, rfl, by rw [s_si_m hq hj]; rfl, ht⟩) (fun _ h => by cases h) d_S_isSender_33
      · refine lv_ifnull hx hb d_S_isSender_13 ?_
        refine lv_aload_n hx hb d_S_isSender_16 rfl (lv_at hl 0 rfl) ?_
        refine va_get (D := D) (ci := 0) (C := "StackRoom") (T := T_S) (N := 10) (v := .ref ra) hx hb ht in_S hown hK.1 (hP.one hR.1) 0 rfl rfl 2 (by decide) (ht _ fl_S_S_registers) (fun _ h9 => h9) rfl d_S_isSender_17 ?_
        refine lv_iload_n hx hb d_S_isSender_20 rfl (lv_at hl 1 rfl) ?_
        refine va_aldq (C := "StackRoom$Value") hx hb hK.1 (hP.one hR.2.1) 0 0 rfl ht0 (s_rin hreg) d_S_isSender_21 ?_
        rw [hv]
        refine va_instY hx hb hown (ht _ cl_S_C) (hK.2.1 _ ca_X_C) (gw_recv hK.1 hP rfl (hR.c3 hj)) d_S_isSender_22 ?_
        refine lv_if_eq (tgt := 32) hx hb d_S_isSender_25 (by decide) (fun h => absurd h (by decide)) (fun _ => ?_)
        refine lv_iconst (v := 1) hx hb d_S_isSender_28 (by decide) ?_
        refine lv_goto (tgt := 33) hx hb d_S_isSender_29 (by decide) ?_
        exact W.zret (v := 1) hx hb hr rfl (fun t ht hW => ⟨_, rfl, by rw [s_si_c hreg hq (Or.inl hj)]; rfl, ht⟩) (fun _ h => by cases h) d_S_isSender_33
      · refine lv_ifnull hx hb d_S_isSender_13 ?_
        refine lv_aload_n hx hb d_S_isSender_16 rfl (lv_at hl 0 rfl) ?_
        refine va_get (D := D) (ci := 0) (C := "StackRoom") (T := T_S) (N := 10) (v := .ref ra) hx hb ht in_S hown hK.1 (hP.one hR.1) 0 rfl rfl 2 (by decide) (ht _ fl_S_S_registers) (fun _ h9 => h9) rfl d_S_isSender_17 ?_
        refine lv_iload_n hx hb d_S_isSender_20 rfl (lv_at hl 1 rfl) ?_
        refine va_aldq (C := "StackRoom$Value") hx hb hK.1 (hP.one hR.2.1) 0 0 rfl ht0 (s_rin hreg) d_S_isSender_21 ?_
        rw [hv]
        refine va_instY hx hb hown (ht _ cl_S_C) (hK.2.1 _ ca_B_C) (gw_recv hK.1 hP rfl (hR.c4 hj)) d_S_isSender_22 ?_
        refine lv_if_eq (tgt := 32) hx hb d_S_isSender_25 (by decide) (fun h => absurd h (by decide)) (fun _ => ?_)
        refine lv_iconst (v := 1) hx hb d_S_isSender_28 (by decide) ?_
        refine lv_goto (tgt := 33) hx hb d_S_isSender_29 (by decide) ?_
        exact W.zret (v := 1) hx hb hr rfl (fun t ht hW => ⟨_, rfl, by rw [s_si_c hreg hq (Or.inr hj)]; rfl, ht⟩) (fun _ h => by cases h) d_S_isSender_33
set_option maxHeartbeats 4000000 in
set_option maxRecDepth 100000 in
theorem k_S_kind (l : Launch) (hR : c_Rep w n rd md cV cT σ x ra rt ad fa ρ fr rr rf rc wl el cr G) (hI : s_I σ) (ht0 : tys[0]? = some (cV, .object "StackRoom$Value")) (r : Int32) : Met l y_S_kind w_S_kind ({ frames := 2, cells := 0, slots := 0, locals := 42 }) (g_pre D tys G sz [.ref x, .int r]) (vp_Si (fun rz => rz = p_kind σ r)) 0 0 (fun _ => False) := by
  refine Met.ofW (cc := b_S_kind) (maxL := 3) (ret := (some .int)) (by decide) rfl ?_
  intro p e s m args below meth c s₁ B hml hv
  obtain ⟨rfl, hsz, hP, hK⟩ := hv
  have hx := B.exec
  have hb := B.bytes
  have hr := B.returns
  have ht := fun w (hw : w ∈ gt) => atoms_spec (ws := w_S_kind) B.pre w (List.mem_cons_of_mem _ hw)
  have hown : s.vm.findClass "StackRoom" = some m.cls := findClass_of_methodNamed B.named
  have hlocks := B.notSynchronized
  have C0 : CallFix p m c b_S_kind 3 s [.ref x, .int r].toArray gt "StackRoom" := ⟨hx, hb, hml, hown, ht⟩
  have hl := lv_entry ([.ref x, .int r]) (n := 3) (Nat.le_of_ble_eq_true rfl)
  rw [lg_entry_eq]
  generalize (lg_sl ([.ref x, .int r]) ++ List.replicate (3 - (lg_sl ([.ref x, .int r])).length) Slot.unset).toArray = ls at hl ⊢
  have hl : lv_has ls 3 [(0, .ref x), (1, .int r)] := hl
  refine lv_iload_n hx hb d_S_kind_0 rfl (lv_at hl 1 rfl) ?_
  refine vp_callSi (va_Run.run (r_S (rest := []) C0 [.int r] (k_S_isRegister l r) ml_S_S_isRegister st_S_isRegister ini_S co_S_isRegister hd_S_isRegister v_preS hl.1 d_S_kind_1 rfl rfl (Nat.le_of_ble_eq_true rfl) ⟨rfl, rfl⟩ ⟨Nat.le_of_ble_eq_true rfl, Nat.le_of_ble_eq_true rfl⟩ ⟨Nat.le_of_ble_eq_true rfl, Nat.le_of_ble_eq_true rfl⟩)) (fun q1 eq1 => ?_)
  refine lv_if_ne (tgt := 9) hx hb d_S_kind_4 (by decide) (fun c1 => ?_) (fun c1 => ?_)
  · have hreg : 0 ≤ r ∧ r ≤ 15 := Decidable.byContradiction (fun h => c1 (eq1.trans (if_neg h)))
    refine lv_aload_n hx hb d_S_kind_9 rfl (lv_at hl 0 rfl) ?_
    refine va_get (D := D) (ci := 0) (C := "StackRoom") (T := T_S) (N := 10) (v := .ref ra) hx hb ht in_S hown hK.1 (hP.one hR.1) 0 rfl rfl 2 (by decide) (ht _ fl_S_S_registers) (fun _ h9 => h9) rfl d_S_kind_10 ?_
    refine lv_iload_n hx hb d_S_kind_13 rfl (lv_at hl 1 rfl) ?_
    refine va_aldq (C := "StackRoom$Value") hx hb hK.1 (hP.one hR.2.1) 0 0 rfl ht0 (s_rin hreg) d_S_kind_14 ?_
    have hv := hR.2.2.2.2.1 r.toNatClampNeg (s_reg hreg)
    rcases hq : s_rg σ r.toNatClampNeg with _ | (nv | j)
    · have hv : rr r.toNatClampNeg = none := by rw [hq] at hv; exact hv
      rw [hv]
      refine lv_astore_nN (lv' := [(2, .null), (0, .ref x), (1, .int r)]) hx hb d_S_kind_15 rfl hl (by decide) rfl (fun ls hl => ?_)
      refine lv_aload_nN hx hb d_S_kind_16 rfl (lv_at hl 0 rfl) ?_
      refine lv_ifnonnullN hx hb d_S_kind_17 ?_
      refine lv_iconst (v := 0) hx hb d_S_kind_20 (by decide) ?_
      refine lv_goto (tgt := 28) hx hb d_S_kind_21 (by decide) ?_
      exact W.iret (v := 0) hx hb hr (fun t ht hW => ⟨_, rfl, by unfold p_kind s_get; rw [if_pos hreg, hq], ht⟩) (fun _ h => by cases h) d_S_kind_28
    · obtain ⟨a, h1, h2⟩ : ∃ a, rr r.toNatClampNeg = some a ∧ G a = some (.inr (kW, [.int nv])) := by rw [hq] at hv; exact hv
      rw [h1]
      refine lv_astore_n (lv' := [(2, .ref a), (0, .ref x), (1, .int r)]) hx hb d_S_kind_15 rfl hl (by decide) rfl (fun ls hl => ?_)
      refine lv_aload_n hx hb d_S_kind_16 rfl (lv_at hl 0 rfl) ?_
      refine lv_ifnonnull (tgt := 24) hx hb d_S_kind_17 (by decide) ?_
      refine lv_aload_n hx hb d_S_kind_24 rfl (lv_at hl 0 rfl) ?_
      refine vp_callSi (va_Run.run (r_A (owner := "StackRoom$Value") (n := 0) (rest := []) C0 [] (k_W_kindCode l h2) ml_S_V_kindCode sm_V_V_kindCode se_W_V_kindCode_W im_W_kindCode ini_W co_W_kindCode (hK.2.1 _ dc_V_kindCode) (by decide +kernel) (g_preV (ci := 1) hK hP rfl h2) hl.1 d_S_kind_25 rfl rfl (Nat.le_of_ble_eq_true rfl) ⟨rfl, rfl⟩ ⟨Nat.le_of_ble_eq_true rfl, Nat.le_of_ble_eq_true rfl⟩ ⟨Nat.le_of_ble_eq_true rfl, Nat.le_of_ble_eq_true rfl⟩)) (fun q eq => ?_)
      exact W.iret (v := q) hx hb hr (fun t ht hW => ⟨_, rfl, (by rw [eq]; unfold p_kind s_get; rw [if_pos hreg, hq]), ht⟩) (fun _ h => by cases h) d_S_kind_28
    · have hv : rr r.toNatClampNeg = some (ad j) := by rw [hq] at hv; exact hv
      rw [hv]
      rcases (hI.2.1 j (hI.2.2.1 _ (s_reg hreg) j hq)).2.2 with hj | hj | hj
      · refine lv_astore_n (lv' := [(2, .ref (ad j)), (0, .ref x), (1, .int r)]) hx hb d_S_kind_15 rfl hl (by decide) rfl (fun ls hl => ?_)
        refine lv_aload_n hx hb d_S_kind_16 rfl (lv_at hl 0 rfl) ?_
        refine lv_ifnonnull (tgt := 24) hx hb d_S_kind_17 (by decide) ?_
        refine lv_aload_n hx hb d_S_kind_24 rfl (lv_at hl 0 rfl) ?_
        refine vp_callSi (va_Run.run (r_A (owner := "StackRoom$Value") (n := 0) (rest := []) C0 [] (k_M_kindCode l hR (i := j) hj) ml_S_V_kindCode sm_V_V_kindCode se_M_V_kindCode_M im_M_kindCode ini_M co_M_kindCode (hK.2.1 _ dc_V_kindCode) (by decide +kernel) (g_preV (ci := 2) hK hP rfl (hR.c2 hj)) hl.1 d_S_kind_25 rfl rfl (Nat.le_of_ble_eq_true rfl) ⟨rfl, rfl⟩ ⟨Nat.le_of_ble_eq_true rfl, Nat.le_of_ble_eq_true rfl⟩ ⟨Nat.le_of_ble_eq_true rfl, Nat.le_of_ble_eq_true rfl⟩)) (fun q eq => ?_)
        exact W.iret (v := q) hx hb hr (fun t ht hW => ⟨_, rfl, (by rw [eq]; unfold p_kind s_get; rw [if_pos hreg, hq]), ht⟩) (fun _ h => by cases h) d_S_kind_28
      · refine lv_astore_n (lv' := [(2, .ref (ad j)), (0, .ref x), (1, .int r)]) hx hb d_S_kind_15 rfl hl (by decide) rfl (fun ls hl => ?_)
        refine lv_aload_n hx hb d_S_kind_16 rfl (lv_at hl 0 rfl) ?_
        refine lv_ifnonnull (tgt := 24) hx hb d_S_kind_17 (by decide) ?_
        refine lv_aload_n hx hb d_S_kind_24 rfl (lv_at hl 0 rfl) ?_
        refine vp_callSi (va_Run.run (r_A (owner := "StackRoom$Value") (n := 0) (rest := []) C0 [] (k_X_kindCode l hR (i := j) hj) ml_S_V_kindCode sm_V_V_kindCode se_X_V_kindCode_X im_X_kindCode ini_X co_X_kindCode (hK.2.1 _ dc_V_kindCode) (by decide +kernel) (g_preV (ci := 3) hK hP rfl (hR.c3 hj)) hl.1 d_S_kind_25 rfl rfl (Nat.le_of_ble_eq_true rfl) ⟨rfl, rfl⟩ ⟨Nat.le_of_ble_eq_true rfl, Nat.le_of_ble_eq_true rfl⟩ ⟨Nat.le_of_ble_eq_true rfl, Nat.le_of_ble_eq_true rfl⟩)) (fun q eq => ?_)
        exact W.iret (v := q) hx hb hr (fun t ht hW => ⟨_, rfl, (by rw [eq]; unfold p_kind s_get; rw [if_pos hreg, hq]), ht⟩) (fun _ h => by cases h) d_S_kind_28
      · refine lv_astore_n (lv' := [(2, .ref (ad j)), (0, .ref x), (1, .int r)]) hx hb d_S_kind_15 rfl hl (by decide) rfl (fun ls hl => ?_)
        refine lv_aload_n hx hb d_S_kind_16 rfl (lv_at hl 0 rfl) ?_
        refine lv_ifnonnull (tgt := 24) hx hb d_S_kind_17 (by decide) ?_
        refine lv_aload_n hx hb d_S_kind_24 rfl (lv_at hl 0 rfl) ?_
        refine vp_callSi (va_Run.run (r_A (owner := "StackRoom$Value") (n := 0) (rest := []) C0 [] (k_B_kindCode l hR (i := j) hj) ml_S_V_kindCode sm_V_V_kindCode se_B_V_kindCode_B im_B_kindCode ini_B co_B_kindCode (hK.2.1 _ dc_V_kindCode) (by decide +kernel) (g_preV (ci := 4) hK hP rfl (hR.c4 hj)) hl.1 d_S_kind_25 rfl rfl (Nat.le_of_ble_eq_true rfl) ⟨rfl, rfl⟩ ⟨Nat.le_of_ble_eq_true rfl, Nat.le_of_ble_eq_true rfl⟩ ⟨Nat.le_of_ble_eq_true rfl, Nat.le_of_ble_eq_true rfl⟩)) (fun q eq => ?_)
        exact W.iret (v := q) hx hb hr (fun t ht hW => ⟨_, rfl, (by rw [eq]; unfold p_kind s_get; rw [if_pos hreg, hq]), ht⟩) (fun _ h => by cases h) d_S_kind_28
  · have hreg : ¬ (0 ≤ r ∧ r ≤ 15) := fun h => absurd (eq1.symm.trans c1) (by rw [if_pos h]; decide)
    refine lv_iconst (v := (-1)) hx hb d_S_kind_7 (by decide) ?_
    exact W.iret (v := (-1)) hx hb hr (fun t ht hW => ⟨_, rfl, by unfold p_kind; rw [if_neg hreg], ht⟩) (fun _ h => by cases h) d_S_kind_8
set_option maxHeartbeats 4000000 in
set_option maxRecDepth 100000 in
theorem k_S_value (l : Launch) (hR : c_Rep w n rd md cV cT σ x ra rt ad fa ρ fr rr rf rc wl el cr G) (hI : s_I σ) (ht0 : tys[0]? = some (cV, .object "StackRoom$Value")) (r : Int32) : Met l y_S_value w_S_value ({ frames := 2, cells := 0, slots := 0, locals := 42 }) (g_pre D tys G sz [.ref x, .int r]) (vp_Si (fun rz => rz = p_value σ r)) 0 0 (fun _ => False) := by
  refine Met.ofW (cc := b_S_value) (maxL := 3) (ret := (some .int)) (by decide) rfl ?_
  intro p e s m args below meth c s₁ B hml hv
  obtain ⟨rfl, hsz, hP, hK⟩ := hv
  have hx := B.exec
  have hb := B.bytes
  have hr := B.returns
  have ht := fun w (hw : w ∈ gt) => atoms_spec (ws := w_S_value) B.pre w (List.mem_cons_of_mem _ hw)
  have hown : s.vm.findClass "StackRoom" = some m.cls := findClass_of_methodNamed B.named
  have hlocks := B.notSynchronized
  have C0 : CallFix p m c b_S_value 3 s [.ref x, .int r].toArray gt "StackRoom" := ⟨hx, hb, hml, hown, ht⟩
  have hl := lv_entry ([.ref x, .int r]) (n := 3) (Nat.le_of_ble_eq_true rfl)
  rw [lg_entry_eq]
  generalize (lg_sl ([.ref x, .int r]) ++ List.replicate (3 - (lg_sl ([.ref x, .int r])).length) Slot.unset).toArray = ls at hl ⊢
  have hl : lv_has ls 3 [(0, .ref x), (1, .int r)] := hl
  refine lv_iload_n hx hb d_S_value_0 rfl (lv_at hl 1 rfl) ?_
  refine vp_callSi (va_Run.run (r_S (rest := []) C0 [.int r] (k_S_isRegister l r) ml_S_S_isRegister st_S_isRegister ini_S co_S_isRegister hd_S_isRegister v_preS hl.1 d_S_value_1 rfl rfl (Nat.le_of_ble_eq_true rfl) ⟨rfl, rfl⟩ ⟨Nat.le_of_ble_eq_true rfl, Nat.le_of_ble_eq_true rfl⟩ ⟨Nat.le_of_ble_eq_true rfl, Nat.le_of_ble_eq_true rfl⟩)) (fun q1 eq1 => ?_)
  refine lv_if_ne (tgt := 9) hx hb d_S_value_4 (by decide) (fun c1 => ?_) (fun c1 => ?_)
  · have hreg : 0 ≤ r ∧ r ≤ 15 := Decidable.byContradiction (fun h => c1 (eq1.trans (if_neg h)))
    refine lv_aload_n hx hb d_S_value_9 rfl (lv_at hl 0 rfl) ?_
    refine va_get (D := D) (ci := 0) (C := "StackRoom") (T := T_S) (N := 10) (v := .ref ra) hx hb ht in_S hown hK.1 (hP.one hR.1) 0 rfl rfl 2 (by decide) (ht _ fl_S_S_registers) (fun _ h9 => h9) rfl d_S_value_10 ?_
    refine lv_iload_n hx hb d_S_value_13 rfl (lv_at hl 1 rfl) ?_
    refine va_aldq (C := "StackRoom$Value") hx hb hK.1 (hP.one hR.2.1) 0 0 rfl ht0 (s_rin hreg) d_S_value_14 ?_
    have hv := hR.2.2.2.2.1 r.toNatClampNeg (s_reg hreg)
    rcases hq : s_rg σ r.toNatClampNeg with _ | (nv | j)
    · have hv : rr r.toNatClampNeg = none := by rw [hq] at hv; exact hv
      rw [hv]
      refine lv_astore_nN (lv' := [(2, .null), (0, .ref x), (1, .int r)]) hx hb d_S_value_15 rfl hl (by decide) rfl (fun ls hl => ?_)
      refine lv_aload_nN hx hb d_S_value_16 rfl (lv_at hl 0 rfl) ?_
      refine lv_ifnonnullN hx hb d_S_value_17 ?_
      refine lv_iconst (v := 0) hx hb d_S_value_20 (by decide) ?_
      refine lv_goto (tgt := 28) hx hb d_S_value_21 (by decide) ?_
      exact W.iret (v := 0) hx hb hr (fun t ht hW => ⟨_, rfl, by unfold p_value s_get; rw [if_pos hreg, hq], ht⟩) (fun _ h => by cases h) d_S_value_28
    · obtain ⟨a, h1, h2⟩ : ∃ a, rr r.toNatClampNeg = some a ∧ G a = some (.inr (kW, [.int nv])) := by rw [hq] at hv; exact hv
      rw [h1]
      refine lv_astore_n (lv' := [(2, .ref a), (0, .ref x), (1, .int r)]) hx hb d_S_value_15 rfl hl (by decide) rfl (fun ls hl => ?_)
      refine lv_aload_n hx hb d_S_value_16 rfl (lv_at hl 0 rfl) ?_
      refine lv_ifnonnull (tgt := 24) hx hb d_S_value_17 (by decide) ?_
      refine lv_aload_n hx hb d_S_value_24 rfl (lv_at hl 0 rfl) ?_
      refine vp_callSi (va_Run.run (r_A (owner := "StackRoom$Value") (n := 0) (rest := []) C0 [] (k_W_shown l h2) ml_S_V_shown sm_V_V_shown se_W_V_shown_W im_W_shown ini_W co_W_shown (hK.2.1 _ dc_V_shown) (by decide +kernel) (g_preV (ci := 1) hK hP rfl h2) hl.1 d_S_value_25 rfl rfl (Nat.le_of_ble_eq_true rfl) ⟨rfl, rfl⟩ ⟨Nat.le_of_ble_eq_true rfl, Nat.le_of_ble_eq_true rfl⟩ ⟨Nat.le_of_ble_eq_true rfl, Nat.le_of_ble_eq_true rfl⟩)) (fun q eq => ?_)
      exact W.iret (v := q) hx hb hr (fun t ht hW => ⟨_, rfl, (by rw [eq]; unfold p_value s_get; rw [if_pos hreg, hq]), ht⟩) (fun _ h => by cases h) d_S_value_28
    · have hv : rr r.toNatClampNeg = some (ad j) := by rw [hq] at hv; exact hv
      rw [hv]
      rcases (hI.2.1 j (hI.2.2.1 _ (s_reg hreg) j hq)).2.2 with hj | hj | hj
      · refine lv_astore_n (lv' := [(2, .ref (ad j)), (0, .ref x), (1, .int r)]) hx hb d_S_value_15 rfl hl (by decide) rfl (fun ls hl => ?_)
        refine lv_aload_n hx hb d_S_value_16 rfl (lv_at hl 0 rfl) ?_
        refine lv_ifnonnull (tgt := 24) hx hb d_S_value_17 (by decide) ?_
        refine lv_aload_n hx hb d_S_value_24 rfl (lv_at hl 0 rfl) ?_
        refine vp_callSi (va_Run.run (r_A (owner := "StackRoom$Value") (n := 0) (rest := []) C0 [] (k_T_shown l hR (i := j) (Or.inl hj)) ml_S_V_shown sm_V_V_shown se_M_V_shown_T im_T_shown ini_T co_T_shown (hK.2.1 _ dc_V_shown) (by decide +kernel) (g_preV (ci := 2) hK hP rfl (hR.c2 hj)) hl.1 d_S_value_25 rfl rfl (Nat.le_of_ble_eq_true rfl) ⟨rfl, rfl⟩ ⟨Nat.le_of_ble_eq_true rfl, Nat.le_of_ble_eq_true rfl⟩ ⟨Nat.le_of_ble_eq_true rfl, Nat.le_of_ble_eq_true rfl⟩)) (fun q eq => ?_)
        exact W.iret (v := q) hx hb hr (fun t ht hW => ⟨_, rfl, (by rw [eq]; unfold p_value s_get; rw [if_pos hreg, hq]), ht⟩) (fun _ h => by cases h) d_S_value_28
      · refine lv_astore_n (lv' := [(2, .ref (ad j)), (0, .ref x), (1, .int r)]) hx hb d_S_value_15 rfl hl (by decide) rfl (fun ls hl => ?_)
        refine lv_aload_n hx hb d_S_value_16 rfl (lv_at hl 0 rfl) ?_
        refine lv_ifnonnull (tgt := 24) hx hb d_S_value_17 (by decide) ?_
        refine lv_aload_n hx hb d_S_value_24 rfl (lv_at hl 0 rfl) ?_
        refine vp_callSi (va_Run.run (r_A (owner := "StackRoom$Value") (n := 0) (rest := []) C0 [] (k_T_shown l hR (i := j) (Or.inr (Or.inl hj))) ml_S_V_shown sm_V_V_shown se_X_V_shown_T im_T_shown ini_T co_T_shown (hK.2.1 _ dc_V_shown) (by decide +kernel) (g_preV (ci := 3) hK hP rfl (hR.c3 hj)) hl.1 d_S_value_25 rfl rfl (Nat.le_of_ble_eq_true rfl) ⟨rfl, rfl⟩ ⟨Nat.le_of_ble_eq_true rfl, Nat.le_of_ble_eq_true rfl⟩ ⟨Nat.le_of_ble_eq_true rfl, Nat.le_of_ble_eq_true rfl⟩)) (fun q eq => ?_)
        exact W.iret (v := q) hx hb hr (fun t ht hW => ⟨_, rfl, (by rw [eq]; unfold p_value s_get; rw [if_pos hreg, hq]), ht⟩) (fun _ h => by cases h) d_S_value_28
      · refine lv_astore_n (lv' := [(2, .ref (ad j)), (0, .ref x), (1, .int r)]) hx hb d_S_value_15 rfl hl (by decide) rfl (fun ls hl => ?_)
        refine lv_aload_n hx hb d_S_value_16 rfl (lv_at hl 0 rfl) ?_
        refine lv_ifnonnull (tgt := 24) hx hb d_S_value_17 (by decide) ?_
        refine lv_aload_n hx hb d_S_value_24 rfl (lv_at hl 0 rfl) ?_
        refine vp_callSi (va_Run.run (r_A (owner := "StackRoom$Value") (n := 0) (rest := []) C0 [] (k_T_shown l hR (i := j) (Or.inr (Or.inr hj))) ml_S_V_shown sm_V_V_shown se_B_V_shown_T im_T_shown ini_T co_T_shown (hK.2.1 _ dc_V_shown) (by decide +kernel) (g_preV (ci := 4) hK hP rfl (hR.c4 hj)) hl.1 d_S_value_25 rfl rfl (Nat.le_of_ble_eq_true rfl) ⟨rfl, rfl⟩ ⟨Nat.le_of_ble_eq_true rfl, Nat.le_of_ble_eq_true rfl⟩ ⟨Nat.le_of_ble_eq_true rfl, Nat.le_of_ble_eq_true rfl⟩)) (fun q eq => ?_)
        exact W.iret (v := q) hx hb hr (fun t ht hW => ⟨_, rfl, (by rw [eq]; unfold p_value s_get; rw [if_pos hreg, hq]), ht⟩) (fun _ h => by cases h) d_S_value_28
  · have hreg : ¬ (0 ≤ r ∧ r ≤ 15) := fun h => absurd (eq1.symm.trans c1) (by rw [if_pos h]; decide)
    refine lv_iconst (v := 0) hx hb d_S_value_7 (by decide) ?_
    exact W.iret (v := 0) hx hb hr (fun t ht hW => ⟨_, rfl, by unfold p_value; rw [if_neg hreg], ht⟩) (fun _ h => by cases h) d_S_value_8
end K14
end
section
/-- in the middle of a survey: L has been reached, in this order; the marks say so -/
def c_Srv (w n rd md : Nat) (cV cT : ClassId) (σ : sS) (x ra rt : Nat) (ad fa : Nat → Nat) (fr : Nat → Nat → Option Nat) (rr : Nat → Option Nat) (L : List Nat) (cr : Int32) (G : gw_G) : Prop :=
  ∃ (ρ : Nat → Int32) (rf : Nat → Option Nat), c_Rep w n rd md cV cT σ x ra rt ad fa ρ fr rr rf (nI L.length) (nI (w - 8 - s_sum (s_wd σ) L)) (nI (n - 2 - s_sum (s_en σ) L)) cr G ∧ (∀ k i, L[k]? = some i → rf k = some (ad i)) ∧ (∀ i, s_kd σ i ≠ 0 → (ρ i = nI rd ↔ i ∈ L))
theorem t_any {A : Nat → Prop} {D : va_G} {tys : List (ClassId × FieldType)} {G : gw_G} {s : State} {H : Heap} {a ci : Nat} {fs : List Value} (hK : kK D tys s) (hP : gw_P D vwCl A G H) (he : G a = some (.inr (ci, fs))) (hc : ci = kM ∨ ci = kC ∨ ci = kB) : va_Any "StackRoom$Thing" s H a := by
  rcases hc with rfl | rfl | rfl
  · exact gw_any hK.1 hP he rfl (ca_asg (hK.2.1 _ ca_M_T))
  · exact gw_any hK.1 hP he rfl (ca_asg (hK.2.1 _ ca_X_T))
  · exact gw_any hK.1 hP he rfl (ca_asg (hK.2.1 _ ca_B_T))
theorem s_add_o {L : List Nat} {i : Nat} (h : i ∉ L) : s_add L (some (.inr i)) = L ++ [i] := if_neg h
theorem s_add_y {L : List Nat} {i : Nat} (h : i ∈ L) : s_add L (some (.inr i)) = L := if_pos h
section K15
variable {w n rd md : Nat} {cV cT : ClassId} {σ : sS} {x ra rt : Nat} {ad fa : Nat → Nat} {ρ : Nat → Int32} {fr : Nat → Nat → Option Nat} {rr rf : Nat → Option Nat} {rc wl el cr : Int32} {G : gw_G} {D : va_G} {tys : List (ClassId × FieldType)} {sz : Nat} {L : List Nat}
/-- one more is reached: the room's numbers behind it -/
theorem c_Srv.add {i : Nat} {ρ : Nat → Int32} {rf : Nat → Option Nat} {G1 : gw_G} (hO : s_OK w n σ) (hp : s_part σ L) (hi : s_rch σ i) (hn : i ∉ L) (hrf : ∀ k j, L[k]? = some j → rf k = some (ad j)) (hmk : ∀ j, s_kd σ j ≠ 0 → (ρ j = nI rd ↔ j ∈ L))
    (hR : c_Rep w n rd md cV cT σ x ra rt ad fa (va_up ρ i (nI rd)) fr rr (va_up rf L.length (some (ad i))) (nI L.length + 1) (nI (w - 8 - s_sum (s_wd σ) L) - nI (s_wd σ i)) (nI (n - 2 - s_sum (s_en σ) L) - nI (s_en σ i)) cr G1) : c_Srv w n rd md cV cT σ x ra rt ad fa fr rr (L ++ [i]) cr G1 := by
  have hp2 := s_part_push hp hi hn
  have h1 := s_part_W hp2 hO.1
  have h2 := s_part_N hp2 hO.1
  rw [s_sum_push] at h1 h2
  have h3 := hO.2.1
  have h4 := hO.2.2
  refine ⟨va_up ρ i (nI rd), va_up rf L.length (some (ad i)), ?_, fun k j hk => ?_, fun j hj => ?_⟩
  · rw [s_sum_push, s_sum_push, List.length_append, List.length_singleton, ← nI_1, show w - 8 - (s_sum (s_wd σ) L + s_wd σ i) = w - 8 - s_sum (s_wd σ) L - s_wd σ i by omega, show n - 2 - (s_sum (s_en σ) L + s_en σ i) = n - 2 - s_sum (s_en σ) L - s_en σ i by omega, ← pk_sub (a := w - 8 - s_sum (s_wd σ) L) (by omega), ← pk_sub (a := n - 2 - s_sum (s_en σ) L) (by omega)]
    exact hR
  · by_cases e : k = L.length
    · subst e
      rw [List.getElem?_append_right (Nat.le_refl _), Nat.sub_self] at hk
      cases hk
      exact va_up_self _ _ _
    · rw [va_up_ne _ _ e]
      have hl : k < L.length := by
        have := (List.getElem?_eq_some_iff.mp hk).1
        rw [List.length_append, List.length_singleton] at this
        omega
      rw [List.getElem?_append_left hl] at hk
      exact hrf k j hk
  · by_cases e : j = i
    · subst e
      rw [va_up_self]
      exact ⟨fun _ => List.mem_append_right _ List.mem_cons_self, fun _ => rfl⟩
    · rw [va_up_ne _ _ e, hmk j hj]
      constructor
      · intro h
        exact List.mem_append_left _ h
      · intro h
        rcases List.mem_append.mp h with h | h
        · exact h
        · exact absurd (List.mem_singleton.mp h) e
set_option maxHeartbeats 4000000 in
set_option maxRecDepth 100000 in
theorem k_S_reach_N (l : Launch) (hS0 : c_Srv w n rd md cV cT σ x ra rt ad fa fr rr L cr G) (hp : s_part σ L) (hO : s_OK w n σ) (hn4 : n ≤ 4096) (hm : s_md σ < 2 ^ 31) : Met l y_S_reach w_S_reach ({ frames := 2, cells := 0, slots := 0, locals := 40 }) (g_pre D tys G sz [.ref x, .null]) (va_Qv (fun G1 : gw_G => c_Srv w n rd md cV cT σ x ra rt ad fa fr rr L cr G1) (g_end D G sz) (gw_A G sz)) 0 0 (gw_A G sz) := by
  refine Met.ofW (cc := b_S_reach) (maxL := 3) (ret := none) (by decide) rfl ?_
  intro p e s m args below meth c s₁ B hml hv
  obtain ⟨rfl, hsz, hP, hK⟩ := hv
  have hx := B.exec
  have hb := B.bytes
  have hr := B.returns
  have ht := fun w (hw : w ∈ gt) => atoms_spec (ws := w_S_reach) B.pre w (List.mem_cons_of_mem _ hw)
  have hown : s.vm.findClass "StackRoom" = some m.cls := findClass_of_methodNamed B.named
  have hlocks := B.notSynchronized
  have C0 : CallFix p m c b_S_reach 3 s [.ref x, .null].toArray gt "StackRoom" := ⟨hx, hb, hml, hown, ht⟩
  subst hsz
  have hP := hP.self (sz := s.heap.size)
  have hA : ∀ q : Nat, s.heap.size ≤ q → gw_A G s.heap.size q := fun q h => Or.inr h
  have hS : va_S (gw_A G s.heap.size) s.heap s.heap [] := va_S.rf
  have hl := lv_entry ([.ref x, .null]) (n := 3) (Nat.le_of_ble_eq_true rfl)
  rw [lg_entry_eq]
  generalize (lg_sl ([.ref x, .null]) ++ List.replicate (3 - (lg_sl ([.ref x, .null])).length) Slot.unset).toArray = ls at hl ⊢
  have hl : lv_has ls 3 [(0, .ref x), (1, .null)] := hl
  refine lv_aload_nN hx hb d_S_reach_0 rfl (lv_at hl 1 rfl) ?_
  refine lv_instN hx hb d_S_reach_1 ?_
  refine lv_if_eq (tgt := 89) hx hb d_S_reach_4 (by decide) (fun _ => ?_) (fun h => absurd h (by decide))
  exact W.vret hx hb hr (fun t ht hW => ⟨⟨G, rfl, hS0, g_fin ht hP⟩, hS.F ht⟩) hS.2.2 d_S_reach_89
set_option maxHeartbeats 4000000 in
set_option maxRecDepth 100000 in
theorem k_S_reach_W (l : Launch) (hS0 : c_Srv w n rd md cV cT σ x ra rt ad fa fr rr L cr G) (hp : s_part σ L) (hO : s_OK w n σ) (hn4 : n ≤ 4096) (hm : s_md σ < 2 ^ 31) {a : Nat} {nv : Int32} (ha : G a = some (.inr (kW, [.int nv]))) : Met l y_S_reach w_S_reach ({ frames := 2, cells := 0, slots := 0, locals := 40 }) (g_pre D tys G sz [.ref x, .ref a]) (va_Qv (fun G1 : gw_G => c_Srv w n rd md cV cT σ x ra rt ad fa fr rr L cr G1) (g_end D G sz) (gw_A G sz)) 0 0 (gw_A G sz) := by
  refine Met.ofW (cc := b_S_reach) (maxL := 3) (ret := none) (by decide) rfl ?_
  intro p e s m args below meth c s₁ B hml hv
  obtain ⟨rfl, hsz, hP, hK⟩ := hv
  have hx := B.exec
  have hb := B.bytes
  have hr := B.returns
  have ht := fun w (hw : w ∈ gt) => atoms_spec (ws := w_S_reach) B.pre w (List.mem_cons_of_mem _ hw)
  have hown : s.vm.findClass "StackRoom" = some m.cls := findClass_of_methodNamed B.named
  have hlocks := B.notSynchronized
  have C0 : CallFix p m c b_S_reach 3 s [.ref x, .ref a].toArray gt "StackRoom" := ⟨hx, hb, hml, hown, ht⟩
  subst hsz
  have hP := hP.self (sz := s.heap.size)
  have hA : ∀ q : Nat, s.heap.size ≤ q → gw_A G s.heap.size q := fun q h => Or.inr h
  have hS : va_S (gw_A G s.heap.size) s.heap s.heap [] := va_S.rf
  have hl := lv_entry ([.ref x, .ref a]) (n := 3) (Nat.le_of_ble_eq_true rfl)
  rw [lg_entry_eq]
  generalize (lg_sl ([.ref x, .ref a]) ++ List.replicate (3 - (lg_sl ([.ref x, .ref a])).length) Slot.unset).toArray = ls at hl ⊢
  have hl : lv_has ls 3 [(0, .ref x), (1, .ref a)] := hl
  refine lv_aload_n hx hb d_S_reach_0 rfl (lv_at hl 1 rfl) ?_
  refine va_instNo hx hb hown (ht _ cl_S_T) hK.2.nWT (gw_recv hK.1 hP rfl ha) d_S_reach_1 ?_
  refine lv_if_eq (tgt := 89) hx hb d_S_reach_4 (by decide) (fun _ => ?_) (fun h => absurd h (by decide))
  exact W.vret hx hb hr (fun t ht hW => ⟨⟨G, rfl, hS0, g_fin ht hP⟩, hS.F ht⟩) hS.2.2 d_S_reach_89
set_option maxHeartbeats 4000000 in
set_option maxRecDepth 100000 in
theorem k_S_reach_O (l : Launch) (hS0 : c_Srv w n rd md cV cT σ x ra rt ad fa fr rr L cr G) (hp : s_part σ L) (hO : s_OK w n σ) (hn4 : n ≤ 4096) (hm : s_md σ < 2 ^ 31) (ht0 : tys[0]? = some (cV, .object "StackRoom$Value")) (ht1 : tys[1]? = some (cT, .object "StackRoom$Thing")) {i : Nat} (hi : s_rch σ i) : Met l y_S_reach w_S_reach ({ frames := 2, cells := 0, slots := 0, locals := 40 }) (g_pre D tys G sz [.ref x, .ref (ad i)]) (va_Qv (fun G1 : gw_G => c_Srv w n rd md cV cT σ x ra rt ad fa fr rr (s_add L (some (.inr i))) cr G1) (g_end D G sz) (gw_A G sz)) 0 0 (gw_A G sz) := by
  refine Met.ofW (cc := b_S_reach) (maxL := 3) (ret := none) (by decide) rfl ?_
  intro p e s m args below meth c s₁ B hml hv
  obtain ⟨rfl, hsz, hP, hK⟩ := hv
  have hx := B.exec
  have hb := B.bytes
  have hr := B.returns
  have ht := fun w (hw : w ∈ gt) => atoms_spec (ws := w_S_reach) B.pre w (List.mem_cons_of_mem _ hw)
  have hown : s.vm.findClass "StackRoom" = some m.cls := findClass_of_methodNamed B.named
  have hlocks := B.notSynchronized
  have C0 : CallFix p m c b_S_reach 3 s [.ref x, .ref (ad i)].toArray gt "StackRoom" := ⟨hx, hb, hml, hown, ht⟩
  subst hsz
  have hP := hP.self (sz := s.heap.size)
  have hA : ∀ q : Nat, s.heap.size ≤ q → gw_A G s.heap.size q := fun q h => Or.inr h
  have hS : va_S (gw_A G s.heap.size) s.heap s.heap [] := va_S.rf
  have hl := lv_entry ([.ref x, .ref (ad i)]) (n := 3) (Nat.le_of_ble_eq_true rfl)
  rw [lg_entry_eq]
  generalize (lg_sl ([.ref x, .ref (ad i)]) ++ List.replicate (3 - (lg_sl ([.ref x, .ref (ad i)])).length) Slot.unset).toArray = ls at hl ⊢
  have hl : lv_has ls 3 [(0, .ref x), (1, .ref (ad i))] := hl
  obtain ⟨ρ, rf, hR, hrf, hmk⟩ := id hS0
  have hi0 := s_rch_kd hO.1 hi
  have hle := s_part_len hp hO
  rcases (hO.1.2.1 i hi0).2.2 with hj | hj | hj
  · refine lv_aload_n hx hb d_S_reach_0 rfl (lv_at hl 1 rfl) ?_
    refine va_instY hx hb hown (ht _ cl_S_T) (hK.2.1 _ ca_M_T) (gw_recv hK.1 hP rfl (hR.c2 hj)) d_S_reach_1 ?_
    refine lv_if_eq (tgt := 89) hx hb d_S_reach_4 (by decide) (fun h => absurd h (by decide)) (fun _ => ?_)
    refine lv_aload_n hx hb d_S_reach_7 rfl (lv_at hl 1 rfl) ?_
    refine va_castY hx hb hown (ht _ cl_S_T) (hK.2.1 _ ca_M_T) (gw_recv hK.1 hP rfl (hR.c2 hj)) d_S_reach_8 ?_
    refine lv_astore_n (lv' := [(2, .ref (ad i)), (0, .ref x), (1, .ref (ad i))]) hx hb d_S_reach_11 rfl hl (by decide) rfl (fun ls hl => ?_)
    refine lv_aload_n hx hb d_S_reach_12 rfl (lv_at hl 0 rfl) ?_
    refine va_getN (D := D) (ci := 2) (C := "StackRoom$Method") (T := T_M) (N := 4) (v := .int (ρ i)) hx hb ht in_M hown hK.1 (hP.one (hR.c2 hj)) 0 rfl rfl 1 (by decide) (va_Nw.use rfl (hK.2.1 _ fn_S_T_round)) (fun _ h9 => h9) rfl d_S_reach_13 ?_
    refine lv_aload_n hx hb d_S_reach_16 rfl (lv_at hl 1 rfl) ?_
    refine va_get (D := D) (ci := 0) (C := "StackRoom") (T := T_S) (N := 10) (v := .int (nI rd)) hx hb ht in_S hown hK.1 (hP.one hR.1) 0 rfl rfl 6 (by decide) (ht _ fl_S_S_round) (fun _ h9 => h9) rfl d_S_reach_17 ?_
    refine lv_icmp_eq (tgt := 89) hx hb d_S_reach_20 (by decide) (fun c20 => ?_) (fun c20 => ?_)
    · exact W.vret hx hb hr (fun t ht hW => ⟨⟨G, rfl, (by rw [s_add_y ((hmk i hi0).mp c20)]; exact hS0), g_fin ht hP⟩, hS.F ht⟩) hS.2.2 d_S_reach_89
    · have hni : i ∉ L := fun h => c20 ((hmk i hi0).mpr h)
      refine lv_aload_n hx hb d_S_reach_23 rfl (lv_at hl 1 rfl) ?_
      refine va_get (D := D) (ci := 0) (C := "StackRoom") (T := T_S) (N := 10) (v := .int (nI L.length)) hx hb ht in_S hown hK.1 (hP.one hR.1) 0 rfl rfl 5 (by decide) (ht _ fl_S_S_reachedCount) (fun _ h9 => h9) rfl d_S_reach_24 ?_
      refine lv_aload_n hx hb d_S_reach_27 rfl (lv_at hl 1 rfl) ?_
      refine va_get (D := D) (ci := 0) (C := "StackRoom") (T := T_S) (N := 10) (v := .ref rt) hx hb ht in_S hown hK.1 (hP.one hR.1) 0 rfl rfl 4 (by decide) (ht _ fl_S_S_reached) (fun _ h9 => h9) rfl d_S_reach_28 ?_
      refine va_alen (v := nI n) hx hb hK.1 (hP.one hR.2.2.1) 0 1 rfl ht1 rfl d_S_reach_31 ?_
      refine lv_icmp_ge (tgt := 89) hx hb d_S_reach_32 (by decide) (fun c32 => ?_) (fun c32 => ?_)
      · exact absurd ((nI_leI (by omega) (by omega)).mp c32) (by omega)
      · refine lv_aload_n hx hb d_S_reach_35 rfl (lv_at hl 0 rfl) ?_
        refine lv_aload_n hx hb d_S_reach_36 rfl (lv_at hl 1 rfl) ?_
        refine va_get (D := D) (ci := 0) (C := "StackRoom") (T := T_S) (N := 10) (v := .int (nI rd)) hx hb ht in_S hown hK.1 (hP.one hR.1) 0 rfl rfl 6 (by decide) (ht _ fl_S_S_round) (fun _ h9 => h9) rfl d_S_reach_37 ?_
        refine gw_putN (D := D) (cl := vwCl) (ci := 2) (C := "StackRoom$Method") (T := T_M) (N := 4) (v := .int (nI rd)) (ty := .int) hx hb ht in_M ty_M tk_M nm_M hown hK.1 hP hS (hR.c2 hj) rfl 1 (by decide) (va_Nw.use rfl (hK.2.1 _ fn_S_T_round)) (fun _ h9 => h9) rfl (by decide +kernel) rfl rfl (Nat.le_of_ble_eq_true rfl) d_S_reach_40 (fun H locs hP hS => ?_)
        obtain ⟨G1, eG1⟩ : ∃ z : gw_G, z = va_up G (ad i) (some (.inr (2, [.int (nI i), .int (nI rd), .int (nI (s_tt σ i)), .int (nI (s_dd σ i))]))) := ⟨_, rfl⟩
        have hP : gw_P D vwCl (gw_A G s.heap.size) G1 H := by rw [eG1]; exact hP
        have f1 : G1 (ad i) = some (.inr (2, [.int (nI i), .int (nI rd), .int (nI (s_tt σ i)), .int (nI (s_dd σ i))])) := by rw [eG1]; exact va_up_self _ _ _
        have hR1 := hR.obj (i := i) (τ := σ) (ρ' := va_up ρ i (nI rd)) hO.1 hm hi0 rfl rfl rfl rfl (fun j hj9 => by unfold c_cell; rw [va_up_ne _ _ hj9]) (fun j hj9 => by
            by_cases e : j = i
            · exact ⟨rd, Nat.le_refl _, by rw [e, va_up_self]⟩
            · rw [va_up_ne _ _ e]; exact hR.2.2.2.2.2.2.2.2.2 j hj9)
        have e8 : c_cell σ ad fa (va_up ρ i (nI rd)) i = .inr (2, [.int (nI i), .int (nI rd), .int (nI (s_tt σ i)), .int (nI (s_dd σ i))]) := by unfold c_cell; rw [hj, va_up_self]; rfl
        rw [e8, ← eG1] at hR1
        refine lv_aload_n hx hb d_S_reach_43 rfl (lv_at hl 1 rfl) ?_
        refine va_get (D := D) (ci := 0) (C := "StackRoom") (T := T_S) (N := 10) (v := .ref rt) hx hb ht in_S hown hK.1 (hP.one hR1.1) 0 rfl rfl 4 (by decide) (ht _ fl_S_S_reached) (fun _ h9 => h9) rfl d_S_reach_44 ?_
        refine lv_aload_n hx hb d_S_reach_47 rfl (lv_at hl 1 rfl) ?_
        refine va_get (D := D) (ci := 0) (C := "StackRoom") (T := T_S) (N := 10) (v := .int (nI L.length)) hx hb ht in_S hown hK.1 (hP.one hR1.1) 0 rfl rfl 5 (by decide) (ht _ fl_S_S_reachedCount) (fun _ h9 => h9) rfl d_S_reach_48 ?_
        refine lv_aload_n hx hb d_S_reach_51 rfl (lv_at hl 0 rfl) ?_
        refine gw_astqM hx hb hK.1 hP hS 1 hR1.2.2.1 ht1 (t_any hK hP f1 (Or.inl rfl)) (vp_in_nI (by omega) (by omega)) d_S_reach_52 (fun H locs hP hS => ?_)
        rw [nI_clamp (by omega)] at hP
        obtain ⟨G2, eG2⟩ : ∃ z : gw_G, z = va_up G1 rt (some (.inl (cT, n, qv (va_up rf L.length (some (ad i)))))) := ⟨_, rfl⟩
        have hP : gw_P D vwCl (gw_A G s.heap.size) G2 H := by rw [eG2]; exact hP
        have hR2 := hR1.row (rf' := va_up rf L.length (some (ad i)))
        rw [← eG2] at hR2
        refine lv_aload_n hx hb d_S_reach_53 rfl (lv_at hl 1 rfl) ?_
        refine lv_dup hx hb d_S_reach_54 rfl ?_
        refine va_get (D := D) (ci := 0) (C := "StackRoom") (T := T_S) (N := 10) (v := .int (nI L.length)) hx hb ht in_S hown hK.1 (hP.one hR2.1) 0 rfl rfl 5 (by decide) (ht _ fl_S_S_reachedCount) (fun _ h9 => h9) rfl d_S_reach_55 ?_
        refine lv_iconst (v := 1) hx hb d_S_reach_58 (by decide) ?_
        refine lv_iadd hx hb d_S_reach_59 ?_
        refine gw_put (D := D) (cl := vwCl) (ci := 0) (C := "StackRoom") (T := T_S) (N := 10) (v := .int ((nI L.length) + 1)) (ty := .int) hx hb ht in_S ty_S tk_S nm_S hown hK.1 hP hS hR2.1 rfl 5 (by decide) (ht _ fl_S_S_reachedCount) (fun _ h9 => h9) rfl (by decide +kernel) rfl rfl (Nat.le_of_ble_eq_true rfl) d_S_reach_60 (fun H locs hP hS => ?_)
        obtain ⟨G3, eG3⟩ : ∃ z : gw_G, z = va_up G2 x (some (.inr (0, [.int (nI w), .int (nI n), .ref ra, .int (nI md), .ref rt, .int ((nI L.length) + 1), .int (nI rd), .int (nI (w - 8 - s_sum (s_wd σ) L)), .int (nI (n - 2 - s_sum (s_en σ) L)), .int cr]))) := ⟨_, rfl⟩
        have hP : gw_P D vwCl (gw_A G s.heap.size) G3 H := by rw [eG3]; exact hP
        have f3 : G3 x = some (.inr (0, [.int (nI w), .int (nI n), .ref ra, .int (nI md), .ref rt, .int ((nI L.length) + 1), .int (nI rd), .int (nI (w - 8 - s_sum (s_wd σ) L)), .int (nI (n - 2 - s_sum (s_en σ) L)), .int cr])) := by rw [eG3]; exact va_up_self _ _ _
        have hR3 := hR2.own (rd' := rd) (md' := md) (rc' := nI L.length + 1) (wl' := nI (w - 8 - s_sum (s_wd σ) L)) (el' := nI (n - 2 - s_sum (s_en σ) L)) (cr' := cr) (Nat.le_refl _)
        rw [← eG3] at hR3
        refine lv_aload_n hx hb d_S_reach_63 rfl (lv_at hl 1 rfl) ?_
        refine lv_dup hx hb d_S_reach_64 rfl ?_
        refine va_get (D := D) (ci := 0) (C := "StackRoom") (T := T_S) (N := 10) (v := .int (nI (w - 8 - s_sum (s_wd σ) L))) hx hb ht in_S hown hK.1 (hP.one hR3.1) 0 rfl rfl 7 (by decide) (ht _ fl_S_S_wordsLeft) (fun _ h9 => h9) rfl d_S_reach_65 ?_
        refine lv_aload_n hx hb d_S_reach_68 rfl (lv_at hl 0 rfl) ?_
        refine vp_callSi (va_Run.run (r_A (owner := "StackRoom$Thing") (n := 0) (rest := [.int (nI (w - 8 - s_sum (s_wd σ) L)), .ref x]) C0 [] (k_M_wordsTaken l hR3 (i := i) hj) ml_S_T_wordsTaken sm_T_T_wordsTaken se_M_T_wordsTaken_M im_M_wordsTaken ini_M co_M_wordsTaken (hK.2.1 _ dc_T_wordsTaken) (by decide +kernel) (g_preV (ci := 2) hK hP rfl (hR3.c2 hj)) hl.1 d_S_reach_69 rfl rfl (Nat.le_of_ble_eq_true rfl) ⟨rfl, rfl⟩ ⟨Nat.le_of_ble_eq_true rfl, Nat.le_of_ble_eq_true rfl⟩ ⟨Nat.le_of_ble_eq_true rfl, Nat.le_of_ble_eq_true rfl⟩)) (fun qw ew => ?_)
        subst ew
        refine lv_isub hx hb d_S_reach_72 ?_
        refine gw_put (D := D) (cl := vwCl) (ci := 0) (C := "StackRoom") (T := T_S) (N := 10) (v := .int ((nI (w - 8 - s_sum (s_wd σ) L)) - (nI (s_wd σ i)))) (ty := .int) hx hb ht in_S ty_S tk_S nm_S hown hK.1 hP hS hR3.1 rfl 7 (by decide) (ht _ fl_S_S_wordsLeft) (fun _ h9 => h9) rfl (by decide +kernel) rfl rfl (Nat.le_of_ble_eq_true rfl) d_S_reach_73 (fun H locs hP hS => ?_)
        obtain ⟨G4, eG4⟩ : ∃ z : gw_G, z = va_up G3 x (some (.inr (0, [.int (nI w), .int (nI n), .ref ra, .int (nI md), .ref rt, .int (nI L.length + 1), .int (nI rd), .int ((nI (w - 8 - s_sum (s_wd σ) L)) - (nI (s_wd σ i))), .int (nI (n - 2 - s_sum (s_en σ) L)), .int cr]))) := ⟨_, rfl⟩
        have hP : gw_P D vwCl (gw_A G s.heap.size) G4 H := by rw [eG4]; exact hP
        have f4 : G4 x = some (.inr (0, [.int (nI w), .int (nI n), .ref ra, .int (nI md), .ref rt, .int (nI L.length + 1), .int (nI rd), .int ((nI (w - 8 - s_sum (s_wd σ) L)) - (nI (s_wd σ i))), .int (nI (n - 2 - s_sum (s_en σ) L)), .int cr])) := by rw [eG4]; exact va_up_self _ _ _
        have hR4 := hR3.own (rd' := rd) (md' := md) (rc' := nI L.length + 1) (wl' := nI (w - 8 - s_sum (s_wd σ) L) - nI (s_wd σ i)) (el' := nI (n - 2 - s_sum (s_en σ) L)) (cr' := cr) (Nat.le_refl _)
        rw [← eG4] at hR4
        refine lv_aload_n hx hb d_S_reach_76 rfl (lv_at hl 1 rfl) ?_
        refine lv_dup hx hb d_S_reach_77 rfl ?_
        refine va_get (D := D) (ci := 0) (C := "StackRoom") (T := T_S) (N := 10) (v := .int (nI (n - 2 - s_sum (s_en σ) L))) hx hb ht in_S hown hK.1 (hP.one hR4.1) 0 rfl rfl 8 (by decide) (ht _ fl_S_S_entriesLeft) (fun _ h9 => h9) rfl d_S_reach_78 ?_
        refine lv_aload_n hx hb d_S_reach_81 rfl (lv_at hl 0 rfl) ?_
        refine vp_callSi (va_Run.run (r_A (owner := "StackRoom$Thing") (n := 0) (rest := [.int (nI (n - 2 - s_sum (s_en σ) L)), .ref x]) C0 [] (k_M_entriesTaken l hR4 (i := i) hj) ml_S_T_entriesTaken sm_T_T_entriesTaken se_M_T_entriesTaken_M im_M_entriesTaken ini_M co_M_entriesTaken (hK.2.1 _ dc_T_entriesTaken) (by decide +kernel) (g_preV (ci := 2) hK hP rfl (hR4.c2 hj)) hl.1 d_S_reach_82 rfl rfl (Nat.le_of_ble_eq_true rfl) ⟨rfl, rfl⟩ ⟨Nat.le_of_ble_eq_true rfl, Nat.le_of_ble_eq_true rfl⟩ ⟨Nat.le_of_ble_eq_true rfl, Nat.le_of_ble_eq_true rfl⟩)) (fun qe ee => ?_)
        subst ee
        refine lv_isub hx hb d_S_reach_85 ?_
        refine gw_put (D := D) (cl := vwCl) (ci := 0) (C := "StackRoom") (T := T_S) (N := 10) (v := .int ((nI (n - 2 - s_sum (s_en σ) L)) - (nI (s_en σ i)))) (ty := .int) hx hb ht in_S ty_S tk_S nm_S hown hK.1 hP hS hR4.1 rfl 8 (by decide) (ht _ fl_S_S_entriesLeft) (fun _ h9 => h9) rfl (by decide +kernel) rfl rfl (Nat.le_of_ble_eq_true rfl) d_S_reach_86 (fun H locs hP hS => ?_)
        obtain ⟨G5, eG5⟩ : ∃ z : gw_G, z = va_up G4 x (some (.inr (0, [.int (nI w), .int (nI n), .ref ra, .int (nI md), .ref rt, .int (nI L.length + 1), .int (nI rd), .int (nI (w - 8 - s_sum (s_wd σ) L) - nI (s_wd σ i)), .int ((nI (n - 2 - s_sum (s_en σ) L)) - (nI (s_en σ i))), .int cr]))) := ⟨_, rfl⟩
        have hP : gw_P D vwCl (gw_A G s.heap.size) G5 H := by rw [eG5]; exact hP
        have f5 : G5 x = some (.inr (0, [.int (nI w), .int (nI n), .ref ra, .int (nI md), .ref rt, .int (nI L.length + 1), .int (nI rd), .int (nI (w - 8 - s_sum (s_wd σ) L) - nI (s_wd σ i)), .int ((nI (n - 2 - s_sum (s_en σ) L)) - (nI (s_en σ i))), .int cr])) := by rw [eG5]; exact va_up_self _ _ _
        have hR5 := hR4.own (rd' := rd) (md' := md) (rc' := nI L.length + 1) (wl' := nI (w - 8 - s_sum (s_wd σ) L) - nI (s_wd σ i)) (el' := nI (n - 2 - s_sum (s_en σ) L) - nI (s_en σ i)) (cr' := cr) (Nat.le_refl _)
        rw [← eG5] at hR5
        exact W.vret hx hb hr (fun t ht hW => ⟨⟨G5, rfl, (by rw [s_add_o hni]; exact c_Srv.add hO hp hi hni hrf hmk hR5), g_fin ht hP⟩, hS.F ht⟩) hS.2.2 d_S_reach_89
  · refine lv_aload_n hx hb d_S_reach_0 rfl (lv_at hl 1 rfl) ?_
    refine va_instY hx hb hown (ht _ cl_S_T) (hK.2.1 _ ca_X_T) (gw_recv hK.1 hP rfl (hR.c3 hj)) d_S_reach_1 ?_
    refine lv_if_eq (tgt := 89) hx hb d_S_reach_4 (by decide) (fun h => absurd h (by decide)) (fun _ => ?_)
    refine lv_aload_n hx hb d_S_reach_7 rfl (lv_at hl 1 rfl) ?_
    refine va_castY hx hb hown (ht _ cl_S_T) (hK.2.1 _ ca_X_T) (gw_recv hK.1 hP rfl (hR.c3 hj)) d_S_reach_8 ?_
    refine lv_astore_n (lv' := [(2, .ref (ad i)), (0, .ref x), (1, .ref (ad i))]) hx hb d_S_reach_11 rfl hl (by decide) rfl (fun ls hl => ?_)
    refine lv_aload_n hx hb d_S_reach_12 rfl (lv_at hl 0 rfl) ?_
    refine va_getN (D := D) (ci := 3) (C := "StackRoom$MethodContext") (T := T_X) (N := 7) (v := .int (ρ i)) hx hb ht in_X hown hK.1 (hP.one (hR.c3 hj)) 0 rfl rfl 1 (by decide) (va_Nw.use rfl (hK.2.1 _ fn_S_T_round)) (fun _ h9 => h9) rfl d_S_reach_13 ?_
    refine lv_aload_n hx hb d_S_reach_16 rfl (lv_at hl 1 rfl) ?_
    refine va_get (D := D) (ci := 0) (C := "StackRoom") (T := T_S) (N := 10) (v := .int (nI rd)) hx hb ht in_S hown hK.1 (hP.one hR.1) 0 rfl rfl 6 (by decide) (ht _ fl_S_S_round) (fun _ h9 => h9) rfl d_S_reach_17 ?_
    refine lv_icmp_eq (tgt := 89) hx hb d_S_reach_20 (by decide) (fun c20 => ?_) (fun c20 => ?_)
    · exact W.vret hx hb hr (fun t ht hW => ⟨⟨G, rfl, (by rw [s_add_y ((hmk i hi0).mp c20)]; exact hS0), g_fin ht hP⟩, hS.F ht⟩) hS.2.2 d_S_reach_89
    · have hni : i ∉ L := fun h => c20 ((hmk i hi0).mpr h)
      refine lv_aload_n hx hb d_S_reach_23 rfl (lv_at hl 1 rfl) ?_
      refine va_get (D := D) (ci := 0) (C := "StackRoom") (T := T_S) (N := 10) (v := .int (nI L.length)) hx hb ht in_S hown hK.1 (hP.one hR.1) 0 rfl rfl 5 (by decide) (ht _ fl_S_S_reachedCount) (fun _ h9 => h9) rfl d_S_reach_24 ?_
      refine lv_aload_n hx hb d_S_reach_27 rfl (lv_at hl 1 rfl) ?_
      refine va_get (D := D) (ci := 0) (C := "StackRoom") (T := T_S) (N := 10) (v := .ref rt) hx hb ht in_S hown hK.1 (hP.one hR.1) 0 rfl rfl 4 (by decide) (ht _ fl_S_S_reached) (fun _ h9 => h9) rfl d_S_reach_28 ?_
      refine va_alen (v := nI n) hx hb hK.1 (hP.one hR.2.2.1) 0 1 rfl ht1 rfl d_S_reach_31 ?_
      refine lv_icmp_ge (tgt := 89) hx hb d_S_reach_32 (by decide) (fun c32 => ?_) (fun c32 => ?_)
      · exact absurd ((nI_leI (by omega) (by omega)).mp c32) (by omega)
      · refine lv_aload_n hx hb d_S_reach_35 rfl (lv_at hl 0 rfl) ?_
        refine lv_aload_n hx hb d_S_reach_36 rfl (lv_at hl 1 rfl) ?_
        refine va_get (D := D) (ci := 0) (C := "StackRoom") (T := T_S) (N := 10) (v := .int (nI rd)) hx hb ht in_S hown hK.1 (hP.one hR.1) 0 rfl rfl 6 (by decide) (ht _ fl_S_S_round) (fun _ h9 => h9) rfl d_S_reach_37 ?_
        refine gw_putN (D := D) (cl := vwCl) (ci := 3) (C := "StackRoom$MethodContext") (T := T_X) (N := 7) (v := .int (nI rd)) (ty := .int) hx hb ht in_X ty_X tk_X nm_X hown hK.1 hP hS (hR.c3 hj) rfl 1 (by decide) (va_Nw.use rfl (hK.2.1 _ fn_S_T_round)) (fun _ h9 => h9) rfl (by decide +kernel) rfl rfl (Nat.le_of_ble_eq_true rfl) d_S_reach_40 (fun H locs hP hS => ?_)
        obtain ⟨G6, eG6⟩ : ∃ z : gw_G, z = va_up G (ad i) (some (.inr (3, [.int (nI i), .int (nI rd), va_rf ((s_sn σ i).map ad), .int (s_de σ i), .int (nI (s_ht σ i)), .ref (fa i), .ref (ad (s_og σ i))]))) := ⟨_, rfl⟩
        have hP : gw_P D vwCl (gw_A G s.heap.size) G6 H := by rw [eG6]; exact hP
        have f6 : G6 (ad i) = some (.inr (3, [.int (nI i), .int (nI rd), va_rf ((s_sn σ i).map ad), .int (s_de σ i), .int (nI (s_ht σ i)), .ref (fa i), .ref (ad (s_og σ i))])) := by rw [eG6]; exact va_up_self _ _ _
        have hR1 := hR.obj (i := i) (τ := σ) (ρ' := va_up ρ i (nI rd)) hO.1 hm hi0 rfl rfl rfl rfl (fun j hj9 => by unfold c_cell; rw [va_up_ne _ _ hj9]) (fun j hj9 => by
            by_cases e : j = i
            · exact ⟨rd, Nat.le_refl _, by rw [e, va_up_self]⟩
            · rw [va_up_ne _ _ e]; exact hR.2.2.2.2.2.2.2.2.2 j hj9)
        have e8 : c_cell σ ad fa (va_up ρ i (nI rd)) i = .inr (3, [.int (nI i), .int (nI rd), va_rf ((s_sn σ i).map ad), .int (s_de σ i), .int (nI (s_ht σ i)), .ref (fa i), .ref (ad (s_og σ i))]) := by unfold c_cell; rw [hj, va_up_self]; rfl
        rw [e8, ← eG6] at hR1
        refine lv_aload_n hx hb d_S_reach_43 rfl (lv_at hl 1 rfl) ?_
        refine va_get (D := D) (ci := 0) (C := "StackRoom") (T := T_S) (N := 10) (v := .ref rt) hx hb ht in_S hown hK.1 (hP.one hR1.1) 0 rfl rfl 4 (by decide) (ht _ fl_S_S_reached) (fun _ h9 => h9) rfl d_S_reach_44 ?_
        refine lv_aload_n hx hb d_S_reach_47 rfl (lv_at hl 1 rfl) ?_
        refine va_get (D := D) (ci := 0) (C := "StackRoom") (T := T_S) (N := 10) (v := .int (nI L.length)) hx hb ht in_S hown hK.1 (hP.one hR1.1) 0 rfl rfl 5 (by decide) (ht _ fl_S_S_reachedCount) (fun _ h9 => h9) rfl d_S_reach_48 ?_
        refine lv_aload_n hx hb d_S_reach_51 rfl (lv_at hl 0 rfl) ?_
        refine gw_astqM hx hb hK.1 hP hS 1 hR1.2.2.1 ht1 (t_any hK hP f6 (Or.inr (Or.inl rfl))) (vp_in_nI (by omega) (by omega)) d_S_reach_52 (fun H locs hP hS => ?_)
        rw [nI_clamp (by omega)] at hP
        obtain ⟨G7, eG7⟩ : ∃ z : gw_G, z = va_up G6 rt (some (.inl (cT, n, qv (va_up rf L.length (some (ad i)))))) := ⟨_, rfl⟩
        have hP : gw_P D vwCl (gw_A G s.heap.size) G7 H := by rw [eG7]; exact hP
        have hR2 := hR1.row (rf' := va_up rf L.length (some (ad i)))
        rw [← eG7] at hR2
        refine lv_aload_n hx hb d_S_reach_53 rfl (lv_at hl 1 rfl) ?_
        refine lv_dup hx hb d_S_reach_54 rfl ?_
        refine va_get (D := D) (ci := 0) (C := "StackRoom") (T := T_S) (N := 10) (v := .int (nI L.length)) hx hb ht in_S hown hK.1 (hP.one hR2.1) 0 rfl rfl 5 (by decide) (ht _ fl_S_S_reachedCount) (fun _ h9 => h9) rfl d_S_reach_55 ?_
        refine lv_iconst (v := 1) hx hb d_S_reach_58 (by decide) ?_
        refine lv_iadd hx hb d_S_reach_59 ?_
        refine gw_put (D := D) (cl := vwCl) (ci := 0) (C := "StackRoom") (T := T_S) (N := 10) (v := .int ((nI L.length) + 1)) (ty := .int) hx hb ht in_S ty_S tk_S nm_S hown hK.1 hP hS hR2.1 rfl 5 (by decide) (ht _ fl_S_S_reachedCount) (fun _ h9 => h9) rfl (by decide +kernel) rfl rfl (Nat.le_of_ble_eq_true rfl) d_S_reach_60 (fun H locs hP hS => ?_)
        obtain ⟨G8, eG8⟩ : ∃ z : gw_G, z = va_up G7 x (some (.inr (0, [.int (nI w), .int (nI n), .ref ra, .int (nI md), .ref rt, .int ((nI L.length) + 1), .int (nI rd), .int (nI (w - 8 - s_sum (s_wd σ) L)), .int (nI (n - 2 - s_sum (s_en σ) L)), .int cr]))) := ⟨_, rfl⟩
        have hP : gw_P D vwCl (gw_A G s.heap.size) G8 H := by rw [eG8]; exact hP
        have f8 : G8 x = some (.inr (0, [.int (nI w), .int (nI n), .ref ra, .int (nI md), .ref rt, .int ((nI L.length) + 1), .int (nI rd), .int (nI (w - 8 - s_sum (s_wd σ) L)), .int (nI (n - 2 - s_sum (s_en σ) L)), .int cr])) := by rw [eG8]; exact va_up_self _ _ _
        have hR3 := hR2.own (rd' := rd) (md' := md) (rc' := nI L.length + 1) (wl' := nI (w - 8 - s_sum (s_wd σ) L)) (el' := nI (n - 2 - s_sum (s_en σ) L)) (cr' := cr) (Nat.le_refl _)
        rw [← eG8] at hR3
        refine lv_aload_n hx hb d_S_reach_63 rfl (lv_at hl 1 rfl) ?_
        refine lv_dup hx hb d_S_reach_64 rfl ?_
        refine va_get (D := D) (ci := 0) (C := "StackRoom") (T := T_S) (N := 10) (v := .int (nI (w - 8 - s_sum (s_wd σ) L))) hx hb ht in_S hown hK.1 (hP.one hR3.1) 0 rfl rfl 7 (by decide) (ht _ fl_S_S_wordsLeft) (fun _ h9 => h9) rfl d_S_reach_65 ?_
        refine lv_aload_n hx hb d_S_reach_68 rfl (lv_at hl 0 rfl) ?_
        refine vp_callSi (va_Run.run (r_A (owner := "StackRoom$Thing") (n := 0) (rest := [.int (nI (w - 8 - s_sum (s_wd σ) L)), .ref x]) C0 [] (k_C_wordsTaken l hR3 (i := i) (Or.inl hj) ht0) ml_S_T_wordsTaken sm_T_T_wordsTaken se_X_T_wordsTaken_C im_C_wordsTaken ini_C co_C_wordsTaken (hK.2.1 _ dc_T_wordsTaken) (by decide +kernel) (g_preV (ci := 3) hK hP rfl (hR3.c3 hj)) hl.1 d_S_reach_69 rfl rfl (Nat.le_of_ble_eq_true rfl) ⟨rfl, rfl⟩ ⟨Nat.le_of_ble_eq_true rfl, Nat.le_of_ble_eq_true rfl⟩ ⟨Nat.le_of_ble_eq_true rfl, Nat.le_of_ble_eq_true rfl⟩)) (fun qw ew => ?_)
        subst ew
        refine lv_isub hx hb d_S_reach_72 ?_
        refine gw_put (D := D) (cl := vwCl) (ci := 0) (C := "StackRoom") (T := T_S) (N := 10) (v := .int ((nI (w - 8 - s_sum (s_wd σ) L)) - (nI (s_wd σ i)))) (ty := .int) hx hb ht in_S ty_S tk_S nm_S hown hK.1 hP hS hR3.1 rfl 7 (by decide) (ht _ fl_S_S_wordsLeft) (fun _ h9 => h9) rfl (by decide +kernel) rfl rfl (Nat.le_of_ble_eq_true rfl) d_S_reach_73 (fun H locs hP hS => ?_)
        obtain ⟨G9, eG9⟩ : ∃ z : gw_G, z = va_up G8 x (some (.inr (0, [.int (nI w), .int (nI n), .ref ra, .int (nI md), .ref rt, .int (nI L.length + 1), .int (nI rd), .int ((nI (w - 8 - s_sum (s_wd σ) L)) - (nI (s_wd σ i))), .int (nI (n - 2 - s_sum (s_en σ) L)), .int cr]))) := ⟨_, rfl⟩
        have hP : gw_P D vwCl (gw_A G s.heap.size) G9 H := by rw [eG9]; exact hP
        have f9 : G9 x = some (.inr (0, [.int (nI w), .int (nI n), .ref ra, .int (nI md), .ref rt, .int (nI L.length + 1), .int (nI rd), .int ((nI (w - 8 - s_sum (s_wd σ) L)) - (nI (s_wd σ i))), .int (nI (n - 2 - s_sum (s_en σ) L)), .int cr])) := by rw [eG9]; exact va_up_self _ _ _
        have hR4 := hR3.own (rd' := rd) (md' := md) (rc' := nI L.length + 1) (wl' := nI (w - 8 - s_sum (s_wd σ) L) - nI (s_wd σ i)) (el' := nI (n - 2 - s_sum (s_en σ) L)) (cr' := cr) (Nat.le_refl _)
        rw [← eG9] at hR4
        refine lv_aload_n hx hb d_S_reach_76 rfl (lv_at hl 1 rfl) ?_
        refine lv_dup hx hb d_S_reach_77 rfl ?_
        refine va_get (D := D) (ci := 0) (C := "StackRoom") (T := T_S) (N := 10) (v := .int (nI (n - 2 - s_sum (s_en σ) L))) hx hb ht in_S hown hK.1 (hP.one hR4.1) 0 rfl rfl 8 (by decide) (ht _ fl_S_S_entriesLeft) (fun _ h9 => h9) rfl d_S_reach_78 ?_
        refine lv_aload_n hx hb d_S_reach_81 rfl (lv_at hl 0 rfl) ?_
        refine vp_callSi (va_Run.run (r_A (owner := "StackRoom$Thing") (n := 0) (rest := [.int (nI (n - 2 - s_sum (s_en σ) L)), .ref x]) C0 [] (k_C_entriesTaken l hR4 (i := i) (Or.inl hj)) ml_S_T_entriesTaken sm_T_T_entriesTaken se_X_T_entriesTaken_C im_C_entriesTaken ini_C co_C_entriesTaken (hK.2.1 _ dc_T_entriesTaken) (by decide +kernel) (g_preV (ci := 3) hK hP rfl (hR4.c3 hj)) hl.1 d_S_reach_82 rfl rfl (Nat.le_of_ble_eq_true rfl) ⟨rfl, rfl⟩ ⟨Nat.le_of_ble_eq_true rfl, Nat.le_of_ble_eq_true rfl⟩ ⟨Nat.le_of_ble_eq_true rfl, Nat.le_of_ble_eq_true rfl⟩)) (fun qe ee => ?_)
        subst ee
        refine lv_isub hx hb d_S_reach_85 ?_
        refine gw_put (D := D) (cl := vwCl) (ci := 0) (C := "StackRoom") (T := T_S) (N := 10) (v := .int ((nI (n - 2 - s_sum (s_en σ) L)) - (nI (s_en σ i)))) (ty := .int) hx hb ht in_S ty_S tk_S nm_S hown hK.1 hP hS hR4.1 rfl 8 (by decide) (ht _ fl_S_S_entriesLeft) (fun _ h9 => h9) rfl (by decide +kernel) rfl rfl (Nat.le_of_ble_eq_true rfl) d_S_reach_86 (fun H locs hP hS => ?_)
        obtain ⟨G10, eG10⟩ : ∃ z : gw_G, z = va_up G9 x (some (.inr (0, [.int (nI w), .int (nI n), .ref ra, .int (nI md), .ref rt, .int (nI L.length + 1), .int (nI rd), .int (nI (w - 8 - s_sum (s_wd σ) L) - nI (s_wd σ i)), .int ((nI (n - 2 - s_sum (s_en σ) L)) - (nI (s_en σ i))), .int cr]))) := ⟨_, rfl⟩
        have hP : gw_P D vwCl (gw_A G s.heap.size) G10 H := by rw [eG10]; exact hP
        have f10 : G10 x = some (.inr (0, [.int (nI w), .int (nI n), .ref ra, .int (nI md), .ref rt, .int (nI L.length + 1), .int (nI rd), .int (nI (w - 8 - s_sum (s_wd σ) L) - nI (s_wd σ i)), .int ((nI (n - 2 - s_sum (s_en σ) L)) - (nI (s_en σ i))), .int cr])) := by rw [eG10]; exact va_up_self _ _ _
        have hR5 := hR4.own (rd' := rd) (md' := md) (rc' := nI L.length + 1) (wl' := nI (w - 8 - s_sum (s_wd σ) L) - nI (s_wd σ i)) (el' := nI (n - 2 - s_sum (s_en σ) L) - nI (s_en σ i)) (cr' := cr) (Nat.le_refl _)
        rw [← eG10] at hR5
        exact W.vret hx hb hr (fun t ht hW => ⟨⟨G10, rfl, (by rw [s_add_o hni]; exact c_Srv.add hO hp hi hni hrf hmk hR5), g_fin ht hP⟩, hS.F ht⟩) hS.2.2 d_S_reach_89
  · refine lv_aload_n hx hb d_S_reach_0 rfl (lv_at hl 1 rfl) ?_
    refine va_instY hx hb hown (ht _ cl_S_T) (hK.2.1 _ ca_B_T) (gw_recv hK.1 hP rfl (hR.c4 hj)) d_S_reach_1 ?_
    refine lv_if_eq (tgt := 89) hx hb d_S_reach_4 (by decide) (fun h => absurd h (by decide)) (fun _ => ?_)
    refine lv_aload_n hx hb d_S_reach_7 rfl (lv_at hl 1 rfl) ?_
    refine va_castY hx hb hown (ht _ cl_S_T) (hK.2.1 _ ca_B_T) (gw_recv hK.1 hP rfl (hR.c4 hj)) d_S_reach_8 ?_
    refine lv_astore_n (lv' := [(2, .ref (ad i)), (0, .ref x), (1, .ref (ad i))]) hx hb d_S_reach_11 rfl hl (by decide) rfl (fun ls hl => ?_)
    refine lv_aload_n hx hb d_S_reach_12 rfl (lv_at hl 0 rfl) ?_
    refine va_getN (D := D) (ci := 4) (C := "StackRoom$BlockContext") (T := T_B) (N := 8) (v := .int (ρ i)) hx hb ht in_B hown hK.1 (hP.one (hR.c4 hj)) 0 rfl rfl 1 (by decide) (va_Nw.use rfl (hK.2.1 _ fn_S_T_round)) (fun _ h9 => h9) rfl d_S_reach_13 ?_
    refine lv_aload_n hx hb d_S_reach_16 rfl (lv_at hl 1 rfl) ?_
    refine va_get (D := D) (ci := 0) (C := "StackRoom") (T := T_S) (N := 10) (v := .int (nI rd)) hx hb ht in_S hown hK.1 (hP.one hR.1) 0 rfl rfl 6 (by decide) (ht _ fl_S_S_round) (fun _ h9 => h9) rfl d_S_reach_17 ?_
    refine lv_icmp_eq (tgt := 89) hx hb d_S_reach_20 (by decide) (fun c20 => ?_) (fun c20 => ?_)
    · exact W.vret hx hb hr (fun t ht hW => ⟨⟨G, rfl, (by rw [s_add_y ((hmk i hi0).mp c20)]; exact hS0), g_fin ht hP⟩, hS.F ht⟩) hS.2.2 d_S_reach_89
    · have hni : i ∉ L := fun h => c20 ((hmk i hi0).mpr h)
      refine lv_aload_n hx hb d_S_reach_23 rfl (lv_at hl 1 rfl) ?_
      refine va_get (D := D) (ci := 0) (C := "StackRoom") (T := T_S) (N := 10) (v := .int (nI L.length)) hx hb ht in_S hown hK.1 (hP.one hR.1) 0 rfl rfl 5 (by decide) (ht _ fl_S_S_reachedCount) (fun _ h9 => h9) rfl d_S_reach_24 ?_
      refine lv_aload_n hx hb d_S_reach_27 rfl (lv_at hl 1 rfl) ?_
      refine va_get (D := D) (ci := 0) (C := "StackRoom") (T := T_S) (N := 10) (v := .ref rt) hx hb ht in_S hown hK.1 (hP.one hR.1) 0 rfl rfl 4 (by decide) (ht _ fl_S_S_reached) (fun _ h9 => h9) rfl d_S_reach_28 ?_
      refine va_alen (v := nI n) hx hb hK.1 (hP.one hR.2.2.1) 0 1 rfl ht1 rfl d_S_reach_31 ?_
      refine lv_icmp_ge (tgt := 89) hx hb d_S_reach_32 (by decide) (fun c32 => ?_) (fun c32 => ?_)
      · exact absurd ((nI_leI (by omega) (by omega)).mp c32) (by omega)
      · refine lv_aload_n hx hb d_S_reach_35 rfl (lv_at hl 0 rfl) ?_
        refine lv_aload_n hx hb d_S_reach_36 rfl (lv_at hl 1 rfl) ?_
        refine va_get (D := D) (ci := 0) (C := "StackRoom") (T := T_S) (N := 10) (v := .int (nI rd)) hx hb ht in_S hown hK.1 (hP.one hR.1) 0 rfl rfl 6 (by decide) (ht _ fl_S_S_round) (fun _ h9 => h9) rfl d_S_reach_37 ?_
        refine gw_putN (D := D) (cl := vwCl) (ci := 4) (C := "StackRoom$BlockContext") (T := T_B) (N := 8) (v := .int (nI rd)) (ty := .int) hx hb ht in_B ty_B tk_B nm_B hown hK.1 hP hS (hR.c4 hj) rfl 1 (by decide) (va_Nw.use rfl (hK.2.1 _ fn_S_T_round)) (fun _ h9 => h9) rfl (by decide +kernel) rfl rfl (Nat.le_of_ble_eq_true rfl) d_S_reach_40 (fun H locs hP hS => ?_)
        obtain ⟨G11, eG11⟩ : ∃ z : gw_G, z = va_up G (ad i) (some (.inr (4, [.int (nI i), .int (nI rd), va_rf ((s_sn σ i).map ad), .int (s_de σ i), .int (nI (s_ht σ i)), .ref (fa i), .ref (ad (s_og σ i)), .int (s_ct σ i)]))) := ⟨_, rfl⟩
        have hP : gw_P D vwCl (gw_A G s.heap.size) G11 H := by rw [eG11]; exact hP
        have f11 : G11 (ad i) = some (.inr (4, [.int (nI i), .int (nI rd), va_rf ((s_sn σ i).map ad), .int (s_de σ i), .int (nI (s_ht σ i)), .ref (fa i), .ref (ad (s_og σ i)), .int (s_ct σ i)])) := by rw [eG11]; exact va_up_self _ _ _
        have hR1 := hR.obj (i := i) (τ := σ) (ρ' := va_up ρ i (nI rd)) hO.1 hm hi0 rfl rfl rfl rfl (fun j hj9 => by unfold c_cell; rw [va_up_ne _ _ hj9]) (fun j hj9 => by
            by_cases e : j = i
            · exact ⟨rd, Nat.le_refl _, by rw [e, va_up_self]⟩
            · rw [va_up_ne _ _ e]; exact hR.2.2.2.2.2.2.2.2.2 j hj9)
        have e8 : c_cell σ ad fa (va_up ρ i (nI rd)) i = .inr (4, [.int (nI i), .int (nI rd), va_rf ((s_sn σ i).map ad), .int (s_de σ i), .int (nI (s_ht σ i)), .ref (fa i), .ref (ad (s_og σ i)), .int (s_ct σ i)]) := by unfold c_cell; rw [hj, va_up_self]; rfl
        rw [e8, ← eG11] at hR1
        refine lv_aload_n hx hb d_S_reach_43 rfl (lv_at hl 1 rfl) ?_
        refine va_get (D := D) (ci := 0) (C := "StackRoom") (T := T_S) (N := 10) (v := .ref rt) hx hb ht in_S hown hK.1 (hP.one hR1.1) 0 rfl rfl 4 (by decide) (ht _ fl_S_S_reached) (fun _ h9 => h9) rfl d_S_reach_44 ?_
        refine lv_aload_n hx hb d_S_reach_47 rfl (lv_at hl 1 rfl) ?_
        refine va_get (D := D) (ci := 0) (C := "StackRoom") (T := T_S) (N := 10) (v := .int (nI L.length)) hx hb ht in_S hown hK.1 (hP.one hR1.1) 0 rfl rfl 5 (by decide) (ht _ fl_S_S_reachedCount) (fun _ h9 => h9) rfl d_S_reach_48 ?_
        refine lv_aload_n hx hb d_S_reach_51 rfl (lv_at hl 0 rfl) ?_
        refine gw_astqM hx hb hK.1 hP hS 1 hR1.2.2.1 ht1 (t_any hK hP f11 (Or.inr (Or.inr rfl))) (vp_in_nI (by omega) (by omega)) d_S_reach_52 (fun H locs hP hS => ?_)
        rw [nI_clamp (by omega)] at hP
        obtain ⟨G12, eG12⟩ : ∃ z : gw_G, z = va_up G11 rt (some (.inl (cT, n, qv (va_up rf L.length (some (ad i)))))) := ⟨_, rfl⟩
        have hP : gw_P D vwCl (gw_A G s.heap.size) G12 H := by rw [eG12]; exact hP
        have hR2 := hR1.row (rf' := va_up rf L.length (some (ad i)))
        rw [← eG12] at hR2
        refine lv_aload_n hx hb d_S_reach_53 rfl (lv_at hl 1 rfl) ?_
        refine lv_dup hx hb d_S_reach_54 rfl ?_
        refine va_get (D := D) (ci := 0) (C := "StackRoom") (T := T_S) (N := 10) (v := .int (nI L.length)) hx hb ht in_S hown hK.1 (hP.one hR2.1) 0 rfl rfl 5 (by decide) (ht _ fl_S_S_reachedCount) (fun _ h9 => h9) rfl d_S_reach_55 ?_
        refine lv_iconst (v := 1) hx hb d_S_reach_58 (by decide) ?_
        refine lv_iadd hx hb d_S_reach_59 ?_
        refine gw_put (D := D) (cl := vwCl) (ci := 0) (C := "StackRoom") (T := T_S) (N := 10) (v := .int ((nI L.length) + 1)) (ty := .int) hx hb ht in_S ty_S tk_S nm_S hown hK.1 hP hS hR2.1 rfl 5 (by decide) (ht _ fl_S_S_reachedCount) (fun _ h9 => h9) rfl (by decide +kernel) rfl rfl (Nat.le_of_ble_eq_true rfl) d_S_reach_60 (fun H locs hP hS => ?_)
        obtain ⟨G13, eG13⟩ : ∃ z : gw_G, z = va_up G12 x (some (.inr (0, [.int (nI w), .int (nI n), .ref ra, .int (nI md), .ref rt, .int ((nI L.length) + 1), .int (nI rd), .int (nI (w - 8 - s_sum (s_wd σ) L)), .int (nI (n - 2 - s_sum (s_en σ) L)), .int cr]))) := ⟨_, rfl⟩
        have hP : gw_P D vwCl (gw_A G s.heap.size) G13 H := by rw [eG13]; exact hP
        have f13 : G13 x = some (.inr (0, [.int (nI w), .int (nI n), .ref ra, .int (nI md), .ref rt, .int ((nI L.length) + 1), .int (nI rd), .int (nI (w - 8 - s_sum (s_wd σ) L)), .int (nI (n - 2 - s_sum (s_en σ) L)), .int cr])) := by rw [eG13]; exact va_up_self _ _ _
        have hR3 := hR2.own (rd' := rd) (md' := md) (rc' := nI L.length + 1) (wl' := nI (w - 8 - s_sum (s_wd σ) L)) (el' := nI (n - 2 - s_sum (s_en σ) L)) (cr' := cr) (Nat.le_refl _)
        rw [← eG13] at hR3
        refine lv_aload_n hx hb d_S_reach_63 rfl (lv_at hl 1 rfl) ?_
        refine lv_dup hx hb d_S_reach_64 rfl ?_
        refine va_get (D := D) (ci := 0) (C := "StackRoom") (T := T_S) (N := 10) (v := .int (nI (w - 8 - s_sum (s_wd σ) L))) hx hb ht in_S hown hK.1 (hP.one hR3.1) 0 rfl rfl 7 (by decide) (ht _ fl_S_S_wordsLeft) (fun _ h9 => h9) rfl d_S_reach_65 ?_
        refine lv_aload_n hx hb d_S_reach_68 rfl (lv_at hl 0 rfl) ?_
        refine vp_callSi (va_Run.run (r_A (owner := "StackRoom$Thing") (n := 0) (rest := [.int (nI (w - 8 - s_sum (s_wd σ) L)), .ref x]) C0 [] (k_C_wordsTaken l hR3 (i := i) (Or.inr hj) ht0) ml_S_T_wordsTaken sm_T_T_wordsTaken se_B_T_wordsTaken_C im_C_wordsTaken ini_C co_C_wordsTaken (hK.2.1 _ dc_T_wordsTaken) (by decide +kernel) (g_preV (ci := 4) hK hP rfl (hR3.c4 hj)) hl.1 d_S_reach_69 rfl rfl (Nat.le_of_ble_eq_true rfl) ⟨rfl, rfl⟩ ⟨Nat.le_of_ble_eq_true rfl, Nat.le_of_ble_eq_true rfl⟩ ⟨Nat.le_of_ble_eq_true rfl, Nat.le_of_ble_eq_true rfl⟩)) (fun qw ew => ?_)
        subst ew
        refine lv_isub hx hb d_S_reach_72 ?_
        refine gw_put (D := D) (cl := vwCl) (ci := 0) (C := "StackRoom") (T := T_S) (N := 10) (v := .int ((nI (w - 8 - s_sum (s_wd σ) L)) - (nI (s_wd σ i)))) (ty := .int) hx hb ht in_S ty_S tk_S nm_S hown hK.1 hP hS hR3.1 rfl 7 (by decide) (ht _ fl_S_S_wordsLeft) (fun _ h9 => h9) rfl (by decide +kernel) rfl rfl (Nat.le_of_ble_eq_true rfl) d_S_reach_73 (fun H locs hP hS => ?_)
        obtain ⟨G14, eG14⟩ : ∃ z : gw_G, z = va_up G13 x (some (.inr (0, [.int (nI w), .int (nI n), .ref ra, .int (nI md), .ref rt, .int (nI L.length + 1), .int (nI rd), .int ((nI (w - 8 - s_sum (s_wd σ) L)) - (nI (s_wd σ i))), .int (nI (n - 2 - s_sum (s_en σ) L)), .int cr]))) := ⟨_, rfl⟩
        have hP : gw_P D vwCl (gw_A G s.heap.size) G14 H := by rw [eG14]; exact hP
        have f14 : G14 x = some (.inr (0, [.int (nI w), .int (nI n), .ref ra, .int (nI md), .ref rt, .int (nI L.length + 1), .int (nI rd), .int ((nI (w - 8 - s_sum (s_wd σ) L)) - (nI (s_wd σ i))), .int (nI (n - 2 - s_sum (s_en σ) L)), .int cr])) := by rw [eG14]; exact va_up_self _ _ _
        have hR4 := hR3.own (rd' := rd) (md' := md) (rc' := nI L.length + 1) (wl' := nI (w - 8 - s_sum (s_wd σ) L) - nI (s_wd σ i)) (el' := nI (n - 2 - s_sum (s_en σ) L)) (cr' := cr) (Nat.le_refl _)
        rw [← eG14] at hR4
        refine lv_aload_n hx hb d_S_reach_76 rfl (lv_at hl 1 rfl) ?_
        refine lv_dup hx hb d_S_reach_77 rfl ?_
        refine va_get (D := D) (ci := 0) (C := "StackRoom") (T := T_S) (N := 10) (v := .int (nI (n - 2 - s_sum (s_en σ) L))) hx hb ht in_S hown hK.1 (hP.one hR4.1) 0 rfl rfl 8 (by decide) (ht _ fl_S_S_entriesLeft) (fun _ h9 => h9) rfl d_S_reach_78 ?_
        refine lv_aload_n hx hb d_S_reach_81 rfl (lv_at hl 0 rfl) ?_
        refine vp_callSi (va_Run.run (r_A (owner := "StackRoom$Thing") (n := 0) (rest := [.int (nI (n - 2 - s_sum (s_en σ) L)), .ref x]) C0 [] (k_C_entriesTaken l hR4 (i := i) (Or.inr hj)) ml_S_T_entriesTaken sm_T_T_entriesTaken se_B_T_entriesTaken_C im_C_entriesTaken ini_C co_C_entriesTaken (hK.2.1 _ dc_T_entriesTaken) (by decide +kernel) (g_preV (ci := 4) hK hP rfl (hR4.c4 hj)) hl.1 d_S_reach_82 rfl rfl (Nat.le_of_ble_eq_true rfl) ⟨rfl, rfl⟩ ⟨Nat.le_of_ble_eq_true rfl, Nat.le_of_ble_eq_true rfl⟩ ⟨Nat.le_of_ble_eq_true rfl, Nat.le_of_ble_eq_true rfl⟩)) (fun qe ee => ?_)
        subst ee
        refine lv_isub hx hb d_S_reach_85 ?_
        refine gw_put (D := D) (cl := vwCl) (ci := 0) (C := "StackRoom") (T := T_S) (N := 10) (v := .int ((nI (n - 2 - s_sum (s_en σ) L)) - (nI (s_en σ i)))) (ty := .int) hx hb ht in_S ty_S tk_S nm_S hown hK.1 hP hS hR4.1 rfl 8 (by decide) (ht _ fl_S_S_entriesLeft) (fun _ h9 => h9) rfl (by decide +kernel) rfl rfl (Nat.le_of_ble_eq_true rfl) d_S_reach_86 (fun H locs hP hS => ?_)
        obtain ⟨G15, eG15⟩ : ∃ z : gw_G, z = va_up G14 x (some (.inr (0, [.int (nI w), .int (nI n), .ref ra, .int (nI md), .ref rt, .int (nI L.length + 1), .int (nI rd), .int (nI (w - 8 - s_sum (s_wd σ) L) - nI (s_wd σ i)), .int ((nI (n - 2 - s_sum (s_en σ) L)) - (nI (s_en σ i))), .int cr]))) := ⟨_, rfl⟩
        have hP : gw_P D vwCl (gw_A G s.heap.size) G15 H := by rw [eG15]; exact hP
        have f15 : G15 x = some (.inr (0, [.int (nI w), .int (nI n), .ref ra, .int (nI md), .ref rt, .int (nI L.length + 1), .int (nI rd), .int (nI (w - 8 - s_sum (s_wd σ) L) - nI (s_wd σ i)), .int ((nI (n - 2 - s_sum (s_en σ) L)) - (nI (s_en σ i))), .int cr])) := by rw [eG15]; exact va_up_self _ _ _
        have hR5 := hR4.own (rd' := rd) (md' := md) (rc' := nI L.length + 1) (wl' := nI (w - 8 - s_sum (s_wd σ) L) - nI (s_wd σ i)) (el' := nI (n - 2 - s_sum (s_en σ) L) - nI (s_en σ i)) (cr' := cr) (Nat.le_refl _)
        rw [← eG15] at hR5
        exact W.vret hx hb hr (fun t ht hW => ⟨⟨G15, rfl, (by rw [s_add_o hni]; exact c_Srv.add hO hp hi hni hrf hmk hR5), g_fin ht hP⟩, hS.F ht⟩) hS.2.2 d_S_reach_89
theorem k_S_reach (l : Launch) (hS0 : c_Srv w n rd md cV cT σ x ra rt ad fa fr rr L cr G) (hp : s_part σ L) (hO : s_OK w n σ) (hn4 : n ≤ 4096) (hm : s_md σ < 2 ^ 31) (ht0 : tys[0]? = some (cV, .object "StackRoom$Value")) (ht1 : tys[1]? = some (cT, .object "StackRoom$Thing")) {v : sV} (hv : ∀ i, v = some (.inr i) → s_rch σ i) {r : Option Nat} (hcv : c_val G ad v r) : Met l y_S_reach w_S_reach ({ frames := 2, cells := 0, slots := 0, locals := 40 }) (g_pre D tys G sz [.ref x, va_rf r]) (va_Qv (fun G1 : gw_G => c_Srv w n rd md cV cT σ x ra rt ad fa fr rr (s_add L v) cr G1) (g_end D G sz) (gw_A G sz)) 0 0 (gw_A G sz) := by
  rcases v with _ | (nv | i)
  · have e : r = none := hcv
    subst e
    exact k_S_reach_N l hS0 hp hO hn4 hm
  · obtain ⟨a, e, h2⟩ := hcv
    subst e
    exact k_S_reach_W l hS0 hp hO hn4 hm h2
  · have e : r = some (ad i) := hcv
    subst e
    exact k_S_reach_O l hS0 hp hO hn4 hm ht0 ht1 (hv i rfl)
end K15
end
section
section K16
theorem c_val_sn {G : gw_G} {ad : Nat → Nat} (o : Option Nat) : c_val G ad (o.map .inr) (o.map ad) := by
  cases o <;> rfl
theorem sn_inr {o : Option Nat} {j : Nat} (h : (o.map .inr : sV) = some (.inr j)) : o = some j := by
  cases o with
  | none => cases h
  | some k => cases h; rfl
variable {w n rd md : Nat} {cV cT : ClassId} {σ : sS} {x ra rt : Nat} {ad fa : Nat → Nat} {ρ : Nat → Int32} {fr : Nat → Nat → Option Nat} {rr rf : Nat → Option Nat} {rc wl el cr : Int32} {G : gw_G} {D : va_G} {tys : List (ClassId × FieldType)} {sz : Nat} {L : List Nat}
set_option maxHeartbeats 4000000 in
set_option maxRecDepth 100000 in
theorem k_S_reachPartsOf (l : Launch) (hS0 : c_Srv w n rd md cV cT σ x ra rt ad fa fr rr L cr G) (hp : s_part σ L) (hO : s_OK w n σ) (hn4 : n ≤ 4096) (hm : s_md σ < 2 ^ 31) (ht0 : tys[0]? = some (cV, .object "StackRoom$Value")) (ht1 : tys[1]? = some (cT, .object "StackRoom$Thing")) {i : Nat} (hi : s_rch σ i) (hc : s_isC σ i) : Met l y_S_reachPartsOf w_S_reachPartsOf ({ frames := 3, cells := 0, slots := 0, locals := 62 }) (g_pre D tys G sz [.ref x, .ref (ad i)]) (va_Qv (fun G1 : gw_G => ∃ L2, (∃ M, L2 = L ++ M) ∧ s_part σ L2 ∧ (∀ k, s_edge σ i k → k ∈ L2) ∧ c_Srv w n rd md cV cT σ x ra rt ad fa fr rr L2 cr G1) (g_end D G sz) (gw_A G sz)) 0 0 (gw_A G sz) := by
  refine Met.ofW (cc := b_S_reachPartsOf) (maxL := 3) (ret := none) (by decide) rfl ?_
  intro p e s m args below meth c s₁ B hml hv
  obtain ⟨rfl, hsz, hP, hK⟩ := hv
  have hx := B.exec
  have hb := B.bytes
  have hr := B.returns
  have ht := fun w (hw : w ∈ gt) => atoms_spec (ws := w_S_reachPartsOf) B.pre w (List.mem_cons_of_mem _ hw)
  have hown : s.vm.findClass "StackRoom" = some m.cls := findClass_of_methodNamed B.named
  have hlocks := B.notSynchronized
  have C0 : CallFix p m c b_S_reachPartsOf 3 s [.ref x, .ref (ad i)].toArray gt "StackRoom" := ⟨hx, hb, hml, hown, ht⟩
  subst hsz
  have hP := hP.self (sz := s.heap.size)
  have hA : ∀ q : Nat, s.heap.size ≤ q → gw_A G s.heap.size q := fun q h => Or.inr h
  have hS : va_S (gw_A G s.heap.size) s.heap s.heap [] := va_S.rf
  have hl := lv_entry ([.ref x, .ref (ad i)]) (n := 3) (Nat.le_of_ble_eq_true rfl)
  rw [lg_entry_eq]
  generalize (lg_sl ([.ref x, .ref (ad i)]) ++ List.replicate (3 - (lg_sl ([.ref x, .ref (ad i)])).length) Slot.unset).toArray = ls at hl ⊢
  have hl : lv_has ls 3 [(0, .ref x), (1, .ref (ad i))] := hl
  have hb9 := (hO.1.2.2.2.2.2.2 i hc).2.2.1
  rcases id hc with h3 | h4
  · obtain ⟨ρ, rf, hR, -, -⟩ := id hS0
    refine lv_aload_n hx hb d_S_reachPartsOf_0 rfl (lv_at hl 0 rfl) ?_
    refine lv_aload_n hx hb d_S_reachPartsOf_1 rfl (lv_at hl 1 rfl) ?_
    refine va_getN (D := D) (ci := 3) (C := "StackRoom$MethodContext") (T := T_X) (N := 7) (v := va_rf ((s_sn σ i).map ad)) hx hb ht in_X hown hK.1 (hP.one (hR.c3 h3)) 0 rfl rfl 2 (by decide) (va_Nw.use rfl (hK.2.1 _ fn_S_C_sender)) (fun _ h9 => h9) rfl d_S_reachPartsOf_2 ?_
    have hv1 : ∀ j, ((s_sn σ i).map .inr : sV) = some (.inr j) → s_rch σ j := fun j e => s_rch_edge hi ⟨hc, Or.inl (sn_inr e)⟩
    refine g_callv hP hS hA (r_V (rest := []) C0 [va_rf ((s_sn σ i).map ad)] (k_S_reach l hS0 hp hO hn4 hm ht0 ht1 (v := (s_sn σ i).map .inr) hv1 (c_val_sn (s_sn σ i))) ml_S_S_reach im_S_reach se_S_S_reach_S ini_S co_S_reach ⟨rfl, hd_S_reach⟩ (g_preV (ci := 0) hK hP rfl hR.1) hl.1 d_S_reachPartsOf_5 rfl rfl (Nat.le_of_ble_eq_true rfl) ⟨rfl, rfl⟩ ⟨Nat.le_of_ble_eq_true rfl, Nat.le_of_ble_eq_true rfl⟩ ⟨Nat.le_of_ble_eq_true rfl, Nat.le_of_ble_eq_true rfl⟩) (fun G1 H locs hS1 hP hS hz9 hk9 => ?_)
    clear hz9 hk9
    obtain ⟨ρ1, rf1, hR1, -, -⟩ := id hS1
    refine lv_aload_n hx hb d_S_reachPartsOf_8 rfl (lv_at hl 0 rfl) ?_
    refine lv_aload_n hx hb d_S_reachPartsOf_9 rfl (lv_at hl 1 rfl) ?_
    refine va_csq (va_Run.run (r_A (owner := "StackRoom$Context") (n := 0) (rest := [.ref x]) C0 [] (k_X_origin l hR1 (i := i) h3) ml_S_C_origin sm_C_C_origin se_X_C_origin_X im_X_origin ini_X co_X_origin (hK.2.1 _ dc_C_origin) (by decide +kernel) (g_preV (ci := 3) hK hP rfl (hR1.c3 h3)) hl.1 d_S_reachPartsOf_10 rfl rfl (Nat.le_of_ble_eq_true rfl) ⟨rfl, rfl⟩ ⟨Nat.le_of_ble_eq_true rfl, Nat.le_of_ble_eq_true rfl⟩ ⟨Nat.le_of_ble_eq_true rfl, Nat.le_of_ble_eq_true rfl⟩)) (fun q eq => ?_)
    subst eq
    have hp1 := s_part_add hp hv1
    have hv2 : ∀ j, (some (.inr (s_og σ i)) : sV) = some (.inr j) → s_rch σ j := fun j e => by cases e; exact s_rch_edge hi ⟨hc, Or.inr (Or.inl rfl)⟩
    refine g_callv hP hS hA (r_V (rest := []) C0 [va_rf (some (ad (s_og σ i)))] (k_S_reach l hS1 hp1 hO hn4 hm ht0 ht1 (v := some (.inr (s_og σ i))) hv2 (r := some (ad (s_og σ i))) rfl) ml_S_S_reach im_S_reach se_S_S_reach_S ini_S co_S_reach ⟨rfl, hd_S_reach⟩ (g_preV (ci := 0) hK hP rfl hR1.1) hl.1 d_S_reachPartsOf_13 rfl rfl (Nat.le_of_ble_eq_true rfl) ⟨rfl, rfl⟩ ⟨Nat.le_of_ble_eq_true rfl, Nat.le_of_ble_eq_true rfl⟩ ⟨Nat.le_of_ble_eq_true rfl, Nat.le_of_ble_eq_true rfl⟩) (fun G2 H locs hS2 hP hS hz9 hk9 => ?_)
    clear hz9 hk9
    refine lv_iconst (v := 0) hx hb d_S_reachPartsOf_16 (by decide) ?_
    refine lv_istore_n (lv' := [(2, .int 0), (0, .ref x), (1, .ref (ad i))]) hx hb d_S_reachPartsOf_17 rfl hl (by decide) rfl (fun ls hl => ?_)
    obtain ⟨L2, eL2⟩ : ∃ z, z = s_add (s_add L ((s_sn σ i).map .inr)) (some (.inr (s_og σ i))) := ⟨_, rfl⟩
    rw [← eL2] at hS2
    obtain ⟨j, ej⟩ : ∃ z : Nat, z = 0 := ⟨_, rfl⟩
    obtain ⟨f, ef⟩ : ∃ z : Nat, z = s_rm σ i := ⟨_, rfl⟩
    have inv : s_rm σ i ≤ j + f ∧ j ≤ s_rm σ i ∧ lv_has ls 3 [(2, .int (nI j)), (0, .ref x), (1, .ref (ad i))] ∧ gw_P D vwCl (gw_A G s.heap.size) G2 H ∧ va_S (gw_A G s.heap.size) s.heap H locs ∧ c_Srv w n rd md cV cT σ x ra rt ad fa fr rr L2 cr G2 ∧ (∃ M, L2 = L ++ M) ∧ s_part σ L2 ∧ (∀ k, s_sn σ i = some k → k ∈ L2) ∧ s_og σ i ∈ L2 ∧ (∀ k, k < j → ∀ a, s_fl σ i k = some (.inr a) → a ∈ L2) := by
      refine ⟨by omega, by omega, by rw [ej]; exact hl, hP, hS, hS2, ?_, ?_, fun k hk => ?_, ?_, fun k hk => absurd hk (by omega)⟩
      · obtain ⟨M1, e1⟩ := s_add_pre L ((s_sn σ i).map .inr)
        obtain ⟨M2, e2⟩ := s_add_pre (s_add L ((s_sn σ i).map .inr)) (some (.inr (s_og σ i)))
        exact ⟨M1 ++ M2, by rw [eL2, e2, e1, List.append_assoc]⟩
      · rw [eL2]; exact s_part_add hp1 hv2
      · rw [eL2]
        refine s_add_sub ?_
        rw [hk]
        exact s_add_in
      · rw [eL2]; exact s_add_in
    clear hl hP hS hS2 eL2 ej ef
    induction f generalizing j ls H locs G2 L2
    case zero =>
      obtain ⟨hf, hjm, hl, hP, hS, hS2, hpre, hp2, hsn, hog, hfl⟩ := inv
      obtain ⟨ρ2, rf2, hR2, -, -⟩ := id hS2
      refine lv_iload_n hx hb d_S_reachPartsOf_18 rfl (lv_at hl 0 rfl) ?_
      refine lv_aload_n hx hb d_S_reachPartsOf_19 rfl (lv_at hl 2 rfl) ?_
      refine va_getN (D := D) (ci := 3) (C := "StackRoom$MethodContext") (T := T_X) (N := 7) (v := .ref (fa i)) hx hb ht in_X hown hK.1 (hP.one (hR2.c3 h3)) 0 rfl rfl 5 (by decide) (va_Nw.use rfl (hK.2.1 _ fn_S_C_fields)) (fun _ h9 => h9) rfl d_S_reachPartsOf_20 ?_
      refine va_alen (v := nI (s_rm σ i)) hx hb hK.1 (hP.one (hR2.ca hc)) 0 0 rfl ht0 rfl d_S_reachPartsOf_23 ?_
      refine lv_icmp_ge (tgt := 43) hx hb d_S_reachPartsOf_24 (by decide) (fun cj => ?_) (fun cj => ?_)
      · have hge := (nI_leI (by omega) (by omega)).mp cj
        exact W.vret hx hb hr (fun t ht hW => ⟨⟨G2, rfl, ⟨L2, hpre, hp2, fun k hk => by
            rcases hk.2 with e | e | ⟨b, hb1, e⟩
            · exact hsn k e
            · exact e ▸ hog
            · exact hfl b (by omega) k e, hS2⟩, g_fin ht hP⟩, hS.F ht⟩) hS.2.2 d_S_reachPartsOf_43
      · have hlt : j < s_rm σ i := Nat.not_le.mp (fun q => cj ((nI_leI (by omega) (by omega)).mpr q))
        omega
    case succ f ih =>
      obtain ⟨hf, hjm, hl, hP, hS, hS2, hpre, hp2, hsn, hog, hfl⟩ := inv
      obtain ⟨ρ2, rf2, hR2, -, -⟩ := id hS2
      refine lv_iload_n hx hb d_S_reachPartsOf_18 rfl (lv_at hl 0 rfl) ?_
      refine lv_aload_n hx hb d_S_reachPartsOf_19 rfl (lv_at hl 2 rfl) ?_
      refine va_getN (D := D) (ci := 3) (C := "StackRoom$MethodContext") (T := T_X) (N := 7) (v := .ref (fa i)) hx hb ht in_X hown hK.1 (hP.one (hR2.c3 h3)) 0 rfl rfl 5 (by decide) (va_Nw.use rfl (hK.2.1 _ fn_S_C_fields)) (fun _ h9 => h9) rfl d_S_reachPartsOf_20 ?_
      refine va_alen (v := nI (s_rm σ i)) hx hb hK.1 (hP.one (hR2.ca hc)) 0 0 rfl ht0 rfl d_S_reachPartsOf_23 ?_
      refine lv_icmp_ge (tgt := 43) hx hb d_S_reachPartsOf_24 (by decide) (fun cj => ?_) (fun cj => ?_)
      · have hge := (nI_leI (by omega) (by omega)).mp cj
        exact W.vret hx hb hr (fun t ht hW => ⟨⟨G2, rfl, ⟨L2, hpre, hp2, fun k hk => by
            rcases hk.2 with e | e | ⟨b, hb1, e⟩
            · exact hsn k e
            · exact e ▸ hog
            · exact hfl b (by omega) k e, hS2⟩, g_fin ht hP⟩, hS.F ht⟩) hS.2.2 d_S_reachPartsOf_43
      · have hlt : j < s_rm σ i := Nat.not_le.mp (fun q => cj ((nI_leI (by omega) (by omega)).mpr q))
        refine lv_aload_n hx hb d_S_reachPartsOf_27 rfl (lv_at hl 1 rfl) ?_
        refine lv_aload_n hx hb d_S_reachPartsOf_28 rfl (lv_at hl 2 rfl) ?_
        refine va_getN (D := D) (ci := 3) (C := "StackRoom$MethodContext") (T := T_X) (N := 7) (v := .ref (fa i)) hx hb ht in_X hown hK.1 (hP.one (hR2.c3 h3)) 0 rfl rfl 5 (by decide) (va_Nw.use rfl (hK.2.1 _ fn_S_C_fields)) (fun _ h9 => h9) rfl d_S_reachPartsOf_29 ?_
        refine lv_iload_n hx hb d_S_reachPartsOf_32 rfl (lv_at hl 0 rfl) ?_
        refine va_aldq (C := "StackRoom$Value") hx hb hK.1 (hP.one (hR2.ca hc)) 0 0 rfl ht0 (vp_in_nI hlt (by omega)) d_S_reachPartsOf_33 ?_
        rw [nI_clamp (by omega)]
        have hv3 : ∀ a, s_fl σ i j = some (.inr a) → s_rch σ a := fun a e => s_rch_edge hi ⟨hc, Or.inr (Or.inr ⟨j, hlt, e⟩)⟩
        refine g_callv hP hS hA (r_V (rest := []) C0 [va_rf (fr i j)] (k_S_reach l hS2 hp2 hO hn4 hm ht0 ht1 (v := s_fl σ i j) hv3 (hR2.2.2.2.2.2.2.2.1 i hc j hlt)) ml_S_S_reach im_S_reach se_S_S_reach_S ini_S co_S_reach ⟨rfl, hd_S_reach⟩ (g_preV (ci := 0) hK hP rfl hR2.1) hl.1 d_S_reachPartsOf_34 rfl rfl (Nat.le_of_ble_eq_true rfl) ⟨rfl, rfl⟩ ⟨Nat.le_of_ble_eq_true rfl, Nat.le_of_ble_eq_true rfl⟩ ⟨Nat.le_of_ble_eq_true rfl, Nat.le_of_ble_eq_true rfl⟩) (fun G3 H locs hS3 hP hS hz9 hk9 => ?_)
        refine lv_iinc (v := nI (j + 1)) (lv' := [(2, .int (nI (j + 1))), (0, .ref x), (1, .ref (ad i))]) hx hb d_S_reachPartsOf_37 hl (k := 0) rfl (by rw [← nI_1]; rfl) (by decide) rfl (fun ls hl => ?_)
        refine lv_goto (tgt := 18) hx hb d_S_reachPartsOf_40 (by decide) ?_
        refine ih _ _ _ _ _ _ ⟨?_, ?_, lv_sub hl [0, 1, 2] rfl, hP, hS, hS3, ?_, s_part_add hp2 hv3, fun k hk => s_add_sub (hsn k hk), s_add_sub hog, fun k hk a ha => ?_⟩
        · omega
        · omega
        · obtain ⟨M1, e1⟩ := hpre
          obtain ⟨M2, e2⟩ := s_add_pre L2 (s_fl σ i j)
          exact ⟨M1 ++ M2, by rw [e2, e1, List.append_assoc]⟩
        · by_cases e : k = j
          · subst e
            rw [ha]
            exact s_add_in
          · exact s_add_sub (hfl k (by omega) a ha)
  · obtain ⟨ρ, rf, hR, -, -⟩ := id hS0
    refine lv_aload_n hx hb d_S_reachPartsOf_0 rfl (lv_at hl 0 rfl) ?_
    refine lv_aload_n hx hb d_S_reachPartsOf_1 rfl (lv_at hl 1 rfl) ?_
    refine va_getN (D := D) (ci := 4) (C := "StackRoom$BlockContext") (T := T_B) (N := 8) (v := va_rf ((s_sn σ i).map ad)) hx hb ht in_B hown hK.1 (hP.one (hR.c4 h4)) 0 rfl rfl 2 (by decide) (va_Nw.use rfl (hK.2.1 _ fn_S_C_sender)) (fun _ h9 => h9) rfl d_S_reachPartsOf_2 ?_
    have hv1 : ∀ j, ((s_sn σ i).map .inr : sV) = some (.inr j) → s_rch σ j := fun j e => s_rch_edge hi ⟨hc, Or.inl (sn_inr e)⟩
    refine g_callv hP hS hA (r_V (rest := []) C0 [va_rf ((s_sn σ i).map ad)] (k_S_reach l hS0 hp hO hn4 hm ht0 ht1 (v := (s_sn σ i).map .inr) hv1 (c_val_sn (s_sn σ i))) ml_S_S_reach im_S_reach se_S_S_reach_S ini_S co_S_reach ⟨rfl, hd_S_reach⟩ (g_preV (ci := 0) hK hP rfl hR.1) hl.1 d_S_reachPartsOf_5 rfl rfl (Nat.le_of_ble_eq_true rfl) ⟨rfl, rfl⟩ ⟨Nat.le_of_ble_eq_true rfl, Nat.le_of_ble_eq_true rfl⟩ ⟨Nat.le_of_ble_eq_true rfl, Nat.le_of_ble_eq_true rfl⟩) (fun G1 H locs hS1 hP hS hz9 hk9 => ?_)
    clear hz9 hk9
    obtain ⟨ρ1, rf1, hR1, -, -⟩ := id hS1
    refine lv_aload_n hx hb d_S_reachPartsOf_8 rfl (lv_at hl 0 rfl) ?_
    refine lv_aload_n hx hb d_S_reachPartsOf_9 rfl (lv_at hl 1 rfl) ?_
    refine va_csq (va_Run.run (r_A (owner := "StackRoom$Context") (n := 0) (rest := [.ref x]) C0 [] (k_B_origin l hR1 (i := i) h4) ml_S_C_origin sm_C_C_origin se_B_C_origin_B im_B_origin ini_B co_B_origin (hK.2.1 _ dc_C_origin) (by decide +kernel) (g_preV (ci := 4) hK hP rfl (hR1.c4 h4)) hl.1 d_S_reachPartsOf_10 rfl rfl (Nat.le_of_ble_eq_true rfl) ⟨rfl, rfl⟩ ⟨Nat.le_of_ble_eq_true rfl, Nat.le_of_ble_eq_true rfl⟩ ⟨Nat.le_of_ble_eq_true rfl, Nat.le_of_ble_eq_true rfl⟩)) (fun q eq => ?_)
    subst eq
    have hp1 := s_part_add hp hv1
    have hv2 : ∀ j, (some (.inr (s_og σ i)) : sV) = some (.inr j) → s_rch σ j := fun j e => by cases e; exact s_rch_edge hi ⟨hc, Or.inr (Or.inl rfl)⟩
    refine g_callv hP hS hA (r_V (rest := []) C0 [va_rf (some (ad (s_og σ i)))] (k_S_reach l hS1 hp1 hO hn4 hm ht0 ht1 (v := some (.inr (s_og σ i))) hv2 (r := some (ad (s_og σ i))) rfl) ml_S_S_reach im_S_reach se_S_S_reach_S ini_S co_S_reach ⟨rfl, hd_S_reach⟩ (g_preV (ci := 0) hK hP rfl hR1.1) hl.1 d_S_reachPartsOf_13 rfl rfl (Nat.le_of_ble_eq_true rfl) ⟨rfl, rfl⟩ ⟨Nat.le_of_ble_eq_true rfl, Nat.le_of_ble_eq_true rfl⟩ ⟨Nat.le_of_ble_eq_true rfl, Nat.le_of_ble_eq_true rfl⟩) (fun G2 H locs hS2 hP hS hz9 hk9 => ?_)
    clear hz9 hk9
    refine lv_iconst (v := 0) hx hb d_S_reachPartsOf_16 (by decide) ?_
    refine lv_istore_n (lv' := [(2, .int 0), (0, .ref x), (1, .ref (ad i))]) hx hb d_S_reachPartsOf_17 rfl hl (by decide) rfl (fun ls hl => ?_)
    obtain ⟨L2, eL2⟩ : ∃ z, z = s_add (s_add L ((s_sn σ i).map .inr)) (some (.inr (s_og σ i))) := ⟨_, rfl⟩
    rw [← eL2] at hS2
    obtain ⟨j, ej⟩ : ∃ z : Nat, z = 0 := ⟨_, rfl⟩
    obtain ⟨f, ef⟩ : ∃ z : Nat, z = s_rm σ i := ⟨_, rfl⟩
    have inv : s_rm σ i ≤ j + f ∧ j ≤ s_rm σ i ∧ lv_has ls 3 [(2, .int (nI j)), (0, .ref x), (1, .ref (ad i))] ∧ gw_P D vwCl (gw_A G s.heap.size) G2 H ∧ va_S (gw_A G s.heap.size) s.heap H locs ∧ c_Srv w n rd md cV cT σ x ra rt ad fa fr rr L2 cr G2 ∧ (∃ M, L2 = L ++ M) ∧ s_part σ L2 ∧ (∀ k, s_sn σ i = some k → k ∈ L2) ∧ s_og σ i ∈ L2 ∧ (∀ k, k < j → ∀ a, s_fl σ i k = some (.inr a) → a ∈ L2) := by
      refine ⟨by omega, by omega, by rw [ej]; exact hl, hP, hS, hS2, ?_, ?_, fun k hk => ?_, ?_, fun k hk => absurd hk (by omega)⟩
      · obtain ⟨M1, e1⟩ := s_add_pre L ((s_sn σ i).map .inr)
        obtain ⟨M2, e2⟩ := s_add_pre (s_add L ((s_sn σ i).map .inr)) (some (.inr (s_og σ i)))
        exact ⟨M1 ++ M2, by rw [eL2, e2, e1, List.append_assoc]⟩
      · rw [eL2]; exact s_part_add hp1 hv2
      · rw [eL2]
        refine s_add_sub ?_
        rw [hk]
        exact s_add_in
      · rw [eL2]; exact s_add_in
    clear hl hP hS hS2 eL2 ej ef
    induction f generalizing j ls H locs G2 L2
    case zero =>
      obtain ⟨hf, hjm, hl, hP, hS, hS2, hpre, hp2, hsn, hog, hfl⟩ := inv
      obtain ⟨ρ2, rf2, hR2, -, -⟩ := id hS2
      refine lv_iload_n hx hb d_S_reachPartsOf_18 rfl (lv_at hl 0 rfl) ?_
      refine lv_aload_n hx hb d_S_reachPartsOf_19 rfl (lv_at hl 2 rfl) ?_
      refine va_getN (D := D) (ci := 4) (C := "StackRoom$BlockContext") (T := T_B) (N := 8) (v := .ref (fa i)) hx hb ht in_B hown hK.1 (hP.one (hR2.c4 h4)) 0 rfl rfl 5 (by decide) (va_Nw.use rfl (hK.2.1 _ fn_S_C_fields)) (fun _ h9 => h9) rfl d_S_reachPartsOf_20 ?_
      refine va_alen (v := nI (s_rm σ i)) hx hb hK.1 (hP.one (hR2.ca hc)) 0 0 rfl ht0 rfl d_S_reachPartsOf_23 ?_
      refine lv_icmp_ge (tgt := 43) hx hb d_S_reachPartsOf_24 (by decide) (fun cj => ?_) (fun cj => ?_)
      · have hge := (nI_leI (by omega) (by omega)).mp cj
        exact W.vret hx hb hr (fun t ht hW => ⟨⟨G2, rfl, ⟨L2, hpre, hp2, fun k hk => by
            rcases hk.2 with e | e | ⟨b, hb1, e⟩
            · exact hsn k e
            · exact e ▸ hog
            · exact hfl b (by omega) k e, hS2⟩, g_fin ht hP⟩, hS.F ht⟩) hS.2.2 d_S_reachPartsOf_43
      · have hlt : j < s_rm σ i := Nat.not_le.mp (fun q => cj ((nI_leI (by omega) (by omega)).mpr q))
        omega
    case succ f ih =>
      obtain ⟨hf, hjm, hl, hP, hS, hS2, hpre, hp2, hsn, hog, hfl⟩ := inv
      obtain ⟨ρ2, rf2, hR2, -, -⟩ := id hS2
      refine lv_iload_n hx hb d_S_reachPartsOf_18 rfl (lv_at hl 0 rfl) ?_
      refine lv_aload_n hx hb d_S_reachPartsOf_19 rfl (lv_at hl 2 rfl) ?_
      refine va_getN (D := D) (ci := 4) (C := "StackRoom$BlockContext") (T := T_B) (N := 8) (v := .ref (fa i)) hx hb ht in_B hown hK.1 (hP.one (hR2.c4 h4)) 0 rfl rfl 5 (by decide) (va_Nw.use rfl (hK.2.1 _ fn_S_C_fields)) (fun _ h9 => h9) rfl d_S_reachPartsOf_20 ?_
      refine va_alen (v := nI (s_rm σ i)) hx hb hK.1 (hP.one (hR2.ca hc)) 0 0 rfl ht0 rfl d_S_reachPartsOf_23 ?_
      refine lv_icmp_ge (tgt := 43) hx hb d_S_reachPartsOf_24 (by decide) (fun cj => ?_) (fun cj => ?_)
      · have hge := (nI_leI (by omega) (by omega)).mp cj
        exact W.vret hx hb hr (fun t ht hW => ⟨⟨G2, rfl, ⟨L2, hpre, hp2, fun k hk => by
            rcases hk.2 with e | e | ⟨b, hb1, e⟩
            · exact hsn k e
            · exact e ▸ hog
            · exact hfl b (by omega) k e, hS2⟩, g_fin ht hP⟩, hS.F ht⟩) hS.2.2 d_S_reachPartsOf_43
      · have hlt : j < s_rm σ i := Nat.not_le.mp (fun q => cj ((nI_leI (by omega) (by omega)).mpr q))
        refine lv_aload_n hx hb d_S_reachPartsOf_27 rfl (lv_at hl 1 rfl) ?_
        refine lv_aload_n hx hb d_S_reachPartsOf_28 rfl (lv_at hl 2 rfl) ?_
        refine va_getN (D := D) (ci := 4) (C := "StackRoom$BlockContext") (T := T_B) (N := 8) (v := .ref (fa i)) hx hb ht in_B hown hK.1 (hP.one (hR2.c4 h4)) 0 rfl rfl 5 (by decide) (va_Nw.use rfl (hK.2.1 _ fn_S_C_fields)) (fun _ h9 => h9) rfl d_S_reachPartsOf_29 ?_
        refine lv_iload_n hx hb d_S_reachPartsOf_32 rfl (lv_at hl 0 rfl) ?_
        refine va_aldq (C := "StackRoom$Value") hx hb hK.1 (hP.one (hR2.ca hc)) 0 0 rfl ht0 (vp_in_nI hlt (by omega)) d_S_reachPartsOf_33 ?_
        rw [nI_clamp (by omega)]
        have hv3 : ∀ a, s_fl σ i j = some (.inr a) → s_rch σ a := fun a e => s_rch_edge hi ⟨hc, Or.inr (Or.inr ⟨j, hlt, e⟩)⟩
        refine g_callv hP hS hA (r_V (rest := []) C0 [va_rf (fr i j)] (k_S_reach l hS2 hp2 hO hn4 hm ht0 ht1 (v := s_fl σ i j) hv3 (hR2.2.2.2.2.2.2.2.1 i hc j hlt)) ml_S_S_reach im_S_reach se_S_S_reach_S ini_S co_S_reach ⟨rfl, hd_S_reach⟩ (g_preV (ci := 0) hK hP rfl hR2.1) hl.1 d_S_reachPartsOf_34 rfl rfl (Nat.le_of_ble_eq_true rfl) ⟨rfl, rfl⟩ ⟨Nat.le_of_ble_eq_true rfl, Nat.le_of_ble_eq_true rfl⟩ ⟨Nat.le_of_ble_eq_true rfl, Nat.le_of_ble_eq_true rfl⟩) (fun G3 H locs hS3 hP hS hz9 hk9 => ?_)
        refine lv_iinc (v := nI (j + 1)) (lv' := [(2, .int (nI (j + 1))), (0, .ref x), (1, .ref (ad i))]) hx hb d_S_reachPartsOf_37 hl (k := 0) rfl (by rw [← nI_1]; rfl) (by decide) rfl (fun ls hl => ?_)
        refine lv_goto (tgt := 18) hx hb d_S_reachPartsOf_40 (by decide) ?_
        refine ih _ _ _ _ _ _ ⟨?_, ?_, lv_sub hl [0, 1, 2] rfl, hP, hS, hS3, ?_, s_part_add hp2 hv3, fun k hk => s_add_sub (hsn k hk), s_add_sub hog, fun k hk a ha => ?_⟩
        · omega
        · omega
        · obtain ⟨M1, e1⟩ := hpre
          obtain ⟨M2, e2⟩ := s_add_pre L2 (s_fl σ i j)
          exact ⟨M1 ++ M2, by rw [e2, e1, List.append_assoc]⟩
        · by_cases e : k = j
          · subst e
            rw [ha]
            exact s_add_in
          · exact s_add_sub (hfl k (by omega) a ha)
end K16
end
section
section K17
theorem nI_n1 {rd k : Nat} (h : k ≤ rd) (hr : rd + 1 < 2 ^ 31) : nI k ≠ nI (rd + 1) := fun e => by
  have := (nI_eq (by omega) hr).mp e
  omega
theorem s_sum_take {f : Nat → Nat} {L M : List Nat} {p i : Nat} (h : L[p]? = some i) : s_sum f ((L ++ M).take (p + 1)) = s_sum f (L.take p) + f i := by
  have hl := (List.getElem?_eq_some_iff.mp h).1
  rw [List.take_append_of_le_length (by omega), List.take_add_one, h]
  exact s_sum_push f _ i
variable {w n rd md : Nat} {cV cT : ClassId} {σ : sS} {x ra rt : Nat} {ad fa : Nat → Nat} {ρ : Nat → Int32} {fr : Nat → Nat → Option Nat} {rr rf : Nat → Option Nat} {rc wl el cr : Int32} {G : gw_G} {D : va_G} {tys : List (ClassId × FieldType)} {sz : Nat}
theorem c_Srv.start (h : c_Rep w n rd md cV cT σ x ra rt ad fa ρ fr rr rf rc wl el cr G) (hr : rd + 1 < 2 ^ 31) {G1 : gw_G} (h1 : c_Rep w n (rd + 1) md cV cT σ x ra rt ad fa ρ fr rr rf 0 (nI (w - 8)) (nI (n - 2)) 0 G1) : c_Srv w n (rd + 1) md cV cT σ x ra rt ad fa fr rr [] 0 G1 := by
  refine ⟨ρ, rf, h1, fun k i hk => by simp at hk, fun i hi => ?_⟩
  obtain ⟨k, hk, e⟩ := h.2.2.2.2.2.2.2.2.2 i hi
  rw [e]
  exact ⟨fun z => absurd z (nI_n1 hk hr), fun z => by cases z⟩
set_option maxHeartbeats 4000000 in
set_option maxRecDepth 100000 in
theorem k_S_survey (l : Launch) (hR : c_Rep w n rd md cV cT σ x ra rt ad fa ρ fr rr rf rc wl el cr G) (hO : s_OK w n σ) (hw : 128 ≤ w ∧ w ≤ 32768) (hn : 16 ≤ n ∧ n ≤ 4096) (hm : s_md σ < 2 ^ 31) (hrd : rd + 1 < 2 ^ 31) (ht0 : tys[0]? = some (cV, .object "StackRoom$Value")) (ht1 : tys[1]? = some (cT, .object "StackRoom$Thing")) : Met l y_S_survey w_S_survey ({ frames := 4, cells := 0, slots := 0, locals := 84 }) (g_pre D tys G sz [.ref x]) (va_Qv (fun G1 : gw_G => ∃ ρ2 rf2 rc2, c_Rep w n (rd + 1) md cV cT σ x ra rt ad fa ρ2 fr rr rf2 rc2 (nI (w - 8 - s_W σ)) (nI (n - 2 - s_N σ)) (nI (s_K σ)) G1) (g_end D G sz) (gw_A G sz)) 0 0 (gw_A G sz) := by
  refine Met.ofW (cc := b_S_survey) (maxL := 4) (ret := none) (by decide) rfl ?_
  intro p e s m args below meth c s₁ B hml hv
  obtain ⟨rfl, hsz, hP, hK⟩ := hv
  have hx := B.exec
  have hb := B.bytes
  have hr := B.returns
  have ht := fun w (hw : w ∈ gt) => atoms_spec (ws := w_S_survey) B.pre w (List.mem_cons_of_mem _ hw)
  have hown : s.vm.findClass "StackRoom" = some m.cls := findClass_of_methodNamed B.named
  have hlocks := B.notSynchronized
  have C0 : CallFix p m c b_S_survey 4 s [.ref x].toArray gt "StackRoom" := ⟨hx, hb, hml, hown, ht⟩
  subst hsz
  have hP := hP.self (sz := s.heap.size)
  have hA : ∀ q : Nat, s.heap.size ≤ q → gw_A G s.heap.size q := fun q h => Or.inr h
  have hS : va_S (gw_A G s.heap.size) s.heap s.heap [] := va_S.rf
  have hl := lv_entry ([.ref x]) (n := 4) (Nat.le_of_ble_eq_true rfl)
  rw [lg_entry_eq]
  generalize (lg_sl ([.ref x]) ++ List.replicate (4 - (lg_sl ([.ref x])).length) Slot.unset).toArray = ls at hl ⊢
  have hl : lv_has ls 4 [(0, .ref x)] := hl
  refine lv_aload_n hx hb d_S_survey_0 rfl (lv_at hl 0 rfl) ?_
  refine lv_dup hx hb d_S_survey_1 rfl ?_
  refine va_get (D := D) (ci := 0) (C := "StackRoom") (T := T_S) (N := 10) (v := .int (nI rd)) hx hb ht in_S hown hK.1 (hP.one hR.1) 0 rfl rfl 6 (by decide) (ht _ fl_S_S_round) (fun _ h9 => h9) rfl d_S_survey_2 ?_
  refine lv_iconst (v := 1) hx hb d_S_survey_5 (by decide) ?_
  refine lv_iadd hx hb d_S_survey_6 ?_
  refine gw_put (D := D) (cl := vwCl) (ci := 0) (C := "StackRoom") (T := T_S) (N := 10) (v := .int ((nI rd) + 1)) (ty := .int) hx hb ht in_S ty_S tk_S nm_S hown hK.1 hP hS hR.1 rfl 6 (by decide) (ht _ fl_S_S_round) (fun _ h9 => h9) rfl (by decide +kernel) rfl rfl (Nat.le_of_ble_eq_true rfl) d_S_survey_7 (fun H locs hP hS => ?_)
  obtain ⟨G1, eG1⟩ : ∃ z : gw_G, z = va_up G x (some (.inr (0, [.int (nI w), .int (nI n), .ref ra, .int (nI md), .ref rt, .int rc, .int ((nI rd) + 1), .int wl, .int el, .int cr]))) := ⟨_, rfl⟩
  replace hP : gw_P D vwCl (gw_A G s.heap.size) G1 H := by rw [eG1]; exact hP
  have f1 : G1 x = some (.inr (0, [.int (nI w), .int (nI n), .ref ra, .int (nI md), .ref rt, .int rc, .int ((nI rd) + 1), .int wl, .int el, .int cr])) := by rw [eG1]; exact va_up_self _ _ _
  refine lv_aload_n hx hb d_S_survey_10 rfl (lv_at hl 0 rfl) ?_
  refine lv_iconst (v := 0) hx hb d_S_survey_11 (by decide) ?_
  refine gw_put (D := D) (cl := vwCl) (ci := 0) (C := "StackRoom") (T := T_S) (N := 10) (v := .int 0) (ty := .int) hx hb ht in_S ty_S tk_S nm_S hown hK.1 hP hS f1 rfl 5 (by decide) (ht _ fl_S_S_reachedCount) (fun _ h9 => h9) rfl (by decide +kernel) rfl rfl (Nat.le_of_ble_eq_true rfl) d_S_survey_12 (fun H locs hP hS => ?_)
  obtain ⟨G2, eG2⟩ : ∃ z : gw_G, z = va_up G1 x (some (.inr (0, [.int (nI w), .int (nI n), .ref ra, .int (nI md), .ref rt, .int 0, .int ((nI rd) + 1), .int wl, .int el, .int cr]))) := ⟨_, rfl⟩
  replace hP : gw_P D vwCl (gw_A G s.heap.size) G2 H := by rw [eG2]; exact hP
  have f2 : G2 x = some (.inr (0, [.int (nI w), .int (nI n), .ref ra, .int (nI md), .ref rt, .int 0, .int ((nI rd) + 1), .int wl, .int el, .int cr])) := by rw [eG2]; exact va_up_self _ _ _
  refine lv_aload_n hx hb d_S_survey_15 rfl (lv_at hl 0 rfl) ?_
  refine lv_aload_n hx hb d_S_survey_16 rfl (lv_at hl 0 rfl) ?_
  refine va_get (D := D) (ci := 0) (C := "StackRoom") (T := T_S) (N := 10) (v := .int (nI w)) hx hb ht in_S hown hK.1 (hP.one f2) 0 rfl rfl 0 (by decide) (ht _ fl_S_S_allWords) (fun _ h9 => h9) rfl d_S_survey_17 ?_
  refine lv_bipush (v := 8) hx hb d_S_survey_20 (by decide) ?_
  refine lv_isub hx hb d_S_survey_22 ?_
  refine gw_put (D := D) (cl := vwCl) (ci := 0) (C := "StackRoom") (T := T_S) (N := 10) (v := .int ((nI w) - 8)) (ty := .int) hx hb ht in_S ty_S tk_S nm_S hown hK.1 hP hS f2 rfl 7 (by decide) (ht _ fl_S_S_wordsLeft) (fun _ h9 => h9) rfl (by decide +kernel) rfl rfl (Nat.le_of_ble_eq_true rfl) d_S_survey_23 (fun H locs hP hS => ?_)
  obtain ⟨G3, eG3⟩ : ∃ z : gw_G, z = va_up G2 x (some (.inr (0, [.int (nI w), .int (nI n), .ref ra, .int (nI md), .ref rt, .int 0, .int ((nI rd) + 1), .int ((nI w) - 8), .int el, .int cr]))) := ⟨_, rfl⟩
  replace hP : gw_P D vwCl (gw_A G s.heap.size) G3 H := by rw [eG3]; exact hP
  have f3 : G3 x = some (.inr (0, [.int (nI w), .int (nI n), .ref ra, .int (nI md), .ref rt, .int 0, .int ((nI rd) + 1), .int ((nI w) - 8), .int el, .int cr])) := by rw [eG3]; exact va_up_self _ _ _
  refine lv_aload_n hx hb d_S_survey_26 rfl (lv_at hl 0 rfl) ?_
  refine lv_aload_n hx hb d_S_survey_27 rfl (lv_at hl 0 rfl) ?_
  refine va_get (D := D) (ci := 0) (C := "StackRoom") (T := T_S) (N := 10) (v := .int (nI n)) hx hb ht in_S hown hK.1 (hP.one f3) 0 rfl rfl 1 (by decide) (ht _ fl_S_S_allEntries) (fun _ h9 => h9) rfl d_S_survey_28 ?_
  refine lv_iconst (v := 2) hx hb d_S_survey_31 (by decide) ?_
  refine lv_isub hx hb d_S_survey_32 ?_
  refine gw_put (D := D) (cl := vwCl) (ci := 0) (C := "StackRoom") (T := T_S) (N := 10) (v := .int ((nI n) - 2)) (ty := .int) hx hb ht in_S ty_S tk_S nm_S hown hK.1 hP hS f3 rfl 8 (by decide) (ht _ fl_S_S_entriesLeft) (fun _ h9 => h9) rfl (by decide +kernel) rfl rfl (Nat.le_of_ble_eq_true rfl) d_S_survey_33 (fun H locs hP hS => ?_)
  obtain ⟨G4, eG4⟩ : ∃ z : gw_G, z = va_up G3 x (some (.inr (0, [.int (nI w), .int (nI n), .ref ra, .int (nI md), .ref rt, .int 0, .int ((nI rd) + 1), .int ((nI w) - 8), .int ((nI n) - 2), .int cr]))) := ⟨_, rfl⟩
  replace hP : gw_P D vwCl (gw_A G s.heap.size) G4 H := by rw [eG4]; exact hP
  have f4 : G4 x = some (.inr (0, [.int (nI w), .int (nI n), .ref ra, .int (nI md), .ref rt, .int 0, .int ((nI rd) + 1), .int ((nI w) - 8), .int ((nI n) - 2), .int cr])) := by rw [eG4]; exact va_up_self _ _ _
  refine lv_aload_n hx hb d_S_survey_36 rfl (lv_at hl 0 rfl) ?_
  refine lv_iconst (v := 0) hx hb d_S_survey_37 (by decide) ?_
  refine gw_put (D := D) (cl := vwCl) (ci := 0) (C := "StackRoom") (T := T_S) (N := 10) (v := .int 0) (ty := .int) hx hb ht in_S ty_S tk_S nm_S hown hK.1 hP hS f4 rfl 9 (by decide) (ht _ fl_S_S_contextsReached) (fun _ h9 => h9) rfl (by decide +kernel) rfl rfl (Nat.le_of_ble_eq_true rfl) d_S_survey_38 (fun H locs hP hS => ?_)
  obtain ⟨G5, eG5⟩ : ∃ z : gw_G, z = va_up G4 x (some (.inr (0, [.int (nI w), .int (nI n), .ref ra, .int (nI md), .ref rt, .int 0, .int ((nI rd) + 1), .int ((nI w) - 8), .int ((nI n) - 2), .int 0]))) := ⟨_, rfl⟩
  replace hP : gw_P D vwCl (gw_A G s.heap.size) G5 H := by rw [eG5]; exact hP
  have f5 : G5 x = some (.inr (0, [.int (nI w), .int (nI n), .ref ra, .int (nI md), .ref rt, .int 0, .int ((nI rd) + 1), .int ((nI w) - 8), .int ((nI n) - 2), .int 0])) := by rw [eG5]; exact va_up_self _ _ _
  have hR1 := hR.own (rd' := rd + 1) (md' := md) (rc' := 0) (wl' := nI (w - 8)) (el' := nI (n - 2)) (cr' := 0) (Nat.le_succ rd)
  have e9 : G5 = va_up G x (some (.inr (kS, [.int (nI w), .int (nI n), .ref ra, .int (nI md), .ref rt, .int 0, .int (nI (rd + 1)), .int (nI (w - 8)), .int (nI (n - 2)), .int 0]))) := by
    rw [eG5, eG4, eG3, eG2, eG1, va_up_up, va_up_up, va_up_up, va_up_up, ← nI_1, ← pk_sub (a := w) (b := 8) (by omega), ← pk_sub (a := n) (b := 2) (by omega)]
    rfl
  rw [← e9] at hR1
  have hS1 := c_Srv.start hR hrd hR1
  refine lv_iconst (v := 0) hx hb d_S_survey_41 (by decide) ?_
  refine lv_istore_n (lv' := [(1, .int 0), (0, .ref x)]) hx hb d_S_survey_42 rfl hl (by decide) rfl (fun ls hl => ?_)
  obtain ⟨L, eL⟩ : ∃ z : List Nat, z = [] := ⟨_, rfl⟩
  rw [← eL] at hS1
  obtain ⟨j, ej⟩ : ∃ z : Nat, z = 0 := ⟨_, rfl⟩
  obtain ⟨f, ef⟩ : ∃ z : Nat, z = 16 := ⟨_, rfl⟩
  have inv : 16 ≤ j + f ∧ j ≤ 16 ∧ lv_has ls 4 [(1, .int (nI j)), (0, .ref x)] ∧ gw_P D vwCl (gw_A G s.heap.size) G5 H ∧ va_S (gw_A G s.heap.size) s.heap H locs ∧ c_Srv w n (rd + 1) md cV cT σ x ra rt ad fa fr rr L 0 G5 ∧ s_part σ L ∧ (∀ k, k < j → ∀ a, s_rg σ k = some (.inr a) → a ∈ L) := by
    refine ⟨by omega, by omega, by rw [ej]; exact hl, hP, hS, hS1, by rw [eL]; exact s_part_nil, fun k hk => absurd hk (by omega)⟩
  clear hl hP hS hS1 hR1 e9 eL ej ef f5 eG5
  induction f generalizing j ls H locs G5 L
  case zero =>
    obtain ⟨hf, hjm, hl, hP, hS, hS2, hp2, hrg⟩ := inv
    obtain ⟨ρ2, rf2, hR2, -, -⟩ := id hS2
    refine lv_iload_n hx hb d_S_survey_43 rfl (lv_at hl 0 rfl) ?_
    refine lv_aload_n hx hb d_S_survey_44 rfl (lv_at hl 1 rfl) ?_
    refine va_get (D := D) (ci := 0) (C := "StackRoom") (T := T_S) (N := 10) (v := .ref ra) hx hb ht in_S hown hK.1 (hP.one hR2.1) 0 rfl rfl 2 (by decide) (ht _ fl_S_S_registers) (fun _ h9 => h9) rfl d_S_survey_45 ?_
    refine va_alen (v := nI 16) hx hb hK.1 (hP.one hR2.2.1) 0 0 rfl ht0 rfl d_S_survey_48 ?_
    refine lv_icmp_ge (tgt := 68) hx hb d_S_survey_49 (by decide) (fun cj => ?_) (fun cj => ?_)
    · have hge := (nI_leI (by omega) (by omega)).mp cj
      have hroot : ∀ k, k < 16 → ∀ a, s_rg σ k = some (.inr a) → a ∈ L := fun k hk => hrg k (by omega)
      refine lv_iconst (v := 0) hx hb d_S_survey_68 (by decide) ?_
      refine lv_istore_n (lv' := [(1, .int 0), (0, .ref x)]) hx hb d_S_survey_69 rfl hl (by decide) rfl (fun ls hl => ?_)
      clear hrg hR2 rf2 ρ2 cj
      obtain ⟨cc, ecc⟩ : ∃ z : Int32, z = 0 := ⟨_, rfl⟩
      rw [← ecc] at hS2
      obtain ⟨q, eq⟩ : ∃ z : Nat, z = 0 := ⟨_, rfl⟩
      obtain ⟨g, eg⟩ : ∃ z : Nat, z = n := ⟨_, rfl⟩
      have inv : n ≤ q + g ∧ q ≤ L.length ∧ lv_has ls 4 [(1, .int (nI q)), (0, .ref x)] ∧ gw_P D vwCl (gw_A G s.heap.size) G5 H ∧ va_S (gw_A G s.heap.size) s.heap H locs ∧ c_Srv w n (rd + 1) md cV cT σ x ra rt ad fa fr rr L cc G5 ∧ s_part σ L ∧ (∀ k, k < 16 → ∀ a, s_rg σ k = some (.inr a) → a ∈ L) ∧ cc = nI (s_sum (s_cn σ) (L.take q)) ∧ (∀ k i, k < q → L[k]? = some i → ∀ a, s_edge σ i a → a ∈ L) := by
        refine ⟨by omega, by omega, by rw [eq]; exact lv_sub hl [0, 1] rfl, hP, hS, hS2, hp2, hroot, by rw [eq, ecc]; rfl, fun k i hk => absurd hk (by omega)⟩
      clear hl hP hS hS2 hp2 hroot ecc eq eg hge
      induction g generalizing q ls H locs G5 L cc
      case zero =>
        obtain ⟨hg, hqL, hl, hP, hS, hS2, hp2, hroot, hcc, hed⟩ := inv
        obtain ⟨ρ2, rf2, hR2, hrf, -⟩ := id hS2
        have hle := s_part_len hp2 hO
        refine lv_iload_n hx hb d_S_survey_70 rfl (lv_at hl 0 rfl) ?_
        refine lv_aload_n hx hb d_S_survey_71 rfl (lv_at hl 1 rfl) ?_
        refine va_get (D := D) (ci := 0) (C := "StackRoom") (T := T_S) (N := 10) (v := .int (nI L.length)) hx hb ht in_S hown hK.1 (hP.one hR2.1) 0 rfl rfl 5 (by decide) (ht _ fl_S_S_reachedCount) (fun _ h9 => h9) rfl d_S_survey_72 ?_
        refine lv_icmp_ge (tgt := 127) hx hb d_S_survey_75 (by decide) (fun cq => ?_) (fun cq => ?_)
        · have hq2 : L.length ≤ q := (nI_leI (by omega) (by omega)).mp cq
          have henum : s_enum σ L := s_part_enum hp2 hroot (fun j hj k hk => by
            obtain ⟨a, ha⟩ := List.getElem?_of_mem hj
            exact hed a j (by have := (List.getElem?_eq_some_iff.mp ha).1; omega) ha k hk)
          have e1 : s_sum (s_wd σ) L = s_W σ := s_W_enum hO.1 henum
          have e2 : s_sum (s_en σ) L = s_N σ := s_N_enum hO.1 henum
          have e3 : s_sum (s_cn σ) (L.take q) = s_K σ := by
            rw [List.take_of_length_le hq2]
            exact s_K_enum hO.1 henum
          rw [e1, e2, hcc, e3] at hR2
          exact W.vret hx hb hr (fun t ht hW => ⟨⟨G5, rfl, ⟨ρ2, rf2, _, hR2⟩, g_fin ht hP⟩, hS.F ht⟩) hS.2.2 d_S_survey_127
        · have hlt : q < L.length := Nat.not_le.mp (fun z => cq ((nI_leI (by omega) (by omega)).mpr z))
          omega
      case succ g ih =>
        obtain ⟨hg, hqL, hl, hP, hS, hS2, hp2, hroot, hcc, hed⟩ := inv
        obtain ⟨ρ2, rf2, hR2, hrf, -⟩ := id hS2
        have hle := s_part_len hp2 hO
        refine lv_iload_n hx hb d_S_survey_70 rfl (lv_at hl 0 rfl) ?_
        refine lv_aload_n hx hb d_S_survey_71 rfl (lv_at hl 1 rfl) ?_
        refine va_get (D := D) (ci := 0) (C := "StackRoom") (T := T_S) (N := 10) (v := .int (nI L.length)) hx hb ht in_S hown hK.1 (hP.one hR2.1) 0 rfl rfl 5 (by decide) (ht _ fl_S_S_reachedCount) (fun _ h9 => h9) rfl d_S_survey_72 ?_
        refine lv_icmp_ge (tgt := 127) hx hb d_S_survey_75 (by decide) (fun cq => ?_) (fun cq => ?_)
        · have hq2 : L.length ≤ q := (nI_leI (by omega) (by omega)).mp cq
          have henum : s_enum σ L := s_part_enum hp2 hroot (fun j hj k hk => by
            obtain ⟨a, ha⟩ := List.getElem?_of_mem hj
            exact hed a j (by have := (List.getElem?_eq_some_iff.mp ha).1; omega) ha k hk)
          have e1 : s_sum (s_wd σ) L = s_W σ := s_W_enum hO.1 henum
          have e2 : s_sum (s_en σ) L = s_N σ := s_N_enum hO.1 henum
          have e3 : s_sum (s_cn σ) (L.take q) = s_K σ := by
            rw [List.take_of_length_le hq2]
            exact s_K_enum hO.1 henum
          rw [e1, e2, hcc, e3] at hR2
          exact W.vret hx hb hr (fun t ht hW => ⟨⟨G5, rfl, ⟨ρ2, rf2, _, hR2⟩, g_fin ht hP⟩, hS.F ht⟩) hS.2.2 d_S_survey_127
        · have hlt : q < L.length := Nat.not_le.mp (fun z => cq ((nI_leI (by omega) (by omega)).mpr z))
          refine lv_iload_n hx hb d_S_survey_78 rfl (lv_at hl 0 rfl) ?_
          refine lv_aload_n hx hb d_S_survey_79 rfl (lv_at hl 1 rfl) ?_
          refine va_get (D := D) (ci := 0) (C := "StackRoom") (T := T_S) (N := 10) (v := .ref rt) hx hb ht in_S hown hK.1 (hP.one hR2.1) 0 rfl rfl 4 (by decide) (ht _ fl_S_S_reached) (fun _ h9 => h9) rfl d_S_survey_80 ?_
          refine va_alen (v := nI n) hx hb hK.1 (hP.one hR2.2.2.1) 0 1 rfl ht1 rfl d_S_survey_83 ?_
          refine lv_icmp_ge (tgt := 127) hx hb d_S_survey_84 (by decide) (fun cn => ?_) (fun cn => ?_)
          · exact absurd ((nI_leI (by omega) (by omega)).mp cn) (by omega)
          · obtain ⟨i, hi⟩ : ∃ i, L[q]? = some i := ⟨_, List.getElem?_eq_getElem hlt⟩
            have hri := hp2.2 i (List.mem_of_getElem? hi)
            have hi0 := s_rch_kd hO.1 hri
            refine lv_aload_n hx hb d_S_survey_87 rfl (lv_at hl 1 rfl) ?_
            refine va_get (D := D) (ci := 0) (C := "StackRoom") (T := T_S) (N := 10) (v := .ref rt) hx hb ht in_S hown hK.1 (hP.one hR2.1) 0 rfl rfl 4 (by decide) (ht _ fl_S_S_reached) (fun _ h9 => h9) rfl d_S_survey_88 ?_
            refine lv_iload_n hx hb d_S_survey_91 rfl (lv_at hl 0 rfl) ?_
            refine va_aldq (C := "StackRoom$Thing") hx hb hK.1 (hP.one hR2.2.2.1) 0 1 rfl ht1 (vp_in_nI (by omega) (by omega)) d_S_survey_92 ?_
            rw [nI_clamp (by omega), hrf q i hi]
            rcases (hO.1.2.1 i hi0).2.2 with hj | hj | hj
            · refine lv_astore_n (lv' := [(3, .ref (ad i)), (1, .int (nI q)), (0, .ref x)]) hx hb d_S_survey_93 rfl hl (by decide) rfl (fun ls hl => ?_)
              refine lv_aload_n hx hb d_S_survey_94 rfl (lv_at hl 0 rfl) ?_
              refine va_instNo hx hb hown (ht _ cl_S_C) hK.2.nMC (gw_recv hK.1 hP rfl (hR2.c2 hj)) d_S_survey_95 ?_
              refine lv_if_eq (tgt := 121) hx hb d_S_survey_98 (by decide) (fun _ => ?_) (fun h => absurd h (by decide))
              refine lv_iinc (v := nI (q + 1)) (lv' := [(1, .int (nI (q + 1))), (3, .ref (ad i)), (0, .ref x)]) hx hb d_S_survey_121 hl (k := 1) rfl (by rw [← nI_1]; rfl) (by decide) rfl (fun ls hl => ?_)
              refine lv_goto (tgt := 70) hx hb d_S_survey_124 (by decide) ?_
              refine ih _ _ _ _ _ _ _ ⟨by omega, by omega, lv_sub hl [0, 2] rfl, hP, hS, hS2, hp2, hroot, ?_, fun k b hk hb a ha => ?_⟩
              · have e7 := s_sum_take (f := s_cn σ) (M := []) hi
                rw [List.append_nil] at e7
                rw [e7, hcc, show s_cn σ i = 0 from if_pos hj, Nat.add_zero]
              · by_cases e : k = q
                · subst e
                  rw [hi] at hb
                  cases hb
                  exact absurd ha.1 (fun z => by rcases z with z | z <;> omega)
                · exact hed k b (by omega) hb a ha
            · refine lv_astore_n (lv' := [(3, .ref (ad i)), (1, .int (nI q)), (0, .ref x)]) hx hb d_S_survey_93 rfl hl (by decide) rfl (fun ls hl => ?_)
              refine lv_aload_n hx hb d_S_survey_94 rfl (lv_at hl 0 rfl) ?_
              refine va_instY hx hb hown (ht _ cl_S_C) (hK.2.1 _ ca_X_C) (gw_recv hK.1 hP rfl (hR2.c3 hj)) d_S_survey_95 ?_
              refine lv_if_eq (tgt := 121) hx hb d_S_survey_98 (by decide) (fun h => absurd h (by decide)) (fun _ => ?_)
              refine lv_aload_n hx hb d_S_survey_101 rfl (lv_at hl 0 rfl) ?_
              refine va_castY hx hb hown (ht _ cl_S_C) (hK.2.1 _ ca_X_C) (gw_recv hK.1 hP rfl (hR2.c3 hj)) d_S_survey_102 ?_
              refine lv_astore_n (lv' := [(2, .ref (ad i)), (3, .ref (ad i)), (1, .int (nI q)), (0, .ref x)]) hx hb d_S_survey_105 rfl hl (by decide) rfl (fun ls hl => ?_)
              refine lv_aload_n hx hb d_S_survey_106 rfl (lv_at hl 3 rfl) ?_
              refine lv_dup hx hb d_S_survey_107 rfl ?_
              refine va_get (D := D) (ci := 0) (C := "StackRoom") (T := T_S) (N := 10) (v := .int cc) hx hb ht in_S hown hK.1 (hP.one hR2.1) 0 rfl rfl 9 (by decide) (ht _ fl_S_S_contextsReached) (fun _ h9 => h9) rfl d_S_survey_108 ?_
              refine lv_iconst (v := 1) hx hb d_S_survey_111 (by decide) ?_
              refine lv_iadd hx hb d_S_survey_112 ?_
              refine gw_put (D := D) (cl := vwCl) (ci := 0) (C := "StackRoom") (T := T_S) (N := 10) (v := .int (cc + 1)) (ty := .int) hx hb ht in_S ty_S tk_S nm_S hown hK.1 hP hS hR2.1 rfl 9 (by decide) (ht _ fl_S_S_contextsReached) (fun _ h9 => h9) rfl (by decide +kernel) rfl rfl (Nat.le_of_ble_eq_true rfl) d_S_survey_113 (fun H locs hP hS => ?_)
              obtain ⟨G6, eG6⟩ : ∃ z : gw_G, z = va_up G5 x (some (.inr (0, [.int (nI w), .int (nI n), .ref ra, .int (nI md), .ref rt, .int (nI L.length), .int (nI (rd + 1)), .int (nI (w - 8 - s_sum (s_wd σ) L)), .int (nI (n - 2 - s_sum (s_en σ) L)), .int (cc + 1)]))) := ⟨_, rfl⟩
              replace hP : gw_P D vwCl (gw_A G s.heap.size) G6 H := by rw [eG6]; exact hP
              have f6 : G6 x = some (.inr (0, [.int (nI w), .int (nI n), .ref ra, .int (nI md), .ref rt, .int (nI L.length), .int (nI (rd + 1)), .int (nI (w - 8 - s_sum (s_wd σ) L)), .int (nI (n - 2 - s_sum (s_en σ) L)), .int (cc + 1)])) := by rw [eG6]; exact va_up_self _ _ _
              have hR3 := hR2.own (rd' := rd + 1) (md' := md) (rc' := nI L.length) (wl' := nI (w - 8 - s_sum (s_wd σ) L)) (el' := nI (n - 2 - s_sum (s_en σ) L)) (cr' := cc + 1) (Nat.le_refl _)
              rw [← eG6] at hR3
              have hS3 : c_Srv w n (rd + 1) md cV cT σ x ra rt ad fa fr rr L (cc + 1) G6 := by
                obtain ⟨ρ9, rf9, hR9, h9, h8⟩ := id hS2
                have hR8 := hR9.own (rd' := rd + 1) (md' := md) (rc' := nI L.length) (wl' := nI (w - 8 - s_sum (s_wd σ) L)) (el' := nI (n - 2 - s_sum (s_en σ) L)) (cr' := cc + 1) (Nat.le_refl _)
                rw [← eG6] at hR8
                exact ⟨ρ9, rf9, hR8, h9, h8⟩
              refine lv_aload_n hx hb d_S_survey_116 rfl (lv_at hl 3 rfl) ?_
              refine lv_aload_n hx hb d_S_survey_117 rfl (lv_at hl 0 rfl) ?_
              refine g_callv hP hS hA (r_V (rest := []) C0 [.ref (ad i)] (k_S_reachPartsOf l hS3 hp2 hO hn.2 hm ht0 ht1 (i := i) hri (Or.inl hj)) ml_S_S_reachPartsOf im_S_reachPartsOf se_S_S_reachPartsOf_S ini_S co_S_reachPartsOf ⟨rfl, hd_S_reachPartsOf⟩ (g_preV (ci := 0) hK hP rfl hR3.1) hl.1 d_S_survey_118 rfl rfl (Nat.le_of_ble_eq_true rfl) ⟨rfl, rfl⟩ ⟨Nat.le_of_ble_eq_true rfl, Nat.le_of_ble_eq_true rfl⟩ ⟨Nat.le_of_ble_eq_true rfl, Nat.le_of_ble_eq_true rfl⟩) (fun G7 H locs hS4 hP hS hz9 hk9 => ?_)
              obtain ⟨L2, ⟨M, eM⟩, hp3, hed3, hS4⟩ := hS4
              refine lv_iinc (v := nI (q + 1)) (lv' := [(1, .int (nI (q + 1))), (2, .ref (ad i)), (3, .ref (ad i)), (0, .ref x)]) hx hb d_S_survey_121 hl (k := 2) rfl (by rw [← nI_1]; rfl) (by decide) rfl (fun ls hl => ?_)
              refine lv_goto (tgt := 70) hx hb d_S_survey_124 (by decide) ?_
              have sub : ∀ a, a ∈ L → a ∈ L2 := fun a ha => by rw [eM]; exact List.mem_append_left _ ha
              refine ih _ _ _ _ _ _ _ ⟨by omega, by rw [eM, List.length_append]; omega, lv_sub hl [0, 3] rfl, hP, hS, hS4, hp3, fun k hk a ha => sub a (hroot k hk a ha), ?_, fun k b hk hb a ha => ?_⟩
              · rw [eM, s_sum_take hi, hcc, show s_cn σ i = 1 from if_neg (by omega), nI_1]
              · have hk2 : k < L.length := by omega
                rw [eM, List.getElem?_append_left hk2] at hb
                by_cases e : k = q
                · subst e
                  rw [hi] at hb
                  cases hb
                  exact hed3 a ha
                · exact sub a (hed k b (by omega) hb a ha)
            · refine lv_astore_n (lv' := [(3, .ref (ad i)), (1, .int (nI q)), (0, .ref x)]) hx hb d_S_survey_93 rfl hl (by decide) rfl (fun ls hl => ?_)
              refine lv_aload_n hx hb d_S_survey_94 rfl (lv_at hl 0 rfl) ?_
              refine va_instY hx hb hown (ht _ cl_S_C) (hK.2.1 _ ca_B_C) (gw_recv hK.1 hP rfl (hR2.c4 hj)) d_S_survey_95 ?_
              refine lv_if_eq (tgt := 121) hx hb d_S_survey_98 (by decide) (fun h => absurd h (by decide)) (fun _ => ?_)
              refine lv_aload_n hx hb d_S_survey_101 rfl (lv_at hl 0 rfl) ?_
              refine va_castY hx hb hown (ht _ cl_S_C) (hK.2.1 _ ca_B_C) (gw_recv hK.1 hP rfl (hR2.c4 hj)) d_S_survey_102 ?_
              refine lv_astore_n (lv' := [(2, .ref (ad i)), (3, .ref (ad i)), (1, .int (nI q)), (0, .ref x)]) hx hb d_S_survey_105 rfl hl (by decide) rfl (fun ls hl => ?_)
              refine lv_aload_n hx hb d_S_survey_106 rfl (lv_at hl 3 rfl) ?_
              refine lv_dup hx hb d_S_survey_107 rfl ?_
              refine va_get (D := D) (ci := 0) (C := "StackRoom") (T := T_S) (N := 10) (v := .int cc) hx hb ht in_S hown hK.1 (hP.one hR2.1) 0 rfl rfl 9 (by decide) (ht _ fl_S_S_contextsReached) (fun _ h9 => h9) rfl d_S_survey_108 ?_
              refine lv_iconst (v := 1) hx hb d_S_survey_111 (by decide) ?_
              refine lv_iadd hx hb d_S_survey_112 ?_
              refine gw_put (D := D) (cl := vwCl) (ci := 0) (C := "StackRoom") (T := T_S) (N := 10) (v := .int (cc + 1)) (ty := .int) hx hb ht in_S ty_S tk_S nm_S hown hK.1 hP hS hR2.1 rfl 9 (by decide) (ht _ fl_S_S_contextsReached) (fun _ h9 => h9) rfl (by decide +kernel) rfl rfl (Nat.le_of_ble_eq_true rfl) d_S_survey_113 (fun H locs hP hS => ?_)
              obtain ⟨G7, eG7⟩ : ∃ z : gw_G, z = va_up G5 x (some (.inr (0, [.int (nI w), .int (nI n), .ref ra, .int (nI md), .ref rt, .int (nI L.length), .int (nI (rd + 1)), .int (nI (w - 8 - s_sum (s_wd σ) L)), .int (nI (n - 2 - s_sum (s_en σ) L)), .int (cc + 1)]))) := ⟨_, rfl⟩
              replace hP : gw_P D vwCl (gw_A G s.heap.size) G7 H := by rw [eG7]; exact hP
              have f7 : G7 x = some (.inr (0, [.int (nI w), .int (nI n), .ref ra, .int (nI md), .ref rt, .int (nI L.length), .int (nI (rd + 1)), .int (nI (w - 8 - s_sum (s_wd σ) L)), .int (nI (n - 2 - s_sum (s_en σ) L)), .int (cc + 1)])) := by rw [eG7]; exact va_up_self _ _ _
              have hR3 := hR2.own (rd' := rd + 1) (md' := md) (rc' := nI L.length) (wl' := nI (w - 8 - s_sum (s_wd σ) L)) (el' := nI (n - 2 - s_sum (s_en σ) L)) (cr' := cc + 1) (Nat.le_refl _)
              rw [← eG7] at hR3
              have hS3 : c_Srv w n (rd + 1) md cV cT σ x ra rt ad fa fr rr L (cc + 1) G7 := by
                obtain ⟨ρ9, rf9, hR9, h9, h8⟩ := id hS2
                have hR8 := hR9.own (rd' := rd + 1) (md' := md) (rc' := nI L.length) (wl' := nI (w - 8 - s_sum (s_wd σ) L)) (el' := nI (n - 2 - s_sum (s_en σ) L)) (cr' := cc + 1) (Nat.le_refl _)
                rw [← eG7] at hR8
                exact ⟨ρ9, rf9, hR8, h9, h8⟩
              refine lv_aload_n hx hb d_S_survey_116 rfl (lv_at hl 3 rfl) ?_
              refine lv_aload_n hx hb d_S_survey_117 rfl (lv_at hl 0 rfl) ?_
              refine g_callv hP hS hA (r_V (rest := []) C0 [.ref (ad i)] (k_S_reachPartsOf l hS3 hp2 hO hn.2 hm ht0 ht1 (i := i) hri (Or.inr hj)) ml_S_S_reachPartsOf im_S_reachPartsOf se_S_S_reachPartsOf_S ini_S co_S_reachPartsOf ⟨rfl, hd_S_reachPartsOf⟩ (g_preV (ci := 0) hK hP rfl hR3.1) hl.1 d_S_survey_118 rfl rfl (Nat.le_of_ble_eq_true rfl) ⟨rfl, rfl⟩ ⟨Nat.le_of_ble_eq_true rfl, Nat.le_of_ble_eq_true rfl⟩ ⟨Nat.le_of_ble_eq_true rfl, Nat.le_of_ble_eq_true rfl⟩) (fun G7 H locs hS4 hP hS hz9 hk9 => ?_)
              obtain ⟨L2, ⟨M, eM⟩, hp3, hed3, hS4⟩ := hS4
              refine lv_iinc (v := nI (q + 1)) (lv' := [(1, .int (nI (q + 1))), (2, .ref (ad i)), (3, .ref (ad i)), (0, .ref x)]) hx hb d_S_survey_121 hl (k := 2) rfl (by rw [← nI_1]; rfl) (by decide) rfl (fun ls hl => ?_)
              refine lv_goto (tgt := 70) hx hb d_S_survey_124 (by decide) ?_
              have sub : ∀ a, a ∈ L → a ∈ L2 := fun a ha => by rw [eM]; exact List.mem_append_left _ ha
              refine ih _ _ _ _ _ _ _ ⟨by omega, by rw [eM, List.length_append]; omega, lv_sub hl [0, 3] rfl, hP, hS, hS4, hp3, fun k hk a ha => sub a (hroot k hk a ha), ?_, fun k b hk hb a ha => ?_⟩
              · rw [eM, s_sum_take hi, hcc, show s_cn σ i = 1 from if_neg (by omega), nI_1]
              · have hk2 : k < L.length := by omega
                rw [eM, List.getElem?_append_left hk2] at hb
                by_cases e : k = q
                · subst e
                  rw [hi] at hb
                  cases hb
                  exact hed3 a ha
                · exact sub a (hed k b (by omega) hb a ha)
    · have hlt : j < 16 := Nat.not_le.mp (fun q => cj ((nI_leI (by omega) (by omega)).mpr q))
      omega
  case succ f ih =>
    obtain ⟨hf, hjm, hl, hP, hS, hS2, hp2, hrg⟩ := inv
    obtain ⟨ρ2, rf2, hR2, -, -⟩ := id hS2
    refine lv_iload_n hx hb d_S_survey_43 rfl (lv_at hl 0 rfl) ?_
    refine lv_aload_n hx hb d_S_survey_44 rfl (lv_at hl 1 rfl) ?_
    refine va_get (D := D) (ci := 0) (C := "StackRoom") (T := T_S) (N := 10) (v := .ref ra) hx hb ht in_S hown hK.1 (hP.one hR2.1) 0 rfl rfl 2 (by decide) (ht _ fl_S_S_registers) (fun _ h9 => h9) rfl d_S_survey_45 ?_
    refine va_alen (v := nI 16) hx hb hK.1 (hP.one hR2.2.1) 0 0 rfl ht0 rfl d_S_survey_48 ?_
    refine lv_icmp_ge (tgt := 68) hx hb d_S_survey_49 (by decide) (fun cj => ?_) (fun cj => ?_)
    · have hge := (nI_leI (by omega) (by omega)).mp cj
      have hroot : ∀ k, k < 16 → ∀ a, s_rg σ k = some (.inr a) → a ∈ L := fun k hk => hrg k (by omega)
      refine lv_iconst (v := 0) hx hb d_S_survey_68 (by decide) ?_
      refine lv_istore_n (lv' := [(1, .int 0), (0, .ref x)]) hx hb d_S_survey_69 rfl hl (by decide) rfl (fun ls hl => ?_)
      clear hrg hR2 rf2 ρ2 cj
      obtain ⟨cc, ecc⟩ : ∃ z : Int32, z = 0 := ⟨_, rfl⟩
      rw [← ecc] at hS2
      obtain ⟨q, eq⟩ : ∃ z : Nat, z = 0 := ⟨_, rfl⟩
      obtain ⟨g, eg⟩ : ∃ z : Nat, z = n := ⟨_, rfl⟩
      have inv : n ≤ q + g ∧ q ≤ L.length ∧ lv_has ls 4 [(1, .int (nI q)), (0, .ref x)] ∧ gw_P D vwCl (gw_A G s.heap.size) G5 H ∧ va_S (gw_A G s.heap.size) s.heap H locs ∧ c_Srv w n (rd + 1) md cV cT σ x ra rt ad fa fr rr L cc G5 ∧ s_part σ L ∧ (∀ k, k < 16 → ∀ a, s_rg σ k = some (.inr a) → a ∈ L) ∧ cc = nI (s_sum (s_cn σ) (L.take q)) ∧ (∀ k i, k < q → L[k]? = some i → ∀ a, s_edge σ i a → a ∈ L) := by
        refine ⟨by omega, by omega, by rw [eq]; exact lv_sub hl [0, 1] rfl, hP, hS, hS2, hp2, hroot, by rw [eq, ecc]; rfl, fun k i hk => absurd hk (by omega)⟩
      clear hl hP hS hS2 hp2 hroot ecc eq eg hge
      induction g generalizing q ls H locs G5 L cc
      case zero =>
        obtain ⟨hg, hqL, hl, hP, hS, hS2, hp2, hroot, hcc, hed⟩ := inv
        obtain ⟨ρ2, rf2, hR2, hrf, -⟩ := id hS2
        have hle := s_part_len hp2 hO
        refine lv_iload_n hx hb d_S_survey_70 rfl (lv_at hl 0 rfl) ?_
        refine lv_aload_n hx hb d_S_survey_71 rfl (lv_at hl 1 rfl) ?_
        refine va_get (D := D) (ci := 0) (C := "StackRoom") (T := T_S) (N := 10) (v := .int (nI L.length)) hx hb ht in_S hown hK.1 (hP.one hR2.1) 0 rfl rfl 5 (by decide) (ht _ fl_S_S_reachedCount) (fun _ h9 => h9) rfl d_S_survey_72 ?_
        refine lv_icmp_ge (tgt := 127) hx hb d_S_survey_75 (by decide) (fun cq => ?_) (fun cq => ?_)
        · have hq2 : L.length ≤ q := (nI_leI (by omega) (by omega)).mp cq
          have henum : s_enum σ L := s_part_enum hp2 hroot (fun j hj k hk => by
            obtain ⟨a, ha⟩ := List.getElem?_of_mem hj
            exact hed a j (by have := (List.getElem?_eq_some_iff.mp ha).1; omega) ha k hk)
          have e1 : s_sum (s_wd σ) L = s_W σ := s_W_enum hO.1 henum
          have e2 : s_sum (s_en σ) L = s_N σ := s_N_enum hO.1 henum
          have e3 : s_sum (s_cn σ) (L.take q) = s_K σ := by
            rw [List.take_of_length_le hq2]
            exact s_K_enum hO.1 henum
          rw [e1, e2, hcc, e3] at hR2
          exact W.vret hx hb hr (fun t ht hW => ⟨⟨G5, rfl, ⟨ρ2, rf2, _, hR2⟩, g_fin ht hP⟩, hS.F ht⟩) hS.2.2 d_S_survey_127
        · have hlt : q < L.length := Nat.not_le.mp (fun z => cq ((nI_leI (by omega) (by omega)).mpr z))
          omega
      case succ g ih =>
        obtain ⟨hg, hqL, hl, hP, hS, hS2, hp2, hroot, hcc, hed⟩ := inv
        obtain ⟨ρ2, rf2, hR2, hrf, -⟩ := id hS2
        have hle := s_part_len hp2 hO
        refine lv_iload_n hx hb d_S_survey_70 rfl (lv_at hl 0 rfl) ?_
        refine lv_aload_n hx hb d_S_survey_71 rfl (lv_at hl 1 rfl) ?_
        refine va_get (D := D) (ci := 0) (C := "StackRoom") (T := T_S) (N := 10) (v := .int (nI L.length)) hx hb ht in_S hown hK.1 (hP.one hR2.1) 0 rfl rfl 5 (by decide) (ht _ fl_S_S_reachedCount) (fun _ h9 => h9) rfl d_S_survey_72 ?_
        refine lv_icmp_ge (tgt := 127) hx hb d_S_survey_75 (by decide) (fun cq => ?_) (fun cq => ?_)
        · have hq2 : L.length ≤ q := (nI_leI (by omega) (by omega)).mp cq
          have henum : s_enum σ L := s_part_enum hp2 hroot (fun j hj k hk => by
            obtain ⟨a, ha⟩ := List.getElem?_of_mem hj
            exact hed a j (by have := (List.getElem?_eq_some_iff.mp ha).1; omega) ha k hk)
          have e1 : s_sum (s_wd σ) L = s_W σ := s_W_enum hO.1 henum
          have e2 : s_sum (s_en σ) L = s_N σ := s_N_enum hO.1 henum
          have e3 : s_sum (s_cn σ) (L.take q) = s_K σ := by
            rw [List.take_of_length_le hq2]
            exact s_K_enum hO.1 henum
          rw [e1, e2, hcc, e3] at hR2
          exact W.vret hx hb hr (fun t ht hW => ⟨⟨G5, rfl, ⟨ρ2, rf2, _, hR2⟩, g_fin ht hP⟩, hS.F ht⟩) hS.2.2 d_S_survey_127
        · have hlt : q < L.length := Nat.not_le.mp (fun z => cq ((nI_leI (by omega) (by omega)).mpr z))
          refine lv_iload_n hx hb d_S_survey_78 rfl (lv_at hl 0 rfl) ?_
          refine lv_aload_n hx hb d_S_survey_79 rfl (lv_at hl 1 rfl) ?_
          refine va_get (D := D) (ci := 0) (C := "StackRoom") (T := T_S) (N := 10) (v := .ref rt) hx hb ht in_S hown hK.1 (hP.one hR2.1) 0 rfl rfl 4 (by decide) (ht _ fl_S_S_reached) (fun _ h9 => h9) rfl d_S_survey_80 ?_
          refine va_alen (v := nI n) hx hb hK.1 (hP.one hR2.2.2.1) 0 1 rfl ht1 rfl d_S_survey_83 ?_
          refine lv_icmp_ge (tgt := 127) hx hb d_S_survey_84 (by decide) (fun cn => ?_) (fun cn => ?_)
          · exact absurd ((nI_leI (by omega) (by omega)).mp cn) (by omega)
          · obtain ⟨i, hi⟩ : ∃ i, L[q]? = some i := ⟨_, List.getElem?_eq_getElem hlt⟩
            have hri := hp2.2 i (List.mem_of_getElem? hi)
            have hi0 := s_rch_kd hO.1 hri
            refine lv_aload_n hx hb d_S_survey_87 rfl (lv_at hl 1 rfl) ?_
            refine va_get (D := D) (ci := 0) (C := "StackRoom") (T := T_S) (N := 10) (v := .ref rt) hx hb ht in_S hown hK.1 (hP.one hR2.1) 0 rfl rfl 4 (by decide) (ht _ fl_S_S_reached) (fun _ h9 => h9) rfl d_S_survey_88 ?_
            refine lv_iload_n hx hb d_S_survey_91 rfl (lv_at hl 0 rfl) ?_
            refine va_aldq (C := "StackRoom$Thing") hx hb hK.1 (hP.one hR2.2.2.1) 0 1 rfl ht1 (vp_in_nI (by omega) (by omega)) d_S_survey_92 ?_
            rw [nI_clamp (by omega), hrf q i hi]
            rcases (hO.1.2.1 i hi0).2.2 with hj | hj | hj
            · refine lv_astore_n (lv' := [(3, .ref (ad i)), (1, .int (nI q)), (0, .ref x)]) hx hb d_S_survey_93 rfl hl (by decide) rfl (fun ls hl => ?_)
              refine lv_aload_n hx hb d_S_survey_94 rfl (lv_at hl 0 rfl) ?_
              refine va_instNo hx hb hown (ht _ cl_S_C) hK.2.nMC (gw_recv hK.1 hP rfl (hR2.c2 hj)) d_S_survey_95 ?_
              refine lv_if_eq (tgt := 121) hx hb d_S_survey_98 (by decide) (fun _ => ?_) (fun h => absurd h (by decide))
              refine lv_iinc (v := nI (q + 1)) (lv' := [(1, .int (nI (q + 1))), (3, .ref (ad i)), (0, .ref x)]) hx hb d_S_survey_121 hl (k := 1) rfl (by rw [← nI_1]; rfl) (by decide) rfl (fun ls hl => ?_)
              refine lv_goto (tgt := 70) hx hb d_S_survey_124 (by decide) ?_
              refine ih _ _ _ _ _ _ _ ⟨by omega, by omega, lv_sub hl [0, 2] rfl, hP, hS, hS2, hp2, hroot, ?_, fun k b hk hb a ha => ?_⟩
              · have e7 := s_sum_take (f := s_cn σ) (M := []) hi
                rw [List.append_nil] at e7
                rw [e7, hcc, show s_cn σ i = 0 from if_pos hj, Nat.add_zero]
              · by_cases e : k = q
                · subst e
                  rw [hi] at hb
                  cases hb
                  exact absurd ha.1 (fun z => by rcases z with z | z <;> omega)
                · exact hed k b (by omega) hb a ha
            · refine lv_astore_n (lv' := [(3, .ref (ad i)), (1, .int (nI q)), (0, .ref x)]) hx hb d_S_survey_93 rfl hl (by decide) rfl (fun ls hl => ?_)
              refine lv_aload_n hx hb d_S_survey_94 rfl (lv_at hl 0 rfl) ?_
              refine va_instY hx hb hown (ht _ cl_S_C) (hK.2.1 _ ca_X_C) (gw_recv hK.1 hP rfl (hR2.c3 hj)) d_S_survey_95 ?_
              refine lv_if_eq (tgt := 121) hx hb d_S_survey_98 (by decide) (fun h => absurd h (by decide)) (fun _ => ?_)
              refine lv_aload_n hx hb d_S_survey_101 rfl (lv_at hl 0 rfl) ?_
              refine va_castY hx hb hown (ht _ cl_S_C) (hK.2.1 _ ca_X_C) (gw_recv hK.1 hP rfl (hR2.c3 hj)) d_S_survey_102 ?_
              refine lv_astore_n (lv' := [(2, .ref (ad i)), (3, .ref (ad i)), (1, .int (nI q)), (0, .ref x)]) hx hb d_S_survey_105 rfl hl (by decide) rfl (fun ls hl => ?_)
              refine lv_aload_n hx hb d_S_survey_106 rfl (lv_at hl 3 rfl) ?_
              refine lv_dup hx hb d_S_survey_107 rfl ?_
              refine va_get (D := D) (ci := 0) (C := "StackRoom") (T := T_S) (N := 10) (v := .int cc) hx hb ht in_S hown hK.1 (hP.one hR2.1) 0 rfl rfl 9 (by decide) (ht _ fl_S_S_contextsReached) (fun _ h9 => h9) rfl d_S_survey_108 ?_
              refine lv_iconst (v := 1) hx hb d_S_survey_111 (by decide) ?_
              refine lv_iadd hx hb d_S_survey_112 ?_
              refine gw_put (D := D) (cl := vwCl) (ci := 0) (C := "StackRoom") (T := T_S) (N := 10) (v := .int (cc + 1)) (ty := .int) hx hb ht in_S ty_S tk_S nm_S hown hK.1 hP hS hR2.1 rfl 9 (by decide) (ht _ fl_S_S_contextsReached) (fun _ h9 => h9) rfl (by decide +kernel) rfl rfl (Nat.le_of_ble_eq_true rfl) d_S_survey_113 (fun H locs hP hS => ?_)
              obtain ⟨G8, eG8⟩ : ∃ z : gw_G, z = va_up G5 x (some (.inr (0, [.int (nI w), .int (nI n), .ref ra, .int (nI md), .ref rt, .int (nI L.length), .int (nI (rd + 1)), .int (nI (w - 8 - s_sum (s_wd σ) L)), .int (nI (n - 2 - s_sum (s_en σ) L)), .int (cc + 1)]))) := ⟨_, rfl⟩
              replace hP : gw_P D vwCl (gw_A G s.heap.size) G8 H := by rw [eG8]; exact hP
              have f8 : G8 x = some (.inr (0, [.int (nI w), .int (nI n), .ref ra, .int (nI md), .ref rt, .int (nI L.length), .int (nI (rd + 1)), .int (nI (w - 8 - s_sum (s_wd σ) L)), .int (nI (n - 2 - s_sum (s_en σ) L)), .int (cc + 1)])) := by rw [eG8]; exact va_up_self _ _ _
              have hR3 := hR2.own (rd' := rd + 1) (md' := md) (rc' := nI L.length) (wl' := nI (w - 8 - s_sum (s_wd σ) L)) (el' := nI (n - 2 - s_sum (s_en σ) L)) (cr' := cc + 1) (Nat.le_refl _)
              rw [← eG8] at hR3
              have hS3 : c_Srv w n (rd + 1) md cV cT σ x ra rt ad fa fr rr L (cc + 1) G8 := by
                obtain ⟨ρ9, rf9, hR9, h9, h8⟩ := id hS2
                have hR8 := hR9.own (rd' := rd + 1) (md' := md) (rc' := nI L.length) (wl' := nI (w - 8 - s_sum (s_wd σ) L)) (el' := nI (n - 2 - s_sum (s_en σ) L)) (cr' := cc + 1) (Nat.le_refl _)
                rw [← eG8] at hR8
                exact ⟨ρ9, rf9, hR8, h9, h8⟩
              refine lv_aload_n hx hb d_S_survey_116 rfl (lv_at hl 3 rfl) ?_
              refine lv_aload_n hx hb d_S_survey_117 rfl (lv_at hl 0 rfl) ?_
              refine g_callv hP hS hA (r_V (rest := []) C0 [.ref (ad i)] (k_S_reachPartsOf l hS3 hp2 hO hn.2 hm ht0 ht1 (i := i) hri (Or.inl hj)) ml_S_S_reachPartsOf im_S_reachPartsOf se_S_S_reachPartsOf_S ini_S co_S_reachPartsOf ⟨rfl, hd_S_reachPartsOf⟩ (g_preV (ci := 0) hK hP rfl hR3.1) hl.1 d_S_survey_118 rfl rfl (Nat.le_of_ble_eq_true rfl) ⟨rfl, rfl⟩ ⟨Nat.le_of_ble_eq_true rfl, Nat.le_of_ble_eq_true rfl⟩ ⟨Nat.le_of_ble_eq_true rfl, Nat.le_of_ble_eq_true rfl⟩) (fun G7 H locs hS4 hP hS hz9 hk9 => ?_)
              obtain ⟨L2, ⟨M, eM⟩, hp3, hed3, hS4⟩ := hS4
              refine lv_iinc (v := nI (q + 1)) (lv' := [(1, .int (nI (q + 1))), (2, .ref (ad i)), (3, .ref (ad i)), (0, .ref x)]) hx hb d_S_survey_121 hl (k := 2) rfl (by rw [← nI_1]; rfl) (by decide) rfl (fun ls hl => ?_)
              refine lv_goto (tgt := 70) hx hb d_S_survey_124 (by decide) ?_
              have sub : ∀ a, a ∈ L → a ∈ L2 := fun a ha => by rw [eM]; exact List.mem_append_left _ ha
              refine ih _ _ _ _ _ _ _ ⟨by omega, by rw [eM, List.length_append]; omega, lv_sub hl [0, 3] rfl, hP, hS, hS4, hp3, fun k hk a ha => sub a (hroot k hk a ha), ?_, fun k b hk hb a ha => ?_⟩
              · rw [eM, s_sum_take hi, hcc, show s_cn σ i = 1 from if_neg (by omega), nI_1]
              · have hk2 : k < L.length := by omega
                rw [eM, List.getElem?_append_left hk2] at hb
                by_cases e : k = q
                · subst e
                  rw [hi] at hb
                  cases hb
                  exact hed3 a ha
                · exact sub a (hed k b (by omega) hb a ha)
            · refine lv_astore_n (lv' := [(3, .ref (ad i)), (1, .int (nI q)), (0, .ref x)]) hx hb d_S_survey_93 rfl hl (by decide) rfl (fun ls hl => ?_)
              refine lv_aload_n hx hb d_S_survey_94 rfl (lv_at hl 0 rfl) ?_
              refine va_instY hx hb hown (ht _ cl_S_C) (hK.2.1 _ ca_B_C) (gw_recv hK.1 hP rfl (hR2.c4 hj)) d_S_survey_95 ?_
              refine lv_if_eq (tgt := 121) hx hb d_S_survey_98 (by decide) (fun h => absurd h (by decide)) (fun _ => ?_)
              refine lv_aload_n hx hb d_S_survey_101 rfl (lv_at hl 0 rfl) ?_
              refine va_castY hx hb hown (ht _ cl_S_C) (hK.2.1 _ ca_B_C) (gw_recv hK.1 hP rfl (hR2.c4 hj)) d_S_survey_102 ?_
              refine lv_astore_n (lv' := [(2, .ref (ad i)), (3, .ref (ad i)), (1, .int (nI q)), (0, .ref x)]) hx hb d_S_survey_105 rfl hl (by decide) rfl (fun ls hl => ?_)
              refine lv_aload_n hx hb d_S_survey_106 rfl (lv_at hl 3 rfl) ?_
              refine lv_dup hx hb d_S_survey_107 rfl ?_
              refine va_get (D := D) (ci := 0) (C := "StackRoom") (T := T_S) (N := 10) (v := .int cc) hx hb ht in_S hown hK.1 (hP.one hR2.1) 0 rfl rfl 9 (by decide) (ht _ fl_S_S_contextsReached) (fun _ h9 => h9) rfl d_S_survey_108 ?_
              refine lv_iconst (v := 1) hx hb d_S_survey_111 (by decide) ?_
              refine lv_iadd hx hb d_S_survey_112 ?_
              refine gw_put (D := D) (cl := vwCl) (ci := 0) (C := "StackRoom") (T := T_S) (N := 10) (v := .int (cc + 1)) (ty := .int) hx hb ht in_S ty_S tk_S nm_S hown hK.1 hP hS hR2.1 rfl 9 (by decide) (ht _ fl_S_S_contextsReached) (fun _ h9 => h9) rfl (by decide +kernel) rfl rfl (Nat.le_of_ble_eq_true rfl) d_S_survey_113 (fun H locs hP hS => ?_)
              obtain ⟨G9, eG9⟩ : ∃ z : gw_G, z = va_up G5 x (some (.inr (0, [.int (nI w), .int (nI n), .ref ra, .int (nI md), .ref rt, .int (nI L.length), .int (nI (rd + 1)), .int (nI (w - 8 - s_sum (s_wd σ) L)), .int (nI (n - 2 - s_sum (s_en σ) L)), .int (cc + 1)]))) := ⟨_, rfl⟩
              replace hP : gw_P D vwCl (gw_A G s.heap.size) G9 H := by rw [eG9]; exact hP
              have f9 : G9 x = some (.inr (0, [.int (nI w), .int (nI n), .ref ra, .int (nI md), .ref rt, .int (nI L.length), .int (nI (rd + 1)), .int (nI (w - 8 - s_sum (s_wd σ) L)), .int (nI (n - 2 - s_sum (s_en σ) L)), .int (cc + 1)])) := by rw [eG9]; exact va_up_self _ _ _
              have hR3 := hR2.own (rd' := rd + 1) (md' := md) (rc' := nI L.length) (wl' := nI (w - 8 - s_sum (s_wd σ) L)) (el' := nI (n - 2 - s_sum (s_en σ) L)) (cr' := cc + 1) (Nat.le_refl _)
              rw [← eG9] at hR3
              have hS3 : c_Srv w n (rd + 1) md cV cT σ x ra rt ad fa fr rr L (cc + 1) G9 := by
                obtain ⟨ρ9, rf9, hR9, h9, h8⟩ := id hS2
                have hR8 := hR9.own (rd' := rd + 1) (md' := md) (rc' := nI L.length) (wl' := nI (w - 8 - s_sum (s_wd σ) L)) (el' := nI (n - 2 - s_sum (s_en σ) L)) (cr' := cc + 1) (Nat.le_refl _)
                rw [← eG9] at hR8
                exact ⟨ρ9, rf9, hR8, h9, h8⟩
              refine lv_aload_n hx hb d_S_survey_116 rfl (lv_at hl 3 rfl) ?_
              refine lv_aload_n hx hb d_S_survey_117 rfl (lv_at hl 0 rfl) ?_
              refine g_callv hP hS hA (r_V (rest := []) C0 [.ref (ad i)] (k_S_reachPartsOf l hS3 hp2 hO hn.2 hm ht0 ht1 (i := i) hri (Or.inr hj)) ml_S_S_reachPartsOf im_S_reachPartsOf se_S_S_reachPartsOf_S ini_S co_S_reachPartsOf ⟨rfl, hd_S_reachPartsOf⟩ (g_preV (ci := 0) hK hP rfl hR3.1) hl.1 d_S_survey_118 rfl rfl (Nat.le_of_ble_eq_true rfl) ⟨rfl, rfl⟩ ⟨Nat.le_of_ble_eq_true rfl, Nat.le_of_ble_eq_true rfl⟩ ⟨Nat.le_of_ble_eq_true rfl, Nat.le_of_ble_eq_true rfl⟩) (fun G7 H locs hS4 hP hS hz9 hk9 => ?_)
              obtain ⟨L2, ⟨M, eM⟩, hp3, hed3, hS4⟩ := hS4
              refine lv_iinc (v := nI (q + 1)) (lv' := [(1, .int (nI (q + 1))), (2, .ref (ad i)), (3, .ref (ad i)), (0, .ref x)]) hx hb d_S_survey_121 hl (k := 2) rfl (by rw [← nI_1]; rfl) (by decide) rfl (fun ls hl => ?_)
              refine lv_goto (tgt := 70) hx hb d_S_survey_124 (by decide) ?_
              have sub : ∀ a, a ∈ L → a ∈ L2 := fun a ha => by rw [eM]; exact List.mem_append_left _ ha
              refine ih _ _ _ _ _ _ _ ⟨by omega, by rw [eM, List.length_append]; omega, lv_sub hl [0, 3] rfl, hP, hS, hS4, hp3, fun k hk a ha => sub a (hroot k hk a ha), ?_, fun k b hk hb a ha => ?_⟩
              · rw [eM, s_sum_take hi, hcc, show s_cn σ i = 1 from if_neg (by omega), nI_1]
              · have hk2 : k < L.length := by omega
                rw [eM, List.getElem?_append_left hk2] at hb
                by_cases e : k = q
                · subst e
                  rw [hi] at hb
                  cases hb
                  exact hed3 a ha
                · exact sub a (hed k b (by omega) hb a ha)
    · have hlt : j < 16 := Nat.not_le.mp (fun q => cj ((nI_leI (by omega) (by omega)).mpr q))
      refine lv_aload_n hx hb d_S_survey_52 rfl (lv_at hl 1 rfl) ?_
      refine lv_aload_n hx hb d_S_survey_53 rfl (lv_at hl 1 rfl) ?_
      refine va_get (D := D) (ci := 0) (C := "StackRoom") (T := T_S) (N := 10) (v := .ref ra) hx hb ht in_S hown hK.1 (hP.one hR2.1) 0 rfl rfl 2 (by decide) (ht _ fl_S_S_registers) (fun _ h9 => h9) rfl d_S_survey_54 ?_
      refine lv_iload_n hx hb d_S_survey_57 rfl (lv_at hl 0 rfl) ?_
      refine va_aldq (C := "StackRoom$Value") hx hb hK.1 (hP.one hR2.2.1) 0 0 rfl ht0 (vp_in_nI hlt (by omega)) d_S_survey_58 ?_
      rw [nI_clamp (by omega)]
      have hv3 : ∀ a, s_rg σ j = some (.inr a) → s_rch σ a := fun a e => s_rch_root hlt e
      refine g_callv hP hS hA (r_V (rest := []) C0 [va_rf (rr j)] (k_S_reach l hS2 hp2 hO hn.2 hm ht0 ht1 (v := s_rg σ j) hv3 (hR2.2.2.2.2.1 j hlt)) ml_S_S_reach im_S_reach se_S_S_reach_S ini_S co_S_reach ⟨rfl, hd_S_reach⟩ (g_preV (ci := 0) hK hP rfl hR2.1) hl.1 d_S_survey_59 rfl rfl (Nat.le_of_ble_eq_true rfl) ⟨rfl, rfl⟩ ⟨Nat.le_of_ble_eq_true rfl, Nat.le_of_ble_eq_true rfl⟩ ⟨Nat.le_of_ble_eq_true rfl, Nat.le_of_ble_eq_true rfl⟩) (fun G6 H locs hS3 hP hS hz9 hk9 => ?_)
      refine lv_iinc (v := nI (j + 1)) (lv' := [(1, .int (nI (j + 1))), (0, .ref x)]) hx hb d_S_survey_62 hl (k := 0) rfl (by rw [← nI_1]; rfl) (by decide) rfl (fun ls hl => ?_)
      refine lv_goto (tgt := 43) hx hb d_S_survey_65 (by decide) ?_
      refine ih _ _ _ _ _ _ ⟨by omega, by omega, lv_sub hl [0, 1] rfl, hP, hS, hS3, s_part_add hp2 hv3, fun k hk a ha => ?_⟩
      by_cases e : k = j
      · subst e
        rw [ha]
        exact s_add_in
      · exact s_add_sub (hrg k (by omega) a ha)
set_option maxHeartbeats 4000000 in
set_option maxRecDepth 100000 in
theorem k_S_words (l : Launch) (hR : c_Rep w n rd md cV cT σ x ra rt ad fa ρ fr rr rf rc wl el cr G) (hO : s_OK w n σ) (hw : 128 ≤ w ∧ w ≤ 32768) (hn : 16 ≤ n ∧ n ≤ 4096) (hm : s_md σ < 2 ^ 31) (hrd : rd + 1 < 2 ^ 31) (ht0 : tys[0]? = some (cV, .object "StackRoom$Value")) (ht1 : tys[1]? = some (cT, .object "StackRoom$Thing")) : Met l y_S_words w_S_words ({ frames := 5, cells := 0, slots := 0, locals := 107 }) (g_pre D tys G sz [.ref x]) (va_Qi (fun (rz : Int32) (G1 : gw_G) => rz = p_words w σ ∧ ∃ ρ2 rf2 rc2, c_Rep w n (rd + 1) md cV cT σ x ra rt ad fa ρ2 fr rr rf2 rc2 (nI (w - 8 - s_W σ)) (nI (n - 2 - s_N σ)) (nI (s_K σ)) G1) (g_end D G sz) (gw_A G sz)) 0 0 (gw_A G sz) := by
  refine Met.ofW (cc := b_S_words) (maxL := 1) (ret := (some .int)) (by decide) rfl ?_
  intro p e s m args below meth c s₁ B hml hv
  obtain ⟨rfl, hsz, hP, hK⟩ := hv
  have hx := B.exec
  have hb := B.bytes
  have hr := B.returns
  have ht := fun w (hw : w ∈ gt) => atoms_spec (ws := w_S_words) B.pre w (List.mem_cons_of_mem _ hw)
  have hown : s.vm.findClass "StackRoom" = some m.cls := findClass_of_methodNamed B.named
  have hlocks := B.notSynchronized
  have C0 : CallFix p m c b_S_words 1 s [.ref x].toArray gt "StackRoom" := ⟨hx, hb, hml, hown, ht⟩
  subst hsz
  have hP := hP.self (sz := s.heap.size)
  have hA : ∀ q : Nat, s.heap.size ≤ q → gw_A G s.heap.size q := fun q h => Or.inr h
  have hS : va_S (gw_A G s.heap.size) s.heap s.heap [] := va_S.rf
  have hl := lv_entry ([.ref x]) (n := 1) (Nat.le_of_ble_eq_true rfl)
  rw [lg_entry_eq]
  generalize (lg_sl ([.ref x]) ++ List.replicate (1 - (lg_sl ([.ref x])).length) Slot.unset).toArray = ls at hl ⊢
  have hl : lv_has ls 1 [(0, .ref x)] := hl
  refine lv_aload_n hx hb d_S_words_0 rfl (lv_at hl 0 rfl) ?_
  refine g_callv hP hS hA (r_V (rest := []) C0 [] (k_S_survey l hR hO hw hn hm hrd ht0 ht1) ml_S_S_survey im_S_survey se_S_S_survey_S ini_S co_S_survey ⟨rfl, hd_S_survey⟩ (g_preV (ci := 0) hK hP rfl hR.1) hl.1 d_S_words_1 rfl rfl (Nat.le_of_ble_eq_true rfl) ⟨rfl, rfl⟩ ⟨Nat.le_of_ble_eq_true rfl, Nat.le_of_ble_eq_true rfl⟩ ⟨Nat.le_of_ble_eq_true rfl, Nat.le_of_ble_eq_true rfl⟩) (fun G1 H locs hR1 hP hS hz9 hk9 => ?_)
  obtain ⟨ρ2, rf2, rc2, hR1⟩ := hR1
  refine lv_aload_n hx hb d_S_words_4 rfl (lv_at hl 0 rfl) ?_
  refine va_get (D := D) (ci := 0) (C := "StackRoom") (T := T_S) (N := 10) (v := .int (nI (w - 8 - s_W σ))) hx hb ht in_S hown hK.1 (hP.one hR1.1) 0 rfl rfl 7 (by decide) (ht _ fl_S_S_wordsLeft) (fun _ h9 => h9) rfl d_S_words_5 ?_
  exact W.iret (v := (nI (w - 8 - s_W σ))) hx hb hr (fun t ht hW => ⟨⟨_, G1, rfl, ⟨rfl, ρ2, rf2, rc2, hR1⟩, g_fin ht hP⟩, hS.F ht⟩) hS.2.2 d_S_words_8
set_option maxHeartbeats 4000000 in
set_option maxRecDepth 100000 in
theorem k_S_entries (l : Launch) (hR : c_Rep w n rd md cV cT σ x ra rt ad fa ρ fr rr rf rc wl el cr G) (hO : s_OK w n σ) (hw : 128 ≤ w ∧ w ≤ 32768) (hn : 16 ≤ n ∧ n ≤ 4096) (hm : s_md σ < 2 ^ 31) (hrd : rd + 1 < 2 ^ 31) (ht0 : tys[0]? = some (cV, .object "StackRoom$Value")) (ht1 : tys[1]? = some (cT, .object "StackRoom$Thing")) : Met l y_S_entries w_S_entries ({ frames := 5, cells := 0, slots := 0, locals := 107 }) (g_pre D tys G sz [.ref x]) (va_Qi (fun (rz : Int32) (G1 : gw_G) => rz = p_entries n σ ∧ ∃ ρ2 rf2 rc2, c_Rep w n (rd + 1) md cV cT σ x ra rt ad fa ρ2 fr rr rf2 rc2 (nI (w - 8 - s_W σ)) (nI (n - 2 - s_N σ)) (nI (s_K σ)) G1) (g_end D G sz) (gw_A G sz)) 0 0 (gw_A G sz) := by
  refine Met.ofW (cc := b_S_entries) (maxL := 1) (ret := (some .int)) (by decide) rfl ?_
  intro p e s m args below meth c s₁ B hml hv
  obtain ⟨rfl, hsz, hP, hK⟩ := hv
  have hx := B.exec
  have hb := B.bytes
  have hr := B.returns
  have ht := fun w (hw : w ∈ gt) => atoms_spec (ws := w_S_entries) B.pre w (List.mem_cons_of_mem _ hw)
  have hown : s.vm.findClass "StackRoom" = some m.cls := findClass_of_methodNamed B.named
  have hlocks := B.notSynchronized
  have C0 : CallFix p m c b_S_entries 1 s [.ref x].toArray gt "StackRoom" := ⟨hx, hb, hml, hown, ht⟩
  subst hsz
  have hP := hP.self (sz := s.heap.size)
  have hA : ∀ q : Nat, s.heap.size ≤ q → gw_A G s.heap.size q := fun q h => Or.inr h
  have hS : va_S (gw_A G s.heap.size) s.heap s.heap [] := va_S.rf
  have hl := lv_entry ([.ref x]) (n := 1) (Nat.le_of_ble_eq_true rfl)
  rw [lg_entry_eq]
  generalize (lg_sl ([.ref x]) ++ List.replicate (1 - (lg_sl ([.ref x])).length) Slot.unset).toArray = ls at hl ⊢
  have hl : lv_has ls 1 [(0, .ref x)] := hl
  refine lv_aload_n hx hb d_S_entries_0 rfl (lv_at hl 0 rfl) ?_
  refine g_callv hP hS hA (r_V (rest := []) C0 [] (k_S_survey l hR hO hw hn hm hrd ht0 ht1) ml_S_S_survey im_S_survey se_S_S_survey_S ini_S co_S_survey ⟨rfl, hd_S_survey⟩ (g_preV (ci := 0) hK hP rfl hR.1) hl.1 d_S_entries_1 rfl rfl (Nat.le_of_ble_eq_true rfl) ⟨rfl, rfl⟩ ⟨Nat.le_of_ble_eq_true rfl, Nat.le_of_ble_eq_true rfl⟩ ⟨Nat.le_of_ble_eq_true rfl, Nat.le_of_ble_eq_true rfl⟩) (fun G1 H locs hR1 hP hS hz9 hk9 => ?_)
  obtain ⟨ρ2, rf2, rc2, hR1⟩ := hR1
  refine lv_aload_n hx hb d_S_entries_4 rfl (lv_at hl 0 rfl) ?_
  refine va_get (D := D) (ci := 0) (C := "StackRoom") (T := T_S) (N := 10) (v := .int (nI (n - 2 - s_N σ))) hx hb ht in_S hown hK.1 (hP.one hR1.1) 0 rfl rfl 8 (by decide) (ht _ fl_S_S_entriesLeft) (fun _ h9 => h9) rfl d_S_entries_5 ?_
  exact W.iret (v := (nI (n - 2 - s_N σ))) hx hb hr (fun t ht hW => ⟨⟨_, G1, rfl, ⟨rfl, ρ2, rf2, rc2, hR1⟩, g_fin ht hP⟩, hS.F ht⟩) hS.2.2 d_S_entries_8
set_option maxHeartbeats 4000000 in
set_option maxRecDepth 100000 in
theorem k_S_contexts (l : Launch) (hR : c_Rep w n rd md cV cT σ x ra rt ad fa ρ fr rr rf rc wl el cr G) (hO : s_OK w n σ) (hw : 128 ≤ w ∧ w ≤ 32768) (hn : 16 ≤ n ∧ n ≤ 4096) (hm : s_md σ < 2 ^ 31) (hrd : rd + 1 < 2 ^ 31) (ht0 : tys[0]? = some (cV, .object "StackRoom$Value")) (ht1 : tys[1]? = some (cT, .object "StackRoom$Thing")) : Met l y_S_contexts w_S_contexts ({ frames := 5, cells := 0, slots := 0, locals := 107 }) (g_pre D tys G sz [.ref x]) (va_Qi (fun (rz : Int32) (G1 : gw_G) => rz = p_contexts σ ∧ ∃ ρ2 rf2 rc2, c_Rep w n (rd + 1) md cV cT σ x ra rt ad fa ρ2 fr rr rf2 rc2 (nI (w - 8 - s_W σ)) (nI (n - 2 - s_N σ)) (nI (s_K σ)) G1) (g_end D G sz) (gw_A G sz)) 0 0 (gw_A G sz) := by
  refine Met.ofW (cc := b_S_contexts) (maxL := 1) (ret := (some .int)) (by decide) rfl ?_
  intro p e s m args below meth c s₁ B hml hv
  obtain ⟨rfl, hsz, hP, hK⟩ := hv
  have hx := B.exec
  have hb := B.bytes
  have hr := B.returns
  have ht := fun w (hw : w ∈ gt) => atoms_spec (ws := w_S_contexts) B.pre w (List.mem_cons_of_mem _ hw)
  have hown : s.vm.findClass "StackRoom" = some m.cls := findClass_of_methodNamed B.named
  have hlocks := B.notSynchronized
  have C0 : CallFix p m c b_S_contexts 1 s [.ref x].toArray gt "StackRoom" := ⟨hx, hb, hml, hown, ht⟩
  subst hsz
  have hP := hP.self (sz := s.heap.size)
  have hA : ∀ q : Nat, s.heap.size ≤ q → gw_A G s.heap.size q := fun q h => Or.inr h
  have hS : va_S (gw_A G s.heap.size) s.heap s.heap [] := va_S.rf
  have hl := lv_entry ([.ref x]) (n := 1) (Nat.le_of_ble_eq_true rfl)
  rw [lg_entry_eq]
  generalize (lg_sl ([.ref x]) ++ List.replicate (1 - (lg_sl ([.ref x])).length) Slot.unset).toArray = ls at hl ⊢
  have hl : lv_has ls 1 [(0, .ref x)] := hl
  refine lv_aload_n hx hb d_S_contexts_0 rfl (lv_at hl 0 rfl) ?_
  refine g_callv hP hS hA (r_V (rest := []) C0 [] (k_S_survey l hR hO hw hn hm hrd ht0 ht1) ml_S_S_survey im_S_survey se_S_S_survey_S ini_S co_S_survey ⟨rfl, hd_S_survey⟩ (g_preV (ci := 0) hK hP rfl hR.1) hl.1 d_S_contexts_1 rfl rfl (Nat.le_of_ble_eq_true rfl) ⟨rfl, rfl⟩ ⟨Nat.le_of_ble_eq_true rfl, Nat.le_of_ble_eq_true rfl⟩ ⟨Nat.le_of_ble_eq_true rfl, Nat.le_of_ble_eq_true rfl⟩) (fun G1 H locs hR1 hP hS hz9 hk9 => ?_)
  obtain ⟨ρ2, rf2, rc2, hR1⟩ := hR1
  refine lv_aload_n hx hb d_S_contexts_4 rfl (lv_at hl 0 rfl) ?_
  refine va_get (D := D) (ci := 0) (C := "StackRoom") (T := T_S) (N := 10) (v := .int (nI (s_K σ))) hx hb ht in_S hown hK.1 (hP.one hR1.1) 0 rfl rfl 9 (by decide) (ht _ fl_S_S_contextsReached) (fun _ h9 => h9) rfl d_S_contexts_5 ?_
  exact W.iret (v := (nI (s_K σ))) hx hb hr (fun t ht hW => ⟨⟨_, G1, rfl, ⟨rfl, ρ2, rf2, rc2, hR1⟩, g_fin ht hP⟩, hS.F ht⟩) hS.2.2 d_S_contexts_8
set_option maxHeartbeats 4000000 in
set_option maxRecDepth 100000 in
theorem k_S_canBeMade (l : Launch) (hR : c_Rep w n rd md cV cT σ x ra rt ad fa ρ fr rr rf rc wl el cr G) (hO : s_OK w n σ) (hw : 128 ≤ w ∧ w ≤ 32768) (hn : 16 ≤ n ∧ n ≤ 4096) (hm : s_md σ < 2 ^ 31) (hrd : rd + 1 < 2 ^ 31) (ht0 : tys[0]? = some (cV, .object "StackRoom$Value")) (ht1 : tys[1]? = some (cT, .object "StackRoom$Thing")) {a b : Nat} (ha : a < 1000) (hb0 : b < 1000) : Met l y_S_canBeMade w_S_canBeMade ({ frames := 5, cells := 0, slots := 0, locals := 107 }) (g_pre D tys G sz [.ref x, .int (nI a), .int (nI b)]) (va_Qi (fun (rz : Int32) (G1 : gw_G) => rz = (if a + s_W σ + 8 ≤ w ∧ b + s_N σ + 2 ≤ n then 1 else 0) ∧ ∃ ρ2 rf2 rc2, c_Rep w n (rd + 1) md cV cT σ x ra rt ad fa ρ2 fr rr rf2 rc2 (nI (w - 8 - s_W σ)) (nI (n - 2 - s_N σ)) (nI (s_K σ)) G1) (g_end D G sz) (gw_A G sz)) 0 0 (gw_A G sz) := by
  refine Met.ofW (cc := b_S_canBeMade) (maxL := 3) (ret := (some .boolean)) (by decide) rfl ?_
  intro p e s m args below meth c s₁ B hml hv
  obtain ⟨rfl, hsz, hP, hK⟩ := hv
  have hx := B.exec
  have hb := B.bytes
  have hr := B.returns
  have ht := fun w (hw : w ∈ gt) => atoms_spec (ws := w_S_canBeMade) B.pre w (List.mem_cons_of_mem _ hw)
  have hown : s.vm.findClass "StackRoom" = some m.cls := findClass_of_methodNamed B.named
  have hlocks := B.notSynchronized
  have C0 : CallFix p m c b_S_canBeMade 3 s [.ref x, .int (nI a), .int (nI b)].toArray gt "StackRoom" := ⟨hx, hb, hml, hown, ht⟩
  subst hsz
  have hP := hP.self (sz := s.heap.size)
  have hA : ∀ q : Nat, s.heap.size ≤ q → gw_A G s.heap.size q := fun q h => Or.inr h
  have hS : va_S (gw_A G s.heap.size) s.heap s.heap [] := va_S.rf
  have hl := lv_entry ([.ref x, .int (nI a), .int (nI b)]) (n := 3) (Nat.le_of_ble_eq_true rfl)
  rw [lg_entry_eq]
  generalize (lg_sl ([.ref x, .int (nI a), .int (nI b)]) ++ List.replicate (3 - (lg_sl ([.ref x, .int (nI a), .int (nI b)])).length) Slot.unset).toArray = ls at hl ⊢
  have hl : lv_has ls 3 [(0, .ref x), (1, .int (nI a)), (2, .int (nI b))] := hl
  refine lv_aload_n hx hb d_S_canBeMade_0 rfl (lv_at hl 0 rfl) ?_
  refine g_callv hP hS hA (r_V (rest := []) C0 [] (k_S_survey l hR hO hw hn hm hrd ht0 ht1) ml_S_S_survey im_S_survey se_S_S_survey_S ini_S co_S_survey ⟨rfl, hd_S_survey⟩ (g_preV (ci := 0) hK hP rfl hR.1) hl.1 d_S_canBeMade_1 rfl rfl (Nat.le_of_ble_eq_true rfl) ⟨rfl, rfl⟩ ⟨Nat.le_of_ble_eq_true rfl, Nat.le_of_ble_eq_true rfl⟩ ⟨Nat.le_of_ble_eq_true rfl, Nat.le_of_ble_eq_true rfl⟩) (fun G1 H locs hR1 hP hS hz9 hk9 => ?_)
  obtain ⟨ρ2, rf2, rc2, hR1⟩ := hR1
  have h1 := hO.2.1
  have h2 := hO.2.2
  refine lv_iload_n hx hb d_S_canBeMade_4 rfl (lv_at hl 1 rfl) ?_
  refine lv_aload_n hx hb d_S_canBeMade_5 rfl (lv_at hl 0 rfl) ?_
  refine va_get (D := D) (ci := 0) (C := "StackRoom") (T := T_S) (N := 10) (v := .int (nI (w - 8 - s_W σ))) hx hb ht in_S hown hK.1 (hP.one hR1.1) 0 rfl rfl 7 (by decide) (ht _ fl_S_S_wordsLeft) (fun _ h9 => h9) rfl d_S_canBeMade_6 ?_
  refine lv_icmp_gt (tgt := 24) hx hb d_S_canBeMade_9 (by decide) (fun ca => ?_) (fun ca => ?_)
  · refine lv_iconst (v := 0) hx hb d_S_canBeMade_24 (by decide) ?_
    exact W.zret (v := 0) hx hb hr rfl (fun t ht hW => ⟨⟨_, G1, rfl, ⟨by rw [if_neg (fun q => absurd ((nI_ltI (by omega) (by omega)).mp ca) (by omega))], ρ2, rf2, rc2, hR1⟩, g_fin ht hP⟩, hS.F ht⟩) hS.2.2 d_S_canBeMade_25
  · refine lv_iload_n hx hb d_S_canBeMade_12 rfl (lv_at hl 2 rfl) ?_
    refine lv_aload_n hx hb d_S_canBeMade_13 rfl (lv_at hl 0 rfl) ?_
    refine va_get (D := D) (ci := 0) (C := "StackRoom") (T := T_S) (N := 10) (v := .int (nI (n - 2 - s_N σ))) hx hb ht in_S hown hK.1 (hP.one hR1.1) 0 rfl rfl 8 (by decide) (ht _ fl_S_S_entriesLeft) (fun _ h9 => h9) rfl d_S_canBeMade_14 ?_
    refine lv_icmp_gt (tgt := 24) hx hb d_S_canBeMade_17 (by decide) (fun cb => ?_) (fun cb => ?_)
    · refine lv_iconst (v := 0) hx hb d_S_canBeMade_24 (by decide) ?_
      exact W.zret (v := 0) hx hb hr rfl (fun t ht hW => ⟨⟨_, G1, rfl, ⟨by rw [if_neg (fun q => absurd ((nI_ltI (by omega) (by omega)).mp cb) (by omega))], ρ2, rf2, rc2, hR1⟩, g_fin ht hP⟩, hS.F ht⟩) hS.2.2 d_S_canBeMade_25
    · refine lv_iconst (v := 1) hx hb d_S_canBeMade_20 (by decide) ?_
      refine lv_goto (tgt := 25) hx hb d_S_canBeMade_21 (by decide) ?_
      exact W.zret (v := 1) hx hb hr rfl (fun t ht hW => ⟨⟨_, G1, rfl, ⟨by rw [if_pos ⟨by have := Nat.not_lt.mp (fun q => ca ((nI_ltI (by omega) (by omega)).mpr q)); omega, by have := Nat.not_lt.mp (fun q => cb ((nI_ltI (by omega) (by omega)).mpr q)); omega⟩], ρ2, rf2, rc2, hR1⟩, g_fin ht hP⟩, hS.F ht⟩) hS.2.2 d_S_canBeMade_25
end K17
end
section
/-- the class's cells hold the state σ; at most k surveys were made -/
def c_R (w n k : Nat) (cV cT : ClassId) (σ : sS) (x : Nat) (G : gw_G) : Prop :=
  ∃ (rd ra rt : Nat) (ad fa : Nat → Nat) (ρ : Nat → Int32) (fr : Nat → Nat → Option Nat) (rr rf : Nat → Option Nat) (rc wl el cr : Int32), rd ≤ k ∧ c_Rep w n rd (s_md σ) cV cT σ x ra rt ad fa ρ fr rr rf rc wl el cr G
theorem c_R.up {w n k : Nat} {cV cT : ClassId} {σ : sS} {x : Nat} {G : gw_G} (h : c_R w n k cV cT σ x G) : c_R w n (k + 1) cV cT σ x G := by
  obtain ⟨rd, ra, rt, ad, fa, ρ, fr, rr, rf, rc, wl, el, cr, hrd, hR⟩ := h
  exact ⟨rd, ra, rt, ad, fa, ρ, fr, rr, rf, rc, wl, el, cr, by omega, hR⟩
theorem s_clampI {v : Int32} (h : 0 ≤ v) : nI v.toNatClampNeg = v := by
  obtain ⟨j, hj, rfl⟩ := nI_of (x := v) (fun q => absurd h (Int32.not_le.mpr q))
  rw [nI_clamp hj]
section K18
variable {w n k : Nat} {cV cT : ClassId} {σ : sS} {x : Nat} {G : gw_G} {D : va_G} {tys : List (ClassId × FieldType)} {sz : Nat}
set_option maxHeartbeats 4000000 in
set_option maxRecDepth 100000 in
theorem k_S_number (l : Launch) (hR0 : c_R w n k cV cT σ x G) (hO : s_OK w n σ) (hw : 128 ≤ w ∧ w ≤ 32768) (hn : 16 ≤ n ∧ n ≤ 4096) (hm : s_md σ + 2 < 2 ^ 31) (hk : k + 1 < 2 ^ 31) (ht0 : tys[0]? = some (cV, .object "StackRoom$Value")) (ht1 : tys[1]? = some (cT, .object "StackRoom$Thing")) (r v : Int32) : Met l y_S_number w_S_number ({ frames := 3, cells := 1, slots := 1, locals := 61 }) (g_pre D tys G sz [.ref x, .int r, .int v]) (va_Qi (fun (rz : Int32) (G1 : gw_G) => rz = (p_number σ r v).1 ∧ c_R w n (k + 1) cV cT (p_number σ r v).2 x G1) (g_end D G sz) (gw_A G sz)) 1 1 (gw_A G sz) := by
  refine Met.ofW (cc := b_S_number) (maxL := 3) (ret := (some .boolean)) (by decide) rfl ?_
  intro p e s m args below meth c s₁ B hml hv
  obtain ⟨rfl, hsz, hP, hK⟩ := hv
  have hx := B.exec
  have hb := B.bytes
  have hr := B.returns
  have ht := fun w (hw : w ∈ gt) => atoms_spec (ws := w_S_number) B.pre w (List.mem_cons_of_mem _ hw)
  have hown : s.vm.findClass "StackRoom" = some m.cls := findClass_of_methodNamed B.named
  have hlocks := B.notSynchronized
  have C0 : CallFix p m c b_S_number 3 s [.ref x, .int r, .int v].toArray gt "StackRoom" := ⟨hx, hb, hml, hown, ht⟩
  subst hsz
  have hP := hP.self (sz := s.heap.size)
  have hA : ∀ q : Nat, s.heap.size ≤ q → gw_A G s.heap.size q := fun q h => Or.inr h
  have hS : va_S (gw_A G s.heap.size) s.heap s.heap [] := va_S.rf
  have hl := lv_entry ([.ref x, .int r, .int v]) (n := 3) (Nat.le_of_ble_eq_true rfl)
  rw [lg_entry_eq]
  generalize (lg_sl ([.ref x, .int r, .int v]) ++ List.replicate (3 - (lg_sl ([.ref x, .int r, .int v])).length) Slot.unset).toArray = ls at hl ⊢
  have hl : lv_has ls 3 [(0, .ref x), (1, .int r), (2, .int v)] := hl
  obtain ⟨rd, ra, rt, ad, fa, ρ, fr, rr, rf, rc, wl, el, cr, hrd, hR⟩ := hR0
  refine lv_iload_n hx hb d_S_number_0 rfl (lv_at hl 1 rfl) ?_
  refine vp_callSi (va_Run.run (r_S (rest := []) C0 [.int r] (k_S_isRegister l r) ml_S_S_isRegister st_S_isRegister ini_S co_S_isRegister hd_S_isRegister v_preS hl.1 d_S_number_1 rfl rfl (Nat.le_of_ble_eq_true rfl) ⟨rfl, rfl⟩ ⟨Nat.le_of_ble_eq_true rfl, Nat.le_of_ble_eq_true rfl⟩ ⟨Nat.le_of_ble_eq_true rfl, Nat.le_of_ble_eq_true rfl⟩)) (fun q1 eq1 => ?_)
  refine lv_if_eq (tgt := 14) hx hb d_S_number_4 (by decide) (fun c1 => ?_) (fun c1 => ?_)
  · have hreg : ¬ (0 ≤ r ∧ r ≤ 15) := fun h => absurd (eq1.symm.trans c1) (by rw [if_pos h]; decide)
    refine W.widen (k := 1) (n := 1) (by omega) (by omega) ?_
    refine lv_iconst (v := 0) hx hb d_S_number_14 (by decide) ?_
    exact W.zret (v := 0) hx hb hr rfl (fun t ht hW => ⟨⟨_, G, rfl, (by rw [show p_number σ r v = (0, σ) from (by unfold p_number; rw [if_neg (fun z => hreg z.1)])]; exact ⟨rfl, c_R.up ⟨rd, ra, rt, ad, fa, ρ, fr, rr, rf, rc, wl, el, cr, hrd, hR⟩⟩), g_fin ht hP⟩, hS.F ht⟩) hS.2.2 d_S_number_15
  · have hreg : 0 ≤ r ∧ r ≤ 15 := Decidable.byContradiction (fun h => c1 (eq1.trans (if_neg h)))
    refine lv_iload_n hx hb d_S_number_7 rfl (lv_at hl 2 rfl) ?_
    refine vp_callSi (va_Run.run (r_S (rest := []) C0 [.int v] (k_S_isNumber l v) ml_S_S_isNumber st_S_isNumber ini_S co_S_isNumber hd_S_isNumber v_preS hl.1 d_S_number_8 rfl rfl (Nat.le_of_ble_eq_true rfl) ⟨rfl, rfl⟩ ⟨Nat.le_of_ble_eq_true rfl, Nat.le_of_ble_eq_true rfl⟩ ⟨Nat.le_of_ble_eq_true rfl, Nat.le_of_ble_eq_true rfl⟩)) (fun q8 eq8 => ?_)
    refine lv_if_ne (tgt := 16) hx hb d_S_number_11 (by decide) (fun c8 => ?_) (fun c8 => ?_)
    · have hnum : -1073741824 ≤ v ∧ v ≤ 1073741823 := Decidable.byContradiction (fun h => c8 (eq8.trans (if_neg h)))
      refine lv_aload_n hx hb d_S_number_16 rfl (lv_at hl 0 rfl) ?_
      refine va_get (D := D) (ci := 0) (C := "StackRoom") (T := T_S) (N := 10) (v := .ref ra) hx hb ht in_S hown hK.1 (hP.one hR.1) 0 rfl rfl 2 (by decide) (ht _ fl_S_S_registers) (fun _ h9 => h9) rfl d_S_number_17 ?_
      refine lv_iload_n hx hb d_S_number_20 rfl (lv_at hl 1 rfl) ?_
      refine gw_new (D := D) (cl := vwCl) (ci := 1) (fs := [.int 0]) (C := "StackRoom$Whole") (T := T_W) (N := 1) hx hb ht in_W ty_W tk_W hown (ht _ cl_S_W) (ht _ is_W) (ht _ ini_W) hK.1 hP hS hA rfl (fun j hj => by rcases (show j = 0 by omega) with rfl <;> rfl) (Nat.le_of_ble_eq_true rfl) (Nat.le_of_ble_eq_true rfl) d_S_number_21 (fun a H hP n_a hS => ?_)
      obtain ⟨G1, eG1⟩ : ∃ z : gw_G, z = va_up G a (some (.inr (1, [.int 0]))) := ⟨_, rfl⟩
      replace hP : gw_P D vwCl (gw_A G s.heap.size) G1 H := by rw [eG1]; exact hP
      have f1 : G1 a = some (.inr (1, [.int 0])) := by rw [eG1]; exact va_up_self _ _ _
      refine lv_dup hx hb d_S_number_24 rfl ?_
      refine lv_iload_n hx hb d_S_number_25 rfl (lv_at hl 2 rfl) ?_
      refine g_callv hP hS hA (r_I (rest := [.ref a, .int r, .ref ra]) C0 [.int v] (k_W_init l f1 v) ml_S_W_init im_W_init ini_W co_W_init rfl hd_W_init (g_preS hK hP) hl.1 d_S_number_26 rfl rfl (Nat.le_of_ble_eq_true rfl) ⟨rfl, rfl⟩ ⟨Nat.le_of_ble_eq_true rfl, Nat.le_of_ble_eq_true rfl⟩ ⟨Nat.le_of_ble_eq_true rfl, Nat.le_of_ble_eq_true rfl⟩) (fun G8 H locs eG8 hP hS hz9 hk9 => ?_)
      have e7 : G8 = va_up G a (some (.inr (kW, [.int v]))) := by rw [eG8, eG1, va_up_up]
      have hR8 := hR.fresh (e := some (.inr (kW, [.int v]))) n_a
      rw [← e7] at hR8
      have fa8 : G8 a = some (.inr (kW, [.int v])) := by rw [e7]; exact va_up_self _ _ _
      refine gw_astqO (v := some a) hx hb hK.1 hP hS 0 hR8.2.1 ht0 (fun y hy => c_any hK hP (⟨_, _, (by cases hy; exact fa8), Or.inl rfl⟩)) (s_rin hreg) d_S_number_29 (fun H locs hP hS => ?_)
      obtain ⟨G2, eG2⟩ : ∃ z : gw_G, z = va_up G8 ra (some (.inl (cV, 16, qv (va_up rr r.toNatClampNeg (some a))))) := ⟨_, rfl⟩
      replace hP : gw_P D vwCl (gw_A G s.heap.size) G2 H := by rw [eG2]; exact hP
      have hR9 := hR8.reg (k := r.toNatClampNeg) (v := some (.inl v)) (r := some a) ⟨a, rfl, fa8⟩
      rw [← eG2] at hR9
      refine W.widen (k := 1) (n := 1) (by omega) (by omega) ?_
      refine lv_iconst (v := 1) hx hb d_S_number_30 (by decide) ?_
      exact W.zret (v := 1) hx hb hr rfl (fun t ht hW => ⟨⟨_, G2, rfl, (by rw [show p_number σ r v = (1, s_put σ r (some (.inl v))) from if_pos ⟨hreg, hnum⟩]; exact ⟨rfl, ⟨_, ra, rt, ad, fa, ρ, fr, _, rf, rc, wl, el, cr, by omega, hR9⟩⟩), g_fin ht hP⟩, hS.F ht⟩) hS.2.2 d_S_number_31
    · have hnum : ¬ (-1073741824 ≤ v ∧ v ≤ 1073741823) := fun h => absurd (eq8.symm.trans c8) (by rw [if_pos h]; decide)
      refine W.widen (k := 1) (n := 1) (by omega) (by omega) ?_
      refine lv_iconst (v := 0) hx hb d_S_number_14 (by decide) ?_
      exact W.zret (v := 0) hx hb hr rfl (fun t ht hW => ⟨⟨_, G, rfl, (by rw [show p_number σ r v = (0, σ) from (by unfold p_number; rw [if_neg (fun z => hnum z.2)])]; exact ⟨rfl, c_R.up ⟨rd, ra, rt, ad, fa, ρ, fr, rr, rf, rc, wl, el, cr, hrd, hR⟩⟩), g_fin ht hP⟩, hS.F ht⟩) hS.2.2 d_S_number_15
set_option maxHeartbeats 4000000 in
set_option maxRecDepth 100000 in
theorem k_S_move (l : Launch) (hR0 : c_R w n k cV cT σ x G) (hO : s_OK w n σ) (hw : 128 ≤ w ∧ w ≤ 32768) (hn : 16 ≤ n ∧ n ≤ 4096) (hm : s_md σ + 2 < 2 ^ 31) (hk : k + 1 < 2 ^ 31) (ht0 : tys[0]? = some (cV, .object "StackRoom$Value")) (ht1 : tys[1]? = some (cT, .object "StackRoom$Thing")) (r f : Int32) : Met l y_S_move w_S_move ({ frames := 2, cells := 0, slots := 0, locals := 42 }) (g_pre D tys G sz [.ref x, .int r, .int f]) (va_Qi (fun (rz : Int32) (G1 : gw_G) => rz = (p_move σ r f).1 ∧ c_R w n (k + 1) cV cT (p_move σ r f).2 x G1) (g_end D G sz) (gw_A G sz)) 0 0 (gw_A G sz) := by
  refine Met.ofW (cc := b_S_move) (maxL := 3) (ret := (some .boolean)) (by decide) rfl ?_
  intro p e s m args below meth c s₁ B hml hv
  obtain ⟨rfl, hsz, hP, hK⟩ := hv
  have hx := B.exec
  have hb := B.bytes
  have hr := B.returns
  have ht := fun w (hw : w ∈ gt) => atoms_spec (ws := w_S_move) B.pre w (List.mem_cons_of_mem _ hw)
  have hown : s.vm.findClass "StackRoom" = some m.cls := findClass_of_methodNamed B.named
  have hlocks := B.notSynchronized
  have C0 : CallFix p m c b_S_move 3 s [.ref x, .int r, .int f].toArray gt "StackRoom" := ⟨hx, hb, hml, hown, ht⟩
  subst hsz
  have hP := hP.self (sz := s.heap.size)
  have hA : ∀ q : Nat, s.heap.size ≤ q → gw_A G s.heap.size q := fun q h => Or.inr h
  have hS : va_S (gw_A G s.heap.size) s.heap s.heap [] := va_S.rf
  have hl := lv_entry ([.ref x, .int r, .int f]) (n := 3) (Nat.le_of_ble_eq_true rfl)
  rw [lg_entry_eq]
  generalize (lg_sl ([.ref x, .int r, .int f]) ++ List.replicate (3 - (lg_sl ([.ref x, .int r, .int f])).length) Slot.unset).toArray = ls at hl ⊢
  have hl : lv_has ls 3 [(0, .ref x), (1, .int r), (2, .int f)] := hl
  obtain ⟨rd, ra, rt, ad, fa, ρ, fr, rr, rf, rc, wl, el, cr, hrd, hR⟩ := hR0
  refine lv_iload_n hx hb d_S_move_0 rfl (lv_at hl 1 rfl) ?_
  refine vp_callSi (va_Run.run (r_S (rest := []) C0 [.int r] (k_S_isRegister l r) ml_S_S_isRegister st_S_isRegister ini_S co_S_isRegister hd_S_isRegister v_preS hl.1 d_S_move_1 rfl rfl (Nat.le_of_ble_eq_true rfl) ⟨rfl, rfl⟩ ⟨Nat.le_of_ble_eq_true rfl, Nat.le_of_ble_eq_true rfl⟩ ⟨Nat.le_of_ble_eq_true rfl, Nat.le_of_ble_eq_true rfl⟩)) (fun q1 eq1 => ?_)
  refine lv_if_eq (tgt := 14) hx hb d_S_move_4 (by decide) (fun c1 => ?_) (fun c1 => ?_)
  · have hreg : ¬ (0 ≤ r ∧ r ≤ 15) := fun h => absurd (eq1.symm.trans c1) (by rw [if_pos h]; decide)
    refine lv_iconst (v := 0) hx hb d_S_move_14 (by decide) ?_
    exact W.zret (v := 0) hx hb hr rfl (fun t ht hW => ⟨⟨_, G, rfl, (by rw [show p_move σ r f = (0, σ) from (by unfold p_move; rw [if_neg (fun z => hreg z.1)])]; exact ⟨rfl, c_R.up ⟨rd, ra, rt, ad, fa, ρ, fr, rr, rf, rc, wl, el, cr, hrd, hR⟩⟩), g_fin ht hP⟩, hS.F ht⟩) hS.2.2 d_S_move_15
  · have hreg : 0 ≤ r ∧ r ≤ 15 := Decidable.byContradiction (fun h => c1 (eq1.trans (if_neg h)))
    refine lv_iload_n hx hb d_S_move_7 rfl (lv_at hl 2 rfl) ?_
    refine vp_callSi (va_Run.run (r_S (rest := []) C0 [.int f] (k_S_isRegister l f) ml_S_S_isRegister st_S_isRegister ini_S co_S_isRegister hd_S_isRegister v_preS hl.1 d_S_move_8 rfl rfl (Nat.le_of_ble_eq_true rfl) ⟨rfl, rfl⟩ ⟨Nat.le_of_ble_eq_true rfl, Nat.le_of_ble_eq_true rfl⟩ ⟨Nat.le_of_ble_eq_true rfl, Nat.le_of_ble_eq_true rfl⟩)) (fun q8 eq8 => ?_)
    refine lv_if_ne (tgt := 16) hx hb d_S_move_11 (by decide) (fun c8 => ?_) (fun c8 => ?_)
    · have hregf : 0 ≤ f ∧ f ≤ 15 := Decidable.byContradiction (fun h => c8 (eq8.trans (if_neg h)))
      refine lv_aload_n hx hb d_S_move_16 rfl (lv_at hl 0 rfl) ?_
      refine va_get (D := D) (ci := 0) (C := "StackRoom") (T := T_S) (N := 10) (v := .ref ra) hx hb ht in_S hown hK.1 (hP.one hR.1) 0 rfl rfl 2 (by decide) (ht _ fl_S_S_registers) (fun _ h9 => h9) rfl d_S_move_17 ?_
      refine lv_iload_n hx hb d_S_move_20 rfl (lv_at hl 1 rfl) ?_
      refine lv_aload_n hx hb d_S_move_21 rfl (lv_at hl 0 rfl) ?_
      refine va_get (D := D) (ci := 0) (C := "StackRoom") (T := T_S) (N := 10) (v := .ref ra) hx hb ht in_S hown hK.1 (hP.one hR.1) 0 rfl rfl 2 (by decide) (ht _ fl_S_S_registers) (fun _ h9 => h9) rfl d_S_move_22 ?_
      refine lv_iload_n hx hb d_S_move_25 rfl (lv_at hl 2 rfl) ?_
      refine va_aldq (C := "StackRoom$Value") hx hb hK.1 (hP.one hR.2.1) 0 0 rfl ht0 (s_rin hregf) d_S_move_26 ?_
      have hvf := hR.2.2.2.2.1 _ (s_reg hregf)
      refine gw_astqO (v := rr f.toNatClampNeg) hx hb hK.1 hP hS 0 hR.2.1 ht0 (fun y hy => c_any hK hP (c_val_isv hR hO.1 hvf (fun i e => hO.1.2.2.1 _ (s_reg hregf) i e) y hy)) (s_rin hreg) d_S_move_27 (fun H locs hP hS => ?_)
      obtain ⟨G1, eG1⟩ : ∃ z : gw_G, z = va_up G ra (some (.inl (cV, 16, qv (va_up rr r.toNatClampNeg (rr f.toNatClampNeg))))) := ⟨_, rfl⟩
      replace hP : gw_P D vwCl (gw_A G s.heap.size) G1 H := by rw [eG1]; exact hP
      have hR9 := hR.reg (k := r.toNatClampNeg) (v := s_get σ f) (r := rr f.toNatClampNeg) hvf
      rw [← eG1] at hR9
      refine lv_iconst (v := 1) hx hb d_S_move_28 (by decide) ?_
      exact W.zret (v := 1) hx hb hr rfl (fun t ht hW => ⟨⟨_, G1, rfl, (by rw [show p_move σ r f = (1, s_put σ r (s_get σ f)) from if_pos ⟨hreg, hregf⟩]; exact ⟨rfl, ⟨_, ra, rt, ad, fa, ρ, fr, _, rf, rc, wl, el, cr, by omega, hR9⟩⟩), g_fin ht hP⟩, hS.F ht⟩) hS.2.2 d_S_move_29
    · have hregf : ¬ (0 ≤ f ∧ f ≤ 15) := fun h => absurd (eq8.symm.trans c8) (by rw [if_pos h]; decide)
      refine lv_iconst (v := 0) hx hb d_S_move_14 (by decide) ?_
      exact W.zret (v := 0) hx hb hr rfl (fun t ht hW => ⟨⟨_, G, rfl, (by rw [show p_move σ r f = (0, σ) from (by unfold p_move; rw [if_neg (fun z => hregf z.2)])]; exact ⟨rfl, c_R.up ⟨rd, ra, rt, ad, fa, ρ, fr, rr, rf, rc, wl, el, cr, hrd, hR⟩⟩), g_fin ht hP⟩, hS.F ht⟩) hS.2.2 d_S_move_15
set_option maxHeartbeats 4000000 in
set_option maxRecDepth 100000 in
theorem k_S_clear (l : Launch) (hR0 : c_R w n k cV cT σ x G) (hO : s_OK w n σ) (hw : 128 ≤ w ∧ w ≤ 32768) (hn : 16 ≤ n ∧ n ≤ 4096) (hm : s_md σ + 2 < 2 ^ 31) (hk : k + 1 < 2 ^ 31) (ht0 : tys[0]? = some (cV, .object "StackRoom$Value")) (ht1 : tys[1]? = some (cT, .object "StackRoom$Thing")) (r : Int32) : Met l y_S_clear w_S_clear ({ frames := 2, cells := 0, slots := 0, locals := 42 }) (g_pre D tys G sz [.ref x, .int r]) (va_Qi (fun (rz : Int32) (G1 : gw_G) => rz = (p_clear σ r).1 ∧ c_R w n (k + 1) cV cT (p_clear σ r).2 x G1) (g_end D G sz) (gw_A G sz)) 0 0 (gw_A G sz) := by
  refine Met.ofW (cc := b_S_clear) (maxL := 2) (ret := (some .boolean)) (by decide) rfl ?_
  intro p e s m args below meth c s₁ B hml hv
  obtain ⟨rfl, hsz, hP, hK⟩ := hv
  have hx := B.exec
  have hb := B.bytes
  have hr := B.returns
  have ht := fun w (hw : w ∈ gt) => atoms_spec (ws := w_S_clear) B.pre w (List.mem_cons_of_mem _ hw)
  have hown : s.vm.findClass "StackRoom" = some m.cls := findClass_of_methodNamed B.named
  have hlocks := B.notSynchronized
  have C0 : CallFix p m c b_S_clear 2 s [.ref x, .int r].toArray gt "StackRoom" := ⟨hx, hb, hml, hown, ht⟩
  subst hsz
  have hP := hP.self (sz := s.heap.size)
  have hA : ∀ q : Nat, s.heap.size ≤ q → gw_A G s.heap.size q := fun q h => Or.inr h
  have hS : va_S (gw_A G s.heap.size) s.heap s.heap [] := va_S.rf
  have hl := lv_entry ([.ref x, .int r]) (n := 2) (Nat.le_of_ble_eq_true rfl)
  rw [lg_entry_eq]
  generalize (lg_sl ([.ref x, .int r]) ++ List.replicate (2 - (lg_sl ([.ref x, .int r])).length) Slot.unset).toArray = ls at hl ⊢
  have hl : lv_has ls 2 [(0, .ref x), (1, .int r)] := hl
  obtain ⟨rd, ra, rt, ad, fa, ρ, fr, rr, rf, rc, wl, el, cr, hrd, hR⟩ := hR0
  refine lv_iload_n hx hb d_S_clear_0 rfl (lv_at hl 1 rfl) ?_
  refine vp_callSi (va_Run.run (r_S (rest := []) C0 [.int r] (k_S_isRegister l r) ml_S_S_isRegister st_S_isRegister ini_S co_S_isRegister hd_S_isRegister v_preS hl.1 d_S_clear_1 rfl rfl (Nat.le_of_ble_eq_true rfl) ⟨rfl, rfl⟩ ⟨Nat.le_of_ble_eq_true rfl, Nat.le_of_ble_eq_true rfl⟩ ⟨Nat.le_of_ble_eq_true rfl, Nat.le_of_ble_eq_true rfl⟩)) (fun q1 eq1 => ?_)
  refine lv_if_ne (tgt := 9) hx hb d_S_clear_4 (by decide) (fun c1 => ?_) (fun c1 => ?_)
  · have hreg : 0 ≤ r ∧ r ≤ 15 := Decidable.byContradiction (fun h => c1 (eq1.trans (if_neg h)))
    refine lv_aload_n hx hb d_S_clear_9 rfl (lv_at hl 0 rfl) ?_
    refine va_get (D := D) (ci := 0) (C := "StackRoom") (T := T_S) (N := 10) (v := .ref ra) hx hb ht in_S hown hK.1 (hP.one hR.1) 0 rfl rfl 2 (by decide) (ht _ fl_S_S_registers) (fun _ h9 => h9) rfl d_S_clear_10 ?_
    refine lv_iload_n hx hb d_S_clear_13 rfl (lv_at hl 1 rfl) ?_
    refine lv_null hx hb d_S_clear_14 ?_
    refine gw_astqO (v := none) hx hb hK.1 hP hS 0 hR.2.1 ht0 (fun y hy => c_any hK hP (by cases hy)) (s_rin hreg) d_S_clear_15 (fun H locs hP hS => ?_)
    obtain ⟨G1, eG1⟩ : ∃ z : gw_G, z = va_up G ra (some (.inl (cV, 16, qv (va_up rr r.toNatClampNeg none)))) := ⟨_, rfl⟩
    replace hP : gw_P D vwCl (gw_A G s.heap.size) G1 H := by rw [eG1]; exact hP
    have hR9 := hR.reg (k := r.toNatClampNeg) (v := none) (r := none) rfl
    rw [← eG1] at hR9
    refine lv_iconst (v := 1) hx hb d_S_clear_16 (by decide) ?_
    exact W.zret (v := 1) hx hb hr rfl (fun t ht hW => ⟨⟨_, G1, rfl, (by rw [show p_clear σ r = (1, s_put σ r none) from if_pos hreg]; exact ⟨rfl, ⟨_, ra, rt, ad, fa, ρ, fr, _, rf, rc, wl, el, cr, by omega, hR9⟩⟩), g_fin ht hP⟩, hS.F ht⟩) hS.2.2 d_S_clear_17
  · have hreg : ¬ (0 ≤ r ∧ r ≤ 15) := fun h => absurd (eq1.symm.trans c1) (by rw [if_pos h]; decide)
    refine lv_iconst (v := 0) hx hb d_S_clear_7 (by decide) ?_
    exact W.zret (v := 0) hx hb hr rfl (fun t ht hW => ⟨⟨_, G, rfl, (by rw [show p_clear σ r = (0, σ) from (if_neg hreg)]; exact ⟨rfl, c_R.up ⟨rd, ra, rt, ad, fa, ρ, fr, rr, rf, rc, wl, el, cr, hrd, hR⟩⟩), g_fin ht hP⟩, hS.F ht⟩) hS.2.2 d_S_clear_8
set_option maxHeartbeats 4000000 in
set_option maxRecDepth 100000 in
theorem k_S_height (l : Launch) (hR0 : c_R w n k cV cT σ x G) (hO : s_OK w n σ) (hw : 128 ≤ w ∧ w ≤ 32768) (hn : 16 ≤ n ∧ n ≤ 4096) (hm : s_md σ + 2 < 2 ^ 31) (hk : k + 1 < 2 ^ 31) (ht0 : tys[0]? = some (cV, .object "StackRoom$Value")) (ht1 : tys[1]? = some (cT, .object "StackRoom$Thing")) (cx : Int32) : Met l y_S_height w_S_height ({ frames := 3, cells := 0, slots := 0, locals := 65 }) (g_pre D tys G sz [.ref x, .int cx]) (vp_Si (fun rz => rz = p_height σ cx)) 0 0 (fun _ => False) := by
  refine Met.ofW (cc := b_S_height) (maxL := 3) (ret := (some .int)) (by decide) rfl ?_
  intro p e s m args below meth c s₁ B hml hv
  obtain ⟨rfl, hsz, hP, hK⟩ := hv
  have hx := B.exec
  have hb := B.bytes
  have hr := B.returns
  have ht := fun w (hw : w ∈ gt) => atoms_spec (ws := w_S_height) B.pre w (List.mem_cons_of_mem _ hw)
  have hown : s.vm.findClass "StackRoom" = some m.cls := findClass_of_methodNamed B.named
  have hlocks := B.notSynchronized
  have C0 : CallFix p m c b_S_height 3 s [.ref x, .int cx].toArray gt "StackRoom" := ⟨hx, hb, hml, hown, ht⟩
  have hl := lv_entry ([.ref x, .int cx]) (n := 3) (Nat.le_of_ble_eq_true rfl)
  rw [lg_entry_eq]
  generalize (lg_sl ([.ref x, .int cx]) ++ List.replicate (3 - (lg_sl ([.ref x, .int cx])).length) Slot.unset).toArray = ls at hl ⊢
  have hl : lv_has ls 3 [(0, .ref x), (1, .int cx)] := hl
  obtain ⟨rd, ra, rt, ad, fa, ρ, fr, rr, rf, rc, wl, el, cr, hrd, hR⟩ := hR0
  refine lv_aload_n hx hb d_S_height_0 rfl (lv_at hl 0 rfl) ?_
  refine lv_iload_n hx hb d_S_height_1 rfl (lv_at hl 1 rfl) ?_
  refine va_csq (va_Run.run (r_V (rest := []) C0 [.int cx] (k_S_contextIn l hR hO.1 ht0 cx) ml_S_S_contextIn im_S_contextIn se_S_S_contextIn_S ini_S co_S_contextIn ⟨rfl, hd_S_contextIn⟩ (g_preV (ci := 0) hK hP rfl hR.1) hl.1 d_S_height_2 rfl rfl (Nat.le_of_ble_eq_true rfl) ⟨rfl, rfl⟩ ⟨Nat.le_of_ble_eq_true rfl, Nat.le_of_ble_eq_true rfl⟩ ⟨Nat.le_of_ble_eq_true rfl, Nat.le_of_ble_eq_true rfl⟩)) (fun qc ec => ?_)
  subst ec
  rcases hci : s_ci σ cx with _ | i
  · refine lv_astore_nN (lv' := [(2, .null), (0, .ref x), (1, .int cx)]) hx hb d_S_height_5 rfl hl (by decide) rfl (fun ls hl => ?_)
    refine lv_aload_nN hx hb d_S_height_6 rfl (lv_at hl 0 rfl) ?_
    refine lv_ifnonnullN hx hb d_S_height_7 ?_
    refine lv_iconst (v := (-1)) hx hb d_S_height_10 (by decide) ?_
    refine lv_goto (tgt := 18) hx hb d_S_height_11 (by decide) ?_
    exact W.iret (v := (-1)) hx hb hr (fun t ht hW => ⟨_, rfl, by simp only [p_height, hci], ht⟩) (fun _ h => by cases h) d_S_height_18
  · have hc := (s_ci_some hci).2.2
    have hri := s_ci_rch hci
    rcases id hc with h3 | h4
    · refine lv_astore_n (lv' := [(2, .ref (ad i)), (0, .ref x), (1, .int cx)]) hx hb d_S_height_5 rfl hl (by decide) rfl (fun ls hl => ?_)
      refine lv_aload_n hx hb d_S_height_6 rfl (lv_at hl 0 rfl) ?_
      refine lv_ifnonnull (tgt := 14) hx hb d_S_height_7 (by decide) ?_
      refine lv_aload_n hx hb d_S_height_14 rfl (lv_at hl 0 rfl) ?_
      refine va_getN (D := D) (ci := 3) (C := "StackRoom$MethodContext") (T := T_X) (N := 7) (v := .int (nI (s_ht σ i))) hx hb ht in_X hown hK.1 (hP.one (hR.c3 h3)) 0 rfl rfl 4 (by decide) (va_Nw.use rfl (hK.2.1 _ fn_S_C_height)) (fun _ h9 => h9) rfl d_S_height_15 ?_
      exact W.iret (v := (nI (s_ht σ i))) hx hb hr (fun t ht hW => ⟨_, rfl, by simp only [p_height, hci], ht⟩) (fun _ h => by cases h) d_S_height_18
    · refine lv_astore_n (lv' := [(2, .ref (ad i)), (0, .ref x), (1, .int cx)]) hx hb d_S_height_5 rfl hl (by decide) rfl (fun ls hl => ?_)
      refine lv_aload_n hx hb d_S_height_6 rfl (lv_at hl 0 rfl) ?_
      refine lv_ifnonnull (tgt := 14) hx hb d_S_height_7 (by decide) ?_
      refine lv_aload_n hx hb d_S_height_14 rfl (lv_at hl 0 rfl) ?_
      refine va_getN (D := D) (ci := 4) (C := "StackRoom$BlockContext") (T := T_B) (N := 8) (v := .int (nI (s_ht σ i))) hx hb ht in_B hown hK.1 (hP.one (hR.c4 h4)) 0 rfl rfl 4 (by decide) (va_Nw.use rfl (hK.2.1 _ fn_S_C_height)) (fun _ h9 => h9) rfl d_S_height_15 ?_
      exact W.iret (v := (nI (s_ht σ i))) hx hb hr (fun t ht hW => ⟨_, rfl, by simp only [p_height, hci], ht⟩) (fun _ h => by cases h) d_S_height_18
set_option maxHeartbeats 4000000 in
set_option maxRecDepth 100000 in
theorem k_S_room (l : Launch) (hR0 : c_R w n k cV cT σ x G) (hO : s_OK w n σ) (hw : 128 ≤ w ∧ w ≤ 32768) (hn : 16 ≤ n ∧ n ≤ 4096) (hm : s_md σ + 2 < 2 ^ 31) (hk : k + 1 < 2 ^ 31) (ht0 : tys[0]? = some (cV, .object "StackRoom$Value")) (ht1 : tys[1]? = some (cT, .object "StackRoom$Thing")) (cx : Int32) : Met l y_S_room w_S_room ({ frames := 3, cells := 0, slots := 0, locals := 65 }) (g_pre D tys G sz [.ref x, .int cx]) (vp_Si (fun rz => rz = p_room σ cx)) 0 0 (fun _ => False) := by
  refine Met.ofW (cc := b_S_room) (maxL := 3) (ret := (some .int)) (by decide) rfl ?_
  intro p e s m args below meth c s₁ B hml hv
  obtain ⟨rfl, hsz, hP, hK⟩ := hv
  have hx := B.exec
  have hb := B.bytes
  have hr := B.returns
  have ht := fun w (hw : w ∈ gt) => atoms_spec (ws := w_S_room) B.pre w (List.mem_cons_of_mem _ hw)
  have hown : s.vm.findClass "StackRoom" = some m.cls := findClass_of_methodNamed B.named
  have hlocks := B.notSynchronized
  have C0 : CallFix p m c b_S_room 3 s [.ref x, .int cx].toArray gt "StackRoom" := ⟨hx, hb, hml, hown, ht⟩
  have hl := lv_entry ([.ref x, .int cx]) (n := 3) (Nat.le_of_ble_eq_true rfl)
  rw [lg_entry_eq]
  generalize (lg_sl ([.ref x, .int cx]) ++ List.replicate (3 - (lg_sl ([.ref x, .int cx])).length) Slot.unset).toArray = ls at hl ⊢
  have hl : lv_has ls 3 [(0, .ref x), (1, .int cx)] := hl
  obtain ⟨rd, ra, rt, ad, fa, ρ, fr, rr, rf, rc, wl, el, cr, hrd, hR⟩ := hR0
  refine lv_aload_n hx hb d_S_room_0 rfl (lv_at hl 0 rfl) ?_
  refine lv_iload_n hx hb d_S_room_1 rfl (lv_at hl 1 rfl) ?_
  refine va_csq (va_Run.run (r_V (rest := []) C0 [.int cx] (k_S_contextIn l hR hO.1 ht0 cx) ml_S_S_contextIn im_S_contextIn se_S_S_contextIn_S ini_S co_S_contextIn ⟨rfl, hd_S_contextIn⟩ (g_preV (ci := 0) hK hP rfl hR.1) hl.1 d_S_room_2 rfl rfl (Nat.le_of_ble_eq_true rfl) ⟨rfl, rfl⟩ ⟨Nat.le_of_ble_eq_true rfl, Nat.le_of_ble_eq_true rfl⟩ ⟨Nat.le_of_ble_eq_true rfl, Nat.le_of_ble_eq_true rfl⟩)) (fun qc ec => ?_)
  subst ec
  rcases hci : s_ci σ cx with _ | i
  · refine lv_astore_nN (lv' := [(2, .null), (0, .ref x), (1, .int cx)]) hx hb d_S_room_5 rfl hl (by decide) rfl (fun ls hl => ?_)
    refine lv_aload_nN hx hb d_S_room_6 rfl (lv_at hl 0 rfl) ?_
    refine lv_ifnonnullN hx hb d_S_room_7 ?_
    refine lv_iconst (v := (-1)) hx hb d_S_room_10 (by decide) ?_
    refine lv_goto (tgt := 19) hx hb d_S_room_11 (by decide) ?_
    exact W.iret (v := (-1)) hx hb hr (fun t ht hW => ⟨_, rfl, by simp only [p_room, hci], ht⟩) (fun _ h => by cases h) d_S_room_19
  · have hc := (s_ci_some hci).2.2
    have hri := s_ci_rch hci
    rcases id hc with h3 | h4
    · refine lv_astore_n (lv' := [(2, .ref (ad i)), (0, .ref x), (1, .int cx)]) hx hb d_S_room_5 rfl hl (by decide) rfl (fun ls hl => ?_)
      refine lv_aload_n hx hb d_S_room_6 rfl (lv_at hl 0 rfl) ?_
      refine lv_ifnonnull (tgt := 14) hx hb d_S_room_7 (by decide) ?_
      refine lv_aload_n hx hb d_S_room_14 rfl (lv_at hl 0 rfl) ?_
      refine va_getN (D := D) (ci := 3) (C := "StackRoom$MethodContext") (T := T_X) (N := 7) (v := .ref (fa i)) hx hb ht in_X hown hK.1 (hP.one (hR.c3 h3)) 0 rfl rfl 5 (by decide) (va_Nw.use rfl (hK.2.1 _ fn_S_C_fields)) (fun _ h9 => h9) rfl d_S_room_15 ?_
      refine va_alen (v := nI (s_rm σ i)) hx hb hK.1 (hP.one (hR.ca hc)) 0 0 rfl ht0 rfl d_S_room_18 ?_
      exact W.iret (v := (nI (s_rm σ i))) hx hb hr (fun t ht hW => ⟨_, rfl, by simp only [p_room, hci], ht⟩) (fun _ h => by cases h) d_S_room_19
    · refine lv_astore_n (lv' := [(2, .ref (ad i)), (0, .ref x), (1, .int cx)]) hx hb d_S_room_5 rfl hl (by decide) rfl (fun ls hl => ?_)
      refine lv_aload_n hx hb d_S_room_6 rfl (lv_at hl 0 rfl) ?_
      refine lv_ifnonnull (tgt := 14) hx hb d_S_room_7 (by decide) ?_
      refine lv_aload_n hx hb d_S_room_14 rfl (lv_at hl 0 rfl) ?_
      refine va_getN (D := D) (ci := 4) (C := "StackRoom$BlockContext") (T := T_B) (N := 8) (v := .ref (fa i)) hx hb ht in_B hown hK.1 (hP.one (hR.c4 h4)) 0 rfl rfl 5 (by decide) (va_Nw.use rfl (hK.2.1 _ fn_S_C_fields)) (fun _ h9 => h9) rfl d_S_room_15 ?_
      refine va_alen (v := nI (s_rm σ i)) hx hb hK.1 (hP.one (hR.ca hc)) 0 0 rfl ht0 rfl d_S_room_18 ?_
      exact W.iret (v := (nI (s_rm σ i))) hx hb hr (fun t ht hW => ⟨_, rfl, by simp only [p_room, hci], ht⟩) (fun _ h => by cases h) d_S_room_19
set_option maxHeartbeats 4000000 in
set_option maxRecDepth 100000 in
theorem k_S_floor (l : Launch) (hR0 : c_R w n k cV cT σ x G) (hO : s_OK w n σ) (hw : 128 ≤ w ∧ w ≤ 32768) (hn : 16 ≤ n ∧ n ≤ 4096) (hm : s_md σ + 2 < 2 ^ 31) (hk : k + 1 < 2 ^ 31) (ht0 : tys[0]? = some (cV, .object "StackRoom$Value")) (ht1 : tys[1]? = some (cT, .object "StackRoom$Thing")) (cx : Int32) : Met l y_S_floor w_S_floor ({ frames := 3, cells := 0, slots := 0, locals := 65 }) (g_pre D tys G sz [.ref x, .int cx]) (vp_Si (fun rz => rz = p_floor σ cx)) 0 0 (fun _ => False) := by
  refine Met.ofW (cc := b_S_floor) (maxL := 3) (ret := (some .int)) (by decide) rfl ?_
  intro p e s m args below meth c s₁ B hml hv
  obtain ⟨rfl, hsz, hP, hK⟩ := hv
  have hx := B.exec
  have hb := B.bytes
  have hr := B.returns
  have ht := fun w (hw : w ∈ gt) => atoms_spec (ws := w_S_floor) B.pre w (List.mem_cons_of_mem _ hw)
  have hown : s.vm.findClass "StackRoom" = some m.cls := findClass_of_methodNamed B.named
  have hlocks := B.notSynchronized
  have C0 : CallFix p m c b_S_floor 3 s [.ref x, .int cx].toArray gt "StackRoom" := ⟨hx, hb, hml, hown, ht⟩
  have hl := lv_entry ([.ref x, .int cx]) (n := 3) (Nat.le_of_ble_eq_true rfl)
  rw [lg_entry_eq]
  generalize (lg_sl ([.ref x, .int cx]) ++ List.replicate (3 - (lg_sl ([.ref x, .int cx])).length) Slot.unset).toArray = ls at hl ⊢
  have hl : lv_has ls 3 [(0, .ref x), (1, .int cx)] := hl
  obtain ⟨rd, ra, rt, ad, fa, ρ, fr, rr, rf, rc, wl, el, cr, hrd, hR⟩ := hR0
  refine lv_aload_n hx hb d_S_floor_0 rfl (lv_at hl 0 rfl) ?_
  refine lv_iload_n hx hb d_S_floor_1 rfl (lv_at hl 1 rfl) ?_
  refine va_csq (va_Run.run (r_V (rest := []) C0 [.int cx] (k_S_contextIn l hR hO.1 ht0 cx) ml_S_S_contextIn im_S_contextIn se_S_S_contextIn_S ini_S co_S_contextIn ⟨rfl, hd_S_contextIn⟩ (g_preV (ci := 0) hK hP rfl hR.1) hl.1 d_S_floor_2 rfl rfl (Nat.le_of_ble_eq_true rfl) ⟨rfl, rfl⟩ ⟨Nat.le_of_ble_eq_true rfl, Nat.le_of_ble_eq_true rfl⟩ ⟨Nat.le_of_ble_eq_true rfl, Nat.le_of_ble_eq_true rfl⟩)) (fun qc ec => ?_)
  subst ec
  rcases hci : s_ci σ cx with _ | i
  · refine lv_astore_nN (lv' := [(2, .null), (0, .ref x), (1, .int cx)]) hx hb d_S_floor_5 rfl hl (by decide) rfl (fun ls hl => ?_)
    refine lv_aload_nN hx hb d_S_floor_6 rfl (lv_at hl 0 rfl) ?_
    refine lv_ifnonnullN hx hb d_S_floor_7 ?_
    refine lv_iconst (v := (-1)) hx hb d_S_floor_10 (by decide) ?_
    refine lv_goto (tgt := 18) hx hb d_S_floor_11 (by decide) ?_
    exact W.iret (v := (-1)) hx hb hr (fun t ht hW => ⟨_, rfl, by simp only [p_floor, hci], ht⟩) (fun _ h => by cases h) d_S_floor_18
  · have hc := (s_ci_some hci).2.2
    have hri := s_ci_rch hci
    rcases id hc with h3 | h4
    · refine lv_astore_n (lv' := [(2, .ref (ad i)), (0, .ref x), (1, .int cx)]) hx hb d_S_floor_5 rfl hl (by decide) rfl (fun ls hl => ?_)
      refine lv_aload_n hx hb d_S_floor_6 rfl (lv_at hl 0 rfl) ?_
      refine lv_ifnonnull (tgt := 14) hx hb d_S_floor_7 (by decide) ?_
      refine lv_aload_n hx hb d_S_floor_14 rfl (lv_at hl 0 rfl) ?_
      refine vp_callSi (va_Run.run (r_A (owner := "StackRoom$Context") (n := 0) (rest := []) C0 [] (k_X_floorNow l hR (i := i) h3 hO.1) ml_S_C_floorNow sm_C_C_floorNow se_X_C_floorNow_X im_X_floorNow ini_X co_X_floorNow (hK.2.1 _ dc_C_floorNow) (by decide +kernel) (g_preV (ci := 3) hK hP rfl (hR.c3 h3)) hl.1 d_S_floor_15 rfl rfl (Nat.le_of_ble_eq_true rfl) ⟨rfl, rfl⟩ ⟨Nat.le_of_ble_eq_true rfl, Nat.le_of_ble_eq_true rfl⟩ ⟨Nat.le_of_ble_eq_true rfl, Nat.le_of_ble_eq_true rfl⟩)) (fun q eq => ?_)
      exact W.iret (v := q) hx hb hr (fun t ht hW => ⟨_, rfl, (by rw [eq]; simp only [p_floor, hci]), ht⟩) (fun _ h => by cases h) d_S_floor_18
    · refine lv_astore_n (lv' := [(2, .ref (ad i)), (0, .ref x), (1, .int cx)]) hx hb d_S_floor_5 rfl hl (by decide) rfl (fun ls hl => ?_)
      refine lv_aload_n hx hb d_S_floor_6 rfl (lv_at hl 0 rfl) ?_
      refine lv_ifnonnull (tgt := 14) hx hb d_S_floor_7 (by decide) ?_
      refine lv_aload_n hx hb d_S_floor_14 rfl (lv_at hl 0 rfl) ?_
      refine vp_callSi (va_Run.run (r_A (owner := "StackRoom$Context") (n := 0) (rest := []) C0 [] (k_B_floorNow l hR (i := i) h4) ml_S_C_floorNow sm_C_C_floorNow se_B_C_floorNow_B im_B_floorNow ini_B co_B_floorNow (hK.2.1 _ dc_C_floorNow) (by decide +kernel) (g_preV (ci := 4) hK hP rfl (hR.c4 h4)) hl.1 d_S_floor_15 rfl rfl (Nat.le_of_ble_eq_true rfl) ⟨rfl, rfl⟩ ⟨Nat.le_of_ble_eq_true rfl, Nat.le_of_ble_eq_true rfl⟩ ⟨Nat.le_of_ble_eq_true rfl, Nat.le_of_ble_eq_true rfl⟩)) (fun q eq => ?_)
      exact W.iret (v := q) hx hb hr (fun t ht hW => ⟨_, rfl, (by rw [eq]; simp only [p_floor, hci]), ht⟩) (fun _ h => by cases h) d_S_floor_18
set_option maxHeartbeats 4000000 in
set_option maxRecDepth 100000 in
theorem k_S_count (l : Launch) (hR0 : c_R w n k cV cT σ x G) (hO : s_OK w n σ) (hw : 128 ≤ w ∧ w ≤ 32768) (hn : 16 ≤ n ∧ n ≤ 4096) (hm : s_md σ + 2 < 2 ^ 31) (hk : k + 1 < 2 ^ 31) (ht0 : tys[0]? = some (cV, .object "StackRoom$Value")) (ht1 : tys[1]? = some (cT, .object "StackRoom$Thing")) (cx : Int32) : Met l y_S_count w_S_count ({ frames := 2, cells := 0, slots := 0, locals := 42 }) (g_pre D tys G sz [.ref x, .int cx]) (vp_Si (fun rz => rz = p_count σ cx)) 0 0 (fun _ => False) := by
  refine Met.ofW (cc := b_S_count) (maxL := 4) (ret := (some .int)) (by decide) rfl ?_
  intro p e s m args below meth c s₁ B hml hv
  obtain ⟨rfl, hsz, hP, hK⟩ := hv
  have hx := B.exec
  have hb := B.bytes
  have hr := B.returns
  have ht := fun w (hw : w ∈ gt) => atoms_spec (ws := w_S_count) B.pre w (List.mem_cons_of_mem _ hw)
  have hown : s.vm.findClass "StackRoom" = some m.cls := findClass_of_methodNamed B.named
  have hlocks := B.notSynchronized
  have C0 : CallFix p m c b_S_count 4 s [.ref x, .int cx].toArray gt "StackRoom" := ⟨hx, hb, hml, hown, ht⟩
  have hl := lv_entry ([.ref x, .int cx]) (n := 4) (Nat.le_of_ble_eq_true rfl)
  rw [lg_entry_eq]
  generalize (lg_sl ([.ref x, .int cx]) ++ List.replicate (4 - (lg_sl ([.ref x, .int cx])).length) Slot.unset).toArray = ls at hl ⊢
  have hl : lv_has ls 4 [(0, .ref x), (1, .int cx)] := hl
  obtain ⟨rd, ra, rt, ad, fa, ρ, fr, rr, rf, rc, wl, el, cr, hrd, hR⟩ := hR0
  refine lv_iload_n hx hb d_S_count_0 rfl (lv_at hl 1 rfl) ?_
  refine vp_callSi (va_Run.run (r_S (rest := []) C0 [.int cx] (k_S_isRegister l cx) ml_S_S_isRegister st_S_isRegister ini_S co_S_isRegister hd_S_isRegister v_preS hl.1 d_S_count_1 rfl rfl (Nat.le_of_ble_eq_true rfl) ⟨rfl, rfl⟩ ⟨Nat.le_of_ble_eq_true rfl, Nat.le_of_ble_eq_true rfl⟩ ⟨Nat.le_of_ble_eq_true rfl, Nat.le_of_ble_eq_true rfl⟩)) (fun q1 eq1 => ?_)
  refine lv_if_eq (tgt := 31) hx hb d_S_count_4 (by decide) (fun c1 => ?_) (fun c1 => ?_)
  · have hreg : ¬ (0 ≤ cx ∧ cx ≤ 15) := fun h => absurd (eq1.symm.trans c1) (by rw [if_pos h]; decide)
    refine lv_iconst (v := (-1)) hx hb d_S_count_31 (by decide) ?_
    exact W.iret (v := (-1)) hx hb hr (fun t ht hW => ⟨_, rfl, by unfold p_count; rw [s_ci_no hreg], ht⟩) (fun _ h => by cases h) d_S_count_32
  · have hreg : 0 ≤ cx ∧ cx ≤ 15 := Decidable.byContradiction (fun h => c1 (eq1.trans (if_neg h)))
    refine lv_aload_n hx hb d_S_count_7 rfl (lv_at hl 0 rfl) ?_
    refine va_get (D := D) (ci := 0) (C := "StackRoom") (T := T_S) (N := 10) (v := .ref ra) hx hb ht in_S hown hK.1 (hP.one hR.1) 0 rfl rfl 2 (by decide) (ht _ fl_S_S_registers) (fun _ h9 => h9) rfl d_S_count_8 ?_
    refine lv_iload_n hx hb d_S_count_11 rfl (lv_at hl 1 rfl) ?_
    refine va_aldq (C := "StackRoom$Value") hx hb hK.1 (hP.one hR.2.1) 0 0 rfl ht0 (s_rin hreg) d_S_count_12 ?_
    have hv := hR.2.2.2.2.1 cx.toNatClampNeg (s_reg hreg)
    rcases hq : s_rg σ cx.toNatClampNeg with _ | (nv | j)
    · have hv : rr cx.toNatClampNeg = none := by rw [hq] at hv; exact hv
      rw [hv]
      refine lv_astore_nN (lv' := [(3, .null), (0, .ref x), (1, .int cx)]) hx hb d_S_count_13 rfl hl (by decide) rfl (fun ls hl => ?_)
      refine lv_aload_nN hx hb d_S_count_14 rfl (lv_at hl 0 rfl) ?_
      refine lv_instN hx hb d_S_count_15 ?_
      refine lv_if_eq (tgt := 31) hx hb d_S_count_18 (by decide) (fun _ => ?_) (fun h => absurd h (by decide))
      refine lv_iconst (v := (-1)) hx hb d_S_count_31 (by decide) ?_
      exact W.iret (v := (-1)) hx hb hr (fun t ht hW => ⟨_, rfl, by simp only [p_count, s_ci_nil hq], ht⟩) (fun _ h => by cases h) d_S_count_32
    · obtain ⟨a, h1, h2⟩ : ∃ a, rr cx.toNatClampNeg = some a ∧ G a = some (.inr (kW, [.int nv])) := by rw [hq] at hv; exact hv
      rw [h1]
      refine lv_astore_n (lv' := [(3, .ref a), (0, .ref x), (1, .int cx)]) hx hb d_S_count_13 rfl hl (by decide) rfl (fun ls hl => ?_)
      refine lv_aload_n hx hb d_S_count_14 rfl (lv_at hl 0 rfl) ?_
      refine va_instNo hx hb hown (ht _ cl_S_B) hK.2.nWB (gw_recv hK.1 hP rfl h2) d_S_count_15 ?_
      refine lv_if_eq (tgt := 31) hx hb d_S_count_18 (by decide) (fun _ => ?_) (fun h => absurd h (by decide))
      refine lv_iconst (v := (-1)) hx hb d_S_count_31 (by decide) ?_
      exact W.iret (v := (-1)) hx hb hr (fun t ht hW => ⟨_, rfl, by simp only [p_count, s_ci_num hq], ht⟩) (fun _ h => by cases h) d_S_count_32
    · have hv : rr cx.toNatClampNeg = some (ad j) := by rw [hq] at hv; exact hv
      rw [hv]
      rcases (hO.1.2.1 j (hO.1.2.2.1 _ (s_reg hreg) j hq)).2.2 with hj | hj | hj
      · refine lv_astore_n (lv' := [(3, .ref (ad j)), (0, .ref x), (1, .int cx)]) hx hb d_S_count_13 rfl hl (by decide) rfl (fun ls hl => ?_)
        refine lv_aload_n hx hb d_S_count_14 rfl (lv_at hl 0 rfl) ?_
        refine va_instNo hx hb hown (ht _ cl_S_B) hK.2.nMB (gw_recv hK.1 hP rfl (hR.c2 hj)) d_S_count_15 ?_
        refine lv_if_eq (tgt := 31) hx hb d_S_count_18 (by decide) (fun _ => ?_) (fun h => absurd h (by decide))
        refine lv_iconst (v := (-1)) hx hb d_S_count_31 (by decide) ?_
        exact W.iret (v := (-1)) hx hb hr (fun t ht hW => ⟨_, rfl, by simp only [p_count, s_ci_m hq hj], ht⟩) (fun _ h => by cases h) d_S_count_32
      · refine lv_astore_n (lv' := [(3, .ref (ad j)), (0, .ref x), (1, .int cx)]) hx hb d_S_count_13 rfl hl (by decide) rfl (fun ls hl => ?_)
        refine lv_aload_n hx hb d_S_count_14 rfl (lv_at hl 0 rfl) ?_
        refine va_instNo hx hb hown (ht _ cl_S_B) hK.2.nXB (gw_recv hK.1 hP rfl (hR.c3 hj)) d_S_count_15 ?_
        refine lv_if_eq (tgt := 31) hx hb d_S_count_18 (by decide) (fun _ => ?_) (fun h => absurd h (by decide))
        refine lv_iconst (v := (-1)) hx hb d_S_count_31 (by decide) ?_
        exact W.iret (v := (-1)) hx hb hr (fun t ht hW => ⟨_, rfl, by simp only [p_count, s_ci_c hreg hq (Or.inl hj)]; rw [if_neg (by omega)], ht⟩) (fun _ h => by cases h) d_S_count_32
      · refine lv_astore_n (lv' := [(3, .ref (ad j)), (0, .ref x), (1, .int cx)]) hx hb d_S_count_13 rfl hl (by decide) rfl (fun ls hl => ?_)
        refine lv_aload_n hx hb d_S_count_14 rfl (lv_at hl 0 rfl) ?_
        refine va_instY hx hb hown (ht _ cl_S_B) (hK.2.1 _ ca_B_B) (gw_recv hK.1 hP rfl (hR.c4 hj)) d_S_count_15 ?_
        refine lv_if_eq (tgt := 31) hx hb d_S_count_18 (by decide) (fun h => absurd h (by decide)) (fun _ => ?_)
        refine lv_aload_n hx hb d_S_count_21 rfl (lv_at hl 0 rfl) ?_
        refine va_castY hx hb hown (ht _ cl_S_B) (hK.2.1 _ ca_B_B) (gw_recv hK.1 hP rfl (hR.c4 hj)) d_S_count_22 ?_
        refine lv_astore_n (lv' := [(2, .ref (ad j)), (3, .ref (ad j)), (0, .ref x), (1, .int cx)]) hx hb d_S_count_25 rfl hl (by decide) rfl (fun ls hl => ?_)
        refine lv_aload_n hx hb d_S_count_26 rfl (lv_at hl 0 rfl) ?_
        refine va_getN (D := D) (ci := 4) (C := "StackRoom$BlockContext") (T := T_B) (N := 8) (v := .int (s_ct σ j)) hx hb ht in_B hown hK.1 (hP.one (hR.c4 hj)) 0 rfl rfl 7 (by decide) (va_Nw.use rfl (hK.2.1 _ fn_S_B_count)) (fun _ h9 => h9) rfl d_S_count_27 ?_
        exact W.iret (v := (s_ct σ j)) hx hb hr (fun t ht hW => ⟨_, rfl, by simp only [p_count, s_ci_c hreg hq (Or.inr hj)]; rw [if_pos hj], ht⟩) (fun _ h => by cases h) d_S_count_30
end K18
end
