/-! CALLS, with the tables' good words for every method. -/
theorem gi_3 {a b c : Cond} {ws : List Cond} (h1 : a ∈ gt) (h2 : b ∈ gt) (h3 : c ∈ gt) (hG : GoodIn gt ws) : GoodIn gt (([a, b, c] : List Cond) ++ ws) := gi_all (List.forall_mem_cons.mpr ⟨h1, List.forall_mem_cons.mpr ⟨h2, List.forall_mem_cons.mpr ⟨h3, fun _ h => absurd h List.not_mem_nil⟩⟩⟩) hG
theorem gi_4 {a b c d : Cond} {ws : List Cond} (h1 : a ∈ gt) (h2 : b ∈ gt) (h3 : c ∈ gt) (h4 : d ∈ gt) (hG : GoodIn gt ws) : GoodIn gt (([a, b, c, d] : List Cond) ++ ws) := gi_all (List.forall_mem_cons.mpr ⟨h1, List.forall_mem_cons.mpr ⟨h2, List.forall_mem_cons.mpr ⟨h3, List.forall_mem_cons.mpr ⟨h4, fun _ h => absurd h List.not_mem_nil⟩⟩⟩⟩) hG
theorem gi_5 {a b c d e : Cond} {ws : List Cond} (h1 : a ∈ gt) (h2 : b ∈ gt) (h3 : c ∈ gt) (h4 : d ∈ gt) (h5 : e ∈ gt) (hG : GoodIn gt ws) : GoodIn gt (([a, b, c, d, e] : List Cond) ++ ws) := gi_all (List.forall_mem_cons.mpr ⟨h1, List.forall_mem_cons.mpr ⟨h2, List.forall_mem_cons.mpr ⟨h3, List.forall_mem_cons.mpr ⟨h4, List.forall_mem_cons.mpr ⟨h5, fun _ h => absurd h List.not_mem_nil⟩⟩⟩⟩⟩) hG
/-- what a method's descriptor says of its name and number of arguments -/
abbrev hD (y : MethodName) (n : Nat) : Prop := y.cls ≠ "java/lang/invoke/MethodHandle" ∧ y.cls ≠ "java/lang/invoke/VarHandle" ∧ (parseMethodDescriptor y.desc).map (fun d => d.parameters.length) = some n
theorem g_fin {D : va_G} {G G1 : gw_G} {sz : Nat} {t : State} {H : Heap} (ht : t.heap = H) (hP : gw_P D vwCl (gw_A G sz) G1 H) : g_end D G sz G1 t := by
  show gw_P D vwCl (gw_A G sz) G1 t.heap
  rw [ht]
  exact hP
section RUNS
variable {p : Program} {l : Launch} {e : Env} {R : Room} {s : State} {m : MethodId} {args : Array Value} {below : List Frame} {meth : Method} {c : Code} {H : Heap} {locs : List Loc} {cells slots : Nat} {Q : State → Prop}
variable {x y : MethodName} {bytes cc : ByteArray} {maxL nL mc ms n index pc : Nat} {ret : Option FieldType} {rm : Room} {Pc : Array Value → State → Prop} {Qc : Array Value → State → Outcome → State → Prop} {free : Addr → Prop} {own C owner host : String} {b : Addr} {As rest st0 : List Value} {ls : Array Slot}
theorem r_S (C0 : CallFix p m c cc nL s args gt own) (As : List Value) (hM : Met l y (Cond.code y bytes maxL ret :: gt) rm Pc Qc mc ms free) (h1 : Cond.methodLink own index y ∈ gt) (h2 : Cond.static y ∈ gt) (h3 : Cond.initialized y.cls ∈ gt) (h4 : Cond.code y bytes maxL ret ∈ gt) (hd : hD y n) (hp : PreS s H Pc As) (hsz : ls.size = nL) (hdg : decode cc pc = .ok (.invokestatic index, 3))
    (hst : st0 = As.reverse ++ rest) (hn : As.length = n) (hro : (rest.map fun v => v.category).sum ≤ 8) (hrm : rm.cells = mc ∧ rm.slots = ms) (hR : rm.frames + 1 ≤ R.frames ∧ 8 + (maxL + 11) + rm.locals ≤ R.locals) (hf : cells + mc ≤ R.cells ∧ slots + ms ≤ R.slots) : va_Run p l e R s m args below meth c H locs cells slots mc ms (F0 m pc ls st0) rest (Qc As.toArray) free :=
  va_runS C0 hM (va_cwS n C0.2.2.2.2 (gi_3 h1 h2 h3 (gi_ws h4)) rfl hrm.1 hrm.2 hd hR) hp rfl hn hsz hst (lv_room hro) hdg hf
theorem r_V (C0 : CallFix p m c cc nL s args gt own) (As : List Value) (hM : Met l y (Cond.code y bytes maxL ret :: gt) rm Pc Qc mc ms free) (h1 : Cond.methodLink own index y ∈ gt) (h2 : Cond.instanceMethod y ∈ gt) (h5 : Cond.selects C y y ∈ gt) (h3 : Cond.initialized C ∈ gt) (h4 : Cond.code y bytes maxL ret ∈ gt) (hd : y.cls = C ∧ hD y n) (hp : PreV s H C b Pc As) (hsz : ls.size = nL) (hdg : decode cc pc = .ok (.invokevirtual index, 3))
    (hst : st0 = As.reverse ++ .ref b :: rest) (hn : As.length = n) (hro : (rest.map fun v => v.category).sum ≤ 8) (hrm : rm.cells = mc ∧ rm.slots = ms) (hR : rm.frames + 1 ≤ R.frames ∧ 8 + (maxL + 11) + rm.locals ≤ R.locals) (hf : cells + mc ≤ R.cells ∧ slots + ms ≤ R.slots) : va_Run p l e R s m args below meth c H locs cells slots mc ms (F0 m pc ls st0) rest (Qc (Value.ref b :: As).toArray) free :=
  va_runV C0 hM (cwV n C0.2.2.2.2 (gi_4 h1 h2 h5 h3 (gi_ws h4)) rfl hrm.1 hrm.2 hd hR) hp rfl hn hsz hst (lv_room hro) hdg hf
/-- an inherited method -/
theorem r_U (C0 : CallFix p m c cc nL s args gt own) (As : List Value) (hM : Met l y (Cond.code y bytes maxL ret :: gt) rm Pc Qc mc ms free) (h1 : Cond.methodLink own index x ∈ gt) (h6 : Cond.sameMethod x.cls owner x.name x.desc ∈ gt) (h5 : Cond.selects C x y ∈ gt) (h2 : Cond.instanceMethod y ∈ gt) (h3 : Cond.initialized y.cls ∈ gt) (h4 : Cond.code y bytes maxL ret ∈ gt) (hyx : y = ⟨owner, x.name, x.desc⟩) (hd : owner ≠ "java/lang/invoke/MethodHandle" ∧ owner ≠ "java/lang/invoke/VarHandle" ∧ (parseMethodDescriptor x.desc).map (fun d => d.parameters.length) = some n) (hp : PreV s H C b Pc As) (hsz : ls.size = nL) (hdg : decode cc pc = .ok (.invokevirtual index, 3))
    (hst : st0 = As.reverse ++ .ref b :: rest) (hn : As.length = n) (hro : (rest.map fun v => v.category).sum ≤ 8) (hrm : rm.cells = mc ∧ rm.slots = ms) (hR : rm.frames + 1 ≤ R.frames ∧ 8 + (maxL + 11) + rm.locals ≤ R.locals) (hf : cells + mc ≤ R.cells ∧ slots + ms ≤ R.slots) : va_Run p l e R s m args below meth c H locs cells slots mc ms (F0 m pc ls st0) rest (Qc (Value.ref b :: As).toArray) free :=
  va_runU C0 hM (va_cwU n C0.2.2.2.2 (gi_5 h1 h6 h5 h2 h3 (gi_ws h4)) rfl hrm.1 hrm.2 hyx hd hR) hp rfl hn hsz hst (lv_room hro) hdg hf
/-- an abstract method's kinds -/
theorem r_A (C0 : CallFix p m c cc nL s args gt own) (As : List Value) (hM : Met l y (Cond.code y bytes maxL ret :: gt) rm Pc Qc mc ms free) (h1 : Cond.methodLink own index x ∈ gt) (h6 : Cond.sameMethod x.cls owner x.name x.desc ∈ gt) (h5 : Cond.selects C x y ∈ gt) (h2 : Cond.instanceMethod y ∈ gt) (h3 : Cond.initialized y.cls ∈ gt) (h4 : Cond.code y bytes maxL ret ∈ gt) (hz : va_Nw (.declares ⟨owner, x.name, x.desc⟩) s) (hd : owner ≠ "java/lang/invoke/MethodHandle" ∧ owner ≠ "java/lang/invoke/VarHandle" ∧ (parseMethodDescriptor x.desc).map (fun d => d.parameters.length) = some n) (hp : PreV s H C b Pc As) (hsz : ls.size = nL) (hdg : decode cc pc = .ok (.invokevirtual index, 3))
    (hst : st0 = As.reverse ++ .ref b :: rest) (hn : As.length = n) (hro : (rest.map fun v => v.category).sum ≤ 8) (hrm : rm.cells = mc ∧ rm.slots = ms) (hR : rm.frames + 1 ≤ R.frames ∧ 8 + (maxL + 11) + rm.locals ≤ R.locals) (hf : cells + mc ≤ R.cells ∧ slots + ms ≤ R.slots) : va_Run p l e R s m args below meth c H locs cells slots mc ms (F0 m pc ls st0) rest (Qc (Value.ref b :: As).toArray) free :=
  va_runU C0 hM (va_cwA n C0.2.2.2.2 (gi_5 h1 h6 h5 h2 h3 (gi_ws h4)) rfl hrm.1 hrm.2 hz hd hR) hp rfl hn hsz hst (lv_room hro) hdg hf
theorem r_I (C0 : CallFix p m c cc nL s args gt own) (As : List Value) (hM : Met l y (Cond.code y bytes maxL none :: gt) rm Pc Qc mc ms free) (h1 : Cond.methodLink own index y ∈ gt) (h2 : Cond.instanceMethod y ∈ gt) (h3 : Cond.initialized y.cls ∈ gt) (h4 : Cond.code y bytes maxL none ∈ gt) (hy : y.name = "<init>") (hd : hD y n) (hp : PreS s H Pc (.ref b :: As)) (hsz : ls.size = nL) (hdg : decode cc pc = .ok (.invokespecial index, 3))
    (hst : st0 = As.reverse ++ .ref b :: rest) (hn : As.length = n) (hro : (rest.map fun v => v.category).sum ≤ 8) (hrm : rm.cells = mc ∧ rm.slots = ms) (hR : rm.frames + 1 ≤ R.frames ∧ 8 + (maxL + 11) + rm.locals ≤ R.locals) (hf : cells + mc ≤ R.cells ∧ slots + ms ≤ R.slots) : va_Run p l e R s m args below meth c H locs cells slots mc ms (F0 m pc ls st0) rest (Qc (Value.ref b :: As).toArray) free :=
  va_runI C0 hM (cwI n C0.2.2.2.2 (gi_ws h4) rfl hrm.1 hrm.2 (C0.2.2.2.2 _ h3) (C0.2.2.2.2 _ h1) (C0.2.2.2.2 _ h2) hy hd hR) hp rfl hn hsz hst (lv_room hro) hdg hf
theorem r_IN (C0 : CallFix p m c cc nL s args gt own) (As : List Value) (hM : Met l y (Cond.code y bytes maxL none :: gt) rm Pc Qc mc ms free) (h1 : va_Nw (.methodLinkNest own index y host) s) (h2 : Cond.instanceMethod y ∈ gt) (h3 : Cond.initialized y.cls ∈ gt) (h4 : Cond.code y bytes maxL none ∈ gt) (hy : y.name = "<init>") (hd : hD y n) (hp : PreS s H Pc (.ref b :: As)) (hsz : ls.size = nL) (hdg : decode cc pc = .ok (.invokespecial index, 3))
    (hst : st0 = As.reverse ++ .ref b :: rest) (hn : As.length = n) (hro : (rest.map fun v => v.category).sum ≤ 8) (hrm : rm.cells = mc ∧ rm.slots = ms) (hR : rm.frames + 1 ≤ R.frames ∧ 8 + (maxL + 11) + rm.locals ≤ R.locals) (hf : cells + mc ≤ R.cells ∧ slots + ms ≤ R.slots) : va_Run p l e R s m args below meth c H locs cells slots mc ms (F0 m pc ls st0) rest (Qc (Value.ref b :: As).toArray) free :=
  va_runIN C0 hM ⟨va_cnB n C0.2.2.2.2 (gi_ws h4) rfl hrm.1 hrm.2 h1 (C0.2.2.2.2 _ h3) hd hR, hy, C0.2.2.2.2 _ h2⟩ hp rfl hn hsz hst (lv_room hro) hdg hf
-- what goes on behind a call that changes cells
variable {D : va_G} {A : Nat → Prop} {G : gw_G} {H0 : Heap} {a : Array Value}
theorem g_calli {post : Int32 → gw_G → Prop} (hP : gw_P D vwCl A G H) (hS : va_S A H0 H locs) (hA : ∀ q, H0.size ≤ q → A q) (hr : va_Run p l e R s m args below meth c H locs cells slots mc ms (F0 m pc ls st0) rest (va_Qi post (g_end D G H.size) (gw_A G H.size) a) (gw_A G H.size))
    (kk : ∀ (r : Int32) (G1 : gw_G) (H1 : Heap) (locs1 : List Loc), post r G1 → gw_P D vwCl A G1 H1 → va_S A H0 H1 locs1 → H.size ≤ H1.size → (∀ q : Nat, q < H.size → ¬ gw_A G H.size q → H1[q]? = H[q]?) → W p l e R s m args below meth c H1 locs1 (cells + mc) (slots + ms) Q (F0 m (pc + 3) ls (.int r :: rest))) : W p l e R s m args below meth c H locs cells slots Q (F0 m pc ls st0) :=
  va_calli hr hS (fun q _ h => gw_free hP hS hA q h) (gw_free hP hS hA) (fun r u t H1 locs1 ht _ hw hB hz hk hS1 => kk r u H1 locs1 hw (gw_join hP hS hA (ht ▸ hB)) hS1 hz hk)
theorem g_callv {post : gw_G → Prop} (hP : gw_P D vwCl A G H) (hS : va_S A H0 H locs) (hA : ∀ q, H0.size ≤ q → A q) (hr : va_Run p l e R s m args below meth c H locs cells slots mc ms (F0 m pc ls st0) rest (va_Qv post (g_end D G H.size) (gw_A G H.size) a) (gw_A G H.size))
    (kk : ∀ (G1 : gw_G) (H1 : Heap) (locs1 : List Loc), post G1 → gw_P D vwCl A G1 H1 → va_S A H0 H1 locs1 → H.size ≤ H1.size → (∀ q : Nat, q < H.size → ¬ gw_A G H.size q → H1[q]? = H[q]?) → W p l e R s m args below meth c H1 locs1 (cells + mc) (slots + ms) Q (F0 m (pc + 3) ls rest)) : W p l e R s m args below meth c H locs cells slots Q (F0 m pc ls st0) :=
  va_callv hr hS (fun q _ h => gw_free hP hS hA q h) (gw_free hP hS hA) (fun u t H1 locs1 ht _ hw hB hz hk hS1 => kk u H1 locs1 hw (gw_join hP hS hA (ht ▸ hB)) hS1 hz hk)
theorem g_callq {post : Option Nat → gw_G → Prop} (hP : gw_P D vwCl A G H) (hS : va_S A H0 H locs) (hA : ∀ q, H0.size ≤ q → A q) (hr : va_Run p l e R s m args below meth c H locs cells slots mc ms (F0 m pc ls st0) rest (va_Qq post (g_end D G H.size) (gw_A G H.size) a) (gw_A G H.size))
    (kk : ∀ (r : Option Nat) (G1 : gw_G) (H1 : Heap) (locs1 : List Loc), post r G1 → gw_P D vwCl A G1 H1 → va_S A H0 H1 locs1 → H.size ≤ H1.size → (∀ q : Nat, q < H.size → ¬ gw_A G H.size q → H1[q]? = H[q]?) → W p l e R s m args below meth c H1 locs1 (cells + mc) (slots + ms) Q (F0 m (pc + 3) ls (va_rf r :: rest))) : W p l e R s m args below meth c H locs cells slots Q (F0 m pc ls st0) :=
  va_callq hr hS (fun q _ h => gw_free hP hS hA q h) (gw_free hP hS hA) (fun r u t H1 locs1 ht _ hw hB hz hk hS1 => kk r u H1 locs1 hw (gw_join hP hS hA (ht ▸ hB)) hS1 hz hk)
end RUNS
theorem hd_S_init : hD y_S_init 2 := by decide +kernel
theorem hd_O_init : hD y_O_init 0 := by decide +kernel
theorem hd_S_isWithin : hD y_S_isWithin 3 := by decide +kernel
theorem hd_S_number : hD y_S_number 2 := by decide +kernel
theorem hd_S_isRegister : hD y_S_isRegister 1 := by decide +kernel
theorem hd_S_isNumber : hD y_S_isNumber 1 := by decide +kernel
theorem hd_W_init : hD y_W_init 1 := by decide +kernel
theorem hd_V_init : hD y_V_init 0 := by decide +kernel
theorem hd_S_move : hD y_S_move 2 := by decide +kernel
theorem hd_S_clear : hD y_S_clear 1 := by decide +kernel
theorem hd_S_kind : hD y_S_kind 1 := by decide +kernel
theorem hd_B_kindCode : hD y_B_kindCode 0 := by decide +kernel
theorem hd_M_kindCode : hD y_M_kindCode 0 := by decide +kernel
theorem hd_X_kindCode : hD y_X_kindCode 0 := by decide +kernel
theorem hd_W_kindCode : hD y_W_kindCode 0 := by decide +kernel
theorem hd_S_value : hD y_S_value 1 := by decide +kernel
theorem hd_T_shown : hD y_T_shown 0 := by decide +kernel
theorem hd_W_shown : hD y_W_shown 0 := by decide +kernel
theorem hd_S_method : hD y_S_method 4 := by decide +kernel
theorem hd_S_areMethodNumbers : hD y_S_areMethodNumbers 3 := by decide +kernel
theorem hd_S_canBeMade : hD y_S_canBeMade 2 := by decide +kernel
theorem hd_S_survey : hD y_S_survey 0 := by decide +kernel
theorem hd_S_reach : hD y_S_reach 1 := by decide +kernel
theorem hd_C_wordsTaken : hD y_C_wordsTaken 0 := by decide +kernel
theorem hd_B_headFields : hD y_B_headFields 0 := by decide +kernel
theorem hd_X_headFields : hD y_X_headFields 0 := by decide +kernel
theorem hd_M_wordsTaken : hD y_M_wordsTaken 0 := by decide +kernel
theorem hd_C_entriesTaken : hD y_C_entriesTaken 0 := by decide +kernel
theorem hd_M_entriesTaken : hD y_M_entriesTaken 0 := by decide +kernel
theorem hd_S_reachPartsOf : hD y_S_reachPartsOf 1 := by decide +kernel
theorem hd_B_origin : hD y_B_origin 0 := by decide +kernel
theorem hd_X_origin : hD y_X_origin 0 := by decide +kernel
theorem hd_M_init : hD y_M_init 3 := by decide +kernel
theorem hd_T_init : hD y_T_init 1 := by decide +kernel
theorem hd_S_change : hD y_S_change 4 := by decide +kernel
theorem hd_S_methodIn : hD y_S_methodIn 1 := by decide +kernel
theorem hd_M_setNumbers : hD y_M_setNumbers 2 := by decide +kernel
theorem hd_S_context : hD y_S_context 3 := by decide +kernel
theorem hd_S_isSender : hD y_S_isSender 1 := by decide +kernel
theorem hd_S_contextIn : hD y_S_contextIn 1 := by decide +kernel
theorem hd_X_init : hD y_X_init 3 := by decide +kernel
theorem hd_C_init : hD y_C_init 5 := by decide +kernel
theorem hd_S_block : hD y_S_block 3 := by decide +kernel
theorem hd_B_homeContext : hD y_B_homeContext 0 := by decide +kernel
theorem hd_X_homeContext : hD y_X_homeContext 0 := by decide +kernel
theorem hd_B_init : hD y_B_init 3 := by decide +kernel
theorem hd_S_push : hD y_S_push 2 := by decide +kernel
theorem hd_C_isFull : hD y_C_isFull 0 := by decide +kernel
theorem hd_C_pushOne : hD y_C_pushOne 1 := by decide +kernel
theorem hd_C_putField : hD y_C_putField 2 := by decide +kernel
theorem hd_C_hasField : hD y_C_hasField 1 := by decide +kernel
theorem hd_S_fill : hD y_S_fill 3 := by decide +kernel
theorem hd_S_areNumbers : hD y_S_areNumbers 2 := by decide +kernel
theorem hd_S_pop : hD y_S_pop 2 := by decide +kernel
theorem hd_C_depthNow : hD y_C_depthNow 0 := by decide +kernel
theorem hd_B_floorNow : hD y_B_floorNow 0 := by decide +kernel
theorem hd_X_floorNow : hD y_X_floorNow 0 := by decide +kernel
theorem hd_C_popOne : hD y_C_popOne 0 := by decide +kernel
theorem hd_C_fieldAt : hD y_C_fieldAt 1 := by decide +kernel
theorem hd_S_peek : hD y_S_peek 3 := by decide +kernel
theorem hd_S_drop : hD y_S_drop 2 := by decide +kernel
theorem hd_S_height : hD y_S_height 1 := by decide +kernel
theorem hd_S_room : hD y_S_room 1 := by decide +kernel
theorem hd_S_floor : hD y_S_floor 1 := by decide +kernel
theorem hd_S_count : hD y_S_count 1 := by decide +kernel
theorem hd_S_home : hD y_S_home 2 := by decide +kernel
theorem hd_S_sender : hD y_S_sender 2 := by decide +kernel
theorem hd_S_send : hD y_S_send 2 := by decide +kernel
theorem hd_S_kill : hD y_S_kill 2 := by decide +kernel
theorem hd_S_temporary : hD y_S_temporary 3 := by decide +kernel
theorem hd_X_hasTemporary : hD y_X_hasTemporary 1 := by decide +kernel
theorem hd_S_keep : hD y_S_keep 3 := by decide +kernel
theorem hd_S_words : hD y_S_words 0 := by decide +kernel
theorem hd_S_entries : hD y_S_entries 0 := by decide +kernel
theorem hd_S_contexts : hD y_S_contexts 0 := by decide +kernel
theorem hd_L_cell : hD y_L_cell 2 := by decide +kernel
theorem hd_R_init : hD y_R_init 2 := by decide +kernel
theorem hd_R_words : hD y_R_words 0 := by decide +kernel
theorem hd_R_look : hD y_R_look 0 := by decide +kernel
theorem hd_R_see : hD y_R_see 1 := by decide +kernel
theorem hd_R_isObject : hD y_R_isObject 1 := by decide +kernel
theorem hd_R_entries : hD y_R_entries 0 := by decide +kernel
theorem hd_R_contexts : hD y_R_contexts 0 := by decide +kernel
theorem hd_R_number : hD y_R_number 2 := by decide +kernel
theorem hd_R_isRegister : hD y_R_isRegister 1 := by decide +kernel
theorem hd_R_isNumber : hD y_R_isNumber 1 := by decide +kernel
theorem hd_R_numeral : hD y_R_numeral 1 := by decide +kernel
theorem hd_R_move : hD y_R_move 2 := by decide +kernel
theorem hd_R_clear : hD y_R_clear 1 := by decide +kernel
theorem hd_R_kind : hD y_R_kind 1 := by decide +kernel
theorem hd_R_value : hD y_R_value 1 := by decide +kernel
theorem hd_R_method : hD y_R_method 4 := by decide +kernel
theorem hd_R_isMethod : hD y_R_isMethod 3 := by decide +kernel
theorem hd_R_make : hD y_R_make 4 := by decide +kernel
theorem hd_R_letGo : hD y_R_letGo 0 := by decide +kernel
theorem hd_R_give : hD y_R_give 4 := by decide +kernel
theorem hd_R_change : hD y_R_change 4 := by decide +kernel
theorem hd_R_objectIn : hD y_R_objectIn 3 := by decide +kernel
theorem hd_R_context : hD y_R_context 3 := by decide +kernel
theorem hd_R_isNilOrContext : hD y_R_isNilOrContext 1 := by decide +kernel
theorem hd_R_contextIn : hD y_R_contextIn 1 := by decide +kernel
theorem hd_R_settle : hD y_R_settle 6 := by decide +kernel
theorem hd_R_block : hD y_R_block 3 := by decide +kernel
theorem hd_R_homeOf : hD y_R_homeOf 1 := by decide +kernel
theorem hd_R_push : hD y_R_push 2 := by decide +kernel
theorem hd_R_pushes : hD y_R_pushes 2 := by decide +kernel
theorem hd_R_fill : hD y_R_fill 3 := by decide +kernel
theorem hd_R_pop : hD y_R_pop 2 := by decide +kernel
theorem hd_R_floorOf : hD y_R_floorOf 1 := by decide +kernel
theorem hd_R_popped : hD y_R_popped 1 := by decide +kernel
theorem hd_R_peek : hD y_R_peek 3 := by decide +kernel
theorem hd_R_drop : hD y_R_drop 2 := by decide +kernel
theorem hd_R_height : hD y_R_height 1 := by decide +kernel
theorem hd_R_room : hD y_R_room 1 := by decide +kernel
theorem hd_R_floor : hD y_R_floor 1 := by decide +kernel
theorem hd_R_count : hD y_R_count 1 := by decide +kernel
theorem hd_R_home : hD y_R_home 2 := by decide +kernel
theorem hd_R_sender : hD y_R_sender 2 := by decide +kernel
theorem hd_R_send : hD y_R_send 2 := by decide +kernel
theorem hd_R_kill : hD y_R_kill 2 := by decide +kernel
theorem hd_R_temporary : hD y_R_temporary 3 := by decide +kernel
theorem hd_R_placeOf : hD y_R_placeOf 2 := by decide +kernel
theorem hd_R_keep : hD y_R_keep 3 := by decide +kernel
