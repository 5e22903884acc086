theorem k_arr_int {D : va_G} {cl : List vw_C} {s : State} {cA cB : ClassId} {t0 : Nat} {tys : List (ClassId × FieldType)} (h0 : va_K D cl tys s) (ht0 : tys[t0]? = some (cB, .int)) (h1 : va_K D cl (tys ++ [(cA, .int)]) s) : cB = cA := by
  have a : s.vm.findClass ("[" ++ FieldType.int.toString) = some cB := (h0.2 t0 _ ht0).2
  have b : s.vm.findClass ("[" ++ FieldType.int.toString) = some cA := (h1.2 tys.length (cA, .int) (by rw [List.getElem?_append_right (Nat.le_refl _), Nat.sub_self]; rfl)).2
  exact Option.some.inj (a.symm.trans b)
theorem k_arr_byte {D : va_G} {cl : List vw_C} {s : State} {cA cB : ClassId} {t0 : Nat} {tys : List (ClassId × FieldType)} (h0 : va_K D cl tys s) (ht0 : tys[t0]? = some (cB, .byte)) (h1 : va_K D cl (tys ++ [(cA, .byte)]) s) : cB = cA := by
  have a : s.vm.findClass ("[" ++ FieldType.byte.toString) = some cB := (h0.2 t0 _ ht0).2
  have b : s.vm.findClass ("[" ++ FieldType.byte.toString) = some cA := (h1.2 tys.length (cA, .byte) (by rw [List.getElem?_append_right (Nat.le_refl _), Nat.sub_self]; rfl)).2
  exact Option.some.inj (a.symm.trans b)
theorem k_arr_boolean {D : va_G} {cl : List vw_C} {s : State} {cA cB : ClassId} {t0 : Nat} {tys : List (ClassId × FieldType)} (h0 : va_K D cl tys s) (ht0 : tys[t0]? = some (cB, .boolean)) (h1 : va_K D cl (tys ++ [(cA, .boolean)]) s) : cB = cA := by
  have a : s.vm.findClass ("[" ++ FieldType.boolean.toString) = some cB := (h0.2 t0 _ ht0).2
  have b : s.vm.findClass ("[" ++ FieldType.boolean.toString) = some cA := (h1.2 tys.length (cA, .boolean) (by rw [List.getElem?_append_right (Nat.le_refl _), Nat.sub_self]; rfl)).2
  exact Option.some.inj (a.symm.trans b)
theorem m_a0 {ty : FieldType} (h : defaultValue ty = .int 0) {N : Nat} (cA : ClassId) : vp_cell cA (N, .inl (fun _ => 0)) = arrV cA N (fun _ => defaultValue ty) := by
  rw [h]
  rfl
theorem s_new_rch (i : Nat) : ¬ s_rch s_new i := fun h => h (fun _ => False) (fun r _ j hj => by cases hj) (fun _ _ h _ => h)
theorem s_new_OK (wa na : Int32) : s_OK (c_w wa) (c_n na) s_new := by
  have hall : s_all s_new = [] := by
    unfold s_all
    rw [List.filter_eq_nil_iff]
    exact fun a _ h => s_new_rch a (@of_decide_eq_true _ (Classical.propDecidable _) h)
  have h1 := c_w_in wa
  have h2 := c_n_in na
  refine ⟨⟨Nat.le_refl _, fun i hi => absurd rfl hi, fun r _ i hi => (by cases hi), fun i hi => absurd (show (0 : Nat) = 2 from hi) (by decide), fun i hi => absurd (show (0 : Nat) = 3 from hi) (by decide), fun i hi => absurd (show (0 : Nat) = 4 from hi) (by decide), fun i hi => absurd hi (s_new_nc i)⟩, ?_, ?_⟩
  · unfold s_W
    rw [hall]
    show 0 + 8 ≤ c_w wa
    omega
  · unfold s_N
    rw [hall]
    show 0 + 2 ≤ c_n na
    omega
theorem s_new_NV : s_NV s_new := ⟨fun r _ v hv => (by cases hv), fun i hi => absurd hi (s_new_nc i)⟩
/-- the arrays up to K are there -/
def m_Ini (K : Nat) (cI cB cZ : ClassId) (adr : Nat → Nat) (G : gw_G) : Prop := (∀ k, m_isA k → k ≤ K → G (adr k) = some (.inl (m_cl cI cB cZ k, m_len k, .inl (fun _ => 0)))) ∧ ∀ j k, m_isA j → m_isA k → j ≤ K → k ≤ K → adr j = adr k → j = k
theorem m_Ini.zero {cI cB cZ : ClassId} {adr : Nat → Nat} {G : gw_G} : m_Ini 2 cI cB cZ adr G := ⟨fun k h1 h2 => absurd h1.1 (by omega), fun j k h1 _ h2 => absurd h1.1 (by omega)⟩
theorem m_Ini.x {K : Nat} {cI cB cZ : ClassId} {adr : Nat → Nat} {G : gw_G} {x : Nat} {c0 : Nat × List Value} {e : Option va_E} (h : m_Ini K cI cB cZ adr G) (hx : G x = some (.inr c0)) : m_Ini K cI cB cZ adr (va_up G x e) := ⟨fun k h1 h2 => gw_up (h.1 k h1 h2) (gw_ne (h.1 k h1 h2) hx (fun z => by cases z)), h.2⟩
theorem m_Ini.new {K : Nat} {cI cB cZ : ClassId} {adr : Nat → Nat} {G : gw_G} {q : Nat} (h : m_Ini K cI cB cZ adr G) (hq : G q = none) (k : Nat) (hn : ∀ j, m_isA j → j ≤ k → j ≤ K ∨ j = k) (hk : K < k) : m_Ini k cI cB cZ (va_up adr k q) (va_up G q (some (.inl (m_cl cI cB cZ k, m_len k, .inl (fun _ => 0))))) := by
  have hne : ∀ j, m_isA j → j ≤ K → adr j ≠ q := fun j h1 h2 e => by
    have := h.1 j h1 h2
    rw [e, hq] at this
    cases this
  refine ⟨fun j h1 h2 => ?_, fun i j h1 h2 h3 h4 e => ?_⟩
  · rcases hn j h1 h2 with z | z
    · rw [va_up_ne _ _ (show j ≠ k by omega), va_up_ne _ _ (hne j h1 z)]
      exact h.1 j h1 z
    · subst z
      rw [va_up_self, va_up_self]
  · rcases hn i h1 h3 with z | z <;> rcases hn j h2 h4 with y | y
    · rw [va_up_ne _ _ (show i ≠ k by omega), va_up_ne _ _ (show j ≠ k by omega)] at e
      exact h.2 i j h1 h2 z y e
    · rw [va_up_ne _ _ (show i ≠ k by omega), y, va_up_self] at e
      exact absurd e (hne i h1 z)
    · rw [va_up_ne _ _ (show j ≠ k by omega), z, va_up_self] at e
      exact absurd e.symm (hne j h2 y)
    · omega
theorem m_Sem_new : m_Sem (s_rch s_new) s_new (fun _ => 0) (fun _ => 0) 0 (fun _ _ => 0) :=
  ⟨fun r _ => rfl, fun i hi => absurd hi (s_new_rch i), fun i hi => absurd hi (s_new_rch i), fun i hi => absurd hi (s_new_rch i), fun i hi => absurd hi (s_new_rch i), fun i hi => absurd hi (s_new_rch i), fun i j hi => absurd hi (s_new_rch i), fun i j k q hi => absurd hi (s_new_rch i), Nat.zero_le _⟩
section K39
variable {cI cB cZ : ClassId} {x w n md : Nat} {adr : Nat → Nat} {us r0 r1 r2 r3 : Int32} {ar : Nat → Nat → Int32} {G : gw_G} {σ : sS} {sl bg : Nat → Nat} {U : Nat} {D : va_G} {tys : List (ClassId × FieldType)} {sz : Nat}
set_option maxHeartbeats 4000000 in
set_option maxRecDepth 100000 in
theorem k_R_init (l : Launch) (ha : G x = some (.inr (kR, [.int 0, .int 0, .int 0, .null, .null, .null, .null, .null, .null, .null, .null, .null, .null, .null, .null, .null, .null, .null, .int 0, .null, .null, .int 0, .int 0, .int 0, .int 0]))) (ht2 : tys[2]? = some (cI, .int)) (ht3 : tys[3]? = some (cB, .byte)) (ht4 : tys[4]? = some (cZ, .boolean)) (wa na : Int32) : Met l y_R_init w_R_init ({ frames := 1, cells := 17, slots := 122896, locals := 20 }) (g_pre D tys G sz [.ref x, .int wa, .int na]) (va_Qv (fun G1 : gw_G => m_R (c_w wa) (c_n na) cI cB cZ s_new x G1) (g_end D G sz) (gw_A G sz)) 17 122896 (gw_A G sz) := by
  refine Met.ofW (cc := b_R_init) (maxL := 3) (ret := none) (by decide) rfl ?_
  intro p e s m args below meth c s₁ B hml hv
  obtain ⟨rfl, hsz, hP, hK⟩ := hv
  have hx := B.exec
  have hb := B.bytes
  have hr := B.returns
  have ht := fun w (hw : w ∈ gt) => atoms_spec (ws := w_R_init) B.pre w (List.mem_cons_of_mem _ hw)
  have hown : s.vm.findClass "StackRoomModel" = some m.cls := findClass_of_methodNamed B.named
  have hlocks := B.notSynchronized
  have hin : meth.name = "<init>" := (name_of_methodNamed B.named B.method).1
  have C0 : CallFix p m c b_R_init 3 s [.ref x, .int wa, .int na].toArray gt "StackRoomModel" := ⟨hx, hb, hml, hown, ht⟩
  subst hsz
  have hP := hP.self (sz := s.heap.size)
  have hA : ∀ q : Nat, s.heap.size ≤ q → gw_A G s.heap.size q := fun q h => Or.inr h
  have hS : va_S (gw_A G s.heap.size) s.heap s.heap [] := va_S.rf
  have hl := lv_entry ([.ref x, .int wa, .int na]) (n := 3) (Nat.le_of_ble_eq_true rfl)
  rw [lg_entry_eq]
  generalize (lg_sl ([.ref x, .int wa, .int na]) ++ List.replicate (3 - (lg_sl ([.ref x, .int wa, .int na])).length) Slot.unset).toArray = ls at hl ⊢
  have hl : lv_has ls 3 [(0, .ref x), (1, .int wa), (2, .int na)] := hl
  refine lv_aload_n hx hb d_R_init_0 rfl (lv_at hl 0 rfl) ?_
  refine W.objInit hx hb hown (ht _ ml_R_O_init) (ht _ im_O_init) (ht _ co_O_init) rfl (by rw [hml]; exact hl.1) rfl d_R_init_1 (Nat.le_of_ble_eq_true rfl) (Nat.le_of_ble_eq_true rfl) ?_
  refine W.eq (g2 := F0 m 4 ls []) rfl ?_
  refine lv_aload_n hx hb d_R_init_4 rfl (lv_at hl 0 rfl) ?_
  refine lv_iconst (v := 2) hx hb d_R_init_5 (by decide) ?_
  refine gw_put (D := D) (cl := vwCl) (ci := 5) (C := "StackRoomModel") (T := T_R) (N := 25) (v := .int 2) (ty := .int) hx hb ht in_R ty_R tk_R nm_R hown hK.1 hP hS ha rfl 2 (by decide) (ht _ fl_R_R_made) (fun _ h9 => h9) rfl (by decide +kernel) rfl rfl (Nat.le_of_ble_eq_true rfl) d_R_init_6 (fun H locs hP hS => ?_)
  obtain ⟨G1, eG1⟩ : ∃ z : gw_G, z = va_up G x (some (.inr (5, [.int 0, .int 0, .int 2, .null, .null, .null, .null, .null, .null, .null, .null, .null, .null, .null, .null, .null, .null, .null, .int 0, .null, .null, .int 0, .int 0, .int 0, .int 0]))) := ⟨_, rfl⟩
  replace hP : gw_P D vwCl (gw_A G s.heap.size) G1 H := by rw [eG1]; exact hP
  have f1 : G1 x = some (.inr (5, [.int 0, .int 0, .int 2, .null, .null, .null, .null, .null, .null, .null, .null, .null, .null, .null, .null, .null, .null, .null, .int 0, .null, .null, .int 0, .int 0, .int 0, .int 0])) := by rw [eG1]; exact va_up_self _ _ _
  have i2 : m_Ini 2 cI cB cZ (fun _ => 0) G1 := m_Ini.zero
  refine lv_aload_n hx hb d_R_init_9 rfl (lv_at hl 0 rfl) ?_
  refine lv_bipush (v := 16) hx hb d_R_init_10 (by decide) ?_
  refine gw_newa (atype := .int) (ty := .int) hx hb (ht _ ac_int) rfl hK.1 hP hS hA (n := 16) (N' := 16) (a0 := (16, .inl (fun _ => 0))) (m_a0 rfl) (by decide) (by decide) (by decide) (Nat.le_of_ble_eq_true rfl) (Nat.le_of_ble_eq_true rfl) d_R_init_12 (fun q3 cA3 H hK1 hP n_q hS => ?_)
  have hcA := k_arr_int hK.1 ht2 hK1
  subst hcA
  clear hK1
  obtain ⟨G2, eG2⟩ : ∃ z : gw_G, z = va_up G1 q3 (some (.inl (cI, 16, .inl (fun _ => 0)))) := ⟨_, rfl⟩
  replace hP : gw_P D vwCl (gw_A G s.heap.size) G2 H := by rw [eG2]; exact hP
  have j3 : m_Ini 3 cI cB cZ (va_up (fun _ => 0) 3 q3) G2 := by rw [eG2]; exact i2.new n_q 3 (fun j h1 h2 => by obtain ⟨z1, z2, z3⟩ := h1; omega) (by decide)
  have hxq : x ≠ q3 := gw_neN f1 n_q
  have f3 : G2 x = some (.inr (5, [.int 0, .int 0, .int 2, .null, .null, .null, .null, .null, .null, .null, .null, .null, .null, .null, .null, .null, .null, .null, .int 0, .null, .null, .int 0, .int 0, .int 0, .int 0])) := by rw [eG2]; exact gw_up f1 hxq
  refine gw_putF (D := D) (cl := vwCl) (ci := 5) (C := "StackRoomModel") (T := T_R) (N := 25) (v := .ref q3) (ty := .array .int) hx hb ht in_R ty_R tk_R nm_R hown hK.1 hP hS f3 rfl 3 (by decide) (ht _ fl_R_R_registers) (fun _ h9 => h9) rfl hin rfl (by decide +kernel) rfl rfl (Nat.le_of_ble_eq_true rfl) d_R_init_14 (fun H locs hP hS => ?_)
  obtain ⟨G4, eG4⟩ : ∃ z : gw_G, z = va_up G2 x (some (.inr (5, [.int 0, .int 0, .int 2, .ref q3, .null, .null, .null, .null, .null, .null, .null, .null, .null, .null, .null, .null, .null, .null, .int 0, .null, .null, .int 0, .int 0, .int 0, .int 0]))) := ⟨_, rfl⟩
  replace hP : gw_P D vwCl (gw_A G s.heap.size) G4 H := by rw [eG4]; exact hP
  have f4 : G4 x = some (.inr (5, [.int 0, .int 0, .int 2, .ref q3, .null, .null, .null, .null, .null, .null, .null, .null, .null, .null, .null, .null, .null, .null, .int 0, .null, .null, .int 0, .int 0, .int 0, .int 0])) := by rw [eG4]; exact va_up_self _ _ _
  have i3 : m_Ini 3 cI cB cZ (va_up (fun _ => 0) 3 q3) G4 := by rw [eG4]; exact j3.x f3
  clear j3 i2 hxq n_q
  refine lv_aload_n hx hb d_R_init_17 rfl (lv_at hl 0 rfl) ?_
  refine lv_sipush (v := 4096) hx hb d_R_init_18 (by decide) ?_
  refine gw_newa (atype := .byte) (ty := .byte) hx hb (ht _ ac_byte) rfl hK.1 hP hS hA (n := 4096) (N' := 4096) (a0 := (4096, .inl (fun _ => 0))) (m_a0 rfl) (by decide) (by decide) (by decide) (Nat.le_of_ble_eq_true rfl) (Nat.le_of_ble_eq_true rfl) d_R_init_21 (fun q4 cA4 H hK1 hP n_q hS => ?_)
  have hcA := k_arr_byte hK.1 ht3 hK1
  subst hcA
  clear hK1
  obtain ⟨G5, eG5⟩ : ∃ z : gw_G, z = va_up G4 q4 (some (.inl (cB, 4096, .inl (fun _ => 0)))) := ⟨_, rfl⟩
  replace hP : gw_P D vwCl (gw_A G s.heap.size) G5 H := by rw [eG5]; exact hP
  have j4 : m_Ini 4 cI cB cZ (va_up (va_up (fun _ => 0) 3 q3) 4 q4) G5 := by rw [eG5]; exact i3.new n_q 4 (fun j h1 h2 => by obtain ⟨z1, z2, z3⟩ := h1; omega) (by decide)
  have hxq : x ≠ q4 := gw_neN f4 n_q
  have f6 : G5 x = some (.inr (5, [.int 0, .int 0, .int 2, .ref q3, .null, .null, .null, .null, .null, .null, .null, .null, .null, .null, .null, .null, .null, .null, .int 0, .null, .null, .int 0, .int 0, .int 0, .int 0])) := by rw [eG5]; exact gw_up f4 hxq
  refine gw_putF (D := D) (cl := vwCl) (ci := 5) (C := "StackRoomModel") (T := T_R) (N := 25) (v := .ref q4) (ty := .array .byte) hx hb ht in_R ty_R tk_R nm_R hown hK.1 hP hS f6 rfl 4 (by decide) (ht _ fl_R_R_kinds) (fun _ h9 => h9) rfl hin rfl (by decide +kernel) rfl rfl (Nat.le_of_ble_eq_true rfl) d_R_init_23 (fun H locs hP hS => ?_)
  obtain ⟨G7, eG7⟩ : ∃ z : gw_G, z = va_up G5 x (some (.inr (5, [.int 0, .int 0, .int 2, .ref q3, .ref q4, .null, .null, .null, .null, .null, .null, .null, .null, .null, .null, .null, .null, .null, .int 0, .null, .null, .int 0, .int 0, .int 0, .int 0]))) := ⟨_, rfl⟩
  replace hP : gw_P D vwCl (gw_A G s.heap.size) G7 H := by rw [eG7]; exact hP
  have f7 : G7 x = some (.inr (5, [.int 0, .int 0, .int 2, .ref q3, .ref q4, .null, .null, .null, .null, .null, .null, .null, .null, .null, .null, .null, .null, .null, .int 0, .null, .null, .int 0, .int 0, .int 0, .int 0])) := by rw [eG7]; exact va_up_self _ _ _
  have i4 : m_Ini 4 cI cB cZ (va_up (va_up (fun _ => 0) 3 q3) 4 q4) G7 := by rw [eG7]; exact j4.x f6
  clear j4 i3 hxq n_q
  refine lv_aload_n hx hb d_R_init_26 rfl (lv_at hl 0 rfl) ?_
  refine lv_sipush (v := 4096) hx hb d_R_init_27 (by decide) ?_
  refine gw_newa (atype := .int) (ty := .int) hx hb (ht _ ac_int) rfl hK.1 hP hS hA (n := 4096) (N' := 4096) (a0 := (4096, .inl (fun _ => 0))) (m_a0 rfl) (by decide) (by decide) (by decide) (Nat.le_of_ble_eq_true rfl) (Nat.le_of_ble_eq_true rfl) d_R_init_30 (fun q5 cA5 H hK1 hP n_q hS => ?_)
  have hcA := k_arr_int hK.1 ht2 hK1
  subst hcA
  clear hK1
  obtain ⟨G8, eG8⟩ : ∃ z : gw_G, z = va_up G7 q5 (some (.inl (cI, 4096, .inl (fun _ => 0)))) := ⟨_, rfl⟩
  replace hP : gw_P D vwCl (gw_A G s.heap.size) G8 H := by rw [eG8]; exact hP
  have j5 : m_Ini 5 cI cB cZ (va_up (va_up (va_up (fun _ => 0) 3 q3) 4 q4) 5 q5) G8 := by rw [eG8]; exact i4.new n_q 5 (fun j h1 h2 => by obtain ⟨z1, z2, z3⟩ := h1; omega) (by decide)
  have hxq : x ≠ q5 := gw_neN f7 n_q
  have f9 : G8 x = some (.inr (5, [.int 0, .int 0, .int 2, .ref q3, .ref q4, .null, .null, .null, .null, .null, .null, .null, .null, .null, .null, .null, .null, .null, .int 0, .null, .null, .int 0, .int 0, .int 0, .int 0])) := by rw [eG8]; exact gw_up f7 hxq
  refine gw_putF (D := D) (cl := vwCl) (ci := 5) (C := "StackRoomModel") (T := T_R) (N := 25) (v := .ref q5) (ty := .array .int) hx hb ht in_R ty_R tk_R nm_R hown hK.1 hP hS f9 rfl 5 (by decide) (ht _ fl_R_R_identities) (fun _ h9 => h9) rfl hin rfl (by decide +kernel) rfl rfl (Nat.le_of_ble_eq_true rfl) d_R_init_32 (fun H locs hP hS => ?_)
  obtain ⟨G10, eG10⟩ : ∃ z : gw_G, z = va_up G8 x (some (.inr (5, [.int 0, .int 0, .int 2, .ref q3, .ref q4, .ref q5, .null, .null, .null, .null, .null, .null, .null, .null, .null, .null, .null, .null, .int 0, .null, .null, .int 0, .int 0, .int 0, .int 0]))) := ⟨_, rfl⟩
  replace hP : gw_P D vwCl (gw_A G s.heap.size) G10 H := by rw [eG10]; exact hP
  have f10 : G10 x = some (.inr (5, [.int 0, .int 0, .int 2, .ref q3, .ref q4, .ref q5, .null, .null, .null, .null, .null, .null, .null, .null, .null, .null, .null, .null, .int 0, .null, .null, .int 0, .int 0, .int 0, .int 0])) := by rw [eG10]; exact va_up_self _ _ _
  have i5 : m_Ini 5 cI cB cZ (va_up (va_up (va_up (fun _ => 0) 3 q3) 4 q4) 5 q5) G10 := by rw [eG10]; exact j5.x f9
  clear j5 i4 hxq n_q
  refine lv_aload_n hx hb d_R_init_35 rfl (lv_at hl 0 rfl) ?_
  refine lv_sipush (v := 4096) hx hb d_R_init_36 (by decide) ?_
  refine gw_newa (atype := .int) (ty := .int) hx hb (ht _ ac_int) rfl hK.1 hP hS hA (n := 4096) (N' := 4096) (a0 := (4096, .inl (fun _ => 0))) (m_a0 rfl) (by decide) (by decide) (by decide) (Nat.le_of_ble_eq_true rfl) (Nat.le_of_ble_eq_true rfl) d_R_init_39 (fun q6 cA6 H hK1 hP n_q hS => ?_)
  have hcA := k_arr_int hK.1 ht2 hK1
  subst hcA
  clear hK1
  obtain ⟨G11, eG11⟩ : ∃ z : gw_G, z = va_up G10 q6 (some (.inl (cI, 4096, .inl (fun _ => 0)))) := ⟨_, rfl⟩
  replace hP : gw_P D vwCl (gw_A G s.heap.size) G11 H := by rw [eG11]; exact hP
  have j6 : m_Ini 6 cI cB cZ (va_up (va_up (va_up (va_up (fun _ => 0) 3 q3) 4 q4) 5 q5) 6 q6) G11 := by rw [eG11]; exact i5.new n_q 6 (fun j h1 h2 => by obtain ⟨z1, z2, z3⟩ := h1; omega) (by decide)
  have hxq : x ≠ q6 := gw_neN f10 n_q
  have f12 : G11 x = some (.inr (5, [.int 0, .int 0, .int 2, .ref q3, .ref q4, .ref q5, .null, .null, .null, .null, .null, .null, .null, .null, .null, .null, .null, .null, .int 0, .null, .null, .int 0, .int 0, .int 0, .int 0])) := by rw [eG11]; exact gw_up f10 hxq
  refine gw_putF (D := D) (cl := vwCl) (ci := 5) (C := "StackRoomModel") (T := T_R) (N := 25) (v := .ref q6) (ty := .array .int) hx hb ht in_R ty_R tk_R nm_R hown hK.1 hP hS f12 rfl 6 (by decide) (ht _ fl_R_R_arguments) (fun _ h9 => h9) rfl hin rfl (by decide +kernel) rfl rfl (Nat.le_of_ble_eq_true rfl) d_R_init_41 (fun H locs hP hS => ?_)
  obtain ⟨G13, eG13⟩ : ∃ z : gw_G, z = va_up G11 x (some (.inr (5, [.int 0, .int 0, .int 2, .ref q3, .ref q4, .ref q5, .ref q6, .null, .null, .null, .null, .null, .null, .null, .null, .null, .null, .null, .int 0, .null, .null, .int 0, .int 0, .int 0, .int 0]))) := ⟨_, rfl⟩
  replace hP : gw_P D vwCl (gw_A G s.heap.size) G13 H := by rw [eG13]; exact hP
  have f13 : G13 x = some (.inr (5, [.int 0, .int 0, .int 2, .ref q3, .ref q4, .ref q5, .ref q6, .null, .null, .null, .null, .null, .null, .null, .null, .null, .null, .null, .int 0, .null, .null, .int 0, .int 0, .int 0, .int 0])) := by rw [eG13]; exact va_up_self _ _ _
  have i6 : m_Ini 6 cI cB cZ (va_up (va_up (va_up (va_up (fun _ => 0) 3 q3) 4 q4) 5 q5) 6 q6) G13 := by rw [eG13]; exact j6.x f12
  clear j6 i5 hxq n_q
  refine lv_aload_n hx hb d_R_init_44 rfl (lv_at hl 0 rfl) ?_
  refine lv_sipush (v := 4096) hx hb d_R_init_45 (by decide) ?_
  refine gw_newa (atype := .int) (ty := .int) hx hb (ht _ ac_int) rfl hK.1 hP hS hA (n := 4096) (N' := 4096) (a0 := (4096, .inl (fun _ => 0))) (m_a0 rfl) (by decide) (by decide) (by decide) (Nat.le_of_ble_eq_true rfl) (Nat.le_of_ble_eq_true rfl) d_R_init_48 (fun q7 cA7 H hK1 hP n_q hS => ?_)
  have hcA := k_arr_int hK.1 ht2 hK1
  subst hcA
  clear hK1
  obtain ⟨G14, eG14⟩ : ∃ z : gw_G, z = va_up G13 q7 (some (.inl (cI, 4096, .inl (fun _ => 0)))) := ⟨_, rfl⟩
  replace hP : gw_P D vwCl (gw_A G s.heap.size) G14 H := by rw [eG14]; exact hP
  have j7 : m_Ini 7 cI cB cZ (va_up (va_up (va_up (va_up (va_up (fun _ => 0) 3 q3) 4 q4) 5 q5) 6 q6) 7 q7) G14 := by rw [eG14]; exact i6.new n_q 7 (fun j h1 h2 => by obtain ⟨z1, z2, z3⟩ := h1; omega) (by decide)
  have hxq : x ≠ q7 := gw_neN f13 n_q
  have f15 : G14 x = some (.inr (5, [.int 0, .int 0, .int 2, .ref q3, .ref q4, .ref q5, .ref q6, .null, .null, .null, .null, .null, .null, .null, .null, .null, .null, .null, .int 0, .null, .null, .int 0, .int 0, .int 0, .int 0])) := by rw [eG14]; exact gw_up f13 hxq
  refine gw_putF (D := D) (cl := vwCl) (ci := 5) (C := "StackRoomModel") (T := T_R) (N := 25) (v := .ref q7) (ty := .array .int) hx hb ht in_R ty_R tk_R nm_R hown hK.1 hP hS f15 rfl 7 (by decide) (ht _ fl_R_R_temporaries) (fun _ h9 => h9) rfl hin rfl (by decide +kernel) rfl rfl (Nat.le_of_ble_eq_true rfl) d_R_init_50 (fun H locs hP hS => ?_)
  obtain ⟨G16, eG16⟩ : ∃ z : gw_G, z = va_up G14 x (some (.inr (5, [.int 0, .int 0, .int 2, .ref q3, .ref q4, .ref q5, .ref q6, .ref q7, .null, .null, .null, .null, .null, .null, .null, .null, .null, .null, .int 0, .null, .null, .int 0, .int 0, .int 0, .int 0]))) := ⟨_, rfl⟩
  replace hP : gw_P D vwCl (gw_A G s.heap.size) G16 H := by rw [eG16]; exact hP
  have f16 : G16 x = some (.inr (5, [.int 0, .int 0, .int 2, .ref q3, .ref q4, .ref q5, .ref q6, .ref q7, .null, .null, .null, .null, .null, .null, .null, .null, .null, .null, .int 0, .null, .null, .int 0, .int 0, .int 0, .int 0])) := by rw [eG16]; exact va_up_self _ _ _
  have i7 : m_Ini 7 cI cB cZ (va_up (va_up (va_up (va_up (va_up (fun _ => 0) 3 q3) 4 q4) 5 q5) 6 q6) 7 q7) G16 := by rw [eG16]; exact j7.x f15
  clear j7 i6 hxq n_q
  refine lv_aload_n hx hb d_R_init_53 rfl (lv_at hl 0 rfl) ?_
  refine lv_sipush (v := 4096) hx hb d_R_init_54 (by decide) ?_
  refine gw_newa (atype := .int) (ty := .int) hx hb (ht _ ac_int) rfl hK.1 hP hS hA (n := 4096) (N' := 4096) (a0 := (4096, .inl (fun _ => 0))) (m_a0 rfl) (by decide) (by decide) (by decide) (Nat.le_of_ble_eq_true rfl) (Nat.le_of_ble_eq_true rfl) d_R_init_57 (fun q8 cA8 H hK1 hP n_q hS => ?_)
  have hcA := k_arr_int hK.1 ht2 hK1
  subst hcA
  clear hK1
  obtain ⟨G17, eG17⟩ : ∃ z : gw_G, z = va_up G16 q8 (some (.inl (cI, 4096, .inl (fun _ => 0)))) := ⟨_, rfl⟩
  replace hP : gw_P D vwCl (gw_A G s.heap.size) G17 H := by rw [eG17]; exact hP
  have j8 : m_Ini 8 cI cB cZ (va_up (va_up (va_up (va_up (va_up (va_up (fun _ => 0) 3 q3) 4 q4) 5 q5) 6 q6) 7 q7) 8 q8) G17 := by rw [eG17]; exact i7.new n_q 8 (fun j h1 h2 => by obtain ⟨z1, z2, z3⟩ := h1; omega) (by decide)
  have hxq : x ≠ q8 := gw_neN f16 n_q
  have f18 : G17 x = some (.inr (5, [.int 0, .int 0, .int 2, .ref q3, .ref q4, .ref q5, .ref q6, .ref q7, .null, .null, .null, .null, .null, .null, .null, .null, .null, .null, .int 0, .null, .null, .int 0, .int 0, .int 0, .int 0])) := by rw [eG17]; exact gw_up f16 hxq
  refine gw_putF (D := D) (cl := vwCl) (ci := 5) (C := "StackRoomModel") (T := T_R) (N := 25) (v := .ref q8) (ty := .array .int) hx hb ht in_R ty_R tk_R nm_R hown hK.1 hP hS f18 rfl 8 (by decide) (ht _ fl_R_R_depths) (fun _ h9 => h9) rfl hin rfl (by decide +kernel) rfl rfl (Nat.le_of_ble_eq_true rfl) d_R_init_59 (fun H locs hP hS => ?_)
  obtain ⟨G19, eG19⟩ : ∃ z : gw_G, z = va_up G17 x (some (.inr (5, [.int 0, .int 0, .int 2, .ref q3, .ref q4, .ref q5, .ref q6, .ref q7, .ref q8, .null, .null, .null, .null, .null, .null, .null, .null, .null, .int 0, .null, .null, .int 0, .int 0, .int 0, .int 0]))) := ⟨_, rfl⟩
  replace hP : gw_P D vwCl (gw_A G s.heap.size) G19 H := by rw [eG19]; exact hP
  have f19 : G19 x = some (.inr (5, [.int 0, .int 0, .int 2, .ref q3, .ref q4, .ref q5, .ref q6, .ref q7, .ref q8, .null, .null, .null, .null, .null, .null, .null, .null, .null, .int 0, .null, .null, .int 0, .int 0, .int 0, .int 0])) := by rw [eG19]; exact va_up_self _ _ _
  have i8 : m_Ini 8 cI cB cZ (va_up (va_up (va_up (va_up (va_up (va_up (fun _ => 0) 3 q3) 4 q4) 5 q5) 6 q6) 7 q7) 8 q8) G19 := by rw [eG19]; exact j8.x f18
  clear j8 i7 hxq n_q
  refine lv_aload_n hx hb d_R_init_62 rfl (lv_at hl 0 rfl) ?_
  refine lv_sipush (v := 4096) hx hb d_R_init_63 (by decide) ?_
  refine gw_newa (atype := .int) (ty := .int) hx hb (ht _ ac_int) rfl hK.1 hP hS hA (n := 4096) (N' := 4096) (a0 := (4096, .inl (fun _ => 0))) (m_a0 rfl) (by decide) (by decide) (by decide) (Nat.le_of_ble_eq_true rfl) (Nat.le_of_ble_eq_true rfl) d_R_init_66 (fun q9 cA9 H hK1 hP n_q hS => ?_)
  have hcA := k_arr_int hK.1 ht2 hK1
  subst hcA
  clear hK1
  obtain ⟨G20, eG20⟩ : ∃ z : gw_G, z = va_up G19 q9 (some (.inl (cI, 4096, .inl (fun _ => 0)))) := ⟨_, rfl⟩
  replace hP : gw_P D vwCl (gw_A G s.heap.size) G20 H := by rw [eG20]; exact hP
  have j9 : m_Ini 9 cI cB cZ (va_up (va_up (va_up (va_up (va_up (va_up (va_up (fun _ => 0) 3 q3) 4 q4) 5 q5) 6 q6) 7 q7) 8 q8) 9 q9) G20 := by rw [eG20]; exact i8.new n_q 9 (fun j h1 h2 => by obtain ⟨z1, z2, z3⟩ := h1; omega) (by decide)
  have hxq : x ≠ q9 := gw_neN f19 n_q
  have f21 : G20 x = some (.inr (5, [.int 0, .int 0, .int 2, .ref q3, .ref q4, .ref q5, .ref q6, .ref q7, .ref q8, .null, .null, .null, .null, .null, .null, .null, .null, .null, .int 0, .null, .null, .int 0, .int 0, .int 0, .int 0])) := by rw [eG20]; exact gw_up f19 hxq
  refine gw_putF (D := D) (cl := vwCl) (ci := 5) (C := "StackRoomModel") (T := T_R) (N := 25) (v := .ref q9) (ty := .array .int) hx hb ht in_R ty_R tk_R nm_R hown hK.1 hP hS f21 rfl 9 (by decide) (ht _ fl_R_R_senders) (fun _ h9 => h9) rfl hin rfl (by decide +kernel) rfl rfl (Nat.le_of_ble_eq_true rfl) d_R_init_68 (fun H locs hP hS => ?_)
  obtain ⟨G22, eG22⟩ : ∃ z : gw_G, z = va_up G20 x (some (.inr (5, [.int 0, .int 0, .int 2, .ref q3, .ref q4, .ref q5, .ref q6, .ref q7, .ref q8, .ref q9, .null, .null, .null, .null, .null, .null, .null, .null, .int 0, .null, .null, .int 0, .int 0, .int 0, .int 0]))) := ⟨_, rfl⟩
  replace hP : gw_P D vwCl (gw_A G s.heap.size) G22 H := by rw [eG22]; exact hP
  have f22 : G22 x = some (.inr (5, [.int 0, .int 0, .int 2, .ref q3, .ref q4, .ref q5, .ref q6, .ref q7, .ref q8, .ref q9, .null, .null, .null, .null, .null, .null, .null, .null, .int 0, .null, .null, .int 0, .int 0, .int 0, .int 0])) := by rw [eG22]; exact va_up_self _ _ _
  have i9 : m_Ini 9 cI cB cZ (va_up (va_up (va_up (va_up (va_up (va_up (va_up (fun _ => 0) 3 q3) 4 q4) 5 q5) 6 q6) 7 q7) 8 q8) 9 q9) G22 := by rw [eG22]; exact j9.x f21
  clear j9 i8 hxq n_q
  refine lv_aload_n hx hb d_R_init_71 rfl (lv_at hl 0 rfl) ?_
  refine lv_sipush (v := 4096) hx hb d_R_init_72 (by decide) ?_
  refine gw_newa (atype := .boolean) (ty := .boolean) hx hb (ht _ ac_boolean) rfl hK.1 hP hS hA (n := 4096) (N' := 4096) (a0 := (4096, .inl (fun _ => 0))) (m_a0 rfl) (by decide) (by decide) (by decide) (Nat.le_of_ble_eq_true rfl) (Nat.le_of_ble_eq_true rfl) d_R_init_75 (fun q10 cA10 H hK1 hP n_q hS => ?_)
  have hcA := k_arr_boolean hK.1 ht4 hK1
  subst hcA
  clear hK1
  obtain ⟨G23, eG23⟩ : ∃ z : gw_G, z = va_up G22 q10 (some (.inl (cZ, 4096, .inl (fun _ => 0)))) := ⟨_, rfl⟩
  replace hP : gw_P D vwCl (gw_A G s.heap.size) G23 H := by rw [eG23]; exact hP
  have j10 : m_Ini 10 cI cB cZ (va_up (va_up (va_up (va_up (va_up (va_up (va_up (va_up (fun _ => 0) 3 q3) 4 q4) 5 q5) 6 q6) 7 q7) 8 q8) 9 q9) 10 q10) G23 := by rw [eG23]; exact i9.new n_q 10 (fun j h1 h2 => by obtain ⟨z1, z2, z3⟩ := h1; omega) (by decide)
  have hxq : x ≠ q10 := gw_neN f22 n_q
  have f24 : G23 x = some (.inr (5, [.int 0, .int 0, .int 2, .ref q3, .ref q4, .ref q5, .ref q6, .ref q7, .ref q8, .ref q9, .null, .null, .null, .null, .null, .null, .null, .null, .int 0, .null, .null, .int 0, .int 0, .int 0, .int 0])) := by rw [eG23]; exact gw_up f22 hxq
  refine gw_putF (D := D) (cl := vwCl) (ci := 5) (C := "StackRoomModel") (T := T_R) (N := 25) (v := .ref q10) (ty := .array .boolean) hx hb ht in_R ty_R tk_R nm_R hown hK.1 hP hS f24 rfl 10 (by decide) (ht _ fl_R_R_dead) (fun _ h9 => h9) rfl hin rfl (by decide +kernel) rfl rfl (Nat.le_of_ble_eq_true rfl) d_R_init_77 (fun H locs hP hS => ?_)
  obtain ⟨G25, eG25⟩ : ∃ z : gw_G, z = va_up G23 x (some (.inr (5, [.int 0, .int 0, .int 2, .ref q3, .ref q4, .ref q5, .ref q6, .ref q7, .ref q8, .ref q9, .ref q10, .null, .null, .null, .null, .null, .null, .null, .int 0, .null, .null, .int 0, .int 0, .int 0, .int 0]))) := ⟨_, rfl⟩
  replace hP : gw_P D vwCl (gw_A G s.heap.size) G25 H := by rw [eG25]; exact hP
  have f25 : G25 x = some (.inr (5, [.int 0, .int 0, .int 2, .ref q3, .ref q4, .ref q5, .ref q6, .ref q7, .ref q8, .ref q9, .ref q10, .null, .null, .null, .null, .null, .null, .null, .int 0, .null, .null, .int 0, .int 0, .int 0, .int 0])) := by rw [eG25]; exact va_up_self _ _ _
  have i10 : m_Ini 10 cI cB cZ (va_up (va_up (va_up (va_up (va_up (va_up (va_up (va_up (fun _ => 0) 3 q3) 4 q4) 5 q5) 6 q6) 7 q7) 8 q8) 9 q9) 10 q10) G25 := by rw [eG25]; exact j10.x f24
  clear j10 i9 hxq n_q
  refine lv_aload_n hx hb d_R_init_80 rfl (lv_at hl 0 rfl) ?_
  refine lv_sipush (v := 4096) hx hb d_R_init_81 (by decide) ?_
  refine gw_newa (atype := .int) (ty := .int) hx hb (ht _ ac_int) rfl hK.1 hP hS hA (n := 4096) (N' := 4096) (a0 := (4096, .inl (fun _ => 0))) (m_a0 rfl) (by decide) (by decide) (by decide) (Nat.le_of_ble_eq_true rfl) (Nat.le_of_ble_eq_true rfl) d_R_init_84 (fun q11 cA11 H hK1 hP n_q hS => ?_)
  have hcA := k_arr_int hK.1 ht2 hK1
  subst hcA
  clear hK1
  obtain ⟨G26, eG26⟩ : ∃ z : gw_G, z = va_up G25 q11 (some (.inl (cI, 4096, .inl (fun _ => 0)))) := ⟨_, rfl⟩
  replace hP : gw_P D vwCl (gw_A G s.heap.size) G26 H := by rw [eG26]; exact hP
  have j11 : m_Ini 11 cI cB cZ (va_up (va_up (va_up (va_up (va_up (va_up (va_up (va_up (va_up (fun _ => 0) 3 q3) 4 q4) 5 q5) 6 q6) 7 q7) 8 q8) 9 q9) 10 q10) 11 q11) G26 := by rw [eG26]; exact i10.new n_q 11 (fun j h1 h2 => by obtain ⟨z1, z2, z3⟩ := h1; omega) (by decide)
  have hxq : x ≠ q11 := gw_neN f25 n_q
  have f27 : G26 x = some (.inr (5, [.int 0, .int 0, .int 2, .ref q3, .ref q4, .ref q5, .ref q6, .ref q7, .ref q8, .ref q9, .ref q10, .null, .null, .null, .null, .null, .null, .null, .int 0, .null, .null, .int 0, .int 0, .int 0, .int 0])) := by rw [eG26]; exact gw_up f25 hxq
  refine gw_putF (D := D) (cl := vwCl) (ci := 5) (C := "StackRoomModel") (T := T_R) (N := 25) (v := .ref q11) (ty := .array .int) hx hb ht in_R ty_R tk_R nm_R hown hK.1 hP hS f27 rfl 11 (by decide) (ht _ fl_R_R_heights) (fun _ h9 => h9) rfl hin rfl (by decide +kernel) rfl rfl (Nat.le_of_ble_eq_true rfl) d_R_init_86 (fun H locs hP hS => ?_)
  obtain ⟨G28, eG28⟩ : ∃ z : gw_G, z = va_up G26 x (some (.inr (5, [.int 0, .int 0, .int 2, .ref q3, .ref q4, .ref q5, .ref q6, .ref q7, .ref q8, .ref q9, .ref q10, .ref q11, .null, .null, .null, .null, .null, .null, .int 0, .null, .null, .int 0, .int 0, .int 0, .int 0]))) := ⟨_, rfl⟩
  replace hP : gw_P D vwCl (gw_A G s.heap.size) G28 H := by rw [eG28]; exact hP
  have f28 : G28 x = some (.inr (5, [.int 0, .int 0, .int 2, .ref q3, .ref q4, .ref q5, .ref q6, .ref q7, .ref q8, .ref q9, .ref q10, .ref q11, .null, .null, .null, .null, .null, .null, .int 0, .null, .null, .int 0, .int 0, .int 0, .int 0])) := by rw [eG28]; exact va_up_self _ _ _
  have i11 : m_Ini 11 cI cB cZ (va_up (va_up (va_up (va_up (va_up (va_up (va_up (va_up (va_up (fun _ => 0) 3 q3) 4 q4) 5 q5) 6 q6) 7 q7) 8 q8) 9 q9) 10 q10) 11 q11) G28 := by rw [eG28]; exact j11.x f27
  clear j11 i10 hxq n_q
  refine lv_aload_n hx hb d_R_init_89 rfl (lv_at hl 0 rfl) ?_
  refine lv_sipush (v := 4096) hx hb d_R_init_90 (by decide) ?_
  refine gw_newa (atype := .int) (ty := .int) hx hb (ht _ ac_int) rfl hK.1 hP hS hA (n := 4096) (N' := 4096) (a0 := (4096, .inl (fun _ => 0))) (m_a0 rfl) (by decide) (by decide) (by decide) (Nat.le_of_ble_eq_true rfl) (Nat.le_of_ble_eq_true rfl) d_R_init_93 (fun q12 cA12 H hK1 hP n_q hS => ?_)
  have hcA := k_arr_int hK.1 ht2 hK1
  subst hcA
  clear hK1
  obtain ⟨G29, eG29⟩ : ∃ z : gw_G, z = va_up G28 q12 (some (.inl (cI, 4096, .inl (fun _ => 0)))) := ⟨_, rfl⟩
  replace hP : gw_P D vwCl (gw_A G s.heap.size) G29 H := by rw [eG29]; exact hP
  have j12 : m_Ini 12 cI cB cZ (va_up (va_up (va_up (va_up (va_up (va_up (va_up (va_up (va_up (va_up (fun _ => 0) 3 q3) 4 q4) 5 q5) 6 q6) 7 q7) 8 q8) 9 q9) 10 q10) 11 q11) 12 q12) G29 := by rw [eG29]; exact i11.new n_q 12 (fun j h1 h2 => by obtain ⟨z1, z2, z3⟩ := h1; omega) (by decide)
  have hxq : x ≠ q12 := gw_neN f28 n_q
  have f30 : G29 x = some (.inr (5, [.int 0, .int 0, .int 2, .ref q3, .ref q4, .ref q5, .ref q6, .ref q7, .ref q8, .ref q9, .ref q10, .ref q11, .null, .null, .null, .null, .null, .null, .int 0, .null, .null, .int 0, .int 0, .int 0, .int 0])) := by rw [eG29]; exact gw_up f28 hxq
  refine gw_putF (D := D) (cl := vwCl) (ci := 5) (C := "StackRoomModel") (T := T_R) (N := 25) (v := .ref q12) (ty := .array .int) hx hb ht in_R ty_R tk_R nm_R hown hK.1 hP hS f30 rfl 12 (by decide) (ht _ fl_R_R_links) (fun _ h9 => h9) rfl hin rfl (by decide +kernel) rfl rfl (Nat.le_of_ble_eq_true rfl) d_R_init_95 (fun H locs hP hS => ?_)
  obtain ⟨G31, eG31⟩ : ∃ z : gw_G, z = va_up G29 x (some (.inr (5, [.int 0, .int 0, .int 2, .ref q3, .ref q4, .ref q5, .ref q6, .ref q7, .ref q8, .ref q9, .ref q10, .ref q11, .ref q12, .null, .null, .null, .null, .null, .int 0, .null, .null, .int 0, .int 0, .int 0, .int 0]))) := ⟨_, rfl⟩
  replace hP : gw_P D vwCl (gw_A G s.heap.size) G31 H := by rw [eG31]; exact hP
  have f31 : G31 x = some (.inr (5, [.int 0, .int 0, .int 2, .ref q3, .ref q4, .ref q5, .ref q6, .ref q7, .ref q8, .ref q9, .ref q10, .ref q11, .ref q12, .null, .null, .null, .null, .null, .int 0, .null, .null, .int 0, .int 0, .int 0, .int 0])) := by rw [eG31]; exact va_up_self _ _ _
  have i12 : m_Ini 12 cI cB cZ (va_up (va_up (va_up (va_up (va_up (va_up (va_up (va_up (va_up (va_up (fun _ => 0) 3 q3) 4 q4) 5 q5) 6 q6) 7 q7) 8 q8) 9 q9) 10 q10) 11 q11) 12 q12) G31 := by rw [eG31]; exact j12.x f30
  clear j12 i11 hxq n_q
  refine lv_aload_n hx hb d_R_init_98 rfl (lv_at hl 0 rfl) ?_
  refine lv_sipush (v := 4096) hx hb d_R_init_99 (by decide) ?_
  refine gw_newa (atype := .int) (ty := .int) hx hb (ht _ ac_int) rfl hK.1 hP hS hA (n := 4096) (N' := 4096) (a0 := (4096, .inl (fun _ => 0))) (m_a0 rfl) (by decide) (by decide) (by decide) (Nat.le_of_ble_eq_true rfl) (Nat.le_of_ble_eq_true rfl) d_R_init_102 (fun q13 cA13 H hK1 hP n_q hS => ?_)
  have hcA := k_arr_int hK.1 ht2 hK1
  subst hcA
  clear hK1
  obtain ⟨G32, eG32⟩ : ∃ z : gw_G, z = va_up G31 q13 (some (.inl (cI, 4096, .inl (fun _ => 0)))) := ⟨_, rfl⟩
  replace hP : gw_P D vwCl (gw_A G s.heap.size) G32 H := by rw [eG32]; exact hP
  have j13 : m_Ini 13 cI cB cZ (va_up (va_up (va_up (va_up (va_up (va_up (va_up (va_up (va_up (va_up (va_up (fun _ => 0) 3 q3) 4 q4) 5 q5) 6 q6) 7 q7) 8 q8) 9 q9) 10 q10) 11 q11) 12 q12) 13 q13) G32 := by rw [eG32]; exact i12.new n_q 13 (fun j h1 h2 => by obtain ⟨z1, z2, z3⟩ := h1; omega) (by decide)
  have hxq : x ≠ q13 := gw_neN f31 n_q
  have f33 : G32 x = some (.inr (5, [.int 0, .int 0, .int 2, .ref q3, .ref q4, .ref q5, .ref q6, .ref q7, .ref q8, .ref q9, .ref q10, .ref q11, .ref q12, .null, .null, .null, .null, .null, .int 0, .null, .null, .int 0, .int 0, .int 0, .int 0])) := by rw [eG32]; exact gw_up f31 hxq
  refine gw_putF (D := D) (cl := vwCl) (ci := 5) (C := "StackRoomModel") (T := T_R) (N := 25) (v := .ref q13) (ty := .array .int) hx hb ht in_R ty_R tk_R nm_R hown hK.1 hP hS f33 rfl 13 (by decide) (ht _ fl_R_R_counts) (fun _ h9 => h9) rfl hin rfl (by decide +kernel) rfl rfl (Nat.le_of_ble_eq_true rfl) d_R_init_104 (fun H locs hP hS => ?_)
  obtain ⟨G34, eG34⟩ : ∃ z : gw_G, z = va_up G32 x (some (.inr (5, [.int 0, .int 0, .int 2, .ref q3, .ref q4, .ref q5, .ref q6, .ref q7, .ref q8, .ref q9, .ref q10, .ref q11, .ref q12, .ref q13, .null, .null, .null, .null, .int 0, .null, .null, .int 0, .int 0, .int 0, .int 0]))) := ⟨_, rfl⟩
  replace hP : gw_P D vwCl (gw_A G s.heap.size) G34 H := by rw [eG34]; exact hP
  have f34 : G34 x = some (.inr (5, [.int 0, .int 0, .int 2, .ref q3, .ref q4, .ref q5, .ref q6, .ref q7, .ref q8, .ref q9, .ref q10, .ref q11, .ref q12, .ref q13, .null, .null, .null, .null, .int 0, .null, .null, .int 0, .int 0, .int 0, .int 0])) := by rw [eG34]; exact va_up_self _ _ _
  have i13 : m_Ini 13 cI cB cZ (va_up (va_up (va_up (va_up (va_up (va_up (va_up (va_up (va_up (va_up (va_up (fun _ => 0) 3 q3) 4 q4) 5 q5) 6 q6) 7 q7) 8 q8) 9 q9) 10 q10) 11 q11) 12 q12) 13 q13) G34 := by rw [eG34]; exact j13.x f33
  clear j13 i12 hxq n_q
  refine lv_aload_n hx hb d_R_init_107 rfl (lv_at hl 0 rfl) ?_
  refine lv_sipush (v := 4096) hx hb d_R_init_108 (by decide) ?_
  refine gw_newa (atype := .int) (ty := .int) hx hb (ht _ ac_int) rfl hK.1 hP hS hA (n := 4096) (N' := 4096) (a0 := (4096, .inl (fun _ => 0))) (m_a0 rfl) (by decide) (by decide) (by decide) (Nat.le_of_ble_eq_true rfl) (Nat.le_of_ble_eq_true rfl) d_R_init_111 (fun q14 cA14 H hK1 hP n_q hS => ?_)
  have hcA := k_arr_int hK.1 ht2 hK1
  subst hcA
  clear hK1
  obtain ⟨G35, eG35⟩ : ∃ z : gw_G, z = va_up G34 q14 (some (.inl (cI, 4096, .inl (fun _ => 0)))) := ⟨_, rfl⟩
  replace hP : gw_P D vwCl (gw_A G s.heap.size) G35 H := by rw [eG35]; exact hP
  have j14 : m_Ini 14 cI cB cZ (va_up (va_up (va_up (va_up (va_up (va_up (va_up (va_up (va_up (va_up (va_up (va_up (fun _ => 0) 3 q3) 4 q4) 5 q5) 6 q6) 7 q7) 8 q8) 9 q9) 10 q10) 11 q11) 12 q12) 13 q13) 14 q14) G35 := by rw [eG35]; exact i13.new n_q 14 (fun j h1 h2 => by obtain ⟨z1, z2, z3⟩ := h1; omega) (by decide)
  have hxq : x ≠ q14 := gw_neN f34 n_q
  have f36 : G35 x = some (.inr (5, [.int 0, .int 0, .int 2, .ref q3, .ref q4, .ref q5, .ref q6, .ref q7, .ref q8, .ref q9, .ref q10, .ref q11, .ref q12, .ref q13, .null, .null, .null, .null, .int 0, .null, .null, .int 0, .int 0, .int 0, .int 0])) := by rw [eG35]; exact gw_up f34 hxq
  refine gw_putF (D := D) (cl := vwCl) (ci := 5) (C := "StackRoomModel") (T := T_R) (N := 25) (v := .ref q14) (ty := .array .int) hx hb ht in_R ty_R tk_R nm_R hown hK.1 hP hS f36 rfl 14 (by decide) (ht _ fl_R_R_begins) (fun _ h9 => h9) rfl hin rfl (by decide +kernel) rfl rfl (Nat.le_of_ble_eq_true rfl) d_R_init_113 (fun H locs hP hS => ?_)
  obtain ⟨G37, eG37⟩ : ∃ z : gw_G, z = va_up G35 x (some (.inr (5, [.int 0, .int 0, .int 2, .ref q3, .ref q4, .ref q5, .ref q6, .ref q7, .ref q8, .ref q9, .ref q10, .ref q11, .ref q12, .ref q13, .ref q14, .null, .null, .null, .int 0, .null, .null, .int 0, .int 0, .int 0, .int 0]))) := ⟨_, rfl⟩
  replace hP : gw_P D vwCl (gw_A G s.heap.size) G37 H := by rw [eG37]; exact hP
  have f37 : G37 x = some (.inr (5, [.int 0, .int 0, .int 2, .ref q3, .ref q4, .ref q5, .ref q6, .ref q7, .ref q8, .ref q9, .ref q10, .ref q11, .ref q12, .ref q13, .ref q14, .null, .null, .null, .int 0, .null, .null, .int 0, .int 0, .int 0, .int 0])) := by rw [eG37]; exact va_up_self _ _ _
  have i14 : m_Ini 14 cI cB cZ (va_up (va_up (va_up (va_up (va_up (va_up (va_up (va_up (va_up (va_up (va_up (va_up (fun _ => 0) 3 q3) 4 q4) 5 q5) 6 q6) 7 q7) 8 q8) 9 q9) 10 q10) 11 q11) 12 q12) 13 q13) 14 q14) G37 := by rw [eG37]; exact j14.x f36
  clear j14 i13 hxq n_q
  refine lv_aload_n hx hb d_R_init_116 rfl (lv_at hl 0 rfl) ?_
  refine lv_sipush (v := 4096) hx hb d_R_init_117 (by decide) ?_
  refine gw_newa (atype := .int) (ty := .int) hx hb (ht _ ac_int) rfl hK.1 hP hS hA (n := 4096) (N' := 4096) (a0 := (4096, .inl (fun _ => 0))) (m_a0 rfl) (by decide) (by decide) (by decide) (Nat.le_of_ble_eq_true rfl) (Nat.le_of_ble_eq_true rfl) d_R_init_120 (fun q15 cA15 H hK1 hP n_q hS => ?_)
  have hcA := k_arr_int hK.1 ht2 hK1
  subst hcA
  clear hK1
  obtain ⟨G38, eG38⟩ : ∃ z : gw_G, z = va_up G37 q15 (some (.inl (cI, 4096, .inl (fun _ => 0)))) := ⟨_, rfl⟩
  replace hP : gw_P D vwCl (gw_A G s.heap.size) G38 H := by rw [eG38]; exact hP
  have j15 : m_Ini 15 cI cB cZ (va_up (va_up (va_up (va_up (va_up (va_up (va_up (va_up (va_up (va_up (va_up (va_up (va_up (fun _ => 0) 3 q3) 4 q4) 5 q5) 6 q6) 7 q7) 8 q8) 9 q9) 10 q10) 11 q11) 12 q12) 13 q13) 14 q14) 15 q15) G38 := by rw [eG38]; exact i14.new n_q 15 (fun j h1 h2 => by obtain ⟨z1, z2, z3⟩ := h1; omega) (by decide)
  have hxq : x ≠ q15 := gw_neN f37 n_q
  have f39 : G38 x = some (.inr (5, [.int 0, .int 0, .int 2, .ref q3, .ref q4, .ref q5, .ref q6, .ref q7, .ref q8, .ref q9, .ref q10, .ref q11, .ref q12, .ref q13, .ref q14, .null, .null, .null, .int 0, .null, .null, .int 0, .int 0, .int 0, .int 0])) := by rw [eG38]; exact gw_up f37 hxq
  refine gw_putF (D := D) (cl := vwCl) (ci := 5) (C := "StackRoomModel") (T := T_R) (N := 25) (v := .ref q15) (ty := .array .int) hx hb ht in_R ty_R tk_R nm_R hown hK.1 hP hS f39 rfl 15 (by decide) (ht _ fl_R_R_rooms) (fun _ h9 => h9) rfl hin rfl (by decide +kernel) rfl rfl (Nat.le_of_ble_eq_true rfl) d_R_init_122 (fun H locs hP hS => ?_)
  obtain ⟨G40, eG40⟩ : ∃ z : gw_G, z = va_up G38 x (some (.inr (5, [.int 0, .int 0, .int 2, .ref q3, .ref q4, .ref q5, .ref q6, .ref q7, .ref q8, .ref q9, .ref q10, .ref q11, .ref q12, .ref q13, .ref q14, .ref q15, .null, .null, .int 0, .null, .null, .int 0, .int 0, .int 0, .int 0]))) := ⟨_, rfl⟩
  replace hP : gw_P D vwCl (gw_A G s.heap.size) G40 H := by rw [eG40]; exact hP
  have f40 : G40 x = some (.inr (5, [.int 0, .int 0, .int 2, .ref q3, .ref q4, .ref q5, .ref q6, .ref q7, .ref q8, .ref q9, .ref q10, .ref q11, .ref q12, .ref q13, .ref q14, .ref q15, .null, .null, .int 0, .null, .null, .int 0, .int 0, .int 0, .int 0])) := by rw [eG40]; exact va_up_self _ _ _
  have i15 : m_Ini 15 cI cB cZ (va_up (va_up (va_up (va_up (va_up (va_up (va_up (va_up (va_up (va_up (va_up (va_up (va_up (fun _ => 0) 3 q3) 4 q4) 5 q5) 6 q6) 7 q7) 8 q8) 9 q9) 10 q10) 11 q11) 12 q12) 13 q13) 14 q14) 15 q15) G40 := by rw [eG40]; exact j15.x f39
  clear j15 i14 hxq n_q
  refine lv_aload_n hx hb d_R_init_125 rfl (lv_at hl 0 rfl) ?_
  refine lv_ldc hx hb hown (ht _ cs_R_32768) d_R_init_126 ?_
  refine gw_newa (atype := .int) (ty := .int) hx hb (ht _ ac_int) rfl hK.1 hP hS hA (n := 32768) (N' := 32768) (a0 := (32768, .inl (fun _ => 0))) (m_a0 rfl) (by decide) (by decide) (by decide) (Nat.le_of_ble_eq_true rfl) (Nat.le_of_ble_eq_true rfl) d_R_init_128 (fun q16 cA16 H hK1 hP n_q hS => ?_)
  have hcA := k_arr_int hK.1 ht2 hK1
  subst hcA
  clear hK1
  obtain ⟨G41, eG41⟩ : ∃ z : gw_G, z = va_up G40 q16 (some (.inl (cI, 32768, .inl (fun _ => 0)))) := ⟨_, rfl⟩
  replace hP : gw_P D vwCl (gw_A G s.heap.size) G41 H := by rw [eG41]; exact hP
  have j16 : m_Ini 16 cI cB cZ (va_up (va_up (va_up (va_up (va_up (va_up (va_up (va_up (va_up (va_up (va_up (va_up (va_up (va_up (fun _ => 0) 3 q3) 4 q4) 5 q5) 6 q6) 7 q7) 8 q8) 9 q9) 10 q10) 11 q11) 12 q12) 13 q13) 14 q14) 15 q15) 16 q16) G41 := by rw [eG41]; exact i15.new n_q 16 (fun j h1 h2 => by obtain ⟨z1, z2, z3⟩ := h1; omega) (by decide)
  have hxq : x ≠ q16 := gw_neN f40 n_q
  have f42 : G41 x = some (.inr (5, [.int 0, .int 0, .int 2, .ref q3, .ref q4, .ref q5, .ref q6, .ref q7, .ref q8, .ref q9, .ref q10, .ref q11, .ref q12, .ref q13, .ref q14, .ref q15, .null, .null, .int 0, .null, .null, .int 0, .int 0, .int 0, .int 0])) := by rw [eG41]; exact gw_up f40 hxq
  refine gw_put (D := D) (cl := vwCl) (ci := 5) (C := "StackRoomModel") (T := T_R) (N := 25) (v := .ref q16) (ty := .array .int) hx hb ht in_R ty_R tk_R nm_R hown hK.1 hP hS f42 rfl 16 (by decide) (ht _ fl_R_R_fields) (fun _ h9 => h9) rfl (by decide +kernel) rfl rfl (Nat.le_of_ble_eq_true rfl) d_R_init_130 (fun H locs hP hS => ?_)
  obtain ⟨G43, eG43⟩ : ∃ z : gw_G, z = va_up G41 x (some (.inr (5, [.int 0, .int 0, .int 2, .ref q3, .ref q4, .ref q5, .ref q6, .ref q7, .ref q8, .ref q9, .ref q10, .ref q11, .ref q12, .ref q13, .ref q14, .ref q15, .ref q16, .null, .int 0, .null, .null, .int 0, .int 0, .int 0, .int 0]))) := ⟨_, rfl⟩
  replace hP : gw_P D vwCl (gw_A G s.heap.size) G43 H := by rw [eG43]; exact hP
  have f43 : G43 x = some (.inr (5, [.int 0, .int 0, .int 2, .ref q3, .ref q4, .ref q5, .ref q6, .ref q7, .ref q8, .ref q9, .ref q10, .ref q11, .ref q12, .ref q13, .ref q14, .ref q15, .ref q16, .null, .int 0, .null, .null, .int 0, .int 0, .int 0, .int 0])) := by rw [eG43]; exact va_up_self _ _ _
  have i16 : m_Ini 16 cI cB cZ (va_up (va_up (va_up (va_up (va_up (va_up (va_up (va_up (va_up (va_up (va_up (va_up (va_up (va_up (fun _ => 0) 3 q3) 4 q4) 5 q5) 6 q6) 7 q7) 8 q8) 9 q9) 10 q10) 11 q11) 12 q12) 13 q13) 14 q14) 15 q15) 16 q16) G43 := by rw [eG43]; exact j16.x f42
  clear j16 i15 hxq n_q
  refine lv_aload_n hx hb d_R_init_133 rfl (lv_at hl 0 rfl) ?_
  refine lv_ldc hx hb hown (ht _ cs_R_32768) d_R_init_134 ?_
  refine gw_newa (atype := .int) (ty := .int) hx hb (ht _ ac_int) rfl hK.1 hP hS hA (n := 32768) (N' := 32768) (a0 := (32768, .inl (fun _ => 0))) (m_a0 rfl) (by decide) (by decide) (by decide) (Nat.le_of_ble_eq_true rfl) (Nat.le_of_ble_eq_true rfl) d_R_init_136 (fun q17 cA17 H hK1 hP n_q hS => ?_)
  have hcA := k_arr_int hK.1 ht2 hK1
  subst hcA
  clear hK1
  obtain ⟨G44, eG44⟩ : ∃ z : gw_G, z = va_up G43 q17 (some (.inl (cI, 32768, .inl (fun _ => 0)))) := ⟨_, rfl⟩
  replace hP : gw_P D vwCl (gw_A G s.heap.size) G44 H := by rw [eG44]; exact hP
  have j17 : m_Ini 17 cI cB cZ (va_up (va_up (va_up (va_up (va_up (va_up (va_up (va_up (va_up (va_up (va_up (va_up (va_up (va_up (va_up (fun _ => 0) 3 q3) 4 q4) 5 q5) 6 q6) 7 q7) 8 q8) 9 q9) 10 q10) 11 q11) 12 q12) 13 q13) 14 q14) 15 q15) 16 q16) 17 q17) G44 := by rw [eG44]; exact i16.new n_q 17 (fun j h1 h2 => by obtain ⟨z1, z2, z3⟩ := h1; omega) (by decide)
  have hxq : x ≠ q17 := gw_neN f43 n_q
  have f45 : G44 x = some (.inr (5, [.int 0, .int 0, .int 2, .ref q3, .ref q4, .ref q5, .ref q6, .ref q7, .ref q8, .ref q9, .ref q10, .ref q11, .ref q12, .ref q13, .ref q14, .ref q15, .ref q16, .null, .int 0, .null, .null, .int 0, .int 0, .int 0, .int 0])) := by rw [eG44]; exact gw_up f43 hxq
  refine gw_put (D := D) (cl := vwCl) (ci := 5) (C := "StackRoomModel") (T := T_R) (N := 25) (v := .ref q17) (ty := .array .int) hx hb ht in_R ty_R tk_R nm_R hown hK.1 hP hS f45 rfl 17 (by decide) (ht _ fl_R_R_other) (fun _ h9 => h9) rfl (by decide +kernel) rfl rfl (Nat.le_of_ble_eq_true rfl) d_R_init_138 (fun H locs hP hS => ?_)
  obtain ⟨G46, eG46⟩ : ∃ z : gw_G, z = va_up G44 x (some (.inr (5, [.int 0, .int 0, .int 2, .ref q3, .ref q4, .ref q5, .ref q6, .ref q7, .ref q8, .ref q9, .ref q10, .ref q11, .ref q12, .ref q13, .ref q14, .ref q15, .ref q16, .ref q17, .int 0, .null, .null, .int 0, .int 0, .int 0, .int 0]))) := ⟨_, rfl⟩
  replace hP : gw_P D vwCl (gw_A G s.heap.size) G46 H := by rw [eG46]; exact hP
  have f46 : G46 x = some (.inr (5, [.int 0, .int 0, .int 2, .ref q3, .ref q4, .ref q5, .ref q6, .ref q7, .ref q8, .ref q9, .ref q10, .ref q11, .ref q12, .ref q13, .ref q14, .ref q15, .ref q16, .ref q17, .int 0, .null, .null, .int 0, .int 0, .int 0, .int 0])) := by rw [eG46]; exact va_up_self _ _ _
  have i17 : m_Ini 17 cI cB cZ (va_up (va_up (va_up (va_up (va_up (va_up (va_up (va_up (va_up (va_up (va_up (va_up (va_up (va_up (va_up (fun _ => 0) 3 q3) 4 q4) 5 q5) 6 q6) 7 q7) 8 q8) 9 q9) 10 q10) 11 q11) 12 q12) 13 q13) 14 q14) 15 q15) 16 q16) 17 q17) G46 := by rw [eG46]; exact j17.x f45
  clear j17 i16 hxq n_q
  refine lv_aload_n hx hb d_R_init_141 rfl (lv_at hl 0 rfl) ?_
  refine lv_sipush (v := 4096) hx hb d_R_init_142 (by decide) ?_
  refine gw_newa (atype := .boolean) (ty := .boolean) hx hb (ht _ ac_boolean) rfl hK.1 hP hS hA (n := 4096) (N' := 4096) (a0 := (4096, .inl (fun _ => 0))) (m_a0 rfl) (by decide) (by decide) (by decide) (Nat.le_of_ble_eq_true rfl) (Nat.le_of_ble_eq_true rfl) d_R_init_145 (fun q19 cA19 H hK1 hP n_q hS => ?_)
  have hcA := k_arr_boolean hK.1 ht4 hK1
  subst hcA
  clear hK1
  obtain ⟨G47, eG47⟩ : ∃ z : gw_G, z = va_up G46 q19 (some (.inl (cZ, 4096, .inl (fun _ => 0)))) := ⟨_, rfl⟩
  replace hP : gw_P D vwCl (gw_A G s.heap.size) G47 H := by rw [eG47]; exact hP
  have j19 : m_Ini 19 cI cB cZ (va_up (va_up (va_up (va_up (va_up (va_up (va_up (va_up (va_up (va_up (va_up (va_up (va_up (va_up (va_up (va_up (fun _ => 0) 3 q3) 4 q4) 5 q5) 6 q6) 7 q7) 8 q8) 9 q9) 10 q10) 11 q11) 12 q12) 13 q13) 14 q14) 15 q15) 16 q16) 17 q17) 19 q19) G47 := by rw [eG47]; exact i17.new n_q 19 (fun j h1 h2 => by obtain ⟨z1, z2, z3⟩ := h1; omega) (by decide)
  have hxq : x ≠ q19 := gw_neN f46 n_q
  have f48 : G47 x = some (.inr (5, [.int 0, .int 0, .int 2, .ref q3, .ref q4, .ref q5, .ref q6, .ref q7, .ref q8, .ref q9, .ref q10, .ref q11, .ref q12, .ref q13, .ref q14, .ref q15, .ref q16, .ref q17, .int 0, .null, .null, .int 0, .int 0, .int 0, .int 0])) := by rw [eG47]; exact gw_up f46 hxq
  refine gw_putF (D := D) (cl := vwCl) (ci := 5) (C := "StackRoomModel") (T := T_R) (N := 25) (v := .ref q19) (ty := .array .boolean) hx hb ht in_R ty_R tk_R nm_R hown hK.1 hP hS f48 rfl 19 (by decide) (ht _ fl_R_R_seen) (fun _ h9 => h9) rfl hin rfl (by decide +kernel) rfl rfl (Nat.le_of_ble_eq_true rfl) d_R_init_147 (fun H locs hP hS => ?_)
  obtain ⟨G49, eG49⟩ : ∃ z : gw_G, z = va_up G47 x (some (.inr (5, [.int 0, .int 0, .int 2, .ref q3, .ref q4, .ref q5, .ref q6, .ref q7, .ref q8, .ref q9, .ref q10, .ref q11, .ref q12, .ref q13, .ref q14, .ref q15, .ref q16, .ref q17, .int 0, .ref q19, .null, .int 0, .int 0, .int 0, .int 0]))) := ⟨_, rfl⟩
  replace hP : gw_P D vwCl (gw_A G s.heap.size) G49 H := by rw [eG49]; exact hP
  have f49 : G49 x = some (.inr (5, [.int 0, .int 0, .int 2, .ref q3, .ref q4, .ref q5, .ref q6, .ref q7, .ref q8, .ref q9, .ref q10, .ref q11, .ref q12, .ref q13, .ref q14, .ref q15, .ref q16, .ref q17, .int 0, .ref q19, .null, .int 0, .int 0, .int 0, .int 0])) := by rw [eG49]; exact va_up_self _ _ _
  have i19 : m_Ini 19 cI cB cZ (va_up (va_up (va_up (va_up (va_up (va_up (va_up (va_up (va_up (va_up (va_up (va_up (va_up (va_up (va_up (va_up (fun _ => 0) 3 q3) 4 q4) 5 q5) 6 q6) 7 q7) 8 q8) 9 q9) 10 q10) 11 q11) 12 q12) 13 q13) 14 q14) 15 q15) 16 q16) 17 q17) 19 q19) G49 := by rw [eG49]; exact j19.x f48
  clear j19 i17 hxq n_q
  refine lv_aload_n hx hb d_R_init_150 rfl (lv_at hl 0 rfl) ?_
  refine lv_sipush (v := 4096) hx hb d_R_init_151 (by decide) ?_
  refine gw_newa (atype := .int) (ty := .int) hx hb (ht _ ac_int) rfl hK.1 hP hS hA (n := 4096) (N' := 4096) (a0 := (4096, .inl (fun _ => 0))) (m_a0 rfl) (by decide) (by decide) (by decide) (Nat.le_of_ble_eq_true rfl) (Nat.le_of_ble_eq_true rfl) d_R_init_154 (fun q20 cA20 H hK1 hP n_q hS => ?_)
  have hcA := k_arr_int hK.1 ht2 hK1
  subst hcA
  clear hK1
  obtain ⟨G50, eG50⟩ : ∃ z : gw_G, z = va_up G49 q20 (some (.inl (cI, 4096, .inl (fun _ => 0)))) := ⟨_, rfl⟩
  replace hP : gw_P D vwCl (gw_A G s.heap.size) G50 H := by rw [eG50]; exact hP
  have j20 : m_Ini 20 cI cB cZ (va_up (va_up (va_up (va_up (va_up (va_up (va_up (va_up (va_up (va_up (va_up (va_up (va_up (va_up (va_up (va_up (va_up (fun _ => 0) 3 q3) 4 q4) 5 q5) 6 q6) 7 q7) 8 q8) 9 q9) 10 q10) 11 q11) 12 q12) 13 q13) 14 q14) 15 q15) 16 q16) 17 q17) 19 q19) 20 q20) G50 := by rw [eG50]; exact i19.new n_q 20 (fun j h1 h2 => by obtain ⟨z1, z2, z3⟩ := h1; omega) (by decide)
  have hxq : x ≠ q20 := gw_neN f49 n_q
  have f51 : G50 x = some (.inr (5, [.int 0, .int 0, .int 2, .ref q3, .ref q4, .ref q5, .ref q6, .ref q7, .ref q8, .ref q9, .ref q10, .ref q11, .ref q12, .ref q13, .ref q14, .ref q15, .ref q16, .ref q17, .int 0, .ref q19, .null, .int 0, .int 0, .int 0, .int 0])) := by rw [eG50]; exact gw_up f49 hxq
  refine gw_putF (D := D) (cl := vwCl) (ci := 5) (C := "StackRoomModel") (T := T_R) (N := 25) (v := .ref q20) (ty := .array .int) hx hb ht in_R ty_R tk_R nm_R hown hK.1 hP hS f51 rfl 20 (by decide) (ht _ fl_R_R_todo) (fun _ h9 => h9) rfl hin rfl (by decide +kernel) rfl rfl (Nat.le_of_ble_eq_true rfl) d_R_init_156 (fun H locs hP hS => ?_)
  obtain ⟨G52, eG52⟩ : ∃ z : gw_G, z = va_up G50 x (some (.inr (5, [.int 0, .int 0, .int 2, .ref q3, .ref q4, .ref q5, .ref q6, .ref q7, .ref q8, .ref q9, .ref q10, .ref q11, .ref q12, .ref q13, .ref q14, .ref q15, .ref q16, .ref q17, .int 0, .ref q19, .ref q20, .int 0, .int 0, .int 0, .int 0]))) := ⟨_, rfl⟩
  replace hP : gw_P D vwCl (gw_A G s.heap.size) G52 H := by rw [eG52]; exact hP
  have f52 : G52 x = some (.inr (5, [.int 0, .int 0, .int 2, .ref q3, .ref q4, .ref q5, .ref q6, .ref q7, .ref q8, .ref q9, .ref q10, .ref q11, .ref q12, .ref q13, .ref q14, .ref q15, .ref q16, .ref q17, .int 0, .ref q19, .ref q20, .int 0, .int 0, .int 0, .int 0])) := by rw [eG52]; exact va_up_self _ _ _
  have i20 : m_Ini 20 cI cB cZ (va_up (va_up (va_up (va_up (va_up (va_up (va_up (va_up (va_up (va_up (va_up (va_up (va_up (va_up (va_up (va_up (va_up (fun _ => 0) 3 q3) 4 q4) 5 q5) 6 q6) 7 q7) 8 q8) 9 q9) 10 q10) 11 q11) 12 q12) 13 q13) 14 q14) 15 q15) 16 q16) 17 q17) 19 q19) 20 q20) G52 := by rw [eG52]; exact j20.x f51
  clear j20 i19 hxq n_q
  refine lv_aload_n hx hb d_R_init_159 rfl (lv_at hl 0 rfl) ?_
  refine lv_iload_n hx hb d_R_init_160 rfl (lv_at hl 1 rfl) ?_
  refine lv_sipush (v := 128) hx hb d_R_init_161 (by decide) ?_
  refine lv_icmp_lt (tgt := 177) hx hb d_R_init_164 (by decide) (fun b1 => ?_) (fun b1 => ?_)
  · refine lv_ldc hx hb hown (ht _ cs_R_32768) d_R_init_177 ?_
    refine W.eq (g2 := F0 m 179 ls [.int (nI (c_w wa)), .ref x]) (by rw [c_w0 (fun z => absurd z.1 (Int32.not_le.mpr b1))]) ?_
    refine gw_putF (D := D) (cl := vwCl) (ci := 5) (C := "StackRoomModel") (T := T_R) (N := 25) (v := .int (nI (c_w wa))) (ty := .int) hx hb ht in_R ty_R tk_R nm_R hown hK.1 hP hS f52 rfl 0 (by decide) (ht _ fl_R_R_words) (fun _ h9 => h9) rfl hin rfl (by decide +kernel) rfl rfl (Nat.le_of_ble_eq_true rfl) d_R_init_179 (fun H locs hP hS => ?_)
    obtain ⟨G53, eG53⟩ : ∃ z : gw_G, z = va_up G52 x (some (.inr (5, [.int (nI (c_w wa)), .int 0, .int 2, .ref q3, .ref q4, .ref q5, .ref q6, .ref q7, .ref q8, .ref q9, .ref q10, .ref q11, .ref q12, .ref q13, .ref q14, .ref q15, .ref q16, .ref q17, .int 0, .ref q19, .ref q20, .int 0, .int 0, .int 0, .int 0]))) := ⟨_, rfl⟩
    replace hP : gw_P D vwCl (gw_A G s.heap.size) G53 H := by rw [eG53]; exact hP
    have f53 : G53 x = some (.inr (5, [.int (nI (c_w wa)), .int 0, .int 2, .ref q3, .ref q4, .ref q5, .ref q6, .ref q7, .ref q8, .ref q9, .ref q10, .ref q11, .ref q12, .ref q13, .ref q14, .ref q15, .ref q16, .ref q17, .int 0, .ref q19, .ref q20, .int 0, .int 0, .int 0, .int 0])) := by rw [eG53]; exact va_up_self _ _ _
    have iw : m_Ini 20 cI cB cZ (va_up (va_up (va_up (va_up (va_up (va_up (va_up (va_up (va_up (va_up (va_up (va_up (va_up (va_up (va_up (va_up (va_up (fun _ => 0) 3 q3) 4 q4) 5 q5) 6 q6) 7 q7) 8 q8) 9 q9) 10 q10) 11 q11) 12 q12) 13 q13) 14 q14) 15 q15) 16 q16) 17 q17) 19 q19) 20 q20) G53 := by rw [eG53]; exact i20.x f52
    refine lv_aload_n hx hb d_R_init_182 rfl (lv_at hl 0 rfl) ?_
    refine lv_iload_n hx hb d_R_init_183 rfl (lv_at hl 2 rfl) ?_
    refine lv_bipush (v := 16) hx hb d_R_init_184 (by decide) ?_
    refine lv_icmp_lt (tgt := 200) hx hb d_R_init_186 (by decide) (fun d1 => ?_) (fun d1 => ?_)
    · refine lv_sipush (v := 4096) hx hb d_R_init_200 (by decide) ?_
      refine W.eq (g2 := F0 m 203 ls [.int (nI (c_n na)), .ref x]) (by rw [c_n0 (fun z => absurd z.1 (Int32.not_le.mpr d1))]) ?_
      refine gw_putF (D := D) (cl := vwCl) (ci := 5) (C := "StackRoomModel") (T := T_R) (N := 25) (v := .int (nI (c_n na))) (ty := .int) hx hb ht in_R ty_R tk_R nm_R hown hK.1 hP hS f53 rfl 1 (by decide) (ht _ fl_R_R_entries) (fun _ h9 => h9) rfl hin rfl (by decide +kernel) rfl rfl (Nat.le_of_ble_eq_true rfl) d_R_init_203 (fun H locs hP hS => ?_)
      obtain ⟨G54, eG54⟩ : ∃ z : gw_G, z = va_up G53 x (some (.inr (5, [.int (nI (c_w wa)), .int (nI (c_n na)), .int 2, .ref q3, .ref q4, .ref q5, .ref q6, .ref q7, .ref q8, .ref q9, .ref q10, .ref q11, .ref q12, .ref q13, .ref q14, .ref q15, .ref q16, .ref q17, .int 0, .ref q19, .ref q20, .int 0, .int 0, .int 0, .int 0]))) := ⟨_, rfl⟩
      replace hP : gw_P D vwCl (gw_A G s.heap.size) G54 H := by rw [eG54]; exact hP
      have f54 : G54 x = some (.inr (5, [.int (nI (c_w wa)), .int (nI (c_n na)), .int 2, .ref q3, .ref q4, .ref q5, .ref q6, .ref q7, .ref q8, .ref q9, .ref q10, .ref q11, .ref q12, .ref q13, .ref q14, .ref q15, .ref q16, .ref q17, .int 0, .ref q19, .ref q20, .int 0, .int 0, .int 0, .int 0])) := by rw [eG54]; exact va_up_self _ _ _
      have ie : m_Ini 20 cI cB cZ (va_up (va_up (va_up (va_up (va_up (va_up (va_up (va_up (va_up (va_up (va_up (va_up (va_up (va_up (va_up (va_up (va_up (fun _ => 0) 3 q3) 4 q4) 5 q5) 6 q6) 7 q7) 8 q8) 9 q9) 10 q10) 11 q11) 12 q12) 13 q13) 14 q14) 15 q15) 16 q16) 17 q17) 19 q19) 20 q20) G54 := by rw [eG54]; exact iw.x f53
      refine W.widen (k := 17) (n := 122896) (by omega) (by omega) ?_
      exact W.vret hx hb hr (fun t ht hW => ⟨⟨G54, rfl, ⟨(va_up (va_up (va_up (va_up (va_up (va_up (va_up (va_up (va_up (va_up (va_up (va_up (va_up (va_up (va_up (va_up (va_up (fun _ => 0) 3 q3) 4 q4) 5 q5) 6 q6) 7 q7) 8 q8) 9 q9) 10 q10) 11 q11) 12 q12) 13 q13) 14 q14) 15 q15) 16 q16) 17 q17) 19 q19) 20 q20), fun _ _ => 0, fun _ => 0, fun _ => 0, 0, 0, 0, 0, 0, ⟨f54, fun k hk => ie.1 k hk hk.2.1, fun j k hj hk => ie.2 j k hj hk hj.2.1 hk.2.1⟩, m_Sem_new⟩, g_fin ht hP⟩, hS.F ht⟩) hS.2.2 d_R_init_206
    · refine lv_iload_n hx hb d_R_init_189 rfl (lv_at hl 2 rfl) ?_
      refine lv_sipush (v := 4096) hx hb d_R_init_190 (by decide) ?_
      refine lv_icmp_gt (tgt := 200) hx hb d_R_init_193 (by decide) (fun d2 => ?_) (fun d2 => ?_)
      · refine lv_sipush (v := 4096) hx hb d_R_init_200 (by decide) ?_
        refine W.eq (g2 := F0 m 203 ls [.int (nI (c_n na)), .ref x]) (by rw [c_n0 (fun z => absurd z.2 (Int32.not_le.mpr d2))]) ?_
        refine gw_putF (D := D) (cl := vwCl) (ci := 5) (C := "StackRoomModel") (T := T_R) (N := 25) (v := .int (nI (c_n na))) (ty := .int) hx hb ht in_R ty_R tk_R nm_R hown hK.1 hP hS f53 rfl 1 (by decide) (ht _ fl_R_R_entries) (fun _ h9 => h9) rfl hin rfl (by decide +kernel) rfl rfl (Nat.le_of_ble_eq_true rfl) d_R_init_203 (fun H locs hP hS => ?_)
        obtain ⟨G55, eG55⟩ : ∃ z : gw_G, z = va_up G53 x (some (.inr (5, [.int (nI (c_w wa)), .int (nI (c_n na)), .int 2, .ref q3, .ref q4, .ref q5, .ref q6, .ref q7, .ref q8, .ref q9, .ref q10, .ref q11, .ref q12, .ref q13, .ref q14, .ref q15, .ref q16, .ref q17, .int 0, .ref q19, .ref q20, .int 0, .int 0, .int 0, .int 0]))) := ⟨_, rfl⟩
        replace hP : gw_P D vwCl (gw_A G s.heap.size) G55 H := by rw [eG55]; exact hP
        have f55 : G55 x = some (.inr (5, [.int (nI (c_w wa)), .int (nI (c_n na)), .int 2, .ref q3, .ref q4, .ref q5, .ref q6, .ref q7, .ref q8, .ref q9, .ref q10, .ref q11, .ref q12, .ref q13, .ref q14, .ref q15, .ref q16, .ref q17, .int 0, .ref q19, .ref q20, .int 0, .int 0, .int 0, .int 0])) := by rw [eG55]; exact va_up_self _ _ _
        have ie : m_Ini 20 cI cB cZ (va_up (va_up (va_up (va_up (va_up (va_up (va_up (va_up (va_up (va_up (va_up (va_up (va_up (va_up (va_up (va_up (va_up (fun _ => 0) 3 q3) 4 q4) 5 q5) 6 q6) 7 q7) 8 q8) 9 q9) 10 q10) 11 q11) 12 q12) 13 q13) 14 q14) 15 q15) 16 q16) 17 q17) 19 q19) 20 q20) G55 := by rw [eG55]; exact iw.x f53
        refine W.widen (k := 17) (n := 122896) (by omega) (by omega) ?_
        exact W.vret hx hb hr (fun t ht hW => ⟨⟨G55, rfl, ⟨(va_up (va_up (va_up (va_up (va_up (va_up (va_up (va_up (va_up (va_up (va_up (va_up (va_up (va_up (va_up (va_up (va_up (fun _ => 0) 3 q3) 4 q4) 5 q5) 6 q6) 7 q7) 8 q8) 9 q9) 10 q10) 11 q11) 12 q12) 13 q13) 14 q14) 15 q15) 16 q16) 17 q17) 19 q19) 20 q20), fun _ _ => 0, fun _ => 0, fun _ => 0, 0, 0, 0, 0, 0, ⟨f55, fun k hk => ie.1 k hk hk.2.1, fun j k hj hk => ie.2 j k hj hk hj.2.1 hk.2.1⟩, m_Sem_new⟩, g_fin ht hP⟩, hS.F ht⟩) hS.2.2 d_R_init_206
      · refine lv_iload_n hx hb d_R_init_196 rfl (lv_at hl 2 rfl) ?_
        refine lv_goto (tgt := 203) hx hb d_R_init_197 (by decide) ?_
        refine W.eq (g2 := F0 m 203 ls [.int (nI (c_n na)), .ref x]) (by rw [c_nI ⟨Int32.not_lt.mp d1, Int32.not_lt.mp d2⟩]) ?_
        refine gw_putF (D := D) (cl := vwCl) (ci := 5) (C := "StackRoomModel") (T := T_R) (N := 25) (v := .int (nI (c_n na))) (ty := .int) hx hb ht in_R ty_R tk_R nm_R hown hK.1 hP hS f53 rfl 1 (by decide) (ht _ fl_R_R_entries) (fun _ h9 => h9) rfl hin rfl (by decide +kernel) rfl rfl (Nat.le_of_ble_eq_true rfl) d_R_init_203 (fun H locs hP hS => ?_)
        obtain ⟨G56, eG56⟩ : ∃ z : gw_G, z = va_up G53 x (some (.inr (5, [.int (nI (c_w wa)), .int (nI (c_n na)), .int 2, .ref q3, .ref q4, .ref q5, .ref q6, .ref q7, .ref q8, .ref q9, .ref q10, .ref q11, .ref q12, .ref q13, .ref q14, .ref q15, .ref q16, .ref q17, .int 0, .ref q19, .ref q20, .int 0, .int 0, .int 0, .int 0]))) := ⟨_, rfl⟩
        replace hP : gw_P D vwCl (gw_A G s.heap.size) G56 H := by rw [eG56]; exact hP
        have f56 : G56 x = some (.inr (5, [.int (nI (c_w wa)), .int (nI (c_n na)), .int 2, .ref q3, .ref q4, .ref q5, .ref q6, .ref q7, .ref q8, .ref q9, .ref q10, .ref q11, .ref q12, .ref q13, .ref q14, .ref q15, .ref q16, .ref q17, .int 0, .ref q19, .ref q20, .int 0, .int 0, .int 0, .int 0])) := by rw [eG56]; exact va_up_self _ _ _
        have ie : m_Ini 20 cI cB cZ (va_up (va_up (va_up (va_up (va_up (va_up (va_up (va_up (va_up (va_up (va_up (va_up (va_up (va_up (va_up (va_up (va_up (fun _ => 0) 3 q3) 4 q4) 5 q5) 6 q6) 7 q7) 8 q8) 9 q9) 10 q10) 11 q11) 12 q12) 13 q13) 14 q14) 15 q15) 16 q16) 17 q17) 19 q19) 20 q20) G56 := by rw [eG56]; exact iw.x f53
        refine W.widen (k := 17) (n := 122896) (by omega) (by omega) ?_
        exact W.vret hx hb hr (fun t ht hW => ⟨⟨G56, rfl, ⟨(va_up (va_up (va_up (va_up (va_up (va_up (va_up (va_up (va_up (va_up (va_up (va_up (va_up (va_up (va_up (va_up (va_up (fun _ => 0) 3 q3) 4 q4) 5 q5) 6 q6) 7 q7) 8 q8) 9 q9) 10 q10) 11 q11) 12 q12) 13 q13) 14 q14) 15 q15) 16 q16) 17 q17) 19 q19) 20 q20), fun _ _ => 0, fun _ => 0, fun _ => 0, 0, 0, 0, 0, 0, ⟨f56, fun k hk => ie.1 k hk hk.2.1, fun j k hj hk => ie.2 j k hj hk hj.2.1 hk.2.1⟩, m_Sem_new⟩, g_fin ht hP⟩, hS.F ht⟩) hS.2.2 d_R_init_206
  · refine lv_iload_n hx hb d_R_init_167 rfl (lv_at hl 1 rfl) ?_
    refine lv_ldc hx hb hown (ht _ cs_R_32768) d_R_init_168 ?_
    refine lv_icmp_gt (tgt := 177) hx hb d_R_init_170 (by decide) (fun b2 => ?_) (fun b2 => ?_)
    · refine lv_ldc hx hb hown (ht _ cs_R_32768) d_R_init_177 ?_
      refine W.eq (g2 := F0 m 179 ls [.int (nI (c_w wa)), .ref x]) (by rw [c_w0 (fun z => absurd z.2 (Int32.not_le.mpr b2))]) ?_
      refine gw_putF (D := D) (cl := vwCl) (ci := 5) (C := "StackRoomModel") (T := T_R) (N := 25) (v := .int (nI (c_w wa))) (ty := .int) hx hb ht in_R ty_R tk_R nm_R hown hK.1 hP hS f52 rfl 0 (by decide) (ht _ fl_R_R_words) (fun _ h9 => h9) rfl hin rfl (by decide +kernel) rfl rfl (Nat.le_of_ble_eq_true rfl) d_R_init_179 (fun H locs hP hS => ?_)
      obtain ⟨G57, eG57⟩ : ∃ z : gw_G, z = va_up G52 x (some (.inr (5, [.int (nI (c_w wa)), .int 0, .int 2, .ref q3, .ref q4, .ref q5, .ref q6, .ref q7, .ref q8, .ref q9, .ref q10, .ref q11, .ref q12, .ref q13, .ref q14, .ref q15, .ref q16, .ref q17, .int 0, .ref q19, .ref q20, .int 0, .int 0, .int 0, .int 0]))) := ⟨_, rfl⟩
      replace hP : gw_P D vwCl (gw_A G s.heap.size) G57 H := by rw [eG57]; exact hP
      have f57 : G57 x = some (.inr (5, [.int (nI (c_w wa)), .int 0, .int 2, .ref q3, .ref q4, .ref q5, .ref q6, .ref q7, .ref q8, .ref q9, .ref q10, .ref q11, .ref q12, .ref q13, .ref q14, .ref q15, .ref q16, .ref q17, .int 0, .ref q19, .ref q20, .int 0, .int 0, .int 0, .int 0])) := by rw [eG57]; exact va_up_self _ _ _
      have iw : m_Ini 20 cI cB cZ (va_up (va_up (va_up (va_up (va_up (va_up (va_up (va_up (va_up (va_up (va_up (va_up (va_up (va_up (va_up (va_up (va_up (fun _ => 0) 3 q3) 4 q4) 5 q5) 6 q6) 7 q7) 8 q8) 9 q9) 10 q10) 11 q11) 12 q12) 13 q13) 14 q14) 15 q15) 16 q16) 17 q17) 19 q19) 20 q20) G57 := by rw [eG57]; exact i20.x f52
      refine lv_aload_n hx hb d_R_init_182 rfl (lv_at hl 0 rfl) ?_
      refine lv_iload_n hx hb d_R_init_183 rfl (lv_at hl 2 rfl) ?_
      refine lv_bipush (v := 16) hx hb d_R_init_184 (by decide) ?_
      refine lv_icmp_lt (tgt := 200) hx hb d_R_init_186 (by decide) (fun d1 => ?_) (fun d1 => ?_)
      · refine lv_sipush (v := 4096) hx hb d_R_init_200 (by decide) ?_
        refine W.eq (g2 := F0 m 203 ls [.int (nI (c_n na)), .ref x]) (by rw [c_n0 (fun z => absurd z.1 (Int32.not_le.mpr d1))]) ?_
        refine gw_putF (D := D) (cl := vwCl) (ci := 5) (C := "StackRoomModel") (T := T_R) (N := 25) (v := .int (nI (c_n na))) (ty := .int) hx hb ht in_R ty_R tk_R nm_R hown hK.1 hP hS f57 rfl 1 (by decide) (ht _ fl_R_R_entries) (fun _ h9 => h9) rfl hin rfl (by decide +kernel) rfl rfl (Nat.le_of_ble_eq_true rfl) d_R_init_203 (fun H locs hP hS => ?_)
        obtain ⟨G58, eG58⟩ : ∃ z : gw_G, z = va_up G57 x (some (.inr (5, [.int (nI (c_w wa)), .int (nI (c_n na)), .int 2, .ref q3, .ref q4, .ref q5, .ref q6, .ref q7, .ref q8, .ref q9, .ref q10, .ref q11, .ref q12, .ref q13, .ref q14, .ref q15, .ref q16, .ref q17, .int 0, .ref q19, .ref q20, .int 0, .int 0, .int 0, .int 0]))) := ⟨_, rfl⟩
        replace hP : gw_P D vwCl (gw_A G s.heap.size) G58 H := by rw [eG58]; exact hP
        have f58 : G58 x = some (.inr (5, [.int (nI (c_w wa)), .int (nI (c_n na)), .int 2, .ref q3, .ref q4, .ref q5, .ref q6, .ref q7, .ref q8, .ref q9, .ref q10, .ref q11, .ref q12, .ref q13, .ref q14, .ref q15, .ref q16, .ref q17, .int 0, .ref q19, .ref q20, .int 0, .int 0, .int 0, .int 0])) := by rw [eG58]; exact va_up_self _ _ _
        have ie : m_Ini 20 cI cB cZ (va_up (va_up (va_up (va_up (va_up (va_up (va_up (va_up (va_up (va_up (va_up (va_up (va_up (va_up (va_up (va_up (va_up (fun _ => 0) 3 q3) 4 q4) 5 q5) 6 q6) 7 q7) 8 q8) 9 q9) 10 q10) 11 q11) 12 q12) 13 q13) 14 q14) 15 q15) 16 q16) 17 q17) 19 q19) 20 q20) G58 := by rw [eG58]; exact iw.x f57
        refine W.widen (k := 17) (n := 122896) (by omega) (by omega) ?_
        exact W.vret hx hb hr (fun t ht hW => ⟨⟨G58, rfl, ⟨(va_up (va_up (va_up (va_up (va_up (va_up (va_up (va_up (va_up (va_up (va_up (va_up (va_up (va_up (va_up (va_up (va_up (fun _ => 0) 3 q3) 4 q4) 5 q5) 6 q6) 7 q7) 8 q8) 9 q9) 10 q10) 11 q11) 12 q12) 13 q13) 14 q14) 15 q15) 16 q16) 17 q17) 19 q19) 20 q20), fun _ _ => 0, fun _ => 0, fun _ => 0, 0, 0, 0, 0, 0, ⟨f58, fun k hk => ie.1 k hk hk.2.1, fun j k hj hk => ie.2 j k hj hk hj.2.1 hk.2.1⟩, m_Sem_new⟩, g_fin ht hP⟩, hS.F ht⟩) hS.2.2 d_R_init_206
      · refine lv_iload_n hx hb d_R_init_189 rfl (lv_at hl 2 rfl) ?_
        refine lv_sipush (v := 4096) hx hb d_R_init_190 (by decide) ?_
        refine lv_icmp_gt (tgt := 200) hx hb d_R_init_193 (by decide) (fun d2 => ?_) (fun d2 => ?_)
        · refine lv_sipush (v := 4096) hx hb d_R_init_200 (by decide) ?_
          refine W.eq (g2 := F0 m 203 ls [.int (nI (c_n na)), .ref x]) (by rw [c_n0 (fun z => absurd z.2 (Int32.not_le.mpr d2))]) ?_
          refine gw_putF (D := D) (cl := vwCl) (ci := 5) (C := "StackRoomModel") (T := T_R) (N := 25) (v := .int (nI (c_n na))) (ty := .int) hx hb ht in_R ty_R tk_R nm_R hown hK.1 hP hS f57 rfl 1 (by decide) (ht _ fl_R_R_entries) (fun _ h9 => h9) rfl hin rfl (by decide +kernel) rfl rfl (Nat.le_of_ble_eq_true rfl) d_R_init_203 (fun H locs hP hS => ?_)
          obtain ⟨G59, eG59⟩ : ∃ z : gw_G, z = va_up G57 x (some (.inr (5, [.int (nI (c_w wa)), .int (nI (c_n na)), .int 2, .ref q3, .ref q4, .ref q5, .ref q6, .ref q7, .ref q8, .ref q9, .ref q10, .ref q11, .ref q12, .ref q13, .ref q14, .ref q15, .ref q16, .ref q17, .int 0, .ref q19, .ref q20, .int 0, .int 0, .int 0, .int 0]))) := ⟨_, rfl⟩
          replace hP : gw_P D vwCl (gw_A G s.heap.size) G59 H := by rw [eG59]; exact hP
          have f59 : G59 x = some (.inr (5, [.int (nI (c_w wa)), .int (nI (c_n na)), .int 2, .ref q3, .ref q4, .ref q5, .ref q6, .ref q7, .ref q8, .ref q9, .ref q10, .ref q11, .ref q12, .ref q13, .ref q14, .ref q15, .ref q16, .ref q17, .int 0, .ref q19, .ref q20, .int 0, .int 0, .int 0, .int 0])) := by rw [eG59]; exact va_up_self _ _ _
          have ie : m_Ini 20 cI cB cZ (va_up (va_up (va_up (va_up (va_up (va_up (va_up (va_up (va_up (va_up (va_up (va_up (va_up (va_up (va_up (va_up (va_up (fun _ => 0) 3 q3) 4 q4) 5 q5) 6 q6) 7 q7) 8 q8) 9 q9) 10 q10) 11 q11) 12 q12) 13 q13) 14 q14) 15 q15) 16 q16) 17 q17) 19 q19) 20 q20) G59 := by rw [eG59]; exact iw.x f57
          refine W.widen (k := 17) (n := 122896) (by omega) (by omega) ?_
          exact W.vret hx hb hr (fun t ht hW => ⟨⟨G59, rfl, ⟨(va_up (va_up (va_up (va_up (va_up (va_up (va_up (va_up (va_up (va_up (va_up (va_up (va_up (va_up (va_up (va_up (va_up (fun _ => 0) 3 q3) 4 q4) 5 q5) 6 q6) 7 q7) 8 q8) 9 q9) 10 q10) 11 q11) 12 q12) 13 q13) 14 q14) 15 q15) 16 q16) 17 q17) 19 q19) 20 q20), fun _ _ => 0, fun _ => 0, fun _ => 0, 0, 0, 0, 0, 0, ⟨f59, fun k hk => ie.1 k hk hk.2.1, fun j k hj hk => ie.2 j k hj hk hj.2.1 hk.2.1⟩, m_Sem_new⟩, g_fin ht hP⟩, hS.F ht⟩) hS.2.2 d_R_init_206
        · refine lv_iload_n hx hb d_R_init_196 rfl (lv_at hl 2 rfl) ?_
          refine lv_goto (tgt := 203) hx hb d_R_init_197 (by decide) ?_
          refine W.eq (g2 := F0 m 203 ls [.int (nI (c_n na)), .ref x]) (by rw [c_nI ⟨Int32.not_lt.mp d1, Int32.not_lt.mp d2⟩]) ?_
          refine gw_putF (D := D) (cl := vwCl) (ci := 5) (C := "StackRoomModel") (T := T_R) (N := 25) (v := .int (nI (c_n na))) (ty := .int) hx hb ht in_R ty_R tk_R nm_R hown hK.1 hP hS f57 rfl 1 (by decide) (ht _ fl_R_R_entries) (fun _ h9 => h9) rfl hin rfl (by decide +kernel) rfl rfl (Nat.le_of_ble_eq_true rfl) d_R_init_203 (fun H locs hP hS => ?_)
          obtain ⟨G60, eG60⟩ : ∃ z : gw_G, z = va_up G57 x (some (.inr (5, [.int (nI (c_w wa)), .int (nI (c_n na)), .int 2, .ref q3, .ref q4, .ref q5, .ref q6, .ref q7, .ref q8, .ref q9, .ref q10, .ref q11, .ref q12, .ref q13, .ref q14, .ref q15, .ref q16, .ref q17, .int 0, .ref q19, .ref q20, .int 0, .int 0, .int 0, .int 0]))) := ⟨_, rfl⟩
          replace hP : gw_P D vwCl (gw_A G s.heap.size) G60 H := by rw [eG60]; exact hP
          have f60 : G60 x = some (.inr (5, [.int (nI (c_w wa)), .int (nI (c_n na)), .int 2, .ref q3, .ref q4, .ref q5, .ref q6, .ref q7, .ref q8, .ref q9, .ref q10, .ref q11, .ref q12, .ref q13, .ref q14, .ref q15, .ref q16, .ref q17, .int 0, .ref q19, .ref q20, .int 0, .int 0, .int 0, .int 0])) := by rw [eG60]; exact va_up_self _ _ _
          have ie : m_Ini 20 cI cB cZ (va_up (va_up (va_up (va_up (va_up (va_up (va_up (va_up (va_up (va_up (va_up (va_up (va_up (va_up (va_up (va_up (va_up (fun _ => 0) 3 q3) 4 q4) 5 q5) 6 q6) 7 q7) 8 q8) 9 q9) 10 q10) 11 q11) 12 q12) 13 q13) 14 q14) 15 q15) 16 q16) 17 q17) 19 q19) 20 q20) G60 := by rw [eG60]; exact iw.x f57
          refine W.widen (k := 17) (n := 122896) (by omega) (by omega) ?_
          exact W.vret hx hb hr (fun t ht hW => ⟨⟨G60, rfl, ⟨(va_up (va_up (va_up (va_up (va_up (va_up (va_up (va_up (va_up (va_up (va_up (va_up (va_up (va_up (va_up (va_up (va_up (fun _ => 0) 3 q3) 4 q4) 5 q5) 6 q6) 7 q7) 8 q8) 9 q9) 10 q10) 11 q11) 12 q12) 13 q13) 14 q14) 15 q15) 16 q16) 17 q17) 19 q19) 20 q20), fun _ _ => 0, fun _ => 0, fun _ => 0, 0, 0, 0, 0, 0, ⟨f60, fun k hk => ie.1 k hk hk.2.1, fun j k hj hk => ie.2 j k hj hk hj.2.1 hk.2.1⟩, m_Sem_new⟩, g_fin ht hP⟩, hS.F ht⟩) hS.2.2 d_R_init_206
    · refine lv_iload_n hx hb d_R_init_173 rfl (lv_at hl 1 rfl) ?_
      refine lv_goto (tgt := 179) hx hb d_R_init_174 (by decide) ?_
      refine W.eq (g2 := F0 m 179 ls [.int (nI (c_w wa)), .ref x]) (by rw [c_wI ⟨Int32.not_lt.mp b1, Int32.not_lt.mp b2⟩]) ?_
      refine gw_putF (D := D) (cl := vwCl) (ci := 5) (C := "StackRoomModel") (T := T_R) (N := 25) (v := .int (nI (c_w wa))) (ty := .int) hx hb ht in_R ty_R tk_R nm_R hown hK.1 hP hS f52 rfl 0 (by decide) (ht _ fl_R_R_words) (fun _ h9 => h9) rfl hin rfl (by decide +kernel) rfl rfl (Nat.le_of_ble_eq_true rfl) d_R_init_179 (fun H locs hP hS => ?_)
      obtain ⟨G61, eG61⟩ : ∃ z : gw_G, z = va_up G52 x (some (.inr (5, [.int (nI (c_w wa)), .int 0, .int 2, .ref q3, .ref q4, .ref q5, .ref q6, .ref q7, .ref q8, .ref q9, .ref q10, .ref q11, .ref q12, .ref q13, .ref q14, .ref q15, .ref q16, .ref q17, .int 0, .ref q19, .ref q20, .int 0, .int 0, .int 0, .int 0]))) := ⟨_, rfl⟩
      replace hP : gw_P D vwCl (gw_A G s.heap.size) G61 H := by rw [eG61]; exact hP
      have f61 : G61 x = some (.inr (5, [.int (nI (c_w wa)), .int 0, .int 2, .ref q3, .ref q4, .ref q5, .ref q6, .ref q7, .ref q8, .ref q9, .ref q10, .ref q11, .ref q12, .ref q13, .ref q14, .ref q15, .ref q16, .ref q17, .int 0, .ref q19, .ref q20, .int 0, .int 0, .int 0, .int 0])) := by rw [eG61]; exact va_up_self _ _ _
      have iw : m_Ini 20 cI cB cZ (va_up (va_up (va_up (va_up (va_up (va_up (va_up (va_up (va_up (va_up (va_up (va_up (va_up (va_up (va_up (va_up (va_up (fun _ => 0) 3 q3) 4 q4) 5 q5) 6 q6) 7 q7) 8 q8) 9 q9) 10 q10) 11 q11) 12 q12) 13 q13) 14 q14) 15 q15) 16 q16) 17 q17) 19 q19) 20 q20) G61 := by rw [eG61]; exact i20.x f52
      refine lv_aload_n hx hb d_R_init_182 rfl (lv_at hl 0 rfl) ?_
      refine lv_iload_n hx hb d_R_init_183 rfl (lv_at hl 2 rfl) ?_
      refine lv_bipush (v := 16) hx hb d_R_init_184 (by decide) ?_
      refine lv_icmp_lt (tgt := 200) hx hb d_R_init_186 (by decide) (fun d1 => ?_) (fun d1 => ?_)
      · refine lv_sipush (v := 4096) hx hb d_R_init_200 (by decide) ?_
        refine W.eq (g2 := F0 m 203 ls [.int (nI (c_n na)), .ref x]) (by rw [c_n0 (fun z => absurd z.1 (Int32.not_le.mpr d1))]) ?_
        refine gw_putF (D := D) (cl := vwCl) (ci := 5) (C := "StackRoomModel") (T := T_R) (N := 25) (v := .int (nI (c_n na))) (ty := .int) hx hb ht in_R ty_R tk_R nm_R hown hK.1 hP hS f61 rfl 1 (by decide) (ht _ fl_R_R_entries) (fun _ h9 => h9) rfl hin rfl (by decide +kernel) rfl rfl (Nat.le_of_ble_eq_true rfl) d_R_init_203 (fun H locs hP hS => ?_)
        obtain ⟨G62, eG62⟩ : ∃ z : gw_G, z = va_up G61 x (some (.inr (5, [.int (nI (c_w wa)), .int (nI (c_n na)), .int 2, .ref q3, .ref q4, .ref q5, .ref q6, .ref q7, .ref q8, .ref q9, .ref q10, .ref q11, .ref q12, .ref q13, .ref q14, .ref q15, .ref q16, .ref q17, .int 0, .ref q19, .ref q20, .int 0, .int 0, .int 0, .int 0]))) := ⟨_, rfl⟩
        replace hP : gw_P D vwCl (gw_A G s.heap.size) G62 H := by rw [eG62]; exact hP
        have f62 : G62 x = some (.inr (5, [.int (nI (c_w wa)), .int (nI (c_n na)), .int 2, .ref q3, .ref q4, .ref q5, .ref q6, .ref q7, .ref q8, .ref q9, .ref q10, .ref q11, .ref q12, .ref q13, .ref q14, .ref q15, .ref q16, .ref q17, .int 0, .ref q19, .ref q20, .int 0, .int 0, .int 0, .int 0])) := by rw [eG62]; exact va_up_self _ _ _
        have ie : m_Ini 20 cI cB cZ (va_up (va_up (va_up (va_up (va_up (va_up (va_up (va_up (va_up (va_up (va_up (va_up (va_up (va_up (va_up (va_up (va_up (fun _ => 0) 3 q3) 4 q4) 5 q5) 6 q6) 7 q7) 8 q8) 9 q9) 10 q10) 11 q11) 12 q12) 13 q13) 14 q14) 15 q15) 16 q16) 17 q17) 19 q19) 20 q20) G62 := by rw [eG62]; exact iw.x f61
        refine W.widen (k := 17) (n := 122896) (by omega) (by omega) ?_
        exact W.vret hx hb hr (fun t ht hW => ⟨⟨G62, rfl, ⟨(va_up (va_up (va_up (va_up (va_up (va_up (va_up (va_up (va_up (va_up (va_up (va_up (va_up (va_up (va_up (va_up (va_up (fun _ => 0) 3 q3) 4 q4) 5 q5) 6 q6) 7 q7) 8 q8) 9 q9) 10 q10) 11 q11) 12 q12) 13 q13) 14 q14) 15 q15) 16 q16) 17 q17) 19 q19) 20 q20), fun _ _ => 0, fun _ => 0, fun _ => 0, 0, 0, 0, 0, 0, ⟨f62, fun k hk => ie.1 k hk hk.2.1, fun j k hj hk => ie.2 j k hj hk hj.2.1 hk.2.1⟩, m_Sem_new⟩, g_fin ht hP⟩, hS.F ht⟩) hS.2.2 d_R_init_206
      · refine lv_iload_n hx hb d_R_init_189 rfl (lv_at hl 2 rfl) ?_
        refine lv_sipush (v := 4096) hx hb d_R_init_190 (by decide) ?_
        refine lv_icmp_gt (tgt := 200) hx hb d_R_init_193 (by decide) (fun d2 => ?_) (fun d2 => ?_)
        · refine lv_sipush (v := 4096) hx hb d_R_init_200 (by decide) ?_
          refine W.eq (g2 := F0 m 203 ls [.int (nI (c_n na)), .ref x]) (by rw [c_n0 (fun z => absurd z.2 (Int32.not_le.mpr d2))]) ?_
          refine gw_putF (D := D) (cl := vwCl) (ci := 5) (C := "StackRoomModel") (T := T_R) (N := 25) (v := .int (nI (c_n na))) (ty := .int) hx hb ht in_R ty_R tk_R nm_R hown hK.1 hP hS f61 rfl 1 (by decide) (ht _ fl_R_R_entries) (fun _ h9 => h9) rfl hin rfl (by decide +kernel) rfl rfl (Nat.le_of_ble_eq_true rfl) d_R_init_203 (fun H locs hP hS => ?_)
          obtain ⟨G63, eG63⟩ : ∃ z : gw_G, z = va_up G61 x (some (.inr (5, [.int (nI (c_w wa)), .int (nI (c_n na)), .int 2, .ref q3, .ref q4, .ref q5, .ref q6, .ref q7, .ref q8, .ref q9, .ref q10, .ref q11, .ref q12, .ref q13, .ref q14, .ref q15, .ref q16, .ref q17, .int 0, .ref q19, .ref q20, .int 0, .int 0, .int 0, .int 0]))) := ⟨_, rfl⟩
          replace hP : gw_P D vwCl (gw_A G s.heap.size) G63 H := by rw [eG63]; exact hP
          have f63 : G63 x = some (.inr (5, [.int (nI (c_w wa)), .int (nI (c_n na)), .int 2, .ref q3, .ref q4, .ref q5, .ref q6, .ref q7, .ref q8, .ref q9, .ref q10, .ref q11, .ref q12, .ref q13, .ref q14, .ref q15, .ref q16, .ref q17, .int 0, .ref q19, .ref q20, .int 0, .int 0, .int 0, .int 0])) := by rw [eG63]; exact va_up_self _ _ _
          have ie : m_Ini 20 cI cB cZ (va_up (va_up (va_up (va_up (va_up (va_up (va_up (va_up (va_up (va_up (va_up (va_up (va_up (va_up (va_up (va_up (va_up (fun _ => 0) 3 q3) 4 q4) 5 q5) 6 q6) 7 q7) 8 q8) 9 q9) 10 q10) 11 q11) 12 q12) 13 q13) 14 q14) 15 q15) 16 q16) 17 q17) 19 q19) 20 q20) G63 := by rw [eG63]; exact iw.x f61
          refine W.widen (k := 17) (n := 122896) (by omega) (by omega) ?_
          exact W.vret hx hb hr (fun t ht hW => ⟨⟨G63, rfl, ⟨(va_up (va_up (va_up (va_up (va_up (va_up (va_up (va_up (va_up (va_up (va_up (va_up (va_up (va_up (va_up (va_up (va_up (fun _ => 0) 3 q3) 4 q4) 5 q5) 6 q6) 7 q7) 8 q8) 9 q9) 10 q10) 11 q11) 12 q12) 13 q13) 14 q14) 15 q15) 16 q16) 17 q17) 19 q19) 20 q20), fun _ _ => 0, fun _ => 0, fun _ => 0, 0, 0, 0, 0, 0, ⟨f63, fun k hk => ie.1 k hk hk.2.1, fun j k hj hk => ie.2 j k hj hk hj.2.1 hk.2.1⟩, m_Sem_new⟩, g_fin ht hP⟩, hS.F ht⟩) hS.2.2 d_R_init_206
        · refine lv_iload_n hx hb d_R_init_196 rfl (lv_at hl 2 rfl) ?_
          refine lv_goto (tgt := 203) hx hb d_R_init_197 (by decide) ?_
          refine W.eq (g2 := F0 m 203 ls [.int (nI (c_n na)), .ref x]) (by rw [c_nI ⟨Int32.not_lt.mp d1, Int32.not_lt.mp d2⟩]) ?_
          refine gw_putF (D := D) (cl := vwCl) (ci := 5) (C := "StackRoomModel") (T := T_R) (N := 25) (v := .int (nI (c_n na))) (ty := .int) hx hb ht in_R ty_R tk_R nm_R hown hK.1 hP hS f61 rfl 1 (by decide) (ht _ fl_R_R_entries) (fun _ h9 => h9) rfl hin rfl (by decide +kernel) rfl rfl (Nat.le_of_ble_eq_true rfl) d_R_init_203 (fun H locs hP hS => ?_)
          obtain ⟨G64, eG64⟩ : ∃ z : gw_G, z = va_up G61 x (some (.inr (5, [.int (nI (c_w wa)), .int (nI (c_n na)), .int 2, .ref q3, .ref q4, .ref q5, .ref q6, .ref q7, .ref q8, .ref q9, .ref q10, .ref q11, .ref q12, .ref q13, .ref q14, .ref q15, .ref q16, .ref q17, .int 0, .ref q19, .ref q20, .int 0, .int 0, .int 0, .int 0]))) := ⟨_, rfl⟩
          replace hP : gw_P D vwCl (gw_A G s.heap.size) G64 H := by rw [eG64]; exact hP
          have f64 : G64 x = some (.inr (5, [.int (nI (c_w wa)), .int (nI (c_n na)), .int 2, .ref q3, .ref q4, .ref q5, .ref q6, .ref q7, .ref q8, .ref q9, .ref q10, .ref q11, .ref q12, .ref q13, .ref q14, .ref q15, .ref q16, .ref q17, .int 0, .ref q19, .ref q20, .int 0, .int 0, .int 0, .int 0])) := by rw [eG64]; exact va_up_self _ _ _
          have ie : m_Ini 20 cI cB cZ (va_up (va_up (va_up (va_up (va_up (va_up (va_up (va_up (va_up (va_up (va_up (va_up (va_up (va_up (va_up (va_up (va_up (fun _ => 0) 3 q3) 4 q4) 5 q5) 6 q6) 7 q7) 8 q8) 9 q9) 10 q10) 11 q11) 12 q12) 13 q13) 14 q14) 15 q15) 16 q16) 17 q17) 19 q19) 20 q20) G64 := by rw [eG64]; exact iw.x f61
          refine W.widen (k := 17) (n := 122896) (by omega) (by omega) ?_
          exact W.vret hx hb hr (fun t ht hW => ⟨⟨G64, rfl, ⟨(va_up (va_up (va_up (va_up (va_up (va_up (va_up (va_up (va_up (va_up (va_up (va_up (va_up (va_up (va_up (va_up (va_up (fun _ => 0) 3 q3) 4 q4) 5 q5) 6 q6) 7 q7) 8 q8) 9 q9) 10 q10) 11 q11) 12 q12) 13 q13) 14 q14) 15 q15) 16 q16) 17 q17) 19 q19) 20 q20), fun _ _ => 0, fun _ => 0, fun _ => 0, 0, 0, 0, 0, 0, ⟨f64, fun k hk => ie.1 k hk hk.2.1, fun j k hj hk => ie.2 j k hj hk hj.2.1 hk.2.1⟩, m_Sem_new⟩, g_fin ht hP⟩, hS.F ht⟩) hS.2.2 d_R_init_206
end K39
