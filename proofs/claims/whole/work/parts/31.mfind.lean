theorem r_le15 {a : Int32} (h : a < 16) : a ≤ 15 := by
  rw [Int32.lt_iff_toInt_lt] at h
  rw [Int32.le_iff_toInt_le]
  have e1 : (16 : Int32).toInt = 16 := rfl
  have e2 : (15 : Int32).toInt = 15 := rfl
  omega
set_option maxHeartbeats 4000000 in
set_option maxRecDepth 100000 in
theorem k_R_isRegister (l : Launch) (a : Int32) : Met l y_R_isRegister w_R_isRegister ({ frames := 0, cells := 0, slots := 0, locals := 0 }) (va_Pc [.int a] (fun _ => True)) (vp_Si (fun r => r = if 0 ≤ a ∧ a ≤ 15 then 1 else 0)) 0 0 (fun _ => False) := by
  refine Met.ofW (cc := b_R_isRegister) (maxL := 1) (ret := (some .boolean)) (by decide) rfl ?_
  intro p e s m args below meth c s₁ B hml hv
  obtain ⟨rfl, -⟩ := hv
  have hx := B.exec
  have hb := B.bytes
  have hr := B.returns
  have ht := fun w (hw : w ∈ gt) => atoms_spec (ws := w_R_isRegister) B.pre w (List.mem_cons_of_mem _ hw)
  have hown : s.vm.findClass "StackRoomModel" = some m.cls := findClass_of_methodNamed B.named
  have hlocks := B.notSynchronized
  have C0 : CallFix p m c b_R_isRegister 1 s [.int a].toArray gt "StackRoomModel" := ⟨hx, hb, hml, hown, ht⟩
  have hl := lv_entry ([.int a]) (n := 1) (Nat.le_of_ble_eq_true rfl)
  rw [lg_entry_eq]
  generalize (lg_sl ([.int a]) ++ List.replicate (1 - (lg_sl ([.int a])).length) Slot.unset).toArray = ls at hl ⊢
  have hl : lv_has ls 1 [(0, .int a)] := hl
  refine lv_iload_n hx hb d_R_isRegister_0 rfl (lv_at hl 0 rfl) ?_
  refine lv_if_lt (tgt := 14) hx hb d_R_isRegister_1 (by decide) (fun c1 => ?_) (fun c1 => ?_)
  · refine lv_iconst (v := 0) hx hb d_R_isRegister_14 (by decide) ?_
    exact W.zret (v := 0) hx hb hr rfl (fun t ht hW => ⟨_, rfl, by rw [if_neg (fun h => absurd h.1 (Int32.not_le.mpr c1))], ht⟩) (fun _ h => by cases h) d_R_isRegister_15
  · refine lv_iload_n hx hb d_R_isRegister_4 rfl (lv_at hl 0 rfl) ?_
    refine lv_bipush (v := 16) hx hb d_R_isRegister_5 (by decide) ?_
    refine lv_icmp_ge (tgt := 14) hx hb d_R_isRegister_7 (by decide) (fun c7 => ?_) (fun c7 => ?_)
    · refine lv_iconst (v := 0) hx hb d_R_isRegister_14 (by decide) ?_
      exact W.zret (v := 0) hx hb hr rfl (fun t ht hW => ⟨_, rfl, by rw [if_neg (fun h => absurd (Int32.le_trans c7 h.2) (by decide))], ht⟩) (fun _ h => by cases h) d_R_isRegister_15
    · refine lv_iconst (v := 1) hx hb d_R_isRegister_10 (by decide) ?_
      refine lv_goto (tgt := 15) hx hb d_R_isRegister_11 (by decide) ?_
      exact W.zret (v := 1) hx hb hr rfl (fun t ht hW => ⟨_, rfl, by rw [if_pos ⟨Int32.not_lt.mp c1, r_le15 (Int32.not_le.mp c7)⟩], ht⟩) (fun _ h => by cases h) d_R_isRegister_15
set_option maxHeartbeats 4000000 in
set_option maxRecDepth 100000 in
theorem k_R_isNumber (l : Launch) (a : Int32) : Met l y_R_isNumber w_R_isNumber ({ frames := 0, cells := 0, slots := 0, locals := 0 }) (va_Pc [.int a] (fun _ => True)) (vp_Si (fun r => r = if -1073741824 ≤ a ∧ a ≤ 1073741823 then 1 else 0)) 0 0 (fun _ => False) := by
  refine Met.ofW (cc := b_R_isNumber) (maxL := 1) (ret := (some .boolean)) (by decide) rfl ?_
  intro p e s m args below meth c s₁ B hml hv
  obtain ⟨rfl, -⟩ := hv
  have hx := B.exec
  have hb := B.bytes
  have hr := B.returns
  have ht := fun w (hw : w ∈ gt) => atoms_spec (ws := w_R_isNumber) B.pre w (List.mem_cons_of_mem _ hw)
  have hown : s.vm.findClass "StackRoomModel" = some m.cls := findClass_of_methodNamed B.named
  have hlocks := B.notSynchronized
  have C0 : CallFix p m c b_R_isNumber 1 s [.int a].toArray gt "StackRoomModel" := ⟨hx, hb, hml, hown, ht⟩
  have hl := lv_entry ([.int a]) (n := 1) (Nat.le_of_ble_eq_true rfl)
  rw [lg_entry_eq]
  generalize (lg_sl ([.int a]) ++ List.replicate (1 - (lg_sl ([.int a])).length) Slot.unset).toArray = ls at hl ⊢
  have hl : lv_has ls 1 [(0, .int a)] := hl
  refine lv_iload_n hx hb d_R_isNumber_0 rfl (lv_at hl 0 rfl) ?_
  refine lv_ldc hx hb hown (ht _ cs_R_m1073741824) d_R_isNumber_1 ?_
  refine lv_icmp_lt (tgt := 16) hx hb d_R_isNumber_3 (by decide) (fun ca => ?_) (fun ca => ?_)
  · refine lv_iconst (v := 0) hx hb d_R_isNumber_16 (by decide) ?_
    exact W.zret (v := 0) hx hb hr rfl (fun t ht hW => ⟨_, rfl, by rw [if_neg (fun h => absurd h.1 (Int32.not_le.mpr ca))], ht⟩) (fun _ h => by cases h) d_R_isNumber_17
  · refine lv_iload_n hx hb d_R_isNumber_6 rfl (lv_at hl 0 rfl) ?_
    refine lv_ldc hx hb hown (ht _ cs_R_1073741823) d_R_isNumber_7 ?_
    refine lv_icmp_gt (tgt := 16) hx hb d_R_isNumber_9 (by decide) (fun cb => ?_) (fun cb => ?_)
    · refine lv_iconst (v := 0) hx hb d_R_isNumber_16 (by decide) ?_
      exact W.zret (v := 0) hx hb hr rfl (fun t ht hW => ⟨_, rfl, by rw [if_neg (fun h => absurd h.2 (Int32.not_le.mpr cb))], ht⟩) (fun _ h => by cases h) d_R_isNumber_17
    · refine lv_iconst (v := 1) hx hb d_R_isNumber_12 (by decide) ?_
      refine lv_goto (tgt := 17) hx hb d_R_isNumber_13 (by decide) ?_
      exact W.zret (v := 1) hx hb hr rfl (fun t ht hW => ⟨_, rfl, by rw [if_pos ⟨Int32.not_lt.mp ca, Int32.not_lt.mp cb⟩], ht⟩) (fun _ h => by cases h) d_R_isNumber_17
set_option maxHeartbeats 4000000 in
set_option maxRecDepth 100000 in
theorem k_R_numeral (l : Launch) (a : Int32) : Met l y_R_numeral w_R_numeral ({ frames := 0, cells := 0, slots := 0, locals := 0 }) (va_Pc [.int a] (fun _ => True)) (vp_Si (fun r => r = 2 * a + 1)) 0 0 (fun _ => False) := by
  refine Met.ofW (cc := b_R_numeral) (maxL := 1) (ret := (some .int)) (by decide) rfl ?_
  intro p e s m args below meth c s₁ B hml hv
  obtain ⟨rfl, -⟩ := hv
  have hx := B.exec
  have hb := B.bytes
  have hr := B.returns
  have ht := fun w (hw : w ∈ gt) => atoms_spec (ws := w_R_numeral) B.pre w (List.mem_cons_of_mem _ hw)
  have hown : s.vm.findClass "StackRoomModel" = some m.cls := findClass_of_methodNamed B.named
  have hlocks := B.notSynchronized
  have C0 : CallFix p m c b_R_numeral 1 s [.int a].toArray gt "StackRoomModel" := ⟨hx, hb, hml, hown, ht⟩
  have hl := lv_entry ([.int a]) (n := 1) (Nat.le_of_ble_eq_true rfl)
  rw [lg_entry_eq]
  generalize (lg_sl ([.int a]) ++ List.replicate (1 - (lg_sl ([.int a])).length) Slot.unset).toArray = ls at hl ⊢
  have hl : lv_has ls 1 [(0, .int a)] := hl
  refine lv_iconst (v := 2) hx hb d_R_numeral_0 (by decide) ?_
  refine lv_iload_n hx hb d_R_numeral_1 rfl (lv_at hl 0 rfl) ?_
  refine lv_imul hx hb d_R_numeral_2 ?_
  refine lv_iconst (v := 1) hx hb d_R_numeral_3 (by decide) ?_
  refine lv_iadd hx hb d_R_numeral_4 ?_
  exact W.iret (v := 2 * a + 1) hx hb hr (fun t ht hW => ⟨_, rfl, rfl, ht⟩) (fun _ h => by cases h) d_R_numeral_5
set_option maxHeartbeats 4000000 in
set_option maxRecDepth 100000 in
theorem k_R_isObject (l : Launch) (a : Int32) : Met l y_R_isObject w_R_isObject ({ frames := 0, cells := 0, slots := 0, locals := 0 }) (va_Pc [.int a] (fun _ => True)) (vp_Si (fun r => r = if ¬ a = 0 ∧ a - a / 2 * 2 = 0 then 1 else 0)) 0 0 (fun _ => False) := by
  refine Met.ofW (cc := b_R_isObject) (maxL := 1) (ret := (some .boolean)) (by decide) rfl ?_
  intro p e s m args below meth c s₁ B hml hv
  obtain ⟨rfl, -⟩ := hv
  have hx := B.exec
  have hb := B.bytes
  have hr := B.returns
  have ht := fun w (hw : w ∈ gt) => atoms_spec (ws := w_R_isObject) B.pre w (List.mem_cons_of_mem _ hw)
  have hown : s.vm.findClass "StackRoomModel" = some m.cls := findClass_of_methodNamed B.named
  have hlocks := B.notSynchronized
  have C0 : CallFix p m c b_R_isObject 1 s [.int a].toArray gt "StackRoomModel" := ⟨hx, hb, hml, hown, ht⟩
  have hl := lv_entry ([.int a]) (n := 1) (Nat.le_of_ble_eq_true rfl)
  rw [lg_entry_eq]
  generalize (lg_sl ([.int a]) ++ List.replicate (1 - (lg_sl ([.int a])).length) Slot.unset).toArray = ls at hl ⊢
  have hl : lv_has ls 1 [(0, .int a)] := hl
  refine lv_iload_n hx hb d_R_isObject_0 rfl (lv_at hl 0 rfl) ?_
  refine lv_if_eq (tgt := 14) hx hb d_R_isObject_1 (by decide) (fun ca => ?_) (fun ca => ?_)
  · refine lv_iconst (v := 0) hx hb d_R_isObject_14 (by decide) ?_
    exact W.zret (v := 0) hx hb hr rfl (fun t ht hW => ⟨_, rfl, by rw [if_neg (fun h => h.1 ca)], ht⟩) (fun _ h => by cases h) d_R_isObject_15
  · refine lv_iload_n hx hb d_R_isObject_4 rfl (lv_at hl 0 rfl) ?_
    refine lv_iconst (v := 2) hx hb d_R_isObject_5 (by decide) ?_
    refine lv_irem hx hb d_R_isObject_6 (by decide) ?_
    refine lv_if_ne (tgt := 14) hx hb d_R_isObject_7 (by decide) (fun cb => ?_) (fun cb => ?_)
    · refine lv_iconst (v := 0) hx hb d_R_isObject_14 (by decide) ?_
      exact W.zret (v := 0) hx hb hr rfl (fun t ht hW => ⟨_, rfl, by rw [if_neg (fun h => cb h.2)], ht⟩) (fun _ h => by cases h) d_R_isObject_15
    · refine lv_iconst (v := 1) hx hb d_R_isObject_10 (by decide) ?_
      refine lv_goto (tgt := 15) hx hb d_R_isObject_11 (by decide) ?_
      exact W.zret (v := 1) hx hb hr rfl (fun t ht hW => ⟨_, rfl, by rw [if_pos ⟨ca, cb⟩], ht⟩) (fun _ h => by cases h) d_R_isObject_15
set_option maxHeartbeats 4000000 in
set_option maxRecDepth 100000 in
theorem k_R_isMethod (l : Launch) (a t d : Int32) : Met l y_R_isMethod w_R_isMethod ({ frames := 0, cells := 0, slots := 0, locals := 0 }) (va_Pc [.int a, .int t, .int d] (fun _ => True)) (vp_Si (fun r => r = if (0 ≤ a ∧ a ≤ 15) ∧ (a ≤ t ∧ t ≤ 31) ∧ (0 ≤ d ∧ d ≤ 63) then 1 else 0)) 0 0 (fun _ => False) := by
  refine Met.ofW (cc := b_R_isMethod) (maxL := 3) (ret := (some .boolean)) (by decide) rfl ?_
  intro p e s m args below meth c s₁ B hml hv
  obtain ⟨rfl, -⟩ := hv
  have hx := B.exec
  have hb := B.bytes
  have hr := B.returns
  have ht := fun w (hw : w ∈ gt) => atoms_spec (ws := w_R_isMethod) B.pre w (List.mem_cons_of_mem _ hw)
  have hown : s.vm.findClass "StackRoomModel" = some m.cls := findClass_of_methodNamed B.named
  have hlocks := B.notSynchronized
  have C0 : CallFix p m c b_R_isMethod 3 s [.int a, .int t, .int d].toArray gt "StackRoomModel" := ⟨hx, hb, hml, hown, ht⟩
  have hl := lv_entry ([.int a, .int t, .int d]) (n := 3) (Nat.le_of_ble_eq_true rfl)
  rw [lg_entry_eq]
  generalize (lg_sl ([.int a, .int t, .int d]) ++ List.replicate (3 - (lg_sl ([.int a, .int t, .int d])).length) Slot.unset).toArray = ls at hl ⊢
  have hl : lv_has ls 3 [(0, .int a), (1, .int t), (2, .int d)] := hl
  refine lv_iload_n hx hb d_R_isMethod_0 rfl (lv_at hl 0 rfl) ?_
  refine lv_if_lt (tgt := 35) hx hb d_R_isMethod_1 (by decide) (fun c0 => ?_) (fun c0 => ?_)
  · refine lv_iconst (v := 0) hx hb d_R_isMethod_35 (by decide) ?_
    exact W.zret (v := 0) hx hb hr rfl (fun t ht hW => ⟨_, rfl, by rw [if_neg (fun h => absurd h.1.1 (Int32.not_le.mpr c0))], ht⟩) (fun _ h => by cases h) d_R_isMethod_36
  · refine lv_iload_n hx hb d_R_isMethod_4 rfl (lv_at hl 0 rfl) ?_
    refine lv_bipush (v := 15) hx hb d_R_isMethod_5 (by decide) ?_
    refine lv_icmp_gt (tgt := 35) hx hb d_R_isMethod_7 (by decide) (fun c1 => ?_) (fun c1 => ?_)
    · refine lv_iconst (v := 0) hx hb d_R_isMethod_35 (by decide) ?_
      exact W.zret (v := 0) hx hb hr rfl (fun t ht hW => ⟨_, rfl, by rw [if_neg (fun h => absurd h.1.2 (Int32.not_le.mpr c1))], ht⟩) (fun _ h => by cases h) d_R_isMethod_36
    · refine lv_iload_n hx hb d_R_isMethod_10 rfl (lv_at hl 1 rfl) ?_
      refine lv_iload_n hx hb d_R_isMethod_11 rfl (lv_at hl 0 rfl) ?_
      refine lv_icmp_lt (tgt := 35) hx hb d_R_isMethod_12 (by decide) (fun c2 => ?_) (fun c2 => ?_)
      · refine lv_iconst (v := 0) hx hb d_R_isMethod_35 (by decide) ?_
        exact W.zret (v := 0) hx hb hr rfl (fun t ht hW => ⟨_, rfl, by rw [if_neg (fun h => absurd h.2.1.1 (Int32.not_le.mpr c2))], ht⟩) (fun _ h => by cases h) d_R_isMethod_36
      · refine lv_iload_n hx hb d_R_isMethod_15 rfl (lv_at hl 1 rfl) ?_
        refine lv_bipush (v := 31) hx hb d_R_isMethod_16 (by decide) ?_
        refine lv_icmp_gt (tgt := 35) hx hb d_R_isMethod_18 (by decide) (fun c3 => ?_) (fun c3 => ?_)
        · refine lv_iconst (v := 0) hx hb d_R_isMethod_35 (by decide) ?_
          exact W.zret (v := 0) hx hb hr rfl (fun t ht hW => ⟨_, rfl, by rw [if_neg (fun h => absurd h.2.1.2 (Int32.not_le.mpr c3))], ht⟩) (fun _ h => by cases h) d_R_isMethod_36
        · refine lv_iload_n hx hb d_R_isMethod_21 rfl (lv_at hl 2 rfl) ?_
          refine lv_if_lt (tgt := 35) hx hb d_R_isMethod_22 (by decide) (fun c4 => ?_) (fun c4 => ?_)
          · refine lv_iconst (v := 0) hx hb d_R_isMethod_35 (by decide) ?_
            exact W.zret (v := 0) hx hb hr rfl (fun t ht hW => ⟨_, rfl, by rw [if_neg (fun h => absurd h.2.2.1 (Int32.not_le.mpr c4))], ht⟩) (fun _ h => by cases h) d_R_isMethod_36
          · refine lv_iload_n hx hb d_R_isMethod_25 rfl (lv_at hl 2 rfl) ?_
            refine lv_bipush (v := 63) hx hb d_R_isMethod_26 (by decide) ?_
            refine lv_icmp_gt (tgt := 35) hx hb d_R_isMethod_28 (by decide) (fun c5 => ?_) (fun c5 => ?_)
            · refine lv_iconst (v := 0) hx hb d_R_isMethod_35 (by decide) ?_
              exact W.zret (v := 0) hx hb hr rfl (fun t ht hW => ⟨_, rfl, by rw [if_neg (fun h => absurd h.2.2.2 (Int32.not_le.mpr c5))], ht⟩) (fun _ h => by cases h) d_R_isMethod_36
            · refine lv_iconst (v := 1) hx hb d_R_isMethod_31 (by decide) ?_
              refine lv_goto (tgt := 36) hx hb d_R_isMethod_32 (by decide) ?_
              exact W.zret (v := 1) hx hb hr rfl (fun t ht hW => ⟨_, rfl, by rw [if_pos ⟨⟨Int32.not_lt.mp c0, Int32.not_lt.mp c1⟩, ⟨Int32.not_lt.mp c2, Int32.not_lt.mp c3⟩, Int32.not_lt.mp c4, Int32.not_lt.mp c5⟩], ht⟩) (fun _ h => by cases h) d_R_isMethod_36
section K31
variable {cI cB cZ : ClassId} {x w n md : Nat} {adr : Nat → Nat} {us r0 r1 r2 r3 : Int32} {ar : Nat → Nat → Int32} {G : gw_G} {σ : sS} {sl bg : Nat → Nat} {U : Nat} {D : va_G} {tys : List (ClassId × FieldType)} {sz : Nat}
theorem m_Arr.a3 (h : m_Arr cI cB cZ x w n md adr us r0 r1 r2 r3 ar G) : G (adr 3) = some (.inl (cI, 16, .inl (ar 3))) := h.2.1 3 (by decide)
theorem m_Arr.a4 (h : m_Arr cI cB cZ x w n md adr us r0 r1 r2 r3 ar G) : G (adr 4) = some (.inl (cB, 4096, .inl (ar 4))) := h.2.1 4 (by decide)
theorem m_Arr.a5 (h : m_Arr cI cB cZ x w n md adr us r0 r1 r2 r3 ar G) : G (adr 5) = some (.inl (cI, 4096, .inl (ar 5))) := h.2.1 5 (by decide)
theorem m_Arr.a6 (h : m_Arr cI cB cZ x w n md adr us r0 r1 r2 r3 ar G) : G (adr 6) = some (.inl (cI, 4096, .inl (ar 6))) := h.2.1 6 (by decide)
theorem m_Arr.a7 (h : m_Arr cI cB cZ x w n md adr us r0 r1 r2 r3 ar G) : G (adr 7) = some (.inl (cI, 4096, .inl (ar 7))) := h.2.1 7 (by decide)
theorem m_Arr.a8 (h : m_Arr cI cB cZ x w n md adr us r0 r1 r2 r3 ar G) : G (adr 8) = some (.inl (cI, 4096, .inl (ar 8))) := h.2.1 8 (by decide)
theorem m_Arr.a9 (h : m_Arr cI cB cZ x w n md adr us r0 r1 r2 r3 ar G) : G (adr 9) = some (.inl (cI, 4096, .inl (ar 9))) := h.2.1 9 (by decide)
theorem m_Arr.a10 (h : m_Arr cI cB cZ x w n md adr us r0 r1 r2 r3 ar G) : G (adr 10) = some (.inl (cZ, 4096, .inl (ar 10))) := h.2.1 10 (by decide)
theorem m_Arr.a11 (h : m_Arr cI cB cZ x w n md adr us r0 r1 r2 r3 ar G) : G (adr 11) = some (.inl (cI, 4096, .inl (ar 11))) := h.2.1 11 (by decide)
theorem m_Arr.a12 (h : m_Arr cI cB cZ x w n md adr us r0 r1 r2 r3 ar G) : G (adr 12) = some (.inl (cI, 4096, .inl (ar 12))) := h.2.1 12 (by decide)
theorem m_Arr.a13 (h : m_Arr cI cB cZ x w n md adr us r0 r1 r2 r3 ar G) : G (adr 13) = some (.inl (cI, 4096, .inl (ar 13))) := h.2.1 13 (by decide)
theorem m_Arr.a14 (h : m_Arr cI cB cZ x w n md adr us r0 r1 r2 r3 ar G) : G (adr 14) = some (.inl (cI, 4096, .inl (ar 14))) := h.2.1 14 (by decide)
theorem m_Arr.a15 (h : m_Arr cI cB cZ x w n md adr us r0 r1 r2 r3 ar G) : G (adr 15) = some (.inl (cI, 4096, .inl (ar 15))) := h.2.1 15 (by decide)
theorem m_Arr.a16 (h : m_Arr cI cB cZ x w n md adr us r0 r1 r2 r3 ar G) : G (adr 16) = some (.inl (cI, 32768, .inl (ar 16))) := h.2.1 16 (by decide)
theorem m_Arr.a17 (h : m_Arr cI cB cZ x w n md adr us r0 r1 r2 r3 ar G) : G (adr 17) = some (.inl (cI, 32768, .inl (ar 17))) := h.2.1 17 (by decide)
theorem m_Arr.a19 (h : m_Arr cI cB cZ x w n md adr us r0 r1 r2 r3 ar G) : G (adr 19) = some (.inl (cZ, 4096, .inl (ar 19))) := h.2.1 19 (by decide)
theorem m_Arr.a20 (h : m_Arr cI cB cZ x w n md adr us r0 r1 r2 r3 ar G) : G (adr 20) = some (.inl (cI, 4096, .inl (ar 20))) := h.2.1 20 (by decide)
/-- the object in a register, where its kind is in a range -/
def m_oi (σ : sS) (sl : Nat → Nat) (r lo hi : Int32) : Int32 := if 0 ≤ r ∧ r ≤ 15 then (match s_rg σ r.toNatClampNeg with
  | some (.inr i) => if lo ≤ nI (s_kd σ i) ∧ nI (s_kd σ i) ≤ hi then nI (sl i) else -1
  | _ => -1) else -1
theorem m_rin {r : Int32} (h : 0 ≤ r ∧ r ≤ 15) : vp_in r 16 := s_rin h
set_option maxHeartbeats 4000000 in
set_option maxRecDepth 100000 in
theorem k_R_objectIn (l : Launch) (hM : m_Arr cI cB cZ x w n md adr us r0 r1 r2 r3 ar G) (hE : m_Sem (s_rch σ) σ sl bg U ar) (hI : s_I σ) (hV : s_NV σ) (ht2 : tys[2]? = some (cI, .int)) (ht3 : tys[3]? = some (cB, .byte)) (ht4 : tys[4]? = some (cZ, .boolean)) (r lo hi : Int32) : Met l y_R_objectIn w_R_objectIn ({ frames := 1, cells := 0, slots := 0, locals := 20 }) (g_pre D tys G sz [.ref x, .int r, .int lo, .int hi]) (vp_Si (fun rz => rz = m_oi σ sl r lo hi)) 0 0 (fun _ => False) := by
  refine Met.ofW (cc := b_R_objectIn) (maxL := 5) (ret := (some .int)) (by decide) rfl ?_
  intro p e s m args below meth c s₁ B hml hv
  obtain ⟨rfl, hsz, hP, hK⟩ := hv
  have hx := B.exec
  have hb := B.bytes
  have hr := B.returns
  have ht := fun w (hw : w ∈ gt) => atoms_spec (ws := w_R_objectIn) B.pre w (List.mem_cons_of_mem _ hw)
  have hown : s.vm.findClass "StackRoomModel" = some m.cls := findClass_of_methodNamed B.named
  have hlocks := B.notSynchronized
  have C0 : CallFix p m c b_R_objectIn 5 s [.ref x, .int r, .int lo, .int hi].toArray gt "StackRoomModel" := ⟨hx, hb, hml, hown, ht⟩
  have hl := lv_entry ([.ref x, .int r, .int lo, .int hi]) (n := 5) (Nat.le_of_ble_eq_true rfl)
  rw [lg_entry_eq]
  generalize (lg_sl ([.ref x, .int r, .int lo, .int hi]) ++ List.replicate (5 - (lg_sl ([.ref x, .int r, .int lo, .int hi])).length) Slot.unset).toArray = ls at hl ⊢
  have hl : lv_has ls 5 [(0, .ref x), (1, .int r), (2, .int lo), (3, .int hi)] := hl
  refine lv_iload_n hx hb d_R_objectIn_0 rfl (lv_at hl 1 rfl) ?_
  refine vp_callSi (va_Run.run (r_S (rest := []) C0 [.int r] (k_R_isRegister l r) ml_R_R_isRegister st_R_isRegister ini_R co_R_isRegister hd_R_isRegister v_preS hl.1 d_R_objectIn_1 rfl rfl (Nat.le_of_ble_eq_true rfl) ⟨rfl, rfl⟩ ⟨Nat.le_of_ble_eq_true rfl, Nat.le_of_ble_eq_true rfl⟩ ⟨Nat.le_of_ble_eq_true rfl, Nat.le_of_ble_eq_true rfl⟩)) (fun q1 eq1 => ?_)
  refine lv_if_eq (tgt := 19) hx hb d_R_objectIn_4 (by decide) (fun c1 => ?_) (fun c1 => ?_)
  · have hreg : ¬ (0 ≤ r ∧ r ≤ 15) := fun h => absurd (eq1.symm.trans c1) (by rw [if_pos h]; decide)
    refine lv_iconst (v := (-1)) hx hb d_R_objectIn_19 (by decide) ?_
    exact W.iret (v := -1) hx hb hr (fun t ht hW => ⟨_, rfl, by unfold m_oi; rw [if_neg hreg], ht⟩) (fun _ h => by cases h) d_R_objectIn_20
  · have hreg : 0 ≤ r ∧ r ≤ 15 := Decidable.byContradiction (fun h => c1 (eq1.trans (if_neg h)))
    have hv := hE.1 _ (s_reg hreg)
    refine lv_aload_n hx hb d_R_objectIn_7 rfl (lv_at hl 0 rfl) ?_
    refine va_get (D := D) (ci := 5) (C := "StackRoomModel") (T := T_R) (N := 25) (v := .ref (adr 3)) hx hb ht in_R hown hK.1 (hP.one hM.1) 0 rfl rfl 3 (by decide) (ht _ fl_R_R_registers) (fun _ h9 => h9) rfl d_R_objectIn_8 ?_
    refine lv_iload_n hx hb d_R_objectIn_11 rfl (lv_at hl 1 rfl) ?_
    refine va_iald hx hb hK.1 (hP.one hM.a3) 0 2 rfl ht2 (m_rin hreg) d_R_objectIn_12 ?_
    rw [hv]
    rcases hq : s_rg σ r.toNatClampNeg with _ | (nv | j)
    · refine W.eq (g2 := F0 m 13 ls [.int (0)]) rfl ?_
      refine vp_callSi (va_Run.run (r_S (rest := []) C0 [.int (0)] (k_R_isObject l (0)) ml_R_R_isObject st_R_isObject ini_R co_R_isObject hd_R_isObject v_preS hl.1 d_R_objectIn_13 rfl rfl (Nat.le_of_ble_eq_true rfl) ⟨rfl, rfl⟩ ⟨Nat.le_of_ble_eq_true rfl, Nat.le_of_ble_eq_true rfl⟩ ⟨Nat.le_of_ble_eq_true rfl, Nat.le_of_ble_eq_true rfl⟩)) (fun qo eo => ?_)
      rw [if_neg (fun z => z.1 rfl)] at eo
      subst eo
      refine lv_if_ne (tgt := 21) hx hb d_R_objectIn_16 (by decide) (fun h => absurd h (by decide)) (fun _ => ?_)
      refine lv_iconst (v := (-1)) hx hb d_R_objectIn_19 (by decide) ?_
      exact W.iret (v := -1) hx hb hr (fun t ht hW => ⟨_, rfl, by unfold m_oi; rw [if_pos hreg, hq], ht⟩) (fun _ h => by cases h) d_R_objectIn_20
    · refine W.eq (g2 := F0 m 13 ls [.int (2 * nv + 1)]) rfl ?_
      refine vp_callSi (va_Run.run (r_S (rest := []) C0 [.int (2 * nv + 1)] (k_R_isObject l (2 * nv + 1)) ml_R_R_isObject st_R_isObject ini_R co_R_isObject hd_R_isObject v_preS hl.1 d_R_objectIn_13 rfl rfl (Nat.le_of_ble_eq_true rfl) ⟨rfl, rfl⟩ ⟨Nat.le_of_ble_eq_true rfl, Nat.le_of_ble_eq_true rfl⟩ ⟨Nat.le_of_ble_eq_true rfl, Nat.le_of_ble_eq_true rfl⟩)) (fun qo eo => ?_)
      rw [if_neg (m_ob_num (hV.1 _ (s_reg hreg) nv hq))] at eo
      subst eo
      refine lv_if_ne (tgt := 21) hx hb d_R_objectIn_16 (by decide) (fun h => absurd h (by decide)) (fun _ => ?_)
      refine lv_iconst (v := (-1)) hx hb d_R_objectIn_19 (by decide) ?_
      exact W.iret (v := -1) hx hb hr (fun t ht hW => ⟨_, rfl, by unfold m_oi; rw [if_pos hreg, hq], ht⟩) (fun _ h => by cases h) d_R_objectIn_20
    · have hrj := s_rch_root (s_reg hreg) hq
      obtain ⟨hsl, hkj, hij⟩ := hE.2.1 j hrj
      refine W.eq (g2 := F0 m 13 ls [.int (nI (2 * sl j + 2))]) rfl ?_
      refine vp_callSi (va_Run.run (r_S (rest := []) C0 [.int (nI (2 * sl j + 2))] (k_R_isObject l (nI (2 * sl j + 2))) ml_R_R_isObject st_R_isObject ini_R co_R_isObject hd_R_isObject v_preS hl.1 d_R_objectIn_13 rfl rfl (Nat.le_of_ble_eq_true rfl) ⟨rfl, rfl⟩ ⟨Nat.le_of_ble_eq_true rfl, Nat.le_of_ble_eq_true rfl⟩ ⟨Nat.le_of_ble_eq_true rfl, Nat.le_of_ble_eq_true rfl⟩)) (fun qo eo => ?_)
      rw [if_pos (m_ob_obj hsl)] at eo
      subst eo
      refine lv_if_ne (tgt := 21) hx hb d_R_objectIn_16 (by decide) (fun _ => ?_) (fun h => absurd h (by decide))
      refine lv_aload_n hx hb d_R_objectIn_21 rfl (lv_at hl 0 rfl) ?_
      refine va_get (D := D) (ci := 5) (C := "StackRoomModel") (T := T_R) (N := 25) (v := .ref (adr 3)) hx hb ht in_R hown hK.1 (hP.one hM.1) 0 rfl rfl 3 (by decide) (ht _ fl_R_R_registers) (fun _ h9 => h9) rfl d_R_objectIn_22 ?_
      refine lv_iload_n hx hb d_R_objectIn_25 rfl (lv_at hl 1 rfl) ?_
      refine va_iald hx hb hK.1 (hP.one hM.a3) 0 2 rfl ht2 (m_rin hreg) d_R_objectIn_26 ?_
      rw [hv, hq]
      refine W.eq (g2 := F0 m 27 ls [.int (nI (2 * sl j + 2))]) rfl ?_
      refine lv_iconst (v := 2) hx hb d_R_objectIn_27 (by decide) ?_
      refine lv_idiv hx hb d_R_objectIn_28 (by decide) ?_
      refine lv_iconst (v := 1) hx hb d_R_objectIn_29 (by decide) ?_
      refine lv_isub hx hb d_R_objectIn_30 ?_
      refine W.eq (g2 := F0 m 31 ls [.int (nI (sl j))]) (by rw [m_slot hsl]) ?_
      refine lv_istore (lv' := [(4, .int (nI (sl j))), (0, .ref x), (1, .int r), (2, .int lo), (3, .int hi)]) hx hb d_R_objectIn_31 hl (by decide) rfl (fun ls hl => ?_)
      refine lv_aload_n hx hb d_R_objectIn_33 rfl (lv_at hl 1 rfl) ?_
      refine va_get (D := D) (ci := 5) (C := "StackRoomModel") (T := T_R) (N := 25) (v := .ref (adr 4)) hx hb ht in_R hown hK.1 (hP.one hM.1) 0 rfl rfl 4 (by decide) (ht _ fl_R_R_kinds) (fun _ h9 => h9) rfl d_R_objectIn_34 ?_
      refine lv_iload hx hb d_R_objectIn_37 (lv_at hl 0 rfl) ?_
      refine va_bald hx hb hK.1 (hP.one hM.a4) 0 3 rfl ht3 (vp_in_nI hsl (by decide)) d_R_objectIn_39 ?_
      rw [nI_clamp (by omega)]
      rw [hkj]
      refine lv_iload_n hx hb d_R_objectIn_40 rfl (lv_at hl 3 rfl) ?_
      refine lv_icmp_lt (tgt := 60) hx hb d_R_objectIn_41 (by decide) (fun ca => ?_) (fun ca => ?_)
      · refine lv_iconst (v := (-1)) hx hb d_R_objectIn_60 (by decide) ?_
        exact W.iret (v := -1) hx hb hr (fun t ht hW => ⟨_, rfl, by unfold m_oi; simp only [if_pos hreg, hq]; rw [if_neg (fun z => absurd z.1 (Int32.not_le.mpr ca))], ht⟩) (fun _ h => by cases h) d_R_objectIn_61
      · refine lv_aload_n hx hb d_R_objectIn_44 rfl (lv_at hl 1 rfl) ?_
        refine va_get (D := D) (ci := 5) (C := "StackRoomModel") (T := T_R) (N := 25) (v := .ref (adr 4)) hx hb ht in_R hown hK.1 (hP.one hM.1) 0 rfl rfl 4 (by decide) (ht _ fl_R_R_kinds) (fun _ h9 => h9) rfl d_R_objectIn_45 ?_
        refine lv_iload hx hb d_R_objectIn_48 (lv_at hl 0 rfl) ?_
        refine va_bald hx hb hK.1 (hP.one hM.a4) 0 3 rfl ht3 (vp_in_nI hsl (by decide)) d_R_objectIn_50 ?_
        rw [nI_clamp (by omega)]
        rw [hkj]
        refine lv_iload_n hx hb d_R_objectIn_51 rfl (lv_at hl 4 rfl) ?_
        refine lv_icmp_gt (tgt := 60) hx hb d_R_objectIn_52 (by decide) (fun cb => ?_) (fun cb => ?_)
        · refine lv_iconst (v := (-1)) hx hb d_R_objectIn_60 (by decide) ?_
          exact W.iret (v := -1) hx hb hr (fun t ht hW => ⟨_, rfl, by unfold m_oi; simp only [if_pos hreg, hq]; rw [if_neg (fun z => absurd z.2 (Int32.not_le.mpr cb))], ht⟩) (fun _ h => by cases h) d_R_objectIn_61
        · refine lv_iload hx hb d_R_objectIn_55 (lv_at hl 0 rfl) ?_
          refine lv_goto (tgt := 61) hx hb d_R_objectIn_57 (by decide) ?_
          exact W.iret (v := nI (sl j)) hx hb hr (fun t ht hW => ⟨_, rfl, by unfold m_oi; simp only [if_pos hreg, hq]; rw [if_pos ⟨Int32.not_lt.mp ca, Int32.not_lt.mp cb⟩], ht⟩) (fun _ h => by cases h) d_R_objectIn_61
/-- a context's place, or -1 -/
def m_o (sl : Nat → Nat) (o : Option Nat) : Int32 := match o with
  | some i => nI (sl i)
  | none => -1
theorem m_oi_c {σ : sS} (hI : s_I σ) (sl : Nat → Nat) (r : Int32) : m_oi σ sl r 3 4 = m_o sl (s_ci σ r) := by
  unfold m_oi
  split
  · rename_i hr
    rcases hq : s_rg σ r.toNatClampNeg with _ | (nv | j)
    · rw [s_ci_nil hq]; rfl
    · rw [s_ci_num hq]; rfl
    · have hk := hI.2.2.1 _ (s_reg hr) j hq
      rcases (hI.2.1 j hk).2.2 with e | e | e
      · rw [s_ci_m hq e]
        show (if (3 : Int32) ≤ nI (s_kd σ j) ∧ nI (s_kd σ j) ≤ 4 then nI (sl j) else -1) = -1
        rw [e]; rfl
      · rw [s_ci_c hr hq (Or.inl e)]
        show (if (3 : Int32) ≤ nI (s_kd σ j) ∧ nI (s_kd σ j) ≤ 4 then nI (sl j) else -1) = nI (sl j)
        rw [e]; rfl
      · rw [s_ci_c hr hq (Or.inr e)]
        show (if (3 : Int32) ≤ nI (s_kd σ j) ∧ nI (s_kd σ j) ≤ 4 then nI (sl j) else -1) = nI (sl j)
        rw [e]; rfl
  · rename_i hr
    rw [s_ci_no hr]; rfl
theorem m_oi_m {σ : sS} (hI : s_I σ) (sl : Nat → Nat) (r : Int32) : m_oi σ sl r 2 2 = m_o sl (s_mi σ r) := by
  unfold m_oi
  split
  · rename_i hr
    rcases hq : s_rg σ r.toNatClampNeg with _ | (nv | j)
    · rw [s_mi_nil hq]; rfl
    · rw [s_mi_num hq]; rfl
    · have hk := hI.2.2.1 _ (s_reg hr) j hq
      rcases (hI.2.1 j hk).2.2 with e | e | e
      · rw [s_mi_m hr hq e]
        show (if (2 : Int32) ≤ nI (s_kd σ j) ∧ nI (s_kd σ j) ≤ 2 then nI (sl j) else -1) = nI (sl j)
        rw [e]; rfl
      · rw [s_mi_c hq (by omega)]
        show (if (2 : Int32) ≤ nI (s_kd σ j) ∧ nI (s_kd σ j) ≤ 2 then nI (sl j) else -1) = -1
        rw [e]; rfl
      · rw [s_mi_c hq (by omega)]
        show (if (2 : Int32) ≤ nI (s_kd σ j) ∧ nI (s_kd σ j) ≤ 2 then nI (sl j) else -1) = -1
        rw [e]; rfl
  · rename_i hr
    rw [s_mi_no hr]; rfl
set_option maxHeartbeats 4000000 in
set_option maxRecDepth 100000 in
theorem k_R_contextIn (l : Launch) (hM : m_Arr cI cB cZ x w n md adr us r0 r1 r2 r3 ar G) (hE : m_Sem (s_rch σ) σ sl bg U ar) (hI : s_I σ) (hV : s_NV σ) (ht2 : tys[2]? = some (cI, .int)) (ht3 : tys[3]? = some (cB, .byte)) (ht4 : tys[4]? = some (cZ, .boolean)) (r : Int32) : Met l y_R_contextIn w_R_contextIn ({ frames := 2, cells := 0, slots := 0, locals := 44 }) (g_pre D tys G sz [.ref x, .int r]) (vp_Si (fun rz => rz = m_o sl (s_ci σ r))) 0 0 (fun _ => False) := by
  refine Met.ofW (cc := b_R_contextIn) (maxL := 2) (ret := (some .int)) (by decide) rfl ?_
  intro p e s m args below meth c s₁ B hml hv
  obtain ⟨rfl, hsz, hP, hK⟩ := hv
  have hx := B.exec
  have hb := B.bytes
  have hr := B.returns
  have ht := fun w (hw : w ∈ gt) => atoms_spec (ws := w_R_contextIn) B.pre w (List.mem_cons_of_mem _ hw)
  have hown : s.vm.findClass "StackRoomModel" = some m.cls := findClass_of_methodNamed B.named
  have hlocks := B.notSynchronized
  have C0 : CallFix p m c b_R_contextIn 2 s [.ref x, .int r].toArray gt "StackRoomModel" := ⟨hx, hb, hml, hown, ht⟩
  have hl := lv_entry ([.ref x, .int r]) (n := 2) (Nat.le_of_ble_eq_true rfl)
  rw [lg_entry_eq]
  generalize (lg_sl ([.ref x, .int r]) ++ List.replicate (2 - (lg_sl ([.ref x, .int r])).length) Slot.unset).toArray = ls at hl ⊢
  have hl : lv_has ls 2 [(0, .ref x), (1, .int r)] := hl
  refine lv_aload_n hx hb d_R_contextIn_0 rfl (lv_at hl 0 rfl) ?_
  refine lv_iload_n hx hb d_R_contextIn_1 rfl (lv_at hl 1 rfl) ?_
  refine lv_iconst (v := 3) hx hb d_R_contextIn_2 (by decide) ?_
  refine lv_iconst (v := 4) hx hb d_R_contextIn_3 (by decide) ?_
  refine vp_callSi (va_Run.run (r_V (rest := []) C0 [.int r, .int 3, .int 4] (k_R_objectIn l hM hE hI hV ht2 ht3 ht4 r 3 4) ml_R_R_objectIn im_R_objectIn se_R_R_objectIn_R ini_R co_R_objectIn ⟨rfl, hd_R_objectIn⟩ (g_preV (ci := 5) hK hP rfl hM.1) hl.1 d_R_contextIn_4 rfl rfl (Nat.le_of_ble_eq_true rfl) ⟨rfl, rfl⟩ ⟨Nat.le_of_ble_eq_true rfl, Nat.le_of_ble_eq_true rfl⟩ ⟨Nat.le_of_ble_eq_true rfl, Nat.le_of_ble_eq_true rfl⟩)) (fun q eq => ?_)
  exact W.iret (v := q) hx hb hr (fun t ht hW => ⟨_, rfl, by rw [eq]; exact m_oi_c hI sl r, ht⟩) (fun _ h => by cases h) d_R_contextIn_7
end K31
