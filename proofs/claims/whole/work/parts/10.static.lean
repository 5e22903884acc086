set_option maxHeartbeats 4000000 in
set_option maxRecDepth 100000 in
theorem k_S_isWithin (l : Launch) (a b d : Int32) : Met l y_S_isWithin w_S_isWithin ({ frames := 0, cells := 0, slots := 0, locals := 0 }) (va_Pc [.int a, .int b, .int d] (fun _ => True)) (vp_Si (fun r => r = if b ≤ a ∧ a ≤ d then 1 else 0)) 0 0 (fun _ => False) := by
  refine Met.ofW (cc := b_S_isWithin) (maxL := 3) (ret := (some .boolean)) (by decide) rfl ?_
  intro p e s m args below meth c s₁ B hml hv
  obtain ⟨rfl, -⟩ := hv
  have hx := B.exec
  have hb := B.bytes
  have hr := B.returns
  have ht := fun w (hw : w ∈ gt) => atoms_spec (ws := w_S_isWithin) B.pre w (List.mem_cons_of_mem _ hw)
  have hown : s.vm.findClass "StackRoom" = some m.cls := findClass_of_methodNamed B.named
  have hlocks := B.notSynchronized
  have C0 : CallFix p m c b_S_isWithin 3 s [.int a, .int b, .int d].toArray gt "StackRoom" := ⟨hx, hb, hml, hown, ht⟩
  have hl := lv_entry ([.int a, .int b, .int d]) (n := 3) (Nat.le_of_ble_eq_true rfl)
  rw [lg_entry_eq]
  generalize (lg_sl ([.int a, .int b, .int d]) ++ List.replicate (3 - (lg_sl ([.int a, .int b, .int d])).length) Slot.unset).toArray = ls at hl ⊢
  have hl : lv_has ls 3 [(0, .int a), (1, .int b), (2, .int d)] := hl
  refine lv_iload_n hx hb d_S_isWithin_0 rfl (lv_at hl 0 rfl) ?_
  refine lv_iload_n hx hb d_S_isWithin_1 rfl (lv_at hl 1 rfl) ?_
  refine lv_icmp_lt (tgt := 14) hx hb d_S_isWithin_2 (by decide) (fun c2 => ?_) (fun c2 => ?_)
  · refine lv_iconst (v := 0) hx hb d_S_isWithin_14 (by decide) ?_
    exact W.zret (v := 0) hx hb hr rfl (fun t ht hW => ⟨_, rfl, by rw [if_neg (fun h => absurd h.1 (Int32.not_le.mpr c2))], ht⟩) (fun _ h => by cases h) d_S_isWithin_15
  · refine lv_iload_n hx hb d_S_isWithin_5 rfl (lv_at hl 0 rfl) ?_
    refine lv_iload_n hx hb d_S_isWithin_6 rfl (lv_at hl 2 rfl) ?_
    refine lv_icmp_gt (tgt := 14) hx hb d_S_isWithin_7 (by decide) (fun c7 => ?_) (fun c7 => ?_)
    · refine lv_iconst (v := 0) hx hb d_S_isWithin_14 (by decide) ?_
      exact W.zret (v := 0) hx hb hr rfl (fun t ht hW => ⟨_, rfl, by rw [if_neg (fun h => absurd h.2 (Int32.not_le.mpr c7))], ht⟩) (fun _ h => by cases h) d_S_isWithin_15
    · refine lv_iconst (v := 1) hx hb d_S_isWithin_10 (by decide) ?_
      refine lv_goto (tgt := 15) hx hb d_S_isWithin_11 (by decide) ?_
      exact W.zret (v := 1) hx hb hr rfl (fun t ht hW => ⟨_, rfl, by rw [if_pos ⟨Int32.not_lt.mp c2, Int32.not_lt.mp c7⟩], ht⟩) (fun _ h => by cases h) d_S_isWithin_15
set_option maxHeartbeats 4000000 in
set_option maxRecDepth 100000 in
theorem k_S_isRegister (l : Launch) (a : Int32) : Met l y_S_isRegister w_S_isRegister ({ frames := 1, cells := 0, slots := 0, locals := 22 }) (va_Pc [.int a] (fun _ => True)) (vp_Si (fun r => r = if 0 ≤ a ∧ a ≤ 15 then 1 else 0)) 0 0 (fun _ => False) := by
  refine Met.ofW (cc := b_S_isRegister) (maxL := 1) (ret := (some .boolean)) (by decide) rfl ?_
  intro p e s m args below meth c s₁ B hml hv
  obtain ⟨rfl, -⟩ := hv
  have hx := B.exec
  have hb := B.bytes
  have hr := B.returns
  have ht := fun w (hw : w ∈ gt) => atoms_spec (ws := w_S_isRegister) B.pre w (List.mem_cons_of_mem _ hw)
  have hown : s.vm.findClass "StackRoom" = some m.cls := findClass_of_methodNamed B.named
  have hlocks := B.notSynchronized
  have C0 : CallFix p m c b_S_isRegister 1 s [.int a].toArray gt "StackRoom" := ⟨hx, hb, hml, hown, ht⟩
  have hl := lv_entry ([.int a]) (n := 1) (Nat.le_of_ble_eq_true rfl)
  rw [lg_entry_eq]
  generalize (lg_sl ([.int a]) ++ List.replicate (1 - (lg_sl ([.int a])).length) Slot.unset).toArray = ls at hl ⊢
  have hl : lv_has ls 1 [(0, .int a)] := hl
  refine lv_iload_n hx hb d_S_isRegister_0 rfl (lv_at hl 0 rfl) ?_
  refine lv_iconst (v := 0) hx hb d_S_isRegister_1 (by decide) ?_
  refine lv_bipush (v := 15) hx hb d_S_isRegister_2 (by decide) ?_
  refine vp_callSi (va_Run.run (r_S (rest := []) C0 [.int a, .int 0, .int 15] (k_S_isWithin l a 0 15) ml_S_S_isWithin st_S_isWithin ini_S co_S_isWithin hd_S_isWithin v_preS hl.1 d_S_isRegister_4 rfl rfl (Nat.le_of_ble_eq_true rfl) ⟨rfl, rfl⟩ ⟨Nat.le_of_ble_eq_true rfl, Nat.le_of_ble_eq_true rfl⟩ ⟨Nat.le_of_ble_eq_true rfl, Nat.le_of_ble_eq_true rfl⟩)) (fun q eq => ?_)
  exact W.zret (v := q) hx hb hr (by rw [eq]; split <;> rfl) (fun t ht hW => ⟨_, rfl, eq, ht⟩) (fun _ h => by cases h) d_S_isRegister_7
set_option maxHeartbeats 4000000 in
set_option maxRecDepth 100000 in
theorem k_S_isNumber (l : Launch) (a : Int32) : Met l y_S_isNumber w_S_isNumber ({ frames := 1, cells := 0, slots := 0, locals := 22 }) (va_Pc [.int a] (fun _ => True)) (vp_Si (fun r => r = if -1073741824 ≤ a ∧ a ≤ 1073741823 then 1 else 0)) 0 0 (fun _ => False) := by
  refine Met.ofW (cc := b_S_isNumber) (maxL := 1) (ret := (some .boolean)) (by decide) rfl ?_
  intro p e s m args below meth c s₁ B hml hv
  obtain ⟨rfl, -⟩ := hv
  have hx := B.exec
  have hb := B.bytes
  have hr := B.returns
  have ht := fun w (hw : w ∈ gt) => atoms_spec (ws := w_S_isNumber) B.pre w (List.mem_cons_of_mem _ hw)
  have hown : s.vm.findClass "StackRoom" = some m.cls := findClass_of_methodNamed B.named
  have hlocks := B.notSynchronized
  have C0 : CallFix p m c b_S_isNumber 1 s [.int a].toArray gt "StackRoom" := ⟨hx, hb, hml, hown, ht⟩
  have hl := lv_entry ([.int a]) (n := 1) (Nat.le_of_ble_eq_true rfl)
  rw [lg_entry_eq]
  generalize (lg_sl ([.int a]) ++ List.replicate (1 - (lg_sl ([.int a])).length) Slot.unset).toArray = ls at hl ⊢
  have hl : lv_has ls 1 [(0, .int a)] := hl
  refine lv_iload_n hx hb d_S_isNumber_0 rfl (lv_at hl 0 rfl) ?_
  refine lv_ldc hx hb hown (ht _ cs_S_m1073741824) d_S_isNumber_1 ?_
  refine lv_ldc hx hb hown (ht _ cs_S_1073741823) d_S_isNumber_3 ?_
  refine vp_callSi (va_Run.run (r_S (rest := []) C0 [.int a, .int (-1073741824), .int 1073741823] (k_S_isWithin l a (-1073741824) 1073741823) ml_S_S_isWithin st_S_isWithin ini_S co_S_isWithin hd_S_isWithin v_preS hl.1 d_S_isNumber_5 rfl rfl (Nat.le_of_ble_eq_true rfl) ⟨rfl, rfl⟩ ⟨Nat.le_of_ble_eq_true rfl, Nat.le_of_ble_eq_true rfl⟩ ⟨Nat.le_of_ble_eq_true rfl, Nat.le_of_ble_eq_true rfl⟩)) (fun q eq => ?_)
  exact W.zret (v := q) hx hb hr (by rw [eq]; split <;> rfl) (fun t ht hW => ⟨_, rfl, eq, ht⟩) (fun _ h => by cases h) d_S_isNumber_8
set_option maxHeartbeats 4000000 in
set_option maxRecDepth 100000 in
theorem k_S_areNumbers (l : Launch) (v k : Int32) : Met l y_S_areNumbers w_S_areNumbers ({ frames := 2, cells := 0, slots := 0, locals := 42 }) (va_Pc [.int v, .int k] (fun _ => True)) (vp_Si (fun r => r = if k = 0 ∨ ((-1073741824 ≤ v ∧ v ≤ 1073741823) ∧ v ≤ 1073741823 - (k - 1)) then 1 else 0)) 0 0 (fun _ => False) := by
  refine Met.ofW (cc := b_S_areNumbers) (maxL := 2) (ret := (some .boolean)) (by decide) rfl ?_
  intro p e s m args below meth c s₁ B hml hv
  obtain ⟨rfl, -⟩ := hv
  have hx := B.exec
  have hb := B.bytes
  have hr := B.returns
  have ht := fun w (hw : w ∈ gt) => atoms_spec (ws := w_S_areNumbers) B.pre w (List.mem_cons_of_mem _ hw)
  have hown : s.vm.findClass "StackRoom" = some m.cls := findClass_of_methodNamed B.named
  have hlocks := B.notSynchronized
  have C0 : CallFix p m c b_S_areNumbers 2 s [.int v, .int k].toArray gt "StackRoom" := ⟨hx, hb, hml, hown, ht⟩
  have hl := lv_entry ([.int v, .int k]) (n := 2) (Nat.le_of_ble_eq_true rfl)
  rw [lg_entry_eq]
  generalize (lg_sl ([.int v, .int k]) ++ List.replicate (2 - (lg_sl ([.int v, .int k])).length) Slot.unset).toArray = ls at hl ⊢
  have hl : lv_has ls 2 [(0, .int v), (1, .int k)] := hl
  refine lv_iload_n hx hb d_S_areNumbers_0 rfl (lv_at hl 1 rfl) ?_
  refine lv_if_eq (tgt := 21) hx hb d_S_areNumbers_1 (by decide) (fun c1 => ?_) (fun c1 => ?_)
  · refine lv_iconst (v := 1) hx hb d_S_areNumbers_21 (by decide) ?_
    refine lv_goto (tgt := 26) hx hb d_S_areNumbers_22 (by decide) ?_
    exact W.zret (v := 1) hx hb hr rfl (fun t ht hW => ⟨_, rfl, by rw [if_pos (Or.inl c1)], ht⟩) (fun _ h => by cases h) d_S_areNumbers_26
  · refine lv_iload_n hx hb d_S_areNumbers_4 rfl (lv_at hl 0 rfl) ?_
    refine vp_callSi (va_Run.run (r_S (rest := []) C0 [.int v] (k_S_isNumber l v) ml_S_S_isNumber st_S_isNumber ini_S co_S_isNumber hd_S_isNumber v_preS hl.1 d_S_areNumbers_5 rfl rfl (Nat.le_of_ble_eq_true rfl) ⟨rfl, rfl⟩ ⟨Nat.le_of_ble_eq_true rfl, Nat.le_of_ble_eq_true rfl⟩ ⟨Nat.le_of_ble_eq_true rfl, Nat.le_of_ble_eq_true rfl⟩)) (fun q eq => ?_)
    refine lv_if_eq (tgt := 25) hx hb d_S_areNumbers_8 (by decide) (fun c8 => ?_) (fun c8 => ?_)
    · refine lv_iconst (v := 0) hx hb d_S_areNumbers_25 (by decide) ?_
      exact W.zret (v := 0) hx hb hr rfl (fun t ht hW => ⟨_, rfl, by rw [if_neg (fun h => h.elim c1 (fun h => absurd (eq.symm.trans c8) (by rw [if_pos h.1]; decide)))], ht⟩) (fun _ h => by cases h) d_S_areNumbers_26
    · refine lv_iload_n hx hb d_S_areNumbers_11 rfl (lv_at hl 0 rfl) ?_
      refine lv_ldc hx hb hown (ht _ cs_S_1073741823) d_S_areNumbers_12 ?_
      refine lv_iload_n hx hb d_S_areNumbers_14 rfl (lv_at hl 1 rfl) ?_
      refine lv_iconst (v := 1) hx hb d_S_areNumbers_15 (by decide) ?_
      refine lv_isub hx hb d_S_areNumbers_16 ?_
      refine lv_isub hx hb d_S_areNumbers_17 ?_
      refine lv_icmp_gt (tgt := 25) hx hb d_S_areNumbers_18 (by decide) (fun c18 => ?_) (fun c18 => ?_)
      · refine lv_iconst (v := 0) hx hb d_S_areNumbers_25 (by decide) ?_
        exact W.zret (v := 0) hx hb hr rfl (fun t ht hW => ⟨_, rfl, by rw [if_neg (fun h => h.elim c1 (fun h => absurd h.2 (Int32.not_le.mpr c18)))], ht⟩) (fun _ h => by cases h) d_S_areNumbers_26
      · refine lv_iconst (v := 1) hx hb d_S_areNumbers_21 (by decide) ?_
        refine lv_goto (tgt := 26) hx hb d_S_areNumbers_22 (by decide) ?_
        exact W.zret (v := 1) hx hb hr rfl (fun t ht hW => ⟨_, rfl, by rw [if_pos (Or.inr ⟨Decidable.byContradiction (fun h => c8 (eq.trans (if_neg h))), Int32.not_lt.mp c18⟩)], ht⟩) (fun _ h => by cases h) d_S_areNumbers_26
set_option maxHeartbeats 4000000 in
set_option maxRecDepth 100000 in
theorem k_S_areMethodNumbers (l : Launch) (a t d : Int32) : Met l y_S_areMethodNumbers w_S_areMethodNumbers ({ frames := 1, cells := 0, slots := 0, locals := 22 }) (va_Pc [.int a, .int t, .int d] (fun _ => True)) (vp_Si (fun r => r = if (0 ≤ a ∧ a ≤ 15) ∧ (a ≤ t ∧ t ≤ 31) ∧ (0 ≤ d ∧ d ≤ 63) then 1 else 0)) 0 0 (fun _ => False) := by
  refine Met.ofW (cc := b_S_areMethodNumbers) (maxL := 3) (ret := (some .boolean)) (by decide) rfl ?_
  intro p e s m args below meth c s₁ B hml hv
  obtain ⟨rfl, -⟩ := hv
  have hx := B.exec
  have hb := B.bytes
  have hr := B.returns
  have ht := fun w (hw : w ∈ gt) => atoms_spec (ws := w_S_areMethodNumbers) B.pre w (List.mem_cons_of_mem _ hw)
  have hown : s.vm.findClass "StackRoom" = some m.cls := findClass_of_methodNamed B.named
  have hlocks := B.notSynchronized
  have C0 : CallFix p m c b_S_areMethodNumbers 3 s [.int a, .int t, .int d].toArray gt "StackRoom" := ⟨hx, hb, hml, hown, ht⟩
  have hl := lv_entry ([.int a, .int t, .int d]) (n := 3) (Nat.le_of_ble_eq_true rfl)
  rw [lg_entry_eq]
  generalize (lg_sl ([.int a, .int t, .int d]) ++ List.replicate (3 - (lg_sl ([.int a, .int t, .int d])).length) Slot.unset).toArray = ls at hl ⊢
  have hl : lv_has ls 3 [(0, .int a), (1, .int t), (2, .int d)] := hl
  refine lv_iload_n hx hb d_S_areMethodNumbers_0 rfl (lv_at hl 0 rfl) ?_
  refine lv_iconst (v := 0) hx hb d_S_areMethodNumbers_1 (by decide) ?_
  refine lv_bipush (v := 15) hx hb d_S_areMethodNumbers_2 (by decide) ?_
  refine vp_callSi (va_Run.run (r_S (rest := []) C0 [.int a, .int 0, .int 15] (k_S_isWithin l a 0 15) ml_S_S_isWithin st_S_isWithin ini_S co_S_isWithin hd_S_isWithin v_preS hl.1 d_S_areMethodNumbers_4 rfl rfl (Nat.le_of_ble_eq_true rfl) ⟨rfl, rfl⟩ ⟨Nat.le_of_ble_eq_true rfl, Nat.le_of_ble_eq_true rfl⟩ ⟨Nat.le_of_ble_eq_true rfl, Nat.le_of_ble_eq_true rfl⟩)) (fun q1 e1 => ?_)
  refine lv_if_eq (tgt := 34) hx hb d_S_areMethodNumbers_7 (by decide) (fun h1 => ?_) (fun h1 => ?_)
  · refine lv_iconst (v := 0) hx hb d_S_areMethodNumbers_34 (by decide) ?_
    exact W.zret (v := 0) hx hb hr rfl (fun t ht hW => ⟨_, rfl, by rw [if_neg (fun h => absurd (e1.symm.trans h1) (by rw [if_pos h.1]; decide))], ht⟩) (fun _ h => by cases h) d_S_areMethodNumbers_35
  · refine lv_iload_n hx hb d_S_areMethodNumbers_10 rfl (lv_at hl 1 rfl) ?_
    refine lv_iload_n hx hb d_S_areMethodNumbers_11 rfl (lv_at hl 0 rfl) ?_
    refine lv_bipush (v := 31) hx hb d_S_areMethodNumbers_12 (by decide) ?_
    refine vp_callSi (va_Run.run (r_S (rest := []) C0 [.int t, .int a, .int 31] (k_S_isWithin l t a 31) ml_S_S_isWithin st_S_isWithin ini_S co_S_isWithin hd_S_isWithin v_preS hl.1 d_S_areMethodNumbers_14 rfl rfl (Nat.le_of_ble_eq_true rfl) ⟨rfl, rfl⟩ ⟨Nat.le_of_ble_eq_true rfl, Nat.le_of_ble_eq_true rfl⟩ ⟨Nat.le_of_ble_eq_true rfl, Nat.le_of_ble_eq_true rfl⟩)) (fun q2 e2 => ?_)
    refine lv_if_eq (tgt := 34) hx hb d_S_areMethodNumbers_17 (by decide) (fun h2 => ?_) (fun h2 => ?_)
    · refine lv_iconst (v := 0) hx hb d_S_areMethodNumbers_34 (by decide) ?_
      exact W.zret (v := 0) hx hb hr rfl (fun t ht hW => ⟨_, rfl, by rw [if_neg (fun h => absurd (e2.symm.trans h2) (by rw [if_pos h.2.1]; decide))], ht⟩) (fun _ h => by cases h) d_S_areMethodNumbers_35
    · refine lv_iload_n hx hb d_S_areMethodNumbers_20 rfl (lv_at hl 2 rfl) ?_
      refine lv_iconst (v := 0) hx hb d_S_areMethodNumbers_21 (by decide) ?_
      refine lv_bipush (v := 63) hx hb d_S_areMethodNumbers_22 (by decide) ?_
      refine vp_callSi (va_Run.run (r_S (rest := []) C0 [.int d, .int 0, .int 63] (k_S_isWithin l d 0 63) ml_S_S_isWithin st_S_isWithin ini_S co_S_isWithin hd_S_isWithin v_preS hl.1 d_S_areMethodNumbers_24 rfl rfl (Nat.le_of_ble_eq_true rfl) ⟨rfl, rfl⟩ ⟨Nat.le_of_ble_eq_true rfl, Nat.le_of_ble_eq_true rfl⟩ ⟨Nat.le_of_ble_eq_true rfl, Nat.le_of_ble_eq_true rfl⟩)) (fun q3 e3 => ?_)
      refine lv_if_eq (tgt := 34) hx hb d_S_areMethodNumbers_27 (by decide) (fun h3 => ?_) (fun h3 => ?_)
      · refine lv_iconst (v := 0) hx hb d_S_areMethodNumbers_34 (by decide) ?_
        exact W.zret (v := 0) hx hb hr rfl (fun t ht hW => ⟨_, rfl, by rw [if_neg (fun h => absurd (e3.symm.trans h3) (by rw [if_pos h.2.2]; decide))], ht⟩) (fun _ h => by cases h) d_S_areMethodNumbers_35
      · refine lv_iconst (v := 1) hx hb d_S_areMethodNumbers_30 (by decide) ?_
        refine lv_goto (tgt := 35) hx hb d_S_areMethodNumbers_31 (by decide) ?_
        exact W.zret (v := 1) hx hb hr rfl (fun t ht hW => ⟨_, rfl, by rw [if_pos ⟨Decidable.byContradiction (fun h => h1 (e1.trans (if_neg h))), Decidable.byContradiction (fun h => h2 (e2.trans (if_neg h))), Decidable.byContradiction (fun h => h3 (e3.trans (if_neg h)))⟩], ht⟩) (fun _ h => by cases h) d_S_areMethodNumbers_35
