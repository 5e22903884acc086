section K11
variable {w n rd md : Nat} {cV cT : ClassId} {σ : sS} {x ra rt : Nat} {ad fa : Nat → Nat} {ρ : Nat → Int32} {fr : Nat → Nat → Option Nat} {rr rf : Nat → Option Nat} {rc wl el cr : Int32} {G : gw_G} {D : va_G} {tys : List (ClassId × FieldType)} {sz : Nat}
theorem c_Rep.c2 (h : c_Rep w n rd md cV cT σ x ra rt ad fa ρ fr rr rf rc wl el cr G) {i : Nat} (hk : s_kd σ i = 2) : G (ad i) = some (.inr (kM, [.int (nI i), .int (ρ i), .int (nI (s_tt σ i)), .int (nI (s_dd σ i))])) := by
  rw [h.2.2.2.2.2.1 i (by omega)]
  unfold c_cell
  rw [if_pos hk]
theorem c_Rep.c3 (h : c_Rep w n rd md cV cT σ x ra rt ad fa ρ fr rr rf rc wl el cr G) {i : Nat} (hk : s_kd σ i = 3) : G (ad i) = some (.inr (kC, [.int (nI i), .int (ρ i), va_rf ((s_sn σ i).map ad), .int (s_de σ i), .int (nI (s_ht σ i)), .ref (fa i), .ref (ad (s_og σ i))])) := by
  rw [h.2.2.2.2.2.1 i (by omega)]
  unfold c_cell
  rw [if_neg (by omega), if_pos hk]
theorem c_Rep.c4 (h : c_Rep w n rd md cV cT σ x ra rt ad fa ρ fr rr rf rc wl el cr G) {i : Nat} (hk : s_kd σ i = 4) : G (ad i) = some (.inr (kB, [.int (nI i), .int (ρ i), va_rf ((s_sn σ i).map ad), .int (s_de σ i), .int (nI (s_ht σ i)), .ref (fa i), .ref (ad (s_og σ i)), .int (s_ct σ i)])) := by
  rw [h.2.2.2.2.2.1 i (by omega)]
  unfold c_cell
  rw [if_neg (by omega), if_neg (by omega)]
theorem c_Rep.ca (h : c_Rep w n rd md cV cT σ x ra rt ad fa ρ fr rr rf rc wl el cr G) {i : Nat} (hk : s_isC σ i) : G (fa i) = some (.inl (cV, s_rm σ i, qv (fr i))) := (h.2.2.2.2.2.2.1 i hk).1
theorem s_fr3 {σ : sS} {i : Nat} (hk : s_kd σ i = 3) : s_fr σ i = s_tt σ (s_og σ i) := by unfold s_fr; rw [if_neg (by omega)]
theorem s_fr4 {σ : sS} {i : Nat} (hk : s_kd σ i = 4) : s_fr σ i = 0 := by unfold s_fr; rw [if_pos hk]
theorem s_hm3 {σ : sS} {i : Nat} (hk : s_kd σ i = 3) : s_hm σ i = i := by unfold s_hm; rw [if_neg (by omega)]
theorem s_hm4 {σ : sS} {i : Nat} (hk : s_kd σ i = 4) : s_hm σ i = s_og σ i := by unfold s_hm; rw [if_pos hk]
theorem s_wd2 {σ : sS} {i : Nat} (hk : s_kd σ i = 2) : s_wd σ i = 10 := by unfold s_wd; rw [if_pos hk]
theorem s_wd3 {σ : sS} {i : Nat} (hk : s_kd σ i = 3) : s_wd σ i = 9 + s_rm σ i := by unfold s_wd; rw [if_neg (by omega), if_pos hk]
theorem s_wd4 {σ : sS} {i : Nat} (hk : s_kd σ i = 4) : s_wd σ i = 10 + s_rm σ i := by unfold s_wd; rw [if_neg (by omega), if_neg (by omega)]
theorem s_en2 {σ : sS} {i : Nat} (hk : s_kd σ i = 2) : s_en σ i = 2 := by unfold s_en; rw [if_pos hk]
theorem s_enC {σ : sS} {i : Nat} (hk : s_isC σ i) : s_en σ i = 1 := by unfold s_en; rw [if_neg (by rcases hk with e | e <;> omega)]
set_option maxHeartbeats 4000000 in
set_option maxRecDepth 100000 in
theorem k_W_kindCode (l : Launch) {a : Nat} {v : Int32} (ha : G a = some (.inr (kW, [.int v]))) : Met l y_W_kindCode w_W_kindCode ({ frames := 0, cells := 0, slots := 0, locals := 0 }) (g_pre D tys G sz [.ref a]) (vp_Si (fun rz => rz = 1)) 0 0 (fun _ => False) := by
  refine Met.ofW (cc := b_W_kindCode) (maxL := 1) (ret := (some .int)) (by decide) rfl ?_
  intro p e s m args below meth c s₁ B hml hv
  obtain ⟨rfl, hsz, hP, hK⟩ := hv
  have hx := B.exec
  have hb := B.bytes
  have hr := B.returns
  have ht := fun w (hw : w ∈ gt) => atoms_spec (ws := w_W_kindCode) B.pre w (List.mem_cons_of_mem _ hw)
  have hown : s.vm.findClass "StackRoom$Whole" = some m.cls := findClass_of_methodNamed B.named
  have hlocks := B.notSynchronized
  have C0 : CallFix p m c b_W_kindCode 1 s [.ref a].toArray gt "StackRoom$Whole" := ⟨hx, hb, hml, hown, ht⟩
  have hl := lv_entry ([.ref a]) (n := 1) (Nat.le_of_ble_eq_true rfl)
  rw [lg_entry_eq]
  generalize (lg_sl ([.ref a]) ++ List.replicate (1 - (lg_sl ([.ref a])).length) Slot.unset).toArray = ls at hl ⊢
  have hl : lv_has ls 1 [(0, .ref a)] := hl
  refine lv_iconst (v := 1) hx hb d_W_kindCode_0 (by decide) ?_
  exact W.iret (v := 1) hx hb hr (fun t ht hW => ⟨_, rfl, rfl, ht⟩) (fun _ h => by cases h) d_W_kindCode_1
set_option maxHeartbeats 4000000 in
set_option maxRecDepth 100000 in
theorem k_W_shown (l : Launch) {a : Nat} {v : Int32} (ha : G a = some (.inr (kW, [.int v]))) : Met l y_W_shown w_W_shown ({ frames := 0, cells := 0, slots := 0, locals := 0 }) (g_pre D tys G sz [.ref a]) (vp_Si (fun rz => rz = v)) 0 0 (fun _ => False) := by
  refine Met.ofW (cc := b_W_shown) (maxL := 1) (ret := (some .int)) (by decide) rfl ?_
  intro p e s m args below meth c s₁ B hml hv
  obtain ⟨rfl, hsz, hP, hK⟩ := hv
  have hx := B.exec
  have hb := B.bytes
  have hr := B.returns
  have ht := fun w (hw : w ∈ gt) => atoms_spec (ws := w_W_shown) B.pre w (List.mem_cons_of_mem _ hw)
  have hown : s.vm.findClass "StackRoom$Whole" = some m.cls := findClass_of_methodNamed B.named
  have hlocks := B.notSynchronized
  have C0 : CallFix p m c b_W_shown 1 s [.ref a].toArray gt "StackRoom$Whole" := ⟨hx, hb, hml, hown, ht⟩
  have hl := lv_entry ([.ref a]) (n := 1) (Nat.le_of_ble_eq_true rfl)
  rw [lg_entry_eq]
  generalize (lg_sl ([.ref a]) ++ List.replicate (1 - (lg_sl ([.ref a])).length) Slot.unset).toArray = ls at hl ⊢
  have hl : lv_has ls 1 [(0, .ref a)] := hl
  refine lv_aload_n hx hb d_W_shown_0 rfl (lv_at hl 0 rfl) ?_
  refine va_get (D := D) (ci := 1) (C := "StackRoom$Whole") (T := T_W) (N := 1) (v := .int v) hx hb ht in_W hown hK.1 (hP.one ha) 0 rfl rfl 0 (by decide) (ht _ fl_W_W_amount) (fun _ h9 => h9) rfl d_W_shown_1 ?_
  exact W.iret (v := v) hx hb hr (fun t ht hW => ⟨_, rfl, rfl, ht⟩) (fun _ h => by cases h) d_W_shown_4
set_option maxHeartbeats 4000000 in
set_option maxRecDepth 100000 in
theorem k_M_kindCode (l : Launch) (hR : c_Rep w n rd md cV cT σ x ra rt ad fa ρ fr rr rf rc wl el cr G) {i : Nat} (hi : s_kd σ i = 2) : Met l y_M_kindCode w_M_kindCode ({ frames := 0, cells := 0, slots := 0, locals := 0 }) (g_pre D tys G sz [.ref (ad i)]) (vp_Si (fun rz => rz = nI (s_kd σ i))) 0 0 (fun _ => False) := by
  refine Met.ofW (cc := b_M_kindCode) (maxL := 1) (ret := (some .int)) (by decide) rfl ?_
  intro p e s m args below meth c s₁ B hml hv
  obtain ⟨rfl, hsz, hP, hK⟩ := hv
  have hx := B.exec
  have hb := B.bytes
  have hr := B.returns
  have ht := fun w (hw : w ∈ gt) => atoms_spec (ws := w_M_kindCode) B.pre w (List.mem_cons_of_mem _ hw)
  have hown : s.vm.findClass "StackRoom$Method" = some m.cls := findClass_of_methodNamed B.named
  have hlocks := B.notSynchronized
  have C0 : CallFix p m c b_M_kindCode 1 s [.ref (ad i)].toArray gt "StackRoom$Method" := ⟨hx, hb, hml, hown, ht⟩
  have hl := lv_entry ([.ref (ad i)]) (n := 1) (Nat.le_of_ble_eq_true rfl)
  rw [lg_entry_eq]
  generalize (lg_sl ([.ref (ad i)]) ++ List.replicate (1 - (lg_sl ([.ref (ad i)])).length) Slot.unset).toArray = ls at hl ⊢
  have hl : lv_has ls 1 [(0, .ref (ad i))] := hl
  refine lv_iconst (v := 2) hx hb d_M_kindCode_0 (by decide) ?_
  exact W.iret (v := 2) hx hb hr (fun t ht hW => ⟨_, rfl, by rw [hi]; rfl, ht⟩) (fun _ h => by cases h) d_M_kindCode_1
set_option maxHeartbeats 4000000 in
set_option maxRecDepth 100000 in
theorem k_X_kindCode (l : Launch) (hR : c_Rep w n rd md cV cT σ x ra rt ad fa ρ fr rr rf rc wl el cr G) {i : Nat} (hi : s_kd σ i = 3) : Met l y_X_kindCode w_X_kindCode ({ frames := 0, cells := 0, slots := 0, locals := 0 }) (g_pre D tys G sz [.ref (ad i)]) (vp_Si (fun rz => rz = nI (s_kd σ i))) 0 0 (fun _ => False) := by
  refine Met.ofW (cc := b_X_kindCode) (maxL := 1) (ret := (some .int)) (by decide) rfl ?_
  intro p e s m args below meth c s₁ B hml hv
  obtain ⟨rfl, hsz, hP, hK⟩ := hv
  have hx := B.exec
  have hb := B.bytes
  have hr := B.returns
  have ht := fun w (hw : w ∈ gt) => atoms_spec (ws := w_X_kindCode) B.pre w (List.mem_cons_of_mem _ hw)
  have hown : s.vm.findClass "StackRoom$MethodContext" = some m.cls := findClass_of_methodNamed B.named
  have hlocks := B.notSynchronized
  have C0 : CallFix p m c b_X_kindCode 1 s [.ref (ad i)].toArray gt "StackRoom$MethodContext" := ⟨hx, hb, hml, hown, ht⟩
  have hl := lv_entry ([.ref (ad i)]) (n := 1) (Nat.le_of_ble_eq_true rfl)
  rw [lg_entry_eq]
  generalize (lg_sl ([.ref (ad i)]) ++ List.replicate (1 - (lg_sl ([.ref (ad i)])).length) Slot.unset).toArray = ls at hl ⊢
  have hl : lv_has ls 1 [(0, .ref (ad i))] := hl
  refine lv_iconst (v := 3) hx hb d_X_kindCode_0 (by decide) ?_
  exact W.iret (v := 3) hx hb hr (fun t ht hW => ⟨_, rfl, by rw [hi]; rfl, ht⟩) (fun _ h => by cases h) d_X_kindCode_1
set_option maxHeartbeats 4000000 in
set_option maxRecDepth 100000 in
theorem k_B_kindCode (l : Launch) (hR : c_Rep w n rd md cV cT σ x ra rt ad fa ρ fr rr rf rc wl el cr G) {i : Nat} (hi : s_kd σ i = 4) : Met l y_B_kindCode w_B_kindCode ({ frames := 0, cells := 0, slots := 0, locals := 0 }) (g_pre D tys G sz [.ref (ad i)]) (vp_Si (fun rz => rz = nI (s_kd σ i))) 0 0 (fun _ => False) := by
  refine Met.ofW (cc := b_B_kindCode) (maxL := 1) (ret := (some .int)) (by decide) rfl ?_
  intro p e s m args below meth c s₁ B hml hv
  obtain ⟨rfl, hsz, hP, hK⟩ := hv
  have hx := B.exec
  have hb := B.bytes
  have hr := B.returns
  have ht := fun w (hw : w ∈ gt) => atoms_spec (ws := w_B_kindCode) B.pre w (List.mem_cons_of_mem _ hw)
  have hown : s.vm.findClass "StackRoom$BlockContext" = some m.cls := findClass_of_methodNamed B.named
  have hlocks := B.notSynchronized
  have C0 : CallFix p m c b_B_kindCode 1 s [.ref (ad i)].toArray gt "StackRoom$BlockContext" := ⟨hx, hb, hml, hown, ht⟩
  have hl := lv_entry ([.ref (ad i)]) (n := 1) (Nat.le_of_ble_eq_true rfl)
  rw [lg_entry_eq]
  generalize (lg_sl ([.ref (ad i)]) ++ List.replicate (1 - (lg_sl ([.ref (ad i)])).length) Slot.unset).toArray = ls at hl ⊢
  have hl : lv_has ls 1 [(0, .ref (ad i))] := hl
  refine lv_iconst (v := 4) hx hb d_B_kindCode_0 (by decide) ?_
  exact W.iret (v := 4) hx hb hr (fun t ht hW => ⟨_, rfl, by rw [hi]; rfl, ht⟩) (fun _ h => by cases h) d_B_kindCode_1
set_option maxHeartbeats 4000000 in
set_option maxRecDepth 100000 in
theorem k_M_wordsTaken (l : Launch) (hR : c_Rep w n rd md cV cT σ x ra rt ad fa ρ fr rr rf rc wl el cr G) {i : Nat} (hi : s_kd σ i = 2) : Met l y_M_wordsTaken w_M_wordsTaken ({ frames := 0, cells := 0, slots := 0, locals := 0 }) (g_pre D tys G sz [.ref (ad i)]) (vp_Si (fun rz => rz = nI (s_wd σ i))) 0 0 (fun _ => False) := by
  refine Met.ofW (cc := b_M_wordsTaken) (maxL := 1) (ret := (some .int)) (by decide) rfl ?_
  intro p e s m args below meth c s₁ B hml hv
  obtain ⟨rfl, hsz, hP, hK⟩ := hv
  have hx := B.exec
  have hb := B.bytes
  have hr := B.returns
  have ht := fun w (hw : w ∈ gt) => atoms_spec (ws := w_M_wordsTaken) B.pre w (List.mem_cons_of_mem _ hw)
  have hown : s.vm.findClass "StackRoom$Method" = some m.cls := findClass_of_methodNamed B.named
  have hlocks := B.notSynchronized
  have C0 : CallFix p m c b_M_wordsTaken 1 s [.ref (ad i)].toArray gt "StackRoom$Method" := ⟨hx, hb, hml, hown, ht⟩
  have hl := lv_entry ([.ref (ad i)]) (n := 1) (Nat.le_of_ble_eq_true rfl)
  rw [lg_entry_eq]
  generalize (lg_sl ([.ref (ad i)]) ++ List.replicate (1 - (lg_sl ([.ref (ad i)])).length) Slot.unset).toArray = ls at hl ⊢
  have hl : lv_has ls 1 [(0, .ref (ad i))] := hl
  refine lv_bipush (v := 10) hx hb d_M_wordsTaken_0 (by decide) ?_
  exact W.iret (v := 10) hx hb hr (fun t ht hW => ⟨_, rfl, by rw [s_wd2 hi]; rfl, ht⟩) (fun _ h => by cases h) d_M_wordsTaken_2
set_option maxHeartbeats 4000000 in
set_option maxRecDepth 100000 in
theorem k_M_entriesTaken (l : Launch) (hR : c_Rep w n rd md cV cT σ x ra rt ad fa ρ fr rr rf rc wl el cr G) {i : Nat} (hi : s_kd σ i = 2) : Met l y_M_entriesTaken w_M_entriesTaken ({ frames := 0, cells := 0, slots := 0, locals := 0 }) (g_pre D tys G sz [.ref (ad i)]) (vp_Si (fun rz => rz = nI (s_en σ i))) 0 0 (fun _ => False) := by
  refine Met.ofW (cc := b_M_entriesTaken) (maxL := 1) (ret := (some .int)) (by decide) rfl ?_
  intro p e s m args below meth c s₁ B hml hv
  obtain ⟨rfl, hsz, hP, hK⟩ := hv
  have hx := B.exec
  have hb := B.bytes
  have hr := B.returns
  have ht := fun w (hw : w ∈ gt) => atoms_spec (ws := w_M_entriesTaken) B.pre w (List.mem_cons_of_mem _ hw)
  have hown : s.vm.findClass "StackRoom$Method" = some m.cls := findClass_of_methodNamed B.named
  have hlocks := B.notSynchronized
  have C0 : CallFix p m c b_M_entriesTaken 1 s [.ref (ad i)].toArray gt "StackRoom$Method" := ⟨hx, hb, hml, hown, ht⟩
  have hl := lv_entry ([.ref (ad i)]) (n := 1) (Nat.le_of_ble_eq_true rfl)
  rw [lg_entry_eq]
  generalize (lg_sl ([.ref (ad i)]) ++ List.replicate (1 - (lg_sl ([.ref (ad i)])).length) Slot.unset).toArray = ls at hl ⊢
  have hl : lv_has ls 1 [(0, .ref (ad i))] := hl
  refine lv_iconst (v := 2) hx hb d_M_entriesTaken_0 (by decide) ?_
  exact W.iret (v := 2) hx hb hr (fun t ht hW => ⟨_, rfl, by rw [s_en2 hi]; rfl, ht⟩) (fun _ h => by cases h) d_M_entriesTaken_1
set_option maxHeartbeats 4000000 in
set_option maxRecDepth 100000 in
theorem k_X_headFields (l : Launch) (hR : c_Rep w n rd md cV cT σ x ra rt ad fa ρ fr rr rf rc wl el cr G) {i : Nat} (hi : s_kd σ i = 3) : Met l y_X_headFields w_X_headFields ({ frames := 0, cells := 0, slots := 0, locals := 0 }) (g_pre D tys G sz [.ref (ad i)]) (vp_Si (fun rz => rz = 5)) 0 0 (fun _ => False) := by
  refine Met.ofW (cc := b_X_headFields) (maxL := 1) (ret := (some .int)) (by decide) rfl ?_
  intro p e s m args below meth c s₁ B hml hv
  obtain ⟨rfl, hsz, hP, hK⟩ := hv
  have hx := B.exec
  have hb := B.bytes
  have hr := B.returns
  have ht := fun w (hw : w ∈ gt) => atoms_spec (ws := w_X_headFields) B.pre w (List.mem_cons_of_mem _ hw)
  have hown : s.vm.findClass "StackRoom$MethodContext" = some m.cls := findClass_of_methodNamed B.named
  have hlocks := B.notSynchronized
  have C0 : CallFix p m c b_X_headFields 1 s [.ref (ad i)].toArray gt "StackRoom$MethodContext" := ⟨hx, hb, hml, hown, ht⟩
  have hl := lv_entry ([.ref (ad i)]) (n := 1) (Nat.le_of_ble_eq_true rfl)
  rw [lg_entry_eq]
  generalize (lg_sl ([.ref (ad i)]) ++ List.replicate (1 - (lg_sl ([.ref (ad i)])).length) Slot.unset).toArray = ls at hl ⊢
  have hl : lv_has ls 1 [(0, .ref (ad i))] := hl
  refine lv_iconst (v := 5) hx hb d_X_headFields_0 (by decide) ?_
  exact W.iret (v := 5) hx hb hr (fun t ht hW => ⟨_, rfl, rfl, ht⟩) (fun _ h => by cases h) d_X_headFields_1
set_option maxHeartbeats 4000000 in
set_option maxRecDepth 100000 in
theorem k_B_headFields (l : Launch) (hR : c_Rep w n rd md cV cT σ x ra rt ad fa ρ fr rr rf rc wl el cr G) {i : Nat} (hi : s_kd σ i = 4) : Met l y_B_headFields w_B_headFields ({ frames := 0, cells := 0, slots := 0, locals := 0 }) (g_pre D tys G sz [.ref (ad i)]) (vp_Si (fun rz => rz = 6)) 0 0 (fun _ => False) := by
  refine Met.ofW (cc := b_B_headFields) (maxL := 1) (ret := (some .int)) (by decide) rfl ?_
  intro p e s m args below meth c s₁ B hml hv
  obtain ⟨rfl, hsz, hP, hK⟩ := hv
  have hx := B.exec
  have hb := B.bytes
  have hr := B.returns
  have ht := fun w (hw : w ∈ gt) => atoms_spec (ws := w_B_headFields) B.pre w (List.mem_cons_of_mem _ hw)
  have hown : s.vm.findClass "StackRoom$BlockContext" = some m.cls := findClass_of_methodNamed B.named
  have hlocks := B.notSynchronized
  have C0 : CallFix p m c b_B_headFields 1 s [.ref (ad i)].toArray gt "StackRoom$BlockContext" := ⟨hx, hb, hml, hown, ht⟩
  have hl := lv_entry ([.ref (ad i)]) (n := 1) (Nat.le_of_ble_eq_true rfl)
  rw [lg_entry_eq]
  generalize (lg_sl ([.ref (ad i)]) ++ List.replicate (1 - (lg_sl ([.ref (ad i)])).length) Slot.unset).toArray = ls at hl ⊢
  have hl : lv_has ls 1 [(0, .ref (ad i))] := hl
  refine lv_bipush (v := 6) hx hb d_B_headFields_0 (by decide) ?_
  exact W.iret (v := 6) hx hb hr (fun t ht hW => ⟨_, rfl, rfl, ht⟩) (fun _ h => by cases h) d_B_headFields_2
set_option maxHeartbeats 4000000 in
set_option maxRecDepth 100000 in
theorem k_B_floorNow (l : Launch) (hR : c_Rep w n rd md cV cT σ x ra rt ad fa ρ fr rr rf rc wl el cr G) {i : Nat} (hi : s_kd σ i = 4) : Met l y_B_floorNow w_B_floorNow ({ frames := 0, cells := 0, slots := 0, locals := 0 }) (g_pre D tys G sz [.ref (ad i)]) (vp_Si (fun rz => rz = nI (s_fr σ i))) 0 0 (fun _ => False) := by
  refine Met.ofW (cc := b_B_floorNow) (maxL := 1) (ret := (some .int)) (by decide) rfl ?_
  intro p e s m args below meth c s₁ B hml hv
  obtain ⟨rfl, hsz, hP, hK⟩ := hv
  have hx := B.exec
  have hb := B.bytes
  have hr := B.returns
  have ht := fun w (hw : w ∈ gt) => atoms_spec (ws := w_B_floorNow) B.pre w (List.mem_cons_of_mem _ hw)
  have hown : s.vm.findClass "StackRoom$BlockContext" = some m.cls := findClass_of_methodNamed B.named
  have hlocks := B.notSynchronized
  have C0 : CallFix p m c b_B_floorNow 1 s [.ref (ad i)].toArray gt "StackRoom$BlockContext" := ⟨hx, hb, hml, hown, ht⟩
  have hl := lv_entry ([.ref (ad i)]) (n := 1) (Nat.le_of_ble_eq_true rfl)
  rw [lg_entry_eq]
  generalize (lg_sl ([.ref (ad i)]) ++ List.replicate (1 - (lg_sl ([.ref (ad i)])).length) Slot.unset).toArray = ls at hl ⊢
  have hl : lv_has ls 1 [(0, .ref (ad i))] := hl
  refine lv_iconst (v := 0) hx hb d_B_floorNow_0 (by decide) ?_
  exact W.iret (v := 0) hx hb hr (fun t ht hW => ⟨_, rfl, by rw [s_fr4 hi]; rfl, ht⟩) (fun _ h => by cases h) d_B_floorNow_1
set_option maxHeartbeats 4000000 in
set_option maxRecDepth 100000 in
theorem k_X_floorNow (l : Launch) (hR : c_Rep w n rd md cV cT σ x ra rt ad fa ρ fr rr rf rc wl el cr G) {i : Nat} (hi : s_kd σ i = 3) (hI : s_I σ) : Met l y_X_floorNow w_X_floorNow ({ frames := 0, cells := 0, slots := 0, locals := 0 }) (g_pre D tys G sz [.ref (ad i)]) (vp_Si (fun rz => rz = nI (s_fr σ i))) 0 0 (fun _ => False) := by
  refine Met.ofW (cc := b_X_floorNow) (maxL := 1) (ret := (some .int)) (by decide) rfl ?_
  intro p e s m args below meth c s₁ B hml hv
  obtain ⟨rfl, hsz, hP, hK⟩ := hv
  have hx := B.exec
  have hb := B.bytes
  have hr := B.returns
  have ht := fun w (hw : w ∈ gt) => atoms_spec (ws := w_X_floorNow) B.pre w (List.mem_cons_of_mem _ hw)
  have hown : s.vm.findClass "StackRoom$MethodContext" = some m.cls := findClass_of_methodNamed B.named
  have hlocks := B.notSynchronized
  have C0 : CallFix p m c b_X_floorNow 1 s [.ref (ad i)].toArray gt "StackRoom$MethodContext" := ⟨hx, hb, hml, hown, ht⟩
  have hl := lv_entry ([.ref (ad i)]) (n := 1) (Nat.le_of_ble_eq_true rfl)
  rw [lg_entry_eq]
  generalize (lg_sl ([.ref (ad i)]) ++ List.replicate (1 - (lg_sl ([.ref (ad i)])).length) Slot.unset).toArray = ls at hl ⊢
  have hl : lv_has ls 1 [(0, .ref (ad i))] := hl
  refine lv_aload_n hx hb d_X_floorNow_0 rfl (lv_at hl 0 rfl) ?_
  refine va_get (D := D) (ci := 3) (C := "StackRoom$MethodContext") (T := T_X) (N := 7) (v := .ref (ad (s_og σ i))) hx hb ht in_X hown hK.1 (hP.one (hR.c3 hi)) 0 rfl rfl 6 (by decide) (ht _ fl_X_X_method) (fun _ h9 => h9) rfl d_X_floorNow_1 ?_
  refine va_getN (D := D) (ci := 2) (C := "StackRoom$Method") (T := T_M) (N := 4) (v := .int (nI (s_tt σ (s_og σ i)))) hx hb ht in_M hown hK.1 (hP.one (hR.c2 (hI.2.2.2.2.1 i hi))) 0 rfl rfl 2 (by decide) (va_Nw.use rfl (hK.2.1 _ fn_X_M_temporaries)) (fun _ h9 => h9) rfl d_X_floorNow_4 ?_
  exact W.iret (v := (nI (s_tt σ (s_og σ i)))) hx hb hr (fun t ht hW => ⟨_, rfl, by rw [s_fr3 hi], ht⟩) (fun _ h => by cases h) d_X_floorNow_7
set_option maxHeartbeats 4000000 in
set_option maxRecDepth 100000 in
theorem k_X_homeContext (l : Launch) (hR : c_Rep w n rd md cV cT σ x ra rt ad fa ρ fr rr rf rc wl el cr G) {i : Nat} (hi : s_kd σ i = 3) : Met l y_X_homeContext w_X_homeContext ({ frames := 0, cells := 0, slots := 0, locals := 0 }) (g_pre D tys G sz [.ref (ad i)]) (va_Sq (fun rz => rz = some (ad (s_hm σ i)))) 0 0 (fun _ => False) := by
  refine Met.ofW (cc := b_X_homeContext) (maxL := 1) (ret := (some (.object "StackRoom$MethodContext"))) (by decide) rfl ?_
  intro p e s m args below meth c s₁ B hml hv
  obtain ⟨rfl, hsz, hP, hK⟩ := hv
  have hx := B.exec
  have hb := B.bytes
  have hr := B.returns
  have ht := fun w (hw : w ∈ gt) => atoms_spec (ws := w_X_homeContext) B.pre w (List.mem_cons_of_mem _ hw)
  have hown : s.vm.findClass "StackRoom$MethodContext" = some m.cls := findClass_of_methodNamed B.named
  have hlocks := B.notSynchronized
  have C0 : CallFix p m c b_X_homeContext 1 s [.ref (ad i)].toArray gt "StackRoom$MethodContext" := ⟨hx, hb, hml, hown, ht⟩
  have hl := lv_entry ([.ref (ad i)]) (n := 1) (Nat.le_of_ble_eq_true rfl)
  rw [lg_entry_eq]
  generalize (lg_sl ([.ref (ad i)]) ++ List.replicate (1 - (lg_sl ([.ref (ad i)])).length) Slot.unset).toArray = ls at hl ⊢
  have hl : lv_has ls 1 [(0, .ref (ad i))] := hl
  refine lv_aload_n hx hb d_X_homeContext_0 rfl (lv_at hl 0 rfl) ?_
  exact W.aret (v := .ref (ad i)) (rt := .object "StackRoom$MethodContext") hx hb hr (Or.inl ⟨_, rfl⟩) (Or.inr ⟨_, rfl⟩) (fun t ht hW => ⟨some ((ad i)), rfl, by rw [s_hm3 hi], ht⟩) (fun _ h => by cases h) d_X_homeContext_1
set_option maxHeartbeats 4000000 in
set_option maxRecDepth 100000 in
theorem k_B_homeContext (l : Launch) (hR : c_Rep w n rd md cV cT σ x ra rt ad fa ρ fr rr rf rc wl el cr G) {i : Nat} (hi : s_kd σ i = 4) : Met l y_B_homeContext w_B_homeContext ({ frames := 0, cells := 0, slots := 0, locals := 0 }) (g_pre D tys G sz [.ref (ad i)]) (va_Sq (fun rz => rz = some (ad (s_hm σ i)))) 0 0 (fun _ => False) := by
  refine Met.ofW (cc := b_B_homeContext) (maxL := 1) (ret := (some (.object "StackRoom$MethodContext"))) (by decide) rfl ?_
  intro p e s m args below meth c s₁ B hml hv
  obtain ⟨rfl, hsz, hP, hK⟩ := hv
  have hx := B.exec
  have hb := B.bytes
  have hr := B.returns
  have ht := fun w (hw : w ∈ gt) => atoms_spec (ws := w_B_homeContext) B.pre w (List.mem_cons_of_mem _ hw)
  have hown : s.vm.findClass "StackRoom$BlockContext" = some m.cls := findClass_of_methodNamed B.named
  have hlocks := B.notSynchronized
  have C0 : CallFix p m c b_B_homeContext 1 s [.ref (ad i)].toArray gt "StackRoom$BlockContext" := ⟨hx, hb, hml, hown, ht⟩
  have hl := lv_entry ([.ref (ad i)]) (n := 1) (Nat.le_of_ble_eq_true rfl)
  rw [lg_entry_eq]
  generalize (lg_sl ([.ref (ad i)]) ++ List.replicate (1 - (lg_sl ([.ref (ad i)])).length) Slot.unset).toArray = ls at hl ⊢
  have hl : lv_has ls 1 [(0, .ref (ad i))] := hl
  refine lv_aload_n hx hb d_B_homeContext_0 rfl (lv_at hl 0 rfl) ?_
  refine va_get (D := D) (ci := 4) (C := "StackRoom$BlockContext") (T := T_B) (N := 8) (v := .ref (ad (s_og σ i))) hx hb ht in_B hown hK.1 (hP.one (hR.c4 hi)) 0 rfl rfl 6 (by decide) (ht _ fl_B_B_home) (fun _ h9 => h9) rfl d_B_homeContext_1 ?_
  exact W.aret (v := .ref (ad (s_og σ i))) (rt := .object "StackRoom$MethodContext") hx hb hr (Or.inl ⟨_, rfl⟩) (Or.inr ⟨_, rfl⟩) (fun t ht hW => ⟨some ((ad (s_og σ i))), rfl, by rw [s_hm4 hi], ht⟩) (fun _ h => by cases h) d_B_homeContext_4
set_option maxHeartbeats 4000000 in
set_option maxRecDepth 100000 in
theorem k_B_origin (l : Launch) (hR : c_Rep w n rd md cV cT σ x ra rt ad fa ρ fr rr rf rc wl el cr G) {i : Nat} (hi : s_kd σ i = 4) : Met l y_B_origin w_B_origin ({ frames := 0, cells := 0, slots := 0, locals := 0 }) (g_pre D tys G sz [.ref (ad i)]) (va_Sq (fun rz => rz = some (ad (s_og σ i)))) 0 0 (fun _ => False) := by
  refine Met.ofW (cc := b_B_origin) (maxL := 1) (ret := (some (.object "StackRoom$Thing"))) (by decide) rfl ?_
  intro p e s m args below meth c s₁ B hml hv
  obtain ⟨rfl, hsz, hP, hK⟩ := hv
  have hx := B.exec
  have hb := B.bytes
  have hr := B.returns
  have ht := fun w (hw : w ∈ gt) => atoms_spec (ws := w_B_origin) B.pre w (List.mem_cons_of_mem _ hw)
  have hown : s.vm.findClass "StackRoom$BlockContext" = some m.cls := findClass_of_methodNamed B.named
  have hlocks := B.notSynchronized
  have C0 : CallFix p m c b_B_origin 1 s [.ref (ad i)].toArray gt "StackRoom$BlockContext" := ⟨hx, hb, hml, hown, ht⟩
  have hl := lv_entry ([.ref (ad i)]) (n := 1) (Nat.le_of_ble_eq_true rfl)
  rw [lg_entry_eq]
  generalize (lg_sl ([.ref (ad i)]) ++ List.replicate (1 - (lg_sl ([.ref (ad i)])).length) Slot.unset).toArray = ls at hl ⊢
  have hl : lv_has ls 1 [(0, .ref (ad i))] := hl
  refine lv_aload_n hx hb d_B_origin_0 rfl (lv_at hl 0 rfl) ?_
  refine va_get (D := D) (ci := 4) (C := "StackRoom$BlockContext") (T := T_B) (N := 8) (v := .ref (ad (s_og σ i))) hx hb ht in_B hown hK.1 (hP.one (hR.c4 hi)) 0 rfl rfl 6 (by decide) (ht _ fl_B_B_home) (fun _ h9 => h9) rfl d_B_origin_1 ?_
  exact W.aret (v := .ref (ad (s_og σ i))) (rt := .object "StackRoom$Thing") hx hb hr (Or.inl ⟨_, rfl⟩) (Or.inr ⟨_, rfl⟩) (fun t ht hW => ⟨some ((ad (s_og σ i))), rfl, rfl, ht⟩) (fun _ h => by cases h) d_B_origin_4
set_option maxHeartbeats 4000000 in
set_option maxRecDepth 100000 in
theorem k_X_origin (l : Launch) (hR : c_Rep w n rd md cV cT σ x ra rt ad fa ρ fr rr rf rc wl el cr G) {i : Nat} (hi : s_kd σ i = 3) : Met l y_X_origin w_X_origin ({ frames := 0, cells := 0, slots := 0, locals := 0 }) (g_pre D tys G sz [.ref (ad i)]) (va_Sq (fun rz => rz = some (ad (s_og σ i)))) 0 0 (fun _ => False) := by
  refine Met.ofW (cc := b_X_origin) (maxL := 1) (ret := (some (.object "StackRoom$Thing"))) (by decide) rfl ?_
  intro p e s m args below meth c s₁ B hml hv
  obtain ⟨rfl, hsz, hP, hK⟩ := hv
  have hx := B.exec
  have hb := B.bytes
  have hr := B.returns
  have ht := fun w (hw : w ∈ gt) => atoms_spec (ws := w_X_origin) B.pre w (List.mem_cons_of_mem _ hw)
  have hown : s.vm.findClass "StackRoom$MethodContext" = some m.cls := findClass_of_methodNamed B.named
  have hlocks := B.notSynchronized
  have C0 : CallFix p m c b_X_origin 1 s [.ref (ad i)].toArray gt "StackRoom$MethodContext" := ⟨hx, hb, hml, hown, ht⟩
  have hl := lv_entry ([.ref (ad i)]) (n := 1) (Nat.le_of_ble_eq_true rfl)
  rw [lg_entry_eq]
  generalize (lg_sl ([.ref (ad i)]) ++ List.replicate (1 - (lg_sl ([.ref (ad i)])).length) Slot.unset).toArray = ls at hl ⊢
  have hl : lv_has ls 1 [(0, .ref (ad i))] := hl
  refine lv_aload_n hx hb d_X_origin_0 rfl (lv_at hl 0 rfl) ?_
  refine va_get (D := D) (ci := 3) (C := "StackRoom$MethodContext") (T := T_X) (N := 7) (v := .ref (ad (s_og σ i))) hx hb ht in_X hown hK.1 (hP.one (hR.c3 hi)) 0 rfl rfl 6 (by decide) (ht _ fl_X_X_method) (fun _ h9 => h9) rfl d_X_origin_1 ?_
  exact W.aret (v := .ref (ad (s_og σ i))) (rt := .object "StackRoom$Thing") hx hb hr (Or.inl ⟨_, rfl⟩) (Or.inr ⟨_, rfl⟩) (fun t ht hW => ⟨some ((ad (s_og σ i))), rfl, rfl, ht⟩) (fun _ h => by cases h) d_X_origin_4
set_option maxHeartbeats 4000000 in
set_option maxRecDepth 100000 in
theorem k_T_shown (l : Launch) (hR : c_Rep w n rd md cV cT σ x ra rt ad fa ρ fr rr rf rc wl el cr G) {i : Nat} (hi : s_kd σ i = 2 ∨ s_kd σ i = 3 ∨ s_kd σ i = 4) : Met l y_T_shown w_T_shown ({ frames := 0, cells := 0, slots := 0, locals := 0 }) (g_pre D tys G sz [.ref (ad i)]) (vp_Si (fun rz => rz = nI i)) 0 0 (fun _ => False) := by
  refine Met.ofW (cc := b_T_shown) (maxL := 1) (ret := (some .int)) (by decide) rfl ?_
  intro p e s m args below meth c s₁ B hml hv
  obtain ⟨rfl, hsz, hP, hK⟩ := hv
  have hx := B.exec
  have hb := B.bytes
  have hr := B.returns
  have ht := fun w (hw : w ∈ gt) => atoms_spec (ws := w_T_shown) B.pre w (List.mem_cons_of_mem _ hw)
  have hown : s.vm.findClass "StackRoom$Thing" = some m.cls := findClass_of_methodNamed B.named
  have hlocks := B.notSynchronized
  have C0 : CallFix p m c b_T_shown 1 s [.ref (ad i)].toArray gt "StackRoom$Thing" := ⟨hx, hb, hml, hown, ht⟩
  have hl := lv_entry ([.ref (ad i)]) (n := 1) (Nat.le_of_ble_eq_true rfl)
  rw [lg_entry_eq]
  generalize (lg_sl ([.ref (ad i)]) ++ List.replicate (1 - (lg_sl ([.ref (ad i)])).length) Slot.unset).toArray = ls at hl ⊢
  have hl : lv_has ls 1 [(0, .ref (ad i))] := hl
  rcases hi with hi | hi | hi
  · refine lv_aload_n hx hb d_T_shown_0 rfl (lv_at hl 0 rfl) ?_
    refine va_get (D := D) (ci := 2) (C := "StackRoom$Method") (T := T_M) (N := 4) (v := .int (nI i)) hx hb ht in_M hown hK.1 (hP.one (hR.c2 hi)) 0 rfl rfl 0 (by decide) (ht _ fl_T_T_identity) (fun _ h9 => h9) rfl d_T_shown_1 ?_
    exact W.iret (v := (nI i)) hx hb hr (fun t ht hW => ⟨_, rfl, rfl, ht⟩) (fun _ h => by cases h) d_T_shown_4
  · refine lv_aload_n hx hb d_T_shown_0 rfl (lv_at hl 0 rfl) ?_
    refine va_get (D := D) (ci := 3) (C := "StackRoom$MethodContext") (T := T_X) (N := 7) (v := .int (nI i)) hx hb ht in_X hown hK.1 (hP.one (hR.c3 hi)) 0 rfl rfl 0 (by decide) (ht _ fl_T_T_identity) (fun _ h9 => h9) rfl d_T_shown_1 ?_
    exact W.iret (v := (nI i)) hx hb hr (fun t ht hW => ⟨_, rfl, rfl, ht⟩) (fun _ h => by cases h) d_T_shown_4
  · refine lv_aload_n hx hb d_T_shown_0 rfl (lv_at hl 0 rfl) ?_
    refine va_get (D := D) (ci := 4) (C := "StackRoom$BlockContext") (T := T_B) (N := 8) (v := .int (nI i)) hx hb ht in_B hown hK.1 (hP.one (hR.c4 hi)) 0 rfl rfl 0 (by decide) (ht _ fl_T_T_identity) (fun _ h9 => h9) rfl d_T_shown_1 ?_
    exact W.iret (v := (nI i)) hx hb hr (fun t ht hW => ⟨_, rfl, rfl, ht⟩) (fun _ h => by cases h) d_T_shown_4
set_option maxHeartbeats 4000000 in
set_option maxRecDepth 100000 in
theorem k_C_wordsTaken (l : Launch) (hR : c_Rep w n rd md cV cT σ x ra rt ad fa ρ fr rr rf rc wl el cr G) {i : Nat} (hi : s_isC σ i) (ht0 : tys[0]? = some (cV, .object "StackRoom$Value")) : Met l y_C_wordsTaken w_C_wordsTaken ({ frames := 1, cells := 0, slots := 0, locals := 20 }) (g_pre D tys G sz [.ref (ad i)]) (vp_Si (fun rz => rz = nI (s_wd σ i))) 0 0 (fun _ => False) := by
  refine Met.ofW (cc := b_C_wordsTaken) (maxL := 1) (ret := (some .int)) (by decide) rfl ?_
  intro p e s m args below meth c s₁ B hml hv
  obtain ⟨rfl, hsz, hP, hK⟩ := hv
  have hx := B.exec
  have hb := B.bytes
  have hr := B.returns
  have ht := fun w (hw : w ∈ gt) => atoms_spec (ws := w_C_wordsTaken) B.pre w (List.mem_cons_of_mem _ hw)
  have hown : s.vm.findClass "StackRoom$Context" = some m.cls := findClass_of_methodNamed B.named
  have hlocks := B.notSynchronized
  have C0 : CallFix p m c b_C_wordsTaken 1 s [.ref (ad i)].toArray gt "StackRoom$Context" := ⟨hx, hb, hml, hown, ht⟩
  have hl := lv_entry ([.ref (ad i)]) (n := 1) (Nat.le_of_ble_eq_true rfl)
  rw [lg_entry_eq]
  generalize (lg_sl ([.ref (ad i)]) ++ List.replicate (1 - (lg_sl ([.ref (ad i)])).length) Slot.unset).toArray = ls at hl ⊢
  have hl : lv_has ls 1 [(0, .ref (ad i))] := hl
  rcases id hi with h3 | h4
  · refine lv_iconst (v := 4) hx hb d_C_wordsTaken_0 (by decide) ?_
    refine lv_aload_n hx hb d_C_wordsTaken_1 rfl (lv_at hl 0 rfl) ?_
    refine vp_callSi (va_Run.run (r_A (owner := "StackRoom$Context") (n := 0) (rest := [.int 4]) C0 [] (k_X_headFields l hR h3) ml_C_C_headFields sm_C_C_headFields se_X_C_headFields_X im_X_headFields ini_X co_X_headFields (hK.2.1 _ dc_C_headFields) (by decide +kernel) (g_preV (ci := 3) hK hP rfl (hR.c3 h3)) hl.1 d_C_wordsTaken_2 rfl rfl (Nat.le_of_ble_eq_true rfl) ⟨rfl, rfl⟩ ⟨Nat.le_of_ble_eq_true rfl, Nat.le_of_ble_eq_true rfl⟩ ⟨Nat.le_of_ble_eq_true rfl, Nat.le_of_ble_eq_true rfl⟩)) (fun q eq => ?_)
    refine lv_iadd hx hb d_C_wordsTaken_5 ?_
    refine lv_aload_n hx hb d_C_wordsTaken_6 rfl (lv_at hl 0 rfl) ?_
    refine va_get (D := D) (ci := 3) (C := "StackRoom$MethodContext") (T := T_X) (N := 7) (v := .ref (fa i)) hx hb ht in_X hown hK.1 (hP.one (hR.c3 h3)) 0 rfl rfl 5 (by decide) (ht _ fl_C_C_fields) (fun _ h9 => h9) rfl d_C_wordsTaken_7 ?_
    refine va_alen (v := nI (s_rm σ i)) hx hb hK.1 (hP.one (hR.ca hi)) 0 0 rfl ht0 rfl d_C_wordsTaken_10 ?_
    refine lv_iadd hx hb d_C_wordsTaken_11 ?_
    exact W.iret (v := ((4 + q) + (nI (s_rm σ i)))) hx hb hr (fun t ht hW => ⟨_, rfl, by rw [eq, s_wd3 h3, ← nI_add]; rfl, ht⟩) (fun _ h => by cases h) d_C_wordsTaken_12
  · refine lv_iconst (v := 4) hx hb d_C_wordsTaken_0 (by decide) ?_
    refine lv_aload_n hx hb d_C_wordsTaken_1 rfl (lv_at hl 0 rfl) ?_
    refine vp_callSi (va_Run.run (r_A (owner := "StackRoom$Context") (n := 0) (rest := [.int 4]) C0 [] (k_B_headFields l hR h4) ml_C_C_headFields sm_C_C_headFields se_B_C_headFields_B im_B_headFields ini_B co_B_headFields (hK.2.1 _ dc_C_headFields) (by decide +kernel) (g_preV (ci := 4) hK hP rfl (hR.c4 h4)) hl.1 d_C_wordsTaken_2 rfl rfl (Nat.le_of_ble_eq_true rfl) ⟨rfl, rfl⟩ ⟨Nat.le_of_ble_eq_true rfl, Nat.le_of_ble_eq_true rfl⟩ ⟨Nat.le_of_ble_eq_true rfl, Nat.le_of_ble_eq_true rfl⟩)) (fun q eq => ?_)
    refine lv_iadd hx hb d_C_wordsTaken_5 ?_
    refine lv_aload_n hx hb d_C_wordsTaken_6 rfl (lv_at hl 0 rfl) ?_
    refine va_get (D := D) (ci := 4) (C := "StackRoom$BlockContext") (T := T_B) (N := 8) (v := .ref (fa i)) hx hb ht in_B hown hK.1 (hP.one (hR.c4 h4)) 0 rfl rfl 5 (by decide) (ht _ fl_C_C_fields) (fun _ h9 => h9) rfl d_C_wordsTaken_7 ?_
    refine va_alen (v := nI (s_rm σ i)) hx hb hK.1 (hP.one (hR.ca hi)) 0 0 rfl ht0 rfl d_C_wordsTaken_10 ?_
    refine lv_iadd hx hb d_C_wordsTaken_11 ?_
    exact W.iret (v := ((4 + q) + (nI (s_rm σ i)))) hx hb hr (fun t ht hW => ⟨_, rfl, by rw [eq, s_wd4 h4, ← nI_add]; rfl, ht⟩) (fun _ h => by cases h) d_C_wordsTaken_12
set_option maxHeartbeats 4000000 in
set_option maxRecDepth 100000 in
theorem k_C_entriesTaken (l : Launch) (hR : c_Rep w n rd md cV cT σ x ra rt ad fa ρ fr rr rf rc wl el cr G) {i : Nat} (hi : s_isC σ i) : Met l y_C_entriesTaken w_C_entriesTaken ({ frames := 0, cells := 0, slots := 0, locals := 0 }) (g_pre D tys G sz [.ref (ad i)]) (vp_Si (fun rz => rz = nI (s_en σ i))) 0 0 (fun _ => False) := by
  refine Met.ofW (cc := b_C_entriesTaken) (maxL := 1) (ret := (some .int)) (by decide) rfl ?_
  intro p e s m args below meth c s₁ B hml hv
  obtain ⟨rfl, hsz, hP, hK⟩ := hv
  have hx := B.exec
  have hb := B.bytes
  have hr := B.returns
  have ht := fun w (hw : w ∈ gt) => atoms_spec (ws := w_C_entriesTaken) B.pre w (List.mem_cons_of_mem _ hw)
  have hown : s.vm.findClass "StackRoom$Context" = some m.cls := findClass_of_methodNamed B.named
  have hlocks := B.notSynchronized
  have C0 : CallFix p m c b_C_entriesTaken 1 s [.ref (ad i)].toArray gt "StackRoom$Context" := ⟨hx, hb, hml, hown, ht⟩
  have hl := lv_entry ([.ref (ad i)]) (n := 1) (Nat.le_of_ble_eq_true rfl)
  rw [lg_entry_eq]
  generalize (lg_sl ([.ref (ad i)]) ++ List.replicate (1 - (lg_sl ([.ref (ad i)])).length) Slot.unset).toArray = ls at hl ⊢
  have hl : lv_has ls 1 [(0, .ref (ad i))] := hl
  refine lv_iconst (v := 1) hx hb d_C_entriesTaken_0 (by decide) ?_
  exact W.iret (v := 1) hx hb hr (fun t ht hW => ⟨_, rfl, by rw [s_enC hi]; rfl, ht⟩) (fun _ h => by cases h) d_C_entriesTaken_1
set_option maxHeartbeats 4000000 in
set_option maxRecDepth 100000 in
theorem k_C_isFull (l : Launch) (hR : c_Rep w n rd md cV cT σ x ra rt ad fa ρ fr rr rf rc wl el cr G) {i : Nat} (hi : s_isC σ i) (hI : s_I σ) (ht0 : tys[0]? = some (cV, .object "StackRoom$Value")) : Met l y_C_isFull w_C_isFull ({ frames := 0, cells := 0, slots := 0, locals := 0 }) (g_pre D tys G sz [.ref (ad i)]) (vp_Si (fun rz => rz = if s_rm σ i ≤ s_ht σ i then 1 else 0)) 0 0 (fun _ => False) := by
  refine Met.ofW (cc := b_C_isFull) (maxL := 1) (ret := (some .boolean)) (by decide) rfl ?_
  intro p e s m args below meth c s₁ B hml hv
  obtain ⟨rfl, hsz, hP, hK⟩ := hv
  have hx := B.exec
  have hb := B.bytes
  have hr := B.returns
  have ht := fun w (hw : w ∈ gt) => atoms_spec (ws := w_C_isFull) B.pre w (List.mem_cons_of_mem _ hw)
  have hown : s.vm.findClass "StackRoom$Context" = some m.cls := findClass_of_methodNamed B.named
  have hlocks := B.notSynchronized
  have C0 : CallFix p m c b_C_isFull 1 s [.ref (ad i)].toArray gt "StackRoom$Context" := ⟨hx, hb, hml, hown, ht⟩
  have hl := lv_entry ([.ref (ad i)]) (n := 1) (Nat.le_of_ble_eq_true rfl)
  rw [lg_entry_eq]
  generalize (lg_sl ([.ref (ad i)]) ++ List.replicate (1 - (lg_sl ([.ref (ad i)])).length) Slot.unset).toArray = ls at hl ⊢
  have hl : lv_has ls 1 [(0, .ref (ad i))] := hl
  have hb9 := hI.2.2.2.2.2.2 i hi
  rcases id hi with h3 | h4
  · refine lv_aload_n hx hb d_C_isFull_0 rfl (lv_at hl 0 rfl) ?_
    refine va_get (D := D) (ci := 3) (C := "StackRoom$MethodContext") (T := T_X) (N := 7) (v := .int (nI (s_ht σ i))) hx hb ht in_X hown hK.1 (hP.one (hR.c3 h3)) 0 rfl rfl 4 (by decide) (ht _ fl_C_C_height) (fun _ h9 => h9) rfl d_C_isFull_1 ?_
    refine lv_aload_n hx hb d_C_isFull_4 rfl (lv_at hl 0 rfl) ?_
    refine va_get (D := D) (ci := 3) (C := "StackRoom$MethodContext") (T := T_X) (N := 7) (v := .ref (fa i)) hx hb ht in_X hown hK.1 (hP.one (hR.c3 h3)) 0 rfl rfl 5 (by decide) (ht _ fl_C_C_fields) (fun _ h9 => h9) rfl d_C_isFull_5 ?_
    refine va_alen (v := nI (s_rm σ i)) hx hb hK.1 (hP.one (hR.ca hi)) 0 0 rfl ht0 rfl d_C_isFull_8 ?_
    refine lv_icmp_lt (tgt := 16) hx hb d_C_isFull_9 (by decide) (fun c9 => ?_) (fun c9 => ?_)
    · refine lv_iconst (v := 0) hx hb d_C_isFull_16 (by decide) ?_
      exact W.zret (v := 0) hx hb hr rfl (fun t ht hW => ⟨_, rfl, by rw [if_neg (fun q => absurd ((nI_ltI (by omega) (by omega)).mp c9) (by omega))], ht⟩) (fun _ h => by cases h) d_C_isFull_17
    · refine lv_iconst (v := 1) hx hb d_C_isFull_12 (by decide) ?_
      refine lv_goto (tgt := 17) hx hb d_C_isFull_13 (by decide) ?_
      exact W.zret (v := 1) hx hb hr rfl (fun t ht hW => ⟨_, rfl, by rw [if_pos (Nat.not_lt.mp (fun q => c9 ((nI_ltI (by omega) (by omega)).mpr q)))], ht⟩) (fun _ h => by cases h) d_C_isFull_17
  · refine lv_aload_n hx hb d_C_isFull_0 rfl (lv_at hl 0 rfl) ?_
    refine va_get (D := D) (ci := 4) (C := "StackRoom$BlockContext") (T := T_B) (N := 8) (v := .int (nI (s_ht σ i))) hx hb ht in_B hown hK.1 (hP.one (hR.c4 h4)) 0 rfl rfl 4 (by decide) (ht _ fl_C_C_height) (fun _ h9 => h9) rfl d_C_isFull_1 ?_
    refine lv_aload_n hx hb d_C_isFull_4 rfl (lv_at hl 0 rfl) ?_
    refine va_get (D := D) (ci := 4) (C := "StackRoom$BlockContext") (T := T_B) (N := 8) (v := .ref (fa i)) hx hb ht in_B hown hK.1 (hP.one (hR.c4 h4)) 0 rfl rfl 5 (by decide) (ht _ fl_C_C_fields) (fun _ h9 => h9) rfl d_C_isFull_5 ?_
    refine va_alen (v := nI (s_rm σ i)) hx hb hK.1 (hP.one (hR.ca hi)) 0 0 rfl ht0 rfl d_C_isFull_8 ?_
    refine lv_icmp_lt (tgt := 16) hx hb d_C_isFull_9 (by decide) (fun c9 => ?_) (fun c9 => ?_)
    · refine lv_iconst (v := 0) hx hb d_C_isFull_16 (by decide) ?_
      exact W.zret (v := 0) hx hb hr rfl (fun t ht hW => ⟨_, rfl, by rw [if_neg (fun q => absurd ((nI_ltI (by omega) (by omega)).mp c9) (by omega))], ht⟩) (fun _ h => by cases h) d_C_isFull_17
    · refine lv_iconst (v := 1) hx hb d_C_isFull_12 (by decide) ?_
      refine lv_goto (tgt := 17) hx hb d_C_isFull_13 (by decide) ?_
      exact W.zret (v := 1) hx hb hr rfl (fun t ht hW => ⟨_, rfl, by rw [if_pos (Nat.not_lt.mp (fun q => c9 ((nI_ltI (by omega) (by omega)).mpr q)))], ht⟩) (fun _ h => by cases h) d_C_isFull_17
set_option maxHeartbeats 4000000 in
set_option maxRecDepth 100000 in
theorem k_C_depthNow (l : Launch) (hR : c_Rep w n rd md cV cT σ x ra rt ad fa ρ fr rr rf rc wl el cr G) {i : Nat} (hi : s_isC σ i) (hI : s_I σ) : Met l y_C_depthNow w_C_depthNow ({ frames := 1, cells := 0, slots := 0, locals := 20 }) (g_pre D tys G sz [.ref (ad i)]) (vp_Si (fun rz => rz = nI (s_ht σ i) - nI (s_fr σ i))) 0 0 (fun _ => False) := by
  refine Met.ofW (cc := b_C_depthNow) (maxL := 1) (ret := (some .int)) (by decide) rfl ?_
  intro p e s m args below meth c s₁ B hml hv
  obtain ⟨rfl, hsz, hP, hK⟩ := hv
  have hx := B.exec
  have hb := B.bytes
  have hr := B.returns
  have ht := fun w (hw : w ∈ gt) => atoms_spec (ws := w_C_depthNow) B.pre w (List.mem_cons_of_mem _ hw)
  have hown : s.vm.findClass "StackRoom$Context" = some m.cls := findClass_of_methodNamed B.named
  have hlocks := B.notSynchronized
  have C0 : CallFix p m c b_C_depthNow 1 s [.ref (ad i)].toArray gt "StackRoom$Context" := ⟨hx, hb, hml, hown, ht⟩
  have hl := lv_entry ([.ref (ad i)]) (n := 1) (Nat.le_of_ble_eq_true rfl)
  rw [lg_entry_eq]
  generalize (lg_sl ([.ref (ad i)]) ++ List.replicate (1 - (lg_sl ([.ref (ad i)])).length) Slot.unset).toArray = ls at hl ⊢
  have hl : lv_has ls 1 [(0, .ref (ad i))] := hl
  rcases id hi with h3 | h4
  · refine lv_aload_n hx hb d_C_depthNow_0 rfl (lv_at hl 0 rfl) ?_
    refine va_get (D := D) (ci := 3) (C := "StackRoom$MethodContext") (T := T_X) (N := 7) (v := .int (nI (s_ht σ i))) hx hb ht in_X hown hK.1 (hP.one (hR.c3 h3)) 0 rfl rfl 4 (by decide) (ht _ fl_C_C_height) (fun _ h9 => h9) rfl d_C_depthNow_1 ?_
    refine lv_aload_n hx hb d_C_depthNow_4 rfl (lv_at hl 0 rfl) ?_
    refine vp_callSi (va_Run.run (r_A (owner := "StackRoom$Context") (n := 0) (rest := [.int (nI (s_ht σ i))]) C0 [] (k_X_floorNow l hR h3 hI) ml_C_C_floorNow sm_C_C_floorNow se_X_C_floorNow_X im_X_floorNow ini_X co_X_floorNow (hK.2.1 _ dc_C_floorNow) (by decide +kernel) (g_preV (ci := 3) hK hP rfl (hR.c3 h3)) hl.1 d_C_depthNow_5 rfl rfl (Nat.le_of_ble_eq_true rfl) ⟨rfl, rfl⟩ ⟨Nat.le_of_ble_eq_true rfl, Nat.le_of_ble_eq_true rfl⟩ ⟨Nat.le_of_ble_eq_true rfl, Nat.le_of_ble_eq_true rfl⟩)) (fun q eq => ?_)
    refine lv_isub hx hb d_C_depthNow_8 ?_
    exact W.iret (v := ((nI (s_ht σ i)) - q)) hx hb hr (fun t ht hW => ⟨_, rfl, by rw [eq], ht⟩) (fun _ h => by cases h) d_C_depthNow_9
  · refine lv_aload_n hx hb d_C_depthNow_0 rfl (lv_at hl 0 rfl) ?_
    refine va_get (D := D) (ci := 4) (C := "StackRoom$BlockContext") (T := T_B) (N := 8) (v := .int (nI (s_ht σ i))) hx hb ht in_B hown hK.1 (hP.one (hR.c4 h4)) 0 rfl rfl 4 (by decide) (ht _ fl_C_C_height) (fun _ h9 => h9) rfl d_C_depthNow_1 ?_
    refine lv_aload_n hx hb d_C_depthNow_4 rfl (lv_at hl 0 rfl) ?_
    refine vp_callSi (va_Run.run (r_A (owner := "StackRoom$Context") (n := 0) (rest := [.int (nI (s_ht σ i))]) C0 [] (k_B_floorNow l hR h4) ml_C_C_floorNow sm_C_C_floorNow se_B_C_floorNow_B im_B_floorNow ini_B co_B_floorNow (hK.2.1 _ dc_C_floorNow) (by decide +kernel) (g_preV (ci := 4) hK hP rfl (hR.c4 h4)) hl.1 d_C_depthNow_5 rfl rfl (Nat.le_of_ble_eq_true rfl) ⟨rfl, rfl⟩ ⟨Nat.le_of_ble_eq_true rfl, Nat.le_of_ble_eq_true rfl⟩ ⟨Nat.le_of_ble_eq_true rfl, Nat.le_of_ble_eq_true rfl⟩)) (fun q eq => ?_)
    refine lv_isub hx hb d_C_depthNow_8 ?_
    exact W.iret (v := ((nI (s_ht σ i)) - q)) hx hb hr (fun t ht hW => ⟨_, rfl, by rw [eq], ht⟩) (fun _ h => by cases h) d_C_depthNow_9
set_option maxHeartbeats 4000000 in
set_option maxRecDepth 100000 in
theorem k_C_hasField (l : Launch) (hR : c_Rep w n rd md cV cT σ x ra rt ad fa ρ fr rr rf rc wl el cr G) {i : Nat} (hi : s_isC σ i) (ht0 : tys[0]? = some (cV, .object "StackRoom$Value")) (j : Int32) : Met l y_C_hasField w_C_hasField ({ frames := 0, cells := 0, slots := 0, locals := 0 }) (g_pre D tys G sz [.ref (ad i), .int j]) (vp_Si (fun rz => rz = if 0 ≤ j ∧ j < nI (s_rm σ i) then 1 else 0)) 0 0 (fun _ => False) := by
  refine Met.ofW (cc := b_C_hasField) (maxL := 2) (ret := (some .boolean)) (by decide) rfl ?_
  intro p e s m args below meth c s₁ B hml hv
  obtain ⟨rfl, hsz, hP, hK⟩ := hv
  have hx := B.exec
  have hb := B.bytes
  have hr := B.returns
  have ht := fun w (hw : w ∈ gt) => atoms_spec (ws := w_C_hasField) B.pre w (List.mem_cons_of_mem _ hw)
  have hown : s.vm.findClass "StackRoom$Context" = some m.cls := findClass_of_methodNamed B.named
  have hlocks := B.notSynchronized
  have C0 : CallFix p m c b_C_hasField 2 s [.ref (ad i), .int j].toArray gt "StackRoom$Context" := ⟨hx, hb, hml, hown, ht⟩
  have hl := lv_entry ([.ref (ad i), .int j]) (n := 2) (Nat.le_of_ble_eq_true rfl)
  rw [lg_entry_eq]
  generalize (lg_sl ([.ref (ad i), .int j]) ++ List.replicate (2 - (lg_sl ([.ref (ad i), .int j])).length) Slot.unset).toArray = ls at hl ⊢
  have hl : lv_has ls 2 [(0, .ref (ad i)), (1, .int j)] := hl
  rcases id hi with h3 | h4
  · refine lv_iload_n hx hb d_C_hasField_0 rfl (lv_at hl 1 rfl) ?_
    refine lv_if_lt (tgt := 17) hx hb d_C_hasField_1 (by decide) (fun c1 => ?_) (fun c1 => ?_)
    · refine lv_iconst (v := 0) hx hb d_C_hasField_17 (by decide) ?_
      exact W.zret (v := 0) hx hb hr rfl (fun t ht hW => ⟨_, rfl, by rw [if_neg (fun q => absurd q.1 (Int32.not_le.mpr c1))], ht⟩) (fun _ h => by cases h) d_C_hasField_18
    · refine lv_iload_n hx hb d_C_hasField_4 rfl (lv_at hl 1 rfl) ?_
      refine lv_aload_n hx hb d_C_hasField_5 rfl (lv_at hl 0 rfl) ?_
      refine va_get (D := D) (ci := 3) (C := "StackRoom$MethodContext") (T := T_X) (N := 7) (v := .ref (fa i)) hx hb ht in_X hown hK.1 (hP.one (hR.c3 h3)) 0 rfl rfl 5 (by decide) (ht _ fl_C_C_fields) (fun _ h9 => h9) rfl d_C_hasField_6 ?_
      refine va_alen (v := nI (s_rm σ i)) hx hb hK.1 (hP.one (hR.ca hi)) 0 0 rfl ht0 rfl d_C_hasField_9 ?_
      refine lv_icmp_ge (tgt := 17) hx hb d_C_hasField_10 (by decide) (fun c10 => ?_) (fun c10 => ?_)
      · refine lv_iconst (v := 0) hx hb d_C_hasField_17 (by decide) ?_
        exact W.zret (v := 0) hx hb hr rfl (fun t ht hW => ⟨_, rfl, by rw [if_neg (fun q => absurd q.2 (Int32.not_lt.mpr c10))], ht⟩) (fun _ h => by cases h) d_C_hasField_18
      · refine lv_iconst (v := 1) hx hb d_C_hasField_13 (by decide) ?_
        refine lv_goto (tgt := 18) hx hb d_C_hasField_14 (by decide) ?_
        exact W.zret (v := 1) hx hb hr rfl (fun t ht hW => ⟨_, rfl, by rw [if_pos ⟨Int32.not_lt.mp c1, Int32.not_le.mp c10⟩], ht⟩) (fun _ h => by cases h) d_C_hasField_18
  · refine lv_iload_n hx hb d_C_hasField_0 rfl (lv_at hl 1 rfl) ?_
    refine lv_if_lt (tgt := 17) hx hb d_C_hasField_1 (by decide) (fun c1 => ?_) (fun c1 => ?_)
    · refine lv_iconst (v := 0) hx hb d_C_hasField_17 (by decide) ?_
      exact W.zret (v := 0) hx hb hr rfl (fun t ht hW => ⟨_, rfl, by rw [if_neg (fun q => absurd q.1 (Int32.not_le.mpr c1))], ht⟩) (fun _ h => by cases h) d_C_hasField_18
    · refine lv_iload_n hx hb d_C_hasField_4 rfl (lv_at hl 1 rfl) ?_
      refine lv_aload_n hx hb d_C_hasField_5 rfl (lv_at hl 0 rfl) ?_
      refine va_get (D := D) (ci := 4) (C := "StackRoom$BlockContext") (T := T_B) (N := 8) (v := .ref (fa i)) hx hb ht in_B hown hK.1 (hP.one (hR.c4 h4)) 0 rfl rfl 5 (by decide) (ht _ fl_C_C_fields) (fun _ h9 => h9) rfl d_C_hasField_6 ?_
      refine va_alen (v := nI (s_rm σ i)) hx hb hK.1 (hP.one (hR.ca hi)) 0 0 rfl ht0 rfl d_C_hasField_9 ?_
      refine lv_icmp_ge (tgt := 17) hx hb d_C_hasField_10 (by decide) (fun c10 => ?_) (fun c10 => ?_)
      · refine lv_iconst (v := 0) hx hb d_C_hasField_17 (by decide) ?_
        exact W.zret (v := 0) hx hb hr rfl (fun t ht hW => ⟨_, rfl, by rw [if_neg (fun q => absurd q.2 (Int32.not_lt.mpr c10))], ht⟩) (fun _ h => by cases h) d_C_hasField_18
      · refine lv_iconst (v := 1) hx hb d_C_hasField_13 (by decide) ?_
        refine lv_goto (tgt := 18) hx hb d_C_hasField_14 (by decide) ?_
        exact W.zret (v := 1) hx hb hr rfl (fun t ht hW => ⟨_, rfl, by rw [if_pos ⟨Int32.not_lt.mp c1, Int32.not_le.mp c10⟩], ht⟩) (fun _ h => by cases h) d_C_hasField_18
theorem c_in {j : Int32} {k : Nat} (h : 0 ≤ j ∧ j < nI k) (hk : k < 2 ^ 31) : vp_in j k := by
  obtain ⟨q, hq, rfl⟩ := nI_of (x := j) (fun z => absurd h.1 (Int32.not_le.mpr z))
  exact vp_in_nI ((nI_ltI hq hk).mp h.2) hk
section QR
variable {p : Program} {l : Launch} {e : Env} {R : Room} {s : State} {m : MethodId} {args : Array Value} {below : List Frame} {meth : Method} {c : Code} {H : Heap} {locs : List Loc} {cells slots : Nat}
theorem q_aret {cc : ByteArray} {Qc : Array Value → State → Outcome → State → Prop} {free : Addr → Prop} {v : Option Nat} {rt : FieldType} (hexec : p.tables.exec = Jvm.exec) (hb : c.code = cc) (hr : meth.sig.returnType = some rt) (hrt : (∃ n, rt = .object n) ∨ ∃ t, rt = .array t)
    (hq : ∀ t : State, t.heap = H → s.WarmedH t.vm → Qc args s (.returned (some (va_rf v))) t) (hf : ∀ q ∈ locs, free q.base)
    {pc : Nat} {ls : Array Slot} (hdg : decode cc pc = .ok (.areturn, 1)) (hlocks : meth.locks = false := by assumption) : W p l e R s m args below meth c H locs cells slots (MQ below Qc args s cells slots free) (F0 m pc ls [va_rf v]) :=
  W.aret hexec hb hr hrt (va_rf_or v) hq hf hdg hlocks
end QR
set_option maxHeartbeats 4000000 in
set_option maxRecDepth 100000 in
theorem k_C_fieldAt (l : Launch) (hR : c_Rep w n rd md cV cT σ x ra rt ad fa ρ fr rr rf rc wl el cr G) {i : Nat} (hi : s_isC σ i) (hI : s_I σ) (ht0 : tys[0]? = some (cV, .object "StackRoom$Value")) (j : Int32) : Met l y_C_fieldAt w_C_fieldAt ({ frames := 1, cells := 0, slots := 0, locals := 21 }) (g_pre D tys G sz [.ref (ad i), .int j]) (va_Sq (fun rz => rz = if 0 ≤ j ∧ j < nI (s_rm σ i) then fr i j.toNatClampNeg else none)) 0 0 (fun _ => False) := by
  refine Met.ofW (cc := b_C_fieldAt) (maxL := 2) (ret := (some (.object "StackRoom$Value"))) (by decide) rfl ?_
  intro p e s m args below meth c s₁ B hml hv
  obtain ⟨rfl, hsz, hP, hK⟩ := hv
  have hx := B.exec
  have hb := B.bytes
  have hr := B.returns
  have ht := fun w (hw : w ∈ gt) => atoms_spec (ws := w_C_fieldAt) B.pre w (List.mem_cons_of_mem _ hw)
  have hown : s.vm.findClass "StackRoom$Context" = some m.cls := findClass_of_methodNamed B.named
  have hlocks := B.notSynchronized
  have C0 : CallFix p m c b_C_fieldAt 2 s [.ref (ad i), .int j].toArray gt "StackRoom$Context" := ⟨hx, hb, hml, hown, ht⟩
  have hl := lv_entry ([.ref (ad i), .int j]) (n := 2) (Nat.le_of_ble_eq_true rfl)
  rw [lg_entry_eq]
  generalize (lg_sl ([.ref (ad i), .int j]) ++ List.replicate (2 - (lg_sl ([.ref (ad i), .int j])).length) Slot.unset).toArray = ls at hl ⊢
  have hl : lv_has ls 2 [(0, .ref (ad i)), (1, .int j)] := hl
  rcases id hi with h3 | h4
  · refine lv_aload_n hx hb d_C_fieldAt_0 rfl (lv_at hl 0 rfl) ?_
    refine lv_iload_n hx hb d_C_fieldAt_1 rfl (lv_at hl 1 rfl) ?_
    refine vp_callSi (va_Run.run (r_U (owner := "StackRoom$Context") (n := 1) (rest := []) C0 [.int j] (k_C_hasField l hR hi ht0 j) ml_C_C_hasField sm_C_C_hasField se_X_C_hasField_C im_C_hasField ini_C co_C_hasField rfl (by decide +kernel) (g_preV (ci := 3) hK hP rfl (hR.c3 h3)) hl.1 d_C_fieldAt_2 rfl rfl (Nat.le_of_ble_eq_true rfl) ⟨rfl, rfl⟩ ⟨Nat.le_of_ble_eq_true rfl, Nat.le_of_ble_eq_true rfl⟩ ⟨Nat.le_of_ble_eq_true rfl, Nat.le_of_ble_eq_true rfl⟩)) (fun q eq => ?_)
    refine lv_if_eq (tgt := 17) hx hb d_C_fieldAt_5 (by decide) (fun c5 => ?_) (fun c5 => ?_)
    · refine lv_null hx hb d_C_fieldAt_17 ?_
      exact W.aret (v := .null) (rt := .object "StackRoom$Value") hx hb hr (Or.inl ⟨_, rfl⟩) (Or.inl rfl) (fun t ht hW => ⟨none, rfl, by rw [if_neg (fun z => absurd (eq.symm.trans c5) (by rw [if_pos z]; decide))], ht⟩) (fun _ h => by cases h) d_C_fieldAt_18
    · have hj : 0 ≤ j ∧ j < nI (s_rm σ i) := Decidable.byContradiction (fun h => c5 (eq.trans (if_neg h)))
      have hjin : vp_in j (s_rm σ i) := c_in hj (by have := (hI.2.2.2.2.2.2 i hi).2.2.1; omega)
      refine lv_aload_n hx hb d_C_fieldAt_8 rfl (lv_at hl 0 rfl) ?_
      refine va_get (D := D) (ci := 3) (C := "StackRoom$MethodContext") (T := T_X) (N := 7) (v := .ref (fa i)) hx hb ht in_X hown hK.1 (hP.one (hR.c3 h3)) 0 rfl rfl 5 (by decide) (ht _ fl_C_C_fields) (fun _ h9 => h9) rfl d_C_fieldAt_9 ?_
      refine lv_iload_n hx hb d_C_fieldAt_12 rfl (lv_at hl 1 rfl) ?_
      refine va_aldq (C := "StackRoom$Value") hx hb hK.1 (hP.one (hR.ca hi)) 0 0 rfl ht0 hjin d_C_fieldAt_13 ?_
      refine lv_goto (tgt := 18) hx hb d_C_fieldAt_14 (by decide) ?_
      rw [if_pos hj]
      exact q_aret (rt := .object "StackRoom$Value") hx hb hr (Or.inl ⟨_, rfl⟩) (fun t ht hW => ⟨_, rfl, rfl, ht⟩) (fun _ h => by cases h) d_C_fieldAt_18
  · refine lv_aload_n hx hb d_C_fieldAt_0 rfl (lv_at hl 0 rfl) ?_
    refine lv_iload_n hx hb d_C_fieldAt_1 rfl (lv_at hl 1 rfl) ?_
    refine vp_callSi (va_Run.run (r_U (owner := "StackRoom$Context") (n := 1) (rest := []) C0 [.int j] (k_C_hasField l hR hi ht0 j) ml_C_C_hasField sm_C_C_hasField se_B_C_hasField_C im_C_hasField ini_C co_C_hasField rfl (by decide +kernel) (g_preV (ci := 4) hK hP rfl (hR.c4 h4)) hl.1 d_C_fieldAt_2 rfl rfl (Nat.le_of_ble_eq_true rfl) ⟨rfl, rfl⟩ ⟨Nat.le_of_ble_eq_true rfl, Nat.le_of_ble_eq_true rfl⟩ ⟨Nat.le_of_ble_eq_true rfl, Nat.le_of_ble_eq_true rfl⟩)) (fun q eq => ?_)
    refine lv_if_eq (tgt := 17) hx hb d_C_fieldAt_5 (by decide) (fun c5 => ?_) (fun c5 => ?_)
    · refine lv_null hx hb d_C_fieldAt_17 ?_
      exact W.aret (v := .null) (rt := .object "StackRoom$Value") hx hb hr (Or.inl ⟨_, rfl⟩) (Or.inl rfl) (fun t ht hW => ⟨none, rfl, by rw [if_neg (fun z => absurd (eq.symm.trans c5) (by rw [if_pos z]; decide))], ht⟩) (fun _ h => by cases h) d_C_fieldAt_18
    · have hj : 0 ≤ j ∧ j < nI (s_rm σ i) := Decidable.byContradiction (fun h => c5 (eq.trans (if_neg h)))
      have hjin : vp_in j (s_rm σ i) := c_in hj (by have := (hI.2.2.2.2.2.2 i hi).2.2.1; omega)
      refine lv_aload_n hx hb d_C_fieldAt_8 rfl (lv_at hl 0 rfl) ?_
      refine va_get (D := D) (ci := 4) (C := "StackRoom$BlockContext") (T := T_B) (N := 8) (v := .ref (fa i)) hx hb ht in_B hown hK.1 (hP.one (hR.c4 h4)) 0 rfl rfl 5 (by decide) (ht _ fl_C_C_fields) (fun _ h9 => h9) rfl d_C_fieldAt_9 ?_
      refine lv_iload_n hx hb d_C_fieldAt_12 rfl (lv_at hl 1 rfl) ?_
      refine va_aldq (C := "StackRoom$Value") hx hb hK.1 (hP.one (hR.ca hi)) 0 0 rfl ht0 hjin d_C_fieldAt_13 ?_
      refine lv_goto (tgt := 18) hx hb d_C_fieldAt_14 (by decide) ?_
      rw [if_pos hj]
      exact q_aret (rt := .object "StackRoom$Value") hx hb hr (Or.inl ⟨_, rfl⟩) (fun t ht hW => ⟨_, rfl, rfl, ht⟩) (fun _ h => by cases h) d_C_fieldAt_18
set_option maxHeartbeats 4000000 in
set_option maxRecDepth 100000 in
theorem k_X_hasTemporary (l : Launch) (hR : c_Rep w n rd md cV cT σ x ra rt ad fa ρ fr rr rf rc wl el cr G) {i : Nat} (hi : s_kd σ i = 3) (hI : s_I σ) (ht0 : tys[0]? = some (cV, .object "StackRoom$Value")) (j : Int32) : Met l y_X_hasTemporary w_X_hasTemporary ({ frames := 1, cells := 0, slots := 0, locals := 21 }) (g_pre D tys G sz [.ref (ad i), .int j]) (vp_Si (fun rz => rz = if j < nI (s_tt σ (s_og σ i)) ∧ 0 ≤ j ∧ j < nI (s_rm σ i) then 1 else 0)) 0 0 (fun _ => False) := by
  refine Met.ofW (cc := b_X_hasTemporary) (maxL := 2) (ret := (some .boolean)) (by decide) rfl ?_
  intro p e s m args below meth c s₁ B hml hv
  obtain ⟨rfl, hsz, hP, hK⟩ := hv
  have hx := B.exec
  have hb := B.bytes
  have hr := B.returns
  have ht := fun w (hw : w ∈ gt) => atoms_spec (ws := w_X_hasTemporary) B.pre w (List.mem_cons_of_mem _ hw)
  have hown : s.vm.findClass "StackRoom$MethodContext" = some m.cls := findClass_of_methodNamed B.named
  have hlocks := B.notSynchronized
  have C0 : CallFix p m c b_X_hasTemporary 2 s [.ref (ad i), .int j].toArray gt "StackRoom$MethodContext" := ⟨hx, hb, hml, hown, ht⟩
  have hl := lv_entry ([.ref (ad i), .int j]) (n := 2) (Nat.le_of_ble_eq_true rfl)
  rw [lg_entry_eq]
  generalize (lg_sl ([.ref (ad i), .int j]) ++ List.replicate (2 - (lg_sl ([.ref (ad i), .int j])).length) Slot.unset).toArray = ls at hl ⊢
  have hl : lv_has ls 2 [(0, .ref (ad i)), (1, .int j)] := hl
  refine lv_iload_n hx hb d_X_hasTemporary_0 rfl (lv_at hl 1 rfl) ?_
  refine lv_aload_n hx hb d_X_hasTemporary_1 rfl (lv_at hl 0 rfl) ?_
  refine va_get (D := D) (ci := 3) (C := "StackRoom$MethodContext") (T := T_X) (N := 7) (v := .ref (ad (s_og σ i))) hx hb ht in_X hown hK.1 (hP.one (hR.c3 hi)) 0 rfl rfl 6 (by decide) (ht _ fl_X_X_method) (fun _ h9 => h9) rfl d_X_hasTemporary_2 ?_
  refine va_getN (D := D) (ci := 2) (C := "StackRoom$Method") (T := T_M) (N := 4) (v := .int (nI (s_tt σ (s_og σ i)))) hx hb ht in_M hown hK.1 (hP.one (hR.c2 (hI.2.2.2.2.1 i hi))) 0 rfl rfl 2 (by decide) (va_Nw.use rfl (hK.2.1 _ fn_X_M_temporaries)) (fun _ h9 => h9) rfl d_X_hasTemporary_5 ?_
  refine lv_icmp_ge (tgt := 23) hx hb d_X_hasTemporary_8 (by decide) (fun c8 => ?_) (fun c8 => ?_)
  · refine lv_iconst (v := 0) hx hb d_X_hasTemporary_23 (by decide) ?_
    exact W.zret (v := 0) hx hb hr rfl (fun t ht hW => ⟨_, rfl, by rw [if_neg (fun q => absurd q.1 (Int32.not_lt.mpr c8))], ht⟩) (fun _ h => by cases h) d_X_hasTemporary_24
  · refine lv_aload_n hx hb d_X_hasTemporary_11 rfl (lv_at hl 0 rfl) ?_
    refine lv_iload_n hx hb d_X_hasTemporary_12 rfl (lv_at hl 1 rfl) ?_
    refine vp_callSi (va_Run.run (r_U (owner := "StackRoom$Context") (n := 1) (rest := []) C0 [.int j] (k_C_hasField l hR (Or.inl hi) ht0 j) ml_X_X_hasField sm_X_C_hasField se_X_X_hasField_C im_C_hasField ini_C co_C_hasField rfl (by decide +kernel) (g_preV (ci := 3) hK hP rfl (hR.c3 hi)) hl.1 d_X_hasTemporary_13 rfl rfl (Nat.le_of_ble_eq_true rfl) ⟨rfl, rfl⟩ ⟨Nat.le_of_ble_eq_true rfl, Nat.le_of_ble_eq_true rfl⟩ ⟨Nat.le_of_ble_eq_true rfl, Nat.le_of_ble_eq_true rfl⟩)) (fun q eq => ?_)
    refine lv_if_eq (tgt := 23) hx hb d_X_hasTemporary_16 (by decide) (fun c16 => ?_) (fun c16 => ?_)
    · refine lv_iconst (v := 0) hx hb d_X_hasTemporary_23 (by decide) ?_
      exact W.zret (v := 0) hx hb hr rfl (fun t ht hW => ⟨_, rfl, by rw [if_neg (fun z => absurd (eq.symm.trans c16) (by rw [if_pos z.2]; decide))], ht⟩) (fun _ h => by cases h) d_X_hasTemporary_24
    · refine lv_iconst (v := 1) hx hb d_X_hasTemporary_19 (by decide) ?_
      refine lv_goto (tgt := 24) hx hb d_X_hasTemporary_20 (by decide) ?_
      exact W.zret (v := 1) hx hb hr rfl (fun t ht hW => ⟨_, rfl, by rw [if_pos ⟨Int32.not_le.mp c8, Decidable.byContradiction (fun h => c16 (eq.trans (if_neg h)))⟩], ht⟩) (fun _ h => by cases h) d_X_hasTemporary_24
end K11
