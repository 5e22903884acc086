section K13
variable {cV : ClassId} {G : gw_G} {D : va_G} {tys : List (ClassId × FieldType)} {sz : Nat}
set_option maxHeartbeats 4000000 in
set_option maxRecDepth 100000 in
theorem k_V_init (l : Launch) (a : Nat) : Met l y_V_init w_V_init ({ frames := 1, cells := 0, slots := 0, locals := 20 }) (va_Pc [.ref a] (fun _ => True)) (va_Sv (fun _ => True)) 0 0 (fun _ => False) := by
  refine Met.ofW (cc := b_V_init) (maxL := 1) (ret := none) (by decide) rfl ?_
  intro p e s m args below meth c s₁ B hml hv
  obtain ⟨rfl, -⟩ := hv
  have hx := B.exec
  have hb := B.bytes
  have hr := B.returns
  have ht := fun w (hw : w ∈ gt) => atoms_spec (ws := w_V_init) B.pre w (List.mem_cons_of_mem _ hw)
  have hown : s.vm.findClass "StackRoom$Value" = some m.cls := findClass_of_methodNamed B.named
  have hlocks := B.notSynchronized
  have C0 : CallFix p m c b_V_init 1 s [.ref a].toArray gt "StackRoom$Value" := ⟨hx, hb, hml, hown, ht⟩
  have hl := lv_entry ([.ref a]) (n := 1) (Nat.le_of_ble_eq_true rfl)
  rw [lg_entry_eq]
  generalize (lg_sl ([.ref a]) ++ List.replicate (1 - (lg_sl ([.ref a])).length) Slot.unset).toArray = ls at hl ⊢
  have hl : lv_has ls 1 [(0, .ref a)] := hl
  refine lv_aload_n hx hb d_V_init_0 rfl (lv_at hl 0 rfl) ?_
  refine W.objInit hx hb hown (ht _ ml_V_O_init) (ht _ im_O_init) (ht _ co_O_init) rfl (by rw [hml]; exact hl.1) rfl d_V_init_1 (Nat.le_of_ble_eq_true rfl) (Nat.le_of_ble_eq_true rfl) ?_
  refine W.eq (g2 := F0 m 4 ls []) rfl ?_
  exact W.vret hx hb hr (fun t ht hW => ⟨rfl, trivial, ht⟩) (fun _ h => by cases h) d_V_init_4
set_option maxHeartbeats 4000000 in
set_option maxRecDepth 100000 in
theorem k_W_init (l : Launch) {a : Nat} {z : Int32} (ha : G a = some (.inr (kW, [.int z]))) (v : Int32) : Met l y_W_init w_W_init ({ frames := 2, cells := 0, slots := 0, locals := 40 }) (g_pre D tys G sz [.ref a, .int v]) (va_Qv (fun G1 : gw_G => G1 = va_up G a (some (.inr (kW, [.int v])))) (g_end D G sz) (gw_A G sz)) 0 0 (gw_A G sz) := by
  refine Met.ofW (cc := b_W_init) (maxL := 2) (ret := none) (by decide) rfl ?_
  intro p e s m args below meth c s₁ B hml hv
  obtain ⟨rfl, hsz, hP, hK⟩ := hv
  have hx := B.exec
  have hb := B.bytes
  have hr := B.returns
  have ht := fun w (hw : w ∈ gt) => atoms_spec (ws := w_W_init) B.pre w (List.mem_cons_of_mem _ hw)
  have hown : s.vm.findClass "StackRoom$Whole" = some m.cls := findClass_of_methodNamed B.named
  have hlocks := B.notSynchronized
  have hin : meth.name = "<init>" := (name_of_methodNamed B.named B.method).1
  have C0 : CallFix p m c b_W_init 2 s [.ref a, .int v].toArray gt "StackRoom$Whole" := ⟨hx, hb, hml, hown, ht⟩
  subst hsz
  have hP := hP.self (sz := s.heap.size)
  have hA : ∀ q : Nat, s.heap.size ≤ q → gw_A G s.heap.size q := fun q h => Or.inr h
  have hS : va_S (gw_A G s.heap.size) s.heap s.heap [] := va_S.rf
  have hl := lv_entry ([.ref a, .int v]) (n := 2) (Nat.le_of_ble_eq_true rfl)
  rw [lg_entry_eq]
  generalize (lg_sl ([.ref a, .int v]) ++ List.replicate (2 - (lg_sl ([.ref a, .int v])).length) Slot.unset).toArray = ls at hl ⊢
  have hl : lv_has ls 2 [(0, .ref a), (1, .int v)] := hl
  refine lv_aload_n hx hb d_W_init_0 rfl (lv_at hl 0 rfl) ?_
  refine va_csv (va_Run.run (r_IN (rest := []) C0 [] (k_V_init l a) (hK.2.1 _ mn_W_V_init) im_V_init ini_V co_V_init rfl hd_V_init v_preS hl.1 d_W_init_1 rfl rfl (Nat.le_of_ble_eq_true rfl) ⟨rfl, rfl⟩ ⟨Nat.le_of_ble_eq_true rfl, Nat.le_of_ble_eq_true rfl⟩ ⟨Nat.le_of_ble_eq_true rfl, Nat.le_of_ble_eq_true rfl⟩)) (fun _ => ?_)
  refine lv_aload_n hx hb d_W_init_4 rfl (lv_at hl 0 rfl) ?_
  refine lv_iload_n hx hb d_W_init_5 rfl (lv_at hl 1 rfl) ?_
  refine gw_putF (D := D) (cl := vwCl) (ci := 1) (C := "StackRoom$Whole") (T := T_W) (N := 1) (v := .int v) (ty := .int) hx hb ht in_W ty_W tk_W nm_W hown hK.1 hP hS ha rfl 0 (by decide) (ht _ fl_W_W_amount) (fun _ h9 => h9) rfl hin rfl (by decide +kernel) rfl rfl (Nat.le_of_ble_eq_true rfl) d_W_init_6 (fun H locs hP hS => ?_)
  obtain ⟨G1, eG1⟩ : ∃ z : gw_G, z = va_up G a (some (.inr (1, [.int v]))) := ⟨_, rfl⟩
  have hP : gw_P D vwCl (gw_A G s.heap.size) G1 H := by rw [eG1]; exact hP
  have f1 : G1 a = some (.inr (1, [.int v])) := by rw [eG1]; exact va_up_self _ _ _
  exact W.vret hx hb hr (fun t ht hW => ⟨⟨G1, rfl, eG1, g_fin ht hP⟩, hS.F ht⟩) hS.2.2 d_W_init_9
set_option maxHeartbeats 4000000 in
set_option maxRecDepth 100000 in
theorem k_T_init_M (l : Launch) {a : Nat} {z : Int32} (ha : G a = some (.inr (2, [.int z, .int 0, .int 0, .int 0]))) (v : Int32) : Met l y_T_init w_T_init ({ frames := 2, cells := 0, slots := 0, locals := 40 }) (g_pre D tys G sz [.ref a, .int v]) (va_Qv (fun G1 : gw_G => G1 = va_up G a (some (.inr (2, [.int v, .int 0, .int 0, .int 0])))) (g_end D G sz) (gw_A G sz)) 0 0 (gw_A G sz) := by
  refine Met.ofW (cc := b_T_init) (maxL := 2) (ret := none) (by decide) rfl ?_
  intro p e s m args below meth c s₁ B hml hv
  obtain ⟨rfl, hsz, hP, hK⟩ := hv
  have hx := B.exec
  have hb := B.bytes
  have hr := B.returns
  have ht := fun w (hw : w ∈ gt) => atoms_spec (ws := w_T_init) B.pre w (List.mem_cons_of_mem _ hw)
  have hown : s.vm.findClass "StackRoom$Thing" = some m.cls := findClass_of_methodNamed B.named
  have hlocks := B.notSynchronized
  have hin : meth.name = "<init>" := (name_of_methodNamed B.named B.method).1
  have C0 : CallFix p m c b_T_init 2 s [.ref a, .int v].toArray gt "StackRoom$Thing" := ⟨hx, hb, hml, hown, ht⟩
  subst hsz
  have hP := hP.self (sz := s.heap.size)
  have hA : ∀ q : Nat, s.heap.size ≤ q → gw_A G s.heap.size q := fun q h => Or.inr h
  have hS : va_S (gw_A G s.heap.size) s.heap s.heap [] := va_S.rf
  have hl := lv_entry ([.ref a, .int v]) (n := 2) (Nat.le_of_ble_eq_true rfl)
  rw [lg_entry_eq]
  generalize (lg_sl ([.ref a, .int v]) ++ List.replicate (2 - (lg_sl ([.ref a, .int v])).length) Slot.unset).toArray = ls at hl ⊢
  have hl : lv_has ls 2 [(0, .ref a), (1, .int v)] := hl
  refine lv_aload_n hx hb d_T_init_0 rfl (lv_at hl 0 rfl) ?_
  refine va_csv (va_Run.run (r_IN (rest := []) C0 [] (k_V_init l a) (hK.2.1 _ mn_T_V_init) im_V_init ini_V co_V_init rfl hd_V_init v_preS hl.1 d_T_init_1 rfl rfl (Nat.le_of_ble_eq_true rfl) ⟨rfl, rfl⟩ ⟨Nat.le_of_ble_eq_true rfl, Nat.le_of_ble_eq_true rfl⟩ ⟨Nat.le_of_ble_eq_true rfl, Nat.le_of_ble_eq_true rfl⟩)) (fun _ => ?_)
  refine lv_aload_n hx hb d_T_init_4 rfl (lv_at hl 0 rfl) ?_
  refine lv_iload_n hx hb d_T_init_5 rfl (lv_at hl 1 rfl) ?_
  refine gw_putF (D := D) (cl := vwCl) (ci := 2) (C := "StackRoom$Method") (T := T_M) (N := 4) (v := .int v) (ty := .int) hx hb ht in_M ty_M tk_M nm_M hown hK.1 hP hS ha rfl 0 (by decide) (ht _ fl_T_T_identity) (fun _ h9 => h9) rfl hin rfl (by decide +kernel) rfl rfl (Nat.le_of_ble_eq_true rfl) d_T_init_6 (fun H locs hP hS => ?_)
  obtain ⟨G1, eG1⟩ : ∃ z : gw_G, z = va_up G a (some (.inr (2, [.int v, .int 0, .int 0, .int 0]))) := ⟨_, rfl⟩
  have hP : gw_P D vwCl (gw_A G s.heap.size) G1 H := by rw [eG1]; exact hP
  have f1 : G1 a = some (.inr (2, [.int v, .int 0, .int 0, .int 0])) := by rw [eG1]; exact va_up_self _ _ _
  exact W.vret hx hb hr (fun t ht hW => ⟨⟨G1, rfl, eG1, g_fin ht hP⟩, hS.F ht⟩) hS.2.2 d_T_init_9
set_option maxHeartbeats 4000000 in
set_option maxRecDepth 100000 in
theorem k_T_init_X (l : Launch) {a : Nat} {z : Int32} (ha : G a = some (.inr (3, [.int z, .int 0, .null, .int 0, .int 0, .null, .null]))) (v : Int32) : Met l y_T_init w_T_init ({ frames := 2, cells := 0, slots := 0, locals := 40 }) (g_pre D tys G sz [.ref a, .int v]) (va_Qv (fun G1 : gw_G => G1 = va_up G a (some (.inr (3, [.int v, .int 0, .null, .int 0, .int 0, .null, .null])))) (g_end D G sz) (gw_A G sz)) 0 0 (gw_A G sz) := by
  refine Met.ofW (cc := b_T_init) (maxL := 2) (ret := none) (by decide) rfl ?_
  intro p e s m args below meth c s₁ B hml hv
  obtain ⟨rfl, hsz, hP, hK⟩ := hv
  have hx := B.exec
  have hb := B.bytes
  have hr := B.returns
  have ht := fun w (hw : w ∈ gt) => atoms_spec (ws := w_T_init) B.pre w (List.mem_cons_of_mem _ hw)
  have hown : s.vm.findClass "StackRoom$Thing" = some m.cls := findClass_of_methodNamed B.named
  have hlocks := B.notSynchronized
  have hin : meth.name = "<init>" := (name_of_methodNamed B.named B.method).1
  have C0 : CallFix p m c b_T_init 2 s [.ref a, .int v].toArray gt "StackRoom$Thing" := ⟨hx, hb, hml, hown, ht⟩
  subst hsz
  have hP := hP.self (sz := s.heap.size)
  have hA : ∀ q : Nat, s.heap.size ≤ q → gw_A G s.heap.size q := fun q h => Or.inr h
  have hS : va_S (gw_A G s.heap.size) s.heap s.heap [] := va_S.rf
  have hl := lv_entry ([.ref a, .int v]) (n := 2) (Nat.le_of_ble_eq_true rfl)
  rw [lg_entry_eq]
  generalize (lg_sl ([.ref a, .int v]) ++ List.replicate (2 - (lg_sl ([.ref a, .int v])).length) Slot.unset).toArray = ls at hl ⊢
  have hl : lv_has ls 2 [(0, .ref a), (1, .int v)] := hl
  refine lv_aload_n hx hb d_T_init_0 rfl (lv_at hl 0 rfl) ?_
  refine va_csv (va_Run.run (r_IN (rest := []) C0 [] (k_V_init l a) (hK.2.1 _ mn_T_V_init) im_V_init ini_V co_V_init rfl hd_V_init v_preS hl.1 d_T_init_1 rfl rfl (Nat.le_of_ble_eq_true rfl) ⟨rfl, rfl⟩ ⟨Nat.le_of_ble_eq_true rfl, Nat.le_of_ble_eq_true rfl⟩ ⟨Nat.le_of_ble_eq_true rfl, Nat.le_of_ble_eq_true rfl⟩)) (fun _ => ?_)
  refine lv_aload_n hx hb d_T_init_4 rfl (lv_at hl 0 rfl) ?_
  refine lv_iload_n hx hb d_T_init_5 rfl (lv_at hl 1 rfl) ?_
  refine gw_putF (D := D) (cl := vwCl) (ci := 3) (C := "StackRoom$MethodContext") (T := T_X) (N := 7) (v := .int v) (ty := .int) hx hb ht in_X ty_X tk_X nm_X hown hK.1 hP hS ha rfl 0 (by decide) (ht _ fl_T_T_identity) (fun _ h9 => h9) rfl hin rfl (by decide +kernel) rfl rfl (Nat.le_of_ble_eq_true rfl) d_T_init_6 (fun H locs hP hS => ?_)
  obtain ⟨G1, eG1⟩ : ∃ z : gw_G, z = va_up G a (some (.inr (3, [.int v, .int 0, .null, .int 0, .int 0, .null, .null]))) := ⟨_, rfl⟩
  have hP : gw_P D vwCl (gw_A G s.heap.size) G1 H := by rw [eG1]; exact hP
  have f1 : G1 a = some (.inr (3, [.int v, .int 0, .null, .int 0, .int 0, .null, .null])) := by rw [eG1]; exact va_up_self _ _ _
  exact W.vret hx hb hr (fun t ht hW => ⟨⟨G1, rfl, eG1, g_fin ht hP⟩, hS.F ht⟩) hS.2.2 d_T_init_9
set_option maxHeartbeats 4000000 in
set_option maxRecDepth 100000 in
theorem k_T_init_B (l : Launch) {a : Nat} {z : Int32} (ha : G a = some (.inr (4, [.int z, .int 0, .null, .int 0, .int 0, .null, .null, .int 0]))) (v : Int32) : Met l y_T_init w_T_init ({ frames := 2, cells := 0, slots := 0, locals := 40 }) (g_pre D tys G sz [.ref a, .int v]) (va_Qv (fun G1 : gw_G => G1 = va_up G a (some (.inr (4, [.int v, .int 0, .null, .int 0, .int 0, .null, .null, .int 0])))) (g_end D G sz) (gw_A G sz)) 0 0 (gw_A G sz) := by
  refine Met.ofW (cc := b_T_init) (maxL := 2) (ret := none) (by decide) rfl ?_
  intro p e s m args below meth c s₁ B hml hv
  obtain ⟨rfl, hsz, hP, hK⟩ := hv
  have hx := B.exec
  have hb := B.bytes
  have hr := B.returns
  have ht := fun w (hw : w ∈ gt) => atoms_spec (ws := w_T_init) B.pre w (List.mem_cons_of_mem _ hw)
  have hown : s.vm.findClass "StackRoom$Thing" = some m.cls := findClass_of_methodNamed B.named
  have hlocks := B.notSynchronized
  have hin : meth.name = "<init>" := (name_of_methodNamed B.named B.method).1
  have C0 : CallFix p m c b_T_init 2 s [.ref a, .int v].toArray gt "StackRoom$Thing" := ⟨hx, hb, hml, hown, ht⟩
  subst hsz
  have hP := hP.self (sz := s.heap.size)
  have hA : ∀ q : Nat, s.heap.size ≤ q → gw_A G s.heap.size q := fun q h => Or.inr h
  have hS : va_S (gw_A G s.heap.size) s.heap s.heap [] := va_S.rf
  have hl := lv_entry ([.ref a, .int v]) (n := 2) (Nat.le_of_ble_eq_true rfl)
  rw [lg_entry_eq]
  generalize (lg_sl ([.ref a, .int v]) ++ List.replicate (2 - (lg_sl ([.ref a, .int v])).length) Slot.unset).toArray = ls at hl ⊢
  have hl : lv_has ls 2 [(0, .ref a), (1, .int v)] := hl
  refine lv_aload_n hx hb d_T_init_0 rfl (lv_at hl 0 rfl) ?_
  refine va_csv (va_Run.run (r_IN (rest := []) C0 [] (k_V_init l a) (hK.2.1 _ mn_T_V_init) im_V_init ini_V co_V_init rfl hd_V_init v_preS hl.1 d_T_init_1 rfl rfl (Nat.le_of_ble_eq_true rfl) ⟨rfl, rfl⟩ ⟨Nat.le_of_ble_eq_true rfl, Nat.le_of_ble_eq_true rfl⟩ ⟨Nat.le_of_ble_eq_true rfl, Nat.le_of_ble_eq_true rfl⟩)) (fun _ => ?_)
  refine lv_aload_n hx hb d_T_init_4 rfl (lv_at hl 0 rfl) ?_
  refine lv_iload_n hx hb d_T_init_5 rfl (lv_at hl 1 rfl) ?_
  refine gw_putF (D := D) (cl := vwCl) (ci := 4) (C := "StackRoom$BlockContext") (T := T_B) (N := 8) (v := .int v) (ty := .int) hx hb ht in_B ty_B tk_B nm_B hown hK.1 hP hS ha rfl 0 (by decide) (ht _ fl_T_T_identity) (fun _ h9 => h9) rfl hin rfl (by decide +kernel) rfl rfl (Nat.le_of_ble_eq_true rfl) d_T_init_6 (fun H locs hP hS => ?_)
  obtain ⟨G1, eG1⟩ : ∃ z : gw_G, z = va_up G a (some (.inr (4, [.int v, .int 0, .null, .int 0, .int 0, .null, .null, .int 0]))) := ⟨_, rfl⟩
  have hP : gw_P D vwCl (gw_A G s.heap.size) G1 H := by rw [eG1]; exact hP
  have f1 : G1 a = some (.inr (4, [.int v, .int 0, .null, .int 0, .int 0, .null, .null, .int 0])) := by rw [eG1]; exact va_up_self _ _ _
  exact W.vret hx hb hr (fun t ht hW => ⟨⟨G1, rfl, eG1, g_fin ht hP⟩, hS.F ht⟩) hS.2.2 d_T_init_9
set_option maxHeartbeats 4000000 in
set_option maxRecDepth 100000 in
theorem k_M_init (l : Launch) {a : Nat} (ha : G a = some (.inr (2, [.int 0, .int 0, .int 0, .int 0]))) (v t d : Int32) : Met l y_M_init w_M_init ({ frames := 3, cells := 0, slots := 0, locals := 61 }) (g_pre D tys G sz [.ref a, .int v, .int t, .int d]) (va_Qv (fun G1 : gw_G => G1 = va_up G a (some (.inr (2, [.int v, .int 0, .int t, .int d])))) (g_end D G sz) (gw_A G sz)) 0 0 (gw_A G sz) := by
  refine Met.ofW (cc := b_M_init) (maxL := 4) (ret := none) (by decide) rfl ?_
  intro p e s m args below meth c s₁ B hml hv
  obtain ⟨rfl, hsz, hP, hK⟩ := hv
  have hx := B.exec
  have hb := B.bytes
  have hr := B.returns
  have ht := fun w (hw : w ∈ gt) => atoms_spec (ws := w_M_init) B.pre w (List.mem_cons_of_mem _ hw)
  have hown : s.vm.findClass "StackRoom$Method" = some m.cls := findClass_of_methodNamed B.named
  have hlocks := B.notSynchronized
  have hin : meth.name = "<init>" := (name_of_methodNamed B.named B.method).1
  have C0 : CallFix p m c b_M_init 4 s [.ref a, .int v, .int t, .int d].toArray gt "StackRoom$Method" := ⟨hx, hb, hml, hown, ht⟩
  subst hsz
  have hP := hP.self (sz := s.heap.size)
  have hA : ∀ q : Nat, s.heap.size ≤ q → gw_A G s.heap.size q := fun q h => Or.inr h
  have hS : va_S (gw_A G s.heap.size) s.heap s.heap [] := va_S.rf
  have hl := lv_entry ([.ref a, .int v, .int t, .int d]) (n := 4) (Nat.le_of_ble_eq_true rfl)
  rw [lg_entry_eq]
  generalize (lg_sl ([.ref a, .int v, .int t, .int d]) ++ List.replicate (4 - (lg_sl ([.ref a, .int v, .int t, .int d])).length) Slot.unset).toArray = ls at hl ⊢
  have hl : lv_has ls 4 [(0, .ref a), (1, .int v), (2, .int t), (3, .int d)] := hl
  refine lv_aload_n hx hb d_M_init_0 rfl (lv_at hl 0 rfl) ?_
  refine lv_iload_n hx hb d_M_init_1 rfl (lv_at hl 1 rfl) ?_
  refine g_callv hP hS hA (r_I (rest := []) C0 [.int v] (k_T_init_M l ha v) ml_M_T_init im_T_init ini_T co_T_init rfl hd_T_init (g_preS hK hP) hl.1 d_M_init_2 rfl rfl (Nat.le_of_ble_eq_true rfl) ⟨rfl, rfl⟩ ⟨Nat.le_of_ble_eq_true rfl, Nat.le_of_ble_eq_true rfl⟩ ⟨Nat.le_of_ble_eq_true rfl, Nat.le_of_ble_eq_true rfl⟩) (fun G1 H locs eG1 hP hS hz9 hk9 => ?_)
  have f1 : G1 a = some (.inr (2, [.int v, .int 0, .int 0, .int 0])) := by rw [eG1]; exact va_up_self _ _ _
  refine lv_aload_n hx hb d_M_init_5 rfl (lv_at hl 0 rfl) ?_
  refine lv_iload_n hx hb d_M_init_6 rfl (lv_at hl 2 rfl) ?_
  refine gw_put (D := D) (cl := vwCl) (ci := 2) (C := "StackRoom$Method") (T := T_M) (N := 4) (v := .int t) (ty := .int) hx hb ht in_M ty_M tk_M nm_M hown hK.1 hP hS f1 rfl 2 (by decide) (ht _ fl_M_M_temporaries) (fun _ h9 => h9) rfl (by decide +kernel) rfl rfl (Nat.le_of_ble_eq_true rfl) d_M_init_7 (fun H locs hP hS => ?_)
  obtain ⟨G2, eG2⟩ : ∃ z : gw_G, z = va_up G1 a (some (.inr (2, [.int v, .int 0, .int t, .int 0]))) := ⟨_, rfl⟩
  have hP : gw_P D vwCl (gw_A G s.heap.size) G2 H := by rw [eG2]; exact hP
  have f2 : G2 a = some (.inr (2, [.int v, .int 0, .int t, .int 0])) := by rw [eG2]; exact va_up_self _ _ _
  refine lv_aload_n hx hb d_M_init_10 rfl (lv_at hl 0 rfl) ?_
  refine lv_iload_n hx hb d_M_init_11 rfl (lv_at hl 3 rfl) ?_
  refine gw_put (D := D) (cl := vwCl) (ci := 2) (C := "StackRoom$Method") (T := T_M) (N := 4) (v := .int d) (ty := .int) hx hb ht in_M ty_M tk_M nm_M hown hK.1 hP hS f2 rfl 3 (by decide) (ht _ fl_M_M_depth) (fun _ h9 => h9) rfl (by decide +kernel) rfl rfl (Nat.le_of_ble_eq_true rfl) d_M_init_12 (fun H locs hP hS => ?_)
  obtain ⟨G3, eG3⟩ : ∃ z : gw_G, z = va_up G2 a (some (.inr (2, [.int v, .int 0, .int t, .int d]))) := ⟨_, rfl⟩
  have hP : gw_P D vwCl (gw_A G s.heap.size) G3 H := by rw [eG3]; exact hP
  have f3 : G3 a = some (.inr (2, [.int v, .int 0, .int t, .int d])) := by rw [eG3]; exact va_up_self _ _ _
  have e9 : G3 = va_up G a (some (.inr (2, [.int v, .int 0, .int t, .int d]))) := by rw [eG3, eG2, eG1, va_up_up, va_up_up]
  exact W.vret hx hb hr (fun t ht hW => ⟨⟨G3, rfl, e9, g_fin ht hP⟩, hS.F ht⟩) hS.2.2 d_M_init_15
set_option maxHeartbeats 4000000 in
set_option maxRecDepth 100000 in
theorem k_C_init_XN (l : Launch) {a : Nat} (ha : G a = some (.inr (3, [.int 0, .int 0, .null, .int 0, .int 0, .null, .null]))) (ht0 : tys[0]? = some (cV, .object "StackRoom$Value")) (v dd h : Int32) (hdd : dd = 0 ∨ dd = 1) {k : Nat} (hk : k ≤ 94) : Met l y_C_init w_C_init ({ frames := 3, cells := 1, slots := 94, locals := 61 }) (g_pre D tys G sz [.ref a, .int v, .null, .int dd, .int h, .int (nI k)]) (va_Qv (fun G1 : gw_G => ∃ q, G q = none ∧ G1 = va_up (va_up G q (some (.inl (cV, k, qv (fun _ => none))))) a (some (.inr (3, [.int v, .int 0, .null, .int dd, .int h, .ref q, .null])))) (g_end D G sz) (gw_A G sz)) 1 94 (gw_A G sz) := by
  refine Met.ofW (cc := b_C_init) (maxL := 6) (ret := none) (by decide) rfl ?_
  intro p e s m args below meth c s₁ B hml hv
  obtain ⟨rfl, hsz, hP, hK⟩ := hv
  have hx := B.exec
  have hb := B.bytes
  have hr := B.returns
  have ht := fun w (hw : w ∈ gt) => atoms_spec (ws := w_C_init) B.pre w (List.mem_cons_of_mem _ hw)
  have hown : s.vm.findClass "StackRoom$Context" = some m.cls := findClass_of_methodNamed B.named
  have hlocks := B.notSynchronized
  have hin : meth.name = "<init>" := (name_of_methodNamed B.named B.method).1
  have C0 : CallFix p m c b_C_init 6 s [.ref a, .int v, .null, .int dd, .int h, .int (nI k)].toArray gt "StackRoom$Context" := ⟨hx, hb, hml, hown, ht⟩
  subst hsz
  have hP := hP.self (sz := s.heap.size)
  have hA : ∀ q : Nat, s.heap.size ≤ q → gw_A G s.heap.size q := fun q h => Or.inr h
  have hS : va_S (gw_A G s.heap.size) s.heap s.heap [] := va_S.rf
  have hl := lv_entry ([.ref a, .int v, .null, .int dd, .int h, .int (nI k)]) (n := 6) (Nat.le_of_ble_eq_true rfl)
  rw [lg_entry_eq]
  generalize (lg_sl ([.ref a, .int v, .null, .int dd, .int h, .int (nI k)]) ++ List.replicate (6 - (lg_sl ([.ref a, .int v, .null, .int dd, .int h, .int (nI k)])).length) Slot.unset).toArray = ls at hl ⊢
  have hl : lv_has ls 6 [(0, .ref a), (1, .int v), (2, .null), (3, .int dd), (4, .int h), (5, .int (nI k))] := hl
  refine lv_aload_n hx hb d_C_init_0 rfl (lv_at hl 0 rfl) ?_
  refine lv_iload_n hx hb d_C_init_1 rfl (lv_at hl 1 rfl) ?_
  refine g_callv hP hS hA (r_I (rest := []) C0 [.int v] (k_T_init_X l ha v) ml_C_T_init im_T_init ini_T co_T_init rfl hd_T_init (g_preS hK hP) hl.1 d_C_init_2 rfl rfl (Nat.le_of_ble_eq_true rfl) ⟨rfl, rfl⟩ ⟨Nat.le_of_ble_eq_true rfl, Nat.le_of_ble_eq_true rfl⟩ ⟨Nat.le_of_ble_eq_true rfl, Nat.le_of_ble_eq_true rfl⟩) (fun G1 H locs eG1 hP hS hz9 hk9 => ?_)
  have f1 : G1 a = some (.inr (3, [.int v, .int 0, .null, .int 0, .int 0, .null, .null])) := by rw [eG1]; exact va_up_self _ _ _
  refine lv_aload_n hx hb d_C_init_5 rfl (lv_at hl 0 rfl) ?_
  refine lv_aload_nN hx hb d_C_init_6 rfl (lv_at hl 2 rfl) ?_
  refine gw_put (D := D) (cl := vwCl) (ci := 3) (C := "StackRoom$MethodContext") (T := T_X) (N := 7) (v := .null) (ty := .object "StackRoom$Context") hx hb ht in_X ty_X tk_X nm_X hown hK.1 hP hS f1 rfl 2 (by decide) (ht _ fl_C_C_sender) (fun _ h9 => h9) rfl (by decide +kernel) rfl rfl (Nat.le_of_ble_eq_true rfl) d_C_init_7 (fun H locs hP hS => ?_)
  obtain ⟨G2, eG2⟩ : ∃ z : gw_G, z = va_up G1 a (some (.inr (3, [.int v, .int 0, .null, .int 0, .int 0, .null, .null]))) := ⟨_, rfl⟩
  have hP : gw_P D vwCl (gw_A G s.heap.size) G2 H := by rw [eG2]; exact hP
  have f2 : G2 a = some (.inr (3, [.int v, .int 0, .null, .int 0, .int 0, .null, .null])) := by rw [eG2]; exact va_up_self _ _ _
  refine lv_aload_n hx hb d_C_init_10 rfl (lv_at hl 0 rfl) ?_
  refine lv_iload_n hx hb d_C_init_11 rfl (lv_at hl 3 rfl) ?_
  refine gw_put (D := D) (cl := vwCl) (ci := 3) (C := "StackRoom$MethodContext") (T := T_X) (N := 7) (v := .int dd) (ty := .boolean) hx hb ht in_X ty_X tk_X nm_X hown hK.1 hP hS f2 rfl 3 (by decide) (ht _ fl_C_C_dead) (fun _ h9 => h9) rfl (by decide +kernel) (by rcases hdd with e | e <;> rw [e] <;> rfl) (by rcases hdd with e | e <;> rw [e] <;> rfl) (Nat.le_of_ble_eq_true rfl) d_C_init_12 (fun H locs hP hS => ?_)
  obtain ⟨G3, eG3⟩ : ∃ z : gw_G, z = va_up G2 a (some (.inr (3, [.int v, .int 0, .null, .int dd, .int 0, .null, .null]))) := ⟨_, rfl⟩
  have hP : gw_P D vwCl (gw_A G s.heap.size) G3 H := by rw [eG3]; exact hP
  have f3 : G3 a = some (.inr (3, [.int v, .int 0, .null, .int dd, .int 0, .null, .null])) := by rw [eG3]; exact va_up_self _ _ _
  refine lv_aload_n hx hb d_C_init_15 rfl (lv_at hl 0 rfl) ?_
  refine lv_iload hx hb d_C_init_16 (lv_at hl 4 rfl) ?_
  refine gw_put (D := D) (cl := vwCl) (ci := 3) (C := "StackRoom$MethodContext") (T := T_X) (N := 7) (v := .int h) (ty := .int) hx hb ht in_X ty_X tk_X nm_X hown hK.1 hP hS f3 rfl 4 (by decide) (ht _ fl_C_C_height) (fun _ h9 => h9) rfl (by decide +kernel) rfl rfl (Nat.le_of_ble_eq_true rfl) d_C_init_18 (fun H locs hP hS => ?_)
  obtain ⟨G4, eG4⟩ : ∃ z : gw_G, z = va_up G3 a (some (.inr (3, [.int v, .int 0, .null, .int dd, .int h, .null, .null]))) := ⟨_, rfl⟩
  have hP : gw_P D vwCl (gw_A G s.heap.size) G4 H := by rw [eG4]; exact hP
  have f4 : G4 a = some (.inr (3, [.int v, .int 0, .null, .int dd, .int h, .null, .null])) := by rw [eG4]; exact va_up_self _ _ _
  refine lv_aload_n hx hb d_C_init_21 rfl (lv_at hl 0 rfl) ?_
  refine lv_iload hx hb d_C_init_22 (lv_at hl 5 rfl) ?_
  refine gw_newq (C := "StackRoom$Value") hx hb hown (ht _ cl_C_V) hK.2.2.1 hK.1 hP hS hA (n := nI k) (N' := k) (nI_pos (by omega)) (nI_clamp (by omega)) (by omega) (Nat.le_of_ble_eq_true rfl) (show 0 + k ≤ 94 by omega) d_C_init_24 (fun q cA H hK1 hP hq hS => ?_)
  have hcA := k_arr hK.1 ht0 hK1
  subst hcA
  obtain ⟨G5, eG5⟩ : ∃ z : gw_G, z = va_up G4 q (some (.inl (cA, k, qv (fun _ => none)))) := ⟨_, rfl⟩
  have hP : gw_P D vwCl (gw_A G s.heap.size) G5 H := by rw [eG5]; exact hP
  have hqa : a ≠ q := gw_neN f4 hq
  have f6 : G5 a = some (.inr (3, [.int v, .int 0, .null, .int dd, .int h, .null, .null])) := by rw [eG5]; exact gw_up f4 hqa
  refine gw_putF (D := D) (cl := vwCl) (ci := 3) (C := "StackRoom$MethodContext") (T := T_X) (N := 7) (v := .ref q) (ty := .array (.object "StackRoom$Value")) hx hb ht in_X ty_X tk_X nm_X hown hK.1 hP hS f6 rfl 5 (by decide) (ht _ fl_C_C_fields) (fun _ h9 => h9) rfl hin rfl (by decide +kernel) rfl rfl (Nat.le_of_ble_eq_true rfl) d_C_init_27 (fun H locs hP hS => ?_)
  obtain ⟨G7, eG7⟩ : ∃ z : gw_G, z = va_up G5 a (some (.inr (3, [.int v, .int 0, .null, .int dd, .int h, .ref q, .null]))) := ⟨_, rfl⟩
  have hP : gw_P D vwCl (gw_A G s.heap.size) G7 H := by rw [eG7]; exact hP
  have f7 : G7 a = some (.inr (3, [.int v, .int 0, .null, .int dd, .int h, .ref q, .null])) := by rw [eG7]; exact va_up_self _ _ _
  refine W.widen (k := 1) (n := 94) (by omega) (by omega) ?_
  have e9 : G7 = va_up (va_up G q (some (.inl (cA, k, qv (fun _ => none))))) a (some (.inr (3, [.int v, .int 0, .null, .int dd, .int h, .ref q, .null]))) := by rw [eG7, eG5, eG4, eG3, eG2, eG1, va_up_up, va_up_up, va_up_up, va_up_sw _ _ _ hqa, va_up_up]
  have hq9 : G q = none := by rw [eG4, eG3, eG2, eG1, va_up_up, va_up_up, va_up_up, va_up_ne _ _ (Ne.symm hqa)] at hq; exact hq
  exact W.vret hx hb hr (fun t ht hW => ⟨⟨G7, rfl, ⟨q, hq9, e9⟩, g_fin ht hP⟩, hS.F ht⟩) hS.2.2 d_C_init_30
set_option maxHeartbeats 4000000 in
set_option maxRecDepth 100000 in
theorem k_C_init_XR (l : Launch) {a : Nat} (ha : G a = some (.inr (3, [.int 0, .int 0, .null, .int 0, .int 0, .null, .null]))) (ht0 : tys[0]? = some (cV, .object "StackRoom$Value")) (sd : Nat) (v dd h : Int32) (hdd : dd = 0 ∨ dd = 1) {k : Nat} (hk : k ≤ 94) : Met l y_C_init w_C_init ({ frames := 3, cells := 1, slots := 94, locals := 61 }) (g_pre D tys G sz [.ref a, .int v, .ref sd, .int dd, .int h, .int (nI k)]) (va_Qv (fun G1 : gw_G => ∃ q, G q = none ∧ G1 = va_up (va_up G q (some (.inl (cV, k, qv (fun _ => none))))) a (some (.inr (3, [.int v, .int 0, .ref sd, .int dd, .int h, .ref q, .null])))) (g_end D G sz) (gw_A G sz)) 1 94 (gw_A G sz) := by
  refine Met.ofW (cc := b_C_init) (maxL := 6) (ret := none) (by decide) rfl ?_
  intro p e s m args below meth c s₁ B hml hv
  obtain ⟨rfl, hsz, hP, hK⟩ := hv
  have hx := B.exec
  have hb := B.bytes
  have hr := B.returns
  have ht := fun w (hw : w ∈ gt) => atoms_spec (ws := w_C_init) B.pre w (List.mem_cons_of_mem _ hw)
  have hown : s.vm.findClass "StackRoom$Context" = some m.cls := findClass_of_methodNamed B.named
  have hlocks := B.notSynchronized
  have hin : meth.name = "<init>" := (name_of_methodNamed B.named B.method).1
  have C0 : CallFix p m c b_C_init 6 s [.ref a, .int v, .ref sd, .int dd, .int h, .int (nI k)].toArray gt "StackRoom$Context" := ⟨hx, hb, hml, hown, ht⟩
  subst hsz
  have hP := hP.self (sz := s.heap.size)
  have hA : ∀ q : Nat, s.heap.size ≤ q → gw_A G s.heap.size q := fun q h => Or.inr h
  have hS : va_S (gw_A G s.heap.size) s.heap s.heap [] := va_S.rf
  have hl := lv_entry ([.ref a, .int v, .ref sd, .int dd, .int h, .int (nI k)]) (n := 6) (Nat.le_of_ble_eq_true rfl)
  rw [lg_entry_eq]
  generalize (lg_sl ([.ref a, .int v, .ref sd, .int dd, .int h, .int (nI k)]) ++ List.replicate (6 - (lg_sl ([.ref a, .int v, .ref sd, .int dd, .int h, .int (nI k)])).length) Slot.unset).toArray = ls at hl ⊢
  have hl : lv_has ls 6 [(0, .ref a), (1, .int v), (2, .ref sd), (3, .int dd), (4, .int h), (5, .int (nI k))] := hl
  refine lv_aload_n hx hb d_C_init_0 rfl (lv_at hl 0 rfl) ?_
  refine lv_iload_n hx hb d_C_init_1 rfl (lv_at hl 1 rfl) ?_
  refine g_callv hP hS hA (r_I (rest := []) C0 [.int v] (k_T_init_X l ha v) ml_C_T_init im_T_init ini_T co_T_init rfl hd_T_init (g_preS hK hP) hl.1 d_C_init_2 rfl rfl (Nat.le_of_ble_eq_true rfl) ⟨rfl, rfl⟩ ⟨Nat.le_of_ble_eq_true rfl, Nat.le_of_ble_eq_true rfl⟩ ⟨Nat.le_of_ble_eq_true rfl, Nat.le_of_ble_eq_true rfl⟩) (fun G1 H locs eG1 hP hS hz9 hk9 => ?_)
  have f1 : G1 a = some (.inr (3, [.int v, .int 0, .null, .int 0, .int 0, .null, .null])) := by rw [eG1]; exact va_up_self _ _ _
  refine lv_aload_n hx hb d_C_init_5 rfl (lv_at hl 0 rfl) ?_
  refine lv_aload_n hx hb d_C_init_6 rfl (lv_at hl 2 rfl) ?_
  refine gw_put (D := D) (cl := vwCl) (ci := 3) (C := "StackRoom$MethodContext") (T := T_X) (N := 7) (v := .ref sd) (ty := .object "StackRoom$Context") hx hb ht in_X ty_X tk_X nm_X hown hK.1 hP hS f1 rfl 2 (by decide) (ht _ fl_C_C_sender) (fun _ h9 => h9) rfl (by decide +kernel) rfl rfl (Nat.le_of_ble_eq_true rfl) d_C_init_7 (fun H locs hP hS => ?_)
  obtain ⟨G2, eG2⟩ : ∃ z : gw_G, z = va_up G1 a (some (.inr (3, [.int v, .int 0, .ref sd, .int 0, .int 0, .null, .null]))) := ⟨_, rfl⟩
  have hP : gw_P D vwCl (gw_A G s.heap.size) G2 H := by rw [eG2]; exact hP
  have f2 : G2 a = some (.inr (3, [.int v, .int 0, .ref sd, .int 0, .int 0, .null, .null])) := by rw [eG2]; exact va_up_self _ _ _
  refine lv_aload_n hx hb d_C_init_10 rfl (lv_at hl 0 rfl) ?_
  refine lv_iload_n hx hb d_C_init_11 rfl (lv_at hl 3 rfl) ?_
  refine gw_put (D := D) (cl := vwCl) (ci := 3) (C := "StackRoom$MethodContext") (T := T_X) (N := 7) (v := .int dd) (ty := .boolean) hx hb ht in_X ty_X tk_X nm_X hown hK.1 hP hS f2 rfl 3 (by decide) (ht _ fl_C_C_dead) (fun _ h9 => h9) rfl (by decide +kernel) (by rcases hdd with e | e <;> rw [e] <;> rfl) (by rcases hdd with e | e <;> rw [e] <;> rfl) (Nat.le_of_ble_eq_true rfl) d_C_init_12 (fun H locs hP hS => ?_)
  obtain ⟨G3, eG3⟩ : ∃ z : gw_G, z = va_up G2 a (some (.inr (3, [.int v, .int 0, .ref sd, .int dd, .int 0, .null, .null]))) := ⟨_, rfl⟩
  have hP : gw_P D vwCl (gw_A G s.heap.size) G3 H := by rw [eG3]; exact hP
  have f3 : G3 a = some (.inr (3, [.int v, .int 0, .ref sd, .int dd, .int 0, .null, .null])) := by rw [eG3]; exact va_up_self _ _ _
  refine lv_aload_n hx hb d_C_init_15 rfl (lv_at hl 0 rfl) ?_
  refine lv_iload hx hb d_C_init_16 (lv_at hl 4 rfl) ?_
  refine gw_put (D := D) (cl := vwCl) (ci := 3) (C := "StackRoom$MethodContext") (T := T_X) (N := 7) (v := .int h) (ty := .int) hx hb ht in_X ty_X tk_X nm_X hown hK.1 hP hS f3 rfl 4 (by decide) (ht _ fl_C_C_height) (fun _ h9 => h9) rfl (by decide +kernel) rfl rfl (Nat.le_of_ble_eq_true rfl) d_C_init_18 (fun H locs hP hS => ?_)
  obtain ⟨G4, eG4⟩ : ∃ z : gw_G, z = va_up G3 a (some (.inr (3, [.int v, .int 0, .ref sd, .int dd, .int h, .null, .null]))) := ⟨_, rfl⟩
  have hP : gw_P D vwCl (gw_A G s.heap.size) G4 H := by rw [eG4]; exact hP
  have f4 : G4 a = some (.inr (3, [.int v, .int 0, .ref sd, .int dd, .int h, .null, .null])) := by rw [eG4]; exact va_up_self _ _ _
  refine lv_aload_n hx hb d_C_init_21 rfl (lv_at hl 0 rfl) ?_
  refine lv_iload hx hb d_C_init_22 (lv_at hl 5 rfl) ?_
  refine gw_newq (C := "StackRoom$Value") hx hb hown (ht _ cl_C_V) hK.2.2.1 hK.1 hP hS hA (n := nI k) (N' := k) (nI_pos (by omega)) (nI_clamp (by omega)) (by omega) (Nat.le_of_ble_eq_true rfl) (show 0 + k ≤ 94 by omega) d_C_init_24 (fun q cA H hK1 hP hq hS => ?_)
  have hcA := k_arr hK.1 ht0 hK1
  subst hcA
  obtain ⟨G5, eG5⟩ : ∃ z : gw_G, z = va_up G4 q (some (.inl (cA, k, qv (fun _ => none)))) := ⟨_, rfl⟩
  have hP : gw_P D vwCl (gw_A G s.heap.size) G5 H := by rw [eG5]; exact hP
  have hqa : a ≠ q := gw_neN f4 hq
  have f6 : G5 a = some (.inr (3, [.int v, .int 0, .ref sd, .int dd, .int h, .null, .null])) := by rw [eG5]; exact gw_up f4 hqa
  refine gw_putF (D := D) (cl := vwCl) (ci := 3) (C := "StackRoom$MethodContext") (T := T_X) (N := 7) (v := .ref q) (ty := .array (.object "StackRoom$Value")) hx hb ht in_X ty_X tk_X nm_X hown hK.1 hP hS f6 rfl 5 (by decide) (ht _ fl_C_C_fields) (fun _ h9 => h9) rfl hin rfl (by decide +kernel) rfl rfl (Nat.le_of_ble_eq_true rfl) d_C_init_27 (fun H locs hP hS => ?_)
  obtain ⟨G7, eG7⟩ : ∃ z : gw_G, z = va_up G5 a (some (.inr (3, [.int v, .int 0, .ref sd, .int dd, .int h, .ref q, .null]))) := ⟨_, rfl⟩
  have hP : gw_P D vwCl (gw_A G s.heap.size) G7 H := by rw [eG7]; exact hP
  have f7 : G7 a = some (.inr (3, [.int v, .int 0, .ref sd, .int dd, .int h, .ref q, .null])) := by rw [eG7]; exact va_up_self _ _ _
  refine W.widen (k := 1) (n := 94) (by omega) (by omega) ?_
  have e9 : G7 = va_up (va_up G q (some (.inl (cA, k, qv (fun _ => none))))) a (some (.inr (3, [.int v, .int 0, .ref sd, .int dd, .int h, .ref q, .null]))) := by rw [eG7, eG5, eG4, eG3, eG2, eG1, va_up_up, va_up_up, va_up_up, va_up_sw _ _ _ hqa, va_up_up]
  have hq9 : G q = none := by rw [eG4, eG3, eG2, eG1, va_up_up, va_up_up, va_up_up, va_up_ne _ _ (Ne.symm hqa)] at hq; exact hq
  exact W.vret hx hb hr (fun t ht hW => ⟨⟨G7, rfl, ⟨q, hq9, e9⟩, g_fin ht hP⟩, hS.F ht⟩) hS.2.2 d_C_init_30
set_option maxHeartbeats 4000000 in
set_option maxRecDepth 100000 in
theorem k_C_init_BN (l : Launch) {a : Nat} (ha : G a = some (.inr (4, [.int 0, .int 0, .null, .int 0, .int 0, .null, .null, .int 0]))) (ht0 : tys[0]? = some (cV, .object "StackRoom$Value")) (v dd h : Int32) (hdd : dd = 0 ∨ dd = 1) {k : Nat} (hk : k ≤ 94) : Met l y_C_init w_C_init ({ frames := 3, cells := 1, slots := 94, locals := 61 }) (g_pre D tys G sz [.ref a, .int v, .null, .int dd, .int h, .int (nI k)]) (va_Qv (fun G1 : gw_G => ∃ q, G q = none ∧ G1 = va_up (va_up G q (some (.inl (cV, k, qv (fun _ => none))))) a (some (.inr (4, [.int v, .int 0, .null, .int dd, .int h, .ref q, .null, .int 0])))) (g_end D G sz) (gw_A G sz)) 1 94 (gw_A G sz) := by
  refine Met.ofW (cc := b_C_init) (maxL := 6) (ret := none) (by decide) rfl ?_
  intro p e s m args below meth c s₁ B hml hv
  obtain ⟨rfl, hsz, hP, hK⟩ := hv
  have hx := B.exec
  have hb := B.bytes
  have hr := B.returns
  have ht := fun w (hw : w ∈ gt) => atoms_spec (ws := w_C_init) B.pre w (List.mem_cons_of_mem _ hw)
  have hown : s.vm.findClass "StackRoom$Context" = some m.cls := findClass_of_methodNamed B.named
  have hlocks := B.notSynchronized
  have hin : meth.name = "<init>" := (name_of_methodNamed B.named B.method).1
  have C0 : CallFix p m c b_C_init 6 s [.ref a, .int v, .null, .int dd, .int h, .int (nI k)].toArray gt "StackRoom$Context" := ⟨hx, hb, hml, hown, ht⟩
  subst hsz
  have hP := hP.self (sz := s.heap.size)
  have hA : ∀ q : Nat, s.heap.size ≤ q → gw_A G s.heap.size q := fun q h => Or.inr h
  have hS : va_S (gw_A G s.heap.size) s.heap s.heap [] := va_S.rf
  have hl := lv_entry ([.ref a, .int v, .null, .int dd, .int h, .int (nI k)]) (n := 6) (Nat.le_of_ble_eq_true rfl)
  rw [lg_entry_eq]
  generalize (lg_sl ([.ref a, .int v, .null, .int dd, .int h, .int (nI k)]) ++ List.replicate (6 - (lg_sl ([.ref a, .int v, .null, .int dd, .int h, .int (nI k)])).length) Slot.unset).toArray = ls at hl ⊢
  have hl : lv_has ls 6 [(0, .ref a), (1, .int v), (2, .null), (3, .int dd), (4, .int h), (5, .int (nI k))] := hl
  refine lv_aload_n hx hb d_C_init_0 rfl (lv_at hl 0 rfl) ?_
  refine lv_iload_n hx hb d_C_init_1 rfl (lv_at hl 1 rfl) ?_
  refine g_callv hP hS hA (r_I (rest := []) C0 [.int v] (k_T_init_B l ha v) ml_C_T_init im_T_init ini_T co_T_init rfl hd_T_init (g_preS hK hP) hl.1 d_C_init_2 rfl rfl (Nat.le_of_ble_eq_true rfl) ⟨rfl, rfl⟩ ⟨Nat.le_of_ble_eq_true rfl, Nat.le_of_ble_eq_true rfl⟩ ⟨Nat.le_of_ble_eq_true rfl, Nat.le_of_ble_eq_true rfl⟩) (fun G1 H locs eG1 hP hS hz9 hk9 => ?_)
  have f1 : G1 a = some (.inr (4, [.int v, .int 0, .null, .int 0, .int 0, .null, .null, .int 0])) := by rw [eG1]; exact va_up_self _ _ _
  refine lv_aload_n hx hb d_C_init_5 rfl (lv_at hl 0 rfl) ?_
  refine lv_aload_nN hx hb d_C_init_6 rfl (lv_at hl 2 rfl) ?_
  refine gw_put (D := D) (cl := vwCl) (ci := 4) (C := "StackRoom$BlockContext") (T := T_B) (N := 8) (v := .null) (ty := .object "StackRoom$Context") hx hb ht in_B ty_B tk_B nm_B hown hK.1 hP hS f1 rfl 2 (by decide) (ht _ fl_C_C_sender) (fun _ h9 => h9) rfl (by decide +kernel) rfl rfl (Nat.le_of_ble_eq_true rfl) d_C_init_7 (fun H locs hP hS => ?_)
  obtain ⟨G2, eG2⟩ : ∃ z : gw_G, z = va_up G1 a (some (.inr (4, [.int v, .int 0, .null, .int 0, .int 0, .null, .null, .int 0]))) := ⟨_, rfl⟩
  have hP : gw_P D vwCl (gw_A G s.heap.size) G2 H := by rw [eG2]; exact hP
  have f2 : G2 a = some (.inr (4, [.int v, .int 0, .null, .int 0, .int 0, .null, .null, .int 0])) := by rw [eG2]; exact va_up_self _ _ _
  refine lv_aload_n hx hb d_C_init_10 rfl (lv_at hl 0 rfl) ?_
  refine lv_iload_n hx hb d_C_init_11 rfl (lv_at hl 3 rfl) ?_
  refine gw_put (D := D) (cl := vwCl) (ci := 4) (C := "StackRoom$BlockContext") (T := T_B) (N := 8) (v := .int dd) (ty := .boolean) hx hb ht in_B ty_B tk_B nm_B hown hK.1 hP hS f2 rfl 3 (by decide) (ht _ fl_C_C_dead) (fun _ h9 => h9) rfl (by decide +kernel) (by rcases hdd with e | e <;> rw [e] <;> rfl) (by rcases hdd with e | e <;> rw [e] <;> rfl) (Nat.le_of_ble_eq_true rfl) d_C_init_12 (fun H locs hP hS => ?_)
  obtain ⟨G3, eG3⟩ : ∃ z : gw_G, z = va_up G2 a (some (.inr (4, [.int v, .int 0, .null, .int dd, .int 0, .null, .null, .int 0]))) := ⟨_, rfl⟩
  have hP : gw_P D vwCl (gw_A G s.heap.size) G3 H := by rw [eG3]; exact hP
  have f3 : G3 a = some (.inr (4, [.int v, .int 0, .null, .int dd, .int 0, .null, .null, .int 0])) := by rw [eG3]; exact va_up_self _ _ _
  refine lv_aload_n hx hb d_C_init_15 rfl (lv_at hl 0 rfl) ?_
  refine lv_iload hx hb d_C_init_16 (lv_at hl 4 rfl) ?_
  refine gw_put (D := D) (cl := vwCl) (ci := 4) (C := "StackRoom$BlockContext") (T := T_B) (N := 8) (v := .int h) (ty := .int) hx hb ht in_B ty_B tk_B nm_B hown hK.1 hP hS f3 rfl 4 (by decide) (ht _ fl_C_C_height) (fun _ h9 => h9) rfl (by decide +kernel) rfl rfl (Nat.le_of_ble_eq_true rfl) d_C_init_18 (fun H locs hP hS => ?_)
  obtain ⟨G4, eG4⟩ : ∃ z : gw_G, z = va_up G3 a (some (.inr (4, [.int v, .int 0, .null, .int dd, .int h, .null, .null, .int 0]))) := ⟨_, rfl⟩
  have hP : gw_P D vwCl (gw_A G s.heap.size) G4 H := by rw [eG4]; exact hP
  have f4 : G4 a = some (.inr (4, [.int v, .int 0, .null, .int dd, .int h, .null, .null, .int 0])) := by rw [eG4]; exact va_up_self _ _ _
  refine lv_aload_n hx hb d_C_init_21 rfl (lv_at hl 0 rfl) ?_
  refine lv_iload hx hb d_C_init_22 (lv_at hl 5 rfl) ?_
  refine gw_newq (C := "StackRoom$Value") hx hb hown (ht _ cl_C_V) hK.2.2.1 hK.1 hP hS hA (n := nI k) (N' := k) (nI_pos (by omega)) (nI_clamp (by omega)) (by omega) (Nat.le_of_ble_eq_true rfl) (show 0 + k ≤ 94 by omega) d_C_init_24 (fun q cA H hK1 hP hq hS => ?_)
  have hcA := k_arr hK.1 ht0 hK1
  subst hcA
  obtain ⟨G5, eG5⟩ : ∃ z : gw_G, z = va_up G4 q (some (.inl (cA, k, qv (fun _ => none)))) := ⟨_, rfl⟩
  have hP : gw_P D vwCl (gw_A G s.heap.size) G5 H := by rw [eG5]; exact hP
  have hqa : a ≠ q := gw_neN f4 hq
  have f6 : G5 a = some (.inr (4, [.int v, .int 0, .null, .int dd, .int h, .null, .null, .int 0])) := by rw [eG5]; exact gw_up f4 hqa
  refine gw_putF (D := D) (cl := vwCl) (ci := 4) (C := "StackRoom$BlockContext") (T := T_B) (N := 8) (v := .ref q) (ty := .array (.object "StackRoom$Value")) hx hb ht in_B ty_B tk_B nm_B hown hK.1 hP hS f6 rfl 5 (by decide) (ht _ fl_C_C_fields) (fun _ h9 => h9) rfl hin rfl (by decide +kernel) rfl rfl (Nat.le_of_ble_eq_true rfl) d_C_init_27 (fun H locs hP hS => ?_)
  obtain ⟨G7, eG7⟩ : ∃ z : gw_G, z = va_up G5 a (some (.inr (4, [.int v, .int 0, .null, .int dd, .int h, .ref q, .null, .int 0]))) := ⟨_, rfl⟩
  have hP : gw_P D vwCl (gw_A G s.heap.size) G7 H := by rw [eG7]; exact hP
  have f7 : G7 a = some (.inr (4, [.int v, .int 0, .null, .int dd, .int h, .ref q, .null, .int 0])) := by rw [eG7]; exact va_up_self _ _ _
  refine W.widen (k := 1) (n := 94) (by omega) (by omega) ?_
  have e9 : G7 = va_up (va_up G q (some (.inl (cA, k, qv (fun _ => none))))) a (some (.inr (4, [.int v, .int 0, .null, .int dd, .int h, .ref q, .null, .int 0]))) := by rw [eG7, eG5, eG4, eG3, eG2, eG1, va_up_up, va_up_up, va_up_up, va_up_sw _ _ _ hqa, va_up_up]
  have hq9 : G q = none := by rw [eG4, eG3, eG2, eG1, va_up_up, va_up_up, va_up_up, va_up_ne _ _ (Ne.symm hqa)] at hq; exact hq
  exact W.vret hx hb hr (fun t ht hW => ⟨⟨G7, rfl, ⟨q, hq9, e9⟩, g_fin ht hP⟩, hS.F ht⟩) hS.2.2 d_C_init_30
set_option maxHeartbeats 4000000 in
set_option maxRecDepth 100000 in
theorem k_X_init_N (l : Launch) {a mt : Nat} (ha : G a = some (.inr (3, [.int 0, .int 0, .null, .int 0, .int 0, .null, .null]))) (ht0 : tys[0]? = some (cV, .object "StackRoom$Value")) {m0 m1 : Int32} {t d : Nat} (hmt : G mt = some (.inr (kM, [.int m0, .int m1, .int (nI t), .int (nI d)]))) (v : Int32) (hk : t + d ≤ 94) : Met l y_X_init w_X_init ({ frames := 4, cells := 1, slots := 94, locals := 86 }) (g_pre D tys G sz [.ref a, .int v, .ref mt, .null]) (va_Qv (fun G1 : gw_G => ∃ q, G q = none ∧ G1 = va_up (va_up G q (some (.inl (cV, t + d, qv (fun _ => none))))) a (some (.inr (3, [.int v, .int 0, .null, .int 0, .int (nI t), .ref q, .ref mt])))) (g_end D G sz) (gw_A G sz)) 1 94 (gw_A G sz) := by
  refine Met.ofW (cc := b_X_init) (maxL := 4) (ret := none) (by decide) rfl ?_
  intro p e s m args below meth c s₁ B hml hv
  obtain ⟨rfl, hsz, hP, hK⟩ := hv
  have hx := B.exec
  have hb := B.bytes
  have hr := B.returns
  have ht := fun w (hw : w ∈ gt) => atoms_spec (ws := w_X_init) B.pre w (List.mem_cons_of_mem _ hw)
  have hown : s.vm.findClass "StackRoom$MethodContext" = some m.cls := findClass_of_methodNamed B.named
  have hlocks := B.notSynchronized
  have hin : meth.name = "<init>" := (name_of_methodNamed B.named B.method).1
  have C0 : CallFix p m c b_X_init 4 s [.ref a, .int v, .ref mt, .null].toArray gt "StackRoom$MethodContext" := ⟨hx, hb, hml, hown, ht⟩
  subst hsz
  have hP := hP.self (sz := s.heap.size)
  have hA : ∀ q : Nat, s.heap.size ≤ q → gw_A G s.heap.size q := fun q h => Or.inr h
  have hS : va_S (gw_A G s.heap.size) s.heap s.heap [] := va_S.rf
  have hl := lv_entry ([.ref a, .int v, .ref mt, .null]) (n := 4) (Nat.le_of_ble_eq_true rfl)
  rw [lg_entry_eq]
  generalize (lg_sl ([.ref a, .int v, .ref mt, .null]) ++ List.replicate (4 - (lg_sl ([.ref a, .int v, .ref mt, .null])).length) Slot.unset).toArray = ls at hl ⊢
  have hl : lv_has ls 4 [(0, .ref a), (1, .int v), (2, .ref mt), (3, .null)] := hl
  refine lv_aload_n hx hb d_X_init_0 rfl (lv_at hl 0 rfl) ?_
  refine lv_iload_n hx hb d_X_init_1 rfl (lv_at hl 1 rfl) ?_
  refine lv_aload_nN hx hb d_X_init_2 rfl (lv_at hl 3 rfl) ?_
  refine lv_iconst (v := 0) hx hb d_X_init_3 (by decide) ?_
  refine lv_aload_n hx hb d_X_init_4 rfl (lv_at hl 2 rfl) ?_
  refine va_getN (D := D) (ci := 2) (C := "StackRoom$Method") (T := T_M) (N := 4) (v := .int (nI t)) hx hb ht in_M hown hK.1 (hP.one hmt) 0 rfl rfl 2 (by decide) (va_Nw.use rfl (hK.2.1 _ fn_X_M_temporaries)) (fun _ h9 => h9) rfl d_X_init_5 ?_
  refine lv_aload_n hx hb d_X_init_8 rfl (lv_at hl 2 rfl) ?_
  refine va_getN (D := D) (ci := 2) (C := "StackRoom$Method") (T := T_M) (N := 4) (v := .int (nI t)) hx hb ht in_M hown hK.1 (hP.one hmt) 0 rfl rfl 2 (by decide) (va_Nw.use rfl (hK.2.1 _ fn_X_M_temporaries)) (fun _ h9 => h9) rfl d_X_init_9 ?_
  refine lv_aload_n hx hb d_X_init_12 rfl (lv_at hl 2 rfl) ?_
  refine va_getN (D := D) (ci := 2) (C := "StackRoom$Method") (T := T_M) (N := 4) (v := .int (nI d)) hx hb ht in_M hown hK.1 (hP.one hmt) 0 rfl rfl 3 (by decide) (va_Nw.use rfl (hK.2.1 _ fn_X_M_depth)) (fun _ h9 => h9) rfl d_X_init_13 ?_
  refine lv_iadd hx hb d_X_init_16 ?_
  rw [nI_add]
  refine g_callv hP hS hA (r_I (rest := []) C0 [.int v, .null, .int 0, .int (nI t), .int (nI (t + d))] (k_C_init_XN l ha ht0 v 0 (nI t) (Or.inl rfl) (k := t + d) (by omega)) ml_X_C_init im_C_init ini_C co_C_init rfl hd_C_init (g_preS hK hP) hl.1 d_X_init_17 rfl rfl (Nat.le_of_ble_eq_true rfl) ⟨rfl, rfl⟩ ⟨Nat.le_of_ble_eq_true rfl, Nat.le_of_ble_eq_true rfl⟩ ⟨Nat.le_of_ble_eq_true rfl, Nat.le_of_ble_eq_true rfl⟩) (fun G1 H locs eG1 hP hS hz9 hk9 => ?_)
  obtain ⟨q, hq, eG1⟩ := eG1
  have f1 : G1 a = some (.inr (3, [.int v, .int 0, .null, .int 0, .int (nI t), .ref q, .null])) := by rw [eG1]; exact va_up_self _ _ _
  refine lv_aload_n hx hb d_X_init_20 rfl (lv_at hl 0 rfl) ?_
  refine lv_aload_n hx hb d_X_init_21 rfl (lv_at hl 2 rfl) ?_
  refine gw_putF (D := D) (cl := vwCl) (ci := 3) (C := "StackRoom$MethodContext") (T := T_X) (N := 7) (v := .ref mt) (ty := .object "StackRoom$Method") hx hb ht in_X ty_X tk_X nm_X hown hK.1 hP hS f1 rfl 6 (by decide) (ht _ fl_X_X_method) (fun _ h9 => h9) rfl hin rfl (by decide +kernel) rfl rfl (Nat.le_of_ble_eq_true rfl) d_X_init_22 (fun H locs hP hS => ?_)
  obtain ⟨G2, eG2⟩ : ∃ z : gw_G, z = va_up G1 a (some (.inr (3, [.int v, .int 0, .null, .int 0, .int (nI t), .ref q, .ref mt]))) := ⟨_, rfl⟩
  have hP : gw_P D vwCl (gw_A G s.heap.size) G2 H := by rw [eG2]; exact hP
  have f2 : G2 a = some (.inr (3, [.int v, .int 0, .null, .int 0, .int (nI t), .ref q, .ref mt])) := by rw [eG2]; exact va_up_self _ _ _
  have e9 : G2 = va_up (va_up G q (some (.inl (cV, t + d, qv (fun _ => none))))) a (some (.inr (3, [.int v, .int 0, .null, .int 0, .int (nI t), .ref q, .ref mt]))) := by rw [eG2, eG1, va_up_up]
  refine W.widen (k := 1) (n := 94) (by omega) (by omega) ?_
  exact W.vret hx hb hr (fun t ht hW => ⟨⟨G2, rfl, ⟨q, hq, e9⟩, g_fin ht hP⟩, hS.F ht⟩) hS.2.2 d_X_init_25
set_option maxHeartbeats 4000000 in
set_option maxRecDepth 100000 in
theorem k_X_init_R (l : Launch) {a mt : Nat} (ha : G a = some (.inr (3, [.int 0, .int 0, .null, .int 0, .int 0, .null, .null]))) (ht0 : tys[0]? = some (cV, .object "StackRoom$Value")) {m0 m1 : Int32} {t d : Nat} (hmt : G mt = some (.inr (kM, [.int m0, .int m1, .int (nI t), .int (nI d)]))) (sd : Nat) (v : Int32) (hk : t + d ≤ 94) : Met l y_X_init w_X_init ({ frames := 4, cells := 1, slots := 94, locals := 86 }) (g_pre D tys G sz [.ref a, .int v, .ref mt, .ref sd]) (va_Qv (fun G1 : gw_G => ∃ q, G q = none ∧ G1 = va_up (va_up G q (some (.inl (cV, t + d, qv (fun _ => none))))) a (some (.inr (3, [.int v, .int 0, .ref sd, .int 0, .int (nI t), .ref q, .ref mt])))) (g_end D G sz) (gw_A G sz)) 1 94 (gw_A G sz) := by
  refine Met.ofW (cc := b_X_init) (maxL := 4) (ret := none) (by decide) rfl ?_
  intro p e s m args below meth c s₁ B hml hv
  obtain ⟨rfl, hsz, hP, hK⟩ := hv
  have hx := B.exec
  have hb := B.bytes
  have hr := B.returns
  have ht := fun w (hw : w ∈ gt) => atoms_spec (ws := w_X_init) B.pre w (List.mem_cons_of_mem _ hw)
  have hown : s.vm.findClass "StackRoom$MethodContext" = some m.cls := findClass_of_methodNamed B.named
  have hlocks := B.notSynchronized
  have hin : meth.name = "<init>" := (name_of_methodNamed B.named B.method).1
  have C0 : CallFix p m c b_X_init 4 s [.ref a, .int v, .ref mt, .ref sd].toArray gt "StackRoom$MethodContext" := ⟨hx, hb, hml, hown, ht⟩
  subst hsz
  have hP := hP.self (sz := s.heap.size)
  have hA : ∀ q : Nat, s.heap.size ≤ q → gw_A G s.heap.size q := fun q h => Or.inr h
  have hS : va_S (gw_A G s.heap.size) s.heap s.heap [] := va_S.rf
  have hl := lv_entry ([.ref a, .int v, .ref mt, .ref sd]) (n := 4) (Nat.le_of_ble_eq_true rfl)
  rw [lg_entry_eq]
  generalize (lg_sl ([.ref a, .int v, .ref mt, .ref sd]) ++ List.replicate (4 - (lg_sl ([.ref a, .int v, .ref mt, .ref sd])).length) Slot.unset).toArray = ls at hl ⊢
  have hl : lv_has ls 4 [(0, .ref a), (1, .int v), (2, .ref mt), (3, .ref sd)] := hl
  refine lv_aload_n hx hb d_X_init_0 rfl (lv_at hl 0 rfl) ?_
  refine lv_iload_n hx hb d_X_init_1 rfl (lv_at hl 1 rfl) ?_
  refine lv_aload_n hx hb d_X_init_2 rfl (lv_at hl 3 rfl) ?_
  refine lv_iconst (v := 0) hx hb d_X_init_3 (by decide) ?_
  refine lv_aload_n hx hb d_X_init_4 rfl (lv_at hl 2 rfl) ?_
  refine va_getN (D := D) (ci := 2) (C := "StackRoom$Method") (T := T_M) (N := 4) (v := .int (nI t)) hx hb ht in_M hown hK.1 (hP.one hmt) 0 rfl rfl 2 (by decide) (va_Nw.use rfl (hK.2.1 _ fn_X_M_temporaries)) (fun _ h9 => h9) rfl d_X_init_5 ?_
  refine lv_aload_n hx hb d_X_init_8 rfl (lv_at hl 2 rfl) ?_
  refine va_getN (D := D) (ci := 2) (C := "StackRoom$Method") (T := T_M) (N := 4) (v := .int (nI t)) hx hb ht in_M hown hK.1 (hP.one hmt) 0 rfl rfl 2 (by decide) (va_Nw.use rfl (hK.2.1 _ fn_X_M_temporaries)) (fun _ h9 => h9) rfl d_X_init_9 ?_
  refine lv_aload_n hx hb d_X_init_12 rfl (lv_at hl 2 rfl) ?_
  refine va_getN (D := D) (ci := 2) (C := "StackRoom$Method") (T := T_M) (N := 4) (v := .int (nI d)) hx hb ht in_M hown hK.1 (hP.one hmt) 0 rfl rfl 3 (by decide) (va_Nw.use rfl (hK.2.1 _ fn_X_M_depth)) (fun _ h9 => h9) rfl d_X_init_13 ?_
  refine lv_iadd hx hb d_X_init_16 ?_
  rw [nI_add]
  refine g_callv hP hS hA (r_I (rest := []) C0 [.int v, .ref sd, .int 0, .int (nI t), .int (nI (t + d))] (k_C_init_XR l ha ht0 sd v 0 (nI t) (Or.inl rfl) (k := t + d) (by omega)) ml_X_C_init im_C_init ini_C co_C_init rfl hd_C_init (g_preS hK hP) hl.1 d_X_init_17 rfl rfl (Nat.le_of_ble_eq_true rfl) ⟨rfl, rfl⟩ ⟨Nat.le_of_ble_eq_true rfl, Nat.le_of_ble_eq_true rfl⟩ ⟨Nat.le_of_ble_eq_true rfl, Nat.le_of_ble_eq_true rfl⟩) (fun G1 H locs eG1 hP hS hz9 hk9 => ?_)
  obtain ⟨q, hq, eG1⟩ := eG1
  have f1 : G1 a = some (.inr (3, [.int v, .int 0, .ref sd, .int 0, .int (nI t), .ref q, .null])) := by rw [eG1]; exact va_up_self _ _ _
  refine lv_aload_n hx hb d_X_init_20 rfl (lv_at hl 0 rfl) ?_
  refine lv_aload_n hx hb d_X_init_21 rfl (lv_at hl 2 rfl) ?_
  refine gw_putF (D := D) (cl := vwCl) (ci := 3) (C := "StackRoom$MethodContext") (T := T_X) (N := 7) (v := .ref mt) (ty := .object "StackRoom$Method") hx hb ht in_X ty_X tk_X nm_X hown hK.1 hP hS f1 rfl 6 (by decide) (ht _ fl_X_X_method) (fun _ h9 => h9) rfl hin rfl (by decide +kernel) rfl rfl (Nat.le_of_ble_eq_true rfl) d_X_init_22 (fun H locs hP hS => ?_)
  obtain ⟨G2, eG2⟩ : ∃ z : gw_G, z = va_up G1 a (some (.inr (3, [.int v, .int 0, .ref sd, .int 0, .int (nI t), .ref q, .ref mt]))) := ⟨_, rfl⟩
  have hP : gw_P D vwCl (gw_A G s.heap.size) G2 H := by rw [eG2]; exact hP
  have f2 : G2 a = some (.inr (3, [.int v, .int 0, .ref sd, .int 0, .int (nI t), .ref q, .ref mt])) := by rw [eG2]; exact va_up_self _ _ _
  have e9 : G2 = va_up (va_up G q (some (.inl (cV, t + d, qv (fun _ => none))))) a (some (.inr (3, [.int v, .int 0, .ref sd, .int 0, .int (nI t), .ref q, .ref mt]))) := by rw [eG2, eG1, va_up_up]
  refine W.widen (k := 1) (n := 94) (by omega) (by omega) ?_
  exact W.vret hx hb hr (fun t ht hW => ⟨⟨G2, rfl, ⟨q, hq, e9⟩, g_fin ht hP⟩, hS.F ht⟩) hS.2.2 d_X_init_25
theorem k_X_init (l : Launch) {a mt : Nat} (ha : G a = some (.inr (3, [.int 0, .int 0, .null, .int 0, .int 0, .null, .null]))) (ht0 : tys[0]? = some (cV, .object "StackRoom$Value")) {m0 m1 : Int32} {t d : Nat} (hmt : G mt = some (.inr (kM, [.int m0, .int m1, .int (nI t), .int (nI d)]))) (sd : Option Nat) (v : Int32) (hk : t + d ≤ 94) : Met l y_X_init w_X_init ({ frames := 4, cells := 1, slots := 94, locals := 86 }) (g_pre D tys G sz [.ref a, .int v, .ref mt, va_rf sd]) (va_Qv (fun G1 : gw_G => ∃ q, G q = none ∧ G1 = va_up (va_up G q (some (.inl (cV, t + d, qv (fun _ => none))))) a (some (.inr (3, [.int v, .int 0, va_rf sd, .int 0, .int (nI t), .ref q, .ref mt])))) (g_end D G sz) (gw_A G sz)) 1 94 (gw_A G sz) := by
  cases sd with
  | none => exact k_X_init_N l ha ht0 hmt v hk
  | some sd => exact k_X_init_R l ha ht0 hmt sd v hk
set_option maxHeartbeats 4000000 in
set_option maxRecDepth 100000 in
theorem k_B_init (l : Launch) {a hm mt : Nat} (ha : G a = some (.inr (4, [.int 0, .int 0, .null, .int 0, .int 0, .null, .null, .int 0]))) (ht0 : tys[0]? = some (cV, .object "StackRoom$Value")) {h0 h1 h3 h4 m0 m1 m2 : Int32} {hs : Value} {h5 d : Nat} (hhm : G hm = some (.inr (kC, [.int h0, .int h1, hs, .int h3, .int h4, .ref h5, .ref mt]))) (hmt : G mt = some (.inr (kM, [.int m0, .int m1, .int m2, .int (nI d)]))) (v k : Int32) (hk : d ≤ 94) : Met l y_B_init w_B_init ({ frames := 4, cells := 1, slots := 94, locals := 86 }) (g_pre D tys G sz [.ref a, .int v, .ref hm, .int k]) (va_Qv (fun G1 : gw_G => ∃ q, G q = none ∧ G1 = va_up (va_up G q (some (.inl (cV, d, qv (fun _ => none))))) a (some (.inr (4, [.int v, .int 0, .null, .int 1, .int 0, .ref q, .ref hm, .int k])))) (g_end D G sz) (gw_A G sz)) 1 94 (gw_A G sz) := by
  refine Met.ofW (cc := b_B_init) (maxL := 4) (ret := none) (by decide) rfl ?_
  intro p e s m args below meth c s₁ B hml hv
  obtain ⟨rfl, hsz, hP, hK⟩ := hv
  have hx := B.exec
  have hb := B.bytes
  have hr := B.returns
  have ht := fun w (hw : w ∈ gt) => atoms_spec (ws := w_B_init) B.pre w (List.mem_cons_of_mem _ hw)
  have hown : s.vm.findClass "StackRoom$BlockContext" = some m.cls := findClass_of_methodNamed B.named
  have hlocks := B.notSynchronized
  have hin : meth.name = "<init>" := (name_of_methodNamed B.named B.method).1
  have C0 : CallFix p m c b_B_init 4 s [.ref a, .int v, .ref hm, .int k].toArray gt "StackRoom$BlockContext" := ⟨hx, hb, hml, hown, ht⟩
  subst hsz
  have hP := hP.self (sz := s.heap.size)
  have hA : ∀ q : Nat, s.heap.size ≤ q → gw_A G s.heap.size q := fun q h => Or.inr h
  have hS : va_S (gw_A G s.heap.size) s.heap s.heap [] := va_S.rf
  have hl := lv_entry ([.ref a, .int v, .ref hm, .int k]) (n := 4) (Nat.le_of_ble_eq_true rfl)
  rw [lg_entry_eq]
  generalize (lg_sl ([.ref a, .int v, .ref hm, .int k]) ++ List.replicate (4 - (lg_sl ([.ref a, .int v, .ref hm, .int k])).length) Slot.unset).toArray = ls at hl ⊢
  have hl : lv_has ls 4 [(0, .ref a), (1, .int v), (2, .ref hm), (3, .int k)] := hl
  refine lv_aload_n hx hb d_B_init_0 rfl (lv_at hl 0 rfl) ?_
  refine lv_iload_n hx hb d_B_init_1 rfl (lv_at hl 1 rfl) ?_
  refine lv_null hx hb d_B_init_2 ?_
  refine lv_iconst (v := 1) hx hb d_B_init_3 (by decide) ?_
  refine lv_iconst (v := 0) hx hb d_B_init_4 (by decide) ?_
  refine lv_aload_n hx hb d_B_init_5 rfl (lv_at hl 2 rfl) ?_
  refine va_getN (D := D) (ci := 3) (C := "StackRoom$MethodContext") (T := T_X) (N := 7) (v := .ref mt) hx hb ht in_X hown hK.1 (hP.one hhm) 0 rfl rfl 6 (by decide) (va_Nw.use rfl (hK.2.1 _ fn_B_X_method)) (fun _ h9 => h9) rfl d_B_init_6 ?_
  refine va_getN (D := D) (ci := 2) (C := "StackRoom$Method") (T := T_M) (N := 4) (v := .int (nI d)) hx hb ht in_M hown hK.1 (hP.one hmt) 0 rfl rfl 3 (by decide) (va_Nw.use rfl (hK.2.1 _ fn_B_M_depth)) (fun _ h9 => h9) rfl d_B_init_9 ?_
  refine g_callv hP hS hA (r_I (rest := []) C0 [.int v, .null, .int 1, .int 0, .int (nI d)] (k_C_init_BN l ha ht0 v 1 0 (Or.inr rfl) (k := d) (by omega)) ml_B_C_init im_C_init ini_C co_C_init rfl hd_C_init (g_preS hK hP) hl.1 d_B_init_12 rfl rfl (Nat.le_of_ble_eq_true rfl) ⟨rfl, rfl⟩ ⟨Nat.le_of_ble_eq_true rfl, Nat.le_of_ble_eq_true rfl⟩ ⟨Nat.le_of_ble_eq_true rfl, Nat.le_of_ble_eq_true rfl⟩) (fun G1 H locs eG1 hP hS hz9 hk9 => ?_)
  obtain ⟨q, hq, eG1⟩ := eG1
  have f1 : G1 a = some (.inr (4, [.int v, .int 0, .null, .int 1, .int 0, .ref q, .null, .int 0])) := by rw [eG1]; exact va_up_self _ _ _
  refine lv_aload_n hx hb d_B_init_15 rfl (lv_at hl 0 rfl) ?_
  refine lv_aload_n hx hb d_B_init_16 rfl (lv_at hl 2 rfl) ?_
  refine gw_putF (D := D) (cl := vwCl) (ci := 4) (C := "StackRoom$BlockContext") (T := T_B) (N := 8) (v := .ref hm) (ty := .object "StackRoom$MethodContext") hx hb ht in_B ty_B tk_B nm_B hown hK.1 hP hS f1 rfl 6 (by decide) (ht _ fl_B_B_home) (fun _ h9 => h9) rfl hin rfl (by decide +kernel) rfl rfl (Nat.le_of_ble_eq_true rfl) d_B_init_17 (fun H locs hP hS => ?_)
  obtain ⟨G2, eG2⟩ : ∃ z : gw_G, z = va_up G1 a (some (.inr (4, [.int v, .int 0, .null, .int 1, .int 0, .ref q, .ref hm, .int 0]))) := ⟨_, rfl⟩
  have hP : gw_P D vwCl (gw_A G s.heap.size) G2 H := by rw [eG2]; exact hP
  have f2 : G2 a = some (.inr (4, [.int v, .int 0, .null, .int 1, .int 0, .ref q, .ref hm, .int 0])) := by rw [eG2]; exact va_up_self _ _ _
  refine lv_aload_n hx hb d_B_init_20 rfl (lv_at hl 0 rfl) ?_
  refine lv_iload_n hx hb d_B_init_21 rfl (lv_at hl 3 rfl) ?_
  refine gw_putF (D := D) (cl := vwCl) (ci := 4) (C := "StackRoom$BlockContext") (T := T_B) (N := 8) (v := .int k) (ty := .int) hx hb ht in_B ty_B tk_B nm_B hown hK.1 hP hS f2 rfl 7 (by decide) (ht _ fl_B_B_count) (fun _ h9 => h9) rfl hin rfl (by decide +kernel) rfl rfl (Nat.le_of_ble_eq_true rfl) d_B_init_22 (fun H locs hP hS => ?_)
  obtain ⟨G3, eG3⟩ : ∃ z : gw_G, z = va_up G2 a (some (.inr (4, [.int v, .int 0, .null, .int 1, .int 0, .ref q, .ref hm, .int k]))) := ⟨_, rfl⟩
  have hP : gw_P D vwCl (gw_A G s.heap.size) G3 H := by rw [eG3]; exact hP
  have f3 : G3 a = some (.inr (4, [.int v, .int 0, .null, .int 1, .int 0, .ref q, .ref hm, .int k])) := by rw [eG3]; exact va_up_self _ _ _
  have e9 : G3 = va_up (va_up G q (some (.inl (cV, d, qv (fun _ => none))))) a (some (.inr (4, [.int v, .int 0, .null, .int 1, .int 0, .ref q, .ref hm, .int k]))) := by rw [eG3, eG2, eG1, va_up_up, va_up_up]
  refine W.widen (k := 1) (n := 94) (by omega) (by omega) ?_
  exact W.vret hx hb hr (fun t ht hW => ⟨⟨G3, rfl, ⟨q, hq, e9⟩, g_fin ht hP⟩, hS.F ht⟩) hS.2.2 d_B_init_25
end K13
