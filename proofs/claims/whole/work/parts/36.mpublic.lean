/-- the reference's cells hold the state -/
def m_R (w n : Nat) (cI cB cZ : ClassId) (σ : sS) (x : Nat) (G : gw_G) : Prop := ∃ (adr : Nat → Nat) (ar : Nat → Nat → Int32) (sl bg : Nat → Nat) (U : Nat) (r0 r1 r2 r3 : Int32), m_Arr cI cB cZ x w n (s_md σ) adr (nI U) r0 r1 r2 r3 ar G ∧ m_Sem (s_rch σ) σ sl bg U ar
theorem z_k {d : Int32} (h : d = 0 ∨ d = 1) : vp_nar .boolean d = d := by rcases h with rfl | rfl <;> decide
section K36
variable {cI cB cZ : ClassId} {x w n md : Nat} {adr : Nat → Nat} {us r0 r1 r2 r3 : Int32} {ar : Nat → Nat → Int32} {G : gw_G} {σ : sS} {sl bg : Nat → Nat} {U : Nat} {D : va_G} {tys : List (ClassId × FieldType)} {sz : Nat}
variable {R : Nat → Prop}
set_option maxHeartbeats 4000000 in
set_option maxRecDepth 100000 in
theorem k_R_number (l : Launch) (hR0 : m_R w n cI cB cZ σ x G) (hO : s_OK w n σ) (hV : s_NV σ) (hw : 128 ≤ w ∧ w ≤ 32768) (hn : 16 ≤ n ∧ n ≤ 4096) (hm : s_md σ + 2 < 2 ^ 31) (ht2 : tys[2]? = some (cI, .int)) (ht3 : tys[3]? = some (cB, .byte)) (ht4 : tys[4]? = some (cZ, .boolean)) (r v : Int32) : Met l y_R_number w_R_number ({ frames := 1, cells := 0, slots := 0, locals := 20 }) (g_pre D tys G sz [.ref x, .int r, .int v]) (va_Qi (fun (rz : Int32) (G1 : gw_G) => rz = (p_number σ r v).1 ∧ m_R w n cI cB cZ (p_number σ r v).2 x G1) (g_end D G sz) (gw_A G sz)) 0 0 (gw_A G sz) := by
  refine Met.ofW (cc := b_R_number) (maxL := 3) (ret := (some .boolean)) (by decide) rfl ?_
  intro p e s m args below meth c s₁ B hml hv
  obtain ⟨rfl, hsz, hP, hK⟩ := hv
  have hx := B.exec
  have hb := B.bytes
  have hr := B.returns
  have ht := fun w (hw : w ∈ gt) => atoms_spec (ws := w_R_number) B.pre w (List.mem_cons_of_mem _ hw)
  have hown : s.vm.findClass "StackRoomModel" = some m.cls := findClass_of_methodNamed B.named
  have hlocks := B.notSynchronized
  have C0 : CallFix p m c b_R_number 3 s [.ref x, .int r, .int v].toArray gt "StackRoomModel" := ⟨hx, hb, hml, hown, ht⟩
  subst hsz
  have hP := hP.self (sz := s.heap.size)
  have hA : ∀ q : Nat, s.heap.size ≤ q → gw_A G s.heap.size q := fun q h => Or.inr h
  have hS : va_S (gw_A G s.heap.size) s.heap s.heap [] := va_S.rf
  have hl := lv_entry ([.ref x, .int r, .int v]) (n := 3) (Nat.le_of_ble_eq_true rfl)
  rw [lg_entry_eq]
  generalize (lg_sl ([.ref x, .int r, .int v]) ++ List.replicate (3 - (lg_sl ([.ref x, .int r, .int v])).length) Slot.unset).toArray = ls at hl ⊢
  have hl : lv_has ls 3 [(0, .ref x), (1, .int r), (2, .int v)] := hl
  obtain ⟨adr, ar, sl, bg, U, r0, r1, r2, r3, hM, hE⟩ := hR0
  refine lv_iload_n hx hb d_R_number_0 rfl (lv_at hl 1 rfl) ?_
  refine vp_callSi (va_Run.run (r_S (rest := []) C0 [.int r] (k_R_isRegister l r) ml_R_R_isRegister st_R_isRegister ini_R co_R_isRegister hd_R_isRegister v_preS hl.1 d_R_number_1 rfl rfl (Nat.le_of_ble_eq_true rfl) ⟨rfl, rfl⟩ ⟨Nat.le_of_ble_eq_true rfl, Nat.le_of_ble_eq_true rfl⟩ ⟨Nat.le_of_ble_eq_true rfl, Nat.le_of_ble_eq_true rfl⟩)) (fun q1 eq1 => ?_)
  refine lv_if_eq (tgt := 14) hx hb d_R_number_4 (by decide) (fun c1 => ?_) (fun c1 => ?_)
  · have hreg : ¬ (0 ≤ r ∧ r ≤ 15) := fun h => absurd (eq1.symm.trans c1) (by rw [if_pos h]; decide)
    refine lv_iconst (v := 0) hx hb d_R_number_14 (by decide) ?_
    exact W.zret (v := 0) hx hb hr rfl (fun t ht hW => ⟨⟨_, G, rfl, (by rw [show p_number σ r v = (0, σ) from (by unfold p_number; rw [if_neg (fun z => hreg z.1)])]; exact ⟨rfl, adr, ar, sl, bg, U, r0, r1, r2, r3, hM, hE⟩), g_fin ht hP⟩, hS.F ht⟩) hS.2.2 d_R_number_15
  · have hreg : 0 ≤ r ∧ r ≤ 15 := Decidable.byContradiction (fun h => c1 (eq1.trans (if_neg h)))
    refine lv_iload_n hx hb d_R_number_7 rfl (lv_at hl 2 rfl) ?_
    refine vp_callSi (va_Run.run (r_S (rest := []) C0 [.int v] (k_R_isNumber l v) ml_R_R_isNumber st_R_isNumber ini_R co_R_isNumber hd_R_isNumber v_preS hl.1 d_R_number_8 rfl rfl (Nat.le_of_ble_eq_true rfl) ⟨rfl, rfl⟩ ⟨Nat.le_of_ble_eq_true rfl, Nat.le_of_ble_eq_true rfl⟩ ⟨Nat.le_of_ble_eq_true rfl, Nat.le_of_ble_eq_true rfl⟩)) (fun q8 eq8 => ?_)
    refine lv_if_ne (tgt := 16) hx hb d_R_number_11 (by decide) (fun c8 => ?_) (fun c8 => ?_)
    · have hnum : -1073741824 ≤ v ∧ v ≤ 1073741823 := Decidable.byContradiction (fun h => c8 (eq8.trans (if_neg h)))
      refine lv_aload_n hx hb d_R_number_16 rfl (lv_at hl 0 rfl) ?_
      refine va_get (D := D) (ci := 5) (C := "StackRoomModel") (T := T_R) (N := 25) (v := .ref (adr 3)) hx hb ht in_R hown hK.1 (hP.one hM.1) 0 rfl rfl 3 (by decide) (ht _ fl_R_R_registers) (fun _ h9 => h9) rfl d_R_number_17 ?_
      refine lv_iload_n hx hb d_R_number_20 rfl (lv_at hl 1 rfl) ?_
      refine lv_iload_n hx hb d_R_number_21 rfl (lv_at hl 2 rfl) ?_
      refine vp_callSi (va_Run.run (r_S (rest := [.int r, .ref (adr 3)]) C0 [.int v] (k_R_numeral l v) ml_R_R_numeral st_R_numeral ini_R co_R_numeral hd_R_numeral v_preS hl.1 d_R_number_22 rfl rfl (Nat.le_of_ble_eq_true rfl) ⟨rfl, rfl⟩ ⟨Nat.le_of_ble_eq_true rfl, Nat.le_of_ble_eq_true rfl⟩ ⟨Nat.le_of_ble_eq_true rfl, Nat.le_of_ble_eq_true rfl⟩)) (fun qn en => ?_)
      subst en
      refine gw_iast hx hb hK.1 hP hS 2 hM.a3 ht2 (m_rin hreg) d_R_number_25 (fun H locs hP hS => ?_)
      obtain ⟨G1, eG1⟩ : ∃ z : gw_G, z = va_up G (adr 3) (some (.inl (cI, 16, .inl (upd (ar 3) (r.toNatClampNeg) (m_val sl (some (.inl v))))))) := ⟨_, rfl⟩
      replace hP : gw_P D vwCl (gw_A G s.heap.size) G1 H := by rw [eG1]; exact hP
      obtain ⟨ar1, ear1⟩ : ∃ z : Nat → Nat → Int32, z = va_up ar 3 (upd (ar 3) (r.toNatClampNeg) (m_val sl (some (.inl v)))) := ⟨_, rfl⟩
      have hM1 : m_Arr cI cB cZ x w n (s_md σ) adr (nI U) (r0) (r1) (r2) (r3) ar1 G1 := by rw [eG1, ear1]; exact hM.put (k := 3) (by decide) _
      have hE1 : m_Sem (s_rch (s_put σ r (some (.inl v)))) (s_put σ r (some (.inl v))) sl bg U ar1 := by rw [ear1]; exact (hE.reg _ _).mono (fun _ h => s_setR_rch (fun j e => by cases e) h)
      refine lv_iconst (v := 1) hx hb d_R_number_26 (by decide) ?_
      exact W.zret (v := 1) hx hb hr rfl (fun t ht hW => ⟨⟨_, G1, rfl, (by rw [show p_number σ r v = (1, s_put σ r (some (.inl v))) from (by unfold p_number; rw [if_pos ⟨hreg, hnum⟩])]; exact ⟨rfl, adr, ar1, sl, bg, U, _, _, _, _, hM1, hE1⟩), g_fin ht hP⟩, hS.F ht⟩) hS.2.2 d_R_number_27
    · have hnum : ¬ (-1073741824 ≤ v ∧ v ≤ 1073741823) := fun h => absurd (eq8.symm.trans c8) (by rw [if_pos h]; decide)
      refine lv_iconst (v := 0) hx hb d_R_number_14 (by decide) ?_
      exact W.zret (v := 0) hx hb hr rfl (fun t ht hW => ⟨⟨_, G, rfl, (by rw [show p_number σ r v = (0, σ) from (by unfold p_number; rw [if_neg (fun z => hnum z.2)])]; exact ⟨rfl, adr, ar, sl, bg, U, r0, r1, r2, r3, hM, hE⟩), g_fin ht hP⟩, hS.F ht⟩) hS.2.2 d_R_number_15
set_option maxHeartbeats 4000000 in
set_option maxRecDepth 100000 in
theorem k_R_move (l : Launch) (hR0 : m_R w n cI cB cZ σ x G) (hO : s_OK w n σ) (hV : s_NV σ) (hw : 128 ≤ w ∧ w ≤ 32768) (hn : 16 ≤ n ∧ n ≤ 4096) (hm : s_md σ + 2 < 2 ^ 31) (ht2 : tys[2]? = some (cI, .int)) (ht3 : tys[3]? = some (cB, .byte)) (ht4 : tys[4]? = some (cZ, .boolean)) (r f : Int32) : Met l y_R_move w_R_move ({ frames := 1, cells := 0, slots := 0, locals := 20 }) (g_pre D tys G sz [.ref x, .int r, .int f]) (va_Qi (fun (rz : Int32) (G1 : gw_G) => rz = (p_move σ r f).1 ∧ m_R w n cI cB cZ (p_move σ r f).2 x G1) (g_end D G sz) (gw_A G sz)) 0 0 (gw_A G sz) := by
  refine Met.ofW (cc := b_R_move) (maxL := 3) (ret := (some .boolean)) (by decide) rfl ?_
  intro p e s m args below meth c s₁ B hml hv
  obtain ⟨rfl, hsz, hP, hK⟩ := hv
  have hx := B.exec
  have hb := B.bytes
  have hr := B.returns
  have ht := fun w (hw : w ∈ gt) => atoms_spec (ws := w_R_move) B.pre w (List.mem_cons_of_mem _ hw)
  have hown : s.vm.findClass "StackRoomModel" = some m.cls := findClass_of_methodNamed B.named
  have hlocks := B.notSynchronized
  have C0 : CallFix p m c b_R_move 3 s [.ref x, .int r, .int f].toArray gt "StackRoomModel" := ⟨hx, hb, hml, hown, ht⟩
  subst hsz
  have hP := hP.self (sz := s.heap.size)
  have hA : ∀ q : Nat, s.heap.size ≤ q → gw_A G s.heap.size q := fun q h => Or.inr h
  have hS : va_S (gw_A G s.heap.size) s.heap s.heap [] := va_S.rf
  have hl := lv_entry ([.ref x, .int r, .int f]) (n := 3) (Nat.le_of_ble_eq_true rfl)
  rw [lg_entry_eq]
  generalize (lg_sl ([.ref x, .int r, .int f]) ++ List.replicate (3 - (lg_sl ([.ref x, .int r, .int f])).length) Slot.unset).toArray = ls at hl ⊢
  have hl : lv_has ls 3 [(0, .ref x), (1, .int r), (2, .int f)] := hl
  obtain ⟨adr, ar, sl, bg, U, r0, r1, r2, r3, hM, hE⟩ := hR0
  refine lv_iload_n hx hb d_R_move_0 rfl (lv_at hl 1 rfl) ?_
  refine vp_callSi (va_Run.run (r_S (rest := []) C0 [.int r] (k_R_isRegister l r) ml_R_R_isRegister st_R_isRegister ini_R co_R_isRegister hd_R_isRegister v_preS hl.1 d_R_move_1 rfl rfl (Nat.le_of_ble_eq_true rfl) ⟨rfl, rfl⟩ ⟨Nat.le_of_ble_eq_true rfl, Nat.le_of_ble_eq_true rfl⟩ ⟨Nat.le_of_ble_eq_true rfl, Nat.le_of_ble_eq_true rfl⟩)) (fun q1 eq1 => ?_)
  refine lv_if_eq (tgt := 14) hx hb d_R_move_4 (by decide) (fun c1 => ?_) (fun c1 => ?_)
  · have hreg : ¬ (0 ≤ r ∧ r ≤ 15) := fun h => absurd (eq1.symm.trans c1) (by rw [if_pos h]; decide)
    refine lv_iconst (v := 0) hx hb d_R_move_14 (by decide) ?_
    exact W.zret (v := 0) hx hb hr rfl (fun t ht hW => ⟨⟨_, G, rfl, (by rw [show p_move σ r f = (0, σ) from (by unfold p_move; rw [if_neg (fun z => hreg z.1)])]; exact ⟨rfl, adr, ar, sl, bg, U, r0, r1, r2, r3, hM, hE⟩), g_fin ht hP⟩, hS.F ht⟩) hS.2.2 d_R_move_15
  · have hreg : 0 ≤ r ∧ r ≤ 15 := Decidable.byContradiction (fun h => c1 (eq1.trans (if_neg h)))
    refine lv_iload_n hx hb d_R_move_7 rfl (lv_at hl 2 rfl) ?_
    refine vp_callSi (va_Run.run (r_S (rest := []) C0 [.int f] (k_R_isRegister l f) ml_R_R_isRegister st_R_isRegister ini_R co_R_isRegister hd_R_isRegister v_preS hl.1 d_R_move_8 rfl rfl (Nat.le_of_ble_eq_true rfl) ⟨rfl, rfl⟩ ⟨Nat.le_of_ble_eq_true rfl, Nat.le_of_ble_eq_true rfl⟩ ⟨Nat.le_of_ble_eq_true rfl, Nat.le_of_ble_eq_true rfl⟩)) (fun q8 eq8 => ?_)
    refine lv_if_ne (tgt := 16) hx hb d_R_move_11 (by decide) (fun c8 => ?_) (fun c8 => ?_)
    · have hregf : 0 ≤ f ∧ f ≤ 15 := Decidable.byContradiction (fun h => c8 (eq8.trans (if_neg h)))
      refine lv_aload_n hx hb d_R_move_16 rfl (lv_at hl 0 rfl) ?_
      refine va_get (D := D) (ci := 5) (C := "StackRoomModel") (T := T_R) (N := 25) (v := .ref (adr 3)) hx hb ht in_R hown hK.1 (hP.one hM.1) 0 rfl rfl 3 (by decide) (ht _ fl_R_R_registers) (fun _ h9 => h9) rfl d_R_move_17 ?_
      refine lv_iload_n hx hb d_R_move_20 rfl (lv_at hl 1 rfl) ?_
      refine lv_aload_n hx hb d_R_move_21 rfl (lv_at hl 0 rfl) ?_
      refine va_get (D := D) (ci := 5) (C := "StackRoomModel") (T := T_R) (N := 25) (v := .ref (adr 3)) hx hb ht in_R hown hK.1 (hP.one hM.1) 0 rfl rfl 3 (by decide) (ht _ fl_R_R_registers) (fun _ h9 => h9) rfl d_R_move_22 ?_
      refine lv_iload_n hx hb d_R_move_25 rfl (lv_at hl 2 rfl) ?_
      refine va_iald hx hb hK.1 (hP.one hM.a3) 0 2 rfl ht2 (m_rin hregf) d_R_move_26 ?_
      rw [hE.1 _ (s_reg hregf)]
      refine gw_iast hx hb hK.1 hP hS 2 hM.a3 ht2 (m_rin hreg) d_R_move_27 (fun H locs hP hS => ?_)
      obtain ⟨G1, eG1⟩ : ∃ z : gw_G, z = va_up G (adr 3) (some (.inl (cI, 16, .inl (upd (ar 3) (r.toNatClampNeg) (m_val sl (s_get σ f)))))) := ⟨_, rfl⟩
      replace hP : gw_P D vwCl (gw_A G s.heap.size) G1 H := by rw [eG1]; exact hP
      obtain ⟨ar1, ear1⟩ : ∃ z : Nat → Nat → Int32, z = va_up ar 3 (upd (ar 3) (r.toNatClampNeg) (m_val sl (s_get σ f))) := ⟨_, rfl⟩
      have hM1 : m_Arr cI cB cZ x w n (s_md σ) adr (nI U) (r0) (r1) (r2) (r3) ar1 G1 := by rw [eG1, ear1]; exact hM.put (k := 3) (by decide) _
      have hE1 : m_Sem (s_rch (s_put σ r (s_get σ f))) (s_put σ r (s_get σ f)) sl bg U ar1 := by rw [ear1]; exact (hE.reg _ _).mono (fun _ h => s_setR_rch (fun j e => s_get_rch hregf e) h)
      refine lv_iconst (v := 1) hx hb d_R_move_28 (by decide) ?_
      exact W.zret (v := 1) hx hb hr rfl (fun t ht hW => ⟨⟨_, G1, rfl, (by rw [show p_move σ r f = (1, s_put σ r (s_get σ f)) from (by unfold p_move; rw [if_pos ⟨hreg, hregf⟩])]; exact ⟨rfl, adr, ar1, sl, bg, U, _, _, _, _, hM1, hE1⟩), g_fin ht hP⟩, hS.F ht⟩) hS.2.2 d_R_move_29
    · have hregf : ¬ (0 ≤ f ∧ f ≤ 15) := fun h => absurd (eq8.symm.trans c8) (by rw [if_pos h]; decide)
      refine lv_iconst (v := 0) hx hb d_R_move_14 (by decide) ?_
      exact W.zret (v := 0) hx hb hr rfl (fun t ht hW => ⟨⟨_, G, rfl, (by rw [show p_move σ r f = (0, σ) from (by unfold p_move; rw [if_neg (fun z => hregf z.2)])]; exact ⟨rfl, adr, ar, sl, bg, U, r0, r1, r2, r3, hM, hE⟩), g_fin ht hP⟩, hS.F ht⟩) hS.2.2 d_R_move_15
set_option maxHeartbeats 4000000 in
set_option maxRecDepth 100000 in
theorem k_R_clear (l : Launch) (hR0 : m_R w n cI cB cZ σ x G) (hO : s_OK w n σ) (hV : s_NV σ) (hw : 128 ≤ w ∧ w ≤ 32768) (hn : 16 ≤ n ∧ n ≤ 4096) (hm : s_md σ + 2 < 2 ^ 31) (ht2 : tys[2]? = some (cI, .int)) (ht3 : tys[3]? = some (cB, .byte)) (ht4 : tys[4]? = some (cZ, .boolean)) (r : Int32) : Met l y_R_clear w_R_clear ({ frames := 1, cells := 0, slots := 0, locals := 20 }) (g_pre D tys G sz [.ref x, .int r]) (va_Qi (fun (rz : Int32) (G1 : gw_G) => rz = (p_clear σ r).1 ∧ m_R w n cI cB cZ (p_clear σ r).2 x G1) (g_end D G sz) (gw_A G sz)) 0 0 (gw_A G sz) := by
  refine Met.ofW (cc := b_R_clear) (maxL := 2) (ret := (some .boolean)) (by decide) rfl ?_
  intro p e s m args below meth c s₁ B hml hv
  obtain ⟨rfl, hsz, hP, hK⟩ := hv
  have hx := B.exec
  have hb := B.bytes
  have hr := B.returns
  have ht := fun w (hw : w ∈ gt) => atoms_spec (ws := w_R_clear) B.pre w (List.mem_cons_of_mem _ hw)
  have hown : s.vm.findClass "StackRoomModel" = some m.cls := findClass_of_methodNamed B.named
  have hlocks := B.notSynchronized
  have C0 : CallFix p m c b_R_clear 2 s [.ref x, .int r].toArray gt "StackRoomModel" := ⟨hx, hb, hml, hown, ht⟩
  subst hsz
  have hP := hP.self (sz := s.heap.size)
  have hA : ∀ q : Nat, s.heap.size ≤ q → gw_A G s.heap.size q := fun q h => Or.inr h
  have hS : va_S (gw_A G s.heap.size) s.heap s.heap [] := va_S.rf
  have hl := lv_entry ([.ref x, .int r]) (n := 2) (Nat.le_of_ble_eq_true rfl)
  rw [lg_entry_eq]
  generalize (lg_sl ([.ref x, .int r]) ++ List.replicate (2 - (lg_sl ([.ref x, .int r])).length) Slot.unset).toArray = ls at hl ⊢
  have hl : lv_has ls 2 [(0, .ref x), (1, .int r)] := hl
  obtain ⟨adr, ar, sl, bg, U, r0, r1, r2, r3, hM, hE⟩ := hR0
  refine lv_iload_n hx hb d_R_clear_0 rfl (lv_at hl 1 rfl) ?_
  refine vp_callSi (va_Run.run (r_S (rest := []) C0 [.int r] (k_R_isRegister l r) ml_R_R_isRegister st_R_isRegister ini_R co_R_isRegister hd_R_isRegister v_preS hl.1 d_R_clear_1 rfl rfl (Nat.le_of_ble_eq_true rfl) ⟨rfl, rfl⟩ ⟨Nat.le_of_ble_eq_true rfl, Nat.le_of_ble_eq_true rfl⟩ ⟨Nat.le_of_ble_eq_true rfl, Nat.le_of_ble_eq_true rfl⟩)) (fun q1 eq1 => ?_)
  refine lv_if_ne (tgt := 9) hx hb d_R_clear_4 (by decide) (fun c1 => ?_) (fun c1 => ?_)
  · have hreg : 0 ≤ r ∧ r ≤ 15 := Decidable.byContradiction (fun h => c1 (eq1.trans (if_neg h)))
    refine lv_aload_n hx hb d_R_clear_9 rfl (lv_at hl 0 rfl) ?_
    refine va_get (D := D) (ci := 5) (C := "StackRoomModel") (T := T_R) (N := 25) (v := .ref (adr 3)) hx hb ht in_R hown hK.1 (hP.one hM.1) 0 rfl rfl 3 (by decide) (ht _ fl_R_R_registers) (fun _ h9 => h9) rfl d_R_clear_10 ?_
    refine lv_iload_n hx hb d_R_clear_13 rfl (lv_at hl 1 rfl) ?_
    refine lv_iconst (v := 0) hx hb d_R_clear_14 (by decide) ?_
    refine gw_iast hx hb hK.1 hP hS 2 hM.a3 ht2 (m_rin hreg) d_R_clear_15 (fun H locs hP hS => ?_)
    obtain ⟨G1, eG1⟩ : ∃ z : gw_G, z = va_up G (adr 3) (some (.inl (cI, 16, .inl (upd (ar 3) (r.toNatClampNeg) (m_val sl (none)))))) := ⟨_, rfl⟩
    replace hP : gw_P D vwCl (gw_A G s.heap.size) G1 H := by rw [eG1]; exact hP
    obtain ⟨ar1, ear1⟩ : ∃ z : Nat → Nat → Int32, z = va_up ar 3 (upd (ar 3) (r.toNatClampNeg) (m_val sl (none))) := ⟨_, rfl⟩
    have hM1 : m_Arr cI cB cZ x w n (s_md σ) adr (nI U) (r0) (r1) (r2) (r3) ar1 G1 := by rw [eG1, ear1]; exact hM.put (k := 3) (by decide) _
    have hE1 : m_Sem (s_rch (s_put σ r (none))) (s_put σ r (none)) sl bg U ar1 := by rw [ear1]; exact (hE.reg _ _).mono (fun _ h => s_setR_rch (fun j e => by cases e) h)
    refine lv_iconst (v := 1) hx hb d_R_clear_16 (by decide) ?_
    exact W.zret (v := 1) hx hb hr rfl (fun t ht hW => ⟨⟨_, G1, rfl, (by rw [show p_clear σ r = (1, s_put σ r (none)) from (by unfold p_clear; rw [if_pos hreg])]; exact ⟨rfl, adr, ar1, sl, bg, U, _, _, _, _, hM1, hE1⟩), g_fin ht hP⟩, hS.F ht⟩) hS.2.2 d_R_clear_17
  · have hreg : ¬ (0 ≤ r ∧ r ≤ 15) := fun h => absurd (eq1.symm.trans c1) (by rw [if_pos h]; decide)
    refine lv_iconst (v := 0) hx hb d_R_clear_7 (by decide) ?_
    exact W.zret (v := 0) hx hb hr rfl (fun t ht hW => ⟨⟨_, G, rfl, (by rw [show p_clear σ r = (0, σ) from (by unfold p_clear; rw [if_neg hreg])]; exact ⟨rfl, adr, ar, sl, bg, U, r0, r1, r2, r3, hM, hE⟩), g_fin ht hP⟩, hS.F ht⟩) hS.2.2 d_R_clear_8
set_option maxHeartbeats 4000000 in
set_option maxRecDepth 100000 in
theorem k_R_kind (l : Launch) (hR0 : m_R w n cI cB cZ σ x G) (hO : s_OK w n σ) (hV : s_NV σ) (hw : 128 ≤ w ∧ w ≤ 32768) (hn : 16 ≤ n ∧ n ≤ 4096) (hm : s_md σ + 2 < 2 ^ 31) (ht2 : tys[2]? = some (cI, .int)) (ht3 : tys[3]? = some (cB, .byte)) (ht4 : tys[4]? = some (cZ, .boolean)) (r : Int32) : Met l y_R_kind w_R_kind ({ frames := 1, cells := 0, slots := 0, locals := 20 }) (g_pre D tys G sz [.ref x, .int r]) (vp_Si (fun rz => rz = p_kind σ r)) 0 0 (fun _ => False) := by
  refine Met.ofW (cc := b_R_kind) (maxL := 3) (ret := (some .int)) (by decide) rfl ?_
  intro p e s m args below meth c s₁ B hml hv
  obtain ⟨rfl, hsz, hP, hK⟩ := hv
  have hx := B.exec
  have hb := B.bytes
  have hr := B.returns
  have ht := fun w (hw : w ∈ gt) => atoms_spec (ws := w_R_kind) B.pre w (List.mem_cons_of_mem _ hw)
  have hown : s.vm.findClass "StackRoomModel" = some m.cls := findClass_of_methodNamed B.named
  have hlocks := B.notSynchronized
  have C0 : CallFix p m c b_R_kind 3 s [.ref x, .int r].toArray gt "StackRoomModel" := ⟨hx, hb, hml, hown, ht⟩
  have hl := lv_entry ([.ref x, .int r]) (n := 3) (Nat.le_of_ble_eq_true rfl)
  rw [lg_entry_eq]
  generalize (lg_sl ([.ref x, .int r]) ++ List.replicate (3 - (lg_sl ([.ref x, .int r])).length) Slot.unset).toArray = ls at hl ⊢
  have hl : lv_has ls 3 [(0, .ref x), (1, .int r)] := hl
  obtain ⟨adr, ar, sl, bg, U, r0, r1, r2, r3, hM, hE⟩ := hR0
  refine lv_iload_n hx hb d_R_kind_0 rfl (lv_at hl 1 rfl) ?_
  refine vp_callSi (va_Run.run (r_S (rest := []) C0 [.int r] (k_R_isRegister l r) ml_R_R_isRegister st_R_isRegister ini_R co_R_isRegister hd_R_isRegister v_preS hl.1 d_R_kind_1 rfl rfl (Nat.le_of_ble_eq_true rfl) ⟨rfl, rfl⟩ ⟨Nat.le_of_ble_eq_true rfl, Nat.le_of_ble_eq_true rfl⟩ ⟨Nat.le_of_ble_eq_true rfl, Nat.le_of_ble_eq_true rfl⟩)) (fun q1 eq1 => ?_)
  refine lv_if_ne (tgt := 9) hx hb d_R_kind_4 (by decide) (fun c1 => ?_) (fun c1 => ?_)
  · have hreg : 0 ≤ r ∧ r ≤ 15 := Decidable.byContradiction (fun h => c1 (eq1.trans (if_neg h)))
    have hv := hE.1 _ (s_reg hreg)
    refine lv_aload_n hx hb d_R_kind_9 rfl (lv_at hl 0 rfl) ?_
    refine va_get (D := D) (ci := 5) (C := "StackRoomModel") (T := T_R) (N := 25) (v := .ref (adr 3)) hx hb ht in_R hown hK.1 (hP.one hM.1) 0 rfl rfl 3 (by decide) (ht _ fl_R_R_registers) (fun _ h9 => h9) rfl d_R_kind_10 ?_
    refine lv_iload_n hx hb d_R_kind_13 rfl (lv_at hl 1 rfl) ?_
    refine va_iald hx hb hK.1 (hP.one hM.a3) 0 2 rfl ht2 (m_rin hreg) d_R_kind_14 ?_
    rw [hv]
    rcases hq : s_rg σ r.toNatClampNeg with _ | (nv | j)
    · refine W.eq (g2 := F0 m 15 ls [.int 0]) (rfl) ?_
      refine lv_istore_n (lv' := [(2, .int 0), (0, .ref x), (1, .int r)]) hx hb d_R_kind_15 rfl hl (by decide) rfl (fun ls hl => ?_)
      refine lv_iload_n hx hb d_R_kind_16 rfl (lv_at hl 0 rfl) ?_
      refine lv_if_ne (tgt := 24) hx hb d_R_kind_17 (by decide) (fun h => absurd h (by decide)) (fun _ => ?_)
      refine lv_iconst (v := 0) hx hb d_R_kind_20 (by decide) ?_
      refine lv_goto (tgt := 45) hx hb d_R_kind_21 (by decide) ?_
      exact W.iret (v := 0) hx hb hr (fun t ht hW => ⟨_, rfl, (by unfold p_kind s_get; rw [if_pos hreg, hq]), ht⟩) (fun _ h => by cases h) d_R_kind_45
    · refine W.eq (g2 := F0 m 15 ls [.int (2 * nv + 1)]) (rfl) ?_
      have hnv := hV.1 _ (s_reg hreg) nv hq
      refine lv_istore_n (lv' := [(2, .int (2 * nv + 1)), (0, .ref x), (1, .int r)]) hx hb d_R_kind_15 rfl hl (by decide) rfl (fun ls hl => ?_)
      refine lv_iload_n hx hb d_R_kind_16 rfl (lv_at hl 0 rfl) ?_
      refine lv_if_ne (tgt := 24) hx hb d_R_kind_17 (by decide) (fun _ => ?_) (fun z => absurd z (m_nz hnv))
      refine lv_iload_n hx hb d_R_kind_24 rfl (lv_at hl 0 rfl) ?_
      refine vp_callSi (va_Run.run (r_S (rest := []) C0 [.int (2 * nv + 1)] (k_R_isObject l (2 * nv + 1)) ml_R_R_isObject st_R_isObject ini_R co_R_isObject hd_R_isObject v_preS hl.1 d_R_kind_25 rfl rfl (Nat.le_of_ble_eq_true rfl) ⟨rfl, rfl⟩ ⟨Nat.le_of_ble_eq_true rfl, Nat.le_of_ble_eq_true rfl⟩ ⟨Nat.le_of_ble_eq_true rfl, Nat.le_of_ble_eq_true rfl⟩)) (fun qo eo => ?_)
      rw [if_neg (m_ob_num hnv)] at eo
      subst eo
      refine lv_if_ne (tgt := 35) hx hb d_R_kind_28 (by decide) (fun h => absurd h (by decide)) (fun _ => ?_)
      refine lv_iconst (v := 1) hx hb d_R_kind_31 (by decide) ?_
      refine lv_goto (tgt := 45) hx hb d_R_kind_32 (by decide) ?_
      exact W.iret (v := 1) hx hb hr (fun t ht hW => ⟨_, rfl, (by unfold p_kind s_get; rw [if_pos hreg, hq]), ht⟩) (fun _ h => by cases h) d_R_kind_45
    · have hrj := s_rch_root (s_reg hreg) hq
      obtain ⟨hs, hkj, hij⟩ := hE.2.1 j hrj
      refine W.eq (g2 := F0 m 15 ls [.int (nI (2 * sl j + 2))]) (rfl) ?_
      refine lv_istore_n (lv' := [(2, .int (nI (2 * sl j + 2))), (0, .ref x), (1, .int r)]) hx hb d_R_kind_15 rfl hl (by decide) rfl (fun ls hl => ?_)
      refine lv_iload_n hx hb d_R_kind_16 rfl (lv_at hl 0 rfl) ?_
      refine lv_if_ne (tgt := 24) hx hb d_R_kind_17 (by decide) (fun _ => ?_) (fun z => absurd z ((m_ob_obj hs).1))
      refine lv_iload_n hx hb d_R_kind_24 rfl (lv_at hl 0 rfl) ?_
      refine vp_callSi (va_Run.run (r_S (rest := []) C0 [.int (nI (2 * sl j + 2))] (k_R_isObject l (nI (2 * sl j + 2))) ml_R_R_isObject st_R_isObject ini_R co_R_isObject hd_R_isObject v_preS hl.1 d_R_kind_25 rfl rfl (Nat.le_of_ble_eq_true rfl) ⟨rfl, rfl⟩ ⟨Nat.le_of_ble_eq_true rfl, Nat.le_of_ble_eq_true rfl⟩ ⟨Nat.le_of_ble_eq_true rfl, Nat.le_of_ble_eq_true rfl⟩)) (fun qo eo => ?_)
      rw [if_pos (m_ob_obj hs)] at eo
      subst eo
      refine lv_if_ne (tgt := 35) hx hb d_R_kind_28 (by decide) (fun _ => ?_) (fun h => absurd h (by decide))
      refine lv_aload_n hx hb d_R_kind_35 rfl (lv_at hl 1 rfl) ?_
      refine va_get (D := D) (ci := 5) (C := "StackRoomModel") (T := T_R) (N := 25) (v := .ref (adr 4)) hx hb ht in_R hown hK.1 (hP.one hM.1) 0 rfl rfl 4 (by decide) (ht _ fl_R_R_kinds) (fun _ h9 => h9) rfl d_R_kind_36 ?_
      refine lv_iload_n hx hb d_R_kind_39 rfl (lv_at hl 0 rfl) ?_
      refine lv_iconst (v := 2) hx hb d_R_kind_40 (by decide) ?_
      refine lv_idiv hx hb d_R_kind_41 (by decide) ?_
      refine lv_iconst (v := 1) hx hb d_R_kind_42 (by decide) ?_
      refine lv_isub hx hb d_R_kind_43 ?_
      refine W.eq (g2 := F0 m 44 ls [.int (nI (sl j)), .ref (adr 4)]) (by rw [m_slot hs]) ?_
      refine va_bald hx hb hK.1 (hP.one hM.a4) 0 3 rfl ht3 (vp_in_nI hs (by decide)) d_R_kind_44 ?_
      rw [nI_clamp (by omega)]
      rw [hkj]
      exact W.iret (v := (nI (s_kd σ j))) hx hb hr (fun t ht hW => ⟨_, rfl, (by unfold p_kind s_get; simp only [if_pos hreg, hq]), ht⟩) (fun _ h => by cases h) d_R_kind_45
  · have hreg : ¬ (0 ≤ r ∧ r ≤ 15) := fun h => absurd (eq1.symm.trans c1) (by rw [if_pos h]; decide)
    refine lv_iconst (v := (-1)) hx hb d_R_kind_7 (by decide) ?_
    exact W.iret (v := (-1)) hx hb hr (fun t ht hW => ⟨_, rfl, (by unfold p_kind s_get; rw [if_neg hreg]), ht⟩) (fun _ h => by cases h) d_R_kind_8
set_option maxHeartbeats 4000000 in
set_option maxRecDepth 100000 in
theorem k_R_value (l : Launch) (hR0 : m_R w n cI cB cZ σ x G) (hO : s_OK w n σ) (hV : s_NV σ) (hw : 128 ≤ w ∧ w ≤ 32768) (hn : 16 ≤ n ∧ n ≤ 4096) (hm : s_md σ + 2 < 2 ^ 31) (ht2 : tys[2]? = some (cI, .int)) (ht3 : tys[3]? = some (cB, .byte)) (ht4 : tys[4]? = some (cZ, .boolean)) (r : Int32) : Met l y_R_value w_R_value ({ frames := 1, cells := 0, slots := 0, locals := 20 }) (g_pre D tys G sz [.ref x, .int r]) (vp_Si (fun rz => rz = p_value σ r)) 0 0 (fun _ => False) := by
  refine Met.ofW (cc := b_R_value) (maxL := 3) (ret := (some .int)) (by decide) rfl ?_
  intro p e s m args below meth c s₁ B hml hv
  obtain ⟨rfl, hsz, hP, hK⟩ := hv
  have hx := B.exec
  have hb := B.bytes
  have hr := B.returns
  have ht := fun w (hw : w ∈ gt) => atoms_spec (ws := w_R_value) B.pre w (List.mem_cons_of_mem _ hw)
  have hown : s.vm.findClass "StackRoomModel" = some m.cls := findClass_of_methodNamed B.named
  have hlocks := B.notSynchronized
  have C0 : CallFix p m c b_R_value 3 s [.ref x, .int r].toArray gt "StackRoomModel" := ⟨hx, hb, hml, hown, ht⟩
  have hl := lv_entry ([.ref x, .int r]) (n := 3) (Nat.le_of_ble_eq_true rfl)
  rw [lg_entry_eq]
  generalize (lg_sl ([.ref x, .int r]) ++ List.replicate (3 - (lg_sl ([.ref x, .int r])).length) Slot.unset).toArray = ls at hl ⊢
  have hl : lv_has ls 3 [(0, .ref x), (1, .int r)] := hl
  obtain ⟨adr, ar, sl, bg, U, r0, r1, r2, r3, hM, hE⟩ := hR0
  refine lv_iload_n hx hb d_R_value_0 rfl (lv_at hl 1 rfl) ?_
  refine vp_callSi (va_Run.run (r_S (rest := []) C0 [.int r] (k_R_isRegister l r) ml_R_R_isRegister st_R_isRegister ini_R co_R_isRegister hd_R_isRegister v_preS hl.1 d_R_value_1 rfl rfl (Nat.le_of_ble_eq_true rfl) ⟨rfl, rfl⟩ ⟨Nat.le_of_ble_eq_true rfl, Nat.le_of_ble_eq_true rfl⟩ ⟨Nat.le_of_ble_eq_true rfl, Nat.le_of_ble_eq_true rfl⟩)) (fun q1 eq1 => ?_)
  refine lv_if_eq (tgt := 16) hx hb d_R_value_4 (by decide) (fun c1 => ?_) (fun c1 => ?_)
  · have hreg : ¬ (0 ≤ r ∧ r ≤ 15) := fun h => absurd (eq1.symm.trans c1) (by rw [if_pos h]; decide)
    refine lv_iconst (v := 0) hx hb d_R_value_16 (by decide) ?_
    exact W.iret (v := 0) hx hb hr (fun t ht hW => ⟨_, rfl, (by unfold p_value s_get; rw [if_neg hreg]), ht⟩) (fun _ h => by cases h) d_R_value_17
  · have hreg : 0 ≤ r ∧ r ≤ 15 := Decidable.byContradiction (fun h => c1 (eq1.trans (if_neg h)))
    have hv := hE.1 _ (s_reg hreg)
    refine lv_aload_n hx hb d_R_value_7 rfl (lv_at hl 0 rfl) ?_
    refine va_get (D := D) (ci := 5) (C := "StackRoomModel") (T := T_R) (N := 25) (v := .ref (adr 3)) hx hb ht in_R hown hK.1 (hP.one hM.1) 0 rfl rfl 3 (by decide) (ht _ fl_R_R_registers) (fun _ h9 => h9) rfl d_R_value_8 ?_
    refine lv_iload_n hx hb d_R_value_11 rfl (lv_at hl 1 rfl) ?_
    refine va_iald hx hb hK.1 (hP.one hM.a3) 0 2 rfl ht2 (m_rin hreg) d_R_value_12 ?_
    rw [hv]
    rcases hq : s_rg σ r.toNatClampNeg with _ | (nv | j)
    · refine W.eq (g2 := F0 m 13 ls [.int 0]) (rfl) ?_
      refine lv_if_ne (tgt := 18) hx hb d_R_value_13 (by decide) (fun h => absurd h (by decide)) (fun _ => ?_)
      refine lv_iconst (v := 0) hx hb d_R_value_16 (by decide) ?_
      exact W.iret (v := 0) hx hb hr (fun t ht hW => ⟨_, rfl, (by unfold p_value s_get; rw [if_pos hreg, hq]), ht⟩) (fun _ h => by cases h) d_R_value_17
    · refine W.eq (g2 := F0 m 13 ls [.int (2 * nv + 1)]) (rfl) ?_
      have hnv := hV.1 _ (s_reg hreg) nv hq
      refine lv_if_ne (tgt := 18) hx hb d_R_value_13 (by decide) (fun _ => ?_) (fun z => absurd z (m_nz hnv))
      refine lv_aload_n hx hb d_R_value_18 rfl (lv_at hl 0 rfl) ?_
      refine va_get (D := D) (ci := 5) (C := "StackRoomModel") (T := T_R) (N := 25) (v := .ref (adr 3)) hx hb ht in_R hown hK.1 (hP.one hM.1) 0 rfl rfl 3 (by decide) (ht _ fl_R_R_registers) (fun _ h9 => h9) rfl d_R_value_19 ?_
      refine lv_iload_n hx hb d_R_value_22 rfl (lv_at hl 1 rfl) ?_
      refine va_iald hx hb hK.1 (hP.one hM.a3) 0 2 rfl ht2 (m_rin hreg) d_R_value_23 ?_
      rw [hv, hq]
      refine W.eq (g2 := F0 m 24 ls [.int (2 * nv + 1)]) (rfl) ?_
      refine lv_istore_n (lv' := [(2, .int (2 * nv + 1)), (0, .ref x), (1, .int r)]) hx hb d_R_value_24 rfl hl (by decide) rfl (fun ls hl => ?_)
      refine lv_iload_n hx hb d_R_value_25 rfl (lv_at hl 0 rfl) ?_
      refine vp_callSi (va_Run.run (r_S (rest := []) C0 [.int (2 * nv + 1)] (k_R_isObject l (2 * nv + 1)) ml_R_R_isObject st_R_isObject ini_R co_R_isObject hd_R_isObject v_preS hl.1 d_R_value_26 rfl rfl (Nat.le_of_ble_eq_true rfl) ⟨rfl, rfl⟩ ⟨Nat.le_of_ble_eq_true rfl, Nat.le_of_ble_eq_true rfl⟩ ⟨Nat.le_of_ble_eq_true rfl, Nat.le_of_ble_eq_true rfl⟩)) (fun qo eo => ?_)
      rw [if_neg (m_ob_num hnv)] at eo
      subst eo
      refine lv_if_eq (tgt := 45) hx hb d_R_value_29 (by decide) (fun _ => ?_) (fun h => absurd h (by decide))
      refine lv_iload_n hx hb d_R_value_45 rfl (lv_at hl 0 rfl) ?_
      refine lv_iconst (v := 1) hx hb d_R_value_46 (by decide) ?_
      refine lv_ishr hx hb d_R_value_47 ?_
      refine W.eq (g2 := F0 m 48 ls [.int nv]) (by rw [m_shr hnv]) ?_
      exact W.iret (v := nv) hx hb hr (fun t ht hW => ⟨_, rfl, (by unfold p_value s_get; rw [if_pos hreg, hq]), ht⟩) (fun _ h => by cases h) d_R_value_48
    · have hrj := s_rch_root (s_reg hreg) hq
      obtain ⟨hs, hkj, hij⟩ := hE.2.1 j hrj
      refine W.eq (g2 := F0 m 13 ls [.int (nI (2 * sl j + 2))]) (rfl) ?_
      refine lv_if_ne (tgt := 18) hx hb d_R_value_13 (by decide) (fun _ => ?_) (fun z => absurd z ((m_ob_obj hs).1))
      refine lv_aload_n hx hb d_R_value_18 rfl (lv_at hl 0 rfl) ?_
      refine va_get (D := D) (ci := 5) (C := "StackRoomModel") (T := T_R) (N := 25) (v := .ref (adr 3)) hx hb ht in_R hown hK.1 (hP.one hM.1) 0 rfl rfl 3 (by decide) (ht _ fl_R_R_registers) (fun _ h9 => h9) rfl d_R_value_19 ?_
      refine lv_iload_n hx hb d_R_value_22 rfl (lv_at hl 1 rfl) ?_
      refine va_iald hx hb hK.1 (hP.one hM.a3) 0 2 rfl ht2 (m_rin hreg) d_R_value_23 ?_
      rw [hv, hq]
      refine W.eq (g2 := F0 m 24 ls [.int (nI (2 * sl j + 2))]) (rfl) ?_
      refine lv_istore_n (lv' := [(2, .int (nI (2 * sl j + 2))), (0, .ref x), (1, .int r)]) hx hb d_R_value_24 rfl hl (by decide) rfl (fun ls hl => ?_)
      refine lv_iload_n hx hb d_R_value_25 rfl (lv_at hl 0 rfl) ?_
      refine vp_callSi (va_Run.run (r_S (rest := []) C0 [.int (nI (2 * sl j + 2))] (k_R_isObject l (nI (2 * sl j + 2))) ml_R_R_isObject st_R_isObject ini_R co_R_isObject hd_R_isObject v_preS hl.1 d_R_value_26 rfl rfl (Nat.le_of_ble_eq_true rfl) ⟨rfl, rfl⟩ ⟨Nat.le_of_ble_eq_true rfl, Nat.le_of_ble_eq_true rfl⟩ ⟨Nat.le_of_ble_eq_true rfl, Nat.le_of_ble_eq_true rfl⟩)) (fun qo eo => ?_)
      rw [if_pos (m_ob_obj hs)] at eo
      subst eo
      refine lv_if_eq (tgt := 45) hx hb d_R_value_29 (by decide) (fun h => absurd h (by decide)) (fun _ => ?_)
      refine lv_aload_n hx hb d_R_value_32 rfl (lv_at hl 1 rfl) ?_
      refine va_get (D := D) (ci := 5) (C := "StackRoomModel") (T := T_R) (N := 25) (v := .ref (adr 5)) hx hb ht in_R hown hK.1 (hP.one hM.1) 0 rfl rfl 5 (by decide) (ht _ fl_R_R_identities) (fun _ h9 => h9) rfl d_R_value_33 ?_
      refine lv_iload_n hx hb d_R_value_36 rfl (lv_at hl 0 rfl) ?_
      refine lv_iconst (v := 2) hx hb d_R_value_37 (by decide) ?_
      refine lv_idiv hx hb d_R_value_38 (by decide) ?_
      refine lv_iconst (v := 1) hx hb d_R_value_39 (by decide) ?_
      refine lv_isub hx hb d_R_value_40 ?_
      refine W.eq (g2 := F0 m 41 ls [.int (nI (sl j)), .ref (adr 5)]) (by rw [m_slot hs]) ?_
      refine va_iald hx hb hK.1 (hP.one hM.a5) 0 2 rfl ht2 (vp_in_nI hs (by decide)) d_R_value_41 ?_
      rw [nI_clamp (by omega)]
      rw [hij]
      refine lv_goto (tgt := 48) hx hb d_R_value_42 (by decide) ?_
      exact W.iret (v := (nI j)) hx hb hr (fun t ht hW => ⟨_, rfl, (by unfold p_value s_get; simp only [if_pos hreg, hq]), ht⟩) (fun _ h => by cases h) d_R_value_48
set_option maxHeartbeats 4000000 in
set_option maxRecDepth 100000 in
theorem k_R_homeOf (l : Launch) (hM : m_Arr cI cB cZ x w n md adr us r0 r1 r2 r3 ar G) (hE : m_Sem R σ sl bg U ar) {i : Nat} (hri : R i) (hc : s_isC σ i) (ht2 : tys[2]? = some (cI, .int)) (ht3 : tys[3]? = some (cB, .byte)) (ht4 : tys[4]? = some (cZ, .boolean)) : Met l y_R_homeOf w_R_homeOf ({ frames := 0, cells := 0, slots := 0, locals := 0 }) (g_pre D tys G sz [.ref x, .int (nI (sl i))]) (vp_Si (fun rz => rz = nI (sl (s_hm σ i)))) 0 0 (fun _ => False) := by
  refine Met.ofW (cc := b_R_homeOf) (maxL := 2) (ret := (some .int)) (by decide) rfl ?_
  intro p e s m args below meth c s₁ B hml hv
  obtain ⟨rfl, hsz, hP, hK⟩ := hv
  have hx := B.exec
  have hb := B.bytes
  have hr := B.returns
  have ht := fun w (hw : w ∈ gt) => atoms_spec (ws := w_R_homeOf) B.pre w (List.mem_cons_of_mem _ hw)
  have hown : s.vm.findClass "StackRoomModel" = some m.cls := findClass_of_methodNamed B.named
  have hlocks := B.notSynchronized
  have C0 : CallFix p m c b_R_homeOf 2 s [.ref x, .int (nI (sl i))].toArray gt "StackRoomModel" := ⟨hx, hb, hml, hown, ht⟩
  have hl := lv_entry ([.ref x, .int (nI (sl i))]) (n := 2) (Nat.le_of_ble_eq_true rfl)
  rw [lg_entry_eq]
  generalize (lg_sl ([.ref x, .int (nI (sl i))]) ++ List.replicate (2 - (lg_sl ([.ref x, .int (nI (sl i))])).length) Slot.unset).toArray = ls at hl ⊢
  have hl : lv_has ls 2 [(0, .ref x), (1, .int (nI (sl i)))] := hl
  obtain ⟨hs, hk4, hk5⟩ := hE.2.1 i hri
  obtain ⟨q9, q10, q11, q12, q14, q15, qU⟩ := hE.2.2.2.1 i hri hc
  have hU := hE.2.2.2.2.2.2.2.2
  rcases id hc with h3 | h4
  · refine lv_aload_n hx hb d_R_homeOf_0 rfl (lv_at hl 0 rfl) ?_
    refine va_get (D := D) (ci := 5) (C := "StackRoomModel") (T := T_R) (N := 25) (v := .ref (adr 4)) hx hb ht in_R hown hK.1 (hP.one hM.1) 0 rfl rfl 4 (by decide) (ht _ fl_R_R_kinds) (fun _ h9 => h9) rfl d_R_homeOf_1 ?_
    refine lv_iload_n hx hb d_R_homeOf_4 rfl (lv_at hl 1 rfl) ?_
    refine va_bald hx hb hK.1 (hP.one hM.a4) 0 3 rfl ht3 (vp_in_nI hs (by decide)) d_R_homeOf_5 ?_
    rw [nI_clamp (by omega)]
    rw [hk4, h3]
    refine lv_iconst (v := 4) hx hb d_R_homeOf_6 (by decide) ?_
    refine lv_icmp_ne (tgt := 19) hx hb d_R_homeOf_7 (by decide) (fun _ => ?_) (fun z => absurd z (by decide))
    refine lv_iload_n hx hb d_R_homeOf_19 rfl (lv_at hl 1 rfl) ?_
    exact W.iret (v := (nI (sl i))) hx hb hr (fun t ht hW => ⟨_, rfl, (by rw [s_hm3 h3]), ht⟩) (fun _ h => by cases h) d_R_homeOf_20
  · refine lv_aload_n hx hb d_R_homeOf_0 rfl (lv_at hl 0 rfl) ?_
    refine va_get (D := D) (ci := 5) (C := "StackRoomModel") (T := T_R) (N := 25) (v := .ref (adr 4)) hx hb ht in_R hown hK.1 (hP.one hM.1) 0 rfl rfl 4 (by decide) (ht _ fl_R_R_kinds) (fun _ h9 => h9) rfl d_R_homeOf_1 ?_
    refine lv_iload_n hx hb d_R_homeOf_4 rfl (lv_at hl 1 rfl) ?_
    refine va_bald hx hb hK.1 (hP.one hM.a4) 0 3 rfl ht3 (vp_in_nI hs (by decide)) d_R_homeOf_5 ?_
    rw [nI_clamp (by omega)]
    rw [hk4, h4]
    refine lv_iconst (v := 4) hx hb d_R_homeOf_6 (by decide) ?_
    refine lv_icmp_ne (tgt := 19) hx hb d_R_homeOf_7 (by decide) (fun z => absurd rfl z) (fun _ => ?_)
    refine lv_aload_n hx hb d_R_homeOf_10 rfl (lv_at hl 0 rfl) ?_
    refine va_get (D := D) (ci := 5) (C := "StackRoomModel") (T := T_R) (N := 25) (v := .ref (adr 12)) hx hb ht in_R hown hK.1 (hP.one hM.1) 0 rfl rfl 12 (by decide) (ht _ fl_R_R_links) (fun _ h9 => h9) rfl d_R_homeOf_11 ?_
    refine lv_iload_n hx hb d_R_homeOf_14 rfl (lv_at hl 1 rfl) ?_
    refine va_iald hx hb hK.1 (hP.one hM.a12) 0 2 rfl ht2 (vp_in_nI hs (by decide)) d_R_homeOf_15 ?_
    rw [nI_clamp (by omega)]
    rw [q12]
    refine lv_goto (tgt := 20) hx hb d_R_homeOf_16 (by decide) ?_
    exact W.iret (v := (nI (sl (s_og σ i)))) hx hb hr (fun t ht hW => ⟨_, rfl, (by rw [s_hm4 h4]), ht⟩) (fun _ h => by cases h) d_R_homeOf_20
set_option maxHeartbeats 4000000 in
set_option maxRecDepth 100000 in
theorem k_R_floorOf (l : Launch) (hM : m_Arr cI cB cZ x w n md adr us r0 r1 r2 r3 ar G) (hE : m_Sem R σ sl bg U ar) {i : Nat} (hri : R i) (hc : s_isC σ i) (hro : ∀ i, R i → s_kd σ i = 3 → R (s_og σ i) ∧ s_kd σ (s_og σ i) = 2) (ht2 : tys[2]? = some (cI, .int)) (ht3 : tys[3]? = some (cB, .byte)) (ht4 : tys[4]? = some (cZ, .boolean)) : Met l y_R_floorOf w_R_floorOf ({ frames := 0, cells := 0, slots := 0, locals := 0 }) (g_pre D tys G sz [.ref x, .int (nI (sl i))]) (vp_Si (fun rz => rz = nI (s_fr σ i))) 0 0 (fun _ => False) := by
  refine Met.ofW (cc := b_R_floorOf) (maxL := 2) (ret := (some .int)) (by decide) rfl ?_
  intro p e s m args below meth c s₁ B hml hv
  obtain ⟨rfl, hsz, hP, hK⟩ := hv
  have hx := B.exec
  have hb := B.bytes
  have hr := B.returns
  have ht := fun w (hw : w ∈ gt) => atoms_spec (ws := w_R_floorOf) B.pre w (List.mem_cons_of_mem _ hw)
  have hown : s.vm.findClass "StackRoomModel" = some m.cls := findClass_of_methodNamed B.named
  have hlocks := B.notSynchronized
  have C0 : CallFix p m c b_R_floorOf 2 s [.ref x, .int (nI (sl i))].toArray gt "StackRoomModel" := ⟨hx, hb, hml, hown, ht⟩
  have hl := lv_entry ([.ref x, .int (nI (sl i))]) (n := 2) (Nat.le_of_ble_eq_true rfl)
  rw [lg_entry_eq]
  generalize (lg_sl ([.ref x, .int (nI (sl i))]) ++ List.replicate (2 - (lg_sl ([.ref x, .int (nI (sl i))])).length) Slot.unset).toArray = ls at hl ⊢
  have hl : lv_has ls 2 [(0, .ref x), (1, .int (nI (sl i)))] := hl
  obtain ⟨hs, hk4, hk5⟩ := hE.2.1 i hri
  obtain ⟨q9, q10, q11, q12, q14, q15, qU⟩ := hE.2.2.2.1 i hri hc
  have hU := hE.2.2.2.2.2.2.2.2
  rcases id hc with h3 | h4
  · refine lv_aload_n hx hb d_R_floorOf_0 rfl (lv_at hl 0 rfl) ?_
    refine va_get (D := D) (ci := 5) (C := "StackRoomModel") (T := T_R) (N := 25) (v := .ref (adr 4)) hx hb ht in_R hown hK.1 (hP.one hM.1) 0 rfl rfl 4 (by decide) (ht _ fl_R_R_kinds) (fun _ h9 => h9) rfl d_R_floorOf_1 ?_
    refine lv_iload_n hx hb d_R_floorOf_4 rfl (lv_at hl 1 rfl) ?_
    refine va_bald hx hb hK.1 (hP.one hM.a4) 0 3 rfl ht3 (vp_in_nI hs (by decide)) d_R_floorOf_5 ?_
    rw [nI_clamp (by omega)]
    rw [hk4, h3]
    refine lv_iconst (v := 4) hx hb d_R_floorOf_6 (by decide) ?_
    refine lv_icmp_ne (tgt := 14) hx hb d_R_floorOf_7 (by decide) (fun _ => ?_) (fun z => absurd z (by decide))
    refine lv_aload_n hx hb d_R_floorOf_14 rfl (lv_at hl 0 rfl) ?_
    refine va_get (D := D) (ci := 5) (C := "StackRoomModel") (T := T_R) (N := 25) (v := .ref (adr 7)) hx hb ht in_R hown hK.1 (hP.one hM.1) 0 rfl rfl 7 (by decide) (ht _ fl_R_R_temporaries) (fun _ h9 => h9) rfl d_R_floorOf_15 ?_
    refine lv_aload_n hx hb d_R_floorOf_18 rfl (lv_at hl 0 rfl) ?_
    refine va_get (D := D) (ci := 5) (C := "StackRoomModel") (T := T_R) (N := 25) (v := .ref (adr 12)) hx hb ht in_R hown hK.1 (hP.one hM.1) 0 rfl rfl 12 (by decide) (ht _ fl_R_R_links) (fun _ h9 => h9) rfl d_R_floorOf_19 ?_
    refine lv_iload_n hx hb d_R_floorOf_22 rfl (lv_at hl 1 rfl) ?_
    refine va_iald hx hb hK.1 (hP.one hM.a12) 0 2 rfl ht2 (vp_in_nI hs (by decide)) d_R_floorOf_23 ?_
    rw [nI_clamp (by omega)]
    rw [q12]
    obtain ⟨g1, -, -⟩ := hE.2.1 (s_og σ i) (hro i hri h3).1
    have g7 := (hE.2.2.1 (s_og σ i) (hro i hri h3).1 (hro i hri h3).2).1
    refine va_iald hx hb hK.1 (hP.one hM.a7) 0 2 rfl ht2 (vp_in_nI g1 (by decide)) d_R_floorOf_24 ?_
    rw [nI_clamp (by omega)]
    rw [g7]
    exact W.iret (v := (nI (s_tt σ (s_og σ i)))) hx hb hr (fun t ht hW => ⟨_, rfl, (by rw [s_fr3 h3]), ht⟩) (fun _ h => by cases h) d_R_floorOf_25
  · refine lv_aload_n hx hb d_R_floorOf_0 rfl (lv_at hl 0 rfl) ?_
    refine va_get (D := D) (ci := 5) (C := "StackRoomModel") (T := T_R) (N := 25) (v := .ref (adr 4)) hx hb ht in_R hown hK.1 (hP.one hM.1) 0 rfl rfl 4 (by decide) (ht _ fl_R_R_kinds) (fun _ h9 => h9) rfl d_R_floorOf_1 ?_
    refine lv_iload_n hx hb d_R_floorOf_4 rfl (lv_at hl 1 rfl) ?_
    refine va_bald hx hb hK.1 (hP.one hM.a4) 0 3 rfl ht3 (vp_in_nI hs (by decide)) d_R_floorOf_5 ?_
    rw [nI_clamp (by omega)]
    rw [hk4, h4]
    refine lv_iconst (v := 4) hx hb d_R_floorOf_6 (by decide) ?_
    refine lv_icmp_ne (tgt := 14) hx hb d_R_floorOf_7 (by decide) (fun z => absurd rfl z) (fun _ => ?_)
    refine lv_iconst (v := 0) hx hb d_R_floorOf_10 (by decide) ?_
    refine lv_goto (tgt := 25) hx hb d_R_floorOf_11 (by decide) ?_
    exact W.iret (v := 0) hx hb hr (fun t ht hW => ⟨_, rfl, (by rw [s_fr4 h4]; rfl), ht⟩) (fun _ h => by cases h) d_R_floorOf_25
theorem s_hro {σ : sS} (hI : s_I σ) : ∀ i, s_rch σ i → s_kd σ i = 3 → s_rch σ (s_og σ i) ∧ s_kd σ (s_og σ i) = 2 := fun i hi h3 => ⟨s_rch_edge hi ⟨Or.inl h3, Or.inr (Or.inl rfl)⟩, hI.2.2.2.2.1 i h3⟩
set_option maxHeartbeats 4000000 in
set_option maxRecDepth 100000 in
theorem k_R_pushes (l : Launch) (hM : m_Arr cI cB cZ x w n md adr (nI U) r0 r1 r2 r3 ar G) (hE : m_Sem R σ sl bg U ar) {i : Nat} (hri : R i) (hc : s_isC σ i) (hle : s_ht σ i ≤ s_rm σ i) (ht2 : tys[2]? = some (cI, .int)) (ht3 : tys[3]? = some (cB, .byte)) (ht4 : tys[4]? = some (cZ, .boolean)) (v : sV) : Met l y_R_pushes w_R_pushes ({ frames := 0, cells := 0, slots := 0, locals := 0 }) (g_pre D tys G sz [.ref x, .int (nI (sl i)), .int (m_val sl v)]) (va_Qi (fun (rz : Int32) (G1 : gw_G) => (s_ht σ i < s_rm σ i ∧ rz = 1 ∧ ∃ ar2, m_Arr cI cB cZ x w n md adr (nI U) r0 r1 r2 r3 ar2 G1 ∧ m_Sem R (s_push σ i v) sl bg U ar2) ∨ (¬ s_ht σ i < s_rm σ i ∧ rz = 0 ∧ m_Arr cI cB cZ x w n md adr (nI U) r0 r1 r2 r3 ar G1)) (g_end D G sz) (gw_A G sz)) 0 0 (gw_A G sz) := by
  refine Met.ofW (cc := b_R_pushes) (maxL := 3) (ret := (some .boolean)) (by decide) rfl ?_
  intro p e s m args below meth c s₁ B hml hv
  obtain ⟨rfl, hsz, hP, hK⟩ := hv
  have hx := B.exec
  have hb := B.bytes
  have hr := B.returns
  have ht := fun w (hw : w ∈ gt) => atoms_spec (ws := w_R_pushes) B.pre w (List.mem_cons_of_mem _ hw)
  have hown : s.vm.findClass "StackRoomModel" = some m.cls := findClass_of_methodNamed B.named
  have hlocks := B.notSynchronized
  have C0 : CallFix p m c b_R_pushes 3 s [.ref x, .int (nI (sl i)), .int (m_val sl v)].toArray gt "StackRoomModel" := ⟨hx, hb, hml, hown, ht⟩
  subst hsz
  have hP := hP.self (sz := s.heap.size)
  have hA : ∀ q : Nat, s.heap.size ≤ q → gw_A G s.heap.size q := fun q h => Or.inr h
  have hS : va_S (gw_A G s.heap.size) s.heap s.heap [] := va_S.rf
  have hl := lv_entry ([.ref x, .int (nI (sl i)), .int (m_val sl v)]) (n := 3) (Nat.le_of_ble_eq_true rfl)
  rw [lg_entry_eq]
  generalize (lg_sl ([.ref x, .int (nI (sl i)), .int (m_val sl v)]) ++ List.replicate (3 - (lg_sl ([.ref x, .int (nI (sl i)), .int (m_val sl v)])).length) Slot.unset).toArray = ls at hl ⊢
  have hl : lv_has ls 3 [(0, .ref x), (1, .int (nI (sl i))), (2, .int (m_val sl v))] := hl
  obtain ⟨hs, hk4, hk5⟩ := hE.2.1 i hri
  obtain ⟨q9, q10, q11, q12, q14, q15, qU⟩ := hE.2.2.2.1 i hri hc
  have hU := hE.2.2.2.2.2.2.2.2
  refine lv_aload_n hx hb d_R_pushes_0 rfl (lv_at hl 0 rfl) ?_
  refine va_get (D := D) (ci := 5) (C := "StackRoomModel") (T := T_R) (N := 25) (v := .ref (adr 11)) hx hb ht in_R hown hK.1 (hP.one hM.1) 0 rfl rfl 11 (by decide) (ht _ fl_R_R_heights) (fun _ h9 => h9) rfl d_R_pushes_1 ?_
  refine lv_iload_n hx hb d_R_pushes_4 rfl (lv_at hl 1 rfl) ?_
  refine va_iald hx hb hK.1 (hP.one hM.a11) 0 2 rfl ht2 (vp_in_nI hs (by decide)) d_R_pushes_5 ?_
  rw [nI_clamp (by omega)]
  rw [q11]
  refine lv_aload_n hx hb d_R_pushes_6 rfl (lv_at hl 0 rfl) ?_
  refine va_get (D := D) (ci := 5) (C := "StackRoomModel") (T := T_R) (N := 25) (v := .ref (adr 15)) hx hb ht in_R hown hK.1 (hP.one hM.1) 0 rfl rfl 15 (by decide) (ht _ fl_R_R_rooms) (fun _ h9 => h9) rfl d_R_pushes_7 ?_
  refine lv_iload_n hx hb d_R_pushes_10 rfl (lv_at hl 1 rfl) ?_
  refine va_iald hx hb hK.1 (hP.one hM.a15) 0 2 rfl ht2 (vp_in_nI hs (by decide)) d_R_pushes_11 ?_
  rw [nI_clamp (by omega)]
  rw [q15]
  refine lv_icmp_ne (tgt := 17) hx hb d_R_pushes_12 (by decide) (fun ce => ?_) (fun ce => ?_)
  · have hlt : s_ht σ i < s_rm σ i := Nat.lt_of_le_of_ne hle (fun z => ce (by rw [z]))
    refine lv_aload_n hx hb d_R_pushes_17 rfl (lv_at hl 0 rfl) ?_
    refine va_get (D := D) (ci := 5) (C := "StackRoomModel") (T := T_R) (N := 25) (v := .ref (adr 16)) hx hb ht in_R hown hK.1 (hP.one hM.1) 0 rfl rfl 16 (by decide) (ht _ fl_R_R_fields) (fun _ h9 => h9) rfl d_R_pushes_18 ?_
    refine lv_aload_n hx hb d_R_pushes_21 rfl (lv_at hl 0 rfl) ?_
    refine va_get (D := D) (ci := 5) (C := "StackRoomModel") (T := T_R) (N := 25) (v := .ref (adr 14)) hx hb ht in_R hown hK.1 (hP.one hM.1) 0 rfl rfl 14 (by decide) (ht _ fl_R_R_begins) (fun _ h9 => h9) rfl d_R_pushes_22 ?_
    refine lv_iload_n hx hb d_R_pushes_25 rfl (lv_at hl 1 rfl) ?_
    refine va_iald hx hb hK.1 (hP.one hM.a14) 0 2 rfl ht2 (vp_in_nI hs (by decide)) d_R_pushes_26 ?_
    rw [nI_clamp (by omega)]
    rw [q14]
    refine lv_aload_n hx hb d_R_pushes_27 rfl (lv_at hl 0 rfl) ?_
    refine va_get (D := D) (ci := 5) (C := "StackRoomModel") (T := T_R) (N := 25) (v := .ref (adr 11)) hx hb ht in_R hown hK.1 (hP.one hM.1) 0 rfl rfl 11 (by decide) (ht _ fl_R_R_heights) (fun _ h9 => h9) rfl d_R_pushes_28 ?_
    refine lv_iload_n hx hb d_R_pushes_31 rfl (lv_at hl 1 rfl) ?_
    refine va_iald hx hb hK.1 (hP.one hM.a11) 0 2 rfl ht2 (vp_in_nI hs (by decide)) d_R_pushes_32 ?_
    rw [nI_clamp (by omega)]
    rw [q11]
    refine lv_iadd hx hb d_R_pushes_33 ?_
    refine W.eq (g2 := F0 m 34 ls [.int (nI (bg i + s_ht σ i)), .ref (adr 16)]) (by rw [← nI_add]) ?_
    refine lv_iload_n hx hb d_R_pushes_34 rfl (lv_at hl 2 rfl) ?_
    refine gw_iast hx hb hK.1 hP hS 2 hM.a16 ht2 (vp_in_nI (show bg i + s_ht σ i < 32768 by omega) (by decide)) d_R_pushes_35 (fun H locs hP hS => ?_)
    rw [nI_clamp (by omega)] at hP
    obtain ⟨G1, eG1⟩ : ∃ z : gw_G, z = va_up G (adr 16) (some (.inl (cI, 32768, .inl (upd (ar 16) (bg i + s_ht σ i) ((m_val sl v)))))) := ⟨_, rfl⟩
    replace hP : gw_P D vwCl (gw_A G s.heap.size) G1 H := by rw [eG1]; exact hP
    obtain ⟨ar1, ear1⟩ : ∃ z : Nat → Nat → Int32, z = va_up ar 16 (upd (ar 16) (bg i + s_ht σ i) ((m_val sl v))) := ⟨_, rfl⟩
    have hM1 : m_Arr cI cB cZ x w n md adr (nI U) (r0) (r1) (r2) (r3) ar1 G1 := by rw [eG1, ear1]; exact hM.put (k := 16) (by decide) _
    refine lv_aload_n hx hb d_R_pushes_36 rfl (lv_at hl 0 rfl) ?_
    refine va_get (D := D) (ci := 5) (C := "StackRoomModel") (T := T_R) (N := 25) (v := .ref (adr 11)) hx hb ht in_R hown hK.1 (hP.one hM1.1) 0 rfl rfl 11 (by decide) (ht _ fl_R_R_heights) (fun _ h9 => h9) rfl d_R_pushes_37 ?_
    refine lv_iload_n hx hb d_R_pushes_40 rfl (lv_at hl 1 rfl) ?_
    refine lv_dup2_11 hx hb d_R_pushes_41 rfl rfl ?_
    refine va_iald hx hb hK.1 (hP.one hM1.a11) 0 2 rfl ht2 (vp_in_nI hs (by decide)) d_R_pushes_42 ?_
    rw [nI_clamp (by omega)]
    rw [show ar1 11 (sl i) = nI (s_ht σ i) from (by rw [ear1, va_up_ne _ _ (by decide)]; exact q11)]
    refine lv_iconst (v := 1) hx hb d_R_pushes_43 (by decide) ?_
    refine lv_iadd hx hb d_R_pushes_44 ?_
    refine W.eq (g2 := F0 m 45 ls [.int (nI (s_ht σ i + 1)), .int (nI (sl i)), .ref (adr 11)]) (by rw [nI_1]) ?_
    refine gw_iast hx hb hK.1 hP hS 2 hM1.a11 ht2 (vp_in_nI hs (by decide)) d_R_pushes_45 (fun H locs hP hS => ?_)
    rw [nI_clamp (by omega)] at hP
    obtain ⟨G2, eG2⟩ : ∃ z : gw_G, z = va_up G1 (adr 11) (some (.inl (cI, 4096, .inl (upd (ar1 11) (sl i) ((nI (s_ht σ i + 1))))))) := ⟨_, rfl⟩
    replace hP : gw_P D vwCl (gw_A G s.heap.size) G2 H := by rw [eG2]; exact hP
    obtain ⟨ar2, ear2⟩ : ∃ z : Nat → Nat → Int32, z = va_up ar1 11 (upd (ar1 11) (sl i) ((nI (s_ht σ i + 1)))) := ⟨_, rfl⟩
    have hM2 : m_Arr cI cB cZ x w n md adr (nI U) (r0) (r1) (r2) (r3) ar2 G2 := by rw [eG2, ear2]; exact hM1.put (k := 11) (by decide) _
    have hE9 : m_Sem R (s_push σ i v) sl bg U ar2 := by rw [ear2, ear1]; exact (hE.fld hri hc hlt v).hgt hri _
    refine lv_iconst (v := 1) hx hb d_R_pushes_46 (by decide) ?_
    exact W.zret (v := 1) hx hb hr rfl (fun t ht hW => ⟨⟨_, G2, rfl, Or.inl ⟨hlt, rfl, ar2, hM2, hE9⟩, g_fin ht hP⟩, hS.F ht⟩) hS.2.2 d_R_pushes_47
  · have hno : ¬ s_ht σ i < s_rm σ i := fun z => absurd ((nI_ltI (by omega) (by omega)).mpr z) (by rw [ce]; exact fun q => Int32.lt_irrefl q)
    refine lv_iconst (v := 0) hx hb d_R_pushes_15 (by decide) ?_
    exact W.zret (v := 0) hx hb hr rfl (fun t ht hW => ⟨⟨_, G, rfl, Or.inr ⟨hno, rfl, hM⟩, g_fin ht hP⟩, hS.F ht⟩) hS.2.2 d_R_pushes_16
set_option maxHeartbeats 4000000 in
set_option maxRecDepth 100000 in
theorem k_R_popped (l : Launch) (hM : m_Arr cI cB cZ x w n md adr (nI U) r0 r1 r2 r3 ar G) (hE : m_Sem R σ sl bg U ar) {i : Nat} (hri : R i) (hc : s_isC σ i) (hle : s_ht σ i ≤ s_rm σ i) (hpos : 0 < s_ht σ i) (ht2 : tys[2]? = some (cI, .int)) (ht3 : tys[3]? = some (cB, .byte)) (ht4 : tys[4]? = some (cZ, .boolean)) : Met l y_R_popped w_R_popped ({ frames := 0, cells := 0, slots := 0, locals := 0 }) (g_pre D tys G sz [.ref x, .int (nI (sl i))]) (va_Qi (fun (rz : Int32) (G1 : gw_G) => rz = m_val sl (s_fl σ i (s_ht σ i - 1)) ∧ ∃ ar2, m_Arr cI cB cZ x w n md adr (nI U) r0 r1 r2 r3 ar2 G1 ∧ m_Sem R (s_pop σ i) sl bg U ar2) (g_end D G sz) (gw_A G sz)) 0 0 (gw_A G sz) := by
  refine Met.ofW (cc := b_R_popped) (maxL := 3) (ret := (some .int)) (by decide) rfl ?_
  intro p e s m args below meth c s₁ B hml hv
  obtain ⟨rfl, hsz, hP, hK⟩ := hv
  have hx := B.exec
  have hb := B.bytes
  have hr := B.returns
  have ht := fun w (hw : w ∈ gt) => atoms_spec (ws := w_R_popped) B.pre w (List.mem_cons_of_mem _ hw)
  have hown : s.vm.findClass "StackRoomModel" = some m.cls := findClass_of_methodNamed B.named
  have hlocks := B.notSynchronized
  have C0 : CallFix p m c b_R_popped 3 s [.ref x, .int (nI (sl i))].toArray gt "StackRoomModel" := ⟨hx, hb, hml, hown, ht⟩
  subst hsz
  have hP := hP.self (sz := s.heap.size)
  have hA : ∀ q : Nat, s.heap.size ≤ q → gw_A G s.heap.size q := fun q h => Or.inr h
  have hS : va_S (gw_A G s.heap.size) s.heap s.heap [] := va_S.rf
  have hl := lv_entry ([.ref x, .int (nI (sl i))]) (n := 3) (Nat.le_of_ble_eq_true rfl)
  rw [lg_entry_eq]
  generalize (lg_sl ([.ref x, .int (nI (sl i))]) ++ List.replicate (3 - (lg_sl ([.ref x, .int (nI (sl i))])).length) Slot.unset).toArray = ls at hl ⊢
  have hl : lv_has ls 3 [(0, .ref x), (1, .int (nI (sl i)))] := hl
  obtain ⟨hs, hk4, hk5⟩ := hE.2.1 i hri
  obtain ⟨q9, q10, q11, q12, q14, q15, qU⟩ := hE.2.2.2.1 i hri hc
  have hU := hE.2.2.2.2.2.2.2.2
  refine lv_aload_n hx hb d_R_popped_0 rfl (lv_at hl 0 rfl) ?_
  refine va_get (D := D) (ci := 5) (C := "StackRoomModel") (T := T_R) (N := 25) (v := .ref (adr 11)) hx hb ht in_R hown hK.1 (hP.one hM.1) 0 rfl rfl 11 (by decide) (ht _ fl_R_R_heights) (fun _ h9 => h9) rfl d_R_popped_1 ?_
  refine lv_iload_n hx hb d_R_popped_4 rfl (lv_at hl 1 rfl) ?_
  refine lv_dup2_11 hx hb d_R_popped_5 rfl rfl ?_
  refine va_iald hx hb hK.1 (hP.one hM.a11) 0 2 rfl ht2 (vp_in_nI hs (by decide)) d_R_popped_6 ?_
  rw [nI_clamp (by omega)]
  rw [q11]
  refine lv_iconst (v := 1) hx hb d_R_popped_7 (by decide) ?_
  refine lv_isub hx hb d_R_popped_8 ?_
  refine W.eq (g2 := F0 m 9 ls [.int (nI (s_ht σ i - 1)), .int (nI (sl i)), .ref (adr 11)]) (by rw [show nI (s_ht σ i) - 1 = nI (s_ht σ i - 1) from pk_sub (b := 1) (by omega)]) ?_
  refine gw_iast hx hb hK.1 hP hS 2 hM.a11 ht2 (vp_in_nI hs (by decide)) d_R_popped_9 (fun H locs hP hS => ?_)
  rw [nI_clamp (by omega)] at hP
  obtain ⟨G1, eG1⟩ : ∃ z : gw_G, z = va_up G (adr 11) (some (.inl (cI, 4096, .inl (upd (ar 11) (sl i) ((nI (s_ht σ i - 1))))))) := ⟨_, rfl⟩
  replace hP : gw_P D vwCl (gw_A G s.heap.size) G1 H := by rw [eG1]; exact hP
  obtain ⟨ar1, ear1⟩ : ∃ z : Nat → Nat → Int32, z = va_up ar 11 (upd (ar 11) (sl i) ((nI (s_ht σ i - 1)))) := ⟨_, rfl⟩
  have hM1 : m_Arr cI cB cZ x w n md adr (nI U) (r0) (r1) (r2) (r3) ar1 G1 := by rw [eG1, ear1]; exact hM.put (k := 11) (by decide) _
  have p14 : ar1 14 (sl i) = nI (bg i) := by rw [ear1, va_up_ne _ _ (by decide)]; exact q14
  have p11 : ar1 11 (sl i) = nI (s_ht σ i - 1) := by rw [ear1, va_up_self, upd_self]
  have p16 : ar1 16 (bg i + (s_ht σ i - 1)) = m_val sl (s_fl σ i (s_ht σ i - 1)) := by rw [ear1, va_up_ne _ _ (by decide)]; exact hE.2.2.2.2.2.1 i hri hc _ (by omega)
  refine lv_aload_n hx hb d_R_popped_10 rfl (lv_at hl 0 rfl) ?_
  refine va_get (D := D) (ci := 5) (C := "StackRoomModel") (T := T_R) (N := 25) (v := .ref (adr 16)) hx hb ht in_R hown hK.1 (hP.one hM1.1) 0 rfl rfl 16 (by decide) (ht _ fl_R_R_fields) (fun _ h9 => h9) rfl d_R_popped_11 ?_
  refine lv_aload_n hx hb d_R_popped_14 rfl (lv_at hl 0 rfl) ?_
  refine va_get (D := D) (ci := 5) (C := "StackRoomModel") (T := T_R) (N := 25) (v := .ref (adr 14)) hx hb ht in_R hown hK.1 (hP.one hM1.1) 0 rfl rfl 14 (by decide) (ht _ fl_R_R_begins) (fun _ h9 => h9) rfl d_R_popped_15 ?_
  refine lv_iload_n hx hb d_R_popped_18 rfl (lv_at hl 1 rfl) ?_
  refine va_iald hx hb hK.1 (hP.one hM1.a14) 0 2 rfl ht2 (vp_in_nI hs (by decide)) d_R_popped_19 ?_
  rw [nI_clamp (by omega)]
  rw [p14]
  refine lv_aload_n hx hb d_R_popped_20 rfl (lv_at hl 0 rfl) ?_
  refine va_get (D := D) (ci := 5) (C := "StackRoomModel") (T := T_R) (N := 25) (v := .ref (adr 11)) hx hb ht in_R hown hK.1 (hP.one hM1.1) 0 rfl rfl 11 (by decide) (ht _ fl_R_R_heights) (fun _ h9 => h9) rfl d_R_popped_21 ?_
  refine lv_iload_n hx hb d_R_popped_24 rfl (lv_at hl 1 rfl) ?_
  refine va_iald hx hb hK.1 (hP.one hM1.a11) 0 2 rfl ht2 (vp_in_nI hs (by decide)) d_R_popped_25 ?_
  rw [nI_clamp (by omega)]
  rw [p11]
  refine lv_iadd hx hb d_R_popped_26 ?_
  refine W.eq (g2 := F0 m 27 ls [.int (nI (bg i + (s_ht σ i - 1))), .ref (adr 16)]) (by rw [← nI_add]) ?_
  refine va_iald hx hb hK.1 (hP.one hM1.a16) 0 2 rfl ht2 (vp_in_nI (show bg i + (s_ht σ i - 1) < 32768 by omega) (by decide)) d_R_popped_27 ?_
  rw [nI_clamp (by omega)]
  rw [p16]
  refine lv_istore_n (lv' := [(2, .int (m_val sl (s_fl σ i (s_ht σ i - 1)))), (0, .ref x), (1, .int (nI (sl i)))]) hx hb d_R_popped_28 rfl hl (by decide) rfl (fun ls hl => ?_)
  refine lv_aload_n hx hb d_R_popped_29 rfl (lv_at hl 1 rfl) ?_
  refine va_get (D := D) (ci := 5) (C := "StackRoomModel") (T := T_R) (N := 25) (v := .ref (adr 16)) hx hb ht in_R hown hK.1 (hP.one hM1.1) 0 rfl rfl 16 (by decide) (ht _ fl_R_R_fields) (fun _ h9 => h9) rfl d_R_popped_30 ?_
  refine lv_aload_n hx hb d_R_popped_33 rfl (lv_at hl 1 rfl) ?_
  refine va_get (D := D) (ci := 5) (C := "StackRoomModel") (T := T_R) (N := 25) (v := .ref (adr 14)) hx hb ht in_R hown hK.1 (hP.one hM1.1) 0 rfl rfl 14 (by decide) (ht _ fl_R_R_begins) (fun _ h9 => h9) rfl d_R_popped_34 ?_
  refine lv_iload_n hx hb d_R_popped_37 rfl (lv_at hl 2 rfl) ?_
  refine va_iald hx hb hK.1 (hP.one hM1.a14) 0 2 rfl ht2 (vp_in_nI hs (by decide)) d_R_popped_38 ?_
  rw [nI_clamp (by omega)]
  rw [p14]
  refine lv_aload_n hx hb d_R_popped_39 rfl (lv_at hl 1 rfl) ?_
  refine va_get (D := D) (ci := 5) (C := "StackRoomModel") (T := T_R) (N := 25) (v := .ref (adr 11)) hx hb ht in_R hown hK.1 (hP.one hM1.1) 0 rfl rfl 11 (by decide) (ht _ fl_R_R_heights) (fun _ h9 => h9) rfl d_R_popped_40 ?_
  refine lv_iload_n hx hb d_R_popped_43 rfl (lv_at hl 2 rfl) ?_
  refine va_iald hx hb hK.1 (hP.one hM1.a11) 0 2 rfl ht2 (vp_in_nI hs (by decide)) d_R_popped_44 ?_
  rw [nI_clamp (by omega)]
  rw [p11]
  refine lv_iadd hx hb d_R_popped_45 ?_
  refine W.eq (g2 := F0 m 46 ls [.int (nI (bg i + (s_ht σ i - 1))), .ref (adr 16)]) (by rw [← nI_add]) ?_
  refine lv_iconst (v := 0) hx hb d_R_popped_46 (by decide) ?_
  refine gw_iast hx hb hK.1 hP hS 2 hM1.a16 ht2 (vp_in_nI (show bg i + (s_ht σ i - 1) < 32768 by omega) (by decide)) d_R_popped_47 (fun H locs hP hS => ?_)
  rw [nI_clamp (by omega)] at hP
  obtain ⟨G2, eG2⟩ : ∃ z : gw_G, z = va_up G1 (adr 16) (some (.inl (cI, 32768, .inl (upd (ar1 16) (bg i + (s_ht σ i - 1)) (m_val sl none))))) := ⟨_, rfl⟩
  replace hP : gw_P D vwCl (gw_A G s.heap.size) G2 H := by rw [eG2]; exact hP
  obtain ⟨ar2, ear2⟩ : ∃ z : Nat → Nat → Int32, z = va_up ar1 16 (upd (ar1 16) (bg i + (s_ht σ i - 1)) (m_val sl none)) := ⟨_, rfl⟩
  have hM2 : m_Arr cI cB cZ x w n md adr (nI U) (r0) (r1) (r2) (r3) ar2 G2 := by rw [eG2, ear2]; exact hM1.put (k := 16) (by decide) _
  have hE9 : m_Sem R (s_pop σ i) sl bg U ar2 := by rw [ear2, ear1]; exact (hE.hgt hri (s_ht σ i - 1)).fld hri hc (show s_ht σ i - 1 < s_rm σ i by omega) none
  refine lv_iload_n hx hb d_R_popped_48 rfl (lv_at hl 0 rfl) ?_
  exact W.iret (v := (m_val sl (s_fl σ i (s_ht σ i - 1)))) hx hb hr (fun t ht hW => ⟨⟨_, G2, rfl, ⟨rfl, ar2, hM2, hE9⟩, g_fin ht hP⟩, hS.F ht⟩) hS.2.2 d_R_popped_49
set_option maxHeartbeats 4000000 in
set_option maxRecDepth 100000 in
theorem k_R_give (l : Launch) (hM : m_Arr cI cB cZ x w n md adr us r0 r1 r2 r3 ar G) (ht2 : tys[2]? = some (cI, .int)) (ht3 : tys[3]? = some (cB, .byte)) (ht4 : tys[4]? = some (cZ, .boolean)) {o : Nat} (ho : o < 4096) (aa tt dd : Int32) : Met l y_R_give w_R_give ({ frames := 0, cells := 0, slots := 0, locals := 0 }) (g_pre D tys G sz [.ref x, .int (nI o), .int aa, .int tt, .int dd]) (va_Qv (fun G1 : gw_G => m_Arr cI cB cZ x w n md adr us r0 r1 r2 r3 (va_up (va_up (va_up ar 6 (upd (ar 6) o aa)) 7 (upd (ar 7) o tt)) 8 (upd (ar 8) o dd)) G1) (g_end D G sz) (gw_A G sz)) 0 0 (gw_A G sz) := by
  refine Met.ofW (cc := b_R_give) (maxL := 5) (ret := none) (by decide) rfl ?_
  intro p e s m args below meth c s₁ B hml hv
  obtain ⟨rfl, hsz, hP, hK⟩ := hv
  have hx := B.exec
  have hb := B.bytes
  have hr := B.returns
  have ht := fun w (hw : w ∈ gt) => atoms_spec (ws := w_R_give) B.pre w (List.mem_cons_of_mem _ hw)
  have hown : s.vm.findClass "StackRoomModel" = some m.cls := findClass_of_methodNamed B.named
  have hlocks := B.notSynchronized
  have C0 : CallFix p m c b_R_give 5 s [.ref x, .int (nI o), .int aa, .int tt, .int dd].toArray gt "StackRoomModel" := ⟨hx, hb, hml, hown, ht⟩
  subst hsz
  have hP := hP.self (sz := s.heap.size)
  have hA : ∀ q : Nat, s.heap.size ≤ q → gw_A G s.heap.size q := fun q h => Or.inr h
  have hS : va_S (gw_A G s.heap.size) s.heap s.heap [] := va_S.rf
  have hl := lv_entry ([.ref x, .int (nI o), .int aa, .int tt, .int dd]) (n := 5) (Nat.le_of_ble_eq_true rfl)
  rw [lg_entry_eq]
  generalize (lg_sl ([.ref x, .int (nI o), .int aa, .int tt, .int dd]) ++ List.replicate (5 - (lg_sl ([.ref x, .int (nI o), .int aa, .int tt, .int dd])).length) Slot.unset).toArray = ls at hl ⊢
  have hl : lv_has ls 5 [(0, .ref x), (1, .int (nI o)), (2, .int aa), (3, .int tt), (4, .int dd)] := hl
  refine lv_aload_n hx hb d_R_give_0 rfl (lv_at hl 0 rfl) ?_
  refine va_get (D := D) (ci := 5) (C := "StackRoomModel") (T := T_R) (N := 25) (v := .ref (adr 6)) hx hb ht in_R hown hK.1 (hP.one hM.1) 0 rfl rfl 6 (by decide) (ht _ fl_R_R_arguments) (fun _ h9 => h9) rfl d_R_give_1 ?_
  refine lv_iload_n hx hb d_R_give_4 rfl (lv_at hl 1 rfl) ?_
  refine lv_iload_n hx hb d_R_give_5 rfl (lv_at hl 2 rfl) ?_
  refine gw_iast hx hb hK.1 hP hS 2 hM.a6 ht2 (vp_in_nI ho (by decide)) d_R_give_6 (fun H locs hP hS => ?_)
  rw [nI_clamp (by omega)] at hP
  obtain ⟨G1, eG1⟩ : ∃ z : gw_G, z = va_up G (adr 6) (some (.inl (cI, 4096, .inl (upd (ar 6) (o) (aa))))) := ⟨_, rfl⟩
  replace hP : gw_P D vwCl (gw_A G s.heap.size) G1 H := by rw [eG1]; exact hP
  obtain ⟨ar1, ear1⟩ : ∃ z : Nat → Nat → Int32, z = va_up ar 6 (upd (ar 6) (o) (aa)) := ⟨_, rfl⟩
  have hM1 : m_Arr cI cB cZ x w n md adr (us) (r0) (r1) (r2) (r3) ar1 G1 := by rw [eG1, ear1]; exact hM.put (k := 6) (by decide) _
  refine lv_aload_n hx hb d_R_give_7 rfl (lv_at hl 0 rfl) ?_
  refine va_get (D := D) (ci := 5) (C := "StackRoomModel") (T := T_R) (N := 25) (v := .ref (adr 7)) hx hb ht in_R hown hK.1 (hP.one hM1.1) 0 rfl rfl 7 (by decide) (ht _ fl_R_R_temporaries) (fun _ h9 => h9) rfl d_R_give_8 ?_
  refine lv_iload_n hx hb d_R_give_11 rfl (lv_at hl 1 rfl) ?_
  refine lv_iload_n hx hb d_R_give_12 rfl (lv_at hl 3 rfl) ?_
  refine gw_iast hx hb hK.1 hP hS 2 hM1.a7 ht2 (vp_in_nI ho (by decide)) d_R_give_13 (fun H locs hP hS => ?_)
  rw [nI_clamp (by omega)] at hP
  obtain ⟨G2, eG2⟩ : ∃ z : gw_G, z = va_up G1 (adr 7) (some (.inl (cI, 4096, .inl (upd (ar1 7) (o) (tt))))) := ⟨_, rfl⟩
  replace hP : gw_P D vwCl (gw_A G s.heap.size) G2 H := by rw [eG2]; exact hP
  obtain ⟨ar2, ear2⟩ : ∃ z : Nat → Nat → Int32, z = va_up ar1 7 (upd (ar1 7) (o) (tt)) := ⟨_, rfl⟩
  have hM2 : m_Arr cI cB cZ x w n md adr (us) (r0) (r1) (r2) (r3) ar2 G2 := by rw [eG2, ear2]; exact hM1.put (k := 7) (by decide) _
  refine lv_aload_n hx hb d_R_give_14 rfl (lv_at hl 0 rfl) ?_
  refine va_get (D := D) (ci := 5) (C := "StackRoomModel") (T := T_R) (N := 25) (v := .ref (adr 8)) hx hb ht in_R hown hK.1 (hP.one hM2.1) 0 rfl rfl 8 (by decide) (ht _ fl_R_R_depths) (fun _ h9 => h9) rfl d_R_give_15 ?_
  refine lv_iload_n hx hb d_R_give_18 rfl (lv_at hl 1 rfl) ?_
  refine lv_iload hx hb d_R_give_19 (lv_at hl 4 rfl) ?_
  refine gw_iast hx hb hK.1 hP hS 2 hM2.a8 ht2 (vp_in_nI ho (by decide)) d_R_give_21 (fun H locs hP hS => ?_)
  rw [nI_clamp (by omega)] at hP
  obtain ⟨G3, eG3⟩ : ∃ z : gw_G, z = va_up G2 (adr 8) (some (.inl (cI, 4096, .inl (upd (ar2 8) (o) (dd))))) := ⟨_, rfl⟩
  replace hP : gw_P D vwCl (gw_A G s.heap.size) G3 H := by rw [eG3]; exact hP
  obtain ⟨ar3, ear3⟩ : ∃ z : Nat → Nat → Int32, z = va_up ar2 8 (upd (ar2 8) (o) (dd)) := ⟨_, rfl⟩
  have hM3 : m_Arr cI cB cZ x w n md adr (us) (r0) (r1) (r2) (r3) ar3 G3 := by rw [eG3, ear3]; exact hM2.put (k := 8) (by decide) _
  exact W.vret hx hb hr (fun t ht hW => ⟨⟨G3, rfl, (by have h := hM3; rw [ear3, ear2, ear1] at h; exact h), g_fin ht hP⟩, hS.F ht⟩) hS.2.2 d_R_give_22
set_option maxHeartbeats 4000000 in
set_option maxRecDepth 100000 in
theorem k_R_settle (l : Launch) (hM : m_Arr cI cB cZ x w n md adr us r0 r1 r2 r3 ar G) (ht2 : tys[2]? = some (cI, .int)) (ht3 : tys[3]? = some (cB, .byte)) (ht4 : tys[4]? = some (cZ, .boolean)) {o : Nat} (ho : o < 4096) {r sd d hh lk : Int32} (hreg : 0 ≤ r ∧ r ≤ 15) (hd : d = 0 ∨ d = 1) : Met l y_R_settle w_R_settle ({ frames := 0, cells := 0, slots := 0, locals := 0 }) (g_pre D tys G sz [.ref x, .int r, .int (nI o), .int sd, .int d, .int hh, .int lk]) (va_Qi (fun (rz : Int32) (G1 : gw_G) => rz = ar 5 o ∧ m_Arr cI cB cZ x w n md adr us r0 r1 r2 r3 (va_up (va_up (va_up (va_up (va_up ar 9 (upd (ar 9) o sd)) 10 (upd (ar 10) o d)) 11 (upd (ar 11) o hh)) 12 (upd (ar 12) o lk)) 3 (upd (ar 3) r.toNatClampNeg (nI (2 * o + 2)))) G1) (g_end D G sz) (gw_A G sz)) 0 0 (gw_A G sz) := by
  refine Met.ofW (cc := b_R_settle) (maxL := 7) (ret := (some .int)) (by decide) rfl ?_
  intro p e s m args below meth c s₁ B hml hv
  obtain ⟨rfl, hsz, hP, hK⟩ := hv
  have hx := B.exec
  have hb := B.bytes
  have hr := B.returns
  have ht := fun w (hw : w ∈ gt) => atoms_spec (ws := w_R_settle) B.pre w (List.mem_cons_of_mem _ hw)
  have hown : s.vm.findClass "StackRoomModel" = some m.cls := findClass_of_methodNamed B.named
  have hlocks := B.notSynchronized
  have C0 : CallFix p m c b_R_settle 7 s [.ref x, .int r, .int (nI o), .int sd, .int d, .int hh, .int lk].toArray gt "StackRoomModel" := ⟨hx, hb, hml, hown, ht⟩
  subst hsz
  have hP := hP.self (sz := s.heap.size)
  have hA : ∀ q : Nat, s.heap.size ≤ q → gw_A G s.heap.size q := fun q h => Or.inr h
  have hS : va_S (gw_A G s.heap.size) s.heap s.heap [] := va_S.rf
  have hl := lv_entry ([.ref x, .int r, .int (nI o), .int sd, .int d, .int hh, .int lk]) (n := 7) (Nat.le_of_ble_eq_true rfl)
  rw [lg_entry_eq]
  generalize (lg_sl ([.ref x, .int r, .int (nI o), .int sd, .int d, .int hh, .int lk]) ++ List.replicate (7 - (lg_sl ([.ref x, .int r, .int (nI o), .int sd, .int d, .int hh, .int lk])).length) Slot.unset).toArray = ls at hl ⊢
  have hl : lv_has ls 7 [(0, .ref x), (1, .int r), (2, .int (nI o)), (3, .int sd), (4, .int d), (5, .int hh), (6, .int lk)] := hl
  refine lv_aload_n hx hb d_R_settle_0 rfl (lv_at hl 0 rfl) ?_
  refine va_get (D := D) (ci := 5) (C := "StackRoomModel") (T := T_R) (N := 25) (v := .ref (adr 9)) hx hb ht in_R hown hK.1 (hP.one hM.1) 0 rfl rfl 9 (by decide) (ht _ fl_R_R_senders) (fun _ h9 => h9) rfl d_R_settle_1 ?_
  refine lv_iload_n hx hb d_R_settle_4 rfl (lv_at hl 2 rfl) ?_
  refine lv_iload_n hx hb d_R_settle_5 rfl (lv_at hl 3 rfl) ?_
  refine gw_iast hx hb hK.1 hP hS 2 hM.a9 ht2 (vp_in_nI ho (by decide)) d_R_settle_6 (fun H locs hP hS => ?_)
  rw [nI_clamp (by omega)] at hP
  obtain ⟨G1, eG1⟩ : ∃ z : gw_G, z = va_up G (adr 9) (some (.inl (cI, 4096, .inl (upd (ar 9) (o) (sd))))) := ⟨_, rfl⟩
  replace hP : gw_P D vwCl (gw_A G s.heap.size) G1 H := by rw [eG1]; exact hP
  obtain ⟨ar1, ear1⟩ : ∃ z : Nat → Nat → Int32, z = va_up ar 9 (upd (ar 9) (o) (sd)) := ⟨_, rfl⟩
  have hM1 : m_Arr cI cB cZ x w n md adr (us) (r0) (r1) (r2) (r3) ar1 G1 := by rw [eG1, ear1]; exact hM.put (k := 9) (by decide) _
  refine lv_aload_n hx hb d_R_settle_7 rfl (lv_at hl 0 rfl) ?_
  refine va_get (D := D) (ci := 5) (C := "StackRoomModel") (T := T_R) (N := 25) (v := .ref (adr 10)) hx hb ht in_R hown hK.1 (hP.one hM1.1) 0 rfl rfl 10 (by decide) (ht _ fl_R_R_dead) (fun _ h9 => h9) rfl d_R_settle_8 ?_
  refine lv_iload_n hx hb d_R_settle_11 rfl (lv_at hl 2 rfl) ?_
  refine lv_iload hx hb d_R_settle_12 (lv_at hl 4 rfl) ?_
  refine gw_zast hx hb hK.1 hP hS 4 hM1.a10 ht4 (vp_in_nI ho (by decide)) d_R_settle_14 (fun H locs hP hS => ?_)
  rw [nI_clamp (by omega), z_k hd] at hP
  obtain ⟨G2, eG2⟩ : ∃ z : gw_G, z = va_up G1 (adr 10) (some (.inl (cZ, 4096, .inl (upd (ar1 10) (o) (d))))) := ⟨_, rfl⟩
  replace hP : gw_P D vwCl (gw_A G s.heap.size) G2 H := by rw [eG2]; exact hP
  obtain ⟨ar2, ear2⟩ : ∃ z : Nat → Nat → Int32, z = va_up ar1 10 (upd (ar1 10) (o) (d)) := ⟨_, rfl⟩
  have hM2 : m_Arr cI cB cZ x w n md adr (us) (r0) (r1) (r2) (r3) ar2 G2 := by rw [eG2, ear2]; exact hM1.put (k := 10) (by decide) _
  refine lv_aload_n hx hb d_R_settle_15 rfl (lv_at hl 0 rfl) ?_
  refine va_get (D := D) (ci := 5) (C := "StackRoomModel") (T := T_R) (N := 25) (v := .ref (adr 11)) hx hb ht in_R hown hK.1 (hP.one hM2.1) 0 rfl rfl 11 (by decide) (ht _ fl_R_R_heights) (fun _ h9 => h9) rfl d_R_settle_16 ?_
  refine lv_iload_n hx hb d_R_settle_19 rfl (lv_at hl 2 rfl) ?_
  refine lv_iload hx hb d_R_settle_20 (lv_at hl 5 rfl) ?_
  refine gw_iast hx hb hK.1 hP hS 2 hM2.a11 ht2 (vp_in_nI ho (by decide)) d_R_settle_22 (fun H locs hP hS => ?_)
  rw [nI_clamp (by omega)] at hP
  obtain ⟨G3, eG3⟩ : ∃ z : gw_G, z = va_up G2 (adr 11) (some (.inl (cI, 4096, .inl (upd (ar2 11) (o) (hh))))) := ⟨_, rfl⟩
  replace hP : gw_P D vwCl (gw_A G s.heap.size) G3 H := by rw [eG3]; exact hP
  obtain ⟨ar3, ear3⟩ : ∃ z : Nat → Nat → Int32, z = va_up ar2 11 (upd (ar2 11) (o) (hh)) := ⟨_, rfl⟩
  have hM3 : m_Arr cI cB cZ x w n md adr (us) (r0) (r1) (r2) (r3) ar3 G3 := by rw [eG3, ear3]; exact hM2.put (k := 11) (by decide) _
  refine lv_aload_n hx hb d_R_settle_23 rfl (lv_at hl 0 rfl) ?_
  refine va_get (D := D) (ci := 5) (C := "StackRoomModel") (T := T_R) (N := 25) (v := .ref (adr 12)) hx hb ht in_R hown hK.1 (hP.one hM3.1) 0 rfl rfl 12 (by decide) (ht _ fl_R_R_links) (fun _ h9 => h9) rfl d_R_settle_24 ?_
  refine lv_iload_n hx hb d_R_settle_27 rfl (lv_at hl 2 rfl) ?_
  refine lv_iload hx hb d_R_settle_28 (lv_at hl 6 rfl) ?_
  refine gw_iast hx hb hK.1 hP hS 2 hM3.a12 ht2 (vp_in_nI ho (by decide)) d_R_settle_30 (fun H locs hP hS => ?_)
  rw [nI_clamp (by omega)] at hP
  obtain ⟨G4, eG4⟩ : ∃ z : gw_G, z = va_up G3 (adr 12) (some (.inl (cI, 4096, .inl (upd (ar3 12) (o) (lk))))) := ⟨_, rfl⟩
  replace hP : gw_P D vwCl (gw_A G s.heap.size) G4 H := by rw [eG4]; exact hP
  obtain ⟨ar4, ear4⟩ : ∃ z : Nat → Nat → Int32, z = va_up ar3 12 (upd (ar3 12) (o) (lk)) := ⟨_, rfl⟩
  have hM4 : m_Arr cI cB cZ x w n md adr (us) (r0) (r1) (r2) (r3) ar4 G4 := by rw [eG4, ear4]; exact hM3.put (k := 12) (by decide) _
  refine lv_aload_n hx hb d_R_settle_31 rfl (lv_at hl 0 rfl) ?_
  refine va_get (D := D) (ci := 5) (C := "StackRoomModel") (T := T_R) (N := 25) (v := .ref (adr 3)) hx hb ht in_R hown hK.1 (hP.one hM4.1) 0 rfl rfl 3 (by decide) (ht _ fl_R_R_registers) (fun _ h9 => h9) rfl d_R_settle_32 ?_
  refine lv_iload_n hx hb d_R_settle_35 rfl (lv_at hl 1 rfl) ?_
  refine lv_iconst (v := 2) hx hb d_R_settle_36 (by decide) ?_
  refine lv_iload_n hx hb d_R_settle_37 rfl (lv_at hl 2 rfl) ?_
  refine lv_imul hx hb d_R_settle_38 ?_
  refine lv_iconst (v := 2) hx hb d_R_settle_39 (by decide) ?_
  refine lv_iadd hx hb d_R_settle_40 ?_
  refine W.eq (g2 := F0 m 41 ls [.int (nI (2 * o + 2)), .int r, .ref (adr 3)]) (by rw [m_lnk]) ?_
  refine gw_iast hx hb hK.1 hP hS 2 hM4.a3 ht2 (m_rin hreg) d_R_settle_41 (fun H locs hP hS => ?_)
  obtain ⟨G5, eG5⟩ : ∃ z : gw_G, z = va_up G4 (adr 3) (some (.inl (cI, 16, .inl (upd (ar4 3) (r.toNatClampNeg) (nI (2 * o + 2)))))) := ⟨_, rfl⟩
  replace hP : gw_P D vwCl (gw_A G s.heap.size) G5 H := by rw [eG5]; exact hP
  obtain ⟨ar5, ear5⟩ : ∃ z : Nat → Nat → Int32, z = va_up ar4 3 (upd (ar4 3) (r.toNatClampNeg) (nI (2 * o + 2))) := ⟨_, rfl⟩
  have hM5 : m_Arr cI cB cZ x w n md adr (us) (r0) (r1) (r2) (r3) ar5 G5 := by rw [eG5, ear5]; exact hM4.put (k := 3) (by decide) _
  refine lv_aload_n hx hb d_R_settle_42 rfl (lv_at hl 0 rfl) ?_
  refine va_get (D := D) (ci := 5) (C := "StackRoomModel") (T := T_R) (N := 25) (v := .ref (adr 5)) hx hb ht in_R hown hK.1 (hP.one hM5.1) 0 rfl rfl 5 (by decide) (ht _ fl_R_R_identities) (fun _ h9 => h9) rfl d_R_settle_43 ?_
  refine lv_iload_n hx hb d_R_settle_46 rfl (lv_at hl 2 rfl) ?_
  refine va_iald hx hb hK.1 (hP.one hM5.a5) 0 2 rfl ht2 (vp_in_nI ho (by decide)) d_R_settle_47 ?_
  rw [nI_clamp (by omega)]
  rw [show ar5 5 o = ar 5 o from (by rw [ear5, ear4, ear3, ear2, ear1]; rfl)]
  exact W.iret (v := (ar 5 o)) hx hb hr (fun t ht hW => ⟨⟨_, G5, rfl, ⟨rfl, (by have h := hM5; rw [ear5, ear4, ear3, ear2, ear1] at h; exact h)⟩, g_fin ht hP⟩, hS.F ht⟩) hS.2.2 d_R_settle_48
/-- the place of a temporary -/
def m_pl (σ : sS) (bg : Nat → Nat) (c ix : Int32) : Int32 := match s_ci σ c with
  | some j => if 0 ≤ ix ∧ ix.toNatClampNeg < s_tt σ (s_og σ (s_hm σ j)) ∧ ix.toNatClampNeg < s_rm σ (s_hm σ j) then nI (bg (s_hm σ j) + ix.toNatClampNeg) else -1
  | none => -1
set_option maxHeartbeats 4000000 in
set_option maxRecDepth 100000 in
theorem k_R_placeOf (l : Launch) (hM : m_Arr cI cB cZ x w n md adr us r0 r1 r2 r3 ar G) (hE : m_Sem (s_rch σ) σ sl bg U ar) (hO : s_OK w n σ) (hV : s_NV σ) (ht2 : tys[2]? = some (cI, .int)) (ht3 : tys[3]? = some (cB, .byte)) (ht4 : tys[4]? = some (cZ, .boolean)) (cx ix : Int32) : Met l y_R_placeOf w_R_placeOf ({ frames := 3, cells := 0, slots := 0, locals := 65 }) (g_pre D tys G sz [.ref x, .int cx, .int ix]) (vp_Si (fun rz => rz = m_pl σ bg cx ix)) 0 0 (fun _ => False) := by
  refine Met.ofW (cc := b_R_placeOf) (maxL := 5) (ret := (some .int)) (by decide) rfl ?_
  intro p e s m args below meth c s₁ B hml hv
  obtain ⟨rfl, hsz, hP, hK⟩ := hv
  have hx := B.exec
  have hb := B.bytes
  have hr := B.returns
  have ht := fun w (hw : w ∈ gt) => atoms_spec (ws := w_R_placeOf) B.pre w (List.mem_cons_of_mem _ hw)
  have hown : s.vm.findClass "StackRoomModel" = some m.cls := findClass_of_methodNamed B.named
  have hlocks := B.notSynchronized
  have C0 : CallFix p m c b_R_placeOf 5 s [.ref x, .int cx, .int ix].toArray gt "StackRoomModel" := ⟨hx, hb, hml, hown, ht⟩
  have hl := lv_entry ([.ref x, .int cx, .int ix]) (n := 5) (Nat.le_of_ble_eq_true rfl)
  rw [lg_entry_eq]
  generalize (lg_sl ([.ref x, .int cx, .int ix]) ++ List.replicate (5 - (lg_sl ([.ref x, .int cx, .int ix])).length) Slot.unset).toArray = ls at hl ⊢
  have hl : lv_has ls 5 [(0, .ref x), (1, .int cx), (2, .int ix)] := hl
  refine lv_aload_n hx hb d_R_placeOf_0 rfl (lv_at hl 0 rfl) ?_
  refine lv_iload_n hx hb d_R_placeOf_1 rfl (lv_at hl 1 rfl) ?_
  refine vp_callSi (va_Run.run (r_V (rest := []) C0 [.int cx] (k_R_contextIn l hM hE hO.1 hV ht2 ht3 ht4 cx) ml_R_R_contextIn im_R_contextIn se_R_R_contextIn_R ini_R co_R_contextIn ⟨rfl, hd_R_contextIn⟩ (g_preV (ci := 5) hK hP rfl hM.1) hl.1 d_R_placeOf_2 rfl rfl (Nat.le_of_ble_eq_true rfl) ⟨rfl, rfl⟩ ⟨Nat.le_of_ble_eq_true rfl, Nat.le_of_ble_eq_true rfl⟩ ⟨Nat.le_of_ble_eq_true rfl, Nat.le_of_ble_eq_true rfl⟩)) (fun qc ec => ?_)
  subst ec
  rcases hci : s_ci σ cx with _ | i
  · refine W.eq (g2 := F0 m 5 ls [.int (-1)]) (rfl) ?_
    refine lv_istore_n (lv' := [(3, .int (-1)), (0, .ref x), (1, .int cx), (2, .int ix)]) hx hb d_R_placeOf_5 rfl hl (by decide) rfl (fun ls hl => ?_)
    refine lv_iload_n hx hb d_R_placeOf_6 rfl (lv_at hl 0 rfl) ?_
    refine lv_if_ge (tgt := 12) hx hb d_R_placeOf_7 (by decide) (fun z => absurd z (by decide)) (fun _ => ?_)
    refine lv_iconst (v := (-1)) hx hb d_R_placeOf_10 (by decide) ?_
    exact W.iret (v := (-1)) hx hb hr (fun t ht hW => ⟨_, rfl, (by simp only [m_pl, hci]), ht⟩) (fun _ h => by cases h) d_R_placeOf_11
  · refine W.eq (g2 := F0 m 5 ls [.int (nI (sl i))]) (rfl) ?_
    have hc := (s_ci_some hci).2.2
    have hri := s_ci_rch hci
    obtain ⟨hs, hk4, hk5⟩ := hE.2.1 i hri
    obtain ⟨yy9, yy10, yy11, yy12, yy14, yy15, qU⟩ := hE.2.2.2.1 i hri hc
    have hU := hE.2.2.2.2.2.2.2.2
    have hb9 := (hO.1.2.2.2.2.2.2 i hc).2
    refine lv_istore_n (lv' := [(3, .int (nI (sl i))), (0, .ref x), (1, .int cx), (2, .int ix)]) hx hb d_R_placeOf_5 rfl hl (by decide) rfl (fun ls hl => ?_)
    refine lv_iload_n hx hb d_R_placeOf_6 rfl (lv_at hl 0 rfl) ?_
    refine lv_if_ge (tgt := 12) hx hb d_R_placeOf_7 (by decide) (fun _ => ?_) (fun z => absurd (nI_pos' (by omega)) z)
    refine lv_aload_n hx hb d_R_placeOf_12 rfl (lv_at hl 1 rfl) ?_
    refine lv_iload_n hx hb d_R_placeOf_13 rfl (lv_at hl 0 rfl) ?_
    refine vp_callSi (va_Run.run (r_V (rest := []) C0 [.int (nI (sl i))] (k_R_homeOf l hM hE hri hc ht2 ht3 ht4) ml_R_R_homeOf im_R_homeOf se_R_R_homeOf_R ini_R co_R_homeOf ⟨rfl, hd_R_homeOf⟩ (g_preV (ci := 5) hK hP rfl hM.1) hl.1 d_R_placeOf_14 rfl rfl (Nat.le_of_ble_eq_true rfl) ⟨rfl, rfl⟩ ⟨Nat.le_of_ble_eq_true rfl, Nat.le_of_ble_eq_true rfl⟩ ⟨Nat.le_of_ble_eq_true rfl, Nat.le_of_ble_eq_true rfl⟩)) (fun qh eh => ?_)
    subst eh
    have h3 := s_hm_kd hO.1 hc
    have hrh := s_hm_rch hri hc
    obtain ⟨hs2, -, -⟩ := hE.2.1 _ hrh
    obtain ⟨-, -, -, t12, t14, t15, tU⟩ := hE.2.2.2.1 _ hrh (Or.inl h3)
    obtain ⟨hro, ho2⟩ := s_hro hO.1 _ hrh h3
    obtain ⟨hs3, -, -⟩ := hE.2.1 _ hro
    have t7 := (hE.2.2.1 _ hro ho2).1
    have hb31 := (hO.1.2.2.2.1 _ ho2).1
    refine lv_istore (lv' := [(4, .int (nI (sl (s_hm σ i)))), (3, .int (nI (sl i))), (0, .ref x), (1, .int cx), (2, .int ix)]) hx hb d_R_placeOf_17 hl (by decide) rfl (fun ls hl => ?_)
    refine lv_iload_n hx hb d_R_placeOf_19 rfl (lv_at hl 4 rfl) ?_
    refine lv_if_lt (tgt := 62) hx hb d_R_placeOf_20 (by decide) (fun cn => ?_) (fun cn => ?_)
    · refine lv_iconst (v := (-1)) hx hb d_R_placeOf_62 (by decide) ?_
      exact W.iret (v := (-1)) hx hb hr (fun t ht hW => ⟨_, rfl, (by simp only [m_pl, hci]; rw [if_neg (fun z => absurd z.1 (Int32.not_le.mpr cn))]), ht⟩) (fun _ h => by cases h) d_R_placeOf_63
    · obtain ⟨k, hk, ek⟩ := nI_of cn
      have e1 : ix.toNatClampNeg = k := by rw [ek]; exact nI_clamp hk
      refine lv_iload_n hx hb d_R_placeOf_23 rfl (lv_at hl 4 rfl) ?_
      refine lv_aload_n hx hb d_R_placeOf_24 rfl (lv_at hl 2 rfl) ?_
      refine va_get (D := D) (ci := 5) (C := "StackRoomModel") (T := T_R) (N := 25) (v := .ref (adr 7)) hx hb ht in_R hown hK.1 (hP.one hM.1) 0 rfl rfl 7 (by decide) (ht _ fl_R_R_temporaries) (fun _ h9 => h9) rfl d_R_placeOf_25 ?_
      refine lv_aload_n hx hb d_R_placeOf_28 rfl (lv_at hl 2 rfl) ?_
      refine va_get (D := D) (ci := 5) (C := "StackRoomModel") (T := T_R) (N := 25) (v := .ref (adr 12)) hx hb ht in_R hown hK.1 (hP.one hM.1) 0 rfl rfl 12 (by decide) (ht _ fl_R_R_links) (fun _ h9 => h9) rfl d_R_placeOf_29 ?_
      refine lv_iload hx hb d_R_placeOf_32 (lv_at hl 0 rfl) ?_
      refine va_iald hx hb hK.1 (hP.one hM.a12) 0 2 rfl ht2 (vp_in_nI hs2 (by decide)) d_R_placeOf_34 ?_
      rw [nI_clamp (by omega)]
      rw [t12]
      refine va_iald hx hb hK.1 (hP.one hM.a7) 0 2 rfl ht2 (vp_in_nI hs3 (by decide)) d_R_placeOf_35 ?_
      rw [nI_clamp (by omega)]
      rw [t7]
      refine lv_icmp_ge (tgt := 62) hx hb d_R_placeOf_36 (by decide) (fun c1 => ?_) (fun c1 => ?_)
      · have hge : s_tt σ (s_og σ (s_hm σ i)) ≤ k := (nI_leI (by omega) hk).mp (by rw [ek] at c1; exact c1)
        refine lv_iconst (v := (-1)) hx hb d_R_placeOf_62 (by decide) ?_
        exact W.iret (v := (-1)) hx hb hr (fun t ht hW => ⟨_, rfl, (by simp only [m_pl, hci]; rw [if_neg (fun z => by rw [e1] at z; omega)]), ht⟩) (fun _ h => by cases h) d_R_placeOf_63
      · have hlt : k < s_tt σ (s_og σ (s_hm σ i)) := Nat.not_le.mp (fun z => c1 (by rw [ek]; exact (nI_leI (by omega) hk).mpr z))
        refine lv_iload_n hx hb d_R_placeOf_39 rfl (lv_at hl 4 rfl) ?_
        refine lv_aload_n hx hb d_R_placeOf_40 rfl (lv_at hl 2 rfl) ?_
        refine va_get (D := D) (ci := 5) (C := "StackRoomModel") (T := T_R) (N := 25) (v := .ref (adr 15)) hx hb ht in_R hown hK.1 (hP.one hM.1) 0 rfl rfl 15 (by decide) (ht _ fl_R_R_rooms) (fun _ h9 => h9) rfl d_R_placeOf_41 ?_
        refine lv_iload hx hb d_R_placeOf_44 (lv_at hl 0 rfl) ?_
        refine va_iald hx hb hK.1 (hP.one hM.a15) 0 2 rfl ht2 (vp_in_nI hs2 (by decide)) d_R_placeOf_46 ?_
        rw [nI_clamp (by omega)]
        rw [t15]
        refine lv_icmp_ge (tgt := 62) hx hb d_R_placeOf_47 (by decide) (fun c2 => ?_) (fun c2 => ?_)
        · have hge : s_rm σ (s_hm σ i) ≤ k := (nI_leI (by omega) hk).mp (by rw [ek] at c2; exact c2)
          refine lv_iconst (v := (-1)) hx hb d_R_placeOf_62 (by decide) ?_
          exact W.iret (v := (-1)) hx hb hr (fun t ht hW => ⟨_, rfl, (by simp only [m_pl, hci]; rw [if_neg (fun z => by rw [e1] at z; omega)]), ht⟩) (fun _ h => by cases h) d_R_placeOf_63
        · have hlt2 : k < s_rm σ (s_hm σ i) := Nat.not_le.mp (fun z => c2 (by rw [ek]; exact (nI_leI (by omega) hk).mpr z))
          refine lv_aload_n hx hb d_R_placeOf_50 rfl (lv_at hl 2 rfl) ?_
          refine va_get (D := D) (ci := 5) (C := "StackRoomModel") (T := T_R) (N := 25) (v := .ref (adr 14)) hx hb ht in_R hown hK.1 (hP.one hM.1) 0 rfl rfl 14 (by decide) (ht _ fl_R_R_begins) (fun _ h9 => h9) rfl d_R_placeOf_51 ?_
          refine lv_iload hx hb d_R_placeOf_54 (lv_at hl 0 rfl) ?_
          refine va_iald hx hb hK.1 (hP.one hM.a14) 0 2 rfl ht2 (vp_in_nI hs2 (by decide)) d_R_placeOf_56 ?_
          rw [nI_clamp (by omega)]
          rw [t14]
          refine lv_iload_n hx hb d_R_placeOf_57 rfl (lv_at hl 4 rfl) ?_
          refine lv_iadd hx hb d_R_placeOf_58 ?_
          refine lv_goto (tgt := 63) hx hb d_R_placeOf_59 (by decide) ?_
          exact W.iret (v := ((nI (bg (s_hm σ i))) + ix)) hx hb hr (fun t ht hW => ⟨_, rfl, (by simp only [m_pl, hci]; rw [if_pos ⟨Int32.not_lt.mp cn, by omega, by omega⟩, e1, ← nI_add, ek]), ht⟩) (fun _ h => by cases h) d_R_placeOf_63
end K36
