section K12
variable {w n rd md : Nat} {cV cT : ClassId} {σ : sS} {x ra rt : Nat} {ad fa : Nat → Nat} {ρ : Nat → Int32} {fr : Nat → Nat → Option Nat} {rr rf : Nat → Option Nat} {rc wl el cr : Int32} {G : gw_G} {D : va_G} {tys : List (ClassId × FieldType)} {sz : Nat}
/-- a cell that can stand in a register -/
def c_isv (G : gw_G) (a : Nat) : Prop := ∃ (ci : Nat) (fs : List Value), G a = some (.inr (ci, fs)) ∧ (ci = kW ∨ ci = kM ∨ ci = kC ∨ ci = kB)
theorem ca_asg {s : State} {C E : String} (h : va_Nw (.castable C E) s) : ∀ comp c0 : ClassId, s.vm.findClass E = some comp → s.vm.findClass C = some c0 → s.vm.assignable c0 comp = true := by
  intro comp c0 h1 h2
  obtain ⟨c', t', f1, f2, f3⟩ := Cond.castable_spec (va_Nw.use (A := #[]) rfl h)
  cases h2.symm.trans f1
  cases h1.symm.trans f2
  exact f3
theorem c_any {A : Nat → Prop} {s : State} {H : Heap} {a : Nat} (hK : kK D tys s) (hP : gw_P D vwCl A G H) (h : c_isv G a) : va_Any "StackRoom$Value" s H a := by
  obtain ⟨ci, fs, he, hc⟩ := h
  rcases hc with rfl | rfl | rfl | rfl
  · exact gw_any hK.1 hP he rfl (ca_asg (hK.2.1 _ ca_W_V))
  · exact gw_any hK.1 hP he rfl (ca_asg (hK.2.1 _ ca_M_V))
  · exact gw_any hK.1 hP he rfl (ca_asg (hK.2.1 _ ca_X_V))
  · exact gw_any hK.1 hP he rfl (ca_asg (hK.2.1 _ ca_B_V))
theorem c_isv.up {a q : Nat} {e : Option va_E} (h : c_isv G a) (hq : a ≠ q) : c_isv (va_up G q e) a := by
  obtain ⟨ci, fs, he, hc⟩ := h
  exact ⟨ci, fs, gw_up he hq, hc⟩
theorem c_val_isv (hR : c_Rep w n rd md cV cT σ x ra rt ad fa ρ fr rr rf rc wl el cr G) (hI : s_I σ) {v : sV} {r : Option Nat} (hv : c_val G ad v r) (hk : ∀ i, v = some (.inr i) → s_kd σ i ≠ 0) : ∀ a, r = some a → c_isv G a := by
  intro a ha
  unfold c_val at hv
  split at hv
  · rw [hv] at ha; cases ha
  · obtain ⟨b, h1, h2⟩ := hv
    rw [h1] at ha; cases ha
    exact ⟨_, _, h2, Or.inl rfl⟩
  · rename_i i
    rw [hv] at ha; cases ha
    have h0 := hk i rfl
    rcases (hI.2.1 i h0).2.2 with e | e | e
    · exact ⟨_, _, hR.c2 e, Or.inr (Or.inl rfl)⟩
    · exact ⟨_, _, hR.c3 e, Or.inr (Or.inr (Or.inl rfl))⟩
    · exact ⟨_, _, hR.c4 e, Or.inr (Or.inr (Or.inr rfl))⟩
theorem k_arr {D : va_G} {cl : List vw_C} {s : State} {cA cB : ClassId} {C : String} {t0 : Nat} (h0 : va_K D cl tys s) (ht0 : tys[t0]? = some (cB, .object C)) (h1 : va_K D cl (tys ++ [(cA, .object C)]) s) : cA = cB := by
  obtain ⟨-, kA, comp, a1, a2, a3, a4⟩ := h0.2 t0 _ ht0
  obtain ⟨-, kB, comp', b1, b2, b3, b4⟩ := h1.2 tys.length (cA, .object C) (by rw [List.getElem?_append_right (Nat.le_refl _), Nat.sub_self]; rfl)
  exact Option.some.inj (b4.symm.trans a4)
set_option maxHeartbeats 4000000 in
set_option maxRecDepth 100000 in
theorem k_C_putField_N (l : Launch) (hR : c_Rep w n rd md cV cT σ x ra rt ad fa ρ fr rr rf rc wl el cr G) {i : Nat} (hi : s_isC σ i) (ht0 : tys[0]? = some (cV, .object "StackRoom$Value")) (hI : s_I σ) {k : Nat} (hk : k < s_rm σ i) : Met l y_C_putField w_C_putField ({ frames := 1, cells := 0, slots := 0, locals := 21 }) (g_pre D tys G sz [.ref (ad i), .int (nI k), .null]) (va_Qv (fun G1 : gw_G => G1 = va_up G (fa i) (some (.inl (cV, s_rm σ i, qv (va_up (fr i) k none))))) (g_end D G sz) (gw_A G sz)) 0 0 (gw_A G sz) := by
  refine Met.ofW (cc := b_C_putField) (maxL := 3) (ret := none) (by decide) rfl ?_
  intro p e s m args below meth c s₁ B hml hv
  obtain ⟨rfl, hsz, hP, hK⟩ := hv
  have hx := B.exec
  have hb := B.bytes
  have hr := B.returns
  have ht := fun w (hw : w ∈ gt) => atoms_spec (ws := w_C_putField) B.pre w (List.mem_cons_of_mem _ hw)
  have hown : s.vm.findClass "StackRoom$Context" = some m.cls := findClass_of_methodNamed B.named
  have hlocks := B.notSynchronized
  have C0 : CallFix p m c b_C_putField 3 s [.ref (ad i), .int (nI k), .null].toArray gt "StackRoom$Context" := ⟨hx, hb, hml, hown, ht⟩
  subst hsz
  have hP := hP.self (sz := s.heap.size)
  have hA : ∀ q : Nat, s.heap.size ≤ q → gw_A G s.heap.size q := fun q h => Or.inr h
  have hS : va_S (gw_A G s.heap.size) s.heap s.heap [] := va_S.rf
  have hl := lv_entry ([.ref (ad i), .int (nI k), .null]) (n := 3) (Nat.le_of_ble_eq_true rfl)
  rw [lg_entry_eq]
  generalize (lg_sl ([.ref (ad i), .int (nI k), .null]) ++ List.replicate (3 - (lg_sl ([.ref (ad i), .int (nI k), .null])).length) Slot.unset).toArray = ls at hl ⊢
  have hl : lv_has ls 3 [(0, .ref (ad i)), (1, .int (nI k)), (2, .null)] := hl
  have hb9 := (hI.2.2.2.2.2.2 i hi).2.2.1
  rcases id hi with h3 | h4
  · refine lv_aload_n hx hb d_C_putField_0 rfl (lv_at hl 0 rfl) ?_
    refine lv_iload_n hx hb d_C_putField_1 rfl (lv_at hl 1 rfl) ?_
    refine vp_callSi (va_Run.run (r_U (owner := "StackRoom$Context") (n := 1) (rest := []) C0 [.int (nI k)] (k_C_hasField l hR hi ht0 (nI k)) ml_C_C_hasField sm_C_C_hasField se_X_C_hasField_C im_C_hasField ini_C co_C_hasField rfl (by decide +kernel) (g_preV (ci := 3) hK hP rfl (hR.c3 h3)) hl.1 d_C_putField_2 rfl rfl (Nat.le_of_ble_eq_true rfl) ⟨rfl, rfl⟩ ⟨Nat.le_of_ble_eq_true rfl, Nat.le_of_ble_eq_true rfl⟩ ⟨Nat.le_of_ble_eq_true rfl, Nat.le_of_ble_eq_true rfl⟩)) (fun q eq => ?_)
    rw [if_pos ⟨nI_pos' (by omega), (nI_ltI (by omega) (by omega)).mpr hk⟩] at eq
    refine lv_if_eq (tgt := 15) hx hb d_C_putField_5 (by decide) (fun c5 => ?_) (fun c5 => ?_)
    · exact absurd (eq.symm.trans c5) (by decide)
    · refine lv_aload_n hx hb d_C_putField_8 rfl (lv_at hl 0 rfl) ?_
      refine va_get (D := D) (ci := 3) (C := "StackRoom$MethodContext") (T := T_X) (N := 7) (v := .ref (fa i)) hx hb ht in_X hown hK.1 (hP.one (hR.c3 h3)) 0 rfl rfl 5 (by decide) (ht _ fl_C_C_fields) (fun _ h9 => h9) rfl d_C_putField_9 ?_
      refine lv_iload_n hx hb d_C_putField_12 rfl (lv_at hl 1 rfl) ?_
      refine lv_aload_nN hx hb d_C_putField_13 rfl (lv_at hl 2 rfl) ?_
      refine gw_astqN hx hb hK.1 hP hS 0 (hR.ca hi) ht0 (vp_in_nI hk (by omega)) d_C_putField_14 (fun H locs hP hS => ?_)
      rw [nI_clamp (by omega)] at hP
      obtain ⟨G1, eG1⟩ : ∃ z : gw_G, z = va_up G (fa i) (some (.inl (cV, s_rm σ i, qv (va_up (fr i) k none)))) := ⟨_, rfl⟩
      replace hP : gw_P D vwCl (gw_A G s.heap.size) G1 H := by rw [eG1]; exact hP
      exact W.vret hx hb hr (fun t ht hW => ⟨⟨G1, rfl, eG1, g_fin ht hP⟩, hS.F ht⟩) hS.2.2 d_C_putField_15
  · refine lv_aload_n hx hb d_C_putField_0 rfl (lv_at hl 0 rfl) ?_
    refine lv_iload_n hx hb d_C_putField_1 rfl (lv_at hl 1 rfl) ?_
    refine vp_callSi (va_Run.run (r_U (owner := "StackRoom$Context") (n := 1) (rest := []) C0 [.int (nI k)] (k_C_hasField l hR hi ht0 (nI k)) ml_C_C_hasField sm_C_C_hasField se_B_C_hasField_C im_C_hasField ini_C co_C_hasField rfl (by decide +kernel) (g_preV (ci := 4) hK hP rfl (hR.c4 h4)) hl.1 d_C_putField_2 rfl rfl (Nat.le_of_ble_eq_true rfl) ⟨rfl, rfl⟩ ⟨Nat.le_of_ble_eq_true rfl, Nat.le_of_ble_eq_true rfl⟩ ⟨Nat.le_of_ble_eq_true rfl, Nat.le_of_ble_eq_true rfl⟩)) (fun q eq => ?_)
    rw [if_pos ⟨nI_pos' (by omega), (nI_ltI (by omega) (by omega)).mpr hk⟩] at eq
    refine lv_if_eq (tgt := 15) hx hb d_C_putField_5 (by decide) (fun c5 => ?_) (fun c5 => ?_)
    · exact absurd (eq.symm.trans c5) (by decide)
    · refine lv_aload_n hx hb d_C_putField_8 rfl (lv_at hl 0 rfl) ?_
      refine va_get (D := D) (ci := 4) (C := "StackRoom$BlockContext") (T := T_B) (N := 8) (v := .ref (fa i)) hx hb ht in_B hown hK.1 (hP.one (hR.c4 h4)) 0 rfl rfl 5 (by decide) (ht _ fl_C_C_fields) (fun _ h9 => h9) rfl d_C_putField_9 ?_
      refine lv_iload_n hx hb d_C_putField_12 rfl (lv_at hl 1 rfl) ?_
      refine lv_aload_nN hx hb d_C_putField_13 rfl (lv_at hl 2 rfl) ?_
      refine gw_astqN hx hb hK.1 hP hS 0 (hR.ca hi) ht0 (vp_in_nI hk (by omega)) d_C_putField_14 (fun H locs hP hS => ?_)
      rw [nI_clamp (by omega)] at hP
      obtain ⟨G2, eG2⟩ : ∃ z : gw_G, z = va_up G (fa i) (some (.inl (cV, s_rm σ i, qv (va_up (fr i) k none)))) := ⟨_, rfl⟩
      replace hP : gw_P D vwCl (gw_A G s.heap.size) G2 H := by rw [eG2]; exact hP
      exact W.vret hx hb hr (fun t ht hW => ⟨⟨G2, rfl, eG2, g_fin ht hP⟩, hS.F ht⟩) hS.2.2 d_C_putField_15
set_option maxHeartbeats 4000000 in
set_option maxRecDepth 100000 in
theorem k_C_putField_R (l : Launch) (hR : c_Rep w n rd md cV cT σ x ra rt ad fa ρ fr rr rf rc wl el cr G) {i : Nat} (hi : s_isC σ i) (ht0 : tys[0]? = some (cV, .object "StackRoom$Value")) (hI : s_I σ) {k : Nat} (hk : k < s_rm σ i) {a : Nat} (hv : c_isv G a) : Met l y_C_putField w_C_putField ({ frames := 1, cells := 0, slots := 0, locals := 21 }) (g_pre D tys G sz [.ref (ad i), .int (nI k), .ref a]) (va_Qv (fun G1 : gw_G => G1 = va_up G (fa i) (some (.inl (cV, s_rm σ i, qv (va_up (fr i) k (some a)))))) (g_end D G sz) (gw_A G sz)) 0 0 (gw_A G sz) := by
  refine Met.ofW (cc := b_C_putField) (maxL := 3) (ret := none) (by decide) rfl ?_
  intro p e s m args below meth c s₁ B hml hv
  obtain ⟨rfl, hsz, hP, hK⟩ := hv
  have hx := B.exec
  have hb := B.bytes
  have hr := B.returns
  have ht := fun w (hw : w ∈ gt) => atoms_spec (ws := w_C_putField) B.pre w (List.mem_cons_of_mem _ hw)
  have hown : s.vm.findClass "StackRoom$Context" = some m.cls := findClass_of_methodNamed B.named
  have hlocks := B.notSynchronized
  have C0 : CallFix p m c b_C_putField 3 s [.ref (ad i), .int (nI k), .ref a].toArray gt "StackRoom$Context" := ⟨hx, hb, hml, hown, ht⟩
  subst hsz
  have hP := hP.self (sz := s.heap.size)
  have hA : ∀ q : Nat, s.heap.size ≤ q → gw_A G s.heap.size q := fun q h => Or.inr h
  have hS : va_S (gw_A G s.heap.size) s.heap s.heap [] := va_S.rf
  have hl := lv_entry ([.ref (ad i), .int (nI k), .ref a]) (n := 3) (Nat.le_of_ble_eq_true rfl)
  rw [lg_entry_eq]
  generalize (lg_sl ([.ref (ad i), .int (nI k), .ref a]) ++ List.replicate (3 - (lg_sl ([.ref (ad i), .int (nI k), .ref a])).length) Slot.unset).toArray = ls at hl ⊢
  have hl : lv_has ls 3 [(0, .ref (ad i)), (1, .int (nI k)), (2, .ref a)] := hl
  have hb9 := (hI.2.2.2.2.2.2 i hi).2.2.1
  rcases id hi with h3 | h4
  · refine lv_aload_n hx hb d_C_putField_0 rfl (lv_at hl 0 rfl) ?_
    refine lv_iload_n hx hb d_C_putField_1 rfl (lv_at hl 1 rfl) ?_
    refine vp_callSi (va_Run.run (r_U (owner := "StackRoom$Context") (n := 1) (rest := []) C0 [.int (nI k)] (k_C_hasField l hR hi ht0 (nI k)) ml_C_C_hasField sm_C_C_hasField se_X_C_hasField_C im_C_hasField ini_C co_C_hasField rfl (by decide +kernel) (g_preV (ci := 3) hK hP rfl (hR.c3 h3)) hl.1 d_C_putField_2 rfl rfl (Nat.le_of_ble_eq_true rfl) ⟨rfl, rfl⟩ ⟨Nat.le_of_ble_eq_true rfl, Nat.le_of_ble_eq_true rfl⟩ ⟨Nat.le_of_ble_eq_true rfl, Nat.le_of_ble_eq_true rfl⟩)) (fun q eq => ?_)
    rw [if_pos ⟨nI_pos' (by omega), (nI_ltI (by omega) (by omega)).mpr hk⟩] at eq
    refine lv_if_eq (tgt := 15) hx hb d_C_putField_5 (by decide) (fun c5 => ?_) (fun c5 => ?_)
    · exact absurd (eq.symm.trans c5) (by decide)
    · refine lv_aload_n hx hb d_C_putField_8 rfl (lv_at hl 0 rfl) ?_
      refine va_get (D := D) (ci := 3) (C := "StackRoom$MethodContext") (T := T_X) (N := 7) (v := .ref (fa i)) hx hb ht in_X hown hK.1 (hP.one (hR.c3 h3)) 0 rfl rfl 5 (by decide) (ht _ fl_C_C_fields) (fun _ h9 => h9) rfl d_C_putField_9 ?_
      refine lv_iload_n hx hb d_C_putField_12 rfl (lv_at hl 1 rfl) ?_
      refine lv_aload_n hx hb d_C_putField_13 rfl (lv_at hl 2 rfl) ?_
      refine gw_astqM hx hb hK.1 hP hS 0 (hR.ca hi) ht0 (c_any hK hP hv) (vp_in_nI hk (by omega)) d_C_putField_14 (fun H locs hP hS => ?_)
      rw [nI_clamp (by omega)] at hP
      obtain ⟨G1, eG1⟩ : ∃ z : gw_G, z = va_up G (fa i) (some (.inl (cV, s_rm σ i, qv (va_up (fr i) k (some a))))) := ⟨_, rfl⟩
      replace hP : gw_P D vwCl (gw_A G s.heap.size) G1 H := by rw [eG1]; exact hP
      exact W.vret hx hb hr (fun t ht hW => ⟨⟨G1, rfl, eG1, g_fin ht hP⟩, hS.F ht⟩) hS.2.2 d_C_putField_15
  · refine lv_aload_n hx hb d_C_putField_0 rfl (lv_at hl 0 rfl) ?_
    refine lv_iload_n hx hb d_C_putField_1 rfl (lv_at hl 1 rfl) ?_
    refine vp_callSi (va_Run.run (r_U (owner := "StackRoom$Context") (n := 1) (rest := []) C0 [.int (nI k)] (k_C_hasField l hR hi ht0 (nI k)) ml_C_C_hasField sm_C_C_hasField se_B_C_hasField_C im_C_hasField ini_C co_C_hasField rfl (by decide +kernel) (g_preV (ci := 4) hK hP rfl (hR.c4 h4)) hl.1 d_C_putField_2 rfl rfl (Nat.le_of_ble_eq_true rfl) ⟨rfl, rfl⟩ ⟨Nat.le_of_ble_eq_true rfl, Nat.le_of_ble_eq_true rfl⟩ ⟨Nat.le_of_ble_eq_true rfl, Nat.le_of_ble_eq_true rfl⟩)) (fun q eq => ?_)
    rw [if_pos ⟨nI_pos' (by omega), (nI_ltI (by omega) (by omega)).mpr hk⟩] at eq
    refine lv_if_eq (tgt := 15) hx hb d_C_putField_5 (by decide) (fun c5 => ?_) (fun c5 => ?_)
    · exact absurd (eq.symm.trans c5) (by decide)
    · refine lv_aload_n hx hb d_C_putField_8 rfl (lv_at hl 0 rfl) ?_
      refine va_get (D := D) (ci := 4) (C := "StackRoom$BlockContext") (T := T_B) (N := 8) (v := .ref (fa i)) hx hb ht in_B hown hK.1 (hP.one (hR.c4 h4)) 0 rfl rfl 5 (by decide) (ht _ fl_C_C_fields) (fun _ h9 => h9) rfl d_C_putField_9 ?_
      refine lv_iload_n hx hb d_C_putField_12 rfl (lv_at hl 1 rfl) ?_
      refine lv_aload_n hx hb d_C_putField_13 rfl (lv_at hl 2 rfl) ?_
      refine gw_astqM hx hb hK.1 hP hS 0 (hR.ca hi) ht0 (c_any hK hP hv) (vp_in_nI hk (by omega)) d_C_putField_14 (fun H locs hP hS => ?_)
      rw [nI_clamp (by omega)] at hP
      obtain ⟨G2, eG2⟩ : ∃ z : gw_G, z = va_up G (fa i) (some (.inl (cV, s_rm σ i, qv (va_up (fr i) k (some a))))) := ⟨_, rfl⟩
      replace hP : gw_P D vwCl (gw_A G s.heap.size) G2 H := by rw [eG2]; exact hP
      exact W.vret hx hb hr (fun t ht hW => ⟨⟨G2, rfl, eG2, g_fin ht hP⟩, hS.F ht⟩) hS.2.2 d_C_putField_15
theorem k_C_putField (l : Launch) (hR : c_Rep w n rd md cV cT σ x ra rt ad fa ρ fr rr rf rc wl el cr G) {i : Nat} (hi : s_isC σ i) (ht0 : tys[0]? = some (cV, .object "StackRoom$Value")) (hI : s_I σ) {k : Nat} (hk : k < s_rm σ i) {r : Option Nat} (hv : ∀ a, r = some a → c_isv G a) : Met l y_C_putField w_C_putField ({ frames := 1, cells := 0, slots := 0, locals := 21 }) (g_pre D tys G sz [.ref (ad i), .int (nI k), va_rf r]) (va_Qv (fun G1 : gw_G => G1 = va_up G (fa i) (some (.inl (cV, s_rm σ i, qv (va_up (fr i) k r))))) (g_end D G sz) (gw_A G sz)) 0 0 (gw_A G sz) := by
  cases r with
  | none => exact k_C_putField_N l hR hi ht0 hI hk
  | some a => exact k_C_putField_R l hR hi ht0 hI hk (hv a rfl)
set_option maxHeartbeats 4000000 in
set_option maxRecDepth 100000 in
theorem k_C_pushOne_N (l : Launch) (hR : c_Rep w n rd md cV cT σ x ra rt ad fa ρ fr rr rf rc wl el cr G) {i : Nat} (hi : s_isC σ i) (ht0 : tys[0]? = some (cV, .object "StackRoom$Value")) (hO : s_OK w n σ) (hm : s_md σ < 2 ^ 31) (hh : s_ht σ i < s_rm σ i) {v : sV} (hv : ∀ j, v = some (.inr j) → s_rch σ j) (hcv : c_val G ad v none) : Met l y_C_pushOne w_C_pushOne ({ frames := 2, cells := 0, slots := 0, locals := 43 }) (g_pre D tys G sz [.ref (ad i), .null]) (va_Qv (fun G1 : gw_G => c_Rep w n rd md cV cT (s_push σ i v) x ra rt ad fa ρ (va_up fr i (va_up (fr i) (s_ht σ i) none)) rr rf rc wl el cr G1) (g_end D G sz) (gw_A G sz)) 0 0 (gw_A G sz) := by
  refine Met.ofW (cc := b_C_pushOne) (maxL := 2) (ret := none) (by decide) rfl ?_
  intro p e s m args below meth c s₁ B hml hv
  obtain ⟨rfl, hsz, hP, hK⟩ := hv
  have hx := B.exec
  have hb := B.bytes
  have hr := B.returns
  have ht := fun w (hw : w ∈ gt) => atoms_spec (ws := w_C_pushOne) B.pre w (List.mem_cons_of_mem _ hw)
  have hown : s.vm.findClass "StackRoom$Context" = some m.cls := findClass_of_methodNamed B.named
  have hlocks := B.notSynchronized
  have C0 : CallFix p m c b_C_pushOne 2 s [.ref (ad i), .null].toArray gt "StackRoom$Context" := ⟨hx, hb, hml, hown, ht⟩
  subst hsz
  have hP := hP.self (sz := s.heap.size)
  have hA : ∀ q : Nat, s.heap.size ≤ q → gw_A G s.heap.size q := fun q h => Or.inr h
  have hS : va_S (gw_A G s.heap.size) s.heap s.heap [] := va_S.rf
  have hl := lv_entry ([.ref (ad i), .null]) (n := 2) (Nat.le_of_ble_eq_true rfl)
  rw [lg_entry_eq]
  generalize (lg_sl ([.ref (ad i), .null]) ++ List.replicate (2 - (lg_sl ([.ref (ad i), .null])).length) Slot.unset).toArray = ls at hl ⊢
  have hl : lv_has ls 2 [(0, .ref (ad i)), (1, .null)] := hl
  have hvv := c_val_isv hR hO.1 hcv (fun j e => s_rch_kd hO.1 (hv j e))
  rcases id hi with h3 | h4
  · refine lv_aload_n hx hb d_C_pushOne_0 rfl (lv_at hl 0 rfl) ?_
    refine lv_aload_n hx hb d_C_pushOne_1 rfl (lv_at hl 0 rfl) ?_
    refine va_get (D := D) (ci := 3) (C := "StackRoom$MethodContext") (T := T_X) (N := 7) (v := .int (nI (s_ht σ i))) hx hb ht in_X hown hK.1 (hP.one (hR.c3 h3)) 0 rfl rfl 4 (by decide) (ht _ fl_C_C_height) (fun _ h9 => h9) rfl d_C_pushOne_2 ?_
    refine lv_aload_nN hx hb d_C_pushOne_5 rfl (lv_at hl 1 rfl) ?_
    refine g_callv hP hS hA (r_U (owner := "StackRoom$Context") (n := 2) (rest := []) C0 [.int (nI (s_ht σ i)), .null] (k_C_putField l hR hi ht0 hO.1 hh (r := none) hvv) ml_C_C_putField sm_C_C_putField se_X_C_putField_C im_C_putField ini_C co_C_putField rfl (by decide +kernel) (g_preV (ci := 3) hK hP rfl (hR.c3 h3)) hl.1 d_C_pushOne_6 rfl rfl (Nat.le_of_ble_eq_true rfl) ⟨rfl, rfl⟩ ⟨Nat.le_of_ble_eq_true rfl, Nat.le_of_ble_eq_true rfl⟩ ⟨Nat.le_of_ble_eq_true rfl, Nat.le_of_ble_eq_true rfl⟩) (fun G1 H locs eG1 hP hS hz9 hk9 => ?_)
    have hR1 := hR.fld (k := s_ht σ i) hi hcv
    rw [← eG1] at hR1
    have hO1 := s_setF_OK (i := i) (k := s_ht σ i) hO hv
    refine lv_aload_n hx hb d_C_pushOne_9 rfl (lv_at hl 0 rfl) ?_
    refine lv_dup hx hb d_C_pushOne_10 rfl ?_
    refine va_get (D := D) (ci := 3) (C := "StackRoom$MethodContext") (T := T_X) (N := 7) (v := .int (nI (s_ht σ i))) hx hb ht in_X hown hK.1 (hP.one (hR1.c3 (i := i) h3)) 0 rfl rfl 4 (by decide) (ht _ fl_C_C_height) (fun _ h9 => h9) rfl d_C_pushOne_11 ?_
    refine lv_iconst (v := 1) hx hb d_C_pushOne_14 (by decide) ?_
    refine lv_iadd hx hb d_C_pushOne_15 ?_
    refine gw_put (D := D) (cl := vwCl) (ci := 3) (C := "StackRoom$MethodContext") (T := T_X) (N := 7) (v := .int ((nI (s_ht σ i)) + 1)) (ty := .int) hx hb ht in_X ty_X tk_X nm_X hown hK.1 hP hS (hR1.c3 (i := i) h3) rfl 4 (by decide) (ht _ fl_C_C_height) (fun _ h9 => h9) rfl (by decide +kernel) rfl rfl (Nat.le_of_ble_eq_true rfl) d_C_pushOne_16 (fun H locs hP hS => ?_)
    obtain ⟨G2, eG2⟩ : ∃ z : gw_G, z = va_up G1 (ad i) (some (.inr (3, [.int (nI i), .int (ρ i), va_rf ((s_sn σ i).map ad), .int (s_de σ i), .int ((nI (s_ht σ i)) + 1), .ref (fa i), .ref (ad (s_og σ i))]))) := ⟨_, rfl⟩
    replace hP : gw_P D vwCl (gw_A G s.heap.size) G2 H := by rw [eG2]; exact hP
    have f2 : G2 (ad i) = some (.inr (3, [.int (nI i), .int (ρ i), va_rf ((s_sn σ i).map ad), .int (s_de σ i), .int ((nI (s_ht σ i)) + 1), .ref (fa i), .ref (ad (s_og σ i))])) := by rw [eG2]; exact va_up_self _ _ _
    have e9 : (nI (s_ht σ i) + 1) = nI (s_ht σ i + 1) := nI_1 _
    have hR2 := hR1.obj (i := i) (τ := s_push σ i v) (ρ' := ρ) hO1.1 hm (by rcases hi with e | e <;> (show s_kd σ i ≠ 0; omega)) rfl rfl rfl rfl (fun j hj => by unfold c_cell; rw [show s_ht (s_push σ i v) j = s_ht (s_setF σ i (s_ht σ i) v) j from va_up_ne _ _ hj]; rfl) (fun j hj => hR1.2.2.2.2.2.2.2.2.2 j hj)
    have e8 : c_cell (s_push σ i v) ad fa ρ i = .inr (3, [.int (nI i), .int (ρ i), va_rf ((s_sn σ i).map ad), .int (s_de σ i), .int ((nI (s_ht σ i)) + 1), .ref (fa i), .ref (ad (s_og σ i))]) := by unfold c_cell; rw [show s_kd (s_push σ i v) i = 3 from h3, show s_ht (s_push σ i v) i = s_ht σ i + 1 from va_up_self _ _ _, ← nI_1]; rfl
    rw [e8, ← eG2] at hR2
    exact W.vret hx hb hr (fun t ht hW => ⟨⟨G2, rfl, hR2, g_fin ht hP⟩, hS.F ht⟩) hS.2.2 d_C_pushOne_19
  · refine lv_aload_n hx hb d_C_pushOne_0 rfl (lv_at hl 0 rfl) ?_
    refine lv_aload_n hx hb d_C_pushOne_1 rfl (lv_at hl 0 rfl) ?_
    refine va_get (D := D) (ci := 4) (C := "StackRoom$BlockContext") (T := T_B) (N := 8) (v := .int (nI (s_ht σ i))) hx hb ht in_B hown hK.1 (hP.one (hR.c4 h4)) 0 rfl rfl 4 (by decide) (ht _ fl_C_C_height) (fun _ h9 => h9) rfl d_C_pushOne_2 ?_
    refine lv_aload_nN hx hb d_C_pushOne_5 rfl (lv_at hl 1 rfl) ?_
    refine g_callv hP hS hA (r_U (owner := "StackRoom$Context") (n := 2) (rest := []) C0 [.int (nI (s_ht σ i)), .null] (k_C_putField l hR hi ht0 hO.1 hh (r := none) hvv) ml_C_C_putField sm_C_C_putField se_B_C_putField_C im_C_putField ini_C co_C_putField rfl (by decide +kernel) (g_preV (ci := 4) hK hP rfl (hR.c4 h4)) hl.1 d_C_pushOne_6 rfl rfl (Nat.le_of_ble_eq_true rfl) ⟨rfl, rfl⟩ ⟨Nat.le_of_ble_eq_true rfl, Nat.le_of_ble_eq_true rfl⟩ ⟨Nat.le_of_ble_eq_true rfl, Nat.le_of_ble_eq_true rfl⟩) (fun G1 H locs eG1 hP hS hz9 hk9 => ?_)
    have hR1 := hR.fld (k := s_ht σ i) hi hcv
    rw [← eG1] at hR1
    have hO1 := s_setF_OK (i := i) (k := s_ht σ i) hO hv
    refine lv_aload_n hx hb d_C_pushOne_9 rfl (lv_at hl 0 rfl) ?_
    refine lv_dup hx hb d_C_pushOne_10 rfl ?_
    refine va_get (D := D) (ci := 4) (C := "StackRoom$BlockContext") (T := T_B) (N := 8) (v := .int (nI (s_ht σ i))) hx hb ht in_B hown hK.1 (hP.one (hR1.c4 (i := i) h4)) 0 rfl rfl 4 (by decide) (ht _ fl_C_C_height) (fun _ h9 => h9) rfl d_C_pushOne_11 ?_
    refine lv_iconst (v := 1) hx hb d_C_pushOne_14 (by decide) ?_
    refine lv_iadd hx hb d_C_pushOne_15 ?_
    refine gw_put (D := D) (cl := vwCl) (ci := 4) (C := "StackRoom$BlockContext") (T := T_B) (N := 8) (v := .int ((nI (s_ht σ i)) + 1)) (ty := .int) hx hb ht in_B ty_B tk_B nm_B hown hK.1 hP hS (hR1.c4 (i := i) h4) rfl 4 (by decide) (ht _ fl_C_C_height) (fun _ h9 => h9) rfl (by decide +kernel) rfl rfl (Nat.le_of_ble_eq_true rfl) d_C_pushOne_16 (fun H locs hP hS => ?_)
    obtain ⟨G2, eG2⟩ : ∃ z : gw_G, z = va_up G1 (ad i) (some (.inr (4, [.int (nI i), .int (ρ i), va_rf ((s_sn σ i).map ad), .int (s_de σ i), .int ((nI (s_ht σ i)) + 1), .ref (fa i), .ref (ad (s_og σ i)), .int (s_ct σ i)]))) := ⟨_, rfl⟩
    replace hP : gw_P D vwCl (gw_A G s.heap.size) G2 H := by rw [eG2]; exact hP
    have f2 : G2 (ad i) = some (.inr (4, [.int (nI i), .int (ρ i), va_rf ((s_sn σ i).map ad), .int (s_de σ i), .int ((nI (s_ht σ i)) + 1), .ref (fa i), .ref (ad (s_og σ i)), .int (s_ct σ i)])) := by rw [eG2]; exact va_up_self _ _ _
    have e9 : (nI (s_ht σ i) + 1) = nI (s_ht σ i + 1) := nI_1 _
    have hR2 := hR1.obj (i := i) (τ := s_push σ i v) (ρ' := ρ) hO1.1 hm (by rcases hi with e | e <;> (show s_kd σ i ≠ 0; omega)) rfl rfl rfl rfl (fun j hj => by unfold c_cell; rw [show s_ht (s_push σ i v) j = s_ht (s_setF σ i (s_ht σ i) v) j from va_up_ne _ _ hj]; rfl) (fun j hj => hR1.2.2.2.2.2.2.2.2.2 j hj)
    have e8 : c_cell (s_push σ i v) ad fa ρ i = .inr (4, [.int (nI i), .int (ρ i), va_rf ((s_sn σ i).map ad), .int (s_de σ i), .int ((nI (s_ht σ i)) + 1), .ref (fa i), .ref (ad (s_og σ i)), .int (s_ct σ i)]) := by unfold c_cell; rw [show s_kd (s_push σ i v) i = 4 from h4, show s_ht (s_push σ i v) i = s_ht σ i + 1 from va_up_self _ _ _, ← nI_1]; rfl
    rw [e8, ← eG2] at hR2
    exact W.vret hx hb hr (fun t ht hW => ⟨⟨G2, rfl, hR2, g_fin ht hP⟩, hS.F ht⟩) hS.2.2 d_C_pushOne_19
set_option maxHeartbeats 4000000 in
set_option maxRecDepth 100000 in
theorem k_C_pushOne_R (l : Launch) (hR : c_Rep w n rd md cV cT σ x ra rt ad fa ρ fr rr rf rc wl el cr G) {i : Nat} (hi : s_isC σ i) (ht0 : tys[0]? = some (cV, .object "StackRoom$Value")) (hO : s_OK w n σ) (hm : s_md σ < 2 ^ 31) (hh : s_ht σ i < s_rm σ i) {v : sV} (hv : ∀ j, v = some (.inr j) → s_rch σ j) {a : Nat} (hcv : c_val G ad v (some a)) : Met l y_C_pushOne w_C_pushOne ({ frames := 2, cells := 0, slots := 0, locals := 43 }) (g_pre D tys G sz [.ref (ad i), .ref a]) (va_Qv (fun G1 : gw_G => c_Rep w n rd md cV cT (s_push σ i v) x ra rt ad fa ρ (va_up fr i (va_up (fr i) (s_ht σ i) (some a))) rr rf rc wl el cr G1) (g_end D G sz) (gw_A G sz)) 0 0 (gw_A G sz) := by
  refine Met.ofW (cc := b_C_pushOne) (maxL := 2) (ret := none) (by decide) rfl ?_
  intro p e s m args below meth c s₁ B hml hv
  obtain ⟨rfl, hsz, hP, hK⟩ := hv
  have hx := B.exec
  have hb := B.bytes
  have hr := B.returns
  have ht := fun w (hw : w ∈ gt) => atoms_spec (ws := w_C_pushOne) B.pre w (List.mem_cons_of_mem _ hw)
  have hown : s.vm.findClass "StackRoom$Context" = some m.cls := findClass_of_methodNamed B.named
  have hlocks := B.notSynchronized
  have C0 : CallFix p m c b_C_pushOne 2 s [.ref (ad i), .ref a].toArray gt "StackRoom$Context" := ⟨hx, hb, hml, hown, ht⟩
  subst hsz
  have hP := hP.self (sz := s.heap.size)
  have hA : ∀ q : Nat, s.heap.size ≤ q → gw_A G s.heap.size q := fun q h => Or.inr h
  have hS : va_S (gw_A G s.heap.size) s.heap s.heap [] := va_S.rf
  have hl := lv_entry ([.ref (ad i), .ref a]) (n := 2) (Nat.le_of_ble_eq_true rfl)
  rw [lg_entry_eq]
  generalize (lg_sl ([.ref (ad i), .ref a]) ++ List.replicate (2 - (lg_sl ([.ref (ad i), .ref a])).length) Slot.unset).toArray = ls at hl ⊢
  have hl : lv_has ls 2 [(0, .ref (ad i)), (1, .ref a)] := hl
  have hvv := c_val_isv hR hO.1 hcv (fun j e => s_rch_kd hO.1 (hv j e))
  rcases id hi with h3 | h4
  · refine lv_aload_n hx hb d_C_pushOne_0 rfl (lv_at hl 0 rfl) ?_
    refine lv_aload_n hx hb d_C_pushOne_1 rfl (lv_at hl 0 rfl) ?_
    refine va_get (D := D) (ci := 3) (C := "StackRoom$MethodContext") (T := T_X) (N := 7) (v := .int (nI (s_ht σ i))) hx hb ht in_X hown hK.1 (hP.one (hR.c3 h3)) 0 rfl rfl 4 (by decide) (ht _ fl_C_C_height) (fun _ h9 => h9) rfl d_C_pushOne_2 ?_
    refine lv_aload_n hx hb d_C_pushOne_5 rfl (lv_at hl 1 rfl) ?_
    refine g_callv hP hS hA (r_U (owner := "StackRoom$Context") (n := 2) (rest := []) C0 [.int (nI (s_ht σ i)), .ref a] (k_C_putField l hR hi ht0 hO.1 hh (r := (some a)) hvv) ml_C_C_putField sm_C_C_putField se_X_C_putField_C im_C_putField ini_C co_C_putField rfl (by decide +kernel) (g_preV (ci := 3) hK hP rfl (hR.c3 h3)) hl.1 d_C_pushOne_6 rfl rfl (Nat.le_of_ble_eq_true rfl) ⟨rfl, rfl⟩ ⟨Nat.le_of_ble_eq_true rfl, Nat.le_of_ble_eq_true rfl⟩ ⟨Nat.le_of_ble_eq_true rfl, Nat.le_of_ble_eq_true rfl⟩) (fun G1 H locs eG1 hP hS hz9 hk9 => ?_)
    have hR1 := hR.fld (k := s_ht σ i) hi hcv
    rw [← eG1] at hR1
    have hO1 := s_setF_OK (i := i) (k := s_ht σ i) hO hv
    refine lv_aload_n hx hb d_C_pushOne_9 rfl (lv_at hl 0 rfl) ?_
    refine lv_dup hx hb d_C_pushOne_10 rfl ?_
    refine va_get (D := D) (ci := 3) (C := "StackRoom$MethodContext") (T := T_X) (N := 7) (v := .int (nI (s_ht σ i))) hx hb ht in_X hown hK.1 (hP.one (hR1.c3 (i := i) h3)) 0 rfl rfl 4 (by decide) (ht _ fl_C_C_height) (fun _ h9 => h9) rfl d_C_pushOne_11 ?_
    refine lv_iconst (v := 1) hx hb d_C_pushOne_14 (by decide) ?_
    refine lv_iadd hx hb d_C_pushOne_15 ?_
    refine gw_put (D := D) (cl := vwCl) (ci := 3) (C := "StackRoom$MethodContext") (T := T_X) (N := 7) (v := .int ((nI (s_ht σ i)) + 1)) (ty := .int) hx hb ht in_X ty_X tk_X nm_X hown hK.1 hP hS (hR1.c3 (i := i) h3) rfl 4 (by decide) (ht _ fl_C_C_height) (fun _ h9 => h9) rfl (by decide +kernel) rfl rfl (Nat.le_of_ble_eq_true rfl) d_C_pushOne_16 (fun H locs hP hS => ?_)
    obtain ⟨G2, eG2⟩ : ∃ z : gw_G, z = va_up G1 (ad i) (some (.inr (3, [.int (nI i), .int (ρ i), va_rf ((s_sn σ i).map ad), .int (s_de σ i), .int ((nI (s_ht σ i)) + 1), .ref (fa i), .ref (ad (s_og σ i))]))) := ⟨_, rfl⟩
    replace hP : gw_P D vwCl (gw_A G s.heap.size) G2 H := by rw [eG2]; exact hP
    have f2 : G2 (ad i) = some (.inr (3, [.int (nI i), .int (ρ i), va_rf ((s_sn σ i).map ad), .int (s_de σ i), .int ((nI (s_ht σ i)) + 1), .ref (fa i), .ref (ad (s_og σ i))])) := by rw [eG2]; exact va_up_self _ _ _
    have e9 : (nI (s_ht σ i) + 1) = nI (s_ht σ i + 1) := nI_1 _
    have hR2 := hR1.obj (i := i) (τ := s_push σ i v) (ρ' := ρ) hO1.1 hm (by rcases hi with e | e <;> (show s_kd σ i ≠ 0; omega)) rfl rfl rfl rfl (fun j hj => by unfold c_cell; rw [show s_ht (s_push σ i v) j = s_ht (s_setF σ i (s_ht σ i) v) j from va_up_ne _ _ hj]; rfl) (fun j hj => hR1.2.2.2.2.2.2.2.2.2 j hj)
    have e8 : c_cell (s_push σ i v) ad fa ρ i = .inr (3, [.int (nI i), .int (ρ i), va_rf ((s_sn σ i).map ad), .int (s_de σ i), .int ((nI (s_ht σ i)) + 1), .ref (fa i), .ref (ad (s_og σ i))]) := by unfold c_cell; rw [show s_kd (s_push σ i v) i = 3 from h3, show s_ht (s_push σ i v) i = s_ht σ i + 1 from va_up_self _ _ _, ← nI_1]; rfl
    rw [e8, ← eG2] at hR2
    exact W.vret hx hb hr (fun t ht hW => ⟨⟨G2, rfl, hR2, g_fin ht hP⟩, hS.F ht⟩) hS.2.2 d_C_pushOne_19
  · refine lv_aload_n hx hb d_C_pushOne_0 rfl (lv_at hl 0 rfl) ?_
    refine lv_aload_n hx hb d_C_pushOne_1 rfl (lv_at hl 0 rfl) ?_
    refine va_get (D := D) (ci := 4) (C := "StackRoom$BlockContext") (T := T_B) (N := 8) (v := .int (nI (s_ht σ i))) hx hb ht in_B hown hK.1 (hP.one (hR.c4 h4)) 0 rfl rfl 4 (by decide) (ht _ fl_C_C_height) (fun _ h9 => h9) rfl d_C_pushOne_2 ?_
    refine lv_aload_n hx hb d_C_pushOne_5 rfl (lv_at hl 1 rfl) ?_
    refine g_callv hP hS hA (r_U (owner := "StackRoom$Context") (n := 2) (rest := []) C0 [.int (nI (s_ht σ i)), .ref a] (k_C_putField l hR hi ht0 hO.1 hh (r := (some a)) hvv) ml_C_C_putField sm_C_C_putField se_B_C_putField_C im_C_putField ini_C co_C_putField rfl (by decide +kernel) (g_preV (ci := 4) hK hP rfl (hR.c4 h4)) hl.1 d_C_pushOne_6 rfl rfl (Nat.le_of_ble_eq_true rfl) ⟨rfl, rfl⟩ ⟨Nat.le_of_ble_eq_true rfl, Nat.le_of_ble_eq_true rfl⟩ ⟨Nat.le_of_ble_eq_true rfl, Nat.le_of_ble_eq_true rfl⟩) (fun G1 H locs eG1 hP hS hz9 hk9 => ?_)
    have hR1 := hR.fld (k := s_ht σ i) hi hcv
    rw [← eG1] at hR1
    have hO1 := s_setF_OK (i := i) (k := s_ht σ i) hO hv
    refine lv_aload_n hx hb d_C_pushOne_9 rfl (lv_at hl 0 rfl) ?_
    refine lv_dup hx hb d_C_pushOne_10 rfl ?_
    refine va_get (D := D) (ci := 4) (C := "StackRoom$BlockContext") (T := T_B) (N := 8) (v := .int (nI (s_ht σ i))) hx hb ht in_B hown hK.1 (hP.one (hR1.c4 (i := i) h4)) 0 rfl rfl 4 (by decide) (ht _ fl_C_C_height) (fun _ h9 => h9) rfl d_C_pushOne_11 ?_
    refine lv_iconst (v := 1) hx hb d_C_pushOne_14 (by decide) ?_
    refine lv_iadd hx hb d_C_pushOne_15 ?_
    refine gw_put (D := D) (cl := vwCl) (ci := 4) (C := "StackRoom$BlockContext") (T := T_B) (N := 8) (v := .int ((nI (s_ht σ i)) + 1)) (ty := .int) hx hb ht in_B ty_B tk_B nm_B hown hK.1 hP hS (hR1.c4 (i := i) h4) rfl 4 (by decide) (ht _ fl_C_C_height) (fun _ h9 => h9) rfl (by decide +kernel) rfl rfl (Nat.le_of_ble_eq_true rfl) d_C_pushOne_16 (fun H locs hP hS => ?_)
    obtain ⟨G2, eG2⟩ : ∃ z : gw_G, z = va_up G1 (ad i) (some (.inr (4, [.int (nI i), .int (ρ i), va_rf ((s_sn σ i).map ad), .int (s_de σ i), .int ((nI (s_ht σ i)) + 1), .ref (fa i), .ref (ad (s_og σ i)), .int (s_ct σ i)]))) := ⟨_, rfl⟩
    replace hP : gw_P D vwCl (gw_A G s.heap.size) G2 H := by rw [eG2]; exact hP
    have f2 : G2 (ad i) = some (.inr (4, [.int (nI i), .int (ρ i), va_rf ((s_sn σ i).map ad), .int (s_de σ i), .int ((nI (s_ht σ i)) + 1), .ref (fa i), .ref (ad (s_og σ i)), .int (s_ct σ i)])) := by rw [eG2]; exact va_up_self _ _ _
    have e9 : (nI (s_ht σ i) + 1) = nI (s_ht σ i + 1) := nI_1 _
    have hR2 := hR1.obj (i := i) (τ := s_push σ i v) (ρ' := ρ) hO1.1 hm (by rcases hi with e | e <;> (show s_kd σ i ≠ 0; omega)) rfl rfl rfl rfl (fun j hj => by unfold c_cell; rw [show s_ht (s_push σ i v) j = s_ht (s_setF σ i (s_ht σ i) v) j from va_up_ne _ _ hj]; rfl) (fun j hj => hR1.2.2.2.2.2.2.2.2.2 j hj)
    have e8 : c_cell (s_push σ i v) ad fa ρ i = .inr (4, [.int (nI i), .int (ρ i), va_rf ((s_sn σ i).map ad), .int (s_de σ i), .int ((nI (s_ht σ i)) + 1), .ref (fa i), .ref (ad (s_og σ i)), .int (s_ct σ i)]) := by unfold c_cell; rw [show s_kd (s_push σ i v) i = 4 from h4, show s_ht (s_push σ i v) i = s_ht σ i + 1 from va_up_self _ _ _, ← nI_1]; rfl
    rw [e8, ← eG2] at hR2
    exact W.vret hx hb hr (fun t ht hW => ⟨⟨G2, rfl, hR2, g_fin ht hP⟩, hS.F ht⟩) hS.2.2 d_C_pushOne_19
theorem k_C_pushOne (l : Launch) (hR : c_Rep w n rd md cV cT σ x ra rt ad fa ρ fr rr rf rc wl el cr G) {i : Nat} (hi : s_isC σ i) (ht0 : tys[0]? = some (cV, .object "StackRoom$Value")) (hO : s_OK w n σ) (hm : s_md σ < 2 ^ 31) (hh : s_ht σ i < s_rm σ i) {v : sV} (hv : ∀ j, v = some (.inr j) → s_rch σ j) {r : Option Nat} (hcv : c_val G ad v r) : Met l y_C_pushOne w_C_pushOne ({ frames := 2, cells := 0, slots := 0, locals := 43 }) (g_pre D tys G sz [.ref (ad i), va_rf r]) (va_Qv (fun G1 : gw_G => c_Rep w n rd md cV cT (s_push σ i v) x ra rt ad fa ρ (va_up fr i (va_up (fr i) (s_ht σ i) r)) rr rf rc wl el cr G1) (g_end D G sz) (gw_A G sz)) 0 0 (gw_A G sz) := by
  cases r with
  | none => exact k_C_pushOne_N l hR hi ht0 hO hm hh hv hcv
  | some a => exact k_C_pushOne_R l hR hi ht0 hO hm hh hv hcv
set_option maxHeartbeats 4000000 in
set_option maxRecDepth 100000 in
theorem k_C_popOne (l : Launch) (hR : c_Rep w n rd md cV cT σ x ra rt ad fa ρ fr rr rf rc wl el cr G) {i : Nat} (hi : s_isC σ i) (ht0 : tys[0]? = some (cV, .object "StackRoom$Value")) (hO : s_OK w n σ) (hm : s_md σ < 2 ^ 31) (hh : 0 < s_ht σ i) : Met l y_C_popOne w_C_popOne ({ frames := 2, cells := 0, slots := 0, locals := 43 }) (g_pre D tys G sz [.ref (ad i)]) (va_Qq (fun (rz : Option Nat) (G1 : gw_G) => rz = fr i (s_ht σ i - 1) ∧ c_Rep w n rd md cV cT (s_pop σ i) x ra rt ad fa ρ (va_up fr i (va_up (fr i) (s_ht σ i - 1) none)) rr rf rc wl el cr G1 ∧ ∀ v9 r9, c_val G ad v9 r9 → c_val G1 ad v9 r9) (g_end D G sz) (gw_A G sz)) 0 0 (gw_A G sz) := by
  refine Met.ofW (cc := b_C_popOne) (maxL := 2) (ret := (some (.object "StackRoom$Value"))) (by decide) rfl ?_
  intro p e s m args below meth c s₁ B hml hv
  obtain ⟨rfl, hsz, hP, hK⟩ := hv
  have hx := B.exec
  have hb := B.bytes
  have hr := B.returns
  have ht := fun w (hw : w ∈ gt) => atoms_spec (ws := w_C_popOne) B.pre w (List.mem_cons_of_mem _ hw)
  have hown : s.vm.findClass "StackRoom$Context" = some m.cls := findClass_of_methodNamed B.named
  have hlocks := B.notSynchronized
  have C0 : CallFix p m c b_C_popOne 2 s [.ref (ad i)].toArray gt "StackRoom$Context" := ⟨hx, hb, hml, hown, ht⟩
  subst hsz
  have hP := hP.self (sz := s.heap.size)
  have hA : ∀ q : Nat, s.heap.size ≤ q → gw_A G s.heap.size q := fun q h => Or.inr h
  have hS : va_S (gw_A G s.heap.size) s.heap s.heap [] := va_S.rf
  have hl := lv_entry ([.ref (ad i)]) (n := 2) (Nat.le_of_ble_eq_true rfl)
  rw [lg_entry_eq]
  generalize (lg_sl ([.ref (ad i)]) ++ List.replicate (2 - (lg_sl ([.ref (ad i)])).length) Slot.unset).toArray = ls at hl ⊢
  have hl : lv_has ls 2 [(0, .ref (ad i))] := hl
  rcases id hi with h3 | h4
  · refine lv_aload_n hx hb d_C_popOne_0 rfl (lv_at hl 0 rfl) ?_
    refine lv_dup hx hb d_C_popOne_1 rfl ?_
    refine va_get (D := D) (ci := 3) (C := "StackRoom$MethodContext") (T := T_X) (N := 7) (v := .int (nI (s_ht σ i))) hx hb ht in_X hown hK.1 (hP.one (hR.c3 h3)) 0 rfl rfl 4 (by decide) (ht _ fl_C_C_height) (fun _ h9 => h9) rfl d_C_popOne_2 ?_
    refine lv_iconst (v := 1) hx hb d_C_popOne_5 (by decide) ?_
    refine lv_isub hx hb d_C_popOne_6 ?_
    refine gw_put (D := D) (cl := vwCl) (ci := 3) (C := "StackRoom$MethodContext") (T := T_X) (N := 7) (v := .int ((nI (s_ht σ i)) - 1)) (ty := .int) hx hb ht in_X ty_X tk_X nm_X hown hK.1 hP hS (hR.c3 h3) rfl 4 (by decide) (ht _ fl_C_C_height) (fun _ h9 => h9) rfl (by decide +kernel) rfl rfl (Nat.le_of_ble_eq_true rfl) d_C_popOne_7 (fun H locs hP hS => ?_)
    obtain ⟨G1, eG1⟩ : ∃ z : gw_G, z = va_up G (ad i) (some (.inr (3, [.int (nI i), .int (ρ i), va_rf ((s_sn σ i).map ad), .int (s_de σ i), .int ((nI (s_ht σ i)) - 1), .ref (fa i), .ref (ad (s_og σ i))]))) := ⟨_, rfl⟩
    replace hP : gw_P D vwCl (gw_A G s.heap.size) G1 H := by rw [eG1]; exact hP
    have f1 : G1 (ad i) = some (.inr (3, [.int (nI i), .int (ρ i), va_rf ((s_sn σ i).map ad), .int (s_de σ i), .int ((nI (s_ht σ i)) - 1), .ref (fa i), .ref (ad (s_og σ i))])) := by rw [eG1]; exact va_up_self _ _ _
    have e9 : (nI (s_ht σ i) - 1) = nI (s_ht σ i - 1) := pk_sub (b := 1) hh
    have hR1 := hR.obj (i := i) (τ := s_setH σ i (s_ht σ i - 1)) (ρ' := ρ) hO.1 hm (by rcases hi with e | e <;> omega) rfl rfl rfl rfl (fun j hj => by unfold c_cell; rw [show s_ht (s_setH σ i (s_ht σ i - 1)) j = s_ht σ j from va_up_ne _ _ hj]; rfl) (fun j hj => hR.2.2.2.2.2.2.2.2.2 j hj)
    have e8 : c_cell (s_setH σ i (s_ht σ i - 1)) ad fa ρ i = .inr (3, [.int (nI i), .int (ρ i), va_rf ((s_sn σ i).map ad), .int (s_de σ i), .int ((nI (s_ht σ i)) - 1), .ref (fa i), .ref (ad (s_og σ i))]) := by unfold c_cell; rw [show s_kd (s_setH σ i (s_ht σ i - 1)) i = 3 from h3, show s_ht (s_setH σ i (s_ht σ i - 1)) i = s_ht σ i - 1 from va_up_self _ _ _, e9]; rfl
    rw [e8, ← eG1] at hR1
    have hO1 : s_OK w n (s_setH σ i (s_ht σ i - 1)) := s_setH_OK hO (by have := (hO.1.2.2.2.2.2.2 i hi).2.1; omega)
    refine lv_aload_n hx hb d_C_popOne_10 rfl (lv_at hl 0 rfl) ?_
    refine lv_aload_n hx hb d_C_popOne_11 rfl (lv_at hl 0 rfl) ?_
    refine va_get (D := D) (ci := 3) (C := "StackRoom$MethodContext") (T := T_X) (N := 7) (v := .int ((nI (s_ht σ i)) - 1)) hx hb ht in_X hown hK.1 (hP.one f1) 0 rfl rfl 4 (by decide) (ht _ fl_C_C_height) (fun _ h9 => h9) rfl d_C_popOne_12 ?_
    refine va_csq (va_Run.run (r_U (owner := "StackRoom$Context") (n := 1) (rest := []) C0 [.int ((nI (s_ht σ i)) - 1)] (k_C_fieldAt l hR1 (i := i) hi hO1.1 ht0 (nI (s_ht σ i) - 1)) ml_C_C_fieldAt sm_C_C_fieldAt se_X_C_fieldAt_C im_C_fieldAt ini_C co_C_fieldAt rfl (by decide +kernel) (g_preV (ci := 3) hK hP rfl f1) hl.1 d_C_popOne_15 rfl rfl (Nat.le_of_ble_eq_true rfl) ⟨rfl, rfl⟩ ⟨Nat.le_of_ble_eq_true rfl, Nat.le_of_ble_eq_true rfl⟩ ⟨Nat.le_of_ble_eq_true rfl, Nat.le_of_ble_eq_true rfl⟩)) (fun q eq => ?_)
    have hb9 := (hO.1.2.2.2.2.2.2 i hi).2
    rw [show s_rm (s_setH σ i (s_ht σ i - 1)) i = s_rm σ i from rfl, e9, if_pos ⟨nI_pos' (by omega), (nI_ltI (by omega) (by omega)).mpr (by omega)⟩, nI_clamp (by omega)] at eq
    subst eq
    rcases hq : fr i (s_ht σ i - 1) with _ | a
    · refine W.eq (g2 := F0 m 18 ls [.null]) rfl ?_
      refine lv_astore_nN (lv' := [(1, .null), (0, .ref (ad i))]) hx hb d_C_popOne_18 rfl hl (by decide) rfl (fun ls hl => ?_)
      refine lv_aload_n hx hb d_C_popOne_19 rfl (lv_at hl 1 rfl) ?_
      refine lv_aload_n hx hb d_C_popOne_20 rfl (lv_at hl 1 rfl) ?_
      refine va_get (D := D) (ci := 3) (C := "StackRoom$MethodContext") (T := T_X) (N := 7) (v := .int ((nI (s_ht σ i)) - 1)) hx hb ht in_X hown hK.1 (hP.one f1) 0 rfl rfl 4 (by decide) (ht _ fl_C_C_height) (fun _ h9 => h9) rfl d_C_popOne_21 ?_
      refine lv_null hx hb d_C_popOne_24 ?_
      rw [e9]
      refine g_callv hP hS hA (r_U (owner := "StackRoom$Context") (n := 2) (rest := []) C0 [.int (nI (s_ht σ i - 1)), .null] (k_C_putField_N l hR1 (i := i) hi ht0 hO1.1 (k := s_ht σ i - 1) (show s_ht σ i - 1 < s_rm σ i by omega)) ml_C_C_putField sm_C_C_putField se_X_C_putField_C im_C_putField ini_C co_C_putField rfl (by decide +kernel) (g_preV (ci := 3) hK hP rfl f1) hl.1 d_C_popOne_25 rfl rfl (Nat.le_of_ble_eq_true rfl) ⟨rfl, rfl⟩ ⟨Nat.le_of_ble_eq_true rfl, Nat.le_of_ble_eq_true rfl⟩ ⟨Nat.le_of_ble_eq_true rfl, Nat.le_of_ble_eq_true rfl⟩) (fun G9 H locs eG9 hP hS hz9 hk9 => ?_)
      have hR2 := hR1.fld (k := s_ht σ i - 1) (v := none) (r := none) (i := i) hi rfl
      rw [← eG9] at hR2
      have hcv9 : ∀ v9 r9, c_val G ad v9 r9 → c_val G9 ad v9 r9 := fun v9 r9 hv9 => by rw [eG9]; refine c_val_up (by rw [eG1]; exact c_val_up hv9 (fun q9 z9 => by rw [(hR.c3 h3)] at z9; cases z9)) (fun q9 z9 => by rw [hR1.ca (i := i) hi] at z9; cases z9)
      refine lv_aload_nN hx hb d_C_popOne_28 rfl (lv_at hl 0 rfl) ?_
      exact q_aret (v := none) (rt := .object "StackRoom$Value") hx hb hr (Or.inl ⟨_, rfl⟩) (fun t ht hW => ⟨⟨_, G9, rfl, ⟨rfl, hR2, hcv9⟩, g_fin ht hP⟩, hS.F ht⟩) hS.2.2 d_C_popOne_29
    · refine W.eq (g2 := F0 m 18 ls [.ref a]) rfl ?_
      refine lv_astore_n (lv' := [(1, .ref a), (0, .ref (ad i))]) hx hb d_C_popOne_18 rfl hl (by decide) rfl (fun ls hl => ?_)
      refine lv_aload_n hx hb d_C_popOne_19 rfl (lv_at hl 1 rfl) ?_
      refine lv_aload_n hx hb d_C_popOne_20 rfl (lv_at hl 1 rfl) ?_
      refine va_get (D := D) (ci := 3) (C := "StackRoom$MethodContext") (T := T_X) (N := 7) (v := .int ((nI (s_ht σ i)) - 1)) hx hb ht in_X hown hK.1 (hP.one f1) 0 rfl rfl 4 (by decide) (ht _ fl_C_C_height) (fun _ h9 => h9) rfl d_C_popOne_21 ?_
      refine lv_null hx hb d_C_popOne_24 ?_
      rw [e9]
      refine g_callv hP hS hA (r_U (owner := "StackRoom$Context") (n := 2) (rest := []) C0 [.int (nI (s_ht σ i - 1)), .null] (k_C_putField_N l hR1 (i := i) hi ht0 hO1.1 (k := s_ht σ i - 1) (show s_ht σ i - 1 < s_rm σ i by omega)) ml_C_C_putField sm_C_C_putField se_X_C_putField_C im_C_putField ini_C co_C_putField rfl (by decide +kernel) (g_preV (ci := 3) hK hP rfl f1) hl.1 d_C_popOne_25 rfl rfl (Nat.le_of_ble_eq_true rfl) ⟨rfl, rfl⟩ ⟨Nat.le_of_ble_eq_true rfl, Nat.le_of_ble_eq_true rfl⟩ ⟨Nat.le_of_ble_eq_true rfl, Nat.le_of_ble_eq_true rfl⟩) (fun G9 H locs eG9 hP hS hz9 hk9 => ?_)
      have hR2 := hR1.fld (k := s_ht σ i - 1) (v := none) (r := none) (i := i) hi rfl
      rw [← eG9] at hR2
      have hcv9 : ∀ v9 r9, c_val G ad v9 r9 → c_val G9 ad v9 r9 := fun v9 r9 hv9 => by rw [eG9]; refine c_val_up (by rw [eG1]; exact c_val_up hv9 (fun q9 z9 => by rw [(hR.c3 h3)] at z9; cases z9)) (fun q9 z9 => by rw [hR1.ca (i := i) hi] at z9; cases z9)
      refine lv_aload_n hx hb d_C_popOne_28 rfl (lv_at hl 0 rfl) ?_
      exact q_aret (v := some a) (rt := .object "StackRoom$Value") hx hb hr (Or.inl ⟨_, rfl⟩) (fun t ht hW => ⟨⟨_, G9, rfl, ⟨rfl, hR2, hcv9⟩, g_fin ht hP⟩, hS.F ht⟩) hS.2.2 d_C_popOne_29
  · refine lv_aload_n hx hb d_C_popOne_0 rfl (lv_at hl 0 rfl) ?_
    refine lv_dup hx hb d_C_popOne_1 rfl ?_
    refine va_get (D := D) (ci := 4) (C := "StackRoom$BlockContext") (T := T_B) (N := 8) (v := .int (nI (s_ht σ i))) hx hb ht in_B hown hK.1 (hP.one (hR.c4 h4)) 0 rfl rfl 4 (by decide) (ht _ fl_C_C_height) (fun _ h9 => h9) rfl d_C_popOne_2 ?_
    refine lv_iconst (v := 1) hx hb d_C_popOne_5 (by decide) ?_
    refine lv_isub hx hb d_C_popOne_6 ?_
    refine gw_put (D := D) (cl := vwCl) (ci := 4) (C := "StackRoom$BlockContext") (T := T_B) (N := 8) (v := .int ((nI (s_ht σ i)) - 1)) (ty := .int) hx hb ht in_B ty_B tk_B nm_B hown hK.1 hP hS (hR.c4 h4) rfl 4 (by decide) (ht _ fl_C_C_height) (fun _ h9 => h9) rfl (by decide +kernel) rfl rfl (Nat.le_of_ble_eq_true rfl) d_C_popOne_7 (fun H locs hP hS => ?_)
    obtain ⟨G2, eG2⟩ : ∃ z : gw_G, z = va_up G (ad i) (some (.inr (4, [.int (nI i), .int (ρ i), va_rf ((s_sn σ i).map ad), .int (s_de σ i), .int ((nI (s_ht σ i)) - 1), .ref (fa i), .ref (ad (s_og σ i)), .int (s_ct σ i)]))) := ⟨_, rfl⟩
    replace hP : gw_P D vwCl (gw_A G s.heap.size) G2 H := by rw [eG2]; exact hP
    have f2 : G2 (ad i) = some (.inr (4, [.int (nI i), .int (ρ i), va_rf ((s_sn σ i).map ad), .int (s_de σ i), .int ((nI (s_ht σ i)) - 1), .ref (fa i), .ref (ad (s_og σ i)), .int (s_ct σ i)])) := by rw [eG2]; exact va_up_self _ _ _
    have e9 : (nI (s_ht σ i) - 1) = nI (s_ht σ i - 1) := pk_sub (b := 1) hh
    have hR1 := hR.obj (i := i) (τ := s_setH σ i (s_ht σ i - 1)) (ρ' := ρ) hO.1 hm (by rcases hi with e | e <;> omega) rfl rfl rfl rfl (fun j hj => by unfold c_cell; rw [show s_ht (s_setH σ i (s_ht σ i - 1)) j = s_ht σ j from va_up_ne _ _ hj]; rfl) (fun j hj => hR.2.2.2.2.2.2.2.2.2 j hj)
    have e8 : c_cell (s_setH σ i (s_ht σ i - 1)) ad fa ρ i = .inr (4, [.int (nI i), .int (ρ i), va_rf ((s_sn σ i).map ad), .int (s_de σ i), .int ((nI (s_ht σ i)) - 1), .ref (fa i), .ref (ad (s_og σ i)), .int (s_ct σ i)]) := by unfold c_cell; rw [show s_kd (s_setH σ i (s_ht σ i - 1)) i = 4 from h4, show s_ht (s_setH σ i (s_ht σ i - 1)) i = s_ht σ i - 1 from va_up_self _ _ _, e9]; rfl
    rw [e8, ← eG2] at hR1
    have hO1 : s_OK w n (s_setH σ i (s_ht σ i - 1)) := s_setH_OK hO (by have := (hO.1.2.2.2.2.2.2 i hi).2.1; omega)
    refine lv_aload_n hx hb d_C_popOne_10 rfl (lv_at hl 0 rfl) ?_
    refine lv_aload_n hx hb d_C_popOne_11 rfl (lv_at hl 0 rfl) ?_
    refine va_get (D := D) (ci := 4) (C := "StackRoom$BlockContext") (T := T_B) (N := 8) (v := .int ((nI (s_ht σ i)) - 1)) hx hb ht in_B hown hK.1 (hP.one f2) 0 rfl rfl 4 (by decide) (ht _ fl_C_C_height) (fun _ h9 => h9) rfl d_C_popOne_12 ?_
    refine va_csq (va_Run.run (r_U (owner := "StackRoom$Context") (n := 1) (rest := []) C0 [.int ((nI (s_ht σ i)) - 1)] (k_C_fieldAt l hR1 (i := i) hi hO1.1 ht0 (nI (s_ht σ i) - 1)) ml_C_C_fieldAt sm_C_C_fieldAt se_B_C_fieldAt_C im_C_fieldAt ini_C co_C_fieldAt rfl (by decide +kernel) (g_preV (ci := 4) hK hP rfl f2) hl.1 d_C_popOne_15 rfl rfl (Nat.le_of_ble_eq_true rfl) ⟨rfl, rfl⟩ ⟨Nat.le_of_ble_eq_true rfl, Nat.le_of_ble_eq_true rfl⟩ ⟨Nat.le_of_ble_eq_true rfl, Nat.le_of_ble_eq_true rfl⟩)) (fun q eq => ?_)
    have hb9 := (hO.1.2.2.2.2.2.2 i hi).2
    rw [show s_rm (s_setH σ i (s_ht σ i - 1)) i = s_rm σ i from rfl, e9, if_pos ⟨nI_pos' (by omega), (nI_ltI (by omega) (by omega)).mpr (by omega)⟩, nI_clamp (by omega)] at eq
    subst eq
    rcases hq : fr i (s_ht σ i - 1) with _ | a
    · refine W.eq (g2 := F0 m 18 ls [.null]) rfl ?_
      refine lv_astore_nN (lv' := [(1, .null), (0, .ref (ad i))]) hx hb d_C_popOne_18 rfl hl (by decide) rfl (fun ls hl => ?_)
      refine lv_aload_n hx hb d_C_popOne_19 rfl (lv_at hl 1 rfl) ?_
      refine lv_aload_n hx hb d_C_popOne_20 rfl (lv_at hl 1 rfl) ?_
      refine va_get (D := D) (ci := 4) (C := "StackRoom$BlockContext") (T := T_B) (N := 8) (v := .int ((nI (s_ht σ i)) - 1)) hx hb ht in_B hown hK.1 (hP.one f2) 0 rfl rfl 4 (by decide) (ht _ fl_C_C_height) (fun _ h9 => h9) rfl d_C_popOne_21 ?_
      refine lv_null hx hb d_C_popOne_24 ?_
      rw [e9]
      refine g_callv hP hS hA (r_U (owner := "StackRoom$Context") (n := 2) (rest := []) C0 [.int (nI (s_ht σ i - 1)), .null] (k_C_putField_N l hR1 (i := i) hi ht0 hO1.1 (k := s_ht σ i - 1) (show s_ht σ i - 1 < s_rm σ i by omega)) ml_C_C_putField sm_C_C_putField se_B_C_putField_C im_C_putField ini_C co_C_putField rfl (by decide +kernel) (g_preV (ci := 4) hK hP rfl f2) hl.1 d_C_popOne_25 rfl rfl (Nat.le_of_ble_eq_true rfl) ⟨rfl, rfl⟩ ⟨Nat.le_of_ble_eq_true rfl, Nat.le_of_ble_eq_true rfl⟩ ⟨Nat.le_of_ble_eq_true rfl, Nat.le_of_ble_eq_true rfl⟩) (fun G9 H locs eG9 hP hS hz9 hk9 => ?_)
      have hR2 := hR1.fld (k := s_ht σ i - 1) (v := none) (r := none) (i := i) hi rfl
      rw [← eG9] at hR2
      have hcv9 : ∀ v9 r9, c_val G ad v9 r9 → c_val G9 ad v9 r9 := fun v9 r9 hv9 => by rw [eG9]; refine c_val_up (by rw [eG2]; exact c_val_up hv9 (fun q9 z9 => by rw [(hR.c4 h4)] at z9; cases z9)) (fun q9 z9 => by rw [hR1.ca (i := i) hi] at z9; cases z9)
      refine lv_aload_nN hx hb d_C_popOne_28 rfl (lv_at hl 0 rfl) ?_
      exact q_aret (v := none) (rt := .object "StackRoom$Value") hx hb hr (Or.inl ⟨_, rfl⟩) (fun t ht hW => ⟨⟨_, G9, rfl, ⟨rfl, hR2, hcv9⟩, g_fin ht hP⟩, hS.F ht⟩) hS.2.2 d_C_popOne_29
    · refine W.eq (g2 := F0 m 18 ls [.ref a]) rfl ?_
      refine lv_astore_n (lv' := [(1, .ref a), (0, .ref (ad i))]) hx hb d_C_popOne_18 rfl hl (by decide) rfl (fun ls hl => ?_)
      refine lv_aload_n hx hb d_C_popOne_19 rfl (lv_at hl 1 rfl) ?_
      refine lv_aload_n hx hb d_C_popOne_20 rfl (lv_at hl 1 rfl) ?_
      refine va_get (D := D) (ci := 4) (C := "StackRoom$BlockContext") (T := T_B) (N := 8) (v := .int ((nI (s_ht σ i)) - 1)) hx hb ht in_B hown hK.1 (hP.one f2) 0 rfl rfl 4 (by decide) (ht _ fl_C_C_height) (fun _ h9 => h9) rfl d_C_popOne_21 ?_
      refine lv_null hx hb d_C_popOne_24 ?_
      rw [e9]
      refine g_callv hP hS hA (r_U (owner := "StackRoom$Context") (n := 2) (rest := []) C0 [.int (nI (s_ht σ i - 1)), .null] (k_C_putField_N l hR1 (i := i) hi ht0 hO1.1 (k := s_ht σ i - 1) (show s_ht σ i - 1 < s_rm σ i by omega)) ml_C_C_putField sm_C_C_putField se_B_C_putField_C im_C_putField ini_C co_C_putField rfl (by decide +kernel) (g_preV (ci := 4) hK hP rfl f2) hl.1 d_C_popOne_25 rfl rfl (Nat.le_of_ble_eq_true rfl) ⟨rfl, rfl⟩ ⟨Nat.le_of_ble_eq_true rfl, Nat.le_of_ble_eq_true rfl⟩ ⟨Nat.le_of_ble_eq_true rfl, Nat.le_of_ble_eq_true rfl⟩) (fun G9 H locs eG9 hP hS hz9 hk9 => ?_)
      have hR2 := hR1.fld (k := s_ht σ i - 1) (v := none) (r := none) (i := i) hi rfl
      rw [← eG9] at hR2
      have hcv9 : ∀ v9 r9, c_val G ad v9 r9 → c_val G9 ad v9 r9 := fun v9 r9 hv9 => by rw [eG9]; refine c_val_up (by rw [eG2]; exact c_val_up hv9 (fun q9 z9 => by rw [(hR.c4 h4)] at z9; cases z9)) (fun q9 z9 => by rw [hR1.ca (i := i) hi] at z9; cases z9)
      refine lv_aload_n hx hb d_C_popOne_28 rfl (lv_at hl 0 rfl) ?_
      exact q_aret (v := some a) (rt := .object "StackRoom$Value") hx hb hr (Or.inl ⟨_, rfl⟩) (fun t ht hW => ⟨⟨_, G9, rfl, ⟨rfl, hR2, hcv9⟩, g_fin ht hP⟩, hS.F ht⟩) hS.2.2 d_C_popOne_29
theorem va_up_up {α : Type} (f : Nat → α) (k : Nat) (v w : α) : va_up (va_up f k v) k w = va_up f k w := by
  funext b
  by_cases e : b = k
  · subst e; rw [va_up_self, va_up_self]
  · rw [va_up_ne _ _ e, va_up_ne _ _ e, va_up_ne _ _ e]
theorem va_up_sw {α : Type} (f : Nat → α) {j k : Nat} (v w : α) (h : j ≠ k) : va_up (va_up f j v) k w = va_up (va_up f k w) j v := by
  funext b
  by_cases e : b = k
  · subst e; rw [va_up_self, va_up_ne _ _ (Ne.symm h), va_up_self]
  · rw [va_up_ne _ _ e]
    by_cases e2 : b = j
    · subst e2; rw [va_up_self, va_up_self]
    · rw [va_up_ne _ _ e2, va_up_ne _ _ e2, va_up_ne _ _ e]
set_option maxHeartbeats 4000000 in
set_option maxRecDepth 100000 in
theorem k_M_setNumbers (l : Launch) (hR : c_Rep w n rd md cV cT σ x ra rt ad fa ρ fr rr rf rc wl el cr G) {i : Nat} (hi : s_kd σ i = 2) (hI : s_I σ) (hm : s_md σ < 2 ^ 31) (t d : Nat) : Met l y_M_setNumbers w_M_setNumbers ({ frames := 0, cells := 0, slots := 0, locals := 0 }) (g_pre D tys G sz [.ref (ad i), .int (nI t), .int (nI d)]) (va_Qv (fun G1 : gw_G => c_Rep w n rd md cV cT (s_setT σ i t d) x ra rt ad fa ρ fr rr rf rc wl el cr G1) (g_end D G sz) (gw_A G sz)) 0 0 (gw_A G sz) := by
  refine Met.ofW (cc := b_M_setNumbers) (maxL := 3) (ret := none) (by decide) rfl ?_
  intro p e s m args below meth c s₁ B hml hv
  obtain ⟨rfl, hsz, hP, hK⟩ := hv
  have hx := B.exec
  have hb := B.bytes
  have hr := B.returns
  have ht := fun w (hw : w ∈ gt) => atoms_spec (ws := w_M_setNumbers) B.pre w (List.mem_cons_of_mem _ hw)
  have hown : s.vm.findClass "StackRoom$Method" = some m.cls := findClass_of_methodNamed B.named
  have hlocks := B.notSynchronized
  have C0 : CallFix p m c b_M_setNumbers 3 s [.ref (ad i), .int (nI t), .int (nI d)].toArray gt "StackRoom$Method" := ⟨hx, hb, hml, hown, ht⟩
  subst hsz
  have hP := hP.self (sz := s.heap.size)
  have hA : ∀ q : Nat, s.heap.size ≤ q → gw_A G s.heap.size q := fun q h => Or.inr h
  have hS : va_S (gw_A G s.heap.size) s.heap s.heap [] := va_S.rf
  have hl := lv_entry ([.ref (ad i), .int (nI t), .int (nI d)]) (n := 3) (Nat.le_of_ble_eq_true rfl)
  rw [lg_entry_eq]
  generalize (lg_sl ([.ref (ad i), .int (nI t), .int (nI d)]) ++ List.replicate (3 - (lg_sl ([.ref (ad i), .int (nI t), .int (nI d)])).length) Slot.unset).toArray = ls at hl ⊢
  have hl : lv_has ls 3 [(0, .ref (ad i)), (1, .int (nI t)), (2, .int (nI d))] := hl
  refine lv_aload_n hx hb d_M_setNumbers_0 rfl (lv_at hl 0 rfl) ?_
  refine lv_iload_n hx hb d_M_setNumbers_1 rfl (lv_at hl 1 rfl) ?_
  refine gw_put (D := D) (cl := vwCl) (ci := 2) (C := "StackRoom$Method") (T := T_M) (N := 4) (v := .int (nI t)) (ty := .int) hx hb ht in_M ty_M tk_M nm_M hown hK.1 hP hS (hR.c2 hi) rfl 2 (by decide) (ht _ fl_M_M_temporaries) (fun _ h9 => h9) rfl (by decide +kernel) rfl rfl (Nat.le_of_ble_eq_true rfl) d_M_setNumbers_2 (fun H locs hP hS => ?_)
  obtain ⟨G1, eG1⟩ : ∃ z : gw_G, z = va_up G (ad i) (some (.inr (2, [.int (nI i), .int (ρ i), .int (nI t), .int (nI (s_dd σ i))]))) := ⟨_, rfl⟩
  replace hP : gw_P D vwCl (gw_A G s.heap.size) G1 H := by rw [eG1]; exact hP
  have f1 : G1 (ad i) = some (.inr (2, [.int (nI i), .int (ρ i), .int (nI t), .int (nI (s_dd σ i))])) := by rw [eG1]; exact va_up_self _ _ _
  refine lv_aload_n hx hb d_M_setNumbers_5 rfl (lv_at hl 0 rfl) ?_
  refine lv_iload_n hx hb d_M_setNumbers_6 rfl (lv_at hl 2 rfl) ?_
  refine gw_put (D := D) (cl := vwCl) (ci := 2) (C := "StackRoom$Method") (T := T_M) (N := 4) (v := .int (nI d)) (ty := .int) hx hb ht in_M ty_M tk_M nm_M hown hK.1 hP hS f1 rfl 3 (by decide) (ht _ fl_M_M_depth) (fun _ h9 => h9) rfl (by decide +kernel) rfl rfl (Nat.le_of_ble_eq_true rfl) d_M_setNumbers_7 (fun H locs hP hS => ?_)
  obtain ⟨G2, eG2⟩ : ∃ z : gw_G, z = va_up G1 (ad i) (some (.inr (2, [.int (nI i), .int (ρ i), .int (nI t), .int (nI d)]))) := ⟨_, rfl⟩
  replace hP : gw_P D vwCl (gw_A G s.heap.size) G2 H := by rw [eG2]; exact hP
  have f2 : G2 (ad i) = some (.inr (2, [.int (nI i), .int (ρ i), .int (nI t), .int (nI d)])) := by rw [eG2]; exact va_up_self _ _ _
  have hR2 := hR.obj (i := i) (τ := s_setT σ i t d) (ρ' := ρ) hI hm (by omega) rfl rfl rfl rfl (fun j hj => by unfold c_cell; rw [show s_tt (s_setT σ i t d) j = s_tt σ j from va_up_ne _ _ hj, show s_dd (s_setT σ i t d) j = s_dd σ j from va_up_ne _ _ hj]; rfl) (fun j hj => hR.2.2.2.2.2.2.2.2.2 j hj)
  have e8 : c_cell (s_setT σ i t d) ad fa ρ i = .inr (2, [.int (nI i), .int (ρ i), .int (nI t), .int (nI d)]) := by unfold c_cell; rw [show s_kd (s_setT σ i t d) i = 2 from hi, show s_tt (s_setT σ i t d) i = t from va_up_self _ _ _, show s_dd (s_setT σ i t d) i = d from va_up_self _ _ _]; rfl
  have e7 : G2 = va_up G (ad i) (some (.inr (2, [.int (nI i), .int (ρ i), .int (nI t), .int (nI d)]))) := by rw [eG2, eG1]; exact va_up_up _ _ _ _
  rw [e8, ← e7] at hR2
  exact W.vret hx hb hr (fun t ht hW => ⟨⟨G2, rfl, hR2, g_fin ht hP⟩, hS.F ht⟩) hS.2.2 d_M_setNumbers_10
end K12
