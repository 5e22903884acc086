theorem nK.nWT {U : State} (h : nK U) : va_Nc "StackRoom$Whole" "StackRoom$Thing" U := h.2.2.2.1
theorem nK.nWC {U : State} (h : nK U) : va_Nc "StackRoom$Whole" "StackRoom$Context" U := h.2.2.2.2.1
theorem nK.nMC {U : State} (h : nK U) : va_Nc "StackRoom$Method" "StackRoom$Context" U := h.2.2.2.2.2.1
theorem nK.nWM {U : State} (h : nK U) : va_Nc "StackRoom$Whole" "StackRoom$Method" U := h.2.2.2.2.2.2.1
theorem nK.nXM {U : State} (h : nK U) : va_Nc "StackRoom$MethodContext" "StackRoom$Method" U := h.2.2.2.2.2.2.2.1
theorem nK.nBM {U : State} (h : nK U) : va_Nc "StackRoom$BlockContext" "StackRoom$Method" U := h.2.2.2.2.2.2.2.2.1
theorem nK.nWB {U : State} (h : nK U) : va_Nc "StackRoom$Whole" "StackRoom$BlockContext" U := h.2.2.2.2.2.2.2.2.2.1
theorem nK.nMB {U : State} (h : nK U) : va_Nc "StackRoom$Method" "StackRoom$BlockContext" U := h.2.2.2.2.2.2.2.2.2.2.1
theorem nK.nXB {U : State} (h : nK U) : va_Nc "StackRoom$MethodContext" "StackRoom$BlockContext" U := h.2.2.2.2.2.2.2.2.2.2.2
theorem s_rin {r : Int32} (h : 0 ≤ r ∧ r ≤ 15) : vp_in r 16 := by
  obtain ⟨j, hj, rfl⟩ := nI_of2 (n := 15) rfl (fun q => absurd h.1 (Int32.not_le.mpr q)) h.2
  exact vp_in_nI (by omega) (by decide)
theorem s_ci_no {σ : sS} {r : Int32} (h : ¬ (0 ≤ r ∧ r ≤ 15)) : s_ci σ r = none := by unfold s_ci; rw [if_neg h]
theorem s_ci_nil {σ : sS} {r : Int32} (hq : s_rg σ r.toNatClampNeg = none) : s_ci σ r = none := by unfold s_ci; rw [hq]; split <;> rfl
theorem s_ci_num {σ : sS} {r v : Int32} (hq : s_rg σ r.toNatClampNeg = some (.inl v)) : s_ci σ r = none := by unfold s_ci; rw [hq]; split <;> rfl
theorem s_ci_m {σ : sS} {r : Int32} {j : Nat} (hq : s_rg σ r.toNatClampNeg = some (.inr j)) (hk : s_kd σ j = 2) : s_ci σ r = none := by
  unfold s_ci
  rw [hq]
  split
  · show (if s_kd σ j = 3 ∨ s_kd σ j = 4 then some j else none) = none
    rw [if_neg (by omega)]
  · rfl
theorem s_ci_c {σ : sS} {r : Int32} {j : Nat} (hr : 0 ≤ r ∧ r ≤ 15) (hq : s_rg σ r.toNatClampNeg = some (.inr j)) (hk : s_kd σ j = 3 ∨ s_kd σ j = 4) : s_ci σ r = some j := by
  unfold s_ci
  rw [hq, if_pos hr]
  show (if s_kd σ j = 3 ∨ s_kd σ j = 4 then some j else none) = some j
  rw [if_pos hk]
theorem s_mi_no {σ : sS} {r : Int32} (h : ¬ (0 ≤ r ∧ r ≤ 15)) : s_mi σ r = none := by unfold s_mi; rw [if_neg h]
theorem s_mi_nil {σ : sS} {r : Int32} (hq : s_rg σ r.toNatClampNeg = none) : s_mi σ r = none := by unfold s_mi; rw [hq]; split <;> rfl
theorem s_mi_num {σ : sS} {r v : Int32} (hq : s_rg σ r.toNatClampNeg = some (.inl v)) : s_mi σ r = none := by unfold s_mi; rw [hq]; split <;> rfl
theorem s_mi_c {σ : sS} {r : Int32} {j : Nat} (hq : s_rg σ r.toNatClampNeg = some (.inr j)) (hk : s_kd σ j ≠ 2) : s_mi σ r = none := by
  unfold s_mi
  rw [hq]
  split
  · show (if s_kd σ j = 2 then some j else none) = none
    rw [if_neg hk]
  · rfl
theorem s_mi_m {σ : sS} {r : Int32} {j : Nat} (hr : 0 ≤ r ∧ r ≤ 15) (hq : s_rg σ r.toNatClampNeg = some (.inr j)) (hk : s_kd σ j = 2) : s_mi σ r = some j := by
  unfold s_mi
  rw [hq, if_pos hr]
  show (if s_kd σ j = 2 then some j else none) = some j
  rw [if_pos hk]
theorem s_si_no {σ : sS} {r : Int32} (h : ¬ (0 ≤ r ∧ r ≤ 15)) : s_si σ r = none := by unfold s_si; rw [if_neg h]
theorem s_si_nil {σ : sS} {r : Int32} (hr : 0 ≤ r ∧ r ≤ 15) (hq : s_rg σ r.toNatClampNeg = none) : s_si σ r = some none := by unfold s_si; rw [hq, if_pos hr]
theorem s_si_num {σ : sS} {r v : Int32} (hq : s_rg σ r.toNatClampNeg = some (.inl v)) : s_si σ r = none := by unfold s_si; rw [hq]; split <;> rfl
theorem s_si_m {σ : sS} {r : Int32} {j : Nat} (hq : s_rg σ r.toNatClampNeg = some (.inr j)) (hk : s_kd σ j = 2) : s_si σ r = none := by
  unfold s_si
  rw [hq]
  split
  · show (if s_kd σ j = 3 ∨ s_kd σ j = 4 then some (some j) else none) = none
    rw [if_neg (by omega)]
  · rfl
theorem s_si_c {σ : sS} {r : Int32} {j : Nat} (hr : 0 ≤ r ∧ r ≤ 15) (hq : s_rg σ r.toNatClampNeg = some (.inr j)) (hk : s_kd σ j = 3 ∨ s_kd σ j = 4) : s_si σ r = some (some j) := by
  unfold s_si
  rw [hq, if_pos hr]
  show (if s_kd σ j = 3 ∨ s_kd σ j = 4 then some (some j) else none) = some (some j)
  rw [if_pos hk]
section K14
variable {w n rd md : Nat} {cV cT : ClassId} {σ : sS} {x ra rt : Nat} {ad fa : Nat → Nat} {ρ : Nat → Int32} {fr : Nat → Nat → Option Nat} {rr rf : Nat → Option Nat} {rc wl el cr : Int32} {G : gw_G} {D : va_G} {tys : List (ClassId × FieldType)} {sz : Nat}
set_option maxHeartbeats 4000000 in
set_option maxRecDepth 100000 in
theorem k_S_methodIn (l : Launch) (hR : c_Rep w n rd md cV cT σ x ra rt ad fa ρ fr rr rf rc wl el cr G) (hI : s_I σ) (ht0 : tys[0]? = some (cV, .object "StackRoom$Value")) (r : Int32) : Met l y_S_methodIn w_S_methodIn ({ frames := 2, cells := 0, slots := 0, locals := 42 }) (g_pre D tys G sz [.ref x, .int r]) (va_Sq (fun rz => rz = (s_mi σ r).map ad)) 0 0 (fun _ => False) := by
  refine Met.ofW (cc := b_S_methodIn) (maxL := 4) (ret := (some (.object "StackRoom$Method"))) (by decide) rfl ?_
  intro p e s m args below meth c s₁ B hml hv
  obtain ⟨rfl, hsz, hP, hK⟩ := hv
  have hx := B.exec
  have hb := B.bytes
  have hr := B.returns
  have ht := fun w (hw : w ∈ gt) => atoms_spec (ws := w_S_methodIn) B.pre w (List.mem_cons_of_mem _ hw)
  have hown : s.vm.findClass "StackRoom" = some m.cls := findClass_of_methodNamed B.named
  have hlocks := B.notSynchronized
  have C0 : CallFix p m c b_S_methodIn 4 s [.ref x, .int r].toArray gt "StackRoom" := ⟨hx, hb, hml, hown, ht⟩
  have hl := lv_entry ([.ref x, .int r]) (n := 4) (Nat.le_of_ble_eq_true rfl)
  rw [lg_entry_eq]
  generalize (lg_sl ([.ref x, .int r]) ++ List.replicate (4 - (lg_sl ([.ref x, .int r])).length) Slot.unset).toArray = ls at hl ⊢
  have hl : lv_has ls 4 [(0, .ref x), (1, .int r)] := hl
  refine lv_iload_n hx hb d_S_methodIn_0 rfl (lv_at hl 1 rfl) ?_
  refine vp_callSi (va_Run.run (r_S (rest := []) C0 [.int r] (k_S_isRegister l r) ml_S_S_isRegister st_S_isRegister ini_S co_S_isRegister hd_S_isRegister v_preS hl.1 d_S_methodIn_1 rfl rfl (Nat.le_of_ble_eq_true rfl) ⟨rfl, rfl⟩ ⟨Nat.le_of_ble_eq_true rfl, Nat.le_of_ble_eq_true rfl⟩ ⟨Nat.le_of_ble_eq_true rfl, Nat.le_of_ble_eq_true rfl⟩)) (fun q1 eq1 => ?_)
  refine lv_if_eq (tgt := 28) hx hb d_S_methodIn_4 (by decide) (fun c1 => ?_) (fun c1 => ?_)
  · have hreg : ¬ (0 ≤ r ∧ r ≤ 15) := fun h => absurd (eq1.symm.trans c1) (by rw [if_pos h]; decide)
    refine lv_null hx hb d_S_methodIn_28 ?_
    exact W.aret (v := .null) (rt := .object "StackRoom$Method") hx hb hr (Or.inl ⟨_, rfl⟩) (Or.inl rfl) (fun t ht hW => ⟨none, rfl, by rw [s_mi_no hreg]; rfl, ht⟩) (fun _ h => by cases h) d_S_methodIn_29
  · have hreg : 0 ≤ r ∧ r ≤ 15 := Decidable.byContradiction (fun h => c1 (eq1.trans (if_neg h)))
    refine lv_aload_n hx hb d_S_methodIn_7 rfl (lv_at hl 0 rfl) ?_
    refine va_get (D := D) (ci := 0) (C := "StackRoom") (T := T_S) (N := 10) (v := .ref ra) hx hb ht in_S hown hK.1 (hP.one hR.1) 0 rfl rfl 2 (by decide) (ht _ fl_S_S_registers) (fun _ h9 => h9) rfl d_S_methodIn_8 ?_
    refine lv_iload_n hx hb d_S_methodIn_11 rfl (lv_at hl 1 rfl) ?_
    refine va_aldq (C := "StackRoom$Value") hx hb hK.1 (hP.one hR.2.1) 0 0 rfl ht0 (s_rin hreg) d_S_methodIn_12 ?_
    have hv := hR.2.2.2.2.1 r.toNatClampNeg (s_reg hreg)
    rcases hq : s_rg σ r.toNatClampNeg with _ | (nv | j)
    · have hv : rr r.toNatClampNeg = none := by rw [hq] at hv; exact hv
      rw [hv]
      refine lv_astore_nN (lv' := [(3, .null), (0, .ref x), (1, .int r)]) hx hb d_S_methodIn_13 rfl hl (by decide) rfl (fun ls hl => ?_)
      refine lv_aload_nN hx hb d_S_methodIn_14 rfl (lv_at hl 0 rfl) ?_
      refine lv_instN hx hb d_S_methodIn_15 ?_
      refine lv_if_eq (tgt := 28) hx hb d_S_methodIn_18 (by decide) (fun _ => ?_) (fun h => absurd h (by decide))
      refine lv_null hx hb d_S_methodIn_28 ?_
      exact W.aret (v := .null) (rt := .object "StackRoom$Method") hx hb hr (Or.inl ⟨_, rfl⟩) (Or.inl rfl) (fun t ht hW => ⟨none, rfl, by rw [s_mi_nil hq]; rfl, ht⟩) (fun _ h => by cases h) d_S_methodIn_29
    · obtain ⟨a, h1, h2⟩ : ∃ a, rr r.toNatClampNeg = some a ∧ G a = some (.inr (kW, [.int nv])) := by rw [hq] at hv; exact hv
      rw [h1]
      refine lv_astore_n (lv' := [(3, .ref a), (0, .ref x), (1, .int r)]) hx hb d_S_methodIn_13 rfl hl (by decide) rfl (fun ls hl => ?_)
      refine lv_aload_n hx hb d_S_methodIn_14 rfl (lv_at hl 0 rfl) ?_
      refine va_instNo hx hb hown (ht _ cl_S_M) hK.2.nWM (gw_recv hK.1 hP rfl h2) d_S_methodIn_15 ?_
      refine lv_if_eq (tgt := 28) hx hb d_S_methodIn_18 (by decide) (fun _ => ?_) (fun h => absurd h (by decide))
      refine lv_null hx hb d_S_methodIn_28 ?_
      exact W.aret (v := .null) (rt := .object "StackRoom$Method") hx hb hr (Or.inl ⟨_, rfl⟩) (Or.inl rfl) (fun t ht hW => ⟨none, rfl, by rw [s_mi_num hq]; rfl, ht⟩) (fun _ h => by cases h) d_S_methodIn_29
    · have hv : rr r.toNatClampNeg = some (ad j) := by rw [hq] at hv; exact hv
      rw [hv]
      rcases (hI.2.1 j (hI.2.2.1 _ (s_reg hreg) j hq)).2.2 with hj | hj | hj
      · refine lv_astore_n (lv' := [(3, .ref (ad j)), (0, .ref x), (1, .int r)]) hx hb d_S_methodIn_13 rfl hl (by decide) rfl (fun ls hl => ?_)
        refine lv_aload_n hx hb d_S_methodIn_14 rfl (lv_at hl 0 rfl) ?_
        refine va_instY hx hb hown (ht _ cl_S_M) (hK.2.1 _ ca_M_M) (gw_recv hK.1 hP rfl (hR.c2 hj)) d_S_methodIn_15 ?_
        refine lv_if_eq (tgt := 28) hx hb d_S_methodIn_18 (by decide) (fun h => absurd h (by decide)) (fun _ => ?_)
        refine lv_aload_n hx hb d_S_methodIn_21 rfl (lv_at hl 0 rfl) ?_
        refine va_castY hx hb hown (ht _ cl_S_M) (hK.2.1 _ ca_M_M) (gw_recv hK.1 hP rfl (hR.c2 hj)) d_S_methodIn_22 ?_
        refine lv_astore_n (lv' := [(2, .ref (ad j)), (3, .ref (ad j)), (0, .ref x), (1, .int r)]) hx hb d_S_methodIn_25 rfl hl (by decide) rfl (fun ls hl => ?_)
        refine lv_aload_n hx hb d_S_methodIn_26 rfl (lv_at hl 0 rfl) ?_
        exact W.aret (v := .ref (ad j)) (rt := .object "StackRoom$Method") hx hb hr (Or.inl ⟨_, rfl⟩) (Or.inr ⟨_, rfl⟩) (fun t ht hW => ⟨some ((ad j)), rfl, by rw [s_mi_m hreg hq hj]; rfl, ht⟩) (fun _ h => by cases h) d_S_methodIn_27
      · refine lv_astore_n (lv' := [(3, .ref (ad j)), (0, .ref x), (1, .int r)]) hx hb d_S_methodIn_13 rfl hl (by decide) rfl (fun ls hl => ?_)
        refine lv_aload_n hx hb d_S_methodIn_14 rfl (lv_at hl 0 rfl) ?_
        refine va_instNo hx hb hown (ht _ cl_S_M) hK.2.nXM (gw_recv hK.1 hP rfl (hR.c3 hj)) d_S_methodIn_15 ?_
        refine lv_if_eq (tgt := 28) hx hb d_S_methodIn_18 (by decide) (fun _ => ?_) (fun h => absurd h (by decide))
        refine lv_null hx hb d_S_methodIn_28 ?_
        exact W.aret (v := .null) (rt := .object "StackRoom$Method") hx hb hr (Or.inl ⟨_, rfl⟩) (Or.inl rfl) (fun t ht hW => ⟨none, rfl, by rw [s_mi_c hq (by omega)]; rfl, ht⟩) (fun _ h => by cases h) d_S_methodIn_29
      · refine lv_astore_n (lv' := [(3, .ref (ad j)), (0, .ref x), (1, .int r)]) hx hb d_S_methodIn_13 rfl hl (by decide) rfl (fun ls hl => ?_)
        refine lv_aload_n hx hb d_S_methodIn_14 rfl (lv_at hl 0 rfl) ?_
        refine va_instNo hx hb hown (ht _ cl_S_M) hK.2.nBM (gw_recv hK.1 hP rfl (hR.c4 hj)) d_S_methodIn_15 ?_
        refine lv_if_eq (tgt := 28) hx hb d_S_methodIn_18 (by decide) (fun _ => ?_) (fun h => absurd h (by decide))
        refine lv_null hx hb d_S_methodIn_28 ?_
        exact W.aret (v := .null) (rt := .object "StackRoom$Method") hx hb hr (Or.inl ⟨_, rfl⟩) (Or.inl rfl) (fun t ht hW => ⟨none, rfl, by rw [s_mi_c hq (by omega)]; rfl, ht⟩) (fun _ h => by cases h) d_S_methodIn_29
set_option maxHeartbeats 4000000 in
set_option maxRecDepth 100000 in
theorem k_S_contextIn (l : Launch) (hR : c_Rep w n rd md cV cT σ x ra rt ad fa ρ fr rr rf rc wl el cr G) (hI : s_I σ) (ht0 : tys[0]? = some (cV, .object "StackRoom$Value")) (r : Int32) : Met l y_S_contextIn w_S_contextIn ({ frames := 2, cells := 0, slots := 0, locals := 42 }) (g_pre D tys G sz [.ref x, .int r]) (va_Sq (fun rz => rz = (s_ci σ r).map ad)) 0 0 (fun _ => False) := by
  refine Met.ofW (cc := b_S_contextIn) (maxL := 4) (ret := (some (.object "StackRoom$Context"))) (by decide) rfl ?_
  intro p e s m args below meth c s₁ B hml hv
  obtain ⟨rfl, hsz, hP, hK⟩ := hv
  have hx := B.exec
  have hb := B.bytes
  have hr := B.returns
  have ht := fun w (hw : w ∈ gt) => atoms_spec (ws := w_S_contextIn) B.pre w (List.mem_cons_of_mem _ hw)
  have hown : s.vm.findClass "StackRoom" = some m.cls := findClass_of_methodNamed B.named
  have hlocks := B.notSynchronized
  have C0 : CallFix p m c b_S_contextIn 4 s [.ref x, .int r].toArray gt "StackRoom" := ⟨hx, hb, hml, hown, ht⟩
  have hl := lv_entry ([.ref x, .int r]) (n := 4) (Nat.le_of_ble_eq_true rfl)
  rw [lg_entry_eq]
  generalize (lg_sl ([.ref x, .int r]) ++ List.replicate (4 - (lg_sl ([.ref x, .int r])).length) Slot.unset).toArray = ls at hl ⊢
  have hl : lv_has ls 4 [(0, .ref x), (1, .int r)] := hl
  refine lv_iload_n hx hb d_S_contextIn_0 rfl (lv_at hl 1 rfl) ?_
  refine vp_callSi (va_Run.run (r_S (rest := []) C0 [.int r] (k_S_isRegister l r) ml_S_S_isRegister st_S_isRegister ini_S co_S_isRegister hd_S_isRegister v_preS hl.1 d_S_contextIn_1 rfl rfl (Nat.le_of_ble_eq_true rfl) ⟨rfl, rfl⟩ ⟨Nat.le_of_ble_eq_true rfl, Nat.le_of_ble_eq_true rfl⟩ ⟨Nat.le_of_ble_eq_true rfl, Nat.le_of_ble_eq_true rfl⟩)) (fun q1 eq1 => ?_)
  refine lv_if_eq (tgt := 28) hx hb d_S_contextIn_4 (by decide) (fun c1 => ?_) (fun c1 => ?_)
  · have hreg : ¬ (0 ≤ r ∧ r ≤ 15) := fun h => absurd (eq1.symm.trans c1) (by rw [if_pos h]; decide)
    refine lv_null hx hb d_S_contextIn_28 ?_
    exact W.aret (v := .null) (rt := .object "StackRoom$Context") hx hb hr (Or.inl ⟨_, rfl⟩) (Or.inl rfl) (fun t ht hW => ⟨none, rfl, by rw [s_ci_no hreg]; rfl, ht⟩) (fun _ h => by cases h) d_S_contextIn_29
  · have hreg : 0 ≤ r ∧ r ≤ 15 := Decidable.byContradiction (fun h => c1 (eq1.trans (if_neg h)))
    refine lv_aload_n hx hb d_S_contextIn_7 rfl (lv_at hl 0 rfl) ?_
    refine va_get (D := D) (ci := 0) (C := "StackRoom") (T := T_S) (N := 10) (v := .ref ra) hx hb ht in_S hown hK.1 (hP.one hR.1) 0 rfl rfl 2 (by decide) (ht _ fl_S_S_registers) (fun _ h9 => h9) rfl d_S_contextIn_8 ?_
    refine lv_iload_n hx hb d_S_contextIn_11 rfl (lv_at hl 1 rfl) ?_
    refine va_aldq (C := "StackRoom$Value") hx hb hK.1 (hP.one hR.2.1) 0 0 rfl ht0 (s_rin hreg) d_S_contextIn_12 ?_
    have hv := hR.2.2.2.2.1 r.toNatClampNeg (s_reg hreg)
    rcases hq : s_rg σ r.toNatClampNeg with _ | (nv | j)
    · have hv : rr r.toNatClampNeg = none := by rw [hq] at hv; exact hv
      rw [hv]
      refine lv_astore_nN (lv' := [(3, .null), (0, .ref x), (1, .int r)]) hx hb d_S_contextIn_13 rfl hl (by decide) rfl (fun ls hl => ?_)
      refine lv_aload_nN hx hb d_S_contextIn_14 rfl (lv_at hl 0 rfl) ?_
      refine lv_instN hx hb d_S_contextIn_15 ?_
      refine lv_if_eq (tgt := 28) hx hb d_S_contextIn_18 (by decide) (fun _ => ?_) (fun h => absurd h (by decide))
      refine lv_null hx hb d_S_contextIn_28 ?_
      exact W.aret (v := .null) (rt := .object "StackRoom$Context") hx hb hr (Or.inl ⟨_, rfl⟩) (Or.inl rfl) (fun t ht hW => ⟨none, rfl, by rw [s_ci_nil hq]; rfl, ht⟩) (fun _ h => by cases h) d_S_contextIn_29
    · obtain ⟨a, h1, h2⟩ : ∃ a, rr r.toNatClampNeg = some a ∧ G a = some (.inr (kW, [.int nv])) := by rw [hq] at hv; exact hv
      rw [h1]
      refine lv_astore_n (lv' := [(3, .ref a), (0, .ref x), (1, .int r)]) hx hb d_S_contextIn_13 rfl hl (by decide) rfl (fun ls hl => ?_)
      refine lv_aload_n hx hb d_S_contextIn_14 rfl (lv_at hl 0 rfl) ?_
      refine va_instNo hx hb hown (ht _ cl_S_C) hK.2.nWC (gw_recv hK.1 hP rfl h2) d_S_contextIn_15 ?_
      refine lv_if_eq (tgt := 28) hx hb d_S_contextIn_18 (by decide) (fun _ => ?_) (fun h => absurd h (by decide))
      refine lv_null hx hb d_S_contextIn_28 ?_
      exact W.aret (v := .null) (rt := .object "StackRoom$Context") hx hb hr (Or.inl ⟨_, rfl⟩) (Or.inl rfl) (fun t ht hW => ⟨none, rfl, by rw [s_ci_num hq]; rfl, ht⟩) (fun _ h => by cases h) d_S_contextIn_29
    · have hv : rr r.toNatClampNeg = some (ad j) := by rw [hq] at hv; exact hv
      rw [hv]
      rcases (hI.2.1 j (hI.2.2.1 _ (s_reg hreg) j hq)).2.2 with hj | hj | hj
      · refine lv_astore_n (lv' := [(3, .ref (ad j)), (0, .ref x), (1, .int r)]) hx hb d_S_contextIn_13 rfl hl (by decide) rfl (fun ls hl => ?_)
        refine lv_aload_n hx hb d_S_contextIn_14 rfl (lv_at hl 0 rfl) ?_
        refine va_instNo hx hb hown (ht _ cl_S_C) hK.2.nMC (gw_recv hK.1 hP rfl (hR.c2 hj)) d_S_contextIn_15 ?_
        refine lv_if_eq (tgt := 28) hx hb d_S_contextIn_18 (by decide) (fun _ => ?_) (fun h => absurd h (by decide))
        refine lv_null hx hb d_S_contextIn_28 ?_
        exact W.aret (v := .null) (rt := .object "StackRoom$Context") hx hb hr (Or.inl ⟨_, rfl⟩) (Or.inl rfl) (fun t ht hW => ⟨none, rfl, by rw [s_ci_m hq hj]; rfl, ht⟩) (fun _ h => by cases h) d_S_contextIn_29
      · refine lv_astore_n (lv' := [(3, .ref (ad j)), (0, .ref x), (1, .int r)]) hx hb d_S_contextIn_13 rfl hl (by decide) rfl (fun ls hl => ?_)
        refine lv_aload_n hx hb d_S_contextIn_14 rfl (lv_at hl 0 rfl) ?_
        refine va_instY hx hb hown (ht _ cl_S_C) (hK.2.1 _ ca_X_C) (gw_recv hK.1 hP rfl (hR.c3 hj)) d_S_contextIn_15 ?_
        refine lv_if_eq (tgt := 28) hx hb d_S_contextIn_18 (by decide) (fun h => absurd h (by decide)) (fun _ => ?_)
        refine lv_aload_n hx hb d_S_contextIn_21 rfl (lv_at hl 0 rfl) ?_
        refine va_castY hx hb hown (ht _ cl_S_C) (hK.2.1 _ ca_X_C) (gw_recv hK.1 hP rfl (hR.c3 hj)) d_S_contextIn_22 ?_
        refine lv_astore_n (lv' := [(2, .ref (ad j)), (3, .ref (ad j)), (0, .ref x), (1, .int r)]) hx hb d_S_contextIn_25 rfl hl (by decide) rfl (fun ls hl => ?_)
        refine lv_aload_n hx hb d_S_contextIn_26 rfl (lv_at hl 0 rfl) ?_
        exact W.aret (v := .ref (ad j)) (rt := .object "StackRoom$Context") hx hb hr (Or.inl ⟨_, rfl⟩) (Or.inr ⟨_, rfl⟩) (fun t ht hW => ⟨some ((ad j)), rfl, by rw [s_ci_c hreg hq (Or.inl hj)]; rfl, ht⟩) (fun _ h => by cases h) d_S_contextIn_27
      · refine lv_astore_n (lv' := [(3, .ref (ad j)), (0, .ref x), (1, .int r)]) hx hb d_S_contextIn_13 rfl hl (by decide) rfl (fun ls hl => ?_)
        refine lv_aload_n hx hb d_S_contextIn_14 rfl (lv_at hl 0 rfl) ?_
        refine va_instY hx hb hown (ht _ cl_S_C) (hK.2.1 _ ca_B_C) (gw_recv hK.1 hP rfl (hR.c4 hj)) d_S_contextIn_15 ?_
        refine lv_if_eq (tgt := 28) hx hb d_S_contextIn_18 (by decide) (fun h => absurd h (by decide)) (fun _ => ?_)
        refine lv_aload_n hx hb d_S_contextIn_21 rfl (lv_at hl 0 rfl) ?_
        refine va_castY hx hb hown (ht _ cl_S_C) (hK.2.1 _ ca_B_C) (gw_recv hK.1 hP rfl (hR.c4 hj)) d_S_contextIn_22 ?_
        refine lv_astore_n (lv' := [(2, .ref (ad j)), (3, .ref (ad j)), (0, .ref x), (1, .int r)]) hx hb d_S_contextIn_25 rfl hl (by decide) rfl (fun ls hl => ?_)
        refine lv_aload_n hx hb d_S_contextIn_26 rfl (lv_at hl 0 rfl) ?_
        exact W.aret (v := .ref (ad j)) (rt := .object "StackRoom$Context") hx hb hr (Or.inl ⟨_, rfl⟩) (Or.inr ⟨_, rfl⟩) (fun t ht hW => ⟨some ((ad j)), rfl, by rw [s_ci_c hreg hq (Or.inr hj)]; rfl, ht⟩) (fun _ h => by cases h) d_S_contextIn_27
set_option maxHeartbeats 4000000 in
set_option maxRecDepth 100000 in
theorem k_S_isSender (l : Launch) (hR : c_Rep w n rd md cV cT σ x ra rt ad fa ρ fr rr rf rc wl el cr G) (hI : s_I σ) (ht0 : tys[0]? = some (cV, .object "StackRoom$Value")) (r : Int32) : Met l y_S_isSender w_S_isSender ({ frames := 2, cells := 0, slots := 0, locals := 42 }) (g_pre D tys G sz [.ref x, .int r]) (vp_Si (fun rz => rz = if (s_si σ r).isSome = true then 1 else 0)) 0 0 (fun _ => False) := by
  refine Met.ofW (cc := b_S_isSender) (maxL := 2) (ret := (some .boolean)) (by decide) rfl ?_
  intro p e s m args below meth c s₁ B hml hv
  obtain ⟨rfl, hsz, hP, hK⟩ := hv
  have hx := B.exec
  have hb := B.bytes
  have hr := B.returns
  have ht := fun w (hw : w ∈ gt) => atoms_spec (ws := w_S_isSender) B.pre w (List.mem_cons_of_mem _ hw)
  have hown : s.vm.findClass "StackRoom" = some m.cls := findClass_of_methodNamed B.named
  have hlocks := B.notSynchronized
  have C0 : CallFix p m c b_S_isSender 2 s [.ref x, .int r].toArray gt "StackRoom" := ⟨hx, hb, hml, hown, ht⟩
  have hl := lv_entry ([.ref x, .int r]) (n := 2) (Nat.le_of_ble_eq_true rfl)
  rw [lg_entry_eq]
  generalize (lg_sl ([.ref x, .int r]) ++ List.replicate (2 - (lg_sl ([.ref x, .int r])).length) Slot.unset).toArray = ls at hl ⊢
  have hl : lv_has ls 2 [(0, .ref x), (1, .int r)] := hl
  refine lv_iload_n hx hb d_S_isSender_0 rfl (lv_at hl 1 rfl) ?_
  refine vp_callSi (va_Run.run (r_S (rest := []) C0 [.int r] (k_S_isRegister l r) ml_S_S_isRegister st_S_isRegister ini_S co_S_isRegister hd_S_isRegister v_preS hl.1 d_S_isSender_1 rfl rfl (Nat.le_of_ble_eq_true rfl) ⟨rfl, rfl⟩ ⟨Nat.le_of_ble_eq_true rfl, Nat.le_of_ble_eq_true rfl⟩ ⟨Nat.le_of_ble_eq_true rfl, Nat.le_of_ble_eq_true rfl⟩)) (fun q1 eq1 => ?_)
  refine lv_if_eq (tgt := 32) hx hb d_S_isSender_4 (by decide) (fun c1 => ?_) (fun c1 => ?_)
  · have hreg : ¬ (0 ≤ r ∧ r ≤ 15) := fun h => absurd (eq1.symm.trans c1) (by rw [if_pos h]; decide)
    refine lv_iconst (v := 0) hx hb d_S_isSender_32 (by decide) ?_
    exact W.zret (v := 0) hx hb hr rfl (fun t ht hW => ⟨_, rfl, by rw [s_si_no hreg]; rfl, ht⟩) (fun _ h => by cases h) d_S_isSender_33
  · have hreg : 0 ≤ r ∧ r ≤ 15 := Decidable.byContradiction (fun h => c1 (eq1.trans (if_neg h)))
    refine lv_aload_n hx hb d_S_isSender_7 rfl (lv_at hl 0 rfl) ?_
    refine va_get (D := D) (ci := 0) (C := "StackRoom") (T := T_S) (N := 10) (v := .ref ra) hx hb ht in_S hown hK.1 (hP.one hR.1) 0 rfl rfl 2 (by decide) (ht _ fl_S_S_registers) (fun _ h9 => h9) rfl d_S_isSender_8 ?_
    refine lv_iload_n hx hb d_S_isSender_11 rfl (lv_at hl 1 rfl) ?_
    refine va_aldq (C := "StackRoom$Value") hx hb hK.1 (hP.one hR.2.1) 0 0 rfl ht0 (s_rin hreg) d_S_isSender_12 ?_
    have hv := hR.2.2.2.2.1 r.toNatClampNeg (s_reg hreg)
    rcases hq : s_rg σ r.toNatClampNeg with _ | (nv | j)
    · have hv : rr r.toNatClampNeg = none := by rw [hq] at hv; exact hv
      rw [hv]
      refine lv_ifnullN (tgt := 28) hx hb d_S_isSender_13 (by decide) ?_
      refine lv_iconst (v := 1) hx hb d_S_isSender_28 (by decide) ?_
      refine lv_goto (tgt := 33) hx hb d_S_isSender_29 (by decide) ?_
      exact W.zret (v := 1) hx hb hr rfl (fun t ht hW => ⟨_, rfl, by rw [s_si_nil hreg hq]; rfl, ht⟩) (fun _ h => by cases h) d_S_isSender_33
    · obtain ⟨a, h1, h2⟩ : ∃ a, rr r.toNatClampNeg = some a ∧ G a = some (.inr (kW, [.int nv])) := by rw [hq] at hv; exact hv
      rw [h1]
      refine lv_ifnull hx hb d_S_isSender_13 ?_
      refine lv_aload_n hx hb d_S_isSender_16 rfl (lv_at hl 0 rfl) ?_
      refine va_get (D := D) (ci := 0) (C := "StackRoom") (T := T_S) (N := 10) (v := .ref ra) hx hb ht in_S hown hK.1 (hP.one hR.1) 0 rfl rfl 2 (by decide) (ht _ fl_S_S_registers) (fun _ h9 => h9) rfl d_S_isSender_17 ?_
      refine lv_iload_n hx hb d_S_isSender_20 rfl (lv_at hl 1 rfl) ?_
      refine va_aldq (C := "StackRoom$Value") hx hb hK.1 (hP.one hR.2.1) 0 0 rfl ht0 (s_rin hreg) d_S_isSender_21 ?_
      rw [h1]
      refine va_instNo hx hb hown (ht _ cl_S_C) hK.2.nWC (gw_recv hK.1 hP rfl h2) d_S_isSender_22 ?_
      refine lv_if_eq (tgt := 32) hx hb d_S_isSender_25 (by decide) (fun _ => ?_) (fun h => absurd h (by decide))
      refine lv_iconst (v := 0) hx hb d_S_isSender_32 (by decide) ?_
      exact W.zret (v := 0) hx hb hr rfl (fun t ht hW => ⟨_, rfl, by rw [s_si_num hq]; rfl, ht⟩) (fun _ h => by cases h) d_S_isSender_33
    · have hv : rr r.toNatClampNeg = some (ad j) := by rw [hq] at hv; exact hv
      rw [hv]
      rcases (hI.2.1 j (hI.2.2.1 _ (s_reg hreg) j hq)).2.2 with hj | hj | hj
      · refine lv_ifnull hx hb d_S_isSender_13 ?_
        refine lv_aload_n hx hb d_S_isSender_16 rfl (lv_at hl 0 rfl) ?_
        refine va_get (D := D) (ci := 0) (C := "StackRoom") (T := T_S) (N := 10) (v := .ref ra) hx hb ht in_S hown hK.1 (hP.one hR.1) 0 rfl rfl 2 (by decide) (ht _ fl_S_S_registers) (fun _ h9 => h9) rfl d_S_isSender_17 ?_
        refine lv_iload_n hx hb d_S_isSender_20 rfl (lv_at hl 1 rfl) ?_
        refine va_aldq (C := "StackRoom$Value") hx hb hK.1 (hP.one hR.2.1) 0 0 rfl ht0 (s_rin hreg) d_S_isSender_21 ?_
        rw [hv]
        refine va_instNo hx hb hown (ht _ cl_S_C) hK.2.nMC (gw_recv hK.1 hP rfl (hR.c2 hj)) d_S_isSender_22 ?_
        refine lv_if_eq (tgt := 32) hx hb d_S_isSender_25 (by decide) (fun _ => ?_) (fun h => absurd h (by decide))
        refine lv_iconst (v := 0) hx hb d_S_isSender_32 (by decide) ?_
        exact W.zret (v := 0) hx hb hr rfl (fun t ht hW => ⟨_, rfl, by rw [s_si_m hq hj]; rfl, ht⟩) (fun _ h => by cases h) d_S_isSender_33
      · refine lv_ifnull hx hb d_S_isSender_13 ?_
        refine lv_aload_n hx hb d_S_isSender_16 rfl (lv_at hl 0 rfl) ?_
        refine va_get (D := D) (ci := 0) (C := "StackRoom") (T := T_S) (N := 10) (v := .ref ra) hx hb ht in_S hown hK.1 (hP.one hR.1) 0 rfl rfl 2 (by decide) (ht _ fl_S_S_registers) (fun _ h9 => h9) rfl d_S_isSender_17 ?_
        refine lv_iload_n hx hb d_S_isSender_20 rfl (lv_at hl 1 rfl) ?_
        refine va_aldq (C := "StackRoom$Value") hx hb hK.1 (hP.one hR.2.1) 0 0 rfl ht0 (s_rin hreg) d_S_isSender_21 ?_
        rw [hv]
        refine va_instY hx hb hown (ht _ cl_S_C) (hK.2.1 _ ca_X_C) (gw_recv hK.1 hP rfl (hR.c3 hj)) d_S_isSender_22 ?_
        refine lv_if_eq (tgt := 32) hx hb d_S_isSender_25 (by decide) (fun h => absurd h (by decide)) (fun _ => ?_)
        refine lv_iconst (v := 1) hx hb d_S_isSender_28 (by decide) ?_
        refine lv_goto (tgt := 33) hx hb d_S_isSender_29 (by decide) ?_
        exact W.zret (v := 1) hx hb hr rfl (fun t ht hW => ⟨_, rfl, by rw [s_si_c hreg hq (Or.inl hj)]; rfl, ht⟩) (fun _ h => by cases h) d_S_isSender_33
      · refine lv_ifnull hx hb d_S_isSender_13 ?_
        refine lv_aload_n hx hb d_S_isSender_16 rfl (lv_at hl 0 rfl) ?_
        refine va_get (D := D) (ci := 0) (C := "StackRoom") (T := T_S) (N := 10) (v := .ref ra) hx hb ht in_S hown hK.1 (hP.one hR.1) 0 rfl rfl 2 (by decide) (ht _ fl_S_S_registers) (fun _ h9 => h9) rfl d_S_isSender_17 ?_
        refine lv_iload_n hx hb d_S_isSender_20 rfl (lv_at hl 1 rfl) ?_
        refine va_aldq (C := "StackRoom$Value") hx hb hK.1 (hP.one hR.2.1) 0 0 rfl ht0 (s_rin hreg) d_S_isSender_21 ?_
        rw [hv]
        refine va_instY hx hb hown (ht _ cl_S_C) (hK.2.1 _ ca_B_C) (gw_recv hK.1 hP rfl (hR.c4 hj)) d_S_isSender_22 ?_
        refine lv_if_eq (tgt := 32) hx hb d_S_isSender_25 (by decide) (fun h => absurd h (by decide)) (fun _ => ?_)
        refine lv_iconst (v := 1) hx hb d_S_isSender_28 (by decide) ?_
        refine lv_goto (tgt := 33) hx hb d_S_isSender_29 (by decide) ?_
        exact W.zret (v := 1) hx hb hr rfl (fun t ht hW => ⟨_, rfl, by rw [s_si_c hreg hq (Or.inr hj)]; rfl, ht⟩) (fun _ h => by cases h) d_S_isSender_33
set_option maxHeartbeats 4000000 in
set_option maxRecDepth 100000 in
theorem k_S_kind (l : Launch) (hR : c_Rep w n rd md cV cT σ x ra rt ad fa ρ fr rr rf rc wl el cr G) (hI : s_I σ) (ht0 : tys[0]? = some (cV, .object "StackRoom$Value")) (r : Int32) : Met l y_S_kind w_S_kind ({ frames := 2, cells := 0, slots := 0, locals := 42 }) (g_pre D tys G sz [.ref x, .int r]) (vp_Si (fun rz => rz = p_kind σ r)) 0 0 (fun _ => False) := by
  refine Met.ofW (cc := b_S_kind) (maxL := 3) (ret := (some .int)) (by decide) rfl ?_
  intro p e s m args below meth c s₁ B hml hv
  obtain ⟨rfl, hsz, hP, hK⟩ := hv
  have hx := B.exec
  have hb := B.bytes
  have hr := B.returns
  have ht := fun w (hw : w ∈ gt) => atoms_spec (ws := w_S_kind) B.pre w (List.mem_cons_of_mem _ hw)
  have hown : s.vm.findClass "StackRoom" = some m.cls := findClass_of_methodNamed B.named
  have hlocks := B.notSynchronized
  have C0 : CallFix p m c b_S_kind 3 s [.ref x, .int r].toArray gt "StackRoom" := ⟨hx, hb, hml, hown, ht⟩
  have hl := lv_entry ([.ref x, .int r]) (n := 3) (Nat.le_of_ble_eq_true rfl)
  rw [lg_entry_eq]
  generalize (lg_sl ([.ref x, .int r]) ++ List.replicate (3 - (lg_sl ([.ref x, .int r])).length) Slot.unset).toArray = ls at hl ⊢
  have hl : lv_has ls 3 [(0, .ref x), (1, .int r)] := hl
  refine lv_iload_n hx hb d_S_kind_0 rfl (lv_at hl 1 rfl) ?_
  refine vp_callSi (va_Run.run (r_S (rest := []) C0 [.int r] (k_S_isRegister l r) ml_S_S_isRegister st_S_isRegister ini_S co_S_isRegister hd_S_isRegister v_preS hl.1 d_S_kind_1 rfl rfl (Nat.le_of_ble_eq_true rfl) ⟨rfl, rfl⟩ ⟨Nat.le_of_ble_eq_true rfl, Nat.le_of_ble_eq_true rfl⟩ ⟨Nat.le_of_ble_eq_true rfl, Nat.le_of_ble_eq_true rfl⟩)) (fun q1 eq1 => ?_)
  refine lv_if_ne (tgt := 9) hx hb d_S_kind_4 (by decide) (fun c1 => ?_) (fun c1 => ?_)
  · have hreg : 0 ≤ r ∧ r ≤ 15 := Decidable.byContradiction (fun h => c1 (eq1.trans (if_neg h)))
    refine lv_aload_n hx hb d_S_kind_9 rfl (lv_at hl 0 rfl) ?_
    refine va_get (D := D) (ci := 0) (C := "StackRoom") (T := T_S) (N := 10) (v := .ref ra) hx hb ht in_S hown hK.1 (hP.one hR.1) 0 rfl rfl 2 (by decide) (ht _ fl_S_S_registers) (fun _ h9 => h9) rfl d_S_kind_10 ?_
    refine lv_iload_n hx hb d_S_kind_13 rfl (lv_at hl 1 rfl) ?_
    refine va_aldq (C := "StackRoom$Value") hx hb hK.1 (hP.one hR.2.1) 0 0 rfl ht0 (s_rin hreg) d_S_kind_14 ?_
    have hv := hR.2.2.2.2.1 r.toNatClampNeg (s_reg hreg)
    rcases hq : s_rg σ r.toNatClampNeg with _ | (nv | j)
    · have hv : rr r.toNatClampNeg = none := by rw [hq] at hv; exact hv
      rw [hv]
      refine lv_astore_nN (lv' := [(2, .null), (0, .ref x), (1, .int r)]) hx hb d_S_kind_15 rfl hl (by decide) rfl (fun ls hl => ?_)
      refine lv_aload_nN hx hb d_S_kind_16 rfl (lv_at hl 0 rfl) ?_
      refine lv_ifnonnullN hx hb d_S_kind_17 ?_
      refine lv_iconst (v := 0) hx hb d_S_kind_20 (by decide) ?_
      refine lv_goto (tgt := 28) hx hb d_S_kind_21 (by decide) ?_
      exact W.iret (v := 0) hx hb hr (fun t ht hW => ⟨_, rfl, by unfold p_kind s_get; rw [if_pos hreg, hq], ht⟩) (fun _ h => by cases h) d_S_kind_28
    · obtain ⟨a, h1, h2⟩ : ∃ a, rr r.toNatClampNeg = some a ∧ G a = some (.inr (kW, [.int nv])) := by rw [hq] at hv; exact hv
      rw [h1]
      refine lv_astore_n (lv' := [(2, .ref a), (0, .ref x), (1, .int r)]) hx hb d_S_kind_15 rfl hl (by decide) rfl (fun ls hl => ?_)
      refine lv_aload_n hx hb d_S_kind_16 rfl (lv_at hl 0 rfl) ?_
      refine lv_ifnonnull (tgt := 24) hx hb d_S_kind_17 (by decide) ?_
      refine lv_aload_n hx hb d_S_kind_24 rfl (lv_at hl 0 rfl) ?_
      refine vp_callSi (va_Run.run (r_A (owner := "StackRoom$Value") (n := 0) (rest := []) C0 [] (k_W_kindCode l h2) ml_S_V_kindCode sm_V_V_kindCode se_W_V_kindCode_W im_W_kindCode ini_W co_W_kindCode (hK.2.1 _ dc_V_kindCode) (by decide +kernel) (g_preV (ci := 1) hK hP rfl h2) hl.1 d_S_kind_25 rfl rfl (Nat.le_of_ble_eq_true rfl) ⟨rfl, rfl⟩ ⟨Nat.le_of_ble_eq_true rfl, Nat.le_of_ble_eq_true rfl⟩ ⟨Nat.le_of_ble_eq_true rfl, Nat.le_of_ble_eq_true rfl⟩)) (fun q eq => ?_)
      exact W.iret (v := q) hx hb hr (fun t ht hW => ⟨_, rfl, (by rw [eq]; unfold p_kind s_get; rw [if_pos hreg, hq]), ht⟩) (fun _ h => by cases h) d_S_kind_28
    · have hv : rr r.toNatClampNeg = some (ad j) := by rw [hq] at hv; exact hv
      rw [hv]
      rcases (hI.2.1 j (hI.2.2.1 _ (s_reg hreg) j hq)).2.2 with hj | hj | hj
      · refine lv_astore_n (lv' := [(2, .ref (ad j)), (0, .ref x), (1, .int r)]) hx hb d_S_kind_15 rfl hl (by decide) rfl (fun ls hl => ?_)
        refine lv_aload_n hx hb d_S_kind_16 rfl (lv_at hl 0 rfl) ?_
        refine lv_ifnonnull (tgt := 24) hx hb d_S_kind_17 (by decide) ?_
        refine lv_aload_n hx hb d_S_kind_24 rfl (lv_at hl 0 rfl) ?_
        refine vp_callSi (va_Run.run (r_A (owner := "StackRoom$Value") (n := 0) (rest := []) C0 [] (k_M_kindCode l hR (i := j) hj) ml_S_V_kindCode sm_V_V_kindCode se_M_V_kindCode_M im_M_kindCode ini_M co_M_kindCode (hK.2.1 _ dc_V_kindCode) (by decide +kernel) (g_preV (ci := 2) hK hP rfl (hR.c2 hj)) hl.1 d_S_kind_25 rfl rfl (Nat.le_of_ble_eq_true rfl) ⟨rfl, rfl⟩ ⟨Nat.le_of_ble_eq_true rfl, Nat.le_of_ble_eq_true rfl⟩ ⟨Nat.le_of_ble_eq_true rfl, Nat.le_of_ble_eq_true rfl⟩)) (fun q eq => ?_)
        exact W.iret (v := q) hx hb hr (fun t ht hW => ⟨_, rfl, (by rw [eq]; unfold p_kind s_get; rw [if_pos hreg, hq]), ht⟩) (fun _ h => by cases h) d_S_kind_28
      · refine lv_astore_n (lv' := [(2, .ref (ad j)), (0, .ref x), (1, .int r)]) hx hb d_S_kind_15 rfl hl (by decide) rfl (fun ls hl => ?_)
        refine lv_aload_n hx hb d_S_kind_16 rfl (lv_at hl 0 rfl) ?_
        refine lv_ifnonnull (tgt := 24) hx hb d_S_kind_17 (by decide) ?_
        refine lv_aload_n hx hb d_S_kind_24 rfl (lv_at hl 0 rfl) ?_
        refine vp_callSi (va_Run.run (r_A (owner := "StackRoom$Value") (n := 0) (rest := []) C0 [] (k_X_kindCode l hR (i := j) hj) ml_S_V_kindCode sm_V_V_kindCode se_X_V_kindCode_X im_X_kindCode ini_X co_X_kindCode (hK.2.1 _ dc_V_kindCode) (by decide +kernel) (g_preV (ci := 3) hK hP rfl (hR.c3 hj)) hl.1 d_S_kind_25 rfl rfl (Nat.le_of_ble_eq_true rfl) ⟨rfl, rfl⟩ ⟨Nat.le_of_ble_eq_true rfl, Nat.le_of_ble_eq_true rfl⟩ ⟨Nat.le_of_ble_eq_true rfl, Nat.le_of_ble_eq_true rfl⟩)) (fun q eq => ?_)
        exact W.iret (v := q) hx hb hr (fun t ht hW => ⟨_, rfl, (by rw [eq]; unfold p_kind s_get; rw [if_pos hreg, hq]), ht⟩) (fun _ h => by cases h) d_S_kind_28
      · refine lv_astore_n (lv' := [(2, .ref (ad j)), (0, .ref x), (1, .int r)]) hx hb d_S_kind_15 rfl hl (by decide) rfl (fun ls hl => ?_)
        refine lv_aload_n hx hb d_S_kind_16 rfl (lv_at hl 0 rfl) ?_
        refine lv_ifnonnull (tgt := 24) hx hb d_S_kind_17 (by decide) ?_
        refine lv_aload_n hx hb d_S_kind_24 rfl (lv_at hl 0 rfl) ?_
        refine vp_callSi (va_Run.run (r_A (owner := "StackRoom$Value") (n := 0) (rest := []) C0 [] (k_B_kindCode l hR (i := j) hj) ml_S_V_kindCode sm_V_V_kindCode se_B_V_kindCode_B im_B_kindCode ini_B co_B_kindCode (hK.2.1 _ dc_V_kindCode) (by decide +kernel) (g_preV (ci := 4) hK hP rfl (hR.c4 hj)) hl.1 d_S_kind_25 rfl rfl (Nat.le_of_ble_eq_true rfl) ⟨rfl, rfl⟩ ⟨Nat.le_of_ble_eq_true rfl, Nat.le_of_ble_eq_true rfl⟩ ⟨Nat.le_of_ble_eq_true rfl, Nat.le_of_ble_eq_true rfl⟩)) (fun q eq => ?_)
        exact W.iret (v := q) hx hb hr (fun t ht hW => ⟨_, rfl, (by rw [eq]; unfold p_kind s_get; rw [if_pos hreg, hq]), ht⟩) (fun _ h => by cases h) d_S_kind_28
  · have hreg : ¬ (0 ≤ r ∧ r ≤ 15) := fun h => absurd (eq1.symm.trans c1) (by rw [if_pos h]; decide)
    refine lv_iconst (v := (-1)) hx hb d_S_kind_7 (by decide) ?_
    exact W.iret (v := (-1)) hx hb hr (fun t ht hW => ⟨_, rfl, by unfold p_kind; rw [if_neg hreg], ht⟩) (fun _ h => by cases h) d_S_kind_8
set_option maxHeartbeats 4000000 in
set_option maxRecDepth 100000 in
theorem k_S_value (l : Launch) (hR : c_Rep w n rd md cV cT σ x ra rt ad fa ρ fr rr rf rc wl el cr G) (hI : s_I σ) (ht0 : tys[0]? = some (cV, .object "StackRoom$Value")) (r : Int32) : Met l y_S_value w_S_value ({ frames := 2, cells := 0, slots := 0, locals := 42 }) (g_pre D tys G sz [.ref x, .int r]) (vp_Si (fun rz => rz = p_value σ r)) 0 0 (fun _ => False) := by
  refine Met.ofW (cc := b_S_value) (maxL := 3) (ret := (some .int)) (by decide) rfl ?_
  intro p e s m args below meth c s₁ B hml hv
  obtain ⟨rfl, hsz, hP, hK⟩ := hv
  have hx := B.exec
  have hb := B.bytes
  have hr := B.returns
  have ht := fun w (hw : w ∈ gt) => atoms_spec (ws := w_S_value) B.pre w (List.mem_cons_of_mem _ hw)
  have hown : s.vm.findClass "StackRoom" = some m.cls := findClass_of_methodNamed B.named
  have hlocks := B.notSynchronized
  have C0 : CallFix p m c b_S_value 3 s [.ref x, .int r].toArray gt "StackRoom" := ⟨hx, hb, hml, hown, ht⟩
  have hl := lv_entry ([.ref x, .int r]) (n := 3) (Nat.le_of_ble_eq_true rfl)
  rw [lg_entry_eq]
  generalize (lg_sl ([.ref x, .int r]) ++ List.replicate (3 - (lg_sl ([.ref x, .int r])).length) Slot.unset).toArray = ls at hl ⊢
  have hl : lv_has ls 3 [(0, .ref x), (1, .int r)] := hl
  refine lv_iload_n hx hb d_S_value_0 rfl (lv_at hl 1 rfl) ?_
  refine vp_callSi (va_Run.run (r_S (rest := []) C0 [.int r] (k_S_isRegister l r) ml_S_S_isRegister st_S_isRegister ini_S co_S_isRegister hd_S_isRegister v_preS hl.1 d_S_value_1 rfl rfl (Nat.le_of_ble_eq_true rfl) ⟨rfl, rfl⟩ ⟨Nat.le_of_ble_eq_true rfl, Nat.le_of_ble_eq_true rfl⟩ ⟨Nat.le_of_ble_eq_true rfl, Nat.le_of_ble_eq_true rfl⟩)) (fun q1 eq1 => ?_)
  refine lv_if_ne (tgt := 9) hx hb d_S_value_4 (by decide) (fun c1 => ?_) (fun c1 => ?_)
  · have hreg : 0 ≤ r ∧ r ≤ 15 := Decidable.byContradiction (fun h => c1 (eq1.trans (if_neg h)))
    refine lv_aload_n hx hb d_S_value_9 rfl (lv_at hl 0 rfl) ?_
    refine va_get (D := D) (ci := 0) (C := "StackRoom") (T := T_S) (N := 10) (v := .ref ra) hx hb ht in_S hown hK.1 (hP.one hR.1) 0 rfl rfl 2 (by decide) (ht _ fl_S_S_registers) (fun _ h9 => h9) rfl d_S_value_10 ?_
    refine lv_iload_n hx hb d_S_value_13 rfl (lv_at hl 1 rfl) ?_
    refine va_aldq (C := "StackRoom$Value") hx hb hK.1 (hP.one hR.2.1) 0 0 rfl ht0 (s_rin hreg) d_S_value_14 ?_
    have hv := hR.2.2.2.2.1 r.toNatClampNeg (s_reg hreg)
    rcases hq : s_rg σ r.toNatClampNeg with _ | (nv | j)
    · have hv : rr r.toNatClampNeg = none := by rw [hq] at hv; exact hv
      rw [hv]
      refine lv_astore_nN (lv' := [(2, .null), (0, .ref x), (1, .int r)]) hx hb d_S_value_15 rfl hl (by decide) rfl (fun ls hl => ?_)
      refine lv_aload_nN hx hb d_S_value_16 rfl (lv_at hl 0 rfl) ?_
      refine lv_ifnonnullN hx hb d_S_value_17 ?_
      refine lv_iconst (v := 0) hx hb d_S_value_20 (by decide) ?_
      refine lv_goto (tgt := 28) hx hb d_S_value_21 (by decide) ?_
      exact W.iret (v := 0) hx hb hr (fun t ht hW => ⟨_, rfl, by unfold p_value s_get; rw [if_pos hreg, hq], ht⟩) (fun _ h => by cases h) d_S_value_28
    · obtain ⟨a, h1, h2⟩ : ∃ a, rr r.toNatClampNeg = some a ∧ G a = some (.inr (kW, [.int nv])) := by rw [hq] at hv; exact hv
      rw [h1]
      refine lv_astore_n (lv' := [(2, .ref a), (0, .ref x), (1, .int r)]) hx hb d_S_value_15 rfl hl (by decide) rfl (fun ls hl => ?_)
      refine lv_aload_n hx hb d_S_value_16 rfl (lv_at hl 0 rfl) ?_
      refine lv_ifnonnull (tgt := 24) hx hb d_S_value_17 (by decide) ?_
      refine lv_aload_n hx hb d_S_value_24 rfl (lv_at hl 0 rfl) ?_
      refine vp_callSi (va_Run.run (r_A (owner := "StackRoom$Value") (n := 0) (rest := []) C0 [] (k_W_shown l h2) ml_S_V_shown sm_V_V_shown se_W_V_shown_W im_W_shown ini_W co_W_shown (hK.2.1 _ dc_V_shown) (by decide +kernel) (g_preV (ci := 1) hK hP rfl h2) hl.1 d_S_value_25 rfl rfl (Nat.le_of_ble_eq_true rfl) ⟨rfl, rfl⟩ ⟨Nat.le_of_ble_eq_true rfl, Nat.le_of_ble_eq_true rfl⟩ ⟨Nat.le_of_ble_eq_true rfl, Nat.le_of_ble_eq_true rfl⟩)) (fun q eq => ?_)
      exact W.iret (v := q) hx hb hr (fun t ht hW => ⟨_, rfl, (by rw [eq]; unfold p_value s_get; rw [if_pos hreg, hq]), ht⟩) (fun _ h => by cases h) d_S_value_28
    · have hv : rr r.toNatClampNeg = some (ad j) := by rw [hq] at hv; exact hv
      rw [hv]
      rcases (hI.2.1 j (hI.2.2.1 _ (s_reg hreg) j hq)).2.2 with hj | hj | hj
      · refine lv_astore_n (lv' := [(2, .ref (ad j)), (0, .ref x), (1, .int r)]) hx hb d_S_value_15 rfl hl (by decide) rfl (fun ls hl => ?_)
        refine lv_aload_n hx hb d_S_value_16 rfl (lv_at hl 0 rfl) ?_
        refine lv_ifnonnull (tgt := 24) hx hb d_S_value_17 (by decide) ?_
        refine lv_aload_n hx hb d_S_value_24 rfl (lv_at hl 0 rfl) ?_
        refine vp_callSi (va_Run.run (r_A (owner := "StackRoom$Value") (n := 0) (rest := []) C0 [] (k_T_shown l hR (i := j) (Or.inl hj)) ml_S_V_shown sm_V_V_shown se_M_V_shown_T im_T_shown ini_T co_T_shown (hK.2.1 _ dc_V_shown) (by decide +kernel) (g_preV (ci := 2) hK hP rfl (hR.c2 hj)) hl.1 d_S_value_25 rfl rfl (Nat.le_of_ble_eq_true rfl) ⟨rfl, rfl⟩ ⟨Nat.le_of_ble_eq_true rfl, Nat.le_of_ble_eq_true rfl⟩ ⟨Nat.le_of_ble_eq_true rfl, Nat.le_of_ble_eq_true rfl⟩)) (fun q eq => ?_)
        exact W.iret (v := q) hx hb hr (fun t ht hW => ⟨_, rfl, (by rw [eq]; unfold p_value s_get; rw [if_pos hreg, hq]), ht⟩) (fun _ h => by cases h) d_S_value_28
      · refine lv_astore_n (lv' := [(2, .ref (ad j)), (0, .ref x), (1, .int r)]) hx hb d_S_value_15 rfl hl (by decide) rfl (fun ls hl => ?_)
        refine lv_aload_n hx hb d_S_value_16 rfl (lv_at hl 0 rfl) ?_
        refine lv_ifnonnull (tgt := 24) hx hb d_S_value_17 (by decide) ?_
        refine lv_aload_n hx hb d_S_value_24 rfl (lv_at hl 0 rfl) ?_
        refine vp_callSi (va_Run.run (r_A (owner := "StackRoom$Value") (n := 0) (rest := []) C0 [] (k_T_shown l hR (i := j) (Or.inr (Or.inl hj))) ml_S_V_shown sm_V_V_shown se_X_V_shown_T im_T_shown ini_T co_T_shown (hK.2.1 _ dc_V_shown) (by decide +kernel) (g_preV (ci := 3) hK hP rfl (hR.c3 hj)) hl.1 d_S_value_25 rfl rfl (Nat.le_of_ble_eq_true rfl) ⟨rfl, rfl⟩ ⟨Nat.le_of_ble_eq_true rfl, Nat.le_of_ble_eq_true rfl⟩ ⟨Nat.le_of_ble_eq_true rfl, Nat.le_of_ble_eq_true rfl⟩)) (fun q eq => ?_)
        exact W.iret (v := q) hx hb hr (fun t ht hW => ⟨_, rfl, (by rw [eq]; unfold p_value s_get; rw [if_pos hreg, hq]), ht⟩) (fun _ h => by cases h) d_S_value_28
      · refine lv_astore_n (lv' := [(2, .ref (ad j)), (0, .ref x), (1, .int r)]) hx hb d_S_value_15 rfl hl (by decide) rfl (fun ls hl => ?_)
        refine lv_aload_n hx hb d_S_value_16 rfl (lv_at hl 0 rfl) ?_
        refine lv_ifnonnull (tgt := 24) hx hb d_S_value_17 (by decide) ?_
        refine lv_aload_n hx hb d_S_value_24 rfl (lv_at hl 0 rfl) ?_
        refine vp_callSi (va_Run.run (r_A (owner := "StackRoom$Value") (n := 0) (rest := []) C0 [] (k_T_shown l hR (i := j) (Or.inr (Or.inr hj))) ml_S_V_shown sm_V_V_shown se_B_V_shown_T im_T_shown ini_T co_T_shown (hK.2.1 _ dc_V_shown) (by decide +kernel) (g_preV (ci := 4) hK hP rfl (hR.c4 hj)) hl.1 d_S_value_25 rfl rfl (Nat.le_of_ble_eq_true rfl) ⟨rfl, rfl⟩ ⟨Nat.le_of_ble_eq_true rfl, Nat.le_of_ble_eq_true rfl⟩ ⟨Nat.le_of_ble_eq_true rfl, Nat.le_of_ble_eq_true rfl⟩)) (fun q eq => ?_)
        exact W.iret (v := q) hx hb hr (fun t ht hW => ⟨_, rfl, (by rw [eq]; unfold p_value s_get; rw [if_pos hreg, hq]), ht⟩) (fun _ h => by cases h) d_S_value_28
  · have hreg : ¬ (0 ≤ r ∧ r ≤ 15) := fun h => absurd (eq1.symm.trans c1) (by rw [if_pos h]; decide)
    refine lv_iconst (v := 0) hx hb d_S_value_7 (by decide) ?_
    exact W.iret (v := 0) hx hb hr (fun t ht hW => ⟨_, rfl, by unfold p_value; rw [if_neg hreg], ht⟩) (fun _ h => by cases h) d_S_value_8
end K14
