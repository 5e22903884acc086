section GWB
variable {p : Program} {l : Launch} {e : Env} {R : Room} {s : State} {m : MethodId} {args : Array Value} {below : List Frame} {meth : Method} {c : Code} {H : Heap} {locs : List Loc} {cells slots : Nat} {Q : State → Prop}
variable {cc : ByteArray} {pc : Nat} {ls : Array Slot} {rest : List Value} {D : va_G} {cl : List vw_C} {A : Nat → Prop} {a : Nat} {tys : List (ClassId × FieldType)} {G : gw_G} {H0 : Heap}
theorem gw_bast (hexec : p.tables.exec = Jvm.exec) (hb : c.code = cc) (hK : va_K D cl tys s) (hP : gw_P D cl A G H) (hS : va_S A H0 H locs) (t0 : Nat) {cA : ClassId} {n : Nat} {f : Nat → Int32} (ha : G a = some (.inl (cA, n, .inl f))) (ht : tys[t0]? = some (cA, .byte)) {i : Int32} {x : Int32} (hin : vp_in i n) (hdg : decode cc pc = .ok (.bastore, 1))
    (kk : ∀ (H1 : Heap) (locs1 : List Loc), gw_P D cl A (va_up G a (some (.inl (cA, n, .inl (upd f i.toNatClampNeg (vp_nar .byte x)))))) H1 → va_S A H0 H1 locs1 → W p l e R s m args below meth c H1 locs1 cells slots Q (F0 m (pc + 1) ls rest)) : W p l e R s m args below meth c H locs cells slots Q (F0 m pc ls (.int x :: .int i :: .ref a :: rest)) := by
  obtain ⟨ws, hP, hD, hw⟩ := hP
  obtain ⟨q0, hq0⟩ := List.getElem?_of_mem ((hw a _).mp ha)
  exact va_bast hexec hb hK hP hD hS q0 t0 hq0 ht hin hdg (fun H1 locs1 hP1 hD1 hS1 => kk H1 locs1 ⟨_, hP1, hD1, gw_set hD hw hq0⟩ hS1)
theorem gw_zast (hexec : p.tables.exec = Jvm.exec) (hb : c.code = cc) (hK : va_K D cl tys s) (hP : gw_P D cl A G H) (hS : va_S A H0 H locs) (t0 : Nat) {cA : ClassId} {n : Nat} {f : Nat → Int32} (ha : G a = some (.inl (cA, n, .inl f))) (ht : tys[t0]? = some (cA, .boolean)) {i : Int32} {x : Int32} (hin : vp_in i n) (hdg : decode cc pc = .ok (.bastore, 1))
    (kk : ∀ (H1 : Heap) (locs1 : List Loc), gw_P D cl A (va_up G a (some (.inl (cA, n, .inl (upd f i.toNatClampNeg (vp_nar .boolean x)))))) H1 → va_S A H0 H1 locs1 → W p l e R s m args below meth c H1 locs1 cells slots Q (F0 m (pc + 1) ls rest)) : W p l e R s m args below meth c H locs cells slots Q (F0 m pc ls (.int x :: .int i :: .ref a :: rest)) := by
  obtain ⟨ws, hP, hD, hw⟩ := hP
  obtain ⟨q0, hq0⟩ := List.getElem?_of_mem ((hw a _).mp ha)
  exact va_zast hexec hb hK hP hD hS q0 t0 hq0 ht hin hdg (fun H1 locs1 hP1 hD1 hS1 => kk H1 locs1 ⟨_, hP1, hD1, gw_set hD hw hq0⟩ hS1)
end GWB
theorem z_1 : vp_nar .boolean 1 = 1 := by decide
theorem z_0 : vp_nar .boolean 0 = 0 := by decide
theorem m_nz {v : Int32} (h : -1073741824 ≤ v ∧ v ≤ 1073741823) : ¬ 2 * v + 1 = 0 := fun e => by
  have := m_num h
  rw [e] at this
  have e5 : (0 : Int32).toInt = 0 := rfl
  omega
section K32
variable {cI cB cZ : ClassId} {x w n md : Nat} {adr : Nat → Nat} {us r0 r1 r2 r3 : Int32} {ar : Nat → Nat → Int32} {G : gw_G} {σ : sS} {sl bg : Nat → Nat} {U : Nat} {D : va_G} {tys : List (ClassId × FieldType)} {sz : Nat}
set_option maxHeartbeats 4000000 in
set_option maxRecDepth 100000 in
theorem k_R_isNilOrContext (l : Launch) (hM : m_Arr cI cB cZ x w n md adr us r0 r1 r2 r3 ar G) (hE : m_Sem (s_rch σ) σ sl bg U ar) (hI : s_I σ) (hV : s_NV σ) (ht2 : tys[2]? = some (cI, .int)) (ht3 : tys[3]? = some (cB, .byte)) (ht4 : tys[4]? = some (cZ, .boolean)) (r : Int32) : Met l y_R_isNilOrContext w_R_isNilOrContext ({ frames := 3, cells := 0, slots := 0, locals := 65 }) (g_pre D tys G sz [.ref x, .int r]) (vp_Si (fun rz => rz = if (s_si σ r).isSome = true then 1 else 0)) 0 0 (fun _ => False) := by
  refine Met.ofW (cc := b_R_isNilOrContext) (maxL := 2) (ret := (some .boolean)) (by decide) rfl ?_
  intro p e s m args below meth c s₁ B hml hv
  obtain ⟨rfl, hsz, hP, hK⟩ := hv
  have hx := B.exec
  have hb := B.bytes
  have hr := B.returns
  have ht := fun w (hw : w ∈ gt) => atoms_spec (ws := w_R_isNilOrContext) B.pre w (List.mem_cons_of_mem _ hw)
  have hown : s.vm.findClass "StackRoomModel" = some m.cls := findClass_of_methodNamed B.named
  have hlocks := B.notSynchronized
  have C0 : CallFix p m c b_R_isNilOrContext 2 s [.ref x, .int r].toArray gt "StackRoomModel" := ⟨hx, hb, hml, hown, ht⟩
  have hl := lv_entry ([.ref x, .int r]) (n := 2) (Nat.le_of_ble_eq_true rfl)
  rw [lg_entry_eq]
  generalize (lg_sl ([.ref x, .int r]) ++ List.replicate (2 - (lg_sl ([.ref x, .int r])).length) Slot.unset).toArray = ls at hl ⊢
  have hl : lv_has ls 2 [(0, .ref x), (1, .int r)] := hl
  refine lv_iload_n hx hb d_R_isNilOrContext_0 rfl (lv_at hl 1 rfl) ?_
  refine vp_callSi (va_Run.run (r_S (rest := []) C0 [.int r] (k_R_isRegister l r) ml_R_R_isRegister st_R_isRegister ini_R co_R_isRegister hd_R_isRegister v_preS hl.1 d_R_isNilOrContext_1 rfl rfl (Nat.le_of_ble_eq_true rfl) ⟨rfl, rfl⟩ ⟨Nat.le_of_ble_eq_true rfl, Nat.le_of_ble_eq_true rfl⟩ ⟨Nat.le_of_ble_eq_true rfl, Nat.le_of_ble_eq_true rfl⟩)) (fun q1 eq1 => ?_)
  refine lv_if_eq (tgt := 28) hx hb d_R_isNilOrContext_4 (by decide) (fun c1 => ?_) (fun c1 => ?_)
  · have hreg : ¬ (0 ≤ r ∧ r ≤ 15) := fun h => absurd (eq1.symm.trans c1) (by rw [if_pos h]; decide)
    refine lv_iconst (v := 0) hx hb d_R_isNilOrContext_28 (by decide) ?_
    exact W.zret (v := 0) hx hb hr rfl (fun t ht hW => ⟨_, rfl, by rw [s_si_no hreg]; rfl, ht⟩) (fun _ h => by cases h) d_R_isNilOrContext_29
  · have hreg : 0 ≤ r ∧ r ≤ 15 := Decidable.byContradiction (fun h => c1 (eq1.trans (if_neg h)))
    have hv := hE.1 _ (s_reg hreg)
    refine lv_aload_n hx hb d_R_isNilOrContext_7 rfl (lv_at hl 0 rfl) ?_
    refine va_get (D := D) (ci := 5) (C := "StackRoomModel") (T := T_R) (N := 25) (v := .ref (adr 3)) hx hb ht in_R hown hK.1 (hP.one hM.1) 0 rfl rfl 3 (by decide) (ht _ fl_R_R_registers) (fun _ h9 => h9) rfl d_R_isNilOrContext_8 ?_
    refine lv_iload_n hx hb d_R_isNilOrContext_11 rfl (lv_at hl 1 rfl) ?_
    refine va_iald hx hb hK.1 (hP.one hM.a3) 0 2 rfl ht2 (m_rin hreg) d_R_isNilOrContext_12 ?_
    rw [hv]
    rcases hq : s_rg σ r.toNatClampNeg with _ | (nv | j)
    · refine W.eq (g2 := F0 m 13 ls [.int 0]) rfl ?_
      refine lv_if_eq (tgt := 24) hx hb d_R_isNilOrContext_13 (by decide) (fun _ => ?_) (fun h => absurd h (by decide))
      refine lv_iconst (v := 1) hx hb d_R_isNilOrContext_24 (by decide) ?_
      refine lv_goto (tgt := 29) hx hb d_R_isNilOrContext_25 (by decide) ?_
      exact W.zret (v := 1) hx hb hr rfl (fun t ht hW => ⟨_, rfl, by rw [s_si_nil hreg hq]; rfl, ht⟩) (fun _ h => by cases h) d_R_isNilOrContext_29
    · refine W.eq (g2 := F0 m 13 ls [.int (2 * nv + 1)]) rfl ?_
      refine lv_if_eq (tgt := 24) hx hb d_R_isNilOrContext_13 (by decide) (fun z => absurd z (m_nz (hV.1 _ (s_reg hreg) nv hq))) (fun _ => ?_)
      refine lv_aload_n hx hb d_R_isNilOrContext_16 rfl (lv_at hl 0 rfl) ?_
      refine lv_iload_n hx hb d_R_isNilOrContext_17 rfl (lv_at hl 1 rfl) ?_
      refine vp_callSi (va_Run.run (r_V (rest := []) C0 [.int r] (k_R_contextIn l hM hE hI hV ht2 ht3 ht4 r) ml_R_R_contextIn im_R_contextIn se_R_R_contextIn_R ini_R co_R_contextIn ⟨rfl, hd_R_contextIn⟩ (g_preV (ci := 5) hK hP rfl hM.1) hl.1 d_R_isNilOrContext_18 rfl rfl (Nat.le_of_ble_eq_true rfl) ⟨rfl, rfl⟩ ⟨Nat.le_of_ble_eq_true rfl, Nat.le_of_ble_eq_true rfl⟩ ⟨Nat.le_of_ble_eq_true rfl, Nat.le_of_ble_eq_true rfl⟩)) (fun qc ec => ?_)
      rw [s_ci_num hq] at ec
      subst ec
      refine lv_if_lt (tgt := 28) hx hb d_R_isNilOrContext_21 (by decide) (fun _ => ?_) (fun z => absurd (show (-1 : Int32) < 0 by decide) z)
      refine lv_iconst (v := 0) hx hb d_R_isNilOrContext_28 (by decide) ?_
      exact W.zret (v := 0) hx hb hr rfl (fun t ht hW => ⟨_, rfl, by rw [s_si_num hq]; rfl, ht⟩) (fun _ h => by cases h) d_R_isNilOrContext_29
    · have hrj := s_rch_root (s_reg hreg) hq
      obtain ⟨hsl, hkj, hij⟩ := hE.2.1 j hrj
      rcases (hI.2.1 j (hI.2.2.1 _ (s_reg hreg) j hq)).2.2 with hj | hj | hj
      · refine W.eq (g2 := F0 m 13 ls [.int (nI (2 * sl j + 2))]) rfl ?_
        refine lv_if_eq (tgt := 24) hx hb d_R_isNilOrContext_13 (by decide) (fun z => absurd z ((m_ob_obj hsl).1)) (fun _ => ?_)
        refine lv_aload_n hx hb d_R_isNilOrContext_16 rfl (lv_at hl 0 rfl) ?_
        refine lv_iload_n hx hb d_R_isNilOrContext_17 rfl (lv_at hl 1 rfl) ?_
        refine vp_callSi (va_Run.run (r_V (rest := []) C0 [.int r] (k_R_contextIn l hM hE hI hV ht2 ht3 ht4 r) ml_R_R_contextIn im_R_contextIn se_R_R_contextIn_R ini_R co_R_contextIn ⟨rfl, hd_R_contextIn⟩ (g_preV (ci := 5) hK hP rfl hM.1) hl.1 d_R_isNilOrContext_18 rfl rfl (Nat.le_of_ble_eq_true rfl) ⟨rfl, rfl⟩ ⟨Nat.le_of_ble_eq_true rfl, Nat.le_of_ble_eq_true rfl⟩ ⟨Nat.le_of_ble_eq_true rfl, Nat.le_of_ble_eq_true rfl⟩)) (fun qc ec => ?_)
        rw [s_ci_m hq hj] at ec
        subst ec
        refine lv_if_lt (tgt := 28) hx hb d_R_isNilOrContext_21 (by decide) (fun _ => ?_) (fun z => absurd (show (-1 : Int32) < 0 by decide) z)
        refine lv_iconst (v := 0) hx hb d_R_isNilOrContext_28 (by decide) ?_
        exact W.zret (v := 0) hx hb hr rfl (fun t ht hW => ⟨_, rfl, by rw [s_si_m hq hj]; rfl, ht⟩) (fun _ h => by cases h) d_R_isNilOrContext_29
      · refine W.eq (g2 := F0 m 13 ls [.int (nI (2 * sl j + 2))]) rfl ?_
        refine lv_if_eq (tgt := 24) hx hb d_R_isNilOrContext_13 (by decide) (fun z => absurd z ((m_ob_obj hsl).1)) (fun _ => ?_)
        refine lv_aload_n hx hb d_R_isNilOrContext_16 rfl (lv_at hl 0 rfl) ?_
        refine lv_iload_n hx hb d_R_isNilOrContext_17 rfl (lv_at hl 1 rfl) ?_
        refine vp_callSi (va_Run.run (r_V (rest := []) C0 [.int r] (k_R_contextIn l hM hE hI hV ht2 ht3 ht4 r) ml_R_R_contextIn im_R_contextIn se_R_R_contextIn_R ini_R co_R_contextIn ⟨rfl, hd_R_contextIn⟩ (g_preV (ci := 5) hK hP rfl hM.1) hl.1 d_R_isNilOrContext_18 rfl rfl (Nat.le_of_ble_eq_true rfl) ⟨rfl, rfl⟩ ⟨Nat.le_of_ble_eq_true rfl, Nat.le_of_ble_eq_true rfl⟩ ⟨Nat.le_of_ble_eq_true rfl, Nat.le_of_ble_eq_true rfl⟩)) (fun qc ec => ?_)
        rw [s_ci_c hreg hq (Or.inl hj)] at ec
        subst ec
        refine lv_if_lt (tgt := 28) hx hb d_R_isNilOrContext_21 (by decide) (fun z => absurd z (nI_pos (by omega))) (fun _ => ?_)
        refine lv_iconst (v := 1) hx hb d_R_isNilOrContext_24 (by decide) ?_
        refine lv_goto (tgt := 29) hx hb d_R_isNilOrContext_25 (by decide) ?_
        exact W.zret (v := 1) hx hb hr rfl (fun t ht hW => ⟨_, rfl, by rw [s_si_c hreg hq (Or.inl hj)]; rfl, ht⟩) (fun _ h => by cases h) d_R_isNilOrContext_29
      · refine W.eq (g2 := F0 m 13 ls [.int (nI (2 * sl j + 2))]) rfl ?_
        refine lv_if_eq (tgt := 24) hx hb d_R_isNilOrContext_13 (by decide) (fun z => absurd z ((m_ob_obj hsl).1)) (fun _ => ?_)
        refine lv_aload_n hx hb d_R_isNilOrContext_16 rfl (lv_at hl 0 rfl) ?_
        refine lv_iload_n hx hb d_R_isNilOrContext_17 rfl (lv_at hl 1 rfl) ?_
        refine vp_callSi (va_Run.run (r_V (rest := []) C0 [.int r] (k_R_contextIn l hM hE hI hV ht2 ht3 ht4 r) ml_R_R_contextIn im_R_contextIn se_R_R_contextIn_R ini_R co_R_contextIn ⟨rfl, hd_R_contextIn⟩ (g_preV (ci := 5) hK hP rfl hM.1) hl.1 d_R_isNilOrContext_18 rfl rfl (Nat.le_of_ble_eq_true rfl) ⟨rfl, rfl⟩ ⟨Nat.le_of_ble_eq_true rfl, Nat.le_of_ble_eq_true rfl⟩ ⟨Nat.le_of_ble_eq_true rfl, Nat.le_of_ble_eq_true rfl⟩)) (fun qc ec => ?_)
        rw [s_ci_c hreg hq (Or.inr hj)] at ec
        subst ec
        refine lv_if_lt (tgt := 28) hx hb d_R_isNilOrContext_21 (by decide) (fun z => absurd z (nI_pos (by omega))) (fun _ => ?_)
        refine lv_iconst (v := 1) hx hb d_R_isNilOrContext_24 (by decide) ?_
        refine lv_goto (tgt := 29) hx hb d_R_isNilOrContext_25 (by decide) ?_
        exact W.zret (v := 1) hx hb hr rfl (fun t ht hW => ⟨_, rfl, by rw [s_si_c hreg hq (Or.inr hj)]; rfl, ht⟩) (fun _ h => by cases h) d_R_isNilOrContext_29
/-- in the middle of a look: L has been seen -/
def m_Q (sl : Nat → Nat) (L : List Nat) (ar : Nat → Nat → Int32) : Prop := (∀ i, i ∈ L → ar 19 (sl i) = 1) ∧ (∀ o, o < 4096 → (∀ i, i ∈ L → sl i ≠ o) → ar 19 o = 0) ∧ (∀ k i, L[k]? = some i → ar 20 k = nI (sl i))
theorem m_Q.add {sl : Nat → Nat} {L : List Nat} {ar : Nat → Nat → Int32} {i : Nat} (h : m_Q sl L ar) : m_Q sl (L ++ [i]) (va_up (va_up ar 19 (upd (ar 19) (sl i) 1)) 20 (upd (ar 20) L.length (nI (sl i)))) := by
  obtain ⟨h1, h2, h3⟩ := h
  refine ⟨fun j hj => ?_, fun o ho hn => ?_, fun k j hk => ?_⟩
  · show upd (ar 19) (sl i) 1 (sl j) = 1
    by_cases e : sl j = sl i
    · rw [e, upd_self]
    · rw [upd_ne _ _ e]
      rcases List.mem_append.mp hj with z | z
      · exact h1 j z
      · exact absurd (by rw [List.mem_singleton.mp z]) e
  · show upd (ar 19) (sl i) 1 o = 0
    rw [upd_ne _ _ (Ne.symm (hn i (List.mem_append_right _ List.mem_cons_self)))]
    exact h2 o ho (fun j hj => hn j (List.mem_append_left _ hj))
  · show upd (ar 20) L.length (nI (sl i)) k = nI (sl j)
    by_cases e : k = L.length
    · subst e
      rw [List.getElem?_append_right (Nat.le_refl _), Nat.sub_self] at hk
      cases hk
      rw [upd_self]
    · rw [upd_ne _ _ e]
      have hl : k < L.length := by
        have := (List.getElem?_eq_some_iff.mp hk).1
        rw [List.length_append, List.length_singleton] at this
        omega
      rw [List.getElem?_append_left hl] at hk
      exact h3 k j hk
variable {L : List Nat}
set_option maxHeartbeats 4000000 in
set_option maxRecDepth 100000 in
theorem k_R_see (l : Launch) (hM : m_Arr cI cB cZ x w n md adr us (nI L.length) r1 r2 r3 ar G) (hQ : m_Q sl L ar) (hp : s_part σ L) (hO : s_OK w n σ) (hn4 : n ≤ 4096) (hsl : ∀ i, s_rch σ i → sl i < 4096) (hinj : ∀ i j, s_rch σ i → s_rch σ j → sl i = sl j → i = j) (ht2 : tys[2]? = some (cI, .int)) (ht3 : tys[3]? = some (cB, .byte)) (ht4 : tys[4]? = some (cZ, .boolean)) {u : sV} (hv : ∀ i, u = some (.inr i) → s_rch σ i) (hu : ∀ a, u = some (.inl a) → -1073741824 ≤ a ∧ a ≤ 1073741823) : Met l y_R_see w_R_see ({ frames := 1, cells := 0, slots := 0, locals := 20 }) (g_pre D tys G sz [.ref x, .int (m_val sl u)]) (va_Qv (fun G1 : gw_G => ∃ ar2, m_Arr cI cB cZ x w n md adr us (nI (s_add L u).length) r1 r2 r3 ar2 G1 ∧ m_Q sl (s_add L u) ar2 ∧ ∀ k, k ≠ 19 → k ≠ 20 → ar2 k = ar k) (g_end D G sz) (gw_A G sz)) 0 0 (gw_A G sz) := by
  refine Met.ofW (cc := b_R_see) (maxL := 2) (ret := none) (by decide) rfl ?_
  intro p e s m args below meth c s₁ B hml hv
  obtain ⟨rfl, hsz, hP, hK⟩ := hv
  have hx := B.exec
  have hb := B.bytes
  have hr := B.returns
  have ht := fun w (hw : w ∈ gt) => atoms_spec (ws := w_R_see) B.pre w (List.mem_cons_of_mem _ hw)
  have hown : s.vm.findClass "StackRoomModel" = some m.cls := findClass_of_methodNamed B.named
  have hlocks := B.notSynchronized
  have C0 : CallFix p m c b_R_see 2 s [.ref x, .int (m_val sl u)].toArray gt "StackRoomModel" := ⟨hx, hb, hml, hown, ht⟩
  subst hsz
  have hP := hP.self (sz := s.heap.size)
  have hA : ∀ q : Nat, s.heap.size ≤ q → gw_A G s.heap.size q := fun q h => Or.inr h
  have hS : va_S (gw_A G s.heap.size) s.heap s.heap [] := va_S.rf
  have hl := lv_entry ([.ref x, .int (m_val sl u)]) (n := 2) (Nat.le_of_ble_eq_true rfl)
  rw [lg_entry_eq]
  generalize (lg_sl ([.ref x, .int (m_val sl u)]) ++ List.replicate (2 - (lg_sl ([.ref x, .int (m_val sl u)])).length) Slot.unset).toArray = ls at hl ⊢
  have hl : lv_has ls 2 [(0, .ref x), (1, .int (m_val sl u))] := hl
  rcases u with _ | (nv | i)
  · refine lv_iload_n hx hb d_R_see_0 rfl (lv_at hl 1 rfl) ?_
    refine W.eq (g2 := F0 m 1 ls [.int (0)]) rfl ?_
    refine vp_callSi (va_Run.run (r_S (rest := []) C0 [.int (0)] (k_R_isObject l (0)) ml_R_R_isObject st_R_isObject ini_R co_R_isObject hd_R_isObject v_preS hl.1 d_R_see_1 rfl rfl (Nat.le_of_ble_eq_true rfl) ⟨rfl, rfl⟩ ⟨Nat.le_of_ble_eq_true rfl, Nat.le_of_ble_eq_true rfl⟩ ⟨Nat.le_of_ble_eq_true rfl, Nat.le_of_ble_eq_true rfl⟩)) (fun qo eo => ?_)
    rw [if_neg (fun z => z.1 rfl)] at eo
    subst eo
    refine lv_if_eq (tgt := 55) hx hb d_R_see_4 (by decide) (fun _ => ?_) (fun h => absurd h (by decide))
    exact W.vret hx hb hr (fun t ht hW => ⟨⟨G, rfl, ⟨ar, hM, hQ, fun k _ _ => rfl⟩, g_fin ht hP⟩, hS.F ht⟩) hS.2.2 d_R_see_55
  · refine lv_iload_n hx hb d_R_see_0 rfl (lv_at hl 1 rfl) ?_
    refine W.eq (g2 := F0 m 1 ls [.int (2 * nv + 1)]) rfl ?_
    refine vp_callSi (va_Run.run (r_S (rest := []) C0 [.int (2 * nv + 1)] (k_R_isObject l (2 * nv + 1)) ml_R_R_isObject st_R_isObject ini_R co_R_isObject hd_R_isObject v_preS hl.1 d_R_see_1 rfl rfl (Nat.le_of_ble_eq_true rfl) ⟨rfl, rfl⟩ ⟨Nat.le_of_ble_eq_true rfl, Nat.le_of_ble_eq_true rfl⟩ ⟨Nat.le_of_ble_eq_true rfl, Nat.le_of_ble_eq_true rfl⟩)) (fun qo eo => ?_)
    rw [if_neg (m_ob_num (hu nv rfl))] at eo
    subst eo
    refine lv_if_eq (tgt := 55) hx hb d_R_see_4 (by decide) (fun _ => ?_) (fun h => absurd h (by decide))
    exact W.vret hx hb hr (fun t ht hW => ⟨⟨G, rfl, ⟨ar, hM, hQ, fun k _ _ => rfl⟩, g_fin ht hP⟩, hS.F ht⟩) hS.2.2 d_R_see_55
  · have hri := hv i rfl
    have hs := hsl i hri
    have hle := s_part_len hp hO
    have hl : lv_has ls 2 [(0, .ref x), (1, .int (nI (2 * sl i + 2)))] := hl
    refine lv_iload_n hx hb d_R_see_0 rfl (lv_at hl 1 rfl) ?_
    refine vp_callSi (va_Run.run (r_S (rest := []) C0 [.int (nI (2 * sl i + 2))] (k_R_isObject l (nI (2 * sl i + 2))) ml_R_R_isObject st_R_isObject ini_R co_R_isObject hd_R_isObject v_preS hl.1 d_R_see_1 rfl rfl (Nat.le_of_ble_eq_true rfl) ⟨rfl, rfl⟩ ⟨Nat.le_of_ble_eq_true rfl, Nat.le_of_ble_eq_true rfl⟩ ⟨Nat.le_of_ble_eq_true rfl, Nat.le_of_ble_eq_true rfl⟩)) (fun qo eo => ?_)
    rw [if_pos (m_ob_obj hs)] at eo
    subst eo
    refine lv_if_eq (tgt := 55) hx hb d_R_see_4 (by decide) (fun h => absurd h (by decide)) (fun _ => ?_)
    refine lv_aload_n hx hb d_R_see_7 rfl (lv_at hl 0 rfl) ?_
    refine va_get (D := D) (ci := 5) (C := "StackRoomModel") (T := T_R) (N := 25) (v := .ref (adr 19)) hx hb ht in_R hown hK.1 (hP.one hM.1) 0 rfl rfl 19 (by decide) (ht _ fl_R_R_seen) (fun _ h9 => h9) rfl d_R_see_8 ?_
    refine lv_iload_n hx hb d_R_see_11 rfl (lv_at hl 1 rfl) ?_
    refine lv_iconst (v := 2) hx hb d_R_see_12 (by decide) ?_
    refine lv_idiv hx hb d_R_see_13 (by decide) ?_
    refine lv_iconst (v := 1) hx hb d_R_see_14 (by decide) ?_
    refine lv_isub hx hb d_R_see_15 ?_
    refine W.eq (g2 := F0 m 16 ls [.int (nI (sl i)), .ref (adr 19)]) (by rw [m_slot hs]) ?_
    refine va_zald hx hb hK.1 (hP.one hM.a19) 0 4 rfl ht4 (vp_in_nI hs (by decide)) d_R_see_16 ?_
    rw [nI_clamp (by omega)]
    by_cases hin : i ∈ L
    · rw [hQ.1 i hin]
      refine lv_if_ne (tgt := 55) hx hb d_R_see_17 (by decide) (fun _ => ?_) (fun h => absurd h (by decide))
      exact W.vret hx hb hr (fun t ht hW => ⟨⟨G, rfl, (by rw [s_add_y hin]; exact ⟨ar, hM, hQ, fun k _ _ => rfl⟩), g_fin ht hP⟩, hS.F ht⟩) hS.2.2 d_R_see_55
    · rw [hQ.2.1 (sl i) hs (fun j hj z => hin (hinj j i (hp.2 j hj) hri z ▸ hj))]
      refine lv_if_ne (tgt := 55) hx hb d_R_see_17 (by decide) (fun h => absurd h (by decide)) (fun _ => ?_)
      refine lv_aload_n hx hb d_R_see_20 rfl (lv_at hl 0 rfl) ?_
      refine va_get (D := D) (ci := 5) (C := "StackRoomModel") (T := T_R) (N := 25) (v := .ref (adr 19)) hx hb ht in_R hown hK.1 (hP.one hM.1) 0 rfl rfl 19 (by decide) (ht _ fl_R_R_seen) (fun _ h9 => h9) rfl d_R_see_21 ?_
      refine lv_iload_n hx hb d_R_see_24 rfl (lv_at hl 1 rfl) ?_
      refine lv_iconst (v := 2) hx hb d_R_see_25 (by decide) ?_
      refine lv_idiv hx hb d_R_see_26 (by decide) ?_
      refine lv_iconst (v := 1) hx hb d_R_see_27 (by decide) ?_
      refine lv_isub hx hb d_R_see_28 ?_
      refine lv_iconst (v := 1) hx hb d_R_see_29 (by decide) ?_
      refine W.eq (g2 := F0 m 30 ls [.int 1, .int (nI (sl i)), .ref (adr 19)]) (by rw [m_slot hs]) ?_
      refine gw_zast hx hb hK.1 hP hS 4 hM.a19 ht4 (vp_in_nI hs (by decide)) d_R_see_30 (fun H locs hP hS => ?_)
      rw [nI_clamp (by omega), z_1] at hP
      obtain ⟨G1, eG1⟩ : ∃ z : gw_G, z = va_up G (adr 19) (some (.inl (cZ, 4096, .inl (upd (ar 19) (sl i) (1))))) := ⟨_, rfl⟩
      replace hP : gw_P D vwCl (gw_A G s.heap.size) G1 H := by rw [eG1]; exact hP
      obtain ⟨ar1, ear1⟩ : ∃ z : Nat → Nat → Int32, z = va_up ar 19 (upd (ar 19) (sl i) (1)) := ⟨_, rfl⟩
      have hM1 : m_Arr cI cB cZ x w n md adr (us) (nI L.length) (r1) (r2) (r3) ar1 G1 := by rw [eG1, ear1]; exact hM.put (k := 19) (by decide) _
      refine lv_aload_n hx hb d_R_see_31 rfl (lv_at hl 0 rfl) ?_
      refine va_get (D := D) (ci := 5) (C := "StackRoomModel") (T := T_R) (N := 25) (v := .ref (adr 20)) hx hb ht in_R hown hK.1 (hP.one hM1.1) 0 rfl rfl 20 (by decide) (ht _ fl_R_R_todo) (fun _ h9 => h9) rfl d_R_see_32 ?_
      refine lv_aload_n hx hb d_R_see_35 rfl (lv_at hl 0 rfl) ?_
      refine va_get (D := D) (ci := 5) (C := "StackRoomModel") (T := T_R) (N := 25) (v := .int (nI L.length)) hx hb ht in_R hown hK.1 (hP.one hM1.1) 0 rfl rfl 21 (by decide) (ht _ fl_R_R_reached) (fun _ h9 => h9) rfl d_R_see_36 ?_
      refine lv_iload_n hx hb d_R_see_39 rfl (lv_at hl 1 rfl) ?_
      refine lv_iconst (v := 2) hx hb d_R_see_40 (by decide) ?_
      refine lv_idiv hx hb d_R_see_41 (by decide) ?_
      refine lv_iconst (v := 1) hx hb d_R_see_42 (by decide) ?_
      refine lv_isub hx hb d_R_see_43 ?_
      refine W.eq (g2 := F0 m 44 ls [.int (nI (sl i)), .int (nI L.length), .ref (adr 20)]) (by rw [m_slot hs]) ?_
      refine gw_iast hx hb hK.1 hP hS 2 hM1.a20 ht2 (vp_in_nI (by omega) (by decide)) d_R_see_44 (fun H locs hP hS => ?_)
      rw [nI_clamp (by omega)] at hP
      obtain ⟨G2, eG2⟩ : ∃ z : gw_G, z = va_up G1 (adr 20) (some (.inl (cI, 4096, .inl (upd (ar1 20) (L.length) ((nI (sl i))))))) := ⟨_, rfl⟩
      replace hP : gw_P D vwCl (gw_A G s.heap.size) G2 H := by rw [eG2]; exact hP
      obtain ⟨ar2, ear2⟩ : ∃ z : Nat → Nat → Int32, z = va_up ar1 20 (upd (ar1 20) (L.length) ((nI (sl i)))) := ⟨_, rfl⟩
      have hM2 : m_Arr cI cB cZ x w n md adr (us) (nI L.length) (r1) (r2) (r3) ar2 G2 := by rw [eG2, ear2]; exact hM1.put (k := 20) (by decide) _
      refine lv_aload_n hx hb d_R_see_45 rfl (lv_at hl 0 rfl) ?_
      refine lv_dup hx hb d_R_see_46 rfl ?_
      refine va_get (D := D) (ci := 5) (C := "StackRoomModel") (T := T_R) (N := 25) (v := .int (nI L.length)) hx hb ht in_R hown hK.1 (hP.one hM2.1) 0 rfl rfl 21 (by decide) (ht _ fl_R_R_reached) (fun _ h9 => h9) rfl d_R_see_47 ?_
      refine lv_iconst (v := 1) hx hb d_R_see_50 (by decide) ?_
      refine lv_iadd hx hb d_R_see_51 ?_
      refine gw_put (D := D) (cl := vwCl) (ci := 5) (C := "StackRoomModel") (T := T_R) (N := 25) (v := .int ((nI L.length) + 1)) (ty := .int) hx hb ht in_R ty_R tk_R nm_R hown hK.1 hP hS hM2.1 rfl 21 (by decide) (ht _ fl_R_R_reached) (fun _ h9 => h9) rfl (by decide +kernel) rfl rfl (Nat.le_of_ble_eq_true rfl) d_R_see_52 (fun H locs hP hS => ?_)
      obtain ⟨G3, eG3⟩ : ∃ z : gw_G, z = va_up G2 x (some (.inr (5, [.int (nI w), .int (nI n), .int (nI md), .ref (adr 3), .ref (adr 4), .ref (adr 5), .ref (adr 6), .ref (adr 7), .ref (adr 8), .ref (adr 9), .ref (adr 10), .ref (adr 11), .ref (adr 12), .ref (adr 13), .ref (adr 14), .ref (adr 15), .ref (adr 16), .ref (adr 17), .int us, .ref (adr 19), .ref (adr 20), .int (nI L.length + 1), .int r1, .int r2, .int r3]))) := ⟨_, rfl⟩
      replace hP : gw_P D vwCl (gw_A G s.heap.size) G3 H := by rw [eG3]; exact hP
      have hM3 : m_Arr cI cB cZ x w n md adr (us) (nI L.length + 1) (r1) (r2) (r3) ar2 G3 := by rw [eG3]; exact hM2.own md (us) (nI L.length + 1) (r1) (r2) (r3)
      have hQ2 := hQ.add (i := i)
      have e9 : ar2 = va_up (va_up ar 19 (upd (ar 19) (sl i) 1)) 20 (upd (ar 20) L.length (nI (sl i))) := by rw [ear2, ear1]; rfl
      rw [← e9] at hQ2
      exact W.vret hx hb hr (fun t ht hW => ⟨⟨G3, rfl, (by rw [s_add_o hin, List.length_append, List.length_singleton, ← nI_1]; exact ⟨ar2, hM3, hQ2, fun k h1 h2 => by rw [e9, va_up_ne _ _ h2, va_up_ne _ _ h1]⟩), g_fin ht hP⟩, hS.F ht⟩) hS.2.2 d_R_see_55
end K32
