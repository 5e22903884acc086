theorem s_push_rch {σ : sS} {i : Nat} {v : sV} (hv : ∀ j, v = some (.inr j) → s_rch σ j) {q : Nat} (h : s_rch (s_push σ i v) q) : s_rch σ q := s_setF_rch (i := i) (k := s_ht σ i) (v := v) hv h
theorem s_pop_rch {σ : sS} {i q : Nat} (h : s_rch (s_pop σ i) q) : s_rch σ q := s_setF_rch (σ := s_setH σ i (s_ht σ i - 1)) (i := i) (k := s_ht σ i - 1) (v := none) (fun j e => by cases e) h
theorem s_fill_rch {σ : sS} {i : Nat} {v : Int32} : ∀ (k : Nat) {q : Nat}, s_rch (s_fill σ i v k) q → s_rch σ q
  | 0, _, h => h
  | k + 1, _, h => s_fill_rch k (s_push_rch (fun j e => by cases e) h)
theorem s_drop_rch {σ : sS} {i : Nat} : ∀ (k : Nat) {q : Nat}, s_rch (s_drop σ i k) q → s_rch σ q
  | 0, _, h => h
  | k + 1, _, h => s_drop_rch k (s_pop_rch h)
theorem m_pk {a b : Nat} {u : Int32} (hu : 0 ≤ u) (h : u.toNatClampNeg < b) : nI a + nI b - 1 - u = nI (a + (b - 1 - u.toNatClampNeg)) := by
  obtain ⟨k, hk, rfl⟩ := nI_of (x := u) (fun q => absurd hu (Int32.not_le.mpr q))
  rw [nI_clamp hk] at h ⊢
  rw [nI_add, show nI (a + b) - 1 = nI (a + b - 1) from pk_sub (b := 1) (by omega), pk_sub (by omega), show a + b - 1 - k = a + (b - 1 - k) by omega]
theorem m_fM {j : Nat} (h : j ≤ 100) : (1073741823 : Int32) - nI j = nI (1073741823 - j) := pk_sub (a := 1073741823) (by omega)
theorem m_fz {nn v : Int32} {j : Nat} (h0 : 0 ≤ nn) (h : nn ≤ 100) (hj : j < nn.toNatClampNeg) (hle : v ≤ 1073741823 - (nn - 1)) : v ≤ 1073741823 - nI j := by
  obtain ⟨N, hN, rfl⟩ := nI_of2 (n := 100) rfl (fun q => absurd h0 (Int32.not_le.mpr q)) h
  rw [nI_clamp (by omega)] at hj
  rw [show nI N - 1 = nI (N - 1) from pk_sub (b := 1) (by omega), m_fM (by omega)] at hle
  rw [m_fM (by omega)]
  exact Int32.le_trans hle ((nI_leI (by omega) (by omega)).mpr (by omega))
theorem m_fy {nn v : Int32} {j : Nat} {P : Prop} (h0 : 0 ≤ nn) (h : nn ≤ 100) (hj : nn.toNatClampNeg ≤ j) (ha : ∀ q, q < j → P ∧ v ≤ 1073741823 - nI q) : nn = 0 ∨ (P ∧ v ≤ 1073741823 - (nn - 1)) := by
  obtain ⟨N, hN, rfl⟩ := nI_of2 (n := 100) rfl (fun q => absurd h0 (Int32.not_le.mpr q)) h
  rw [nI_clamp (by omega)] at hj
  rcases N with _ | N
  · exact Or.inl rfl
  · rw [nI_pred]
    exact Or.inr (ha N (by omega))
theorem m_f0 {nn : Int32} {j : Nat} (hj : j < nn.toNatClampNeg) : ¬ nn = 0 := fun e => by
  rw [e] at hj
  exact absurd hj (Nat.not_lt_zero j)
theorem m_oi_4 {σ : sS} (hI : s_I σ) (sl : Nat → Nat) (r : Int32) : m_oi σ sl r 4 4 = (match s_ci σ r with
  | some i => if s_kd σ i = 4 then nI (sl i) else -1
  | none => -1) := by
  unfold m_oi
  split
  · rename_i hr
    rcases hq : s_rg σ r.toNatClampNeg with _ | (nv | j)
    · rw [s_ci_nil hq]
    · rw [s_ci_num hq]
    · have hk := hI.2.2.1 _ (s_reg hr) j hq
      rcases (hI.2.1 j hk).2.2 with e | e | e
      · rw [s_ci_m hq e]
        show (if (4 : Int32) ≤ nI (s_kd σ j) ∧ nI (s_kd σ j) ≤ 4 then nI (sl j) else -1) = -1
        rw [e]; rfl
      · rw [s_ci_c hr hq (Or.inl e)]
        show (if (4 : Int32) ≤ nI (s_kd σ j) ∧ nI (s_kd σ j) ≤ 4 then nI (sl j) else -1) = (if s_kd σ j = 4 then nI (sl j) else -1)
        rw [e]; rfl
      · rw [s_ci_c hr hq (Or.inr e)]
        show (if (4 : Int32) ≤ nI (s_kd σ j) ∧ nI (s_kd σ j) ≤ 4 then nI (sl j) else -1) = (if s_kd σ j = 4 then nI (sl j) else -1)
        rw [e]; rfl
  · rename_i hr
    rw [s_ci_no hr]
section K37
variable {cI cB cZ : ClassId} {x w n md : Nat} {adr : Nat → Nat} {us r0 r1 r2 r3 : Int32} {ar : Nat → Nat → Int32} {G : gw_G} {σ : sS} {sl bg : Nat → Nat} {U : Nat} {D : va_G} {tys : List (ClassId × FieldType)} {sz : Nat}
set_option maxHeartbeats 4000000 in
set_option maxRecDepth 100000 in
theorem k_R_change (l : Launch) (hR0 : m_R w n cI cB cZ σ x G) (hO : s_OK w n σ) (hV : s_NV σ) (hw : 128 ≤ w ∧ w ≤ 32768) (hn : 16 ≤ n ∧ n ≤ 4096) (hm : s_md σ + 2 < 2 ^ 31) (ht2 : tys[2]? = some (cI, .int)) (ht3 : tys[3]? = some (cB, .byte)) (ht4 : tys[4]? = some (cZ, .boolean)) (r aa tt dd : Int32) : Met l y_R_change w_R_change ({ frames := 2, cells := 0, slots := 0, locals := 44 }) (g_pre D tys G sz [.ref x, .int r, .int aa, .int tt, .int dd]) (va_Qi (fun (rz : Int32) (G1 : gw_G) => rz = (p_change σ r aa tt dd).1 ∧ m_R w n cI cB cZ (p_change σ r aa tt dd).2 x G1) (g_end D G sz) (gw_A G sz)) 0 0 (gw_A G sz) := by
  refine Met.ofW (cc := b_R_change) (maxL := 6) (ret := (some .boolean)) (by decide) rfl ?_
  intro p e s m args below meth c s₁ B hml hv
  obtain ⟨rfl, hsz, hP, hK⟩ := hv
  have hx := B.exec
  have hb := B.bytes
  have hr := B.returns
  have ht := fun w (hw : w ∈ gt) => atoms_spec (ws := w_R_change) B.pre w (List.mem_cons_of_mem _ hw)
  have hown : s.vm.findClass "StackRoomModel" = some m.cls := findClass_of_methodNamed B.named
  have hlocks := B.notSynchronized
  have C0 : CallFix p m c b_R_change 6 s [.ref x, .int r, .int aa, .int tt, .int dd].toArray gt "StackRoomModel" := ⟨hx, hb, hml, hown, ht⟩
  subst hsz
  have hP := hP.self (sz := s.heap.size)
  have hA : ∀ q : Nat, s.heap.size ≤ q → gw_A G s.heap.size q := fun q h => Or.inr h
  have hS : va_S (gw_A G s.heap.size) s.heap s.heap [] := va_S.rf
  have hl := lv_entry ([.ref x, .int r, .int aa, .int tt, .int dd]) (n := 6) (Nat.le_of_ble_eq_true rfl)
  rw [lg_entry_eq]
  generalize (lg_sl ([.ref x, .int r, .int aa, .int tt, .int dd]) ++ List.replicate (6 - (lg_sl ([.ref x, .int r, .int aa, .int tt, .int dd])).length) Slot.unset).toArray = ls at hl ⊢
  have hl : lv_has ls 6 [(0, .ref x), (1, .int r), (2, .int aa), (3, .int tt), (4, .int dd)] := hl
  obtain ⟨adr, ar, sl, bg, U, r0, r1, r2, r3, hM, hE⟩ := hR0
  refine lv_aload_n hx hb d_R_change_0 rfl (lv_at hl 0 rfl) ?_
  refine lv_iload_n hx hb d_R_change_1 rfl (lv_at hl 1 rfl) ?_
  refine lv_iconst (v := 2) hx hb d_R_change_2 (by decide) ?_
  refine lv_iconst (v := 2) hx hb d_R_change_3 (by decide) ?_
  refine vp_callSi (va_Run.run (r_V (rest := []) C0 [.int r, .int 2, .int 2] (k_R_objectIn l hM hE hO.1 hV ht2 ht3 ht4 r 2 2) ml_R_R_objectIn im_R_objectIn se_R_R_objectIn_R ini_R co_R_objectIn ⟨rfl, hd_R_objectIn⟩ (g_preV (ci := 5) hK hP rfl hM.1) hl.1 d_R_change_4 rfl rfl (Nat.le_of_ble_eq_true rfl) ⟨rfl, rfl⟩ ⟨Nat.le_of_ble_eq_true rfl, Nat.le_of_ble_eq_true rfl⟩ ⟨Nat.le_of_ble_eq_true rfl, Nat.le_of_ble_eq_true rfl⟩)) (fun qc ec => ?_)
  rw [m_oi_m hO.1] at ec
  subst ec
  rcases hmi : s_mi σ r with _ | i
  · refine W.eq (g2 := F0 m 7 ls [.int (-1)]) (rfl) ?_
    refine lv_istore (lv' := [(5, .int (-1)), (0, .ref x), (1, .int r), (2, .int aa), (3, .int tt), (4, .int dd)]) hx hb d_R_change_7 hl (by decide) rfl (fun ls hl => ?_)
    refine lv_iload hx hb d_R_change_9 (lv_at hl 0 rfl) ?_
    refine lv_if_lt (tgt := 24) hx hb d_R_change_11 (by decide) (fun _ => ?_) (fun z => absurd (by decide) z)
    refine lv_iconst (v := 0) hx hb d_R_change_24 (by decide) ?_
    exact W.zret (v := 0) hx hb hr rfl (fun t ht hW => ⟨⟨_, G, rfl, (by rw [show p_change σ r aa tt dd = (0, σ) from (by simp only [p_change, hmi])]; exact ⟨rfl, adr, ar, sl, bg, U, r0, r1, r2, r3, hM, hE⟩), g_fin ht hP⟩, hS.F ht⟩) hS.2.2 d_R_change_25
  · refine W.eq (g2 := F0 m 7 ls [.int (nI (sl i))]) (rfl) ?_
    have hk2 := (s_mi_some hmi).2.2
    have hri := s_mi_rch hmi
    obtain ⟨hs, hk4, hk5⟩ := hE.2.1 i hri
    obtain ⟨q7, q8⟩ := hE.2.2.1 i hri hk2
    have hU := hE.2.2.2.2.2.2.2.2
    refine lv_istore (lv' := [(5, .int (nI (sl i))), (0, .ref x), (1, .int r), (2, .int aa), (3, .int tt), (4, .int dd)]) hx hb d_R_change_7 hl (by decide) rfl (fun ls hl => ?_)
    refine lv_iload hx hb d_R_change_9 (lv_at hl 0 rfl) ?_
    refine lv_if_lt (tgt := 24) hx hb d_R_change_11 (by decide) (fun z => absurd z (nI_pos (by omega))) (fun _ => ?_)
    refine lv_iload_n hx hb d_R_change_14 rfl (lv_at hl 3 rfl) ?_
    refine lv_iload_n hx hb d_R_change_15 rfl (lv_at hl 4 rfl) ?_
    refine lv_iload hx hb d_R_change_16 (lv_at hl 5 rfl) ?_
    refine vp_callSi (va_Run.run (r_S (rest := []) C0 [.int aa, .int tt, .int dd] (k_R_isMethod l aa tt dd) ml_R_R_isMethod st_R_isMethod ini_R co_R_isMethod hd_R_isMethod v_preS hl.1 d_R_change_18 rfl rfl (Nat.le_of_ble_eq_true rfl) ⟨rfl, rfl⟩ ⟨Nat.le_of_ble_eq_true rfl, Nat.le_of_ble_eq_true rfl⟩ ⟨Nat.le_of_ble_eq_true rfl, Nat.le_of_ble_eq_true rfl⟩)) (fun q18 eq18 => ?_)
    refine lv_if_ne (tgt := 26) hx hb d_R_change_21 (by decide) (fun c18 => ?_) (fun c18 => ?_)
    · have hnum : (0 ≤ aa ∧ aa ≤ 15) ∧ (aa ≤ tt ∧ tt ≤ 31) ∧ (0 ≤ dd ∧ dd ≤ 63) := Decidable.byContradiction (fun h => c18 (eq18.trans (if_neg h)))
      refine lv_aload_n hx hb d_R_change_26 rfl (lv_at hl 1 rfl) ?_
      refine lv_iload hx hb d_R_change_27 (lv_at hl 0 rfl) ?_
      refine lv_iload_n hx hb d_R_change_29 rfl (lv_at hl 3 rfl) ?_
      refine lv_iload_n hx hb d_R_change_30 rfl (lv_at hl 4 rfl) ?_
      refine lv_iload hx hb d_R_change_31 (lv_at hl 5 rfl) ?_
      refine g_callv hP hS hA (r_V (rest := []) C0 [.int (nI (sl i)), .int aa, .int tt, .int dd] (k_R_give l hM ht2 ht3 ht4 hs aa tt dd) ml_R_R_give im_R_give se_R_R_give_R ini_R co_R_give ⟨rfl, hd_R_give⟩ (g_preV (ci := 5) hK hP rfl hM.1) hl.1 d_R_change_33 rfl rfl (Nat.le_of_ble_eq_true rfl) ⟨rfl, rfl⟩ ⟨Nat.le_of_ble_eq_true rfl, Nat.le_of_ble_eq_true rfl⟩ ⟨Nat.le_of_ble_eq_true rfl, Nat.le_of_ble_eq_true rfl⟩) (fun G1 H locs hM1 hP hS hz9 hk9 => ?_)
      have ht9 : 0 ≤ tt := Int32.le_trans hnum.1.1 hnum.2.1.1
      have hE9 := hE.tmp hri aa tt.toNatClampNeg dd.toNatClampNeg
      rw [s_clampI ht9, s_clampI hnum.2.2.1] at hE9
      refine lv_iconst (v := 1) hx hb d_R_change_36 (by decide) ?_
      exact W.zret (v := 1) hx hb hr rfl (fun t ht hW => ⟨⟨_, G1, rfl, (by rw [show p_change σ r aa tt dd = (1, s_setT σ i tt.toNatClampNeg dd.toNatClampNeg) from (by simp only [p_change, hmi]; rw [if_pos hnum])]; exact ⟨rfl, adr, _, sl, bg, U, _, _, _, _, hM1, hE9⟩), g_fin ht hP⟩, hS.F ht⟩) hS.2.2 d_R_change_37
    · have hnum : ¬ ((0 ≤ aa ∧ aa ≤ 15) ∧ (aa ≤ tt ∧ tt ≤ 31) ∧ (0 ≤ dd ∧ dd ≤ 63)) := fun h => absurd (eq18.symm.trans c18) (by rw [if_pos h]; decide)
      refine lv_iconst (v := 0) hx hb d_R_change_24 (by decide) ?_
      exact W.zret (v := 0) hx hb hr rfl (fun t ht hW => ⟨⟨_, G, rfl, (by rw [show p_change σ r aa tt dd = (0, σ) from (by simp only [p_change, hmi]; rw [if_neg hnum])]; exact ⟨rfl, adr, ar, sl, bg, U, r0, r1, r2, r3, hM, hE⟩), g_fin ht hP⟩, hS.F ht⟩) hS.2.2 d_R_change_25
set_option maxHeartbeats 4000000 in
set_option maxRecDepth 100000 in
theorem k_R_push (l : Launch) (hR0 : m_R w n cI cB cZ σ x G) (hO : s_OK w n σ) (hV : s_NV σ) (hw : 128 ≤ w ∧ w ≤ 32768) (hn : 16 ≤ n ∧ n ≤ 4096) (hm : s_md σ + 2 < 2 ^ 31) (ht2 : tys[2]? = some (cI, .int)) (ht3 : tys[3]? = some (cB, .byte)) (ht4 : tys[4]? = some (cZ, .boolean)) (cx f : Int32) : Met l y_R_push w_R_push ({ frames := 3, cells := 0, slots := 0, locals := 65 }) (g_pre D tys G sz [.ref x, .int cx, .int f]) (va_Qi (fun (rz : Int32) (G1 : gw_G) => rz = (p_push σ cx f).1 ∧ m_R w n cI cB cZ (p_push σ cx f).2 x G1) (g_end D G sz) (gw_A G sz)) 0 0 (gw_A G sz) := by
  refine Met.ofW (cc := b_R_push) (maxL := 4) (ret := (some .boolean)) (by decide) rfl ?_
  intro p e s m args below meth c s₁ B hml hv
  obtain ⟨rfl, hsz, hP, hK⟩ := hv
  have hx := B.exec
  have hb := B.bytes
  have hr := B.returns
  have ht := fun w (hw : w ∈ gt) => atoms_spec (ws := w_R_push) B.pre w (List.mem_cons_of_mem _ hw)
  have hown : s.vm.findClass "StackRoomModel" = some m.cls := findClass_of_methodNamed B.named
  have hlocks := B.notSynchronized
  have C0 : CallFix p m c b_R_push 4 s [.ref x, .int cx, .int f].toArray gt "StackRoomModel" := ⟨hx, hb, hml, hown, ht⟩
  subst hsz
  have hP := hP.self (sz := s.heap.size)
  have hA : ∀ q : Nat, s.heap.size ≤ q → gw_A G s.heap.size q := fun q h => Or.inr h
  have hS : va_S (gw_A G s.heap.size) s.heap s.heap [] := va_S.rf
  have hl := lv_entry ([.ref x, .int cx, .int f]) (n := 4) (Nat.le_of_ble_eq_true rfl)
  rw [lg_entry_eq]
  generalize (lg_sl ([.ref x, .int cx, .int f]) ++ List.replicate (4 - (lg_sl ([.ref x, .int cx, .int f])).length) Slot.unset).toArray = ls at hl ⊢
  have hl : lv_has ls 4 [(0, .ref x), (1, .int cx), (2, .int f)] := hl
  obtain ⟨adr, ar, sl, bg, U, r0, r1, r2, r3, hM, hE⟩ := hR0
  refine lv_aload_n hx hb d_R_push_0 rfl (lv_at hl 0 rfl) ?_
  refine lv_iload_n hx hb d_R_push_1 rfl (lv_at hl 1 rfl) ?_
  refine vp_callSi (va_Run.run (r_V (rest := []) C0 [.int cx] (k_R_contextIn l hM hE hO.1 hV ht2 ht3 ht4 cx) ml_R_R_contextIn im_R_contextIn se_R_R_contextIn_R ini_R co_R_contextIn ⟨rfl, hd_R_contextIn⟩ (g_preV (ci := 5) hK hP rfl hM.1) hl.1 d_R_push_2 rfl rfl (Nat.le_of_ble_eq_true rfl) ⟨rfl, rfl⟩ ⟨Nat.le_of_ble_eq_true rfl, Nat.le_of_ble_eq_true rfl⟩ ⟨Nat.le_of_ble_eq_true rfl, Nat.le_of_ble_eq_true rfl⟩)) (fun qc ec => ?_)
  subst ec
  rcases hci : s_ci σ cx with _ | i
  · refine W.eq (g2 := F0 m 5 ls [.int (-1)]) (rfl) ?_
    refine lv_istore_n (lv' := [(3, .int (-1)), (0, .ref x), (1, .int cx), (2, .int f)]) hx hb d_R_push_5 rfl hl (by decide) rfl (fun ls hl => ?_)
    refine lv_iload_n hx hb d_R_push_6 rfl (lv_at hl 0 rfl) ?_
    refine lv_if_lt (tgt := 35) hx hb d_R_push_7 (by decide) (fun _ => ?_) (fun z => absurd (by decide) z)
    refine lv_iconst (v := 0) hx hb d_R_push_35 (by decide) ?_
    exact W.zret (v := 0) hx hb hr rfl (fun t ht hW => ⟨⟨_, G, rfl, (by rw [show p_push σ cx f = (0, σ) from (by simp only [p_push, hci])]; exact ⟨rfl, adr, ar, sl, bg, U, r0, r1, r2, r3, hM, hE⟩), g_fin ht hP⟩, hS.F ht⟩) hS.2.2 d_R_push_36
  · refine W.eq (g2 := F0 m 5 ls [.int (nI (sl i))]) (rfl) ?_
    have hc := (s_ci_some hci).2.2
    have hri := s_ci_rch hci
    obtain ⟨hs, hk4, hk5⟩ := hE.2.1 i hri
    obtain ⟨yy9, yy10, yy11, yy12, yy14, yy15, qU⟩ := hE.2.2.2.1 i hri hc
    have hU := hE.2.2.2.2.2.2.2.2
    have hb9 := (hO.1.2.2.2.2.2.2 i hc).2
    refine lv_istore_n (lv' := [(3, .int (nI (sl i))), (0, .ref x), (1, .int cx), (2, .int f)]) hx hb d_R_push_5 rfl hl (by decide) rfl (fun ls hl => ?_)
    refine lv_iload_n hx hb d_R_push_6 rfl (lv_at hl 0 rfl) ?_
    refine lv_if_lt (tgt := 35) hx hb d_R_push_7 (by decide) (fun z => absurd z (nI_pos (by omega))) (fun _ => ?_)
    refine lv_iload_n hx hb d_R_push_10 rfl (lv_at hl 3 rfl) ?_
    refine vp_callSi (va_Run.run (r_S (rest := []) C0 [.int f] (k_R_isRegister l f) ml_R_R_isRegister st_R_isRegister ini_R co_R_isRegister hd_R_isRegister v_preS hl.1 d_R_push_11 rfl rfl (Nat.le_of_ble_eq_true rfl) ⟨rfl, rfl⟩ ⟨Nat.le_of_ble_eq_true rfl, Nat.le_of_ble_eq_true rfl⟩ ⟨Nat.le_of_ble_eq_true rfl, Nat.le_of_ble_eq_true rfl⟩)) (fun q11 eq11 => ?_)
    refine lv_if_eq (tgt := 35) hx hb d_R_push_14 (by decide) (fun c11 => ?_) (fun c11 => ?_)
    · have hregf : ¬ (0 ≤ f ∧ f ≤ 15) := fun h => absurd (eq11.symm.trans c11) (by rw [if_pos h]; decide)
      refine lv_iconst (v := 0) hx hb d_R_push_35 (by decide) ?_
      exact W.zret (v := 0) hx hb hr rfl (fun t ht hW => ⟨⟨_, G, rfl, (by rw [show p_push σ cx f = (0, σ) from (by simp only [p_push, hci]; rw [if_neg (fun z => hregf z.1)])]; exact ⟨rfl, adr, ar, sl, bg, U, r0, r1, r2, r3, hM, hE⟩), g_fin ht hP⟩, hS.F ht⟩) hS.2.2 d_R_push_36
    · have hregf : 0 ≤ f ∧ f ≤ 15 := Decidable.byContradiction (fun h => c11 (eq11.trans (if_neg h)))
      refine lv_aload_n hx hb d_R_push_17 rfl (lv_at hl 1 rfl) ?_
      refine lv_iload_n hx hb d_R_push_18 rfl (lv_at hl 0 rfl) ?_
      refine lv_aload_n hx hb d_R_push_19 rfl (lv_at hl 1 rfl) ?_
      refine va_get (D := D) (ci := 5) (C := "StackRoomModel") (T := T_R) (N := 25) (v := .ref (adr 3)) hx hb ht in_R hown hK.1 (hP.one hM.1) 0 rfl rfl 3 (by decide) (ht _ fl_R_R_registers) (fun _ h9 => h9) rfl d_R_push_20 ?_
      refine lv_iload_n hx hb d_R_push_23 rfl (lv_at hl 3 rfl) ?_
      refine va_iald hx hb hK.1 (hP.one hM.a3) 0 2 rfl ht2 (m_rin hregf) d_R_push_24 ?_
      rw [hE.1 _ (s_reg hregf)]
      refine g_calli hP hS hA (r_V (rest := []) C0 [.int (nI (sl i)), .int (m_val sl (s_rg σ f.toNatClampNeg))] (k_R_pushes l hM hE hri hc hb9.1 ht2 ht3 ht4 (s_get σ f)) ml_R_R_pushes im_R_pushes se_R_R_pushes_R ini_R co_R_pushes ⟨rfl, hd_R_pushes⟩ (g_preV (ci := 5) hK hP rfl hM.1) hl.1 d_R_push_25 rfl rfl (Nat.le_of_ble_eq_true rfl) ⟨rfl, rfl⟩ ⟨Nat.le_of_ble_eq_true rfl, Nat.le_of_ble_eq_true rfl⟩ ⟨Nat.le_of_ble_eq_true rfl, Nat.le_of_ble_eq_true rfl⟩) (fun qz G1 H locs hq hP hS hz9 hk9 => ?_)
      rcases hq with ⟨hlt, rfl, ar2, hM2, hE2⟩ | ⟨hno, rfl, hM2⟩
      · refine lv_if_eq (tgt := 35) hx hb d_R_push_28 (by decide) (fun h => absurd h (by decide)) (fun _ => ?_)
        refine lv_iconst (v := 1) hx hb d_R_push_31 (by decide) ?_
        refine lv_goto (tgt := 36) hx hb d_R_push_32 (by decide) ?_
        exact W.zret (v := 1) hx hb hr rfl (fun t ht hW => ⟨⟨_, G1, rfl, (by rw [show p_push σ cx f = (1, s_push σ i (s_get σ f)) from (by simp only [p_push, hci]; rw [if_pos ⟨hregf, hlt⟩])]; exact ⟨rfl, adr, ar2, sl, bg, U, _, _, _, _, hM2, hE2.mono (fun _ h => s_push_rch (fun j e => s_get_rch hregf e) h)⟩), g_fin ht hP⟩, hS.F ht⟩) hS.2.2 d_R_push_36
      · refine lv_if_eq (tgt := 35) hx hb d_R_push_28 (by decide) (fun _ => ?_) (fun h => absurd h (by decide))
        refine lv_iconst (v := 0) hx hb d_R_push_35 (by decide) ?_
        exact W.zret (v := 0) hx hb hr rfl (fun t ht hW => ⟨⟨_, G1, rfl, (by rw [show p_push σ cx f = (0, σ) from (by simp only [p_push, hci]; rw [if_neg (fun z => hno z.2)])]; exact ⟨rfl, adr, ar, sl, bg, U, r0, r1, r2, r3, hM2, hE⟩), g_fin ht hP⟩, hS.F ht⟩) hS.2.2 d_R_push_36
set_option maxHeartbeats 4000000 in
set_option maxRecDepth 100000 in
theorem k_R_pop (l : Launch) (hR0 : m_R w n cI cB cZ σ x G) (hO : s_OK w n σ) (hV : s_NV σ) (hw : 128 ≤ w ∧ w ≤ 32768) (hn : 16 ≤ n ∧ n ≤ 4096) (hm : s_md σ + 2 < 2 ^ 31) (ht2 : tys[2]? = some (cI, .int)) (ht3 : tys[3]? = some (cB, .byte)) (ht4 : tys[4]? = some (cZ, .boolean)) (r cx : Int32) : Met l y_R_pop w_R_pop ({ frames := 3, cells := 0, slots := 0, locals := 65 }) (g_pre D tys G sz [.ref x, .int r, .int cx]) (va_Qi (fun (rz : Int32) (G1 : gw_G) => rz = (p_pop σ r cx).1 ∧ m_R w n cI cB cZ (p_pop σ r cx).2 x G1) (g_end D G sz) (gw_A G sz)) 0 0 (gw_A G sz) := by
  refine Met.ofW (cc := b_R_pop) (maxL := 4) (ret := (some .boolean)) (by decide) rfl ?_
  intro p e s m args below meth c s₁ B hml hv
  obtain ⟨rfl, hsz, hP, hK⟩ := hv
  have hx := B.exec
  have hb := B.bytes
  have hr := B.returns
  have ht := fun w (hw : w ∈ gt) => atoms_spec (ws := w_R_pop) B.pre w (List.mem_cons_of_mem _ hw)
  have hown : s.vm.findClass "StackRoomModel" = some m.cls := findClass_of_methodNamed B.named
  have hlocks := B.notSynchronized
  have C0 : CallFix p m c b_R_pop 4 s [.ref x, .int r, .int cx].toArray gt "StackRoomModel" := ⟨hx, hb, hml, hown, ht⟩
  subst hsz
  have hP := hP.self (sz := s.heap.size)
  have hA : ∀ q : Nat, s.heap.size ≤ q → gw_A G s.heap.size q := fun q h => Or.inr h
  have hS : va_S (gw_A G s.heap.size) s.heap s.heap [] := va_S.rf
  have hl := lv_entry ([.ref x, .int r, .int cx]) (n := 4) (Nat.le_of_ble_eq_true rfl)
  rw [lg_entry_eq]
  generalize (lg_sl ([.ref x, .int r, .int cx]) ++ List.replicate (4 - (lg_sl ([.ref x, .int r, .int cx])).length) Slot.unset).toArray = ls at hl ⊢
  have hl : lv_has ls 4 [(0, .ref x), (1, .int r), (2, .int cx)] := hl
  obtain ⟨adr, ar, sl, bg, U, r0, r1, r2, r3, hM, hE⟩ := hR0
  refine lv_aload_n hx hb d_R_pop_0 rfl (lv_at hl 0 rfl) ?_
  refine lv_iload_n hx hb d_R_pop_1 rfl (lv_at hl 2 rfl) ?_
  refine vp_callSi (va_Run.run (r_V (rest := []) C0 [.int cx] (k_R_contextIn l hM hE hO.1 hV ht2 ht3 ht4 cx) ml_R_R_contextIn im_R_contextIn se_R_R_contextIn_R ini_R co_R_contextIn ⟨rfl, hd_R_contextIn⟩ (g_preV (ci := 5) hK hP rfl hM.1) hl.1 d_R_pop_2 rfl rfl (Nat.le_of_ble_eq_true rfl) ⟨rfl, rfl⟩ ⟨Nat.le_of_ble_eq_true rfl, Nat.le_of_ble_eq_true rfl⟩ ⟨Nat.le_of_ble_eq_true rfl, Nat.le_of_ble_eq_true rfl⟩)) (fun qc ec => ?_)
  subst ec
  rcases hci : s_ci σ cx with _ | i
  · refine W.eq (g2 := F0 m 5 ls [.int (-1)]) (rfl) ?_
    refine lv_istore_n (lv' := [(3, .int (-1)), (0, .ref x), (1, .int r), (2, .int cx)]) hx hb d_R_pop_5 rfl hl (by decide) rfl (fun ls hl => ?_)
    refine lv_iload_n hx hb d_R_pop_6 rfl (lv_at hl 0 rfl) ?_
    refine lv_if_lt (tgt := 31) hx hb d_R_pop_7 (by decide) (fun _ => ?_) (fun z => absurd (by decide) z)
    refine lv_iconst (v := 0) hx hb d_R_pop_31 (by decide) ?_
    exact W.zret (v := 0) hx hb hr rfl (fun t ht hW => ⟨⟨_, G, rfl, (by rw [show p_pop σ r cx = (0, σ) from (by simp only [p_pop, hci])]; exact ⟨rfl, adr, ar, sl, bg, U, r0, r1, r2, r3, hM, hE⟩), g_fin ht hP⟩, hS.F ht⟩) hS.2.2 d_R_pop_32
  · refine W.eq (g2 := F0 m 5 ls [.int (nI (sl i))]) (rfl) ?_
    have hc := (s_ci_some hci).2.2
    have hri := s_ci_rch hci
    obtain ⟨hs, hk4, hk5⟩ := hE.2.1 i hri
    obtain ⟨yy9, yy10, yy11, yy12, yy14, yy15, qU⟩ := hE.2.2.2.1 i hri hc
    have hU := hE.2.2.2.2.2.2.2.2
    have hb9 := (hO.1.2.2.2.2.2.2 i hc).2
    refine lv_istore_n (lv' := [(3, .int (nI (sl i))), (0, .ref x), (1, .int r), (2, .int cx)]) hx hb d_R_pop_5 rfl hl (by decide) rfl (fun ls hl => ?_)
    refine lv_iload_n hx hb d_R_pop_6 rfl (lv_at hl 0 rfl) ?_
    refine lv_if_lt (tgt := 31) hx hb d_R_pop_7 (by decide) (fun z => absurd z (nI_pos (by omega))) (fun _ => ?_)
    refine lv_iload_n hx hb d_R_pop_10 rfl (lv_at hl 2 rfl) ?_
    refine vp_callSi (va_Run.run (r_S (rest := []) C0 [.int r] (k_R_isRegister l r) ml_R_R_isRegister st_R_isRegister ini_R co_R_isRegister hd_R_isRegister v_preS hl.1 d_R_pop_11 rfl rfl (Nat.le_of_ble_eq_true rfl) ⟨rfl, rfl⟩ ⟨Nat.le_of_ble_eq_true rfl, Nat.le_of_ble_eq_true rfl⟩ ⟨Nat.le_of_ble_eq_true rfl, Nat.le_of_ble_eq_true rfl⟩)) (fun q11 eq11 => ?_)
    refine lv_if_eq (tgt := 31) hx hb d_R_pop_14 (by decide) (fun c11 => ?_) (fun c11 => ?_)
    · have hreg : ¬ (0 ≤ r ∧ r ≤ 15) := fun h => absurd (eq11.symm.trans c11) (by rw [if_pos h]; decide)
      refine lv_iconst (v := 0) hx hb d_R_pop_31 (by decide) ?_
      exact W.zret (v := 0) hx hb hr rfl (fun t ht hW => ⟨⟨_, G, rfl, (by rw [show p_pop σ r cx = (0, σ) from (by simp only [p_pop, hci]; rw [if_neg (fun z => hreg z.1)])]; exact ⟨rfl, adr, ar, sl, bg, U, r0, r1, r2, r3, hM, hE⟩), g_fin ht hP⟩, hS.F ht⟩) hS.2.2 d_R_pop_32
    · have hreg : 0 ≤ r ∧ r ≤ 15 := Decidable.byContradiction (fun h => c11 (eq11.trans (if_neg h)))
      refine lv_aload_n hx hb d_R_pop_17 rfl (lv_at hl 1 rfl) ?_
      refine va_get (D := D) (ci := 5) (C := "StackRoomModel") (T := T_R) (N := 25) (v := .ref (adr 11)) hx hb ht in_R hown hK.1 (hP.one hM.1) 0 rfl rfl 11 (by decide) (ht _ fl_R_R_heights) (fun _ h9 => h9) rfl d_R_pop_18 ?_
      refine lv_iload_n hx hb d_R_pop_21 rfl (lv_at hl 0 rfl) ?_
      refine va_iald hx hb hK.1 (hP.one hM.a11) 0 2 rfl ht2 (vp_in_nI hs (by decide)) d_R_pop_22 ?_
      rw [nI_clamp (by omega)]
      rw [yy11]
      refine lv_aload_n hx hb d_R_pop_23 rfl (lv_at hl 1 rfl) ?_
      refine lv_iload_n hx hb d_R_pop_24 rfl (lv_at hl 0 rfl) ?_
      refine vp_callSi (va_Run.run (r_V (rest := [.int (nI (s_ht σ i))]) C0 [.int (nI (sl i))] (k_R_floorOf l hM hE hri hc (s_hro hO.1) ht2 ht3 ht4) ml_R_R_floorOf im_R_floorOf se_R_R_floorOf_R ini_R co_R_floorOf ⟨rfl, hd_R_floorOf⟩ (g_preV (ci := 5) hK hP rfl hM.1) hl.1 d_R_pop_25 rfl rfl (Nat.le_of_ble_eq_true rfl) ⟨rfl, rfl⟩ ⟨Nat.le_of_ble_eq_true rfl, Nat.le_of_ble_eq_true rfl⟩ ⟨Nat.le_of_ble_eq_true rfl, Nat.le_of_ble_eq_true rfl⟩)) (fun qf ef => ?_)
      subst ef
      have hf9 := s_fr_le hO.1 hc
      refine lv_icmp_gt (tgt := 33) hx hb d_R_pop_28 (by decide) (fun cg => ?_) (fun cg => ?_)
      · have hlt : s_fr σ i < s_ht σ i := (nI_ltI (by omega) (by omega)).mp cg
        refine lv_aload_n hx hb d_R_pop_33 rfl (lv_at hl 1 rfl) ?_
        refine va_get (D := D) (ci := 5) (C := "StackRoomModel") (T := T_R) (N := 25) (v := .ref (adr 3)) hx hb ht in_R hown hK.1 (hP.one hM.1) 0 rfl rfl 3 (by decide) (ht _ fl_R_R_registers) (fun _ h9 => h9) rfl d_R_pop_34 ?_
        refine lv_iload_n hx hb d_R_pop_37 rfl (lv_at hl 2 rfl) ?_
        refine lv_aload_n hx hb d_R_pop_38 rfl (lv_at hl 1 rfl) ?_
        refine lv_iload_n hx hb d_R_pop_39 rfl (lv_at hl 0 rfl) ?_
        refine g_calli hP hS hA (r_V (rest := [.int r, .ref (adr 3)]) C0 [.int (nI (sl i))] (k_R_popped l hM hE hri hc hb9.1 (by omega) ht2 ht3 ht4) ml_R_R_popped im_R_popped se_R_R_popped_R ini_R co_R_popped ⟨rfl, hd_R_popped⟩ (g_preV (ci := 5) hK hP rfl hM.1) hl.1 d_R_pop_40 rfl rfl (Nat.le_of_ble_eq_true rfl) ⟨rfl, rfl⟩ ⟨Nat.le_of_ble_eq_true rfl, Nat.le_of_ble_eq_true rfl⟩ ⟨Nat.le_of_ble_eq_true rfl, Nat.le_of_ble_eq_true rfl⟩) (fun qz G1 H locs hq hP hS hz9 hk9 => ?_)
        obtain ⟨rfl, ar2, hM2, hE2⟩ := hq
        refine gw_iast hx hb hK.1 hP hS 2 hM2.a3 ht2 (m_rin hreg) d_R_pop_43 (fun H locs hP hS => ?_)
        obtain ⟨G11, eG11⟩ : ∃ z : gw_G, z = va_up G1 (adr 3) (some (.inl (cI, 16, .inl (upd (ar2 3) (r.toNatClampNeg) (m_val sl (s_fl σ i (s_ht σ i - 1))))))) := ⟨_, rfl⟩
        replace hP : gw_P D vwCl (gw_A G s.heap.size) G11 H := by rw [eG11]; exact hP
        obtain ⟨ar11, ear11⟩ : ∃ z : Nat → Nat → Int32, z = va_up ar2 3 (upd (ar2 3) (r.toNatClampNeg) (m_val sl (s_fl σ i (s_ht σ i - 1)))) := ⟨_, rfl⟩
        have hM11 : m_Arr cI cB cZ x w n (s_md σ) adr (nI U) (r0) (r1) (r2) (r3) ar11 G11 := by rw [eG11, ear11]; exact hM2.put (k := 3) (by decide) _
        have hE9 : m_Sem (s_rch (s_put (s_pop σ i) r (s_fl σ i (s_ht σ i - 1)))) (s_put (s_pop σ i) r (s_fl σ i (s_ht σ i - 1))) sl bg U ar11 := by rw [ear11]; exact (hE2.reg _ _).mono (fun _ h => s_setR_rch (k := r.toNatClampNeg) (v := s_fl σ i (s_ht σ i - 1)) (fun j e => s_rch_edge hri ⟨hc, Or.inr (Or.inr ⟨_, by omega, e⟩)⟩) (s_pop_rch (σ := s_setR σ r.toNatClampNeg (s_fl σ i (s_ht σ i - 1))) (i := i) h))
        refine lv_iconst (v := 1) hx hb d_R_pop_44 (by decide) ?_
        exact W.zret (v := 1) hx hb hr rfl (fun t ht hW => ⟨⟨_, G11, rfl, (by rw [show p_pop σ r cx = (1, s_put (s_pop σ i) r (s_fl σ i (s_ht σ i - 1))) from (by simp only [p_pop, hci]; rw [if_pos ⟨hreg, hlt⟩])]; exact ⟨rfl, adr, _, sl, bg, U, _, _, _, _, hM11, hE9⟩), g_fin ht hP⟩, hS.F ht⟩) hS.2.2 d_R_pop_45
      · refine lv_iconst (v := 0) hx hb d_R_pop_31 (by decide) ?_
        exact W.zret (v := 0) hx hb hr rfl (fun t ht hW => ⟨⟨_, G, rfl, (by rw [show p_pop σ r cx = (0, σ) from (by simp only [p_pop, hci]; rw [if_neg (fun z => cg ((nI_ltI (by omega) (by omega)).mpr z.2))])]; exact ⟨rfl, adr, ar, sl, bg, U, r0, r1, r2, r3, hM, hE⟩), g_fin ht hP⟩, hS.F ht⟩) hS.2.2 d_R_pop_32
set_option maxHeartbeats 4000000 in
set_option maxRecDepth 100000 in
theorem k_R_peek (l : Launch) (hR0 : m_R w n cI cB cZ σ x G) (hO : s_OK w n σ) (hV : s_NV σ) (hw : 128 ≤ w ∧ w ≤ 32768) (hn : 16 ≤ n ∧ n ≤ 4096) (hm : s_md σ + 2 < 2 ^ 31) (ht2 : tys[2]? = some (cI, .int)) (ht3 : tys[3]? = some (cB, .byte)) (ht4 : tys[4]? = some (cZ, .boolean)) (r cx u : Int32) : Met l y_R_peek w_R_peek ({ frames := 3, cells := 0, slots := 0, locals := 65 }) (g_pre D tys G sz [.ref x, .int r, .int cx, .int u]) (va_Qi (fun (rz : Int32) (G1 : gw_G) => rz = (p_peek σ r cx u).1 ∧ m_R w n cI cB cZ (p_peek σ r cx u).2 x G1) (g_end D G sz) (gw_A G sz)) 0 0 (gw_A G sz) := by
  refine Met.ofW (cc := b_R_peek) (maxL := 5) (ret := (some .boolean)) (by decide) rfl ?_
  intro p e s m args below meth c s₁ B hml hv
  obtain ⟨rfl, hsz, hP, hK⟩ := hv
  have hx := B.exec
  have hb := B.bytes
  have hr := B.returns
  have ht := fun w (hw : w ∈ gt) => atoms_spec (ws := w_R_peek) B.pre w (List.mem_cons_of_mem _ hw)
  have hown : s.vm.findClass "StackRoomModel" = some m.cls := findClass_of_methodNamed B.named
  have hlocks := B.notSynchronized
  have C0 : CallFix p m c b_R_peek 5 s [.ref x, .int r, .int cx, .int u].toArray gt "StackRoomModel" := ⟨hx, hb, hml, hown, ht⟩
  subst hsz
  have hP := hP.self (sz := s.heap.size)
  have hA : ∀ q : Nat, s.heap.size ≤ q → gw_A G s.heap.size q := fun q h => Or.inr h
  have hS : va_S (gw_A G s.heap.size) s.heap s.heap [] := va_S.rf
  have hl := lv_entry ([.ref x, .int r, .int cx, .int u]) (n := 5) (Nat.le_of_ble_eq_true rfl)
  rw [lg_entry_eq]
  generalize (lg_sl ([.ref x, .int r, .int cx, .int u]) ++ List.replicate (5 - (lg_sl ([.ref x, .int r, .int cx, .int u])).length) Slot.unset).toArray = ls at hl ⊢
  have hl : lv_has ls 5 [(0, .ref x), (1, .int r), (2, .int cx), (3, .int u)] := hl
  obtain ⟨adr, ar, sl, bg, U, r0, r1, r2, r3, hM, hE⟩ := hR0
  refine lv_aload_n hx hb d_R_peek_0 rfl (lv_at hl 0 rfl) ?_
  refine lv_iload_n hx hb d_R_peek_1 rfl (lv_at hl 2 rfl) ?_
  refine vp_callSi (va_Run.run (r_V (rest := []) C0 [.int cx] (k_R_contextIn l hM hE hO.1 hV ht2 ht3 ht4 cx) ml_R_R_contextIn im_R_contextIn se_R_R_contextIn_R ini_R co_R_contextIn ⟨rfl, hd_R_contextIn⟩ (g_preV (ci := 5) hK hP rfl hM.1) hl.1 d_R_peek_2 rfl rfl (Nat.le_of_ble_eq_true rfl) ⟨rfl, rfl⟩ ⟨Nat.le_of_ble_eq_true rfl, Nat.le_of_ble_eq_true rfl⟩ ⟨Nat.le_of_ble_eq_true rfl, Nat.le_of_ble_eq_true rfl⟩)) (fun qc ec => ?_)
  subst ec
  rcases hci : s_ci σ cx with _ | i
  · refine W.eq (g2 := F0 m 5 ls [.int (-1)]) (rfl) ?_
    refine lv_istore (lv' := [(4, .int (-1)), (0, .ref x), (1, .int r), (2, .int cx), (3, .int u)]) hx hb d_R_peek_5 hl (by decide) rfl (fun ls hl => ?_)
    refine lv_iload hx hb d_R_peek_7 (lv_at hl 0 rfl) ?_
    refine lv_if_lt (tgt := 41) hx hb d_R_peek_9 (by decide) (fun _ => ?_) (fun z => absurd (by decide) z)
    refine lv_iconst (v := 0) hx hb d_R_peek_41 (by decide) ?_
    exact W.zret (v := 0) hx hb hr rfl (fun t ht hW => ⟨⟨_, G, rfl, (by rw [show p_peek σ r cx u = (0, σ) from (by simp only [p_peek, hci])]; exact ⟨rfl, adr, ar, sl, bg, U, r0, r1, r2, r3, hM, hE⟩), g_fin ht hP⟩, hS.F ht⟩) hS.2.2 d_R_peek_42
  · refine W.eq (g2 := F0 m 5 ls [.int (nI (sl i))]) (rfl) ?_
    have hc := (s_ci_some hci).2.2
    have hri := s_ci_rch hci
    obtain ⟨hs, hk4, hk5⟩ := hE.2.1 i hri
    obtain ⟨yy9, yy10, yy11, yy12, yy14, yy15, qU⟩ := hE.2.2.2.1 i hri hc
    have hU := hE.2.2.2.2.2.2.2.2
    have hb9 := (hO.1.2.2.2.2.2.2 i hc).2
    refine lv_istore (lv' := [(4, .int (nI (sl i))), (0, .ref x), (1, .int r), (2, .int cx), (3, .int u)]) hx hb d_R_peek_5 hl (by decide) rfl (fun ls hl => ?_)
    refine lv_iload hx hb d_R_peek_7 (lv_at hl 0 rfl) ?_
    refine lv_if_lt (tgt := 41) hx hb d_R_peek_9 (by decide) (fun z => absurd z (nI_pos (by omega))) (fun _ => ?_)
    refine lv_iload_n hx hb d_R_peek_12 rfl (lv_at hl 2 rfl) ?_
    refine vp_callSi (va_Run.run (r_S (rest := []) C0 [.int r] (k_R_isRegister l r) ml_R_R_isRegister st_R_isRegister ini_R co_R_isRegister hd_R_isRegister v_preS hl.1 d_R_peek_13 rfl rfl (Nat.le_of_ble_eq_true rfl) ⟨rfl, rfl⟩ ⟨Nat.le_of_ble_eq_true rfl, Nat.le_of_ble_eq_true rfl⟩ ⟨Nat.le_of_ble_eq_true rfl, Nat.le_of_ble_eq_true rfl⟩)) (fun q13 eq13 => ?_)
    refine lv_if_eq (tgt := 41) hx hb d_R_peek_16 (by decide) (fun c13 => ?_) (fun c13 => ?_)
    · have hreg : ¬ (0 ≤ r ∧ r ≤ 15) := fun h => absurd (eq13.symm.trans c13) (by rw [if_pos h]; decide)
      refine lv_iconst (v := 0) hx hb d_R_peek_41 (by decide) ?_
      exact W.zret (v := 0) hx hb hr rfl (fun t ht hW => ⟨⟨_, G, rfl, (by rw [show p_peek σ r cx u = (0, σ) from (by simp only [p_peek, hci]; rw [if_neg (fun z => hreg z.1)])]; exact ⟨rfl, adr, ar, sl, bg, U, r0, r1, r2, r3, hM, hE⟩), g_fin ht hP⟩, hS.F ht⟩) hS.2.2 d_R_peek_42
    · have hreg : 0 ≤ r ∧ r ≤ 15 := Decidable.byContradiction (fun h => c13 (eq13.trans (if_neg h)))
      refine lv_iload_n hx hb d_R_peek_19 rfl (lv_at hl 4 rfl) ?_
      refine lv_if_lt (tgt := 41) hx hb d_R_peek_20 (by decide) (fun cn => ?_) (fun cn => ?_)
      · refine lv_iconst (v := 0) hx hb d_R_peek_41 (by decide) ?_
        exact W.zret (v := 0) hx hb hr rfl (fun t ht hW => ⟨⟨_, G, rfl, (by rw [show p_peek σ r cx u = (0, σ) from (by simp only [p_peek, hci]; rw [if_neg (fun z => absurd z.2.1 (Int32.not_le.mpr cn))])]; exact ⟨rfl, adr, ar, sl, bg, U, r0, r1, r2, r3, hM, hE⟩), g_fin ht hP⟩, hS.F ht⟩) hS.2.2 d_R_peek_42
      · have hu := Int32.not_lt.mp cn
        refine lv_iload_n hx hb d_R_peek_23 rfl (lv_at hl 4 rfl) ?_
        refine lv_aload_n hx hb d_R_peek_24 rfl (lv_at hl 1 rfl) ?_
        refine va_get (D := D) (ci := 5) (C := "StackRoomModel") (T := T_R) (N := 25) (v := .ref (adr 11)) hx hb ht in_R hown hK.1 (hP.one hM.1) 0 rfl rfl 11 (by decide) (ht _ fl_R_R_heights) (fun _ h9 => h9) rfl d_R_peek_25 ?_
        refine lv_iload hx hb d_R_peek_28 (lv_at hl 0 rfl) ?_
        refine va_iald hx hb hK.1 (hP.one hM.a11) 0 2 rfl ht2 (vp_in_nI hs (by decide)) d_R_peek_30 ?_
        rw [nI_clamp (by omega)]
        rw [yy11]
        refine lv_aload_n hx hb d_R_peek_31 rfl (lv_at hl 1 rfl) ?_
        refine lv_iload hx hb d_R_peek_32 (lv_at hl 0 rfl) ?_
        refine vp_callSi (va_Run.run (r_V (rest := [.int (nI (s_ht σ i)), .int u]) C0 [.int (nI (sl i))] (k_R_floorOf l hM hE hri hc (s_hro hO.1) ht2 ht3 ht4) ml_R_R_floorOf im_R_floorOf se_R_R_floorOf_R ini_R co_R_floorOf ⟨rfl, hd_R_floorOf⟩ (g_preV (ci := 5) hK hP rfl hM.1) hl.1 d_R_peek_34 rfl rfl (Nat.le_of_ble_eq_true rfl) ⟨rfl, rfl⟩ ⟨Nat.le_of_ble_eq_true rfl, Nat.le_of_ble_eq_true rfl⟩ ⟨Nat.le_of_ble_eq_true rfl, Nat.le_of_ble_eq_true rfl⟩)) (fun qf ef => ?_)
        subst ef
        have hf9 := s_fr_le hO.1 hc
        refine lv_isub hx hb d_R_peek_37 ?_
        refine lv_icmp_lt (tgt := 43) hx hb d_R_peek_38 (by decide) (fun cl => ?_) (fun cl => ?_)
        · have hlt := (dp_lt (by omega) (by omega) hu).mp cl
          refine lv_aload_n hx hb d_R_peek_43 rfl (lv_at hl 1 rfl) ?_
          refine va_get (D := D) (ci := 5) (C := "StackRoomModel") (T := T_R) (N := 25) (v := .ref (adr 3)) hx hb ht in_R hown hK.1 (hP.one hM.1) 0 rfl rfl 3 (by decide) (ht _ fl_R_R_registers) (fun _ h9 => h9) rfl d_R_peek_44 ?_
          refine lv_iload_n hx hb d_R_peek_47 rfl (lv_at hl 2 rfl) ?_
          refine lv_aload_n hx hb d_R_peek_48 rfl (lv_at hl 1 rfl) ?_
          refine va_get (D := D) (ci := 5) (C := "StackRoomModel") (T := T_R) (N := 25) (v := .ref (adr 16)) hx hb ht in_R hown hK.1 (hP.one hM.1) 0 rfl rfl 16 (by decide) (ht _ fl_R_R_fields) (fun _ h9 => h9) rfl d_R_peek_49 ?_
          refine lv_aload_n hx hb d_R_peek_52 rfl (lv_at hl 1 rfl) ?_
          refine va_get (D := D) (ci := 5) (C := "StackRoomModel") (T := T_R) (N := 25) (v := .ref (adr 14)) hx hb ht in_R hown hK.1 (hP.one hM.1) 0 rfl rfl 14 (by decide) (ht _ fl_R_R_begins) (fun _ h9 => h9) rfl d_R_peek_53 ?_
          refine lv_iload hx hb d_R_peek_56 (lv_at hl 0 rfl) ?_
          refine va_iald hx hb hK.1 (hP.one hM.a14) 0 2 rfl ht2 (vp_in_nI hs (by decide)) d_R_peek_58 ?_
          rw [nI_clamp (by omega)]
          rw [yy14]
          refine lv_aload_n hx hb d_R_peek_59 rfl (lv_at hl 1 rfl) ?_
          refine va_get (D := D) (ci := 5) (C := "StackRoomModel") (T := T_R) (N := 25) (v := .ref (adr 11)) hx hb ht in_R hown hK.1 (hP.one hM.1) 0 rfl rfl 11 (by decide) (ht _ fl_R_R_heights) (fun _ h9 => h9) rfl d_R_peek_60 ?_
          refine lv_iload hx hb d_R_peek_63 (lv_at hl 0 rfl) ?_
          refine va_iald hx hb hK.1 (hP.one hM.a11) 0 2 rfl ht2 (vp_in_nI hs (by decide)) d_R_peek_65 ?_
          rw [nI_clamp (by omega)]
          rw [yy11]
          refine lv_iadd hx hb d_R_peek_66 ?_
          refine lv_iconst (v := 1) hx hb d_R_peek_67 (by decide) ?_
          refine lv_isub hx hb d_R_peek_68 ?_
          refine lv_iload_n hx hb d_R_peek_69 rfl (lv_at hl 4 rfl) ?_
          refine lv_isub hx hb d_R_peek_70 ?_
          refine W.eq (g2 := F0 m 71 ls [.int (nI (bg i + (s_ht σ i - 1 - u.toNatClampNeg))), .ref (adr 16), .int r, .ref (adr 3)]) (by rw [m_pk hu (by omega)]) ?_
          refine va_iald hx hb hK.1 (hP.one hM.a16) 0 2 rfl ht2 (vp_in_nI (show bg i + (s_ht σ i - 1 - u.toNatClampNeg) < 32768 by omega) (by decide)) d_R_peek_71 ?_
          rw [nI_clamp (by omega)]
          rw [hE.2.2.2.2.2.1 i hri hc (s_ht σ i - 1 - u.toNatClampNeg) (by omega)]
          refine gw_iast hx hb hK.1 hP hS 2 hM.a3 ht2 (m_rin hreg) d_R_peek_72 (fun H locs hP hS => ?_)
          obtain ⟨G1, eG1⟩ : ∃ z : gw_G, z = va_up G (adr 3) (some (.inl (cI, 16, .inl (upd (ar 3) (r.toNatClampNeg) (m_val sl (s_fl σ i (s_ht σ i - 1 - u.toNatClampNeg))))))) := ⟨_, rfl⟩
          replace hP : gw_P D vwCl (gw_A G s.heap.size) G1 H := by rw [eG1]; exact hP
          obtain ⟨ar1, ear1⟩ : ∃ z : Nat → Nat → Int32, z = va_up ar 3 (upd (ar 3) (r.toNatClampNeg) (m_val sl (s_fl σ i (s_ht σ i - 1 - u.toNatClampNeg)))) := ⟨_, rfl⟩
          have hM1 : m_Arr cI cB cZ x w n (s_md σ) adr (nI U) (r0) (r1) (r2) (r3) ar1 G1 := by rw [eG1, ear1]; exact hM.put (k := 3) (by decide) _
          have hE1 : m_Sem (s_rch (s_put σ r (s_fl σ i (s_ht σ i - 1 - u.toNatClampNeg)))) (s_put σ r (s_fl σ i (s_ht σ i - 1 - u.toNatClampNeg))) sl bg U ar1 := by rw [ear1]; exact (hE.reg _ _).mono (fun _ h => s_setR_rch (fun j e => s_rch_edge hri ⟨hc, Or.inr (Or.inr ⟨_, by omega, e⟩)⟩) h)
          refine lv_iconst (v := 1) hx hb d_R_peek_73 (by decide) ?_
          exact W.zret (v := 1) hx hb hr rfl (fun t ht hW => ⟨⟨_, G1, rfl, (by rw [show p_peek σ r cx u = (1, s_put σ r (s_fl σ i (s_ht σ i - 1 - u.toNatClampNeg))) from (by simp only [p_peek, hci]; rw [if_pos ⟨hreg, hu, hlt⟩])]; exact ⟨rfl, adr, ar1, sl, bg, U, _, _, _, _, hM1, hE1⟩), g_fin ht hP⟩, hS.F ht⟩) hS.2.2 d_R_peek_74
        · refine lv_iconst (v := 0) hx hb d_R_peek_41 (by decide) ?_
          exact W.zret (v := 0) hx hb hr rfl (fun t ht hW => ⟨⟨_, G, rfl, (by rw [show p_peek σ r cx u = (0, σ) from (by simp only [p_peek, hci]; rw [if_neg (fun z => cl ((dp_lt (by omega) (by omega) hu).mpr z.2.2))])]; exact ⟨rfl, adr, ar, sl, bg, U, r0, r1, r2, r3, hM, hE⟩), g_fin ht hP⟩, hS.F ht⟩) hS.2.2 d_R_peek_42
set_option maxHeartbeats 4000000 in
set_option maxRecDepth 100000 in
theorem k_R_height (l : Launch) (hR0 : m_R w n cI cB cZ σ x G) (hO : s_OK w n σ) (hV : s_NV σ) (hw : 128 ≤ w ∧ w ≤ 32768) (hn : 16 ≤ n ∧ n ≤ 4096) (hm : s_md σ + 2 < 2 ^ 31) (ht2 : tys[2]? = some (cI, .int)) (ht3 : tys[3]? = some (cB, .byte)) (ht4 : tys[4]? = some (cZ, .boolean)) (cx : Int32) : Met l y_R_height w_R_height ({ frames := 3, cells := 0, slots := 0, locals := 65 }) (g_pre D tys G sz [.ref x, .int cx]) (vp_Si (fun rz => rz = p_height σ cx)) 0 0 (fun _ => False) := by
  refine Met.ofW (cc := b_R_height) (maxL := 3) (ret := (some .int)) (by decide) rfl ?_
  intro p e s m args below meth c s₁ B hml hv
  obtain ⟨rfl, hsz, hP, hK⟩ := hv
  have hx := B.exec
  have hb := B.bytes
  have hr := B.returns
  have ht := fun w (hw : w ∈ gt) => atoms_spec (ws := w_R_height) B.pre w (List.mem_cons_of_mem _ hw)
  have hown : s.vm.findClass "StackRoomModel" = some m.cls := findClass_of_methodNamed B.named
  have hlocks := B.notSynchronized
  have C0 : CallFix p m c b_R_height 3 s [.ref x, .int cx].toArray gt "StackRoomModel" := ⟨hx, hb, hml, hown, ht⟩
  have hl := lv_entry ([.ref x, .int cx]) (n := 3) (Nat.le_of_ble_eq_true rfl)
  rw [lg_entry_eq]
  generalize (lg_sl ([.ref x, .int cx]) ++ List.replicate (3 - (lg_sl ([.ref x, .int cx])).length) Slot.unset).toArray = ls at hl ⊢
  have hl : lv_has ls 3 [(0, .ref x), (1, .int cx)] := hl
  obtain ⟨adr, ar, sl, bg, U, r0, r1, r2, r3, hM, hE⟩ := hR0
  refine lv_aload_n hx hb d_R_height_0 rfl (lv_at hl 0 rfl) ?_
  refine lv_iload_n hx hb d_R_height_1 rfl (lv_at hl 1 rfl) ?_
  refine vp_callSi (va_Run.run (r_V (rest := []) C0 [.int cx] (k_R_contextIn l hM hE hO.1 hV ht2 ht3 ht4 cx) ml_R_R_contextIn im_R_contextIn se_R_R_contextIn_R ini_R co_R_contextIn ⟨rfl, hd_R_contextIn⟩ (g_preV (ci := 5) hK hP rfl hM.1) hl.1 d_R_height_2 rfl rfl (Nat.le_of_ble_eq_true rfl) ⟨rfl, rfl⟩ ⟨Nat.le_of_ble_eq_true rfl, Nat.le_of_ble_eq_true rfl⟩ ⟨Nat.le_of_ble_eq_true rfl, Nat.le_of_ble_eq_true rfl⟩)) (fun qc ec => ?_)
  subst ec
  rcases hci : s_ci σ cx with _ | i
  · refine W.eq (g2 := F0 m 5 ls [.int (-1)]) (rfl) ?_
    refine lv_istore_n (lv' := [(2, .int (-1)), (0, .ref x), (1, .int cx)]) hx hb d_R_height_5 rfl hl (by decide) rfl (fun ls hl => ?_)
    refine lv_iload_n hx hb d_R_height_6 rfl (lv_at hl 0 rfl) ?_
    refine lv_if_ge (tgt := 14) hx hb d_R_height_7 (by decide) (fun z => absurd z (by decide)) (fun _ => ?_)
    refine lv_iconst (v := (-1)) hx hb d_R_height_10 (by decide) ?_
    refine lv_goto (tgt := 20) hx hb d_R_height_11 (by decide) ?_
    exact W.iret (v := (-1)) hx hb hr (fun t ht hW => ⟨_, rfl, (by simp only [p_height, hci]), ht⟩) (fun _ h => by cases h) d_R_height_20
  · refine W.eq (g2 := F0 m 5 ls [.int (nI (sl i))]) (rfl) ?_
    have hc := (s_ci_some hci).2.2
    have hri := s_ci_rch hci
    obtain ⟨hs, hk4, hk5⟩ := hE.2.1 i hri
    obtain ⟨yy9, yy10, yy11, yy12, yy14, yy15, qU⟩ := hE.2.2.2.1 i hri hc
    have hU := hE.2.2.2.2.2.2.2.2
    have hb9 := (hO.1.2.2.2.2.2.2 i hc).2
    refine lv_istore_n (lv' := [(2, .int (nI (sl i))), (0, .ref x), (1, .int cx)]) hx hb d_R_height_5 rfl hl (by decide) rfl (fun ls hl => ?_)
    refine lv_iload_n hx hb d_R_height_6 rfl (lv_at hl 0 rfl) ?_
    refine lv_if_ge (tgt := 14) hx hb d_R_height_7 (by decide) (fun _ => ?_) (fun z => absurd (nI_pos' (by omega)) z)
    refine lv_aload_n hx hb d_R_height_14 rfl (lv_at hl 1 rfl) ?_
    refine va_get (D := D) (ci := 5) (C := "StackRoomModel") (T := T_R) (N := 25) (v := .ref (adr 11)) hx hb ht in_R hown hK.1 (hP.one hM.1) 0 rfl rfl 11 (by decide) (ht _ fl_R_R_heights) (fun _ h9 => h9) rfl d_R_height_15 ?_
    refine lv_iload_n hx hb d_R_height_18 rfl (lv_at hl 0 rfl) ?_
    refine va_iald hx hb hK.1 (hP.one hM.a11) 0 2 rfl ht2 (vp_in_nI hs (by decide)) d_R_height_19 ?_
    rw [nI_clamp (by omega)]
    rw [yy11]
    exact W.iret (v := (nI (s_ht σ i))) hx hb hr (fun t ht hW => ⟨_, rfl, (by simp only [p_height, hci]), ht⟩) (fun _ h => by cases h) d_R_height_20
set_option maxHeartbeats 4000000 in
set_option maxRecDepth 100000 in
theorem k_R_room (l : Launch) (hR0 : m_R w n cI cB cZ σ x G) (hO : s_OK w n σ) (hV : s_NV σ) (hw : 128 ≤ w ∧ w ≤ 32768) (hn : 16 ≤ n ∧ n ≤ 4096) (hm : s_md σ + 2 < 2 ^ 31) (ht2 : tys[2]? = some (cI, .int)) (ht3 : tys[3]? = some (cB, .byte)) (ht4 : tys[4]? = some (cZ, .boolean)) (cx : Int32) : Met l y_R_room w_R_room ({ frames := 3, cells := 0, slots := 0, locals := 65 }) (g_pre D tys G sz [.ref x, .int cx]) (vp_Si (fun rz => rz = p_room σ cx)) 0 0 (fun _ => False) := by
  refine Met.ofW (cc := b_R_room) (maxL := 3) (ret := (some .int)) (by decide) rfl ?_
  intro p e s m args below meth c s₁ B hml hv
  obtain ⟨rfl, hsz, hP, hK⟩ := hv
  have hx := B.exec
  have hb := B.bytes
  have hr := B.returns
  have ht := fun w (hw : w ∈ gt) => atoms_spec (ws := w_R_room) B.pre w (List.mem_cons_of_mem _ hw)
  have hown : s.vm.findClass "StackRoomModel" = some m.cls := findClass_of_methodNamed B.named
  have hlocks := B.notSynchronized
  have C0 : CallFix p m c b_R_room 3 s [.ref x, .int cx].toArray gt "StackRoomModel" := ⟨hx, hb, hml, hown, ht⟩
  have hl := lv_entry ([.ref x, .int cx]) (n := 3) (Nat.le_of_ble_eq_true rfl)
  rw [lg_entry_eq]
  generalize (lg_sl ([.ref x, .int cx]) ++ List.replicate (3 - (lg_sl ([.ref x, .int cx])).length) Slot.unset).toArray = ls at hl ⊢
  have hl : lv_has ls 3 [(0, .ref x), (1, .int cx)] := hl
  obtain ⟨adr, ar, sl, bg, U, r0, r1, r2, r3, hM, hE⟩ := hR0
  refine lv_aload_n hx hb d_R_room_0 rfl (lv_at hl 0 rfl) ?_
  refine lv_iload_n hx hb d_R_room_1 rfl (lv_at hl 1 rfl) ?_
  refine vp_callSi (va_Run.run (r_V (rest := []) C0 [.int cx] (k_R_contextIn l hM hE hO.1 hV ht2 ht3 ht4 cx) ml_R_R_contextIn im_R_contextIn se_R_R_contextIn_R ini_R co_R_contextIn ⟨rfl, hd_R_contextIn⟩ (g_preV (ci := 5) hK hP rfl hM.1) hl.1 d_R_room_2 rfl rfl (Nat.le_of_ble_eq_true rfl) ⟨rfl, rfl⟩ ⟨Nat.le_of_ble_eq_true rfl, Nat.le_of_ble_eq_true rfl⟩ ⟨Nat.le_of_ble_eq_true rfl, Nat.le_of_ble_eq_true rfl⟩)) (fun qc ec => ?_)
  subst ec
  rcases hci : s_ci σ cx with _ | i
  · refine W.eq (g2 := F0 m 5 ls [.int (-1)]) (rfl) ?_
    refine lv_istore_n (lv' := [(2, .int (-1)), (0, .ref x), (1, .int cx)]) hx hb d_R_room_5 rfl hl (by decide) rfl (fun ls hl => ?_)
    refine lv_iload_n hx hb d_R_room_6 rfl (lv_at hl 0 rfl) ?_
    refine lv_if_ge (tgt := 14) hx hb d_R_room_7 (by decide) (fun z => absurd z (by decide)) (fun _ => ?_)
    refine lv_iconst (v := (-1)) hx hb d_R_room_10 (by decide) ?_
    refine lv_goto (tgt := 20) hx hb d_R_room_11 (by decide) ?_
    exact W.iret (v := (-1)) hx hb hr (fun t ht hW => ⟨_, rfl, (by simp only [p_room, hci]), ht⟩) (fun _ h => by cases h) d_R_room_20
  · refine W.eq (g2 := F0 m 5 ls [.int (nI (sl i))]) (rfl) ?_
    have hc := (s_ci_some hci).2.2
    have hri := s_ci_rch hci
    obtain ⟨hs, hk4, hk5⟩ := hE.2.1 i hri
    obtain ⟨yy9, yy10, yy11, yy12, yy14, yy15, qU⟩ := hE.2.2.2.1 i hri hc
    have hU := hE.2.2.2.2.2.2.2.2
    have hb9 := (hO.1.2.2.2.2.2.2 i hc).2
    refine lv_istore_n (lv' := [(2, .int (nI (sl i))), (0, .ref x), (1, .int cx)]) hx hb d_R_room_5 rfl hl (by decide) rfl (fun ls hl => ?_)
    refine lv_iload_n hx hb d_R_room_6 rfl (lv_at hl 0 rfl) ?_
    refine lv_if_ge (tgt := 14) hx hb d_R_room_7 (by decide) (fun _ => ?_) (fun z => absurd (nI_pos' (by omega)) z)
    refine lv_aload_n hx hb d_R_room_14 rfl (lv_at hl 1 rfl) ?_
    refine va_get (D := D) (ci := 5) (C := "StackRoomModel") (T := T_R) (N := 25) (v := .ref (adr 15)) hx hb ht in_R hown hK.1 (hP.one hM.1) 0 rfl rfl 15 (by decide) (ht _ fl_R_R_rooms) (fun _ h9 => h9) rfl d_R_room_15 ?_
    refine lv_iload_n hx hb d_R_room_18 rfl (lv_at hl 0 rfl) ?_
    refine va_iald hx hb hK.1 (hP.one hM.a15) 0 2 rfl ht2 (vp_in_nI hs (by decide)) d_R_room_19 ?_
    rw [nI_clamp (by omega)]
    rw [yy15]
    exact W.iret (v := (nI (s_rm σ i))) hx hb hr (fun t ht hW => ⟨_, rfl, (by simp only [p_room, hci]), ht⟩) (fun _ h => by cases h) d_R_room_20
set_option maxHeartbeats 4000000 in
set_option maxRecDepth 100000 in
theorem k_R_floor (l : Launch) (hR0 : m_R w n cI cB cZ σ x G) (hO : s_OK w n σ) (hV : s_NV σ) (hw : 128 ≤ w ∧ w ≤ 32768) (hn : 16 ≤ n ∧ n ≤ 4096) (hm : s_md σ + 2 < 2 ^ 31) (ht2 : tys[2]? = some (cI, .int)) (ht3 : tys[3]? = some (cB, .byte)) (ht4 : tys[4]? = some (cZ, .boolean)) (cx : Int32) : Met l y_R_floor w_R_floor ({ frames := 3, cells := 0, slots := 0, locals := 65 }) (g_pre D tys G sz [.ref x, .int cx]) (vp_Si (fun rz => rz = p_floor σ cx)) 0 0 (fun _ => False) := by
  refine Met.ofW (cc := b_R_floor) (maxL := 3) (ret := (some .int)) (by decide) rfl ?_
  intro p e s m args below meth c s₁ B hml hv
  obtain ⟨rfl, hsz, hP, hK⟩ := hv
  have hx := B.exec
  have hb := B.bytes
  have hr := B.returns
  have ht := fun w (hw : w ∈ gt) => atoms_spec (ws := w_R_floor) B.pre w (List.mem_cons_of_mem _ hw)
  have hown : s.vm.findClass "StackRoomModel" = some m.cls := findClass_of_methodNamed B.named
  have hlocks := B.notSynchronized
  have C0 : CallFix p m c b_R_floor 3 s [.ref x, .int cx].toArray gt "StackRoomModel" := ⟨hx, hb, hml, hown, ht⟩
  have hl := lv_entry ([.ref x, .int cx]) (n := 3) (Nat.le_of_ble_eq_true rfl)
  rw [lg_entry_eq]
  generalize (lg_sl ([.ref x, .int cx]) ++ List.replicate (3 - (lg_sl ([.ref x, .int cx])).length) Slot.unset).toArray = ls at hl ⊢
  have hl : lv_has ls 3 [(0, .ref x), (1, .int cx)] := hl
  obtain ⟨adr, ar, sl, bg, U, r0, r1, r2, r3, hM, hE⟩ := hR0
  refine lv_aload_n hx hb d_R_floor_0 rfl (lv_at hl 0 rfl) ?_
  refine lv_iload_n hx hb d_R_floor_1 rfl (lv_at hl 1 rfl) ?_
  refine vp_callSi (va_Run.run (r_V (rest := []) C0 [.int cx] (k_R_contextIn l hM hE hO.1 hV ht2 ht3 ht4 cx) ml_R_R_contextIn im_R_contextIn se_R_R_contextIn_R ini_R co_R_contextIn ⟨rfl, hd_R_contextIn⟩ (g_preV (ci := 5) hK hP rfl hM.1) hl.1 d_R_floor_2 rfl rfl (Nat.le_of_ble_eq_true rfl) ⟨rfl, rfl⟩ ⟨Nat.le_of_ble_eq_true rfl, Nat.le_of_ble_eq_true rfl⟩ ⟨Nat.le_of_ble_eq_true rfl, Nat.le_of_ble_eq_true rfl⟩)) (fun qc ec => ?_)
  subst ec
  rcases hci : s_ci σ cx with _ | i
  · refine W.eq (g2 := F0 m 5 ls [.int (-1)]) (rfl) ?_
    refine lv_istore_n (lv' := [(2, .int (-1)), (0, .ref x), (1, .int cx)]) hx hb d_R_floor_5 rfl hl (by decide) rfl (fun ls hl => ?_)
    refine lv_iload_n hx hb d_R_floor_6 rfl (lv_at hl 0 rfl) ?_
    refine lv_if_ge (tgt := 14) hx hb d_R_floor_7 (by decide) (fun z => absurd z (by decide)) (fun _ => ?_)
    refine lv_iconst (v := (-1)) hx hb d_R_floor_10 (by decide) ?_
    refine lv_goto (tgt := 19) hx hb d_R_floor_11 (by decide) ?_
    exact W.iret (v := (-1)) hx hb hr (fun t ht hW => ⟨_, rfl, (by simp only [p_floor, hci]), ht⟩) (fun _ h => by cases h) d_R_floor_19
  · refine W.eq (g2 := F0 m 5 ls [.int (nI (sl i))]) (rfl) ?_
    have hc := (s_ci_some hci).2.2
    have hri := s_ci_rch hci
    obtain ⟨hs, hk4, hk5⟩ := hE.2.1 i hri
    obtain ⟨yy9, yy10, yy11, yy12, yy14, yy15, qU⟩ := hE.2.2.2.1 i hri hc
    have hU := hE.2.2.2.2.2.2.2.2
    have hb9 := (hO.1.2.2.2.2.2.2 i hc).2
    refine lv_istore_n (lv' := [(2, .int (nI (sl i))), (0, .ref x), (1, .int cx)]) hx hb d_R_floor_5 rfl hl (by decide) rfl (fun ls hl => ?_)
    refine lv_iload_n hx hb d_R_floor_6 rfl (lv_at hl 0 rfl) ?_
    refine lv_if_ge (tgt := 14) hx hb d_R_floor_7 (by decide) (fun _ => ?_) (fun z => absurd (nI_pos' (by omega)) z)
    refine lv_aload_n hx hb d_R_floor_14 rfl (lv_at hl 1 rfl) ?_
    refine lv_iload_n hx hb d_R_floor_15 rfl (lv_at hl 0 rfl) ?_
    refine vp_callSi (va_Run.run (r_V (rest := []) C0 [.int (nI (sl i))] (k_R_floorOf l hM hE hri hc (s_hro hO.1) ht2 ht3 ht4) ml_R_R_floorOf im_R_floorOf se_R_R_floorOf_R ini_R co_R_floorOf ⟨rfl, hd_R_floorOf⟩ (g_preV (ci := 5) hK hP rfl hM.1) hl.1 d_R_floor_16 rfl rfl (Nat.le_of_ble_eq_true rfl) ⟨rfl, rfl⟩ ⟨Nat.le_of_ble_eq_true rfl, Nat.le_of_ble_eq_true rfl⟩ ⟨Nat.le_of_ble_eq_true rfl, Nat.le_of_ble_eq_true rfl⟩)) (fun qf ef => ?_)
    subst ef
    have hf9 := s_fr_le hO.1 hc
    exact W.iret (v := (nI (s_fr σ i))) hx hb hr (fun t ht hW => ⟨_, rfl, (by simp only [p_floor, hci]), ht⟩) (fun _ h => by cases h) d_R_floor_19
set_option maxHeartbeats 4000000 in
set_option maxRecDepth 100000 in
theorem k_R_count (l : Launch) (hR0 : m_R w n cI cB cZ σ x G) (hO : s_OK w n σ) (hV : s_NV σ) (hw : 128 ≤ w ∧ w ≤ 32768) (hn : 16 ≤ n ∧ n ≤ 4096) (hm : s_md σ + 2 < 2 ^ 31) (ht2 : tys[2]? = some (cI, .int)) (ht3 : tys[3]? = some (cB, .byte)) (ht4 : tys[4]? = some (cZ, .boolean)) (cx : Int32) : Met l y_R_count w_R_count ({ frames := 2, cells := 0, slots := 0, locals := 44 }) (g_pre D tys G sz [.ref x, .int cx]) (vp_Si (fun rz => rz = p_count σ cx)) 0 0 (fun _ => False) := by
  refine Met.ofW (cc := b_R_count) (maxL := 3) (ret := (some .int)) (by decide) rfl ?_
  intro p e s m args below meth c s₁ B hml hv
  obtain ⟨rfl, hsz, hP, hK⟩ := hv
  have hx := B.exec
  have hb := B.bytes
  have hr := B.returns
  have ht := fun w (hw : w ∈ gt) => atoms_spec (ws := w_R_count) B.pre w (List.mem_cons_of_mem _ hw)
  have hown : s.vm.findClass "StackRoomModel" = some m.cls := findClass_of_methodNamed B.named
  have hlocks := B.notSynchronized
  have C0 : CallFix p m c b_R_count 3 s [.ref x, .int cx].toArray gt "StackRoomModel" := ⟨hx, hb, hml, hown, ht⟩
  have hl := lv_entry ([.ref x, .int cx]) (n := 3) (Nat.le_of_ble_eq_true rfl)
  rw [lg_entry_eq]
  generalize (lg_sl ([.ref x, .int cx]) ++ List.replicate (3 - (lg_sl ([.ref x, .int cx])).length) Slot.unset).toArray = ls at hl ⊢
  have hl : lv_has ls 3 [(0, .ref x), (1, .int cx)] := hl
  obtain ⟨adr, ar, sl, bg, U, r0, r1, r2, r3, hM, hE⟩ := hR0
  refine lv_aload_n hx hb d_R_count_0 rfl (lv_at hl 0 rfl) ?_
  refine lv_iload_n hx hb d_R_count_1 rfl (lv_at hl 1 rfl) ?_
  refine lv_iconst (v := 4) hx hb d_R_count_2 (by decide) ?_
  refine lv_iconst (v := 4) hx hb d_R_count_3 (by decide) ?_
  refine vp_callSi (va_Run.run (r_V (rest := []) C0 [.int cx, .int 4, .int 4] (k_R_objectIn l hM hE hO.1 hV ht2 ht3 ht4 cx 4 4) ml_R_R_objectIn im_R_objectIn se_R_R_objectIn_R ini_R co_R_objectIn ⟨rfl, hd_R_objectIn⟩ (g_preV (ci := 5) hK hP rfl hM.1) hl.1 d_R_count_4 rfl rfl (Nat.le_of_ble_eq_true rfl) ⟨rfl, rfl⟩ ⟨Nat.le_of_ble_eq_true rfl, Nat.le_of_ble_eq_true rfl⟩ ⟨Nat.le_of_ble_eq_true rfl, Nat.le_of_ble_eq_true rfl⟩)) (fun qc ec => ?_)
  rw [m_oi_4 hO.1] at ec
  rcases hci : s_ci σ cx with _ | i
  · simp only [hci] at ec
    subst ec
    refine lv_istore_n (lv' := [(2, .int (-1)), (0, .ref x), (1, .int cx)]) hx hb d_R_count_7 rfl hl (by decide) rfl (fun ls hl => ?_)
    refine lv_iload_n hx hb d_R_count_8 rfl (lv_at hl 0 rfl) ?_
    refine lv_if_ge (tgt := 16) hx hb d_R_count_9 (by decide) (fun z => absurd z (by decide)) (fun _ => ?_)
    refine lv_iconst (v := (-1)) hx hb d_R_count_12 (by decide) ?_
    refine lv_goto (tgt := 22) hx hb d_R_count_13 (by decide) ?_
    exact W.iret (v := (-1)) hx hb hr (fun t ht hW => ⟨_, rfl, (by simp only [p_count, hci]), ht⟩) (fun _ h => by cases h) d_R_count_22
  · simp only [hci] at ec
    have hc := (s_ci_some hci).2.2
    have hri := s_ci_rch hci
    obtain ⟨hs, hk4, hk5⟩ := hE.2.1 i hri
    obtain ⟨yy9, yy10, yy11, yy12, yy14, yy15, qU⟩ := hE.2.2.2.1 i hri hc
    have hU := hE.2.2.2.2.2.2.2.2
    have hb9 := (hO.1.2.2.2.2.2.2 i hc).2
    by_cases h4 : s_kd σ i = 4
    · rw [if_pos h4] at ec
      subst ec
      refine lv_istore_n (lv' := [(2, .int (nI (sl i))), (0, .ref x), (1, .int cx)]) hx hb d_R_count_7 rfl hl (by decide) rfl (fun ls hl => ?_)
      refine lv_iload_n hx hb d_R_count_8 rfl (lv_at hl 0 rfl) ?_
      refine lv_if_ge (tgt := 16) hx hb d_R_count_9 (by decide) (fun _ => ?_) (fun z => absurd (nI_pos' (by omega)) z)
      refine lv_aload_n hx hb d_R_count_16 rfl (lv_at hl 1 rfl) ?_
      refine va_get (D := D) (ci := 5) (C := "StackRoomModel") (T := T_R) (N := 25) (v := .ref (adr 13)) hx hb ht in_R hown hK.1 (hP.one hM.1) 0 rfl rfl 13 (by decide) (ht _ fl_R_R_counts) (fun _ h9 => h9) rfl d_R_count_17 ?_
      refine lv_iload_n hx hb d_R_count_20 rfl (lv_at hl 0 rfl) ?_
      refine va_iald hx hb hK.1 (hP.one hM.a13) 0 2 rfl ht2 (vp_in_nI hs (by decide)) d_R_count_21 ?_
      rw [nI_clamp (by omega)]
      rw [hE.2.2.2.2.1 i hri h4]
      exact W.iret (v := (s_ct σ i)) hx hb hr (fun t ht hW => ⟨_, rfl, (by simp only [p_count, hci]; rw [if_pos h4]), ht⟩) (fun _ h => by cases h) d_R_count_22
    · rw [if_neg h4] at ec
      subst ec
      refine lv_istore_n (lv' := [(2, .int (-1)), (0, .ref x), (1, .int cx)]) hx hb d_R_count_7 rfl hl (by decide) rfl (fun ls hl => ?_)
      refine lv_iload_n hx hb d_R_count_8 rfl (lv_at hl 0 rfl) ?_
      refine lv_if_ge (tgt := 16) hx hb d_R_count_9 (by decide) (fun z => absurd z (by decide)) (fun _ => ?_)
      refine lv_iconst (v := (-1)) hx hb d_R_count_12 (by decide) ?_
      refine lv_goto (tgt := 22) hx hb d_R_count_13 (by decide) ?_
      exact W.iret (v := (-1)) hx hb hr (fun t ht hW => ⟨_, rfl, (by simp only [p_count, hci]; rw [if_neg h4]), ht⟩) (fun _ h => by cases h) d_R_count_22
set_option maxHeartbeats 4000000 in
set_option maxRecDepth 100000 in
theorem k_R_home (l : Launch) (hR0 : m_R w n cI cB cZ σ x G) (hO : s_OK w n σ) (hV : s_NV σ) (hw : 128 ≤ w ∧ w ≤ 32768) (hn : 16 ≤ n ∧ n ≤ 4096) (hm : s_md σ + 2 < 2 ^ 31) (ht2 : tys[2]? = some (cI, .int)) (ht3 : tys[3]? = some (cB, .byte)) (ht4 : tys[4]? = some (cZ, .boolean)) (r cx : Int32) : Met l y_R_home w_R_home ({ frames := 3, cells := 0, slots := 0, locals := 65 }) (g_pre D tys G sz [.ref x, .int r, .int cx]) (va_Qi (fun (rz : Int32) (G1 : gw_G) => rz = (p_home σ r cx).1 ∧ m_R w n cI cB cZ (p_home σ r cx).2 x G1) (g_end D G sz) (gw_A G sz)) 0 0 (gw_A G sz) := by
  refine Met.ofW (cc := b_R_home) (maxL := 4) (ret := (some .boolean)) (by decide) rfl ?_
  intro p e s m args below meth c s₁ B hml hv
  obtain ⟨rfl, hsz, hP, hK⟩ := hv
  have hx := B.exec
  have hb := B.bytes
  have hr := B.returns
  have ht := fun w (hw : w ∈ gt) => atoms_spec (ws := w_R_home) B.pre w (List.mem_cons_of_mem _ hw)
  have hown : s.vm.findClass "StackRoomModel" = some m.cls := findClass_of_methodNamed B.named
  have hlocks := B.notSynchronized
  have C0 : CallFix p m c b_R_home 4 s [.ref x, .int r, .int cx].toArray gt "StackRoomModel" := ⟨hx, hb, hml, hown, ht⟩
  subst hsz
  have hP := hP.self (sz := s.heap.size)
  have hA : ∀ q : Nat, s.heap.size ≤ q → gw_A G s.heap.size q := fun q h => Or.inr h
  have hS : va_S (gw_A G s.heap.size) s.heap s.heap [] := va_S.rf
  have hl := lv_entry ([.ref x, .int r, .int cx]) (n := 4) (Nat.le_of_ble_eq_true rfl)
  rw [lg_entry_eq]
  generalize (lg_sl ([.ref x, .int r, .int cx]) ++ List.replicate (4 - (lg_sl ([.ref x, .int r, .int cx])).length) Slot.unset).toArray = ls at hl ⊢
  have hl : lv_has ls 4 [(0, .ref x), (1, .int r), (2, .int cx)] := hl
  obtain ⟨adr, ar, sl, bg, U, r0, r1, r2, r3, hM, hE⟩ := hR0
  refine lv_aload_n hx hb d_R_home_0 rfl (lv_at hl 0 rfl) ?_
  refine lv_iload_n hx hb d_R_home_1 rfl (lv_at hl 2 rfl) ?_
  refine vp_callSi (va_Run.run (r_V (rest := []) C0 [.int cx] (k_R_contextIn l hM hE hO.1 hV ht2 ht3 ht4 cx) ml_R_R_contextIn im_R_contextIn se_R_R_contextIn_R ini_R co_R_contextIn ⟨rfl, hd_R_contextIn⟩ (g_preV (ci := 5) hK hP rfl hM.1) hl.1 d_R_home_2 rfl rfl (Nat.le_of_ble_eq_true rfl) ⟨rfl, rfl⟩ ⟨Nat.le_of_ble_eq_true rfl, Nat.le_of_ble_eq_true rfl⟩ ⟨Nat.le_of_ble_eq_true rfl, Nat.le_of_ble_eq_true rfl⟩)) (fun qc ec => ?_)
  subst ec
  rcases hci : s_ci σ cx with _ | i
  · refine W.eq (g2 := F0 m 5 ls [.int (-1)]) (rfl) ?_
    refine lv_istore_n (lv' := [(3, .int (-1)), (0, .ref x), (1, .int r), (2, .int cx)]) hx hb d_R_home_5 rfl hl (by decide) rfl (fun ls hl => ?_)
    refine lv_iload_n hx hb d_R_home_6 rfl (lv_at hl 0 rfl) ?_
    refine lv_if_lt (tgt := 17) hx hb d_R_home_7 (by decide) (fun _ => ?_) (fun z => absurd (by decide) z)
    refine lv_iconst (v := 0) hx hb d_R_home_17 (by decide) ?_
    exact W.zret (v := 0) hx hb hr rfl (fun t ht hW => ⟨⟨_, G, rfl, (by rw [show p_home σ r cx = (0, σ) from (by simp only [p_home, hci])]; exact ⟨rfl, adr, ar, sl, bg, U, r0, r1, r2, r3, hM, hE⟩), g_fin ht hP⟩, hS.F ht⟩) hS.2.2 d_R_home_18
  · refine W.eq (g2 := F0 m 5 ls [.int (nI (sl i))]) (rfl) ?_
    have hc := (s_ci_some hci).2.2
    have hri := s_ci_rch hci
    obtain ⟨hs, hk4, hk5⟩ := hE.2.1 i hri
    obtain ⟨yy9, yy10, yy11, yy12, yy14, yy15, qU⟩ := hE.2.2.2.1 i hri hc
    have hU := hE.2.2.2.2.2.2.2.2
    have hb9 := (hO.1.2.2.2.2.2.2 i hc).2
    refine lv_istore_n (lv' := [(3, .int (nI (sl i))), (0, .ref x), (1, .int r), (2, .int cx)]) hx hb d_R_home_5 rfl hl (by decide) rfl (fun ls hl => ?_)
    refine lv_iload_n hx hb d_R_home_6 rfl (lv_at hl 0 rfl) ?_
    refine lv_if_lt (tgt := 17) hx hb d_R_home_7 (by decide) (fun z => absurd z (nI_pos (by omega))) (fun _ => ?_)
    refine lv_iload_n hx hb d_R_home_10 rfl (lv_at hl 2 rfl) ?_
    refine vp_callSi (va_Run.run (r_S (rest := []) C0 [.int r] (k_R_isRegister l r) ml_R_R_isRegister st_R_isRegister ini_R co_R_isRegister hd_R_isRegister v_preS hl.1 d_R_home_11 rfl rfl (Nat.le_of_ble_eq_true rfl) ⟨rfl, rfl⟩ ⟨Nat.le_of_ble_eq_true rfl, Nat.le_of_ble_eq_true rfl⟩ ⟨Nat.le_of_ble_eq_true rfl, Nat.le_of_ble_eq_true rfl⟩)) (fun q11 eq11 => ?_)
    refine lv_if_ne (tgt := 19) hx hb d_R_home_14 (by decide) (fun c11 => ?_) (fun c11 => ?_)
    · have hreg : 0 ≤ r ∧ r ≤ 15 := Decidable.byContradiction (fun h => c11 (eq11.trans (if_neg h)))
      refine lv_aload_n hx hb d_R_home_19 rfl (lv_at hl 1 rfl) ?_
      refine va_get (D := D) (ci := 5) (C := "StackRoomModel") (T := T_R) (N := 25) (v := .ref (adr 3)) hx hb ht in_R hown hK.1 (hP.one hM.1) 0 rfl rfl 3 (by decide) (ht _ fl_R_R_registers) (fun _ h9 => h9) rfl d_R_home_20 ?_
      refine lv_iload_n hx hb d_R_home_23 rfl (lv_at hl 2 rfl) ?_
      refine lv_iconst (v := 2) hx hb d_R_home_24 (by decide) ?_
      refine lv_aload_n hx hb d_R_home_25 rfl (lv_at hl 1 rfl) ?_
      refine lv_iload_n hx hb d_R_home_26 rfl (lv_at hl 0 rfl) ?_
      refine vp_callSi (va_Run.run (r_V (rest := [.int 2, .int r, .ref (adr 3)]) C0 [.int (nI (sl i))] (k_R_homeOf l hM hE hri hc ht2 ht3 ht4) ml_R_R_homeOf im_R_homeOf se_R_R_homeOf_R ini_R co_R_homeOf ⟨rfl, hd_R_homeOf⟩ (g_preV (ci := 5) hK hP rfl hM.1) hl.1 d_R_home_27 rfl rfl (Nat.le_of_ble_eq_true rfl) ⟨rfl, rfl⟩ ⟨Nat.le_of_ble_eq_true rfl, Nat.le_of_ble_eq_true rfl⟩ ⟨Nat.le_of_ble_eq_true rfl, Nat.le_of_ble_eq_true rfl⟩)) (fun qh eh => ?_)
      subst eh
      refine lv_imul hx hb d_R_home_30 ?_
      refine lv_iconst (v := 2) hx hb d_R_home_31 (by decide) ?_
      refine lv_iadd hx hb d_R_home_32 ?_
      refine W.eq (g2 := F0 m 33 ls [.int (nI (2 * sl (s_hm σ i) + 2)), .int r, .ref (adr 3)]) (by rw [m_lnk]) ?_
      refine gw_iast hx hb hK.1 hP hS 2 hM.a3 ht2 (m_rin hreg) d_R_home_33 (fun H locs hP hS => ?_)
      obtain ⟨G1, eG1⟩ : ∃ z : gw_G, z = va_up G (adr 3) (some (.inl (cI, 16, .inl (upd (ar 3) (r.toNatClampNeg) (m_val sl (some (.inr (s_hm σ i)))))))) := ⟨_, rfl⟩
      replace hP : gw_P D vwCl (gw_A G s.heap.size) G1 H := by rw [eG1]; exact hP
      obtain ⟨ar1, ear1⟩ : ∃ z : Nat → Nat → Int32, z = va_up ar 3 (upd (ar 3) (r.toNatClampNeg) (m_val sl (some (.inr (s_hm σ i))))) := ⟨_, rfl⟩
      have hM1 : m_Arr cI cB cZ x w n (s_md σ) adr (nI U) (r0) (r1) (r2) (r3) ar1 G1 := by rw [eG1, ear1]; exact hM.put (k := 3) (by decide) _
      have hE1 : m_Sem (s_rch (s_put σ r (some (.inr (s_hm σ i))))) (s_put σ r (some (.inr (s_hm σ i)))) sl bg U ar1 := by rw [ear1]; exact (hE.reg _ _).mono (fun _ h => s_setR_rch (fun j e => by cases e; exact s_hm_rch hri hc) h)
      refine lv_iconst (v := 1) hx hb d_R_home_34 (by decide) ?_
      exact W.zret (v := 1) hx hb hr rfl (fun t ht hW => ⟨⟨_, G1, rfl, (by rw [show p_home σ r cx = (1, s_put σ r (some (.inr (s_hm σ i)))) from (by simp only [p_home, hci]; rw [if_pos hreg])]; exact ⟨rfl, adr, ar1, sl, bg, U, _, _, _, _, hM1, hE1⟩), g_fin ht hP⟩, hS.F ht⟩) hS.2.2 d_R_home_35
    · have hreg : ¬ (0 ≤ r ∧ r ≤ 15) := fun h => absurd (eq11.symm.trans c11) (by rw [if_pos h]; decide)
      refine lv_iconst (v := 0) hx hb d_R_home_17 (by decide) ?_
      exact W.zret (v := 0) hx hb hr rfl (fun t ht hW => ⟨⟨_, G, rfl, (by rw [show p_home σ r cx = (0, σ) from (by simp only [p_home, hci]; rw [if_neg (fun z => hreg z)])]; exact ⟨rfl, adr, ar, sl, bg, U, r0, r1, r2, r3, hM, hE⟩), g_fin ht hP⟩, hS.F ht⟩) hS.2.2 d_R_home_18
set_option maxHeartbeats 4000000 in
set_option maxRecDepth 100000 in
theorem k_R_sender (l : Launch) (hR0 : m_R w n cI cB cZ σ x G) (hO : s_OK w n σ) (hV : s_NV σ) (hw : 128 ≤ w ∧ w ≤ 32768) (hn : 16 ≤ n ∧ n ≤ 4096) (hm : s_md σ + 2 < 2 ^ 31) (ht2 : tys[2]? = some (cI, .int)) (ht3 : tys[3]? = some (cB, .byte)) (ht4 : tys[4]? = some (cZ, .boolean)) (r cx : Int32) : Met l y_R_sender w_R_sender ({ frames := 3, cells := 0, slots := 0, locals := 65 }) (g_pre D tys G sz [.ref x, .int r, .int cx]) (va_Qi (fun (rz : Int32) (G1 : gw_G) => rz = (p_sender σ r cx).1 ∧ m_R w n cI cB cZ (p_sender σ r cx).2 x G1) (g_end D G sz) (gw_A G sz)) 0 0 (gw_A G sz) := by
  refine Met.ofW (cc := b_R_sender) (maxL := 4) (ret := (some .boolean)) (by decide) rfl ?_
  intro p e s m args below meth c s₁ B hml hv
  obtain ⟨rfl, hsz, hP, hK⟩ := hv
  have hx := B.exec
  have hb := B.bytes
  have hr := B.returns
  have ht := fun w (hw : w ∈ gt) => atoms_spec (ws := w_R_sender) B.pre w (List.mem_cons_of_mem _ hw)
  have hown : s.vm.findClass "StackRoomModel" = some m.cls := findClass_of_methodNamed B.named
  have hlocks := B.notSynchronized
  have C0 : CallFix p m c b_R_sender 4 s [.ref x, .int r, .int cx].toArray gt "StackRoomModel" := ⟨hx, hb, hml, hown, ht⟩
  subst hsz
  have hP := hP.self (sz := s.heap.size)
  have hA : ∀ q : Nat, s.heap.size ≤ q → gw_A G s.heap.size q := fun q h => Or.inr h
  have hS : va_S (gw_A G s.heap.size) s.heap s.heap [] := va_S.rf
  have hl := lv_entry ([.ref x, .int r, .int cx]) (n := 4) (Nat.le_of_ble_eq_true rfl)
  rw [lg_entry_eq]
  generalize (lg_sl ([.ref x, .int r, .int cx]) ++ List.replicate (4 - (lg_sl ([.ref x, .int r, .int cx])).length) Slot.unset).toArray = ls at hl ⊢
  have hl : lv_has ls 4 [(0, .ref x), (1, .int r), (2, .int cx)] := hl
  obtain ⟨adr, ar, sl, bg, U, r0, r1, r2, r3, hM, hE⟩ := hR0
  refine lv_aload_n hx hb d_R_sender_0 rfl (lv_at hl 0 rfl) ?_
  refine lv_iload_n hx hb d_R_sender_1 rfl (lv_at hl 2 rfl) ?_
  refine vp_callSi (va_Run.run (r_V (rest := []) C0 [.int cx] (k_R_contextIn l hM hE hO.1 hV ht2 ht3 ht4 cx) ml_R_R_contextIn im_R_contextIn se_R_R_contextIn_R ini_R co_R_contextIn ⟨rfl, hd_R_contextIn⟩ (g_preV (ci := 5) hK hP rfl hM.1) hl.1 d_R_sender_2 rfl rfl (Nat.le_of_ble_eq_true rfl) ⟨rfl, rfl⟩ ⟨Nat.le_of_ble_eq_true rfl, Nat.le_of_ble_eq_true rfl⟩ ⟨Nat.le_of_ble_eq_true rfl, Nat.le_of_ble_eq_true rfl⟩)) (fun qc ec => ?_)
  subst ec
  rcases hci : s_ci σ cx with _ | i
  · refine W.eq (g2 := F0 m 5 ls [.int (-1)]) (rfl) ?_
    refine lv_istore_n (lv' := [(3, .int (-1)), (0, .ref x), (1, .int r), (2, .int cx)]) hx hb d_R_sender_5 rfl hl (by decide) rfl (fun ls hl => ?_)
    refine lv_iload_n hx hb d_R_sender_6 rfl (lv_at hl 0 rfl) ?_
    refine lv_if_lt (tgt := 17) hx hb d_R_sender_7 (by decide) (fun _ => ?_) (fun z => absurd (by decide) z)
    refine lv_iconst (v := 0) hx hb d_R_sender_17 (by decide) ?_
    exact W.zret (v := 0) hx hb hr rfl (fun t ht hW => ⟨⟨_, G, rfl, (by rw [show p_sender σ r cx = (0, σ) from (by simp only [p_sender, hci])]; exact ⟨rfl, adr, ar, sl, bg, U, r0, r1, r2, r3, hM, hE⟩), g_fin ht hP⟩, hS.F ht⟩) hS.2.2 d_R_sender_18
  · refine W.eq (g2 := F0 m 5 ls [.int (nI (sl i))]) (rfl) ?_
    have hc := (s_ci_some hci).2.2
    have hri := s_ci_rch hci
    obtain ⟨hs, hk4, hk5⟩ := hE.2.1 i hri
    obtain ⟨yy9, yy10, yy11, yy12, yy14, yy15, qU⟩ := hE.2.2.2.1 i hri hc
    have hU := hE.2.2.2.2.2.2.2.2
    have hb9 := (hO.1.2.2.2.2.2.2 i hc).2
    refine lv_istore_n (lv' := [(3, .int (nI (sl i))), (0, .ref x), (1, .int r), (2, .int cx)]) hx hb d_R_sender_5 rfl hl (by decide) rfl (fun ls hl => ?_)
    refine lv_iload_n hx hb d_R_sender_6 rfl (lv_at hl 0 rfl) ?_
    refine lv_if_lt (tgt := 17) hx hb d_R_sender_7 (by decide) (fun z => absurd z (nI_pos (by omega))) (fun _ => ?_)
    refine lv_iload_n hx hb d_R_sender_10 rfl (lv_at hl 2 rfl) ?_
    refine vp_callSi (va_Run.run (r_S (rest := []) C0 [.int r] (k_R_isRegister l r) ml_R_R_isRegister st_R_isRegister ini_R co_R_isRegister hd_R_isRegister v_preS hl.1 d_R_sender_11 rfl rfl (Nat.le_of_ble_eq_true rfl) ⟨rfl, rfl⟩ ⟨Nat.le_of_ble_eq_true rfl, Nat.le_of_ble_eq_true rfl⟩ ⟨Nat.le_of_ble_eq_true rfl, Nat.le_of_ble_eq_true rfl⟩)) (fun q11 eq11 => ?_)
    refine lv_if_ne (tgt := 19) hx hb d_R_sender_14 (by decide) (fun c11 => ?_) (fun c11 => ?_)
    · have hreg : 0 ≤ r ∧ r ≤ 15 := Decidable.byContradiction (fun h => c11 (eq11.trans (if_neg h)))
      refine lv_aload_n hx hb d_R_sender_19 rfl (lv_at hl 1 rfl) ?_
      refine va_get (D := D) (ci := 5) (C := "StackRoomModel") (T := T_R) (N := 25) (v := .ref (adr 3)) hx hb ht in_R hown hK.1 (hP.one hM.1) 0 rfl rfl 3 (by decide) (ht _ fl_R_R_registers) (fun _ h9 => h9) rfl d_R_sender_20 ?_
      refine lv_iload_n hx hb d_R_sender_23 rfl (lv_at hl 2 rfl) ?_
      refine lv_aload_n hx hb d_R_sender_24 rfl (lv_at hl 1 rfl) ?_
      refine va_get (D := D) (ci := 5) (C := "StackRoomModel") (T := T_R) (N := 25) (v := .ref (adr 9)) hx hb ht in_R hown hK.1 (hP.one hM.1) 0 rfl rfl 9 (by decide) (ht _ fl_R_R_senders) (fun _ h9 => h9) rfl d_R_sender_25 ?_
      refine lv_iload_n hx hb d_R_sender_28 rfl (lv_at hl 0 rfl) ?_
      refine va_iald hx hb hK.1 (hP.one hM.a9) 0 2 rfl ht2 (vp_in_nI hs (by decide)) d_R_sender_29 ?_
      rw [nI_clamp (by omega)]
      rw [yy9]
      refine gw_iast hx hb hK.1 hP hS 2 hM.a3 ht2 (m_rin hreg) d_R_sender_30 (fun H locs hP hS => ?_)
      obtain ⟨G1, eG1⟩ : ∃ z : gw_G, z = va_up G (adr 3) (some (.inl (cI, 16, .inl (upd (ar 3) (r.toNatClampNeg) (m_val sl ((s_sn σ i).map .inr)))))) := ⟨_, rfl⟩
      replace hP : gw_P D vwCl (gw_A G s.heap.size) G1 H := by rw [eG1]; exact hP
      obtain ⟨ar1, ear1⟩ : ∃ z : Nat → Nat → Int32, z = va_up ar 3 (upd (ar 3) (r.toNatClampNeg) (m_val sl ((s_sn σ i).map .inr))) := ⟨_, rfl⟩
      have hM1 : m_Arr cI cB cZ x w n (s_md σ) adr (nI U) (r0) (r1) (r2) (r3) ar1 G1 := by rw [eG1, ear1]; exact hM.put (k := 3) (by decide) _
      have hE1 : m_Sem (s_rch (s_put σ r ((s_sn σ i).map .inr))) (s_put σ r ((s_sn σ i).map .inr)) sl bg U ar1 := by rw [ear1]; exact (hE.reg _ _).mono (fun _ h => s_setR_rch (fun j e => s_rch_edge hri ⟨hc, Or.inl (sn_inr e)⟩) h)
      refine lv_iconst (v := 1) hx hb d_R_sender_31 (by decide) ?_
      exact W.zret (v := 1) hx hb hr rfl (fun t ht hW => ⟨⟨_, G1, rfl, (by rw [show p_sender σ r cx = (1, s_put σ r ((s_sn σ i).map .inr)) from (by simp only [p_sender, hci]; rw [if_pos hreg])]; exact ⟨rfl, adr, ar1, sl, bg, U, _, _, _, _, hM1, hE1⟩), g_fin ht hP⟩, hS.F ht⟩) hS.2.2 d_R_sender_32
    · have hreg : ¬ (0 ≤ r ∧ r ≤ 15) := fun h => absurd (eq11.symm.trans c11) (by rw [if_pos h]; decide)
      refine lv_iconst (v := 0) hx hb d_R_sender_17 (by decide) ?_
      exact W.zret (v := 0) hx hb hr rfl (fun t ht hW => ⟨⟨_, G, rfl, (by rw [show p_sender σ r cx = (0, σ) from (by simp only [p_sender, hci]; rw [if_neg (fun z => hreg z)])]; exact ⟨rfl, adr, ar, sl, bg, U, r0, r1, r2, r3, hM, hE⟩), g_fin ht hP⟩, hS.F ht⟩) hS.2.2 d_R_sender_18
set_option maxHeartbeats 4000000 in
set_option maxRecDepth 100000 in
theorem k_R_send (l : Launch) (hR0 : m_R w n cI cB cZ σ x G) (hO : s_OK w n σ) (hV : s_NV σ) (hw : 128 ≤ w ∧ w ≤ 32768) (hn : 16 ≤ n ∧ n ≤ 4096) (hm : s_md σ + 2 < 2 ^ 31) (ht2 : tys[2]? = some (cI, .int)) (ht3 : tys[3]? = some (cB, .byte)) (ht4 : tys[4]? = some (cZ, .boolean)) (cx sr : Int32) : Met l y_R_send w_R_send ({ frames := 4, cells := 0, slots := 0, locals := 86 }) (g_pre D tys G sz [.ref x, .int cx, .int sr]) (va_Qi (fun (rz : Int32) (G1 : gw_G) => rz = (p_send σ cx sr).1 ∧ m_R w n cI cB cZ (p_send σ cx sr).2 x G1) (g_end D G sz) (gw_A G sz)) 0 0 (gw_A G sz) := by
  refine Met.ofW (cc := b_R_send) (maxL := 4) (ret := (some .boolean)) (by decide) rfl ?_
  intro p e s m args below meth c s₁ B hml hv
  obtain ⟨rfl, hsz, hP, hK⟩ := hv
  have hx := B.exec
  have hb := B.bytes
  have hr := B.returns
  have ht := fun w (hw : w ∈ gt) => atoms_spec (ws := w_R_send) B.pre w (List.mem_cons_of_mem _ hw)
  have hown : s.vm.findClass "StackRoomModel" = some m.cls := findClass_of_methodNamed B.named
  have hlocks := B.notSynchronized
  have C0 : CallFix p m c b_R_send 4 s [.ref x, .int cx, .int sr].toArray gt "StackRoomModel" := ⟨hx, hb, hml, hown, ht⟩
  subst hsz
  have hP := hP.self (sz := s.heap.size)
  have hA : ∀ q : Nat, s.heap.size ≤ q → gw_A G s.heap.size q := fun q h => Or.inr h
  have hS : va_S (gw_A G s.heap.size) s.heap s.heap [] := va_S.rf
  have hl := lv_entry ([.ref x, .int cx, .int sr]) (n := 4) (Nat.le_of_ble_eq_true rfl)
  rw [lg_entry_eq]
  generalize (lg_sl ([.ref x, .int cx, .int sr]) ++ List.replicate (4 - (lg_sl ([.ref x, .int cx, .int sr])).length) Slot.unset).toArray = ls at hl ⊢
  have hl : lv_has ls 4 [(0, .ref x), (1, .int cx), (2, .int sr)] := hl
  obtain ⟨adr, ar, sl, bg, U, r0, r1, r2, r3, hM, hE⟩ := hR0
  refine lv_aload_n hx hb d_R_send_0 rfl (lv_at hl 0 rfl) ?_
  refine lv_iload_n hx hb d_R_send_1 rfl (lv_at hl 1 rfl) ?_
  refine vp_callSi (va_Run.run (r_V (rest := []) C0 [.int cx] (k_R_contextIn l hM hE hO.1 hV ht2 ht3 ht4 cx) ml_R_R_contextIn im_R_contextIn se_R_R_contextIn_R ini_R co_R_contextIn ⟨rfl, hd_R_contextIn⟩ (g_preV (ci := 5) hK hP rfl hM.1) hl.1 d_R_send_2 rfl rfl (Nat.le_of_ble_eq_true rfl) ⟨rfl, rfl⟩ ⟨Nat.le_of_ble_eq_true rfl, Nat.le_of_ble_eq_true rfl⟩ ⟨Nat.le_of_ble_eq_true rfl, Nat.le_of_ble_eq_true rfl⟩)) (fun qc ec => ?_)
  subst ec
  rcases hci : s_ci σ cx with _ | i
  · refine W.eq (g2 := F0 m 5 ls [.int (-1)]) (rfl) ?_
    refine lv_istore_n (lv' := [(3, .int (-1)), (0, .ref x), (1, .int cx), (2, .int sr)]) hx hb d_R_send_5 rfl hl (by decide) rfl (fun ls hl => ?_)
    refine lv_iload_n hx hb d_R_send_6 rfl (lv_at hl 0 rfl) ?_
    refine lv_if_lt (tgt := 18) hx hb d_R_send_7 (by decide) (fun _ => ?_) (fun z => absurd (by decide) z)
    refine lv_iconst (v := 0) hx hb d_R_send_18 (by decide) ?_
    exact W.zret (v := 0) hx hb hr rfl (fun t ht hW => ⟨⟨_, G, rfl, (by rw [show p_send σ cx sr = (0, σ) from (by simp only [p_send, hci])]; exact ⟨rfl, adr, ar, sl, bg, U, r0, r1, r2, r3, hM, hE⟩), g_fin ht hP⟩, hS.F ht⟩) hS.2.2 d_R_send_19
  · refine W.eq (g2 := F0 m 5 ls [.int (nI (sl i))]) (rfl) ?_
    have hc := (s_ci_some hci).2.2
    have hri := s_ci_rch hci
    obtain ⟨hs, hk4, hk5⟩ := hE.2.1 i hri
    obtain ⟨yy9, yy10, yy11, yy12, yy14, yy15, qU⟩ := hE.2.2.2.1 i hri hc
    have hU := hE.2.2.2.2.2.2.2.2
    have hb9 := (hO.1.2.2.2.2.2.2 i hc).2
    refine lv_istore_n (lv' := [(3, .int (nI (sl i))), (0, .ref x), (1, .int cx), (2, .int sr)]) hx hb d_R_send_5 rfl hl (by decide) rfl (fun ls hl => ?_)
    refine lv_iload_n hx hb d_R_send_6 rfl (lv_at hl 0 rfl) ?_
    refine lv_if_lt (tgt := 18) hx hb d_R_send_7 (by decide) (fun z => absurd z (nI_pos (by omega))) (fun _ => ?_)
    refine lv_aload_n hx hb d_R_send_10 rfl (lv_at hl 1 rfl) ?_
    refine lv_iload_n hx hb d_R_send_11 rfl (lv_at hl 3 rfl) ?_
    refine vp_callSi (va_Run.run (r_V (rest := []) C0 [.int sr] (k_R_isNilOrContext l hM hE hO.1 hV ht2 ht3 ht4 sr) ml_R_R_isNilOrContext im_R_isNilOrContext se_R_R_isNilOrContext_R ini_R co_R_isNilOrContext ⟨rfl, hd_R_isNilOrContext⟩ (g_preV (ci := 5) hK hP rfl hM.1) hl.1 d_R_send_12 rfl rfl (Nat.le_of_ble_eq_true rfl) ⟨rfl, rfl⟩ ⟨Nat.le_of_ble_eq_true rfl, Nat.le_of_ble_eq_true rfl⟩ ⟨Nat.le_of_ble_eq_true rfl, Nat.le_of_ble_eq_true rfl⟩)) (fun q12 eq12 => ?_)
    refine lv_if_ne (tgt := 20) hx hb d_R_send_15 (by decide) (fun c12 => ?_) (fun c12 => ?_)
    · have hsi : (s_si σ sr).isSome = true := Decidable.byContradiction (fun h => c12 (eq12.trans (if_neg h)))
      obtain ⟨o, ho⟩ := Option.isSome_iff_exists.mp hsi
      have hss := s_si_some ho
      have eg : s_rg σ sr.toNatClampNeg = o.map .inr := by
        rcases hss.2 with ⟨e1, e2⟩ | ⟨j, e1, e2, e3⟩
        · rw [e1]; exact e2
        · rw [e1]; exact e2
      refine lv_aload_n hx hb d_R_send_20 rfl (lv_at hl 1 rfl) ?_
      refine va_get (D := D) (ci := 5) (C := "StackRoomModel") (T := T_R) (N := 25) (v := .ref (adr 9)) hx hb ht in_R hown hK.1 (hP.one hM.1) 0 rfl rfl 9 (by decide) (ht _ fl_R_R_senders) (fun _ h9 => h9) rfl d_R_send_21 ?_
      refine lv_iload_n hx hb d_R_send_24 rfl (lv_at hl 0 rfl) ?_
      refine lv_aload_n hx hb d_R_send_25 rfl (lv_at hl 1 rfl) ?_
      refine va_get (D := D) (ci := 5) (C := "StackRoomModel") (T := T_R) (N := 25) (v := .ref (adr 3)) hx hb ht in_R hown hK.1 (hP.one hM.1) 0 rfl rfl 3 (by decide) (ht _ fl_R_R_registers) (fun _ h9 => h9) rfl d_R_send_26 ?_
      refine lv_iload_n hx hb d_R_send_29 rfl (lv_at hl 3 rfl) ?_
      refine va_iald hx hb hK.1 (hP.one hM.a3) 0 2 rfl ht2 (m_rin hss.1) d_R_send_30 ?_
      rw [hE.1 _ (s_reg hss.1)]
      rw [eg]
      refine gw_iast hx hb hK.1 hP hS 2 hM.a9 ht2 (vp_in_nI hs (by decide)) d_R_send_31 (fun H locs hP hS => ?_)
      rw [nI_clamp (by omega)] at hP
      obtain ⟨G1, eG1⟩ : ∃ z : gw_G, z = va_up G (adr 9) (some (.inl (cI, 4096, .inl (upd (ar 9) (sl i) ((m_val sl (o.map .inr))))))) := ⟨_, rfl⟩
      replace hP : gw_P D vwCl (gw_A G s.heap.size) G1 H := by rw [eG1]; exact hP
      obtain ⟨ar1, ear1⟩ : ∃ z : Nat → Nat → Int32, z = va_up ar 9 (upd (ar 9) (sl i) ((m_val sl (o.map .inr)))) := ⟨_, rfl⟩
      have hM1 : m_Arr cI cB cZ x w n (s_md σ) adr (nI U) (r0) (r1) (r2) (r3) ar1 G1 := by rw [eG1, ear1]; exact hM.put (k := 9) (by decide) _
      have hE9 : m_Sem (s_rch (s_setS σ i o)) (s_setS σ i o) sl bg U ar1 := by rw [ear1]; exact (hE.snd hri o).mono (fun _ h => s_setS_rch (fun j e => s_get_rch hss.1 (show s_rg σ sr.toNatClampNeg = some (.inr j) by rw [eg, e]; rfl)) h)
      refine lv_iconst (v := 1) hx hb d_R_send_32 (by decide) ?_
      exact W.zret (v := 1) hx hb hr rfl (fun t ht hW => ⟨⟨_, G1, rfl, (by rw [show p_send σ cx sr = (1, s_setS σ i o) from (by simp only [p_send, hci, ho])]; exact ⟨rfl, adr, _, sl, bg, U, _, _, _, _, hM1, hE9⟩), g_fin ht hP⟩, hS.F ht⟩) hS.2.2 d_R_send_33
    · have hsi : ¬ ((s_si σ sr).isSome = true) := fun h => absurd (eq12.symm.trans c12) (by rw [if_pos h]; decide)
      have hsn : s_si σ sr = none := Option.not_isSome_iff_eq_none.mp hsi
      refine lv_iconst (v := 0) hx hb d_R_send_18 (by decide) ?_
      exact W.zret (v := 0) hx hb hr rfl (fun t ht hW => ⟨⟨_, G, rfl, (by rw [show p_send σ cx sr = (0, σ) from (by simp only [p_send, hci, hsn])]; exact ⟨rfl, adr, ar, sl, bg, U, r0, r1, r2, r3, hM, hE⟩), g_fin ht hP⟩, hS.F ht⟩) hS.2.2 d_R_send_19
set_option maxHeartbeats 4000000 in
set_option maxRecDepth 100000 in
theorem k_R_kill (l : Launch) (hR0 : m_R w n cI cB cZ σ x G) (hO : s_OK w n σ) (hV : s_NV σ) (hw : 128 ≤ w ∧ w ≤ 32768) (hn : 16 ≤ n ∧ n ≤ 4096) (hm : s_md σ + 2 < 2 ^ 31) (ht2 : tys[2]? = some (cI, .int)) (ht3 : tys[3]? = some (cB, .byte)) (ht4 : tys[4]? = some (cZ, .boolean)) (cx d : Int32) (hd : d = 0 ∨ d = 1) : Met l y_R_kill w_R_kill ({ frames := 3, cells := 0, slots := 0, locals := 65 }) (g_pre D tys G sz [.ref x, .int cx, .int d]) (va_Qi (fun (rz : Int32) (G1 : gw_G) => rz = (p_kill σ cx d).1 ∧ m_R w n cI cB cZ (p_kill σ cx d).2 x G1) (g_end D G sz) (gw_A G sz)) 0 0 (gw_A G sz) := by
  refine Met.ofW (cc := b_R_kill) (maxL := 5) (ret := (some .boolean)) (by decide) rfl ?_
  intro p e s m args below meth c s₁ B hml hv
  obtain ⟨rfl, hsz, hP, hK⟩ := hv
  have hx := B.exec
  have hb := B.bytes
  have hr := B.returns
  have ht := fun w (hw : w ∈ gt) => atoms_spec (ws := w_R_kill) B.pre w (List.mem_cons_of_mem _ hw)
  have hown : s.vm.findClass "StackRoomModel" = some m.cls := findClass_of_methodNamed B.named
  have hlocks := B.notSynchronized
  have C0 : CallFix p m c b_R_kill 5 s [.ref x, .int cx, .int d].toArray gt "StackRoomModel" := ⟨hx, hb, hml, hown, ht⟩
  subst hsz
  have hP := hP.self (sz := s.heap.size)
  have hA : ∀ q : Nat, s.heap.size ≤ q → gw_A G s.heap.size q := fun q h => Or.inr h
  have hS : va_S (gw_A G s.heap.size) s.heap s.heap [] := va_S.rf
  have hl := lv_entry ([.ref x, .int cx, .int d]) (n := 5) (Nat.le_of_ble_eq_true rfl)
  rw [lg_entry_eq]
  generalize (lg_sl ([.ref x, .int cx, .int d]) ++ List.replicate (5 - (lg_sl ([.ref x, .int cx, .int d])).length) Slot.unset).toArray = ls at hl ⊢
  have hl : lv_has ls 5 [(0, .ref x), (1, .int cx), (2, .int d)] := hl
  obtain ⟨adr, ar, sl, bg, U, r0, r1, r2, r3, hM, hE⟩ := hR0
  refine lv_aload_n hx hb d_R_kill_0 rfl (lv_at hl 0 rfl) ?_
  refine lv_iload_n hx hb d_R_kill_1 rfl (lv_at hl 1 rfl) ?_
  refine vp_callSi (va_Run.run (r_V (rest := []) C0 [.int cx] (k_R_contextIn l hM hE hO.1 hV ht2 ht3 ht4 cx) ml_R_R_contextIn im_R_contextIn se_R_R_contextIn_R ini_R co_R_contextIn ⟨rfl, hd_R_contextIn⟩ (g_preV (ci := 5) hK hP rfl hM.1) hl.1 d_R_kill_2 rfl rfl (Nat.le_of_ble_eq_true rfl) ⟨rfl, rfl⟩ ⟨Nat.le_of_ble_eq_true rfl, Nat.le_of_ble_eq_true rfl⟩ ⟨Nat.le_of_ble_eq_true rfl, Nat.le_of_ble_eq_true rfl⟩)) (fun qc ec => ?_)
  subst ec
  rcases hci : s_ci σ cx with _ | i
  · refine W.eq (g2 := F0 m 5 ls [.int (-1)]) (rfl) ?_
    refine lv_istore_n (lv' := [(3, .int (-1)), (0, .ref x), (1, .int cx), (2, .int d)]) hx hb d_R_kill_5 rfl hl (by decide) rfl (fun ls hl => ?_)
    refine lv_iload_n hx hb d_R_kill_6 rfl (lv_at hl 0 rfl) ?_
    refine lv_if_ge (tgt := 12) hx hb d_R_kill_7 (by decide) (fun z => absurd z (by decide)) (fun _ => ?_)
    refine lv_iconst (v := 0) hx hb d_R_kill_10 (by decide) ?_
    exact W.zret (v := 0) hx hb hr rfl (fun t ht hW => ⟨⟨_, G, rfl, (by rw [show p_kill σ cx d = (0, σ) from (by simp only [p_kill, hci])]; exact ⟨rfl, adr, ar, sl, bg, U, r0, r1, r2, r3, hM, hE⟩), g_fin ht hP⟩, hS.F ht⟩) hS.2.2 d_R_kill_11
  · refine W.eq (g2 := F0 m 5 ls [.int (nI (sl i))]) (rfl) ?_
    have hc := (s_ci_some hci).2.2
    have hri := s_ci_rch hci
    obtain ⟨hs, hk4, hk5⟩ := hE.2.1 i hri
    obtain ⟨yy9, yy10, yy11, yy12, yy14, yy15, qU⟩ := hE.2.2.2.1 i hri hc
    have hU := hE.2.2.2.2.2.2.2.2
    have hb9 := (hO.1.2.2.2.2.2.2 i hc).2
    refine lv_istore_n (lv' := [(3, .int (nI (sl i))), (0, .ref x), (1, .int cx), (2, .int d)]) hx hb d_R_kill_5 rfl hl (by decide) rfl (fun ls hl => ?_)
    refine lv_iload_n hx hb d_R_kill_6 rfl (lv_at hl 0 rfl) ?_
    refine lv_if_ge (tgt := 12) hx hb d_R_kill_7 (by decide) (fun _ => ?_) (fun z => absurd (nI_pos' (by omega)) z)
    refine lv_aload_n hx hb d_R_kill_12 rfl (lv_at hl 1 rfl) ?_
    refine va_get (D := D) (ci := 5) (C := "StackRoomModel") (T := T_R) (N := 25) (v := .ref (adr 10)) hx hb ht in_R hown hK.1 (hP.one hM.1) 0 rfl rfl 10 (by decide) (ht _ fl_R_R_dead) (fun _ h9 => h9) rfl d_R_kill_13 ?_
    refine lv_iload_n hx hb d_R_kill_16 rfl (lv_at hl 0 rfl) ?_
    refine va_zald hx hb hK.1 (hP.one hM.a10) 0 4 rfl ht4 (vp_in_nI hs (by decide)) d_R_kill_17 ?_
    rw [nI_clamp (by omega)]
    rw [yy10]
    refine lv_istore (lv' := [(4, .int (s_de σ i)), (3, .int (nI (sl i))), (0, .ref x), (1, .int cx), (2, .int d)]) hx hb d_R_kill_18 hl (by decide) rfl (fun ls hl => ?_)
    refine lv_aload_n hx hb d_R_kill_20 rfl (lv_at hl 2 rfl) ?_
    refine va_get (D := D) (ci := 5) (C := "StackRoomModel") (T := T_R) (N := 25) (v := .ref (adr 10)) hx hb ht in_R hown hK.1 (hP.one hM.1) 0 rfl rfl 10 (by decide) (ht _ fl_R_R_dead) (fun _ h9 => h9) rfl d_R_kill_21 ?_
    refine lv_iload_n hx hb d_R_kill_24 rfl (lv_at hl 1 rfl) ?_
    refine lv_iload_n hx hb d_R_kill_25 rfl (lv_at hl 4 rfl) ?_
    refine gw_zast hx hb hK.1 hP hS 4 hM.a10 ht4 (vp_in_nI hs (by decide)) d_R_kill_26 (fun H locs hP hS => ?_)
    rw [nI_clamp (by omega), z_k hd] at hP
    obtain ⟨G1, eG1⟩ : ∃ z : gw_G, z = va_up G (adr 10) (some (.inl (cZ, 4096, .inl (upd (ar 10) (sl i) (d))))) := ⟨_, rfl⟩
    replace hP : gw_P D vwCl (gw_A G s.heap.size) G1 H := by rw [eG1]; exact hP
    obtain ⟨ar1, ear1⟩ : ∃ z : Nat → Nat → Int32, z = va_up ar 10 (upd (ar 10) (sl i) (d)) := ⟨_, rfl⟩
    have hM1 : m_Arr cI cB cZ x w n (s_md σ) adr (nI U) (r0) (r1) (r2) (r3) ar1 G1 := by rw [eG1, ear1]; exact hM.put (k := 10) (by decide) _
    have hE9 : m_Sem (s_rch σ) (s_setD σ i d) sl bg U ar1 := by rw [ear1]; exact hE.ded hri d
    refine lv_iload hx hb d_R_kill_27 (lv_at hl 0 rfl) ?_
    exact W.zret (v := (s_de σ i)) hx hb hr (by rcases hb9.2.2.1 with e | e <;> rw [e] <;> rfl) (fun t ht hW => ⟨⟨_, G1, rfl, (by rw [show p_kill σ cx d = (s_de σ i, s_setD σ i d) from (by simp only [p_kill, hci])]; exact ⟨rfl, adr, _, sl, bg, U, _, _, _, _, hM1, hE9⟩), g_fin ht hP⟩, hS.F ht⟩) hS.2.2 d_R_kill_29
set_option maxHeartbeats 4000000 in
set_option maxRecDepth 100000 in
theorem k_R_temporary (l : Launch) (hR0 : m_R w n cI cB cZ σ x G) (hO : s_OK w n σ) (hV : s_NV σ) (hw : 128 ≤ w ∧ w ≤ 32768) (hn : 16 ≤ n ∧ n ≤ 4096) (hm : s_md σ + 2 < 2 ^ 31) (ht2 : tys[2]? = some (cI, .int)) (ht3 : tys[3]? = some (cB, .byte)) (ht4 : tys[4]? = some (cZ, .boolean)) (r cx ix : Int32) : Met l y_R_temporary w_R_temporary ({ frames := 4, cells := 0, slots := 0, locals := 89 }) (g_pre D tys G sz [.ref x, .int r, .int cx, .int ix]) (va_Qi (fun (rz : Int32) (G1 : gw_G) => rz = (p_temporary σ r cx ix).1 ∧ m_R w n cI cB cZ (p_temporary σ r cx ix).2 x G1) (g_end D G sz) (gw_A G sz)) 0 0 (gw_A G sz) := by
  refine Met.ofW (cc := b_R_temporary) (maxL := 5) (ret := (some .boolean)) (by decide) rfl ?_
  intro p e s m args below meth c s₁ B hml hv
  obtain ⟨rfl, hsz, hP, hK⟩ := hv
  have hx := B.exec
  have hb := B.bytes
  have hr := B.returns
  have ht := fun w (hw : w ∈ gt) => atoms_spec (ws := w_R_temporary) B.pre w (List.mem_cons_of_mem _ hw)
  have hown : s.vm.findClass "StackRoomModel" = some m.cls := findClass_of_methodNamed B.named
  have hlocks := B.notSynchronized
  have C0 : CallFix p m c b_R_temporary 5 s [.ref x, .int r, .int cx, .int ix].toArray gt "StackRoomModel" := ⟨hx, hb, hml, hown, ht⟩
  subst hsz
  have hP := hP.self (sz := s.heap.size)
  have hA : ∀ q : Nat, s.heap.size ≤ q → gw_A G s.heap.size q := fun q h => Or.inr h
  have hS : va_S (gw_A G s.heap.size) s.heap s.heap [] := va_S.rf
  have hl := lv_entry ([.ref x, .int r, .int cx, .int ix]) (n := 5) (Nat.le_of_ble_eq_true rfl)
  rw [lg_entry_eq]
  generalize (lg_sl ([.ref x, .int r, .int cx, .int ix]) ++ List.replicate (5 - (lg_sl ([.ref x, .int r, .int cx, .int ix])).length) Slot.unset).toArray = ls at hl ⊢
  have hl : lv_has ls 5 [(0, .ref x), (1, .int r), (2, .int cx), (3, .int ix)] := hl
  obtain ⟨adr, ar, sl, bg, U, r0, r1, r2, r3, hM, hE⟩ := hR0
  refine lv_aload_n hx hb d_R_temporary_0 rfl (lv_at hl 0 rfl) ?_
  refine lv_iload_n hx hb d_R_temporary_1 rfl (lv_at hl 2 rfl) ?_
  refine lv_iload_n hx hb d_R_temporary_2 rfl (lv_at hl 3 rfl) ?_
  refine vp_callSi (va_Run.run (r_V (rest := []) C0 [.int cx, .int ix] (k_R_placeOf l hM hE hO hV ht2 ht3 ht4 cx ix) ml_R_R_placeOf im_R_placeOf se_R_R_placeOf_R ini_R co_R_placeOf ⟨rfl, hd_R_placeOf⟩ (g_preV (ci := 5) hK hP rfl hM.1) hl.1 d_R_temporary_3 rfl rfl (Nat.le_of_ble_eq_true rfl) ⟨rfl, rfl⟩ ⟨Nat.le_of_ble_eq_true rfl, Nat.le_of_ble_eq_true rfl⟩ ⟨Nat.le_of_ble_eq_true rfl, Nat.le_of_ble_eq_true rfl⟩)) (fun qp ep => ?_)
  unfold m_pl at ep
  rcases hci : s_ci σ cx with _ | i
  · simp only [hci] at ep
    subst ep
    refine lv_istore (lv' := [(4, .int (-1)), (0, .ref x), (1, .int r), (2, .int cx), (3, .int ix)]) hx hb d_R_temporary_6 hl (by decide) rfl (fun ls hl => ?_)
    refine lv_iload hx hb d_R_temporary_8 (lv_at hl 0 rfl) ?_
    refine lv_if_lt (tgt := 20) hx hb d_R_temporary_10 (by decide) (fun _ => ?_) (fun z => absurd (by decide) z)
    refine lv_iconst (v := 0) hx hb d_R_temporary_20 (by decide) ?_
    exact W.zret (v := 0) hx hb hr rfl (fun t ht hW => ⟨⟨_, G, rfl, (by rw [show p_temporary σ r cx ix = (0, σ) from (by simp only [p_temporary, hci])]; exact ⟨rfl, adr, ar, sl, bg, U, r0, r1, r2, r3, hM, hE⟩), g_fin ht hP⟩, hS.F ht⟩) hS.2.2 d_R_temporary_21
  · simp only [hci] at ep
    have hc := (s_ci_some hci).2.2
    have hri := s_ci_rch hci
    obtain ⟨hs, hk4, hk5⟩ := hE.2.1 i hri
    obtain ⟨yy9, yy10, yy11, yy12, yy14, yy15, qU⟩ := hE.2.2.2.1 i hri hc
    have hU := hE.2.2.2.2.2.2.2.2
    have hb9 := (hO.1.2.2.2.2.2.2 i hc).2
    by_cases hin : 0 ≤ ix ∧ ix.toNatClampNeg < s_tt σ (s_og σ (s_hm σ i)) ∧ ix.toNatClampNeg < s_rm σ (s_hm σ i)
    · rw [if_pos hin] at ep
      subst ep
      have h3 := s_hm_kd hO.1 hc
      have hrh := s_hm_rch hri hc
      obtain ⟨-, -, -, t12, t14, t15, tU⟩ := hE.2.2.2.1 _ hrh (Or.inl h3)
      have t16 := hE.2.2.2.2.2.1 _ hrh (Or.inl h3) _ hin.2.2
      have hJ : bg (s_hm σ i) + ix.toNatClampNeg < 32768 := by omega
      refine lv_istore (lv' := [(4, .int (nI (bg (s_hm σ i) + ix.toNatClampNeg))), (0, .ref x), (1, .int r), (2, .int cx), (3, .int ix)]) hx hb d_R_temporary_6 hl (by decide) rfl (fun ls hl => ?_)
      refine lv_iload hx hb d_R_temporary_8 (lv_at hl 0 rfl) ?_
      refine lv_if_lt (tgt := 20) hx hb d_R_temporary_10 (by decide) (fun z => absurd z (nI_pos (by omega))) (fun _ => ?_)
      refine lv_iload_n hx hb d_R_temporary_13 rfl (lv_at hl 2 rfl) ?_
      refine vp_callSi (va_Run.run (r_S (rest := []) C0 [.int r] (k_R_isRegister l r) ml_R_R_isRegister st_R_isRegister ini_R co_R_isRegister hd_R_isRegister v_preS hl.1 d_R_temporary_14 rfl rfl (Nat.le_of_ble_eq_true rfl) ⟨rfl, rfl⟩ ⟨Nat.le_of_ble_eq_true rfl, Nat.le_of_ble_eq_true rfl⟩ ⟨Nat.le_of_ble_eq_true rfl, Nat.le_of_ble_eq_true rfl⟩)) (fun q14 eq14 => ?_)
      refine lv_if_ne (tgt := 22) hx hb d_R_temporary_17 (by decide) (fun c14 => ?_) (fun c14 => ?_)
      · have hreg : 0 ≤ r ∧ r ≤ 15 := Decidable.byContradiction (fun h => c14 (eq14.trans (if_neg h)))
        refine lv_aload_n hx hb d_R_temporary_22 rfl (lv_at hl 1 rfl) ?_
        refine va_get (D := D) (ci := 5) (C := "StackRoomModel") (T := T_R) (N := 25) (v := .ref (adr 3)) hx hb ht in_R hown hK.1 (hP.one hM.1) 0 rfl rfl 3 (by decide) (ht _ fl_R_R_registers) (fun _ h9 => h9) rfl d_R_temporary_23 ?_
        refine lv_iload_n hx hb d_R_temporary_26 rfl (lv_at hl 2 rfl) ?_
        refine lv_aload_n hx hb d_R_temporary_27 rfl (lv_at hl 1 rfl) ?_
        refine va_get (D := D) (ci := 5) (C := "StackRoomModel") (T := T_R) (N := 25) (v := .ref (adr 16)) hx hb ht in_R hown hK.1 (hP.one hM.1) 0 rfl rfl 16 (by decide) (ht _ fl_R_R_fields) (fun _ h9 => h9) rfl d_R_temporary_28 ?_
        refine lv_iload hx hb d_R_temporary_31 (lv_at hl 0 rfl) ?_
        refine va_iald hx hb hK.1 (hP.one hM.a16) 0 2 rfl ht2 (vp_in_nI hJ (by decide)) d_R_temporary_33 ?_
        rw [nI_clamp (by omega)]
        rw [t16]
        refine gw_iast hx hb hK.1 hP hS 2 hM.a3 ht2 (m_rin hreg) d_R_temporary_34 (fun H locs hP hS => ?_)
        obtain ⟨G1, eG1⟩ : ∃ z : gw_G, z = va_up G (adr 3) (some (.inl (cI, 16, .inl (upd (ar 3) (r.toNatClampNeg) (m_val sl (s_fl σ (s_hm σ i) ix.toNatClampNeg)))))) := ⟨_, rfl⟩
        replace hP : gw_P D vwCl (gw_A G s.heap.size) G1 H := by rw [eG1]; exact hP
        obtain ⟨ar1, ear1⟩ : ∃ z : Nat → Nat → Int32, z = va_up ar 3 (upd (ar 3) (r.toNatClampNeg) (m_val sl (s_fl σ (s_hm σ i) ix.toNatClampNeg))) := ⟨_, rfl⟩
        have hM1 : m_Arr cI cB cZ x w n (s_md σ) adr (nI U) (r0) (r1) (r2) (r3) ar1 G1 := by rw [eG1, ear1]; exact hM.put (k := 3) (by decide) _
        have hE1 : m_Sem (s_rch (s_put σ r (s_fl σ (s_hm σ i) ix.toNatClampNeg))) (s_put σ r (s_fl σ (s_hm σ i) ix.toNatClampNeg)) sl bg U ar1 := by rw [ear1]; exact (hE.reg _ _).mono (fun _ h => s_setR_rch (fun j e => s_rch_edge hrh ⟨Or.inl h3, Or.inr (Or.inr ⟨_, hin.2.2, e⟩)⟩) h)
        refine lv_iconst (v := 1) hx hb d_R_temporary_35 (by decide) ?_
        exact W.zret (v := 1) hx hb hr rfl (fun t ht hW => ⟨⟨_, G1, rfl, (by rw [show p_temporary σ r cx ix = (1, s_put σ r (s_fl σ (s_hm σ i) ix.toNatClampNeg)) from (by simp only [p_temporary, hci]; rw [if_pos ⟨hreg, hin⟩])]; exact ⟨rfl, adr, ar1, sl, bg, U, _, _, _, _, hM1, hE1⟩), g_fin ht hP⟩, hS.F ht⟩) hS.2.2 d_R_temporary_36
      · have hreg : ¬ (0 ≤ r ∧ r ≤ 15) := fun h => absurd (eq14.symm.trans c14) (by rw [if_pos h]; decide)
        refine lv_iconst (v := 0) hx hb d_R_temporary_20 (by decide) ?_
        exact W.zret (v := 0) hx hb hr rfl (fun t ht hW => ⟨⟨_, G, rfl, (by rw [show p_temporary σ r cx ix = (0, σ) from (by simp only [p_temporary, hci]; rw [if_neg (fun z => hreg z.1)])]; exact ⟨rfl, adr, ar, sl, bg, U, r0, r1, r2, r3, hM, hE⟩), g_fin ht hP⟩, hS.F ht⟩) hS.2.2 d_R_temporary_21
    · rw [if_neg hin] at ep
      subst ep
      refine lv_istore (lv' := [(4, .int (-1)), (0, .ref x), (1, .int r), (2, .int cx), (3, .int ix)]) hx hb d_R_temporary_6 hl (by decide) rfl (fun ls hl => ?_)
      refine lv_iload hx hb d_R_temporary_8 (lv_at hl 0 rfl) ?_
      refine lv_if_lt (tgt := 20) hx hb d_R_temporary_10 (by decide) (fun _ => ?_) (fun z => absurd (by decide) z)
      refine lv_iconst (v := 0) hx hb d_R_temporary_20 (by decide) ?_
      exact W.zret (v := 0) hx hb hr rfl (fun t ht hW => ⟨⟨_, G, rfl, (by rw [show p_temporary σ r cx ix = (0, σ) from (by simp only [p_temporary, hci]; rw [if_neg (fun z => hin z.2)])]; exact ⟨rfl, adr, ar, sl, bg, U, r0, r1, r2, r3, hM, hE⟩), g_fin ht hP⟩, hS.F ht⟩) hS.2.2 d_R_temporary_21
set_option maxHeartbeats 4000000 in
set_option maxRecDepth 100000 in
theorem k_R_keep (l : Launch) (hR0 : m_R w n cI cB cZ σ x G) (hO : s_OK w n σ) (hV : s_NV σ) (hw : 128 ≤ w ∧ w ≤ 32768) (hn : 16 ≤ n ∧ n ≤ 4096) (hm : s_md σ + 2 < 2 ^ 31) (ht2 : tys[2]? = some (cI, .int)) (ht3 : tys[3]? = some (cB, .byte)) (ht4 : tys[4]? = some (cZ, .boolean)) (cx ix f : Int32) : Met l y_R_keep w_R_keep ({ frames := 4, cells := 0, slots := 0, locals := 89 }) (g_pre D tys G sz [.ref x, .int cx, .int ix, .int f]) (va_Qi (fun (rz : Int32) (G1 : gw_G) => rz = (p_keep σ cx ix f).1 ∧ m_R w n cI cB cZ (p_keep σ cx ix f).2 x G1) (g_end D G sz) (gw_A G sz)) 0 0 (gw_A G sz) := by
  refine Met.ofW (cc := b_R_keep) (maxL := 5) (ret := (some .boolean)) (by decide) rfl ?_
  intro p e s m args below meth c s₁ B hml hv
  obtain ⟨rfl, hsz, hP, hK⟩ := hv
  have hx := B.exec
  have hb := B.bytes
  have hr := B.returns
  have ht := fun w (hw : w ∈ gt) => atoms_spec (ws := w_R_keep) B.pre w (List.mem_cons_of_mem _ hw)
  have hown : s.vm.findClass "StackRoomModel" = some m.cls := findClass_of_methodNamed B.named
  have hlocks := B.notSynchronized
  have C0 : CallFix p m c b_R_keep 5 s [.ref x, .int cx, .int ix, .int f].toArray gt "StackRoomModel" := ⟨hx, hb, hml, hown, ht⟩
  subst hsz
  have hP := hP.self (sz := s.heap.size)
  have hA : ∀ q : Nat, s.heap.size ≤ q → gw_A G s.heap.size q := fun q h => Or.inr h
  have hS : va_S (gw_A G s.heap.size) s.heap s.heap [] := va_S.rf
  have hl := lv_entry ([.ref x, .int cx, .int ix, .int f]) (n := 5) (Nat.le_of_ble_eq_true rfl)
  rw [lg_entry_eq]
  generalize (lg_sl ([.ref x, .int cx, .int ix, .int f]) ++ List.replicate (5 - (lg_sl ([.ref x, .int cx, .int ix, .int f])).length) Slot.unset).toArray = ls at hl ⊢
  have hl : lv_has ls 5 [(0, .ref x), (1, .int cx), (2, .int ix), (3, .int f)] := hl
  obtain ⟨adr, ar, sl, bg, U, r0, r1, r2, r3, hM, hE⟩ := hR0
  refine lv_aload_n hx hb d_R_keep_0 rfl (lv_at hl 0 rfl) ?_
  refine lv_iload_n hx hb d_R_keep_1 rfl (lv_at hl 1 rfl) ?_
  refine lv_iload_n hx hb d_R_keep_2 rfl (lv_at hl 2 rfl) ?_
  refine vp_callSi (va_Run.run (r_V (rest := []) C0 [.int cx, .int ix] (k_R_placeOf l hM hE hO hV ht2 ht3 ht4 cx ix) ml_R_R_placeOf im_R_placeOf se_R_R_placeOf_R ini_R co_R_placeOf ⟨rfl, hd_R_placeOf⟩ (g_preV (ci := 5) hK hP rfl hM.1) hl.1 d_R_keep_3 rfl rfl (Nat.le_of_ble_eq_true rfl) ⟨rfl, rfl⟩ ⟨Nat.le_of_ble_eq_true rfl, Nat.le_of_ble_eq_true rfl⟩ ⟨Nat.le_of_ble_eq_true rfl, Nat.le_of_ble_eq_true rfl⟩)) (fun qp ep => ?_)
  unfold m_pl at ep
  rcases hci : s_ci σ cx with _ | i
  · simp only [hci] at ep
    subst ep
    refine lv_istore (lv' := [(4, .int (-1)), (0, .ref x), (1, .int cx), (2, .int ix), (3, .int f)]) hx hb d_R_keep_6 hl (by decide) rfl (fun ls hl => ?_)
    refine lv_iload hx hb d_R_keep_8 (lv_at hl 0 rfl) ?_
    refine lv_if_lt (tgt := 20) hx hb d_R_keep_10 (by decide) (fun _ => ?_) (fun z => absurd (by decide) z)
    refine lv_iconst (v := 0) hx hb d_R_keep_20 (by decide) ?_
    exact W.zret (v := 0) hx hb hr rfl (fun t ht hW => ⟨⟨_, G, rfl, (by rw [show p_keep σ cx ix f = (0, σ) from (by simp only [p_keep, hci])]; exact ⟨rfl, adr, ar, sl, bg, U, r0, r1, r2, r3, hM, hE⟩), g_fin ht hP⟩, hS.F ht⟩) hS.2.2 d_R_keep_21
  · simp only [hci] at ep
    have hc := (s_ci_some hci).2.2
    have hri := s_ci_rch hci
    obtain ⟨hs, hk4, hk5⟩ := hE.2.1 i hri
    obtain ⟨yy9, yy10, yy11, yy12, yy14, yy15, qU⟩ := hE.2.2.2.1 i hri hc
    have hU := hE.2.2.2.2.2.2.2.2
    have hb9 := (hO.1.2.2.2.2.2.2 i hc).2
    by_cases hin : 0 ≤ ix ∧ ix.toNatClampNeg < s_tt σ (s_og σ (s_hm σ i)) ∧ ix.toNatClampNeg < s_rm σ (s_hm σ i)
    · rw [if_pos hin] at ep
      subst ep
      have h3 := s_hm_kd hO.1 hc
      have hrh := s_hm_rch hri hc
      obtain ⟨-, -, -, t12, t14, t15, tU⟩ := hE.2.2.2.1 _ hrh (Or.inl h3)
      have t16 := hE.2.2.2.2.2.1 _ hrh (Or.inl h3) _ hin.2.2
      have hJ : bg (s_hm σ i) + ix.toNatClampNeg < 32768 := by omega
      refine lv_istore (lv' := [(4, .int (nI (bg (s_hm σ i) + ix.toNatClampNeg))), (0, .ref x), (1, .int cx), (2, .int ix), (3, .int f)]) hx hb d_R_keep_6 hl (by decide) rfl (fun ls hl => ?_)
      refine lv_iload hx hb d_R_keep_8 (lv_at hl 0 rfl) ?_
      refine lv_if_lt (tgt := 20) hx hb d_R_keep_10 (by decide) (fun z => absurd z (nI_pos (by omega))) (fun _ => ?_)
      refine lv_iload_n hx hb d_R_keep_13 rfl (lv_at hl 4 rfl) ?_
      refine vp_callSi (va_Run.run (r_S (rest := []) C0 [.int f] (k_R_isRegister l f) ml_R_R_isRegister st_R_isRegister ini_R co_R_isRegister hd_R_isRegister v_preS hl.1 d_R_keep_14 rfl rfl (Nat.le_of_ble_eq_true rfl) ⟨rfl, rfl⟩ ⟨Nat.le_of_ble_eq_true rfl, Nat.le_of_ble_eq_true rfl⟩ ⟨Nat.le_of_ble_eq_true rfl, Nat.le_of_ble_eq_true rfl⟩)) (fun q14 eq14 => ?_)
      refine lv_if_ne (tgt := 22) hx hb d_R_keep_17 (by decide) (fun c14 => ?_) (fun c14 => ?_)
      · have hregf : 0 ≤ f ∧ f ≤ 15 := Decidable.byContradiction (fun h => c14 (eq14.trans (if_neg h)))
        refine lv_aload_n hx hb d_R_keep_22 rfl (lv_at hl 1 rfl) ?_
        refine va_get (D := D) (ci := 5) (C := "StackRoomModel") (T := T_R) (N := 25) (v := .ref (adr 16)) hx hb ht in_R hown hK.1 (hP.one hM.1) 0 rfl rfl 16 (by decide) (ht _ fl_R_R_fields) (fun _ h9 => h9) rfl d_R_keep_23 ?_
        refine lv_iload hx hb d_R_keep_26 (lv_at hl 0 rfl) ?_
        refine lv_aload_n hx hb d_R_keep_28 rfl (lv_at hl 1 rfl) ?_
        refine va_get (D := D) (ci := 5) (C := "StackRoomModel") (T := T_R) (N := 25) (v := .ref (adr 3)) hx hb ht in_R hown hK.1 (hP.one hM.1) 0 rfl rfl 3 (by decide) (ht _ fl_R_R_registers) (fun _ h9 => h9) rfl d_R_keep_29 ?_
        refine lv_iload_n hx hb d_R_keep_32 rfl (lv_at hl 4 rfl) ?_
        refine va_iald hx hb hK.1 (hP.one hM.a3) 0 2 rfl ht2 (m_rin hregf) d_R_keep_33 ?_
        rw [hE.1 _ (s_reg hregf)]
        refine gw_iast hx hb hK.1 hP hS 2 hM.a16 ht2 (vp_in_nI hJ (by decide)) d_R_keep_34 (fun H locs hP hS => ?_)
        rw [nI_clamp (by omega)] at hP
        obtain ⟨G1, eG1⟩ : ∃ z : gw_G, z = va_up G (adr 16) (some (.inl (cI, 32768, .inl (upd (ar 16) (bg (s_hm σ i) + ix.toNatClampNeg) (m_val sl (s_get σ f)))))) := ⟨_, rfl⟩
        replace hP : gw_P D vwCl (gw_A G s.heap.size) G1 H := by rw [eG1]; exact hP
        obtain ⟨ar1, ear1⟩ : ∃ z : Nat → Nat → Int32, z = va_up ar 16 (upd (ar 16) (bg (s_hm σ i) + ix.toNatClampNeg) (m_val sl (s_get σ f))) := ⟨_, rfl⟩
        have hM1 : m_Arr cI cB cZ x w n (s_md σ) adr (nI U) (r0) (r1) (r2) (r3) ar1 G1 := by rw [eG1, ear1]; exact hM.put (k := 16) (by decide) _
        have hE9 : m_Sem (s_rch (s_setF σ (s_hm σ i) ix.toNatClampNeg (s_get σ f))) (s_setF σ (s_hm σ i) ix.toNatClampNeg (s_get σ f)) sl bg U ar1 := by rw [ear1]; exact (hE.fld hrh (Or.inl h3) hin.2.2 (s_get σ f)).mono (fun _ h => s_setF_rch (fun j e => s_get_rch hregf e) h)
        refine lv_iconst (v := 1) hx hb d_R_keep_35 (by decide) ?_
        exact W.zret (v := 1) hx hb hr rfl (fun t ht hW => ⟨⟨_, G1, rfl, (by rw [show p_keep σ cx ix f = (1, s_setF σ (s_hm σ i) ix.toNatClampNeg (s_get σ f)) from (by simp only [p_keep, hci]; rw [if_pos ⟨hregf, hin⟩])]; exact ⟨rfl, adr, _, sl, bg, U, _, _, _, _, hM1, hE9⟩), g_fin ht hP⟩, hS.F ht⟩) hS.2.2 d_R_keep_36
      · have hregf : ¬ (0 ≤ f ∧ f ≤ 15) := fun h => absurd (eq14.symm.trans c14) (by rw [if_pos h]; decide)
        refine lv_iconst (v := 0) hx hb d_R_keep_20 (by decide) ?_
        exact W.zret (v := 0) hx hb hr rfl (fun t ht hW => ⟨⟨_, G, rfl, (by rw [show p_keep σ cx ix f = (0, σ) from (by simp only [p_keep, hci]; rw [if_neg (fun z => hregf z.1)])]; exact ⟨rfl, adr, ar, sl, bg, U, r0, r1, r2, r3, hM, hE⟩), g_fin ht hP⟩, hS.F ht⟩) hS.2.2 d_R_keep_21
    · rw [if_neg hin] at ep
      subst ep
      refine lv_istore (lv' := [(4, .int (-1)), (0, .ref x), (1, .int cx), (2, .int ix), (3, .int f)]) hx hb d_R_keep_6 hl (by decide) rfl (fun ls hl => ?_)
      refine lv_iload hx hb d_R_keep_8 (lv_at hl 0 rfl) ?_
      refine lv_if_lt (tgt := 20) hx hb d_R_keep_10 (by decide) (fun _ => ?_) (fun z => absurd (by decide) z)
      refine lv_iconst (v := 0) hx hb d_R_keep_20 (by decide) ?_
      exact W.zret (v := 0) hx hb hr rfl (fun t ht hW => ⟨⟨_, G, rfl, (by rw [show p_keep σ cx ix f = (0, σ) from (by simp only [p_keep, hci]; rw [if_neg (fun z => hin z.2)])]; exact ⟨rfl, adr, ar, sl, bg, U, r0, r1, r2, r3, hM, hE⟩), g_fin ht hP⟩, hS.F ht⟩) hS.2.2 d_R_keep_21
set_option maxHeartbeats 4000000 in
set_option maxRecDepth 100000 in
theorem k_R_words (l : Launch) (hR0 : m_R w n cI cB cZ σ x G) (hO : s_OK w n σ) (hV : s_NV σ) (hw : 128 ≤ w ∧ w ≤ 32768) (hn : 16 ≤ n ∧ n ≤ 4096) (hm : s_md σ + 2 < 2 ^ 31) (ht2 : tys[2]? = some (cI, .int)) (ht3 : tys[3]? = some (cB, .byte)) (ht4 : tys[4]? = some (cZ, .boolean)) : Met l y_R_words w_R_words ({ frames := 3, cells := 0, slots := 0, locals := 64 }) (g_pre D tys G sz [.ref x]) (va_Qi (fun (rz : Int32) (G1 : gw_G) => rz = p_words w σ ∧ m_R w n cI cB cZ σ x G1) (g_end D G sz) (gw_A G sz)) 0 0 (gw_A G sz) := by
  refine Met.ofW (cc := b_R_words) (maxL := 1) (ret := (some .int)) (by decide) rfl ?_
  intro p e s m args below meth c s₁ B hml hv
  obtain ⟨rfl, hsz, hP, hK⟩ := hv
  have hx := B.exec
  have hb := B.bytes
  have hr := B.returns
  have ht := fun w (hw : w ∈ gt) => atoms_spec (ws := w_R_words) B.pre w (List.mem_cons_of_mem _ hw)
  have hown : s.vm.findClass "StackRoomModel" = some m.cls := findClass_of_methodNamed B.named
  have hlocks := B.notSynchronized
  have C0 : CallFix p m c b_R_words 1 s [.ref x].toArray gt "StackRoomModel" := ⟨hx, hb, hml, hown, ht⟩
  subst hsz
  have hP := hP.self (sz := s.heap.size)
  have hA : ∀ q : Nat, s.heap.size ≤ q → gw_A G s.heap.size q := fun q h => Or.inr h
  have hS : va_S (gw_A G s.heap.size) s.heap s.heap [] := va_S.rf
  have hl := lv_entry ([.ref x]) (n := 1) (Nat.le_of_ble_eq_true rfl)
  rw [lg_entry_eq]
  generalize (lg_sl ([.ref x]) ++ List.replicate (1 - (lg_sl ([.ref x])).length) Slot.unset).toArray = ls at hl ⊢
  have hl : lv_has ls 1 [(0, .ref x)] := hl
  obtain ⟨adr, ar, sl, bg, U, r0, r1, r2, r3, hM, hE⟩ := hR0
  refine lv_aload_n hx hb d_R_words_0 rfl (lv_at hl 0 rfl) ?_
  refine g_callv hP hS hA (r_V (rest := []) C0 [] (k_R_look l hM hE hO hV hn.2 ht2 ht3 ht4) ml_R_R_look im_R_look se_R_R_look_R ini_R co_R_look ⟨rfl, hd_R_look⟩ (g_preV (ci := 5) hK hP rfl hM.1) hl.1 d_R_words_1 rfl rfl (Nat.le_of_ble_eq_true rfl) ⟨rfl, rfl⟩ ⟨Nat.le_of_ble_eq_true rfl, Nat.le_of_ble_eq_true rfl⟩ ⟨Nat.le_of_ble_eq_true rfl, Nat.le_of_ble_eq_true rfl⟩) (fun G1 H locs hq1 hP hS hz9 hk9 => ?_)
  obtain ⟨ar1, r4, hM1, hse, hs0, hkp⟩ := hq1
  have hE1 : m_Sem (s_rch σ) σ sl bg U ar1 := by
    unfold m_Sem
    rw [hkp 3 (by decide) (by decide), hkp 4 (by decide) (by decide), hkp 5 (by decide) (by decide), hkp 7 (by decide) (by decide), hkp 8 (by decide) (by decide), hkp 9 (by decide) (by decide), hkp 10 (by decide) (by decide), hkp 11 (by decide) (by decide), hkp 12 (by decide) (by decide), hkp 13 (by decide) (by decide), hkp 14 (by decide) (by decide), hkp 15 (by decide) (by decide), hkp 16 (by decide) (by decide)]
    exact hE
  have hW8 := hO.2.1
  have hN8 := hO.2.2
  refine lv_aload_n hx hb d_R_words_4 rfl (lv_at hl 0 rfl) ?_
  refine va_get (D := D) (ci := 5) (C := "StackRoomModel") (T := T_R) (N := 25) (v := .int (nI w)) hx hb ht in_R hown hK.1 (hP.one hM1.1) 0 rfl rfl 0 (by decide) (ht _ fl_R_R_words) (fun _ h9 => h9) rfl d_R_words_5 ?_
  refine lv_bipush (v := 8) hx hb d_R_words_8 (by decide) ?_
  refine lv_isub hx hb d_R_words_10 ?_
  refine lv_aload_n hx hb d_R_words_11 rfl (lv_at hl 0 rfl) ?_
  refine va_get (D := D) (ci := 5) (C := "StackRoomModel") (T := T_R) (N := 25) (v := .int (nI (s_W σ))) hx hb ht in_R hown hK.1 (hP.one hM1.1) 0 rfl rfl 23 (by decide) (ht _ fl_R_R_reachedWords) (fun _ h9 => h9) rfl d_R_words_12 ?_
  refine lv_isub hx hb d_R_words_15 ?_
  refine W.eq (g2 := F0 m 16 ls [.int (nI (w - 8 - s_W σ))]) (by rw [show nI w - 8 = nI (w - 8) from pk_sub (b := 8) (by omega), pk_sub (by omega)]) ?_
  exact W.iret (v := (nI (w - 8 - s_W σ))) hx hb hr (fun t ht hW => ⟨⟨_, G1, rfl, ⟨rfl, adr, ar1, sl, bg, U, _, _, _, _, hM1, hE1⟩, g_fin ht hP⟩, hS.F ht⟩) hS.2.2 d_R_words_16
set_option maxHeartbeats 4000000 in
set_option maxRecDepth 100000 in
theorem k_R_entries (l : Launch) (hR0 : m_R w n cI cB cZ σ x G) (hO : s_OK w n σ) (hV : s_NV σ) (hw : 128 ≤ w ∧ w ≤ 32768) (hn : 16 ≤ n ∧ n ≤ 4096) (hm : s_md σ + 2 < 2 ^ 31) (ht2 : tys[2]? = some (cI, .int)) (ht3 : tys[3]? = some (cB, .byte)) (ht4 : tys[4]? = some (cZ, .boolean)) : Met l y_R_entries w_R_entries ({ frames := 3, cells := 0, slots := 0, locals := 64 }) (g_pre D tys G sz [.ref x]) (va_Qi (fun (rz : Int32) (G1 : gw_G) => rz = p_entries n σ ∧ m_R w n cI cB cZ σ x G1) (g_end D G sz) (gw_A G sz)) 0 0 (gw_A G sz) := by
  refine Met.ofW (cc := b_R_entries) (maxL := 1) (ret := (some .int)) (by decide) rfl ?_
  intro p e s m args below meth c s₁ B hml hv
  obtain ⟨rfl, hsz, hP, hK⟩ := hv
  have hx := B.exec
  have hb := B.bytes
  have hr := B.returns
  have ht := fun w (hw : w ∈ gt) => atoms_spec (ws := w_R_entries) B.pre w (List.mem_cons_of_mem _ hw)
  have hown : s.vm.findClass "StackRoomModel" = some m.cls := findClass_of_methodNamed B.named
  have hlocks := B.notSynchronized
  have C0 : CallFix p m c b_R_entries 1 s [.ref x].toArray gt "StackRoomModel" := ⟨hx, hb, hml, hown, ht⟩
  subst hsz
  have hP := hP.self (sz := s.heap.size)
  have hA : ∀ q : Nat, s.heap.size ≤ q → gw_A G s.heap.size q := fun q h => Or.inr h
  have hS : va_S (gw_A G s.heap.size) s.heap s.heap [] := va_S.rf
  have hl := lv_entry ([.ref x]) (n := 1) (Nat.le_of_ble_eq_true rfl)
  rw [lg_entry_eq]
  generalize (lg_sl ([.ref x]) ++ List.replicate (1 - (lg_sl ([.ref x])).length) Slot.unset).toArray = ls at hl ⊢
  have hl : lv_has ls 1 [(0, .ref x)] := hl
  obtain ⟨adr, ar, sl, bg, U, r0, r1, r2, r3, hM, hE⟩ := hR0
  refine lv_aload_n hx hb d_R_entries_0 rfl (lv_at hl 0 rfl) ?_
  refine g_callv hP hS hA (r_V (rest := []) C0 [] (k_R_look l hM hE hO hV hn.2 ht2 ht3 ht4) ml_R_R_look im_R_look se_R_R_look_R ini_R co_R_look ⟨rfl, hd_R_look⟩ (g_preV (ci := 5) hK hP rfl hM.1) hl.1 d_R_entries_1 rfl rfl (Nat.le_of_ble_eq_true rfl) ⟨rfl, rfl⟩ ⟨Nat.le_of_ble_eq_true rfl, Nat.le_of_ble_eq_true rfl⟩ ⟨Nat.le_of_ble_eq_true rfl, Nat.le_of_ble_eq_true rfl⟩) (fun G1 H locs hq1 hP hS hz9 hk9 => ?_)
  obtain ⟨ar1, r4, hM1, hse, hs0, hkp⟩ := hq1
  have hE1 : m_Sem (s_rch σ) σ sl bg U ar1 := by
    unfold m_Sem
    rw [hkp 3 (by decide) (by decide), hkp 4 (by decide) (by decide), hkp 5 (by decide) (by decide), hkp 7 (by decide) (by decide), hkp 8 (by decide) (by decide), hkp 9 (by decide) (by decide), hkp 10 (by decide) (by decide), hkp 11 (by decide) (by decide), hkp 12 (by decide) (by decide), hkp 13 (by decide) (by decide), hkp 14 (by decide) (by decide), hkp 15 (by decide) (by decide), hkp 16 (by decide) (by decide)]
    exact hE
  have hW8 := hO.2.1
  have hN8 := hO.2.2
  refine lv_aload_n hx hb d_R_entries_4 rfl (lv_at hl 0 rfl) ?_
  refine va_get (D := D) (ci := 5) (C := "StackRoomModel") (T := T_R) (N := 25) (v := .int (nI n)) hx hb ht in_R hown hK.1 (hP.one hM1.1) 0 rfl rfl 1 (by decide) (ht _ fl_R_R_entries) (fun _ h9 => h9) rfl d_R_entries_5 ?_
  refine lv_iconst (v := 2) hx hb d_R_entries_8 (by decide) ?_
  refine lv_isub hx hb d_R_entries_9 ?_
  refine lv_aload_n hx hb d_R_entries_10 rfl (lv_at hl 0 rfl) ?_
  refine va_get (D := D) (ci := 5) (C := "StackRoomModel") (T := T_R) (N := 25) (v := .int (nI (s_N σ))) hx hb ht in_R hown hK.1 (hP.one hM1.1) 0 rfl rfl 22 (by decide) (ht _ fl_R_R_reachedObjects) (fun _ h9 => h9) rfl d_R_entries_11 ?_
  refine lv_isub hx hb d_R_entries_14 ?_
  refine W.eq (g2 := F0 m 15 ls [.int (nI (n - 2 - s_N σ))]) (by rw [show nI n - 2 = nI (n - 2) from pk_sub (b := 2) (by omega), pk_sub (by omega)]) ?_
  exact W.iret (v := (nI (n - 2 - s_N σ))) hx hb hr (fun t ht hW => ⟨⟨_, G1, rfl, ⟨rfl, adr, ar1, sl, bg, U, _, _, _, _, hM1, hE1⟩, g_fin ht hP⟩, hS.F ht⟩) hS.2.2 d_R_entries_15
set_option maxHeartbeats 4000000 in
set_option maxRecDepth 100000 in
theorem k_R_contexts (l : Launch) (hR0 : m_R w n cI cB cZ σ x G) (hO : s_OK w n σ) (hV : s_NV σ) (hw : 128 ≤ w ∧ w ≤ 32768) (hn : 16 ≤ n ∧ n ≤ 4096) (hm : s_md σ + 2 < 2 ^ 31) (ht2 : tys[2]? = some (cI, .int)) (ht3 : tys[3]? = some (cB, .byte)) (ht4 : tys[4]? = some (cZ, .boolean)) : Met l y_R_contexts w_R_contexts ({ frames := 3, cells := 0, slots := 0, locals := 64 }) (g_pre D tys G sz [.ref x]) (va_Qi (fun (rz : Int32) (G1 : gw_G) => rz = p_contexts σ ∧ m_R w n cI cB cZ σ x G1) (g_end D G sz) (gw_A G sz)) 0 0 (gw_A G sz) := by
  refine Met.ofW (cc := b_R_contexts) (maxL := 1) (ret := (some .int)) (by decide) rfl ?_
  intro p e s m args below meth c s₁ B hml hv
  obtain ⟨rfl, hsz, hP, hK⟩ := hv
  have hx := B.exec
  have hb := B.bytes
  have hr := B.returns
  have ht := fun w (hw : w ∈ gt) => atoms_spec (ws := w_R_contexts) B.pre w (List.mem_cons_of_mem _ hw)
  have hown : s.vm.findClass "StackRoomModel" = some m.cls := findClass_of_methodNamed B.named
  have hlocks := B.notSynchronized
  have C0 : CallFix p m c b_R_contexts 1 s [.ref x].toArray gt "StackRoomModel" := ⟨hx, hb, hml, hown, ht⟩
  subst hsz
  have hP := hP.self (sz := s.heap.size)
  have hA : ∀ q : Nat, s.heap.size ≤ q → gw_A G s.heap.size q := fun q h => Or.inr h
  have hS : va_S (gw_A G s.heap.size) s.heap s.heap [] := va_S.rf
  have hl := lv_entry ([.ref x]) (n := 1) (Nat.le_of_ble_eq_true rfl)
  rw [lg_entry_eq]
  generalize (lg_sl ([.ref x]) ++ List.replicate (1 - (lg_sl ([.ref x])).length) Slot.unset).toArray = ls at hl ⊢
  have hl : lv_has ls 1 [(0, .ref x)] := hl
  obtain ⟨adr, ar, sl, bg, U, r0, r1, r2, r3, hM, hE⟩ := hR0
  refine lv_aload_n hx hb d_R_contexts_0 rfl (lv_at hl 0 rfl) ?_
  refine g_callv hP hS hA (r_V (rest := []) C0 [] (k_R_look l hM hE hO hV hn.2 ht2 ht3 ht4) ml_R_R_look im_R_look se_R_R_look_R ini_R co_R_look ⟨rfl, hd_R_look⟩ (g_preV (ci := 5) hK hP rfl hM.1) hl.1 d_R_contexts_1 rfl rfl (Nat.le_of_ble_eq_true rfl) ⟨rfl, rfl⟩ ⟨Nat.le_of_ble_eq_true rfl, Nat.le_of_ble_eq_true rfl⟩ ⟨Nat.le_of_ble_eq_true rfl, Nat.le_of_ble_eq_true rfl⟩) (fun G1 H locs hq1 hP hS hz9 hk9 => ?_)
  obtain ⟨ar1, r4, hM1, hse, hs0, hkp⟩ := hq1
  have hE1 : m_Sem (s_rch σ) σ sl bg U ar1 := by
    unfold m_Sem
    rw [hkp 3 (by decide) (by decide), hkp 4 (by decide) (by decide), hkp 5 (by decide) (by decide), hkp 7 (by decide) (by decide), hkp 8 (by decide) (by decide), hkp 9 (by decide) (by decide), hkp 10 (by decide) (by decide), hkp 11 (by decide) (by decide), hkp 12 (by decide) (by decide), hkp 13 (by decide) (by decide), hkp 14 (by decide) (by decide), hkp 15 (by decide) (by decide), hkp 16 (by decide) (by decide)]
    exact hE
  have hW8 := hO.2.1
  have hN8 := hO.2.2
  refine lv_aload_n hx hb d_R_contexts_4 rfl (lv_at hl 0 rfl) ?_
  refine va_get (D := D) (ci := 5) (C := "StackRoomModel") (T := T_R) (N := 25) (v := .int (nI (s_K σ))) hx hb ht in_R hown hK.1 (hP.one hM1.1) 0 rfl rfl 24 (by decide) (ht _ fl_R_R_reachedContexts) (fun _ h9 => h9) rfl d_R_contexts_5 ?_
  exact W.iret (v := (nI (s_K σ))) hx hb hr (fun t ht hW => ⟨⟨_, G1, rfl, ⟨rfl, adr, ar1, sl, bg, U, _, _, _, _, hM1, hE1⟩, g_fin ht hP⟩, hS.F ht⟩) hS.2.2 d_R_contexts_8
set_option maxHeartbeats 4000000 in
set_option maxRecDepth 100000 in
theorem k_R_drop (l : Launch) (hR0 : m_R w n cI cB cZ σ x G) (hO : s_OK w n σ) (hV : s_NV σ) (hw : 128 ≤ w ∧ w ≤ 32768) (hn : 16 ≤ n ∧ n ≤ 4096) (hm : s_md σ + 2 < 2 ^ 31) (ht2 : tys[2]? = some (cI, .int)) (ht3 : tys[3]? = some (cB, .byte)) (ht4 : tys[4]? = some (cZ, .boolean)) (cx nn : Int32) : Met l y_R_drop w_R_drop ({ frames := 3, cells := 0, slots := 0, locals := 65 }) (g_pre D tys G sz [.ref x, .int cx, .int nn]) (va_Qi (fun (rz : Int32) (G1 : gw_G) => rz = (p_drop σ cx nn).1 ∧ m_R w n cI cB cZ (p_drop σ cx nn).2 x G1) (g_end D G sz) (gw_A G sz)) 0 0 (gw_A G sz) := by
  refine Met.ofW (cc := b_R_drop) (maxL := 5) (ret := (some .boolean)) (by decide) rfl ?_
  intro p e s m args below meth c s₁ B hml hv
  obtain ⟨rfl, hsz, hP, hK⟩ := hv
  have hx := B.exec
  have hb := B.bytes
  have hr := B.returns
  have ht := fun w (hw : w ∈ gt) => atoms_spec (ws := w_R_drop) B.pre w (List.mem_cons_of_mem _ hw)
  have hown : s.vm.findClass "StackRoomModel" = some m.cls := findClass_of_methodNamed B.named
  have hlocks := B.notSynchronized
  have C0 : CallFix p m c b_R_drop 5 s [.ref x, .int cx, .int nn].toArray gt "StackRoomModel" := ⟨hx, hb, hml, hown, ht⟩
  subst hsz
  have hP := hP.self (sz := s.heap.size)
  have hA : ∀ q : Nat, s.heap.size ≤ q → gw_A G s.heap.size q := fun q h => Or.inr h
  have hS : va_S (gw_A G s.heap.size) s.heap s.heap [] := va_S.rf
  have hl := lv_entry ([.ref x, .int cx, .int nn]) (n := 5) (Nat.le_of_ble_eq_true rfl)
  rw [lg_entry_eq]
  generalize (lg_sl ([.ref x, .int cx, .int nn]) ++ List.replicate (5 - (lg_sl ([.ref x, .int cx, .int nn])).length) Slot.unset).toArray = ls at hl ⊢
  have hl : lv_has ls 5 [(0, .ref x), (1, .int cx), (2, .int nn)] := hl
  obtain ⟨adr, ar, sl, bg, U, r0, r1, r2, r3, hM, hE⟩ := hR0
  refine lv_aload_n hx hb d_R_drop_0 rfl (lv_at hl 0 rfl) ?_
  refine lv_iload_n hx hb d_R_drop_1 rfl (lv_at hl 1 rfl) ?_
  refine vp_callSi (va_Run.run (r_V (rest := []) C0 [.int cx] (k_R_contextIn l hM hE hO.1 hV ht2 ht3 ht4 cx) ml_R_R_contextIn im_R_contextIn se_R_R_contextIn_R ini_R co_R_contextIn ⟨rfl, hd_R_contextIn⟩ (g_preV (ci := 5) hK hP rfl hM.1) hl.1 d_R_drop_2 rfl rfl (Nat.le_of_ble_eq_true rfl) ⟨rfl, rfl⟩ ⟨Nat.le_of_ble_eq_true rfl, Nat.le_of_ble_eq_true rfl⟩ ⟨Nat.le_of_ble_eq_true rfl, Nat.le_of_ble_eq_true rfl⟩)) (fun qc ec => ?_)
  subst ec
  rcases hci : s_ci σ cx with _ | i
  · refine W.eq (g2 := F0 m 5 ls [.int (-1)]) (rfl) ?_
    refine lv_istore_n (lv' := [(3, .int (-1)), (0, .ref x), (1, .int cx), (2, .int nn)]) hx hb d_R_drop_5 rfl hl (by decide) rfl (fun ls hl => ?_)
    refine lv_iload_n hx hb d_R_drop_6 rfl (lv_at hl 0 rfl) ?_
    refine lv_if_lt (tgt := 34) hx hb d_R_drop_7 (by decide) (fun _ => ?_) (fun z => absurd (by decide) z)
    refine lv_iconst (v := 0) hx hb d_R_drop_34 (by decide) ?_
    exact W.zret (v := 0) hx hb hr rfl (fun t ht hW => ⟨⟨_, G, rfl, (by rw [show p_drop σ cx nn = (0, σ) from (by simp only [p_drop, hci])]; exact ⟨rfl, adr, ar, sl, bg, U, r0, r1, r2, r3, hM, hE⟩), g_fin ht hP⟩, hS.F ht⟩) hS.2.2 d_R_drop_35
  · refine W.eq (g2 := F0 m 5 ls [.int (nI (sl i))]) (rfl) ?_
    have hc := (s_ci_some hci).2.2
    have hri := s_ci_rch hci
    obtain ⟨hs, hk4, hk5⟩ := hE.2.1 i hri
    obtain ⟨yy9, yy10, yy11, yy12, yy14, yy15, qU⟩ := hE.2.2.2.1 i hri hc
    have hU := hE.2.2.2.2.2.2.2.2
    have hb9 := (hO.1.2.2.2.2.2.2 i hc).2
    refine lv_istore_n (lv' := [(3, .int (nI (sl i))), (0, .ref x), (1, .int cx), (2, .int nn)]) hx hb d_R_drop_5 rfl hl (by decide) rfl (fun ls hl => ?_)
    refine lv_iload_n hx hb d_R_drop_6 rfl (lv_at hl 0 rfl) ?_
    refine lv_if_lt (tgt := 34) hx hb d_R_drop_7 (by decide) (fun z => absurd z (nI_pos (by omega))) (fun _ => ?_)
    refine lv_iload_n hx hb d_R_drop_10 rfl (lv_at hl 3 rfl) ?_
    refine lv_if_lt (tgt := 34) hx hb d_R_drop_11 (by decide) (fun cn => ?_) (fun cn => ?_)
    · refine lv_iconst (v := 0) hx hb d_R_drop_34 (by decide) ?_
      exact W.zret (v := 0) hx hb hr rfl (fun t ht hW => ⟨⟨_, G, rfl, (by rw [show p_drop σ cx nn = (0, σ) from (by simp only [p_drop, hci]; rw [if_neg (fun z => absurd z.1 (Int32.not_le.mpr cn))])]; exact ⟨rfl, adr, ar, sl, bg, U, r0, r1, r2, r3, hM, hE⟩), g_fin ht hP⟩, hS.F ht⟩) hS.2.2 d_R_drop_35
    · have c0 := Int32.not_lt.mp cn
      have hn8 := s_clampI c0
      have hf9 := s_fr_le hO.1 hc
      refine lv_iload_n hx hb d_R_drop_14 rfl (lv_at hl 3 rfl) ?_
      refine lv_if_le (tgt := 36) hx hb d_R_drop_15 (by decide) (fun c1 => ?_) (fun c1 => ?_)
      · have hok : nn = 0 ∨ s_fr σ i + nn.toNatClampNeg ≤ s_ht σ i := Or.inl (s_clamp0 c1 c0)
        have hn7 : s_fr σ i + nn.toNatClampNeg ≤ s_ht σ i ∨ nn.toNatClampNeg = 0 := by
          rcases hok with e | e
          · exact Or.inr (by rw [e]; decide)
          · exact Or.inl e
        refine lv_iconst (v := 0) hx hb d_R_drop_36 (by decide) ?_
        refine lv_istore (lv' := [(4, .int 0), (3, .int (nI (sl i))), (0, .ref x), (1, .int cx), (2, .int nn)]) hx hb d_R_drop_37 hl (by decide) rfl (fun ls hl => ?_)
        obtain ⟨j, ej⟩ : ∃ z : Nat, z = 0 := ⟨_, rfl⟩
        obtain ⟨g, eg⟩ : ∃ z : Nat, z = 100 := ⟨_, rfl⟩
        obtain ⟨G1, eG1⟩ : ∃ z : gw_G, z = G := ⟨_, rfl⟩
        obtain ⟨ar1, ear⟩ : ∃ z : Nat → Nat → Int32, z = ar := ⟨_, rfl⟩
        obtain ⟨H, eH⟩ : ∃ z : Heap, z = s.heap := ⟨_, rfl⟩
        obtain ⟨locs, eL⟩ : ∃ z : List Loc, z = [] := ⟨_, rfl⟩
        have inv : 100 ≤ j + g ∧ j ≤ nn.toNatClampNeg ∧ lv_has ls 5 [(4, .int (nI j)), (3, .int (nI (sl i))), (0, .ref x), (1, .int cx), (2, .int nn)] ∧ gw_P D vwCl (gw_A G s.heap.size) G1 H ∧ va_S (gw_A G s.heap.size) s.heap H locs ∧ m_Arr cI cB cZ x w n (s_md σ) adr (nI U) r0 r1 r2 r3 ar1 G1 ∧ m_Sem (s_rch σ) (s_drop σ i j) sl bg U ar1 := by
          refine ⟨by omega, by omega, by rw [ej]; exact hl, by rw [eG1, eH]; exact hP, by rw [eH, eL]; exact hS, by rw [ear, eG1]; exact hM, by rw [ej, ear]; exact hE⟩
        refine W_heq eH eL ?_
        clear hl hP hS ej eg eG1 ear eH eL
        induction g generalizing j ls H locs G1 ar1
        case zero =>
          obtain ⟨hg, hjn, hl, hP, hS, hM1, hE1⟩ := inv
          obtain ⟨sa, sb, sc, sd⟩ := s_drop_st σ i j
          refine lv_iload hx hb d_R_drop_39 (lv_at hl 0 rfl) ?_
          refine lv_iload_n hx hb d_R_drop_41 rfl (lv_at hl 4 rfl) ?_
          refine lv_icmp_ge (tgt := 57) hx hb d_R_drop_42 (by decide) (fun cj => ?_) (fun cj => ?_)
          · rw [← hn8] at cj
            have hge : nn.toNatClampNeg ≤ j := (nI_leI (by omega) (by omega)).mp cj
            have ej : j = nn.toNatClampNeg := by omega
            refine lv_iconst (v := 1) hx hb d_R_drop_57 (by decide) ?_
            exact W.zret (v := 1) hx hb hr rfl (fun t ht hW => ⟨⟨_, G1, rfl, (by rw [show p_drop σ cx nn = (1, s_drop σ i nn.toNatClampNeg) from (by simp only [p_drop, hci]; rw [if_pos ⟨c0, hok⟩]), ← ej]; exact ⟨rfl, adr, ar1, sl, bg, U, _, _, _, _, by rw [sd]; exact hM1, hE1.mono (fun _ h => s_drop_rch j h)⟩), g_fin ht hP⟩, hS.F ht⟩) hS.2.2 d_R_drop_58
          · have hlt : j < nn.toNatClampNeg := Nat.not_le.mp (fun q => cj (by rw [← hn8]; exact (nI_leI (by omega) (by omega)).mpr q))
            omega
        case succ g ih =>
          obtain ⟨hg, hjn, hl, hP, hS, hM1, hE1⟩ := inv
          obtain ⟨sa, sb, sc, sd⟩ := s_drop_st σ i j
          refine lv_iload hx hb d_R_drop_39 (lv_at hl 0 rfl) ?_
          refine lv_iload_n hx hb d_R_drop_41 rfl (lv_at hl 4 rfl) ?_
          refine lv_icmp_ge (tgt := 57) hx hb d_R_drop_42 (by decide) (fun cj => ?_) (fun cj => ?_)
          · rw [← hn8] at cj
            have hge : nn.toNatClampNeg ≤ j := (nI_leI (by omega) (by omega)).mp cj
            have ej : j = nn.toNatClampNeg := by omega
            refine lv_iconst (v := 1) hx hb d_R_drop_57 (by decide) ?_
            exact W.zret (v := 1) hx hb hr rfl (fun t ht hW => ⟨⟨_, G1, rfl, (by rw [show p_drop σ cx nn = (1, s_drop σ i nn.toNatClampNeg) from (by simp only [p_drop, hci]; rw [if_pos ⟨c0, hok⟩]), ← ej]; exact ⟨rfl, adr, ar1, sl, bg, U, _, _, _, _, by rw [sd]; exact hM1, hE1.mono (fun _ h => s_drop_rch j h)⟩), g_fin ht hP⟩, hS.F ht⟩) hS.2.2 d_R_drop_58
          · have hlt : j < nn.toNatClampNeg := Nat.not_le.mp (fun q => cj (by rw [← hn8]; exact (nI_leI (by omega) (by omega)).mpr q))
            refine lv_aload_n hx hb d_R_drop_45 rfl (lv_at hl 2 rfl) ?_
            refine lv_iload_n hx hb d_R_drop_46 rfl (lv_at hl 1 rfl) ?_
            refine g_calli hP hS hA (r_V (rest := []) C0 [.int (nI (sl i))] (k_R_popped l hM1 hE1 hri (s_drop_isC j hc) (by rw [sa, sb]; omega) (by rw [sa]; omega) ht2 ht3 ht4) ml_R_R_popped im_R_popped se_R_R_popped_R ini_R co_R_popped ⟨rfl, hd_R_popped⟩ (g_preV (ci := 5) hK hP rfl hM1.1) hl.1 d_R_drop_47 rfl rfl (Nat.le_of_ble_eq_true rfl) ⟨rfl, rfl⟩ ⟨Nat.le_of_ble_eq_true rfl, Nat.le_of_ble_eq_true rfl⟩ ⟨Nat.le_of_ble_eq_true rfl, Nat.le_of_ble_eq_true rfl⟩) (fun qz G2 H locs hq hP hS hz9 hk9 => ?_)
            obtain ⟨-, ar2, hM2, hE2⟩ := hq
            refine lv_pop hx hb d_R_drop_50 rfl ?_
            refine lv_iinc (v := nI (j + 1)) (lv' := [(4, .int (nI (j + 1))), (3, .int (nI (sl i))), (0, .ref x), (1, .int cx), (2, .int nn)]) hx hb d_R_drop_51 hl (k := 0) rfl (by rw [← nI_1]; rfl) (by decide) rfl (fun ls hl => ?_)
            refine lv_goto (tgt := 39) hx hb d_R_drop_54 (by decide) ?_
            exact ih (j := j + 1) _ _ _ _ _ ⟨by omega, by omega, lv_sub hl [0, 1, 2, 3, 4] rfl, hP, hS, hM2, hE2⟩
      · refine lv_iload_n hx hb d_R_drop_18 rfl (lv_at hl 3 rfl) ?_
        refine lv_aload_n hx hb d_R_drop_19 rfl (lv_at hl 1 rfl) ?_
        refine va_get (D := D) (ci := 5) (C := "StackRoomModel") (T := T_R) (N := 25) (v := .ref (adr 11)) hx hb ht in_R hown hK.1 (hP.one hM.1) 0 rfl rfl 11 (by decide) (ht _ fl_R_R_heights) (fun _ h9 => h9) rfl d_R_drop_20 ?_
        refine lv_iload_n hx hb d_R_drop_23 rfl (lv_at hl 0 rfl) ?_
        refine va_iald hx hb hK.1 (hP.one hM.a11) 0 2 rfl ht2 (vp_in_nI hs (by decide)) d_R_drop_24 ?_
        rw [nI_clamp (by omega)]
        rw [yy11]
        refine lv_aload_n hx hb d_R_drop_25 rfl (lv_at hl 1 rfl) ?_
        refine lv_iload_n hx hb d_R_drop_26 rfl (lv_at hl 0 rfl) ?_
        refine vp_callSi (va_Run.run (r_V (rest := [.int (nI (s_ht σ i)), .int nn]) C0 [.int (nI (sl i))] (k_R_floorOf l hM hE hri hc (s_hro hO.1) ht2 ht3 ht4) ml_R_R_floorOf im_R_floorOf se_R_R_floorOf_R ini_R co_R_floorOf ⟨rfl, hd_R_floorOf⟩ (g_preV (ci := 5) hK hP rfl hM.1) hl.1 d_R_drop_27 rfl rfl (Nat.le_of_ble_eq_true rfl) ⟨rfl, rfl⟩ ⟨Nat.le_of_ble_eq_true rfl, Nat.le_of_ble_eq_true rfl⟩ ⟨Nat.le_of_ble_eq_true rfl, Nat.le_of_ble_eq_true rfl⟩)) (fun qf ef => ?_)
        subst ef
        have hf9 := s_fr_le hO.1 hc
        refine lv_isub hx hb d_R_drop_30 ?_
        refine lv_icmp_le (tgt := 36) hx hb d_R_drop_31 (by decide) (fun c2 => ?_) (fun c2 => ?_)
        · have hok : nn = 0 ∨ s_fr σ i + nn.toNatClampNeg ≤ s_ht σ i := Or.inr ((dp_le (by omega) (by omega) c0).mp c2)
          have hn7 : s_fr σ i + nn.toNatClampNeg ≤ s_ht σ i ∨ nn.toNatClampNeg = 0 := by
            rcases hok with e | e
            · exact Or.inr (by rw [e]; decide)
            · exact Or.inl e
          refine lv_iconst (v := 0) hx hb d_R_drop_36 (by decide) ?_
          refine lv_istore (lv' := [(4, .int 0), (3, .int (nI (sl i))), (0, .ref x), (1, .int cx), (2, .int nn)]) hx hb d_R_drop_37 hl (by decide) rfl (fun ls hl => ?_)
          obtain ⟨j, ej⟩ : ∃ z : Nat, z = 0 := ⟨_, rfl⟩
          obtain ⟨g, eg⟩ : ∃ z : Nat, z = 100 := ⟨_, rfl⟩
          obtain ⟨G1, eG1⟩ : ∃ z : gw_G, z = G := ⟨_, rfl⟩
          obtain ⟨ar1, ear⟩ : ∃ z : Nat → Nat → Int32, z = ar := ⟨_, rfl⟩
          obtain ⟨H, eH⟩ : ∃ z : Heap, z = s.heap := ⟨_, rfl⟩
          obtain ⟨locs, eL⟩ : ∃ z : List Loc, z = [] := ⟨_, rfl⟩
          have inv : 100 ≤ j + g ∧ j ≤ nn.toNatClampNeg ∧ lv_has ls 5 [(4, .int (nI j)), (3, .int (nI (sl i))), (0, .ref x), (1, .int cx), (2, .int nn)] ∧ gw_P D vwCl (gw_A G s.heap.size) G1 H ∧ va_S (gw_A G s.heap.size) s.heap H locs ∧ m_Arr cI cB cZ x w n (s_md σ) adr (nI U) r0 r1 r2 r3 ar1 G1 ∧ m_Sem (s_rch σ) (s_drop σ i j) sl bg U ar1 := by
            refine ⟨by omega, by omega, by rw [ej]; exact hl, by rw [eG1, eH]; exact hP, by rw [eH, eL]; exact hS, by rw [ear, eG1]; exact hM, by rw [ej, ear]; exact hE⟩
          refine W_heq eH eL ?_
          clear hl hP hS ej eg eG1 ear eH eL
          induction g generalizing j ls H locs G1 ar1
          case zero =>
            obtain ⟨hg, hjn, hl, hP, hS, hM1, hE1⟩ := inv
            obtain ⟨sa, sb, sc, sd⟩ := s_drop_st σ i j
            refine lv_iload hx hb d_R_drop_39 (lv_at hl 0 rfl) ?_
            refine lv_iload_n hx hb d_R_drop_41 rfl (lv_at hl 4 rfl) ?_
            refine lv_icmp_ge (tgt := 57) hx hb d_R_drop_42 (by decide) (fun cj => ?_) (fun cj => ?_)
            · rw [← hn8] at cj
              have hge : nn.toNatClampNeg ≤ j := (nI_leI (by omega) (by omega)).mp cj
              have ej : j = nn.toNatClampNeg := by omega
              refine lv_iconst (v := 1) hx hb d_R_drop_57 (by decide) ?_
              exact W.zret (v := 1) hx hb hr rfl (fun t ht hW => ⟨⟨_, G1, rfl, (by rw [show p_drop σ cx nn = (1, s_drop σ i nn.toNatClampNeg) from (by simp only [p_drop, hci]; rw [if_pos ⟨c0, hok⟩]), ← ej]; exact ⟨rfl, adr, ar1, sl, bg, U, _, _, _, _, by rw [sd]; exact hM1, hE1.mono (fun _ h => s_drop_rch j h)⟩), g_fin ht hP⟩, hS.F ht⟩) hS.2.2 d_R_drop_58
            · have hlt : j < nn.toNatClampNeg := Nat.not_le.mp (fun q => cj (by rw [← hn8]; exact (nI_leI (by omega) (by omega)).mpr q))
              omega
          case succ g ih =>
            obtain ⟨hg, hjn, hl, hP, hS, hM1, hE1⟩ := inv
            obtain ⟨sa, sb, sc, sd⟩ := s_drop_st σ i j
            refine lv_iload hx hb d_R_drop_39 (lv_at hl 0 rfl) ?_
            refine lv_iload_n hx hb d_R_drop_41 rfl (lv_at hl 4 rfl) ?_
            refine lv_icmp_ge (tgt := 57) hx hb d_R_drop_42 (by decide) (fun cj => ?_) (fun cj => ?_)
            · rw [← hn8] at cj
              have hge : nn.toNatClampNeg ≤ j := (nI_leI (by omega) (by omega)).mp cj
              have ej : j = nn.toNatClampNeg := by omega
              refine lv_iconst (v := 1) hx hb d_R_drop_57 (by decide) ?_
              exact W.zret (v := 1) hx hb hr rfl (fun t ht hW => ⟨⟨_, G1, rfl, (by rw [show p_drop σ cx nn = (1, s_drop σ i nn.toNatClampNeg) from (by simp only [p_drop, hci]; rw [if_pos ⟨c0, hok⟩]), ← ej]; exact ⟨rfl, adr, ar1, sl, bg, U, _, _, _, _, by rw [sd]; exact hM1, hE1.mono (fun _ h => s_drop_rch j h)⟩), g_fin ht hP⟩, hS.F ht⟩) hS.2.2 d_R_drop_58
            · have hlt : j < nn.toNatClampNeg := Nat.not_le.mp (fun q => cj (by rw [← hn8]; exact (nI_leI (by omega) (by omega)).mpr q))
              refine lv_aload_n hx hb d_R_drop_45 rfl (lv_at hl 2 rfl) ?_
              refine lv_iload_n hx hb d_R_drop_46 rfl (lv_at hl 1 rfl) ?_
              refine g_calli hP hS hA (r_V (rest := []) C0 [.int (nI (sl i))] (k_R_popped l hM1 hE1 hri (s_drop_isC j hc) (by rw [sa, sb]; omega) (by rw [sa]; omega) ht2 ht3 ht4) ml_R_R_popped im_R_popped se_R_R_popped_R ini_R co_R_popped ⟨rfl, hd_R_popped⟩ (g_preV (ci := 5) hK hP rfl hM1.1) hl.1 d_R_drop_47 rfl rfl (Nat.le_of_ble_eq_true rfl) ⟨rfl, rfl⟩ ⟨Nat.le_of_ble_eq_true rfl, Nat.le_of_ble_eq_true rfl⟩ ⟨Nat.le_of_ble_eq_true rfl, Nat.le_of_ble_eq_true rfl⟩) (fun qz G2 H locs hq hP hS hz9 hk9 => ?_)
              obtain ⟨-, ar2, hM2, hE2⟩ := hq
              refine lv_pop hx hb d_R_drop_50 rfl ?_
              refine lv_iinc (v := nI (j + 1)) (lv' := [(4, .int (nI (j + 1))), (3, .int (nI (sl i))), (0, .ref x), (1, .int cx), (2, .int nn)]) hx hb d_R_drop_51 hl (k := 0) rfl (by rw [← nI_1]; rfl) (by decide) rfl (fun ls hl => ?_)
              refine lv_goto (tgt := 39) hx hb d_R_drop_54 (by decide) ?_
              exact ih (j := j + 1) _ _ _ _ _ ⟨by omega, by omega, lv_sub hl [0, 1, 2, 3, 4] rfl, hP, hS, hM2, hE2⟩
        · have hno : ¬ (nn = 0 ∨ s_fr σ i + nn.toNatClampNeg ≤ s_ht σ i) := fun z => z.elim (fun e => c1 (by rw [e]; decide)) (fun e => c2 ((dp_le (by omega) (by omega) c0).mpr e))
          refine lv_iconst (v := 0) hx hb d_R_drop_34 (by decide) ?_
          exact W.zret (v := 0) hx hb hr rfl (fun t ht hW => ⟨⟨_, G, rfl, (by rw [show p_drop σ cx nn = (0, σ) from (by simp only [p_drop, hci]; rw [if_neg (fun z => hno z.2)])]; exact ⟨rfl, adr, ar, sl, bg, U, r0, r1, r2, r3, hM, hE⟩), g_fin ht hP⟩, hS.F ht⟩) hS.2.2 d_R_drop_35
set_option maxHeartbeats 4000000 in
set_option maxRecDepth 100000 in
theorem k_R_fill (l : Launch) (hR0 : m_R w n cI cB cZ σ x G) (hO : s_OK w n σ) (hV : s_NV σ) (hw : 128 ≤ w ∧ w ≤ 32768) (hn : 16 ≤ n ∧ n ≤ 4096) (hm : s_md σ + 2 < 2 ^ 31) (ht2 : tys[2]? = some (cI, .int)) (ht3 : tys[3]? = some (cB, .byte)) (ht4 : tys[4]? = some (cZ, .boolean)) (cx v nn : Int32) : Met l y_R_fill w_R_fill ({ frames := 3, cells := 0, slots := 0, locals := 65 }) (g_pre D tys G sz [.ref x, .int cx, .int v, .int nn]) (va_Qi (fun (rz : Int32) (G1 : gw_G) => rz = (p_fill σ cx v nn).1 ∧ m_R w n cI cB cZ (p_fill σ cx v nn).2 x G1) (g_end D G sz) (gw_A G sz)) 0 0 (gw_A G sz) := by
  refine Met.ofW (cc := b_R_fill) (maxL := 6) (ret := (some .int)) (by decide) rfl ?_
  intro p e s m args below meth c s₁ B hml hv
  obtain ⟨rfl, hsz, hP, hK⟩ := hv
  have hx := B.exec
  have hb := B.bytes
  have hr := B.returns
  have ht := fun w (hw : w ∈ gt) => atoms_spec (ws := w_R_fill) B.pre w (List.mem_cons_of_mem _ hw)
  have hown : s.vm.findClass "StackRoomModel" = some m.cls := findClass_of_methodNamed B.named
  have hlocks := B.notSynchronized
  have C0 : CallFix p m c b_R_fill 6 s [.ref x, .int cx, .int v, .int nn].toArray gt "StackRoomModel" := ⟨hx, hb, hml, hown, ht⟩
  subst hsz
  have hP := hP.self (sz := s.heap.size)
  have hA : ∀ q : Nat, s.heap.size ≤ q → gw_A G s.heap.size q := fun q h => Or.inr h
  have hS : va_S (gw_A G s.heap.size) s.heap s.heap [] := va_S.rf
  have hl := lv_entry ([.ref x, .int cx, .int v, .int nn]) (n := 6) (Nat.le_of_ble_eq_true rfl)
  rw [lg_entry_eq]
  generalize (lg_sl ([.ref x, .int cx, .int v, .int nn]) ++ List.replicate (6 - (lg_sl ([.ref x, .int cx, .int v, .int nn])).length) Slot.unset).toArray = ls at hl ⊢
  have hl : lv_has ls 6 [(0, .ref x), (1, .int cx), (2, .int v), (3, .int nn)] := hl
  obtain ⟨adr, ar, sl, bg, U, r0, r1, r2, r3, hM, hE⟩ := hR0
  refine lv_aload_n hx hb d_R_fill_0 rfl (lv_at hl 0 rfl) ?_
  refine lv_iload_n hx hb d_R_fill_1 rfl (lv_at hl 1 rfl) ?_
  refine vp_callSi (va_Run.run (r_V (rest := []) C0 [.int cx] (k_R_contextIn l hM hE hO.1 hV ht2 ht3 ht4 cx) ml_R_R_contextIn im_R_contextIn se_R_R_contextIn_R ini_R co_R_contextIn ⟨rfl, hd_R_contextIn⟩ (g_preV (ci := 5) hK hP rfl hM.1) hl.1 d_R_fill_2 rfl rfl (Nat.le_of_ble_eq_true rfl) ⟨rfl, rfl⟩ ⟨Nat.le_of_ble_eq_true rfl, Nat.le_of_ble_eq_true rfl⟩ ⟨Nat.le_of_ble_eq_true rfl, Nat.le_of_ble_eq_true rfl⟩)) (fun qc ec => ?_)
  subst ec
  rcases hci : s_ci σ cx with _ | i
  · refine W.eq (g2 := F0 m 5 ls [.int (-1)]) (rfl) ?_
    refine lv_istore (lv' := [(4, .int (-1)), (0, .ref x), (1, .int cx), (2, .int v), (3, .int nn)]) hx hb d_R_fill_5 hl (by decide) rfl (fun ls hl => ?_)
    refine lv_iload hx hb d_R_fill_7 (lv_at hl 0 rfl) ?_
    refine lv_if_lt (tgt := 22) hx hb d_R_fill_9 (by decide) (fun _ => ?_) (fun z => absurd (by decide) z)
    refine lv_iconst (v := (-1)) hx hb d_R_fill_22 (by decide) ?_
    exact W.iret (v := (-1)) hx hb hr (fun t ht hW => ⟨⟨_, G, rfl, (by rw [show p_fill σ cx v nn = (-1, σ) from (by simp only [p_fill, hci])]; exact ⟨rfl, adr, ar, sl, bg, U, r0, r1, r2, r3, hM, hE⟩), g_fin ht hP⟩, hS.F ht⟩) hS.2.2 d_R_fill_23
  · refine W.eq (g2 := F0 m 5 ls [.int (nI (sl i))]) (rfl) ?_
    have hc := (s_ci_some hci).2.2
    have hri := s_ci_rch hci
    obtain ⟨hs, hk4, hk5⟩ := hE.2.1 i hri
    obtain ⟨yy9, yy10, yy11, yy12, yy14, yy15, qU⟩ := hE.2.2.2.1 i hri hc
    have hU := hE.2.2.2.2.2.2.2.2
    have hb9 := (hO.1.2.2.2.2.2.2 i hc).2
    refine lv_istore (lv' := [(4, .int (nI (sl i))), (0, .ref x), (1, .int cx), (2, .int v), (3, .int nn)]) hx hb d_R_fill_5 hl (by decide) rfl (fun ls hl => ?_)
    refine lv_iload hx hb d_R_fill_7 (lv_at hl 0 rfl) ?_
    refine lv_if_lt (tgt := 22) hx hb d_R_fill_9 (by decide) (fun z => absurd z (nI_pos (by omega))) (fun _ => ?_)
    refine lv_iload_n hx hb d_R_fill_12 rfl (lv_at hl 4 rfl) ?_
    refine lv_if_lt (tgt := 22) hx hb d_R_fill_13 (by decide) (fun cn => ?_) (fun cn => ?_)
    · refine lv_iconst (v := (-1)) hx hb d_R_fill_22 (by decide) ?_
      exact W.iret (v := (-1)) hx hb hr (fun t ht hW => ⟨⟨_, G, rfl, (by rw [show p_fill σ cx v nn = (-1, σ) from (by simp only [p_fill, hci]; rw [if_neg (fun z => absurd z.1.1 (Int32.not_le.mpr cn))])]; exact ⟨rfl, adr, ar, sl, bg, U, r0, r1, r2, r3, hM, hE⟩), g_fin ht hP⟩, hS.F ht⟩) hS.2.2 d_R_fill_23
    · refine lv_iload_n hx hb d_R_fill_16 rfl (lv_at hl 4 rfl) ?_
      refine lv_bipush (v := 100) hx hb d_R_fill_17 (by decide) ?_
      refine lv_icmp_le (tgt := 24) hx hb d_R_fill_19 (by decide) (fun c1 => ?_) (fun c1 => ?_)
      · have hwi : 0 ≤ nn ∧ nn ≤ 100 := ⟨Int32.not_lt.mp cn, c1⟩
        have hn9 : nn.toNatClampNeg ≤ 100 := s_clampLe hwi.1 (by decide) hwi.2
        have hn8 := s_clampI hwi.1
        refine lv_iconst (v := 0) hx hb d_R_fill_24 (by decide) ?_
        refine lv_istore (lv' := [(5, .int 0), (4, .int (nI (sl i))), (0, .ref x), (1, .int cx), (2, .int v), (3, .int nn)]) hx hb d_R_fill_25 hl (by decide) rfl (fun ls hl => ?_)
        obtain ⟨j, ej⟩ : ∃ z : Nat, z = 0 := ⟨_, rfl⟩
        obtain ⟨g, eg⟩ : ∃ z : Nat, z = 100 := ⟨_, rfl⟩
        have inv : 100 ≤ j + g ∧ j ≤ nn.toNatClampNeg ∧ lv_has ls 6 [(5, .int (nI j)), (4, .int (nI (sl i))), (0, .ref x), (1, .int cx), (2, .int v), (3, .int nn)] ∧ ∀ q, q < j → (-1073741824 ≤ v ∧ v ≤ 1073741823) ∧ v ≤ 1073741823 - nI q := by
          refine ⟨by omega, by omega, by rw [ej]; exact hl, fun q hq => absurd hq (by omega)⟩
        clear hl ej eg
        induction g generalizing j ls
        case zero =>
          obtain ⟨hg, hjn, hl, hall⟩ := inv
          refine lv_iload hx hb d_R_fill_27 (lv_at hl 0 rfl) ?_
          refine lv_iload_n hx hb d_R_fill_29 rfl (lv_at hl 5 rfl) ?_
          refine lv_icmp_ge (tgt := 57) hx hb d_R_fill_30 (by decide) (fun cj => ?_) (fun cj => ?_)
          · rw [← hn8] at cj
            have hnm := m_fy hwi.1 hwi.2 ((nI_leI (by omega) (by omega)).mp cj) hall
            clear hall
            refine lv_iconst (v := 0) hx hb d_R_fill_57 (by decide) ?_
            refine lv_istore (lv' := [(5, .int 0), (4, .int (nI (sl i))), (0, .ref x), (1, .int cx), (2, .int v), (3, .int nn)]) hx hb d_R_fill_58 hl (by decide) rfl (fun ls hl => ?_)
            clear hg
            clear cj hjn
            obtain ⟨j2, ej⟩ : ∃ z : Nat, z = 0 := ⟨_, rfl⟩
            obtain ⟨g2, eg⟩ : ∃ z : Nat, z = 100 := ⟨_, rfl⟩
            obtain ⟨G1, eG1⟩ : ∃ z : gw_G, z = G := ⟨_, rfl⟩
            obtain ⟨ar1, ear⟩ : ∃ z : Nat → Nat → Int32, z = ar := ⟨_, rfl⟩
            obtain ⟨H, eH⟩ : ∃ z : Heap, z = s.heap := ⟨_, rfl⟩
            obtain ⟨locs, eL⟩ : ∃ z : List Loc, z = [] := ⟨_, rfl⟩
            have inv2 : 100 ≤ j2 + g2 ∧ j2 ≤ nn.toNatClampNeg ∧ s_ht σ i + j2 ≤ s_rm σ i ∧ lv_has ls 6 [(5, .int (nI j2)), (4, .int (nI (sl i))), (0, .ref x), (1, .int cx), (2, .int v), (3, .int nn)] ∧ gw_P D vwCl (gw_A G s.heap.size) G1 H ∧ va_S (gw_A G s.heap.size) s.heap H locs ∧ m_Arr cI cB cZ x w n (s_md σ) adr (nI U) r0 r1 r2 r3 ar1 G1 ∧ m_Sem (s_rch σ) (s_fill σ i v j2) sl bg U ar1 := by
              refine ⟨by omega, by omega, by omega, by rw [ej]; exact lv_sub hl [0, 1, 2, 3, 4, 5] rfl, by rw [eG1, eH]; exact hP, by rw [eH, eL]; exact hS, by rw [ear, eG1]; exact hM, by rw [ej, ear]; exact hE⟩
            refine W_heq eH eL ?_
            clear hl hP hS ej eg eG1 ear eH eL
            induction g2 generalizing j2 ls H locs G1 ar1
            case zero =>
              obtain ⟨hg2, hjn2, hjr, hl, hP, hS, hM1, hE1⟩ := inv2
              obtain ⟨sa, sb, sc, sd⟩ := s_fill_st σ i v j2
              refine lv_iload hx hb d_R_fill_60 (lv_at hl 0 rfl) ?_
              refine lv_iload_n hx hb d_R_fill_62 rfl (lv_at hl 5 rfl) ?_
              refine lv_icmp_ge (tgt := 88) hx hb d_R_fill_63 (by decide) (fun ck => ?_) (fun ck => ?_)
              · rw [← hn8] at ck
                have hge := (nI_leI (by omega) (by omega)).mp ck
                have emin : j2 = min nn.toNatClampNeg (s_rm σ i - s_ht σ i) := by omega
                refine lv_iload hx hb d_R_fill_88 (lv_at hl 0 rfl) ?_
                exact W.iret (v := (nI j2)) hx hb hr (fun t ht hW => ⟨⟨_, G1, rfl, (by rw [show p_fill σ cx v nn = (nI (min nn.toNatClampNeg (s_rm σ i - s_ht σ i)), s_fill σ i v (min nn.toNatClampNeg (s_rm σ i - s_ht σ i))) from (by simp only [p_fill, hci]; rw [if_pos ⟨hwi, hnm⟩]), ← emin]; exact ⟨rfl, adr, ar1, sl, bg, U, _, _, _, _, by rw [sd]; exact hM1, hE1.mono (fun _ h => s_fill_rch j2 h)⟩), g_fin ht hP⟩, hS.F ht⟩) hS.2.2 d_R_fill_90
              · have hlt : j2 < nn.toNatClampNeg := Nat.not_le.mp (fun q => ck (by rw [← hn8]; exact (nI_leI (by omega) (by omega)).mpr q))
                omega
            case succ g2 ih2 =>
              obtain ⟨hg2, hjn2, hjr, hl, hP, hS, hM1, hE1⟩ := inv2
              obtain ⟨sa, sb, sc, sd⟩ := s_fill_st σ i v j2
              refine lv_iload hx hb d_R_fill_60 (lv_at hl 0 rfl) ?_
              refine lv_iload_n hx hb d_R_fill_62 rfl (lv_at hl 5 rfl) ?_
              refine lv_icmp_ge (tgt := 88) hx hb d_R_fill_63 (by decide) (fun ck => ?_) (fun ck => ?_)
              · rw [← hn8] at ck
                have hge := (nI_leI (by omega) (by omega)).mp ck
                have emin : j2 = min nn.toNatClampNeg (s_rm σ i - s_ht σ i) := by omega
                refine lv_iload hx hb d_R_fill_88 (lv_at hl 0 rfl) ?_
                exact W.iret (v := (nI j2)) hx hb hr (fun t ht hW => ⟨⟨_, G1, rfl, (by rw [show p_fill σ cx v nn = (nI (min nn.toNatClampNeg (s_rm σ i - s_ht σ i)), s_fill σ i v (min nn.toNatClampNeg (s_rm σ i - s_ht σ i))) from (by simp only [p_fill, hci]; rw [if_pos ⟨hwi, hnm⟩]), ← emin]; exact ⟨rfl, adr, ar1, sl, bg, U, _, _, _, _, by rw [sd]; exact hM1, hE1.mono (fun _ h => s_fill_rch j2 h)⟩), g_fin ht hP⟩, hS.F ht⟩) hS.2.2 d_R_fill_90
              · have hlt : j2 < nn.toNatClampNeg := Nat.not_le.mp (fun q => ck (by rw [← hn8]; exact (nI_leI (by omega) (by omega)).mpr q))
                refine lv_aload_n hx hb d_R_fill_66 rfl (lv_at hl 2 rfl) ?_
                refine lv_iload hx hb d_R_fill_67 (lv_at hl 1 rfl) ?_
                refine lv_iload_n hx hb d_R_fill_69 rfl (lv_at hl 4 rfl) ?_
                refine lv_iload hx hb d_R_fill_70 (lv_at hl 0 rfl) ?_
                refine lv_iadd hx hb d_R_fill_72 ?_
                refine vp_callSi (va_Run.run (r_S (rest := [.int (nI (sl i)), .ref x]) C0 [.int (v + (nI j2))] (k_R_numeral l (v + nI j2)) ml_R_R_numeral st_R_numeral ini_R co_R_numeral hd_R_numeral v_preS hl.1 d_R_fill_73 rfl rfl (Nat.le_of_ble_eq_true rfl) ⟨rfl, rfl⟩ ⟨Nat.le_of_ble_eq_true rfl, Nat.le_of_ble_eq_true rfl⟩ ⟨Nat.le_of_ble_eq_true rfl, Nat.le_of_ble_eq_true rfl⟩)) (fun qn en => ?_)
                subst en
                refine W.eq (g2 := F0 m 76 ls [.int (m_val sl (some (.inl (v + nI j2)))), .int (nI (sl i)), .ref x]) (rfl) ?_
                refine g_calli hP hS hA (r_V (rest := []) C0 [.int (nI (sl i)), .int (m_val sl (some (.inl (v + nI j2))))] (k_R_pushes l hM1 hE1 hri (s_fill_isC j2 hc) (by rw [sa, sb]; omega) ht2 ht3 ht4 (some (.inl (v + nI j2)))) ml_R_R_pushes im_R_pushes se_R_R_pushes_R ini_R co_R_pushes ⟨rfl, hd_R_pushes⟩ (g_preV (ci := 5) hK hP rfl hM1.1) hl.1 d_R_fill_76 rfl rfl (Nat.le_of_ble_eq_true rfl) ⟨rfl, rfl⟩ ⟨Nat.le_of_ble_eq_true rfl, Nat.le_of_ble_eq_true rfl⟩ ⟨Nat.le_of_ble_eq_true rfl, Nat.le_of_ble_eq_true rfl⟩) (fun qz G2 H locs hq hP hS hz9 hk9 => ?_)
                rw [sa, sb] at hq
                rcases hq with ⟨hlt2, rfl, ar2, hM2, hE2⟩ | ⟨hno, rfl, hM2⟩
                · refine lv_if_eq (tgt := 88) hx hb d_R_fill_79 (by decide) (fun h => absurd h (by decide)) (fun _ => ?_)
                  refine lv_iinc (v := nI (j2 + 1)) (lv' := [(5, .int (nI (j2 + 1))), (4, .int (nI (sl i))), (0, .ref x), (1, .int cx), (2, .int v), (3, .int nn)]) hx hb d_R_fill_82 hl (k := 0) rfl (by rw [← nI_1]; rfl) (by decide) rfl (fun ls hl => ?_)
                  refine lv_goto (tgt := 60) hx hb d_R_fill_85 (by decide) ?_
                  exact ih2 (j2 := j2 + 1) _ _ _ _ _ ⟨by omega, by omega, by omega, lv_sub hl [0, 1, 2, 3, 4, 5] rfl, hP, hS, hM2, hE2⟩
                · refine lv_if_eq (tgt := 88) hx hb d_R_fill_79 (by decide) (fun _ => ?_) (fun h => absurd h (by decide))
                  have emin : j2 = min nn.toNatClampNeg (s_rm σ i - s_ht σ i) := by omega
                  refine lv_iload hx hb d_R_fill_88 (lv_at hl 0 rfl) ?_
                  exact W.iret (v := (nI j2)) hx hb hr (fun t ht hW => ⟨⟨_, G2, rfl, (by rw [show p_fill σ cx v nn = (nI (min nn.toNatClampNeg (s_rm σ i - s_ht σ i)), s_fill σ i v (min nn.toNatClampNeg (s_rm σ i - s_ht σ i))) from (by simp only [p_fill, hci]; rw [if_pos ⟨hwi, hnm⟩]), ← emin]; exact ⟨rfl, adr, ar1, sl, bg, U, _, _, _, _, by rw [sd]; exact hM2, hE1.mono (fun _ h => s_fill_rch j2 h)⟩), g_fin ht hP⟩, hS.F ht⟩) hS.2.2 d_R_fill_90
          · have hlt : j < nn.toNatClampNeg := Nat.not_le.mp (fun q => cj (by rw [← hn8]; exact (nI_leI (by omega) (by omega)).mpr q))
            omega
        case succ g ih =>
          obtain ⟨hg, hjn, hl, hall⟩ := inv
          refine lv_iload hx hb d_R_fill_27 (lv_at hl 0 rfl) ?_
          refine lv_iload_n hx hb d_R_fill_29 rfl (lv_at hl 5 rfl) ?_
          refine lv_icmp_ge (tgt := 57) hx hb d_R_fill_30 (by decide) (fun cj => ?_) (fun cj => ?_)
          · rw [← hn8] at cj
            have hnm := m_fy hwi.1 hwi.2 ((nI_leI (by omega) (by omega)).mp cj) hall
            clear hall
            refine lv_iconst (v := 0) hx hb d_R_fill_57 (by decide) ?_
            refine lv_istore (lv' := [(5, .int 0), (4, .int (nI (sl i))), (0, .ref x), (1, .int cx), (2, .int v), (3, .int nn)]) hx hb d_R_fill_58 hl (by decide) rfl (fun ls hl => ?_)
            clear hg
            clear cj hjn
            obtain ⟨j2, ej⟩ : ∃ z : Nat, z = 0 := ⟨_, rfl⟩
            obtain ⟨g2, eg⟩ : ∃ z : Nat, z = 100 := ⟨_, rfl⟩
            obtain ⟨G1, eG1⟩ : ∃ z : gw_G, z = G := ⟨_, rfl⟩
            obtain ⟨ar1, ear⟩ : ∃ z : Nat → Nat → Int32, z = ar := ⟨_, rfl⟩
            obtain ⟨H, eH⟩ : ∃ z : Heap, z = s.heap := ⟨_, rfl⟩
            obtain ⟨locs, eL⟩ : ∃ z : List Loc, z = [] := ⟨_, rfl⟩
            have inv2 : 100 ≤ j2 + g2 ∧ j2 ≤ nn.toNatClampNeg ∧ s_ht σ i + j2 ≤ s_rm σ i ∧ lv_has ls 6 [(5, .int (nI j2)), (4, .int (nI (sl i))), (0, .ref x), (1, .int cx), (2, .int v), (3, .int nn)] ∧ gw_P D vwCl (gw_A G s.heap.size) G1 H ∧ va_S (gw_A G s.heap.size) s.heap H locs ∧ m_Arr cI cB cZ x w n (s_md σ) adr (nI U) r0 r1 r2 r3 ar1 G1 ∧ m_Sem (s_rch σ) (s_fill σ i v j2) sl bg U ar1 := by
              refine ⟨by omega, by omega, by omega, by rw [ej]; exact lv_sub hl [0, 1, 2, 3, 4, 5] rfl, by rw [eG1, eH]; exact hP, by rw [eH, eL]; exact hS, by rw [ear, eG1]; exact hM, by rw [ej, ear]; exact hE⟩
            refine W_heq eH eL ?_
            clear hl hP hS ej eg eG1 ear eH eL
            induction g2 generalizing j2 ls H locs G1 ar1
            case zero =>
              obtain ⟨hg2, hjn2, hjr, hl, hP, hS, hM1, hE1⟩ := inv2
              obtain ⟨sa, sb, sc, sd⟩ := s_fill_st σ i v j2
              refine lv_iload hx hb d_R_fill_60 (lv_at hl 0 rfl) ?_
              refine lv_iload_n hx hb d_R_fill_62 rfl (lv_at hl 5 rfl) ?_
              refine lv_icmp_ge (tgt := 88) hx hb d_R_fill_63 (by decide) (fun ck => ?_) (fun ck => ?_)
              · rw [← hn8] at ck
                have hge := (nI_leI (by omega) (by omega)).mp ck
                have emin : j2 = min nn.toNatClampNeg (s_rm σ i - s_ht σ i) := by omega
                refine lv_iload hx hb d_R_fill_88 (lv_at hl 0 rfl) ?_
                exact W.iret (v := (nI j2)) hx hb hr (fun t ht hW => ⟨⟨_, G1, rfl, (by rw [show p_fill σ cx v nn = (nI (min nn.toNatClampNeg (s_rm σ i - s_ht σ i)), s_fill σ i v (min nn.toNatClampNeg (s_rm σ i - s_ht σ i))) from (by simp only [p_fill, hci]; rw [if_pos ⟨hwi, hnm⟩]), ← emin]; exact ⟨rfl, adr, ar1, sl, bg, U, _, _, _, _, by rw [sd]; exact hM1, hE1.mono (fun _ h => s_fill_rch j2 h)⟩), g_fin ht hP⟩, hS.F ht⟩) hS.2.2 d_R_fill_90
              · have hlt : j2 < nn.toNatClampNeg := Nat.not_le.mp (fun q => ck (by rw [← hn8]; exact (nI_leI (by omega) (by omega)).mpr q))
                omega
            case succ g2 ih2 =>
              obtain ⟨hg2, hjn2, hjr, hl, hP, hS, hM1, hE1⟩ := inv2
              obtain ⟨sa, sb, sc, sd⟩ := s_fill_st σ i v j2
              refine lv_iload hx hb d_R_fill_60 (lv_at hl 0 rfl) ?_
              refine lv_iload_n hx hb d_R_fill_62 rfl (lv_at hl 5 rfl) ?_
              refine lv_icmp_ge (tgt := 88) hx hb d_R_fill_63 (by decide) (fun ck => ?_) (fun ck => ?_)
              · rw [← hn8] at ck
                have hge := (nI_leI (by omega) (by omega)).mp ck
                have emin : j2 = min nn.toNatClampNeg (s_rm σ i - s_ht σ i) := by omega
                refine lv_iload hx hb d_R_fill_88 (lv_at hl 0 rfl) ?_
                exact W.iret (v := (nI j2)) hx hb hr (fun t ht hW => ⟨⟨_, G1, rfl, (by rw [show p_fill σ cx v nn = (nI (min nn.toNatClampNeg (s_rm σ i - s_ht σ i)), s_fill σ i v (min nn.toNatClampNeg (s_rm σ i - s_ht σ i))) from (by simp only [p_fill, hci]; rw [if_pos ⟨hwi, hnm⟩]), ← emin]; exact ⟨rfl, adr, ar1, sl, bg, U, _, _, _, _, by rw [sd]; exact hM1, hE1.mono (fun _ h => s_fill_rch j2 h)⟩), g_fin ht hP⟩, hS.F ht⟩) hS.2.2 d_R_fill_90
              · have hlt : j2 < nn.toNatClampNeg := Nat.not_le.mp (fun q => ck (by rw [← hn8]; exact (nI_leI (by omega) (by omega)).mpr q))
                refine lv_aload_n hx hb d_R_fill_66 rfl (lv_at hl 2 rfl) ?_
                refine lv_iload hx hb d_R_fill_67 (lv_at hl 1 rfl) ?_
                refine lv_iload_n hx hb d_R_fill_69 rfl (lv_at hl 4 rfl) ?_
                refine lv_iload hx hb d_R_fill_70 (lv_at hl 0 rfl) ?_
                refine lv_iadd hx hb d_R_fill_72 ?_
                refine vp_callSi (va_Run.run (r_S (rest := [.int (nI (sl i)), .ref x]) C0 [.int (v + (nI j2))] (k_R_numeral l (v + nI j2)) ml_R_R_numeral st_R_numeral ini_R co_R_numeral hd_R_numeral v_preS hl.1 d_R_fill_73 rfl rfl (Nat.le_of_ble_eq_true rfl) ⟨rfl, rfl⟩ ⟨Nat.le_of_ble_eq_true rfl, Nat.le_of_ble_eq_true rfl⟩ ⟨Nat.le_of_ble_eq_true rfl, Nat.le_of_ble_eq_true rfl⟩)) (fun qn en => ?_)
                subst en
                refine W.eq (g2 := F0 m 76 ls [.int (m_val sl (some (.inl (v + nI j2)))), .int (nI (sl i)), .ref x]) (rfl) ?_
                refine g_calli hP hS hA (r_V (rest := []) C0 [.int (nI (sl i)), .int (m_val sl (some (.inl (v + nI j2))))] (k_R_pushes l hM1 hE1 hri (s_fill_isC j2 hc) (by rw [sa, sb]; omega) ht2 ht3 ht4 (some (.inl (v + nI j2)))) ml_R_R_pushes im_R_pushes se_R_R_pushes_R ini_R co_R_pushes ⟨rfl, hd_R_pushes⟩ (g_preV (ci := 5) hK hP rfl hM1.1) hl.1 d_R_fill_76 rfl rfl (Nat.le_of_ble_eq_true rfl) ⟨rfl, rfl⟩ ⟨Nat.le_of_ble_eq_true rfl, Nat.le_of_ble_eq_true rfl⟩ ⟨Nat.le_of_ble_eq_true rfl, Nat.le_of_ble_eq_true rfl⟩) (fun qz G2 H locs hq hP hS hz9 hk9 => ?_)
                rw [sa, sb] at hq
                rcases hq with ⟨hlt2, rfl, ar2, hM2, hE2⟩ | ⟨hno, rfl, hM2⟩
                · refine lv_if_eq (tgt := 88) hx hb d_R_fill_79 (by decide) (fun h => absurd h (by decide)) (fun _ => ?_)
                  refine lv_iinc (v := nI (j2 + 1)) (lv' := [(5, .int (nI (j2 + 1))), (4, .int (nI (sl i))), (0, .ref x), (1, .int cx), (2, .int v), (3, .int nn)]) hx hb d_R_fill_82 hl (k := 0) rfl (by rw [← nI_1]; rfl) (by decide) rfl (fun ls hl => ?_)
                  refine lv_goto (tgt := 60) hx hb d_R_fill_85 (by decide) ?_
                  exact ih2 (j2 := j2 + 1) _ _ _ _ _ ⟨by omega, by omega, by omega, lv_sub hl [0, 1, 2, 3, 4, 5] rfl, hP, hS, hM2, hE2⟩
                · refine lv_if_eq (tgt := 88) hx hb d_R_fill_79 (by decide) (fun _ => ?_) (fun h => absurd h (by decide))
                  have emin : j2 = min nn.toNatClampNeg (s_rm σ i - s_ht σ i) := by omega
                  refine lv_iload hx hb d_R_fill_88 (lv_at hl 0 rfl) ?_
                  exact W.iret (v := (nI j2)) hx hb hr (fun t ht hW => ⟨⟨_, G2, rfl, (by rw [show p_fill σ cx v nn = (nI (min nn.toNatClampNeg (s_rm σ i - s_ht σ i)), s_fill σ i v (min nn.toNatClampNeg (s_rm σ i - s_ht σ i))) from (by simp only [p_fill, hci]; rw [if_pos ⟨hwi, hnm⟩]), ← emin]; exact ⟨rfl, adr, ar1, sl, bg, U, _, _, _, _, by rw [sd]; exact hM2, hE1.mono (fun _ h => s_fill_rch j2 h)⟩), g_fin ht hP⟩, hS.F ht⟩) hS.2.2 d_R_fill_90
          · have hlt : j < nn.toNatClampNeg := Nat.not_le.mp (fun q => cj (by rw [← hn8]; exact (nI_leI (by omega) (by omega)).mpr q))
            refine lv_iload_n hx hb d_R_fill_33 rfl (lv_at hl 4 rfl) ?_
            refine vp_callSi (va_Run.run (r_S (rest := []) C0 [.int v] (k_R_isNumber l v) ml_R_R_isNumber st_R_isNumber ini_R co_R_isNumber hd_R_isNumber v_preS hl.1 d_R_fill_34 rfl rfl (Nat.le_of_ble_eq_true rfl) ⟨rfl, rfl⟩ ⟨Nat.le_of_ble_eq_true rfl, Nat.le_of_ble_eq_true rfl⟩ ⟨Nat.le_of_ble_eq_true rfl, Nat.le_of_ble_eq_true rfl⟩)) (fun q34 eq34 => ?_)
            refine lv_if_eq (tgt := 49) hx hb d_R_fill_37 (by decide) (fun c34 => ?_) (fun c34 => ?_)
            · have hnum : ¬ (-1073741824 ≤ v ∧ v ≤ 1073741823) := fun h => absurd (eq34.symm.trans c34) (by rw [if_pos h]; decide)
              refine lv_iconst (v := (-1)) hx hb d_R_fill_49 (by decide) ?_
              exact W.iret (v := (-1)) hx hb hr (fun t ht hW => ⟨⟨_, G, rfl, (by rw [show p_fill σ cx v nn = (-1, σ) from (by simp only [p_fill, hci]; rw [if_neg (fun z => z.2.elim (m_f0 hlt) (fun e => hnum e.1))])]; exact ⟨rfl, adr, ar, sl, bg, U, r0, r1, r2, r3, hM, hE⟩), g_fin ht hP⟩, hS.F ht⟩) hS.2.2 d_R_fill_50
            · have hnum : -1073741824 ≤ v ∧ v ≤ 1073741823 := Decidable.byContradiction (fun h => c34 (eq34.trans (if_neg h)))
              refine lv_iload_n hx hb d_R_fill_40 rfl (lv_at hl 4 rfl) ?_
              refine lv_ldc hx hb hown (ht _ cs_R_1073741823) d_R_fill_41 ?_
              refine lv_iload hx hb d_R_fill_43 (lv_at hl 0 rfl) ?_
              refine lv_isub hx hb d_R_fill_45 ?_
              refine lv_icmp_le (tgt := 51) hx hb d_R_fill_46 (by decide) (fun cl => ?_) (fun cl => ?_)
              · refine lv_iinc (v := nI (j + 1)) (lv' := [(5, .int (nI (j + 1))), (4, .int (nI (sl i))), (0, .ref x), (1, .int cx), (2, .int v), (3, .int nn)]) hx hb d_R_fill_51 hl (k := 0) rfl (by rw [← nI_1]; rfl) (by decide) rfl (fun ls hl => ?_)
                refine lv_goto (tgt := 27) hx hb d_R_fill_54 (by decide) ?_
                refine ih _ _ ⟨by omega, by omega, lv_sub hl [0, 1, 2, 3, 4, 5] rfl, fun q hq => ?_⟩
                by_cases e : q = j
                · rw [e]; exact ⟨hnum, cl⟩
                · exact hall q (by omega)
              · refine lv_iconst (v := (-1)) hx hb d_R_fill_49 (by decide) ?_
                exact W.iret (v := (-1)) hx hb hr (fun t ht hW => ⟨⟨_, G, rfl, (by rw [show p_fill σ cx v nn = (-1, σ) from (by simp only [p_fill, hci]; rw [if_neg (fun z => z.2.elim (m_f0 hlt) (fun e => cl (m_fz hwi.1 hwi.2 hlt e.2)))])]; exact ⟨rfl, adr, ar, sl, bg, U, r0, r1, r2, r3, hM, hE⟩), g_fin ht hP⟩, hS.F ht⟩) hS.2.2 d_R_fill_50
      · refine lv_iconst (v := (-1)) hx hb d_R_fill_22 (by decide) ?_
        exact W.iret (v := (-1)) hx hb hr (fun t ht hW => ⟨⟨_, G, rfl, (by rw [show p_fill σ cx v nn = (-1, σ) from (by simp only [p_fill, hci]; rw [if_neg (fun z => c1 z.1.2)])]; exact ⟨rfl, adr, ar, sl, bg, U, r0, r1, r2, r3, hM, hE⟩), g_fin ht hP⟩, hS.F ht⟩) hS.2.2 d_R_fill_23
end K37
