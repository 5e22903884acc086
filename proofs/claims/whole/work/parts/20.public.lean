theorem s_fill_isC {σ : sS} {i : Nat} {v : Int32} (k : Nat) (h : s_isC σ i) : s_isC (s_fill σ i v k) i := by unfold s_isC; rw [(s_fill_st σ i v k).2.2.1]; exact h
theorem s_drop_isC {σ : sS} {i : Nat} (k : Nat) (h : s_isC σ i) : s_isC (s_drop σ i k) i := by unfold s_isC; rw [(s_drop_st σ i k).2.2.1]; exact h
theorem s_clamp0 {v : Int32} (h : v ≤ 0) (h0 : 0 ≤ v) : v = 0 := Int32.le_antisymm h h0
theorem W_heq {p : Program} {l : Launch} {e : Env} {R : Room} {s : State} {m : MethodId} {args : Array Value} {below : List Frame} {meth : Method} {c : Code} {H H' : Heap} {locs locs' : List Loc} {cells slots : Nat} {Q : State → Prop} {g : JFrame} (h1 : H' = H) (h2 : locs' = locs) (k : W p l e R s m args below meth c H' locs' cells slots Q g) : W p l e R s m args below meth c H locs cells slots Q g := by
  subst h1
  subst h2
  exact k
section K20
variable {w n k : Nat} {cV cT : ClassId} {σ : sS} {x : Nat} {G : gw_G} {D : va_G} {tys : List (ClassId × FieldType)} {sz : Nat}
set_option maxHeartbeats 4000000 in
set_option maxRecDepth 100000 in
theorem k_S_change (l : Launch) (hR0 : c_R w n k cV cT σ x G) (hO : s_OK w n σ) (hw : 128 ≤ w ∧ w ≤ 32768) (hn : 16 ≤ n ∧ n ≤ 4096) (hm : s_md σ + 2 < 2 ^ 31) (hk : k + 1 < 2 ^ 31) (ht0 : tys[0]? = some (cV, .object "StackRoom$Value")) (ht1 : tys[1]? = some (cT, .object "StackRoom$Thing")) (r aa tt dd : Int32) : Met l y_S_change w_S_change ({ frames := 3, cells := 0, slots := 0, locals := 65 }) (g_pre D tys G sz [.ref x, .int r, .int aa, .int tt, .int dd]) (va_Qi (fun (rz : Int32) (G1 : gw_G) => rz = (p_change σ r aa tt dd).1 ∧ c_R w n (k + 1) cV cT (p_change σ r aa tt dd).2 x G1) (g_end D G sz) (gw_A G sz)) 0 0 (gw_A G sz) := by
  refine Met.ofW (cc := b_S_change) (maxL := 6) (ret := (some .boolean)) (by decide) rfl ?_
  intro p e s m args below meth c s₁ B hml hv
  obtain ⟨rfl, hsz, hP, hK⟩ := hv
  have hx := B.exec
  have hb := B.bytes
  have hr := B.returns
  have ht := fun w (hw : w ∈ gt) => atoms_spec (ws := w_S_change) B.pre w (List.mem_cons_of_mem _ hw)
  have hown : s.vm.findClass "StackRoom" = some m.cls := findClass_of_methodNamed B.named
  have hlocks := B.notSynchronized
  have C0 : CallFix p m c b_S_change 6 s [.ref x, .int r, .int aa, .int tt, .int dd].toArray gt "StackRoom" := ⟨hx, hb, hml, hown, ht⟩
  subst hsz
  have hP := hP.self (sz := s.heap.size)
  have hA : ∀ q : Nat, s.heap.size ≤ q → gw_A G s.heap.size q := fun q h => Or.inr h
  have hS : va_S (gw_A G s.heap.size) s.heap s.heap [] := va_S.rf
  have hl := lv_entry ([.ref x, .int r, .int aa, .int tt, .int dd]) (n := 6) (Nat.le_of_ble_eq_true rfl)
  rw [lg_entry_eq]
  generalize (lg_sl ([.ref x, .int r, .int aa, .int tt, .int dd]) ++ List.replicate (6 - (lg_sl ([.ref x, .int r, .int aa, .int tt, .int dd])).length) Slot.unset).toArray = ls at hl ⊢
  have hl : lv_has ls 6 [(0, .ref x), (1, .int r), (2, .int aa), (3, .int tt), (4, .int dd)] := hl
  obtain ⟨rd, ra, rt, ad, fa, ρ, fr, rr, rf, rc, wl, el, cr, hrd, hR⟩ := hR0
  refine lv_aload_n hx hb d_S_change_0 rfl (lv_at hl 0 rfl) ?_
  refine lv_iload_n hx hb d_S_change_1 rfl (lv_at hl 1 rfl) ?_
  refine va_csq (va_Run.run (r_V (rest := []) C0 [.int r] (k_S_methodIn l hR hO.1 ht0 r) ml_S_S_methodIn im_S_methodIn se_S_S_methodIn_S ini_S co_S_methodIn ⟨rfl, hd_S_methodIn⟩ (g_preV (ci := 0) hK hP rfl hR.1) hl.1 d_S_change_2 rfl rfl (Nat.le_of_ble_eq_true rfl) ⟨rfl, rfl⟩ ⟨Nat.le_of_ble_eq_true rfl, Nat.le_of_ble_eq_true rfl⟩ ⟨Nat.le_of_ble_eq_true rfl, Nat.le_of_ble_eq_true rfl⟩)) (fun qc ec => ?_)
  subst ec
  rcases hmi : s_mi σ r with _ | i
  · refine lv_astoreN (lv' := [(5, .null), (0, .ref x), (1, .int r), (2, .int aa), (3, .int tt), (4, .int dd)]) hx hb d_S_change_5 hl (by decide) rfl (fun ls hl => ?_)
    refine lv_aloadN hx hb d_S_change_7 (lv_at hl 0 rfl) ?_
    refine lv_ifnullN (tgt := 22) hx hb d_S_change_9 (by decide) ?_
    refine lv_iconst (v := 0) hx hb d_S_change_22 (by decide) ?_
    exact W.zret (v := 0) hx hb hr rfl (fun t ht hW => ⟨⟨_, G, rfl, (by rw [show p_change σ r aa tt dd = (0, σ) from (by simp only [p_change, hmi])]; exact ⟨rfl, c_R.up ⟨rd, ra, rt, ad, fa, ρ, fr, rr, rf, rc, wl, el, cr, hrd, hR⟩⟩), g_fin ht hP⟩, hS.F ht⟩) hS.2.2 d_S_change_23
  · have hk2 := (s_mi_some hmi).2.2
    have hri := s_mi_rch hmi
    refine lv_astore (lv' := [(5, .ref (ad i)), (0, .ref x), (1, .int r), (2, .int aa), (3, .int tt), (4, .int dd)]) hx hb d_S_change_5 hl (by decide) rfl (fun ls hl => ?_)
    refine lv_aload hx hb d_S_change_7 (lv_at hl 0 rfl) ?_
    refine lv_ifnull hx hb d_S_change_9 ?_
    refine lv_iload_n hx hb d_S_change_12 rfl (lv_at hl 3 rfl) ?_
    refine lv_iload_n hx hb d_S_change_13 rfl (lv_at hl 4 rfl) ?_
    refine lv_iload hx hb d_S_change_14 (lv_at hl 5 rfl) ?_
    refine vp_callSi (va_Run.run (r_S (rest := []) C0 [.int aa, .int tt, .int dd] (k_S_areMethodNumbers l aa tt dd) ml_S_S_areMethodNumbers st_S_areMethodNumbers ini_S co_S_areMethodNumbers hd_S_areMethodNumbers v_preS hl.1 d_S_change_16 rfl rfl (Nat.le_of_ble_eq_true rfl) ⟨rfl, rfl⟩ ⟨Nat.le_of_ble_eq_true rfl, Nat.le_of_ble_eq_true rfl⟩ ⟨Nat.le_of_ble_eq_true rfl, Nat.le_of_ble_eq_true rfl⟩)) (fun q16 eq16 => ?_)
    refine lv_if_ne (tgt := 24) hx hb d_S_change_19 (by decide) (fun c16 => ?_) (fun c16 => ?_)
    · have hnum : (0 ≤ aa ∧ aa ≤ 15) ∧ (aa ≤ tt ∧ tt ≤ 31) ∧ (0 ≤ dd ∧ dd ≤ 63) := Decidable.byContradiction (fun h => c16 (eq16.trans (if_neg h)))
      refine lv_aload hx hb d_S_change_24 (lv_at hl 0 rfl) ?_
      refine lv_iload_n hx hb d_S_change_26 rfl (lv_at hl 4 rfl) ?_
      refine lv_iload hx hb d_S_change_27 (lv_at hl 5 rfl) ?_
      have ht9 : 0 ≤ tt := Int32.le_trans hnum.1.1 hnum.2.1.1
      refine W.eq (g2 := F0 m 29 ls [.int (nI dd.toNatClampNeg), .int (nI tt.toNatClampNeg), .ref (ad i)]) (by rw [s_clampI ht9, s_clampI hnum.2.2.1]) ?_
      refine g_callv hP hS hA (r_V (rest := []) C0 [.int (nI tt.toNatClampNeg), .int (nI dd.toNatClampNeg)] (k_M_setNumbers l hR (i := i) hk2 hO.1 (by omega) tt.toNatClampNeg dd.toNatClampNeg) ml_S_M_setNumbers im_M_setNumbers se_M_M_setNumbers_M ini_M co_M_setNumbers ⟨rfl, hd_M_setNumbers⟩ (g_preV (ci := 2) hK hP rfl (hR.c2 hk2)) hl.1 d_S_change_29 rfl rfl (Nat.le_of_ble_eq_true rfl) ⟨rfl, rfl⟩ ⟨Nat.le_of_ble_eq_true rfl, Nat.le_of_ble_eq_true rfl⟩ ⟨Nat.le_of_ble_eq_true rfl, Nat.le_of_ble_eq_true rfl⟩) (fun G1 H locs hR1 hP hS hz9 hk9 => ?_)
      refine lv_iconst (v := 1) hx hb d_S_change_32 (by decide) ?_
      exact W.zret (v := 1) hx hb hr rfl (fun t ht hW => ⟨⟨_, G1, rfl, (by rw [show p_change σ r aa tt dd = (1, s_setT σ i tt.toNatClampNeg dd.toNatClampNeg) from (by simp only [p_change, hmi]; rw [if_pos hnum])]; exact ⟨rfl, ⟨rd, ra, rt, ad, fa, ρ, fr, rr, rf, rc, wl, el, cr, by omega, hR1⟩⟩), g_fin ht hP⟩, hS.F ht⟩) hS.2.2 d_S_change_33
    · have hnum : ¬ ((0 ≤ aa ∧ aa ≤ 15) ∧ (aa ≤ tt ∧ tt ≤ 31) ∧ (0 ≤ dd ∧ dd ≤ 63)) := fun h => absurd (eq16.symm.trans c16) (by rw [if_pos h]; decide)
      refine lv_iconst (v := 0) hx hb d_S_change_22 (by decide) ?_
      exact W.zret (v := 0) hx hb hr rfl (fun t ht hW => ⟨⟨_, G, rfl, (by rw [show p_change σ r aa tt dd = (0, σ) from (by simp only [p_change, hmi]; rw [if_neg hnum])]; exact ⟨rfl, c_R.up ⟨rd, ra, rt, ad, fa, ρ, fr, rr, rf, rc, wl, el, cr, hrd, hR⟩⟩), g_fin ht hP⟩, hS.F ht⟩) hS.2.2 d_S_change_23
set_option maxHeartbeats 4000000 in
set_option maxRecDepth 100000 in
theorem k_S_method (l : Launch) (hR0 : c_R w n k cV cT σ x G) (hO : s_OK w n σ) (hw : 128 ≤ w ∧ w ≤ 32768) (hn : 16 ≤ n ∧ n ≤ 4096) (hm : s_md σ + 2 < 2 ^ 31) (hk : k + 1 < 2 ^ 31) (ht0 : tys[0]? = some (cV, .object "StackRoom$Value")) (ht1 : tys[1]? = some (cT, .object "StackRoom$Thing")) (r aa tt dd : Int32) : Met l y_S_method w_S_method ({ frames := 6, cells := 1, slots := 4, locals := 129 }) (g_pre D tys G sz [.ref x, .int r, .int aa, .int tt, .int dd]) (va_Qi (fun (rz : Int32) (G1 : gw_G) => rz = (p_method w n σ r aa tt dd).1 ∧ c_R w n (k + 1) cV cT (p_method w n σ r aa tt dd).2 x G1) (g_end D G sz) (gw_A G sz)) 1 4 (gw_A G sz) := by
  refine Met.ofW (cc := b_S_method) (maxL := 5) (ret := (some .int)) (by decide) rfl ?_
  intro p e s m args below meth c s₁ B hml hv
  obtain ⟨rfl, hsz, hP, hK⟩ := hv
  have hx := B.exec
  have hb := B.bytes
  have hr := B.returns
  have ht := fun w (hw : w ∈ gt) => atoms_spec (ws := w_S_method) B.pre w (List.mem_cons_of_mem _ hw)
  have hown : s.vm.findClass "StackRoom" = some m.cls := findClass_of_methodNamed B.named
  have hlocks := B.notSynchronized
  have C0 : CallFix p m c b_S_method 5 s [.ref x, .int r, .int aa, .int tt, .int dd].toArray gt "StackRoom" := ⟨hx, hb, hml, hown, ht⟩
  subst hsz
  have hP := hP.self (sz := s.heap.size)
  have hA : ∀ q : Nat, s.heap.size ≤ q → gw_A G s.heap.size q := fun q h => Or.inr h
  have hS : va_S (gw_A G s.heap.size) s.heap s.heap [] := va_S.rf
  have hl := lv_entry ([.ref x, .int r, .int aa, .int tt, .int dd]) (n := 5) (Nat.le_of_ble_eq_true rfl)
  rw [lg_entry_eq]
  generalize (lg_sl ([.ref x, .int r, .int aa, .int tt, .int dd]) ++ List.replicate (5 - (lg_sl ([.ref x, .int r, .int aa, .int tt, .int dd])).length) Slot.unset).toArray = ls at hl ⊢
  have hl : lv_has ls 5 [(0, .ref x), (1, .int r), (2, .int aa), (3, .int tt), (4, .int dd)] := hl
  obtain ⟨rd, ra, rt, ad, fa, ρ, fr, rr, rf, rc, wl, el, cr, hrd, hR⟩ := hR0
  refine lv_iload_n hx hb d_S_method_0 rfl (lv_at hl 1 rfl) ?_
  refine vp_callSi (va_Run.run (r_S (rest := []) C0 [.int r] (k_S_isRegister l r) ml_S_S_isRegister st_S_isRegister ini_S co_S_isRegister hd_S_isRegister v_preS hl.1 d_S_method_1 rfl rfl (Nat.le_of_ble_eq_true rfl) ⟨rfl, rfl⟩ ⟨Nat.le_of_ble_eq_true rfl, Nat.le_of_ble_eq_true rfl⟩ ⟨Nat.le_of_ble_eq_true rfl, Nat.le_of_ble_eq_true rfl⟩)) (fun q1 eq1 => ?_)
  refine lv_if_eq (tgt := 17) hx hb d_S_method_4 (by decide) (fun c1 => ?_) (fun c1 => ?_)
  · have hreg : ¬ (0 ≤ r ∧ r ≤ 15) := fun h => absurd (eq1.symm.trans c1) (by rw [if_pos h]; decide)
    refine W.widen (k := 1) (n := 4) (by omega) (by omega) ?_
    refine lv_iconst (v := (-1)) hx hb d_S_method_17 (by decide) ?_
    exact W.iret (v := (-1)) hx hb hr (fun t ht hW => ⟨⟨_, G, rfl, (by rw [show p_method w n σ r aa tt dd = (-1, σ) from (by unfold p_method; rw [if_neg (fun z => hreg z.1)])]; exact ⟨rfl, c_R.up ⟨rd, ra, rt, ad, fa, ρ, fr, rr, rf, rc, wl, el, cr, hrd, hR⟩⟩), g_fin ht hP⟩, hS.F ht⟩) hS.2.2 d_S_method_18
  · have hreg : 0 ≤ r ∧ r ≤ 15 := Decidable.byContradiction (fun h => c1 (eq1.trans (if_neg h)))
    refine lv_iload_n hx hb d_S_method_7 rfl (lv_at hl 2 rfl) ?_
    refine lv_iload_n hx hb d_S_method_8 rfl (lv_at hl 3 rfl) ?_
    refine lv_iload hx hb d_S_method_9 (lv_at hl 4 rfl) ?_
    refine vp_callSi (va_Run.run (r_S (rest := []) C0 [.int aa, .int tt, .int dd] (k_S_areMethodNumbers l aa tt dd) ml_S_S_areMethodNumbers st_S_areMethodNumbers ini_S co_S_areMethodNumbers hd_S_areMethodNumbers v_preS hl.1 d_S_method_11 rfl rfl (Nat.le_of_ble_eq_true rfl) ⟨rfl, rfl⟩ ⟨Nat.le_of_ble_eq_true rfl, Nat.le_of_ble_eq_true rfl⟩ ⟨Nat.le_of_ble_eq_true rfl, Nat.le_of_ble_eq_true rfl⟩)) (fun q11 eq11 => ?_)
    refine lv_if_ne (tgt := 19) hx hb d_S_method_14 (by decide) (fun c11 => ?_) (fun c11 => ?_)
    · have hnum : (0 ≤ aa ∧ aa ≤ 15) ∧ (aa ≤ tt ∧ tt ≤ 31) ∧ (0 ≤ dd ∧ dd ≤ 63) := Decidable.byContradiction (fun h => c11 (eq11.trans (if_neg h)))
      have ht9 : 0 ≤ tt := Int32.le_trans hnum.1.1 hnum.2.1.1
      refine lv_aload_n hx hb d_S_method_19 rfl (lv_at hl 0 rfl) ?_
      refine lv_bipush (v := 10) hx hb d_S_method_20 (by decide) ?_
      refine lv_iconst (v := 2) hx hb d_S_method_22 (by decide) ?_
      refine W.eq (g2 := F0 m 23 ls [.int (nI 2), .int (nI 10), .ref x]) (rfl) ?_
      refine g_calli hP hS hA (r_V (rest := []) C0 [.int (nI 10), .int (nI 2)] (k_S_canBeMade l hR hO hw hn (by omega) (by omega) ht0 ht1 (a := 10) (b := 2) (by omega) (by omega)) ml_S_S_canBeMade im_S_canBeMade se_S_S_canBeMade_S ini_S co_S_canBeMade ⟨rfl, hd_S_canBeMade⟩ (g_preV (ci := 0) hK hP rfl hR.1) hl.1 d_S_method_23 rfl rfl (Nat.le_of_ble_eq_true rfl) ⟨rfl, rfl⟩ ⟨Nat.le_of_ble_eq_true rfl, Nat.le_of_ble_eq_true rfl⟩ ⟨Nat.le_of_ble_eq_true rfl, Nat.le_of_ble_eq_true rfl⟩) (fun qm G50 H locs hq1 hP hS hz9 hk9 => ?_)
      obtain ⟨em, ρ2, rf2, rc2, hR1⟩ := hq1
      refine lv_if_ne (tgt := 32) hx hb d_S_method_26 (by decide) (fun cm => ?_) (fun cm => ?_)
      · have hfit : 10 + s_W σ + 8 ≤ w ∧ 2 + s_N σ + 2 ≤ n := Decidable.byContradiction (fun h => cm (em.trans (if_neg h)))
        refine lv_aload_n hx hb d_S_method_32 rfl (lv_at hl 0 rfl) ?_
        refine lv_dup hx hb d_S_method_33 rfl ?_
        refine va_get (D := D) (ci := 0) (C := "StackRoom") (T := T_S) (N := 10) (v := .int (nI (s_md σ))) hx hb ht in_S hown hK.1 (hP.one hR1.1) 0 rfl rfl 3 (by decide) (ht _ fl_S_S_made) (fun _ h9 => h9) rfl d_S_method_34 ?_
        refine lv_iconst (v := 2) hx hb d_S_method_37 (by decide) ?_
        refine lv_iadd hx hb d_S_method_38 ?_
        refine gw_put (D := D) (cl := vwCl) (ci := 0) (C := "StackRoom") (T := T_S) (N := 10) (v := .int ((nI (s_md σ)) + 2)) (ty := .int) hx hb ht in_S ty_S tk_S nm_S hown hK.1 hP hS hR1.1 rfl 3 (by decide) (ht _ fl_S_S_made) (fun _ h9 => h9) rfl (by decide +kernel) rfl rfl (Nat.le_of_ble_eq_true rfl) d_S_method_39 (fun H locs hP hS => ?_)
        obtain ⟨G51, eG51⟩ : ∃ z : gw_G, z = va_up G50 x (some (.inr (0, [.int (nI w), .int (nI n), .ref ra, .int ((nI (s_md σ)) + 2), .ref rt, .int rc2, .int (nI (rd + 1)), .int (nI (w - 8 - s_W σ)), .int (nI (n - 2 - s_N σ)), .int (nI (s_K σ))]))) := ⟨_, rfl⟩
        replace hP : gw_P D vwCl (gw_A G s.heap.size) G51 H := by rw [eG51]; exact hP
        have f51 : G51 x = some (.inr (0, [.int (nI w), .int (nI n), .ref ra, .int ((nI (s_md σ)) + 2), .ref rt, .int rc2, .int (nI (rd + 1)), .int (nI (w - 8 - s_W σ)), .int (nI (n - 2 - s_N σ)), .int (nI (s_K σ))])) := by rw [eG51]; exact va_up_self _ _ _
        have e2 : nI (s_md σ) + 2 = nI (s_md σ + 2) := nI_add _ 2
        have hR2 := hR1.own (rd' := rd + 1) (md' := s_md σ + 2) (rc' := rc2) (wl' := nI (w - 8 - s_W σ)) (el' := nI (n - 2 - s_N σ)) (cr' := nI (s_K σ)) (Nat.le_refl _)
        rw [← e2, ← eG51] at hR2
        refine lv_aload_n hx hb d_S_method_42 rfl (lv_at hl 0 rfl) ?_
        refine va_get (D := D) (ci := 0) (C := "StackRoom") (T := T_S) (N := 10) (v := .ref ra) hx hb ht in_S hown hK.1 (hP.one hR2.1) 0 rfl rfl 2 (by decide) (ht _ fl_S_S_registers) (fun _ h9 => h9) rfl d_S_method_43 ?_
        refine lv_iload_n hx hb d_S_method_46 rfl (lv_at hl 1 rfl) ?_
        refine gw_new (D := D) (cl := vwCl) (ci := 2) (fs := [.int 0, .int 0, .int 0, .int 0]) (C := "StackRoom$Method") (T := T_M) (N := 4) hx hb ht in_M ty_M tk_M hown (ht _ cl_S_M) (ht _ is_M) (ht _ ini_M) hK.1 hP hS hA rfl (fun j hj => by rcases (show j = 0 ∨ j = 1 ∨ j = 2 ∨ j = 3 by omega) with rfl | rfl | rfl | rfl <;> rfl) (Nat.le_of_ble_eq_true rfl) (Nat.le_of_ble_eq_true rfl) d_S_method_47 (fun q0 H hP n_q0 hS => ?_)
        obtain ⟨G52, eG52⟩ : ∃ z : gw_G, z = va_up G51 q0 (some (.inr (2, [.int 0, .int 0, .int 0, .int 0]))) := ⟨_, rfl⟩
        replace hP : gw_P D vwCl (gw_A G s.heap.size) G52 H := by rw [eG52]; exact hP
        have f52 : G52 q0 = some (.inr (2, [.int 0, .int 0, .int 0, .int 0])) := by rw [eG52]; exact va_up_self _ _ _
        have hR3 := hR2.fresh (e := some (.inr (2, [.int 0, .int 0, .int 0, .int 0]))) n_q0
        rw [← eG52] at hR3
        refine lv_dup hx hb d_S_method_50 rfl ?_
        refine lv_aload_n hx hb d_S_method_51 rfl (lv_at hl 0 rfl) ?_
        refine va_get (D := D) (ci := 0) (C := "StackRoom") (T := T_S) (N := 10) (v := .int (nI (s_md σ + 2))) hx hb ht in_S hown hK.1 (hP.one hR3.1) 0 rfl rfl 3 (by decide) (ht _ fl_S_S_made) (fun _ h9 => h9) rfl d_S_method_52 ?_
        refine lv_iload_n hx hb d_S_method_55 rfl (lv_at hl 3 rfl) ?_
        refine lv_iload hx hb d_S_method_56 (lv_at hl 4 rfl) ?_
        refine g_callv hP hS hA (r_I (rest := [.ref q0, .int r, .ref ra]) C0 [.int (nI (s_md σ + 2)), .int tt, .int dd] (k_M_init l f52 (nI (s_md σ + 2)) tt dd) ml_S_M_init im_M_init ini_M co_M_init rfl hd_M_init (g_preS hK hP) hl.1 d_S_method_58 rfl rfl (Nat.le_of_ble_eq_true rfl) ⟨rfl, rfl⟩ ⟨Nat.le_of_ble_eq_true rfl, Nat.le_of_ble_eq_true rfl⟩ ⟨Nat.le_of_ble_eq_true rfl, Nat.le_of_ble_eq_true rfl⟩) (fun G90 H locs eG90 hP hS hz9 hk9 => ?_)
        have e90 : G90 = va_up G51 q0 (some (.inr (kM, [.int (nI (s_md σ + 2)), .int 0, .int tt, .int dd]))) := by rw [eG90, eG52, va_up_up]
        have hR4 := hR2.fresh (e := some (.inr (kM, [.int (nI (s_md σ + 2)), .int 0, .int tt, .int dd]))) n_q0
        rw [← e90] at hR4
        have f90 : G90 q0 = some (.inr (kM, [.int (nI (s_md σ + 2)), .int 0, .int tt, .int dd])) := by rw [e90]; exact va_up_self _ _ _
        have hR5 := hR4.newM (q := q0) (t := tt.toNatClampNeg) (d := dd.toNatClampNeg) hO.1 (by rw [f90, s_clampI ht9, s_clampI hnum.2.2.1])
        refine gw_astqO (v := some q0) hx hb hK.1 hP hS 0 hR5.2.1 ht0 (fun y hy => c_any hK hP (⟨_, _, (by cases hy; exact f90), Or.inr (Or.inl rfl)⟩)) (s_rin hreg) d_S_method_61 (fun H locs hP hS => ?_)
        obtain ⟨G91, eG91⟩ : ∃ z : gw_G, z = va_up G90 ra (some (.inl (cV, 16, qv (va_up rr r.toNatClampNeg (some q0))))) := ⟨_, rfl⟩
        replace hP : gw_P D vwCl (gw_A G s.heap.size) G91 H := by rw [eG91]; exact hP
        have hR6 := hR5.reg (k := r.toNatClampNeg) (v := some (.inr (s_md σ + 2))) (r := some q0) (by show some q0 = some (va_up ad (s_md σ + 2) q0 (s_md σ + 2)); rw [va_up_self])
        rw [← eG91] at hR6
        refine lv_aload_n hx hb d_S_method_62 rfl (lv_at hl 0 rfl) ?_
        refine va_get (D := D) (ci := 0) (C := "StackRoom") (T := T_S) (N := 10) (v := .int (nI (s_md σ + 2))) hx hb ht in_S hown hK.1 (hP.one hR6.1) 0 rfl rfl 3 (by decide) (ht _ fl_S_S_made) (fun _ h9 => h9) rfl d_S_method_63 ?_
        refine W.widen (k := 1) (n := 4) (by omega) (by omega) ?_
        exact W.iret (v := (nI (s_md σ + 2))) hx hb hr (fun t ht hW => ⟨⟨_, G91, rfl, (by rw [show p_method w n σ r aa tt dd = (nI (s_md σ + 2), s_put (s_newM σ tt.toNatClampNeg dd.toNatClampNeg) r (some (.inr (s_md σ + 2)))) from (by unfold p_method; rw [if_pos ⟨hreg, hnum⟩, if_pos hfit])]; exact ⟨rfl, ⟨_, ra, rt, _, _, _, _, _, rf2, rc2, _, _, _, by omega, hR6⟩⟩), g_fin ht hP⟩, hS.F ht⟩) hS.2.2 d_S_method_66
      · have hfit : ¬ (10 + s_W σ + 8 ≤ w ∧ 2 + s_N σ + 2 ≤ n) := fun h => absurd (em.symm.trans cm) (by rw [if_pos h]; decide)
        refine W.widen (k := 1) (n := 4) (by omega) (by omega) ?_
        refine lv_bipush (v := (-2)) hx hb d_S_method_29 (by decide) ?_
        exact W.iret (v := (-2)) hx hb hr (fun t ht hW => ⟨⟨_, G50, rfl, (by rw [show p_method w n σ r aa tt dd = (-2, σ) from (by unfold p_method; rw [if_pos ⟨hreg, hnum⟩, if_neg hfit])]; exact ⟨rfl, ⟨_, ra, rt, ad, fa, ρ2, fr, rr, rf2, rc2, _, _, _, by omega, hR1⟩⟩), g_fin ht hP⟩, hS.F ht⟩) hS.2.2 d_S_method_31
    · have hnum : ¬ ((0 ≤ aa ∧ aa ≤ 15) ∧ (aa ≤ tt ∧ tt ≤ 31) ∧ (0 ≤ dd ∧ dd ≤ 63)) := fun h => absurd (eq11.symm.trans c11) (by rw [if_pos h]; decide)
      refine W.widen (k := 1) (n := 4) (by omega) (by omega) ?_
      refine lv_iconst (v := (-1)) hx hb d_S_method_17 (by decide) ?_
      exact W.iret (v := (-1)) hx hb hr (fun t ht hW => ⟨⟨_, G, rfl, (by rw [show p_method w n σ r aa tt dd = (-1, σ) from (by unfold p_method; rw [if_neg (fun z => hnum z.2)])]; exact ⟨rfl, c_R.up ⟨rd, ra, rt, ad, fa, ρ, fr, rr, rf, rc, wl, el, cr, hrd, hR⟩⟩), g_fin ht hP⟩, hS.F ht⟩) hS.2.2 d_S_method_18
set_option maxHeartbeats 4000000 in
set_option maxRecDepth 100000 in
theorem k_S_fill (l : Launch) (hR0 : c_R w n k cV cT σ x G) (hO : s_OK w n σ) (hw : 128 ≤ w ∧ w ≤ 32768) (hn : 16 ≤ n ∧ n ≤ 4096) (hm : s_md σ + 2 < 2 ^ 31) (hk : k + 1 < 2 ^ 31) (ht0 : tys[0]? = some (cV, .object "StackRoom$Value")) (ht1 : tys[1]? = some (cT, .object "StackRoom$Thing")) (cx v nn : Int32) : Met l y_S_fill w_S_fill ({ frames := 3, cells := 100, slots := 100, locals := 65 }) (g_pre D tys G sz [.ref x, .int cx, .int v, .int nn]) (va_Qi (fun (rz : Int32) (G1 : gw_G) => rz = (p_fill σ cx v nn).1 ∧ c_R w n (k + 1) cV cT (p_fill σ cx v nn).2 x G1) (g_end D G sz) (gw_A G sz)) 100 100 (gw_A G sz) := by
  refine Met.ofW (cc := b_S_fill) (maxL := 6) (ret := (some .int)) (by decide) rfl ?_
  intro p e s m args below meth c s₁ B hml hv
  obtain ⟨rfl, hsz, hP, hK⟩ := hv
  have hx := B.exec
  have hb := B.bytes
  have hr := B.returns
  have ht := fun w (hw : w ∈ gt) => atoms_spec (ws := w_S_fill) B.pre w (List.mem_cons_of_mem _ hw)
  have hown : s.vm.findClass "StackRoom" = some m.cls := findClass_of_methodNamed B.named
  have hlocks := B.notSynchronized
  have C0 : CallFix p m c b_S_fill 6 s [.ref x, .int cx, .int v, .int nn].toArray gt "StackRoom" := ⟨hx, hb, hml, hown, ht⟩
  subst hsz
  have hP := hP.self (sz := s.heap.size)
  have hA : ∀ q : Nat, s.heap.size ≤ q → gw_A G s.heap.size q := fun q h => Or.inr h
  have hS : va_S (gw_A G s.heap.size) s.heap s.heap [] := va_S.rf
  have hl := lv_entry ([.ref x, .int cx, .int v, .int nn]) (n := 6) (Nat.le_of_ble_eq_true rfl)
  rw [lg_entry_eq]
  generalize (lg_sl ([.ref x, .int cx, .int v, .int nn]) ++ List.replicate (6 - (lg_sl ([.ref x, .int cx, .int v, .int nn])).length) Slot.unset).toArray = ls at hl ⊢
  have hl : lv_has ls 6 [(0, .ref x), (1, .int cx), (2, .int v), (3, .int nn)] := hl
  obtain ⟨rd, ra, rt, ad, fa, ρ, fr, rr, rf, rc, wl, el, cr, hrd, hR⟩ := hR0
  refine lv_aload_n hx hb d_S_fill_0 rfl (lv_at hl 0 rfl) ?_
  refine lv_iload_n hx hb d_S_fill_1 rfl (lv_at hl 1 rfl) ?_
  refine va_csq (va_Run.run (r_V (rest := []) C0 [.int cx] (k_S_contextIn l hR hO.1 ht0 cx) ml_S_S_contextIn im_S_contextIn se_S_S_contextIn_S ini_S co_S_contextIn ⟨rfl, hd_S_contextIn⟩ (g_preV (ci := 0) hK hP rfl hR.1) hl.1 d_S_fill_2 rfl rfl (Nat.le_of_ble_eq_true rfl) ⟨rfl, rfl⟩ ⟨Nat.le_of_ble_eq_true rfl, Nat.le_of_ble_eq_true rfl⟩ ⟨Nat.le_of_ble_eq_true rfl, Nat.le_of_ble_eq_true rfl⟩)) (fun qc ec => ?_)
  subst ec
  rcases hci : s_ci σ cx with _ | i
  · refine lv_astoreN (lv' := [(4, .null), (0, .ref x), (1, .int cx), (2, .int v), (3, .int nn)]) hx hb d_S_fill_5 hl (by decide) rfl (fun ls hl => ?_)
    refine lv_aloadN hx hb d_S_fill_7 (lv_at hl 0 rfl) ?_
    refine lv_ifnullN (tgt := 30) hx hb d_S_fill_9 (by decide) ?_
    refine W.widen (k := 100) (n := 100) (by omega) (by omega) ?_
    refine lv_iconst (v := (-1)) hx hb d_S_fill_30 (by decide) ?_
    exact W.iret (v := (-1)) hx hb hr (fun t ht hW => ⟨⟨_, G, rfl, (by rw [show p_fill σ cx v nn = (-1, σ) from (by simp only [p_fill, hci])]; exact ⟨rfl, c_R.up ⟨rd, ra, rt, ad, fa, ρ, fr, rr, rf, rc, wl, el, cr, hrd, hR⟩⟩), g_fin ht hP⟩, hS.F ht⟩) hS.2.2 d_S_fill_31
  · have hc := (s_ci_some hci).2.2
    have hri := s_ci_rch hci
    rcases id hc with h3 | h4
    · refine lv_astore (lv' := [(4, .ref (ad i)), (0, .ref x), (1, .int cx), (2, .int v), (3, .int nn)]) hx hb d_S_fill_5 hl (by decide) rfl (fun ls hl => ?_)
      refine lv_aload hx hb d_S_fill_7 (lv_at hl 0 rfl) ?_
      refine lv_ifnull hx hb d_S_fill_9 ?_
      refine lv_iload_n hx hb d_S_fill_12 rfl (lv_at hl 4 rfl) ?_
      refine lv_iconst (v := 0) hx hb d_S_fill_13 (by decide) ?_
      refine lv_bipush (v := 100) hx hb d_S_fill_14 (by decide) ?_
      refine vp_callSi (va_Run.run (r_S (rest := []) C0 [.int nn, .int 0, .int 100] (k_S_isWithin l nn 0 100) ml_S_S_isWithin st_S_isWithin ini_S co_S_isWithin hd_S_isWithin v_preS hl.1 d_S_fill_16 rfl rfl (Nat.le_of_ble_eq_true rfl) ⟨rfl, rfl⟩ ⟨Nat.le_of_ble_eq_true rfl, Nat.le_of_ble_eq_true rfl⟩ ⟨Nat.le_of_ble_eq_true rfl, Nat.le_of_ble_eq_true rfl⟩)) (fun q16 eq16 => ?_)
      refine lv_if_eq (tgt := 30) hx hb d_S_fill_19 (by decide) (fun c16 => ?_) (fun c16 => ?_)
      · have hwi : ¬ (0 ≤ nn ∧ nn ≤ 100) := fun h => absurd (eq16.symm.trans c16) (by rw [if_pos h]; decide)
        refine W.widen (k := 100) (n := 100) (by omega) (by omega) ?_
        refine lv_iconst (v := (-1)) hx hb d_S_fill_30 (by decide) ?_
        exact W.iret (v := (-1)) hx hb hr (fun t ht hW => ⟨⟨_, G, rfl, (by rw [show p_fill σ cx v nn = (-1, σ) from (by simp only [p_fill, hci]; rw [if_neg (fun z => hwi z.1)])]; exact ⟨rfl, c_R.up ⟨rd, ra, rt, ad, fa, ρ, fr, rr, rf, rc, wl, el, cr, hrd, hR⟩⟩), g_fin ht hP⟩, hS.F ht⟩) hS.2.2 d_S_fill_31
      · have hwi : 0 ≤ nn ∧ nn ≤ 100 := Decidable.byContradiction (fun h => c16 (eq16.trans (if_neg h)))
        refine lv_iload_n hx hb d_S_fill_22 rfl (lv_at hl 3 rfl) ?_
        refine lv_iload_n hx hb d_S_fill_23 rfl (lv_at hl 4 rfl) ?_
        refine vp_callSi (va_Run.run (r_S (rest := []) C0 [.int v, .int nn] (k_S_areNumbers l v nn) ml_S_S_areNumbers st_S_areNumbers ini_S co_S_areNumbers hd_S_areNumbers v_preS hl.1 d_S_fill_24 rfl rfl (Nat.le_of_ble_eq_true rfl) ⟨rfl, rfl⟩ ⟨Nat.le_of_ble_eq_true rfl, Nat.le_of_ble_eq_true rfl⟩ ⟨Nat.le_of_ble_eq_true rfl, Nat.le_of_ble_eq_true rfl⟩)) (fun q24 eq24 => ?_)
        refine lv_if_ne (tgt := 32) hx hb d_S_fill_27 (by decide) (fun c24 => ?_) (fun c24 => ?_)
        · have hnm : nn = 0 ∨ ((-1073741824 ≤ v ∧ v ≤ 1073741823) ∧ v ≤ 1073741823 - (nn - 1)) := Decidable.byContradiction (fun h => c24 (eq24.trans (if_neg h)))
          have hn9 : nn.toNatClampNeg ≤ 100 := s_clampLe hwi.1 (by decide) hwi.2
          have hn8 := s_clampI hwi.1
          have hb9 := (hO.1.2.2.2.2.2.2 i hc).2
          refine lv_iconst (v := 0) hx hb d_S_fill_32 (by decide) ?_
          refine lv_istore (lv' := [(5, .int 0), (4, .ref (ad i)), (0, .ref x), (1, .int cx), (2, .int v), (3, .int nn)]) hx hb d_S_fill_33 hl (by decide) rfl (fun ls hl => ?_)
          obtain ⟨j, ej⟩ : ∃ z : Nat, z = 0 := ⟨_, rfl⟩
          obtain ⟨g, eg⟩ : ∃ z : Nat, z = 100 := ⟨_, rfl⟩
          obtain ⟨G1, eG1⟩ : ∃ z : gw_G, z = G := ⟨_, rfl⟩
          obtain ⟨H, eH⟩ : ∃ z : Heap, z = s.heap := ⟨_, rfl⟩
          obtain ⟨locs, eL⟩ : ∃ z : List Loc, z = [] := ⟨_, rfl⟩
          obtain ⟨fr1, efr⟩ : ∃ z : Nat → Nat → Option Nat, z = fr := ⟨_, rfl⟩
          have inv : 100 ≤ j + g ∧ j ≤ nn.toNatClampNeg ∧ s_ht σ i + j ≤ s_rm σ i ∧ lv_has ls 6 [(5, .int (nI j)), (4, .ref (ad i)), (0, .ref x), (1, .int cx), (2, .int v), (3, .int nn)] ∧ gw_P D vwCl (gw_A G s.heap.size) G1 H ∧ va_S (gw_A G s.heap.size) s.heap H locs ∧ c_Rep w n rd (s_md σ) cV cT (s_fill σ i v j) x ra rt ad fa ρ fr1 rr rf rc wl el cr G1 := by
            refine ⟨by omega, by omega, by omega, by rw [ej]; exact hl, by rw [eG1, eH]; exact hP, by rw [eH, eL]; exact hS, by rw [ej, efr, eG1]; exact hR⟩
          refine W.cs (cells' := j) (slots' := j) ej.symm ej.symm ?_
          refine W_heq eH eL ?_
          clear hl hP hS ej eg eG1 efr eH eL
          induction g generalizing j ls H locs G1 fr1
          case zero =>
            obtain ⟨hg, hjn, hjr, hl, hP, hS, hR1⟩ := inv
            obtain ⟨sa, sb, sc, sd⟩ := s_fill_st σ i v j
            have hO1 : s_OK w n (s_fill σ i v j) := s_fill_OK hO j hjr
            have hc1 := s_fill_isC (v := v) j hc
            have h31 : s_kd (s_fill σ i v j) i = 3 := by rw [sc]; exact h3
            refine lv_iload hx hb d_S_fill_35 (lv_at hl 0 rfl) ?_
            refine lv_iload_n hx hb d_S_fill_37 rfl (lv_at hl 5 rfl) ?_
            refine lv_icmp_ge (tgt := 71) hx hb d_S_fill_38 (by decide) (fun cj => ?_) (fun cj => ?_)
            · rw [← hn8] at cj
              have hge := (nI_leI (by omega) (by omega)).mp cj
              have emin : j = min nn.toNatClampNeg (s_rm σ i - s_ht σ i) := by omega
              refine W.widen (k := 100) (n := 100) (by omega) (by omega) ?_
              refine lv_iload hx hb d_S_fill_71 (lv_at hl 0 rfl) ?_
              exact W.iret (v := (nI j)) hx hb hr (fun t ht hW => ⟨⟨_, G1, rfl, (by rw [show p_fill σ cx v nn = (nI (min nn.toNatClampNeg (s_rm σ i - s_ht σ i)), s_fill σ i v (min nn.toNatClampNeg (s_rm σ i - s_ht σ i))) from (by simp only [p_fill, hci]; rw [if_pos ⟨hwi, hnm⟩]), ← emin]; exact ⟨rfl, rd, ra, rt, ad, fa, ρ, fr1, rr, rf, rc, wl, el, cr, by omega, by rw [sd]; exact hR1⟩), g_fin ht hP⟩, hS.F ht⟩) hS.2.2 d_S_fill_73
            · have hlt : j < nn.toNatClampNeg := Nat.not_le.mp (fun q => cj (by rw [← hn8]; exact (nI_leI (by omega) (by omega)).mpr q))
              omega
          case succ g ih =>
            obtain ⟨hg, hjn, hjr, hl, hP, hS, hR1⟩ := inv
            obtain ⟨sa, sb, sc, sd⟩ := s_fill_st σ i v j
            have hO1 : s_OK w n (s_fill σ i v j) := s_fill_OK hO j hjr
            have hc1 := s_fill_isC (v := v) j hc
            have h31 : s_kd (s_fill σ i v j) i = 3 := by rw [sc]; exact h3
            refine lv_iload hx hb d_S_fill_35 (lv_at hl 0 rfl) ?_
            refine lv_iload_n hx hb d_S_fill_37 rfl (lv_at hl 5 rfl) ?_
            refine lv_icmp_ge (tgt := 71) hx hb d_S_fill_38 (by decide) (fun cj => ?_) (fun cj => ?_)
            · rw [← hn8] at cj
              have hge := (nI_leI (by omega) (by omega)).mp cj
              have emin : j = min nn.toNatClampNeg (s_rm σ i - s_ht σ i) := by omega
              refine W.widen (k := 100) (n := 100) (by omega) (by omega) ?_
              refine lv_iload hx hb d_S_fill_71 (lv_at hl 0 rfl) ?_
              exact W.iret (v := (nI j)) hx hb hr (fun t ht hW => ⟨⟨_, G1, rfl, (by rw [show p_fill σ cx v nn = (nI (min nn.toNatClampNeg (s_rm σ i - s_ht σ i)), s_fill σ i v (min nn.toNatClampNeg (s_rm σ i - s_ht σ i))) from (by simp only [p_fill, hci]; rw [if_pos ⟨hwi, hnm⟩]), ← emin]; exact ⟨rfl, rd, ra, rt, ad, fa, ρ, fr1, rr, rf, rc, wl, el, cr, by omega, by rw [sd]; exact hR1⟩), g_fin ht hP⟩, hS.F ht⟩) hS.2.2 d_S_fill_73
            · have hlt : j < nn.toNatClampNeg := Nat.not_le.mp (fun q => cj (by rw [← hn8]; exact (nI_leI (by omega) (by omega)).mpr q))
              refine lv_aload hx hb d_S_fill_41 (lv_at hl 1 rfl) ?_
              refine vp_callSi (va_Run.run (r_U (owner := "StackRoom$Context") (n := 0) (rest := []) C0 [] (k_C_isFull l hR1 (i := i) hc1 hO1.1 ht0) ml_S_C_isFull sm_C_C_isFull se_X_C_isFull_C im_C_isFull ini_C co_C_isFull rfl (by decide +kernel) (g_preV (ci := 3) hK hP rfl (hR1.c3 h31)) hl.1 d_S_fill_43 rfl rfl (Nat.le_of_ble_eq_true rfl) ⟨rfl, rfl⟩ ⟨Nat.le_of_ble_eq_true rfl, Nat.le_of_ble_eq_true rfl⟩ ⟨show j + 0 ≤ 100 by omega, show j + 0 ≤ 100 by omega⟩)) (fun q43 eq43 => ?_)
              refine lv_if_ne (tgt := 71) hx hb d_S_fill_46 (by decide) (fun c43 => ?_) (fun c43 => ?_)
              · have hfull : s_rm (s_fill σ i v j) i ≤ s_ht (s_fill σ i v j) i := Decidable.byContradiction (fun h => c43 (eq43.trans (if_neg h)))
                rw [sa, sb] at hfull
                have emin : j = min nn.toNatClampNeg (s_rm σ i - s_ht σ i) := by omega
                refine W.widen (k := 100) (n := 100) (by omega) (by omega) ?_
                refine lv_iload hx hb d_S_fill_71 (lv_at hl 0 rfl) ?_
                exact W.iret (v := (nI j)) hx hb hr (fun t ht hW => ⟨⟨_, G1, rfl, (by rw [show p_fill σ cx v nn = (nI (min nn.toNatClampNeg (s_rm σ i - s_ht σ i)), s_fill σ i v (min nn.toNatClampNeg (s_rm σ i - s_ht σ i))) from (by simp only [p_fill, hci]; rw [if_pos ⟨hwi, hnm⟩]), ← emin]; exact ⟨rfl, rd, ra, rt, ad, fa, ρ, fr1, rr, rf, rc, wl, el, cr, by omega, by rw [sd]; exact hR1⟩), g_fin ht hP⟩, hS.F ht⟩) hS.2.2 d_S_fill_73
              · have hfull : ¬ (s_rm (s_fill σ i v j) i ≤ s_ht (s_fill σ i v j) i) := fun h => absurd (eq43.symm.trans c43) (by rw [if_pos h]; decide)
                rw [sa, sb] at hfull
                refine lv_aload hx hb d_S_fill_49 (lv_at hl 1 rfl) ?_
                refine gw_new (D := D) (cl := vwCl) (ci := 1) (fs := [.int 0]) (C := "StackRoom$Whole") (T := T_W) (N := 1) hx hb ht in_W ty_W tk_W hown (ht _ cl_S_W) (ht _ is_W) (ht _ ini_W) hK.1 hP hS hA rfl (fun j hj => by rcases (show j = 0 by omega) with rfl <;> rfl) (show j + 1 ≤ 100 by omega) (show j + 1 ≤ 100 by omega) d_S_fill_51 (fun q0 H hP n_q0 hS => ?_)
                obtain ⟨G41, eG41⟩ : ∃ z : gw_G, z = va_up G1 q0 (some (.inr (1, [.int 0]))) := ⟨_, rfl⟩
                replace hP : gw_P D vwCl (gw_A G s.heap.size) G41 H := by rw [eG41]; exact hP
                have f41 : G41 q0 = some (.inr (1, [.int 0])) := by rw [eG41]; exact va_up_self _ _ _
                refine lv_dup hx hb d_S_fill_54 rfl ?_
                refine lv_iload_n hx hb d_S_fill_55 rfl (lv_at hl 4 rfl) ?_
                refine lv_iload hx hb d_S_fill_56 (lv_at hl 0 rfl) ?_
                refine lv_iadd hx hb d_S_fill_58 ?_
                refine g_callv hP hS hA (r_I (rest := [.ref q0, .ref (ad i)]) C0 [.int (v + (nI j))] (k_W_init l f41 (v + nI j)) ml_S_W_init im_W_init ini_W co_W_init rfl hd_W_init (g_preS hK hP) hl.1 d_S_fill_59 rfl rfl (Nat.le_of_ble_eq_true rfl) ⟨rfl, rfl⟩ ⟨Nat.le_of_ble_eq_true rfl, Nat.le_of_ble_eq_true rfl⟩ ⟨show j + 1 + 0 ≤ 100 by omega, show j + 1 + 0 ≤ 100 by omega⟩) (fun G80 H locs eG80 hP hS hz9 hk9 => ?_)
                have e80 : G80 = va_up G1 q0 (some (.inr (kW, [.int (v + nI j)]))) := by rw [eG80, eG41, va_up_up]
                have hR2 := hR1.fresh (e := some (.inr (kW, [.int (v + nI j)]))) n_q0
                rw [← e80] at hR2
                have f80 : G80 q0 = some (.inr (kW, [.int (v + nI j)])) := by rw [e80]; exact va_up_self _ _ _
                refine g_callv hP hS hA (r_U (owner := "StackRoom$Context") (n := 1) (rest := []) C0 [.ref q0] (k_C_pushOne l hR2 hc1 ht0 hO1 (by rw [sd]; omega) (by rw [sa, sb]; omega) (v := some (.inl (v + nI j))) (fun j e => by cases e) (r := some q0) ⟨q0, rfl, f80⟩) ml_S_C_pushOne sm_C_C_pushOne se_X_C_pushOne_C im_C_pushOne ini_C co_C_pushOne rfl (by decide +kernel) (g_preV (ci := 3) hK hP rfl (hR2.c3 h31)) hl.1 d_S_fill_62 rfl rfl (Nat.le_of_ble_eq_true rfl) ⟨rfl, rfl⟩ ⟨Nat.le_of_ble_eq_true rfl, Nat.le_of_ble_eq_true rfl⟩ ⟨show j + 1 + 0 + 0 ≤ 100 by omega, show j + 1 + 0 + 0 ≤ 100 by omega⟩) (fun G81 H locs hR3 hP hS hz9 hk9 => ?_)
                refine lv_iinc (v := nI (j + 1)) (lv' := [(5, .int (nI (j + 1))), (4, .ref (ad i)), (0, .ref x), (1, .int cx), (2, .int v), (3, .int nn)]) hx hb d_S_fill_65 hl (k := 0) rfl (by rw [← nI_1]; rfl) (by decide) rfl (fun ls hl => ?_)
                refine lv_goto (tgt := 35) hx hb d_S_fill_68 (by decide) ?_
                exact ih (j := j + 1) _ _ _ _ _ ⟨by omega, by omega, by omega, lv_sub hl [0, 1, 2, 3, 4, 5] rfl, hP, hS, hR3⟩
        · have hnm : ¬ (nn = 0 ∨ ((-1073741824 ≤ v ∧ v ≤ 1073741823) ∧ v ≤ 1073741823 - (nn - 1))) := fun h => absurd (eq24.symm.trans c24) (by rw [if_pos h]; decide)
          refine W.widen (k := 100) (n := 100) (by omega) (by omega) ?_
          refine lv_iconst (v := (-1)) hx hb d_S_fill_30 (by decide) ?_
          exact W.iret (v := (-1)) hx hb hr (fun t ht hW => ⟨⟨_, G, rfl, (by rw [show p_fill σ cx v nn = (-1, σ) from (by simp only [p_fill, hci]; rw [if_neg (fun z => hnm z.2)])]; exact ⟨rfl, c_R.up ⟨rd, ra, rt, ad, fa, ρ, fr, rr, rf, rc, wl, el, cr, hrd, hR⟩⟩), g_fin ht hP⟩, hS.F ht⟩) hS.2.2 d_S_fill_31
    · refine lv_astore (lv' := [(4, .ref (ad i)), (0, .ref x), (1, .int cx), (2, .int v), (3, .int nn)]) hx hb d_S_fill_5 hl (by decide) rfl (fun ls hl => ?_)
      refine lv_aload hx hb d_S_fill_7 (lv_at hl 0 rfl) ?_
      refine lv_ifnull hx hb d_S_fill_9 ?_
      refine lv_iload_n hx hb d_S_fill_12 rfl (lv_at hl 4 rfl) ?_
      refine lv_iconst (v := 0) hx hb d_S_fill_13 (by decide) ?_
      refine lv_bipush (v := 100) hx hb d_S_fill_14 (by decide) ?_
      refine vp_callSi (va_Run.run (r_S (rest := []) C0 [.int nn, .int 0, .int 100] (k_S_isWithin l nn 0 100) ml_S_S_isWithin st_S_isWithin ini_S co_S_isWithin hd_S_isWithin v_preS hl.1 d_S_fill_16 rfl rfl (Nat.le_of_ble_eq_true rfl) ⟨rfl, rfl⟩ ⟨Nat.le_of_ble_eq_true rfl, Nat.le_of_ble_eq_true rfl⟩ ⟨Nat.le_of_ble_eq_true rfl, Nat.le_of_ble_eq_true rfl⟩)) (fun q16 eq16 => ?_)
      refine lv_if_eq (tgt := 30) hx hb d_S_fill_19 (by decide) (fun c16 => ?_) (fun c16 => ?_)
      · have hwi : ¬ (0 ≤ nn ∧ nn ≤ 100) := fun h => absurd (eq16.symm.trans c16) (by rw [if_pos h]; decide)
        refine W.widen (k := 100) (n := 100) (by omega) (by omega) ?_
        refine lv_iconst (v := (-1)) hx hb d_S_fill_30 (by decide) ?_
        exact W.iret (v := (-1)) hx hb hr (fun t ht hW => ⟨⟨_, G, rfl, (by rw [show p_fill σ cx v nn = (-1, σ) from (by simp only [p_fill, hci]; rw [if_neg (fun z => hwi z.1)])]; exact ⟨rfl, c_R.up ⟨rd, ra, rt, ad, fa, ρ, fr, rr, rf, rc, wl, el, cr, hrd, hR⟩⟩), g_fin ht hP⟩, hS.F ht⟩) hS.2.2 d_S_fill_31
      · have hwi : 0 ≤ nn ∧ nn ≤ 100 := Decidable.byContradiction (fun h => c16 (eq16.trans (if_neg h)))
        refine lv_iload_n hx hb d_S_fill_22 rfl (lv_at hl 3 rfl) ?_
        refine lv_iload_n hx hb d_S_fill_23 rfl (lv_at hl 4 rfl) ?_
        refine vp_callSi (va_Run.run (r_S (rest := []) C0 [.int v, .int nn] (k_S_areNumbers l v nn) ml_S_S_areNumbers st_S_areNumbers ini_S co_S_areNumbers hd_S_areNumbers v_preS hl.1 d_S_fill_24 rfl rfl (Nat.le_of_ble_eq_true rfl) ⟨rfl, rfl⟩ ⟨Nat.le_of_ble_eq_true rfl, Nat.le_of_ble_eq_true rfl⟩ ⟨Nat.le_of_ble_eq_true rfl, Nat.le_of_ble_eq_true rfl⟩)) (fun q24 eq24 => ?_)
        refine lv_if_ne (tgt := 32) hx hb d_S_fill_27 (by decide) (fun c24 => ?_) (fun c24 => ?_)
        · have hnm : nn = 0 ∨ ((-1073741824 ≤ v ∧ v ≤ 1073741823) ∧ v ≤ 1073741823 - (nn - 1)) := Decidable.byContradiction (fun h => c24 (eq24.trans (if_neg h)))
          have hn9 : nn.toNatClampNeg ≤ 100 := s_clampLe hwi.1 (by decide) hwi.2
          have hn8 := s_clampI hwi.1
          have hb9 := (hO.1.2.2.2.2.2.2 i hc).2
          refine lv_iconst (v := 0) hx hb d_S_fill_32 (by decide) ?_
          refine lv_istore (lv' := [(5, .int 0), (4, .ref (ad i)), (0, .ref x), (1, .int cx), (2, .int v), (3, .int nn)]) hx hb d_S_fill_33 hl (by decide) rfl (fun ls hl => ?_)
          obtain ⟨j, ej⟩ : ∃ z : Nat, z = 0 := ⟨_, rfl⟩
          obtain ⟨g, eg⟩ : ∃ z : Nat, z = 100 := ⟨_, rfl⟩
          obtain ⟨G1, eG1⟩ : ∃ z : gw_G, z = G := ⟨_, rfl⟩
          obtain ⟨H, eH⟩ : ∃ z : Heap, z = s.heap := ⟨_, rfl⟩
          obtain ⟨locs, eL⟩ : ∃ z : List Loc, z = [] := ⟨_, rfl⟩
          obtain ⟨fr1, efr⟩ : ∃ z : Nat → Nat → Option Nat, z = fr := ⟨_, rfl⟩
          have inv : 100 ≤ j + g ∧ j ≤ nn.toNatClampNeg ∧ s_ht σ i + j ≤ s_rm σ i ∧ lv_has ls 6 [(5, .int (nI j)), (4, .ref (ad i)), (0, .ref x), (1, .int cx), (2, .int v), (3, .int nn)] ∧ gw_P D vwCl (gw_A G s.heap.size) G1 H ∧ va_S (gw_A G s.heap.size) s.heap H locs ∧ c_Rep w n rd (s_md σ) cV cT (s_fill σ i v j) x ra rt ad fa ρ fr1 rr rf rc wl el cr G1 := by
            refine ⟨by omega, by omega, by omega, by rw [ej]; exact hl, by rw [eG1, eH]; exact hP, by rw [eH, eL]; exact hS, by rw [ej, efr, eG1]; exact hR⟩
          refine W.cs (cells' := j) (slots' := j) ej.symm ej.symm ?_
          refine W_heq eH eL ?_
          clear hl hP hS ej eg eG1 efr eH eL
          induction g generalizing j ls H locs G1 fr1
          case zero =>
            obtain ⟨hg, hjn, hjr, hl, hP, hS, hR1⟩ := inv
            obtain ⟨sa, sb, sc, sd⟩ := s_fill_st σ i v j
            have hO1 : s_OK w n (s_fill σ i v j) := s_fill_OK hO j hjr
            have hc1 := s_fill_isC (v := v) j hc
            have h41 : s_kd (s_fill σ i v j) i = 4 := by rw [sc]; exact h4
            refine lv_iload hx hb d_S_fill_35 (lv_at hl 0 rfl) ?_
            refine lv_iload_n hx hb d_S_fill_37 rfl (lv_at hl 5 rfl) ?_
            refine lv_icmp_ge (tgt := 71) hx hb d_S_fill_38 (by decide) (fun cj => ?_) (fun cj => ?_)
            · rw [← hn8] at cj
              have hge := (nI_leI (by omega) (by omega)).mp cj
              have emin : j = min nn.toNatClampNeg (s_rm σ i - s_ht σ i) := by omega
              refine W.widen (k := 100) (n := 100) (by omega) (by omega) ?_
              refine lv_iload hx hb d_S_fill_71 (lv_at hl 0 rfl) ?_
              exact W.iret (v := (nI j)) hx hb hr (fun t ht hW => ⟨⟨_, G1, rfl, (by rw [show p_fill σ cx v nn = (nI (min nn.toNatClampNeg (s_rm σ i - s_ht σ i)), s_fill σ i v (min nn.toNatClampNeg (s_rm σ i - s_ht σ i))) from (by simp only [p_fill, hci]; rw [if_pos ⟨hwi, hnm⟩]), ← emin]; exact ⟨rfl, rd, ra, rt, ad, fa, ρ, fr1, rr, rf, rc, wl, el, cr, by omega, by rw [sd]; exact hR1⟩), g_fin ht hP⟩, hS.F ht⟩) hS.2.2 d_S_fill_73
            · have hlt : j < nn.toNatClampNeg := Nat.not_le.mp (fun q => cj (by rw [← hn8]; exact (nI_leI (by omega) (by omega)).mpr q))
              omega
          case succ g ih =>
            obtain ⟨hg, hjn, hjr, hl, hP, hS, hR1⟩ := inv
            obtain ⟨sa, sb, sc, sd⟩ := s_fill_st σ i v j
            have hO1 : s_OK w n (s_fill σ i v j) := s_fill_OK hO j hjr
            have hc1 := s_fill_isC (v := v) j hc
            have h41 : s_kd (s_fill σ i v j) i = 4 := by rw [sc]; exact h4
            refine lv_iload hx hb d_S_fill_35 (lv_at hl 0 rfl) ?_
            refine lv_iload_n hx hb d_S_fill_37 rfl (lv_at hl 5 rfl) ?_
            refine lv_icmp_ge (tgt := 71) hx hb d_S_fill_38 (by decide) (fun cj => ?_) (fun cj => ?_)
            · rw [← hn8] at cj
              have hge := (nI_leI (by omega) (by omega)).mp cj
              have emin : j = min nn.toNatClampNeg (s_rm σ i - s_ht σ i) := by omega
              refine W.widen (k := 100) (n := 100) (by omega) (by omega) ?_
              refine lv_iload hx hb d_S_fill_71 (lv_at hl 0 rfl) ?_
              exact W.iret (v := (nI j)) hx hb hr (fun t ht hW => ⟨⟨_, G1, rfl, (by rw [show p_fill σ cx v nn = (nI (min nn.toNatClampNeg (s_rm σ i - s_ht σ i)), s_fill σ i v (min nn.toNatClampNeg (s_rm σ i - s_ht σ i))) from (by simp only [p_fill, hci]; rw [if_pos ⟨hwi, hnm⟩]), ← emin]; exact ⟨rfl, rd, ra, rt, ad, fa, ρ, fr1, rr, rf, rc, wl, el, cr, by omega, by rw [sd]; exact hR1⟩), g_fin ht hP⟩, hS.F ht⟩) hS.2.2 d_S_fill_73
            · have hlt : j < nn.toNatClampNeg := Nat.not_le.mp (fun q => cj (by rw [← hn8]; exact (nI_leI (by omega) (by omega)).mpr q))
              refine lv_aload hx hb d_S_fill_41 (lv_at hl 1 rfl) ?_
              refine vp_callSi (va_Run.run (r_U (owner := "StackRoom$Context") (n := 0) (rest := []) C0 [] (k_C_isFull l hR1 (i := i) hc1 hO1.1 ht0) ml_S_C_isFull sm_C_C_isFull se_B_C_isFull_C im_C_isFull ini_C co_C_isFull rfl (by decide +kernel) (g_preV (ci := 4) hK hP rfl (hR1.c4 h41)) hl.1 d_S_fill_43 rfl rfl (Nat.le_of_ble_eq_true rfl) ⟨rfl, rfl⟩ ⟨Nat.le_of_ble_eq_true rfl, Nat.le_of_ble_eq_true rfl⟩ ⟨show j + 0 ≤ 100 by omega, show j + 0 ≤ 100 by omega⟩)) (fun q43 eq43 => ?_)
              refine lv_if_ne (tgt := 71) hx hb d_S_fill_46 (by decide) (fun c43 => ?_) (fun c43 => ?_)
              · have hfull : s_rm (s_fill σ i v j) i ≤ s_ht (s_fill σ i v j) i := Decidable.byContradiction (fun h => c43 (eq43.trans (if_neg h)))
                rw [sa, sb] at hfull
                have emin : j = min nn.toNatClampNeg (s_rm σ i - s_ht σ i) := by omega
                refine W.widen (k := 100) (n := 100) (by omega) (by omega) ?_
                refine lv_iload hx hb d_S_fill_71 (lv_at hl 0 rfl) ?_
                exact W.iret (v := (nI j)) hx hb hr (fun t ht hW => ⟨⟨_, G1, rfl, (by rw [show p_fill σ cx v nn = (nI (min nn.toNatClampNeg (s_rm σ i - s_ht σ i)), s_fill σ i v (min nn.toNatClampNeg (s_rm σ i - s_ht σ i))) from (by simp only [p_fill, hci]; rw [if_pos ⟨hwi, hnm⟩]), ← emin]; exact ⟨rfl, rd, ra, rt, ad, fa, ρ, fr1, rr, rf, rc, wl, el, cr, by omega, by rw [sd]; exact hR1⟩), g_fin ht hP⟩, hS.F ht⟩) hS.2.2 d_S_fill_73
              · have hfull : ¬ (s_rm (s_fill σ i v j) i ≤ s_ht (s_fill σ i v j) i) := fun h => absurd (eq43.symm.trans c43) (by rw [if_pos h]; decide)
                rw [sa, sb] at hfull
                refine lv_aload hx hb d_S_fill_49 (lv_at hl 1 rfl) ?_
                refine gw_new (D := D) (cl := vwCl) (ci := 1) (fs := [.int 0]) (C := "StackRoom$Whole") (T := T_W) (N := 1) hx hb ht in_W ty_W tk_W hown (ht _ cl_S_W) (ht _ is_W) (ht _ ini_W) hK.1 hP hS hA rfl (fun j hj => by rcases (show j = 0 by omega) with rfl <;> rfl) (show j + 1 ≤ 100 by omega) (show j + 1 ≤ 100 by omega) d_S_fill_51 (fun q0 H hP n_q0 hS => ?_)
                obtain ⟨G82, eG82⟩ : ∃ z : gw_G, z = va_up G1 q0 (some (.inr (1, [.int 0]))) := ⟨_, rfl⟩
                replace hP : gw_P D vwCl (gw_A G s.heap.size) G82 H := by rw [eG82]; exact hP
                have f82 : G82 q0 = some (.inr (1, [.int 0])) := by rw [eG82]; exact va_up_self _ _ _
                refine lv_dup hx hb d_S_fill_54 rfl ?_
                refine lv_iload_n hx hb d_S_fill_55 rfl (lv_at hl 4 rfl) ?_
                refine lv_iload hx hb d_S_fill_56 (lv_at hl 0 rfl) ?_
                refine lv_iadd hx hb d_S_fill_58 ?_
                refine g_callv hP hS hA (r_I (rest := [.ref q0, .ref (ad i)]) C0 [.int (v + (nI j))] (k_W_init l f82 (v + nI j)) ml_S_W_init im_W_init ini_W co_W_init rfl hd_W_init (g_preS hK hP) hl.1 d_S_fill_59 rfl rfl (Nat.le_of_ble_eq_true rfl) ⟨rfl, rfl⟩ ⟨Nat.le_of_ble_eq_true rfl, Nat.le_of_ble_eq_true rfl⟩ ⟨show j + 1 + 0 ≤ 100 by omega, show j + 1 + 0 ≤ 100 by omega⟩) (fun G80 H locs eG80 hP hS hz9 hk9 => ?_)
                have e80 : G80 = va_up G1 q0 (some (.inr (kW, [.int (v + nI j)]))) := by rw [eG80, eG82, va_up_up]
                have hR2 := hR1.fresh (e := some (.inr (kW, [.int (v + nI j)]))) n_q0
                rw [← e80] at hR2
                have f80 : G80 q0 = some (.inr (kW, [.int (v + nI j)])) := by rw [e80]; exact va_up_self _ _ _
                refine g_callv hP hS hA (r_U (owner := "StackRoom$Context") (n := 1) (rest := []) C0 [.ref q0] (k_C_pushOne l hR2 hc1 ht0 hO1 (by rw [sd]; omega) (by rw [sa, sb]; omega) (v := some (.inl (v + nI j))) (fun j e => by cases e) (r := some q0) ⟨q0, rfl, f80⟩) ml_S_C_pushOne sm_C_C_pushOne se_B_C_pushOne_C im_C_pushOne ini_C co_C_pushOne rfl (by decide +kernel) (g_preV (ci := 4) hK hP rfl (hR2.c4 h41)) hl.1 d_S_fill_62 rfl rfl (Nat.le_of_ble_eq_true rfl) ⟨rfl, rfl⟩ ⟨Nat.le_of_ble_eq_true rfl, Nat.le_of_ble_eq_true rfl⟩ ⟨show j + 1 + 0 + 0 ≤ 100 by omega, show j + 1 + 0 + 0 ≤ 100 by omega⟩) (fun G81 H locs hR3 hP hS hz9 hk9 => ?_)
                refine lv_iinc (v := nI (j + 1)) (lv' := [(5, .int (nI (j + 1))), (4, .ref (ad i)), (0, .ref x), (1, .int cx), (2, .int v), (3, .int nn)]) hx hb d_S_fill_65 hl (k := 0) rfl (by rw [← nI_1]; rfl) (by decide) rfl (fun ls hl => ?_)
                refine lv_goto (tgt := 35) hx hb d_S_fill_68 (by decide) ?_
                exact ih (j := j + 1) _ _ _ _ _ ⟨by omega, by omega, by omega, lv_sub hl [0, 1, 2, 3, 4, 5] rfl, hP, hS, hR3⟩
        · have hnm : ¬ (nn = 0 ∨ ((-1073741824 ≤ v ∧ v ≤ 1073741823) ∧ v ≤ 1073741823 - (nn - 1))) := fun h => absurd (eq24.symm.trans c24) (by rw [if_pos h]; decide)
          refine W.widen (k := 100) (n := 100) (by omega) (by omega) ?_
          refine lv_iconst (v := (-1)) hx hb d_S_fill_30 (by decide) ?_
          exact W.iret (v := (-1)) hx hb hr (fun t ht hW => ⟨⟨_, G, rfl, (by rw [show p_fill σ cx v nn = (-1, σ) from (by simp only [p_fill, hci]; rw [if_neg (fun z => hnm z.2)])]; exact ⟨rfl, c_R.up ⟨rd, ra, rt, ad, fa, ρ, fr, rr, rf, rc, wl, el, cr, hrd, hR⟩⟩), g_fin ht hP⟩, hS.F ht⟩) hS.2.2 d_S_fill_31
set_option maxHeartbeats 4000000 in
set_option maxRecDepth 100000 in
theorem k_S_drop (l : Launch) (hR0 : c_R w n k cV cT σ x G) (hO : s_OK w n σ) (hw : 128 ≤ w ∧ w ≤ 32768) (hn : 16 ≤ n ∧ n ≤ 4096) (hm : s_md σ + 2 < 2 ^ 31) (hk : k + 1 < 2 ^ 31) (ht0 : tys[0]? = some (cV, .object "StackRoom$Value")) (ht1 : tys[1]? = some (cT, .object "StackRoom$Thing")) (cx nn : Int32) : Met l y_S_drop w_S_drop ({ frames := 3, cells := 0, slots := 0, locals := 65 }) (g_pre D tys G sz [.ref x, .int cx, .int nn]) (va_Qi (fun (rz : Int32) (G1 : gw_G) => rz = (p_drop σ cx nn).1 ∧ c_R w n (k + 1) cV cT (p_drop σ cx nn).2 x G1) (g_end D G sz) (gw_A G sz)) 0 0 (gw_A G sz) := by
  refine Met.ofW (cc := b_S_drop) (maxL := 5) (ret := (some .boolean)) (by decide) rfl ?_
  intro p e s m args below meth c s₁ B hml hv
  obtain ⟨rfl, hsz, hP, hK⟩ := hv
  have hx := B.exec
  have hb := B.bytes
  have hr := B.returns
  have ht := fun w (hw : w ∈ gt) => atoms_spec (ws := w_S_drop) B.pre w (List.mem_cons_of_mem _ hw)
  have hown : s.vm.findClass "StackRoom" = some m.cls := findClass_of_methodNamed B.named
  have hlocks := B.notSynchronized
  have C0 : CallFix p m c b_S_drop 5 s [.ref x, .int cx, .int nn].toArray gt "StackRoom" := ⟨hx, hb, hml, hown, ht⟩
  subst hsz
  have hP := hP.self (sz := s.heap.size)
  have hA : ∀ q : Nat, s.heap.size ≤ q → gw_A G s.heap.size q := fun q h => Or.inr h
  have hS : va_S (gw_A G s.heap.size) s.heap s.heap [] := va_S.rf
  have hl := lv_entry ([.ref x, .int cx, .int nn]) (n := 5) (Nat.le_of_ble_eq_true rfl)
  rw [lg_entry_eq]
  generalize (lg_sl ([.ref x, .int cx, .int nn]) ++ List.replicate (5 - (lg_sl ([.ref x, .int cx, .int nn])).length) Slot.unset).toArray = ls at hl ⊢
  have hl : lv_has ls 5 [(0, .ref x), (1, .int cx), (2, .int nn)] := hl
  obtain ⟨rd, ra, rt, ad, fa, ρ, fr, rr, rf, rc, wl, el, cr, hrd, hR⟩ := hR0
  refine lv_aload_n hx hb d_S_drop_0 rfl (lv_at hl 0 rfl) ?_
  refine lv_iload_n hx hb d_S_drop_1 rfl (lv_at hl 1 rfl) ?_
  refine va_csq (va_Run.run (r_V (rest := []) C0 [.int cx] (k_S_contextIn l hR hO.1 ht0 cx) ml_S_S_contextIn im_S_contextIn se_S_S_contextIn_S ini_S co_S_contextIn ⟨rfl, hd_S_contextIn⟩ (g_preV (ci := 0) hK hP rfl hR.1) hl.1 d_S_drop_2 rfl rfl (Nat.le_of_ble_eq_true rfl) ⟨rfl, rfl⟩ ⟨Nat.le_of_ble_eq_true rfl, Nat.le_of_ble_eq_true rfl⟩ ⟨Nat.le_of_ble_eq_true rfl, Nat.le_of_ble_eq_true rfl⟩)) (fun qc ec => ?_)
  subst ec
  rcases hci : s_ci σ cx with _ | i
  · refine lv_astore_nN (lv' := [(3, .null), (0, .ref x), (1, .int cx), (2, .int nn)]) hx hb d_S_drop_5 rfl hl (by decide) rfl (fun ls hl => ?_)
    refine lv_aload_nN hx hb d_S_drop_6 rfl (lv_at hl 0 rfl) ?_
    refine lv_ifnullN (tgt := 14) hx hb d_S_drop_7 (by decide) ?_
    refine lv_iconst (v := 0) hx hb d_S_drop_14 (by decide) ?_
    exact W.zret (v := 0) hx hb hr rfl (fun t ht hW => ⟨⟨_, G, rfl, (by rw [show p_drop σ cx nn = (0, σ) from (by simp only [p_drop, hci])]; exact ⟨rfl, c_R.up ⟨rd, ra, rt, ad, fa, ρ, fr, rr, rf, rc, wl, el, cr, hrd, hR⟩⟩), g_fin ht hP⟩, hS.F ht⟩) hS.2.2 d_S_drop_15
  · have hc := (s_ci_some hci).2.2
    have hri := s_ci_rch hci
    rcases id hc with h3 | h4
    · have hb9 := (hO.1.2.2.2.2.2.2 i hc).2
      have hf9 := s_fr_le hO.1 hc
      refine lv_astore_n (lv' := [(3, .ref (ad i)), (0, .ref x), (1, .int cx), (2, .int nn)]) hx hb d_S_drop_5 rfl hl (by decide) rfl (fun ls hl => ?_)
      refine lv_aload_n hx hb d_S_drop_6 rfl (lv_at hl 0 rfl) ?_
      refine lv_ifnull hx hb d_S_drop_7 ?_
      refine lv_iload_n hx hb d_S_drop_10 rfl (lv_at hl 3 rfl) ?_
      refine lv_if_ge (tgt := 16) hx hb d_S_drop_11 (by decide) (fun c0 => ?_) (fun c0 => ?_)
      · refine lv_iload_n hx hb d_S_drop_16 rfl (lv_at hl 3 rfl) ?_
        refine lv_if_le (tgt := 30) hx hb d_S_drop_17 (by decide) (fun c1 => ?_) (fun c1 => ?_)
        · have hok : nn = 0 ∨ s_fr σ i + nn.toNatClampNeg ≤ s_ht σ i := Or.inl (s_clamp0 c1 c0)
          have hn8 := s_clampI c0
          have hn7 : s_fr σ i + nn.toNatClampNeg ≤ s_ht σ i ∨ nn.toNatClampNeg = 0 := by
            rcases hok with e | e
            · exact Or.inr (by rw [e]; decide)
            · exact Or.inl e
          refine lv_iconst (v := 0) hx hb d_S_drop_30 (by decide) ?_
          refine lv_istore (lv' := [(4, .int 0), (3, .ref (ad i)), (0, .ref x), (1, .int cx), (2, .int nn)]) hx hb d_S_drop_31 hl (by decide) rfl (fun ls hl => ?_)
          obtain ⟨j, ej⟩ : ∃ z : Nat, z = 0 := ⟨_, rfl⟩
          obtain ⟨g, eg⟩ : ∃ z : Nat, z = 94 := ⟨_, rfl⟩
          obtain ⟨G1, eG1⟩ : ∃ z : gw_G, z = G := ⟨_, rfl⟩
          obtain ⟨H, eH⟩ : ∃ z : Heap, z = s.heap := ⟨_, rfl⟩
          obtain ⟨locs, eL⟩ : ∃ z : List Loc, z = [] := ⟨_, rfl⟩
          obtain ⟨fr1, efr⟩ : ∃ z : Nat → Nat → Option Nat, z = fr := ⟨_, rfl⟩
          have inv : 94 ≤ j + g ∧ j ≤ nn.toNatClampNeg ∧ lv_has ls 5 [(4, .int (nI j)), (3, .ref (ad i)), (0, .ref x), (1, .int cx), (2, .int nn)] ∧ gw_P D vwCl (gw_A G s.heap.size) G1 H ∧ va_S (gw_A G s.heap.size) s.heap H locs ∧ c_Rep w n rd (s_md σ) cV cT (s_drop σ i j) x ra rt ad fa ρ fr1 rr rf rc wl el cr G1 := by
            refine ⟨by omega, by omega, by rw [ej]; exact hl, by rw [eG1, eH]; exact hP, by rw [eH, eL]; exact hS, by rw [ej, efr, eG1]; exact hR⟩
          refine W_heq eH eL ?_
          clear hl hP hS ej eg eG1 efr eH eL
          induction g generalizing j ls H locs G1 fr1
          case zero =>
            obtain ⟨hg, hjn, hl, hP, hS, hR1⟩ := inv
            obtain ⟨sa, sb, sc, sd⟩ := s_drop_st σ i j
            have hO1 : s_OK w n (s_drop σ i j) := s_drop_OK hO hc j
            have hc1 := s_drop_isC j hc
            have h31 : s_kd (s_drop σ i j) i = 3 := by rw [sc]; exact h3
            refine lv_iload hx hb d_S_drop_33 (lv_at hl 0 rfl) ?_
            refine lv_iload_n hx hb d_S_drop_35 rfl (lv_at hl 4 rfl) ?_
            refine lv_icmp_ge (tgt := 50) hx hb d_S_drop_36 (by decide) (fun cj => ?_) (fun cj => ?_)
            · rw [← hn8] at cj
              have hge : nn.toNatClampNeg ≤ j := (nI_leI (by omega) (by omega)).mp cj
              have ej : j = nn.toNatClampNeg := by omega
              refine lv_iconst (v := 1) hx hb d_S_drop_50 (by decide) ?_
              exact W.zret (v := 1) hx hb hr rfl (fun t ht hW => ⟨⟨_, G1, rfl, (by rw [show p_drop σ cx nn = (1, s_drop σ i nn.toNatClampNeg) from (by simp only [p_drop, hci]; rw [if_pos ⟨c0, hok⟩]), ← ej]; exact ⟨rfl, rd, ra, rt, ad, fa, ρ, fr1, rr, rf, rc, wl, el, cr, by omega, by rw [sd]; exact hR1⟩), g_fin ht hP⟩, hS.F ht⟩) hS.2.2 d_S_drop_51
            · have hlt : j < nn.toNatClampNeg := Nat.not_le.mp (fun q => cj (by rw [← hn8]; exact (nI_leI (by omega) (by omega)).mpr q))
              omega
          case succ g ih =>
            obtain ⟨hg, hjn, hl, hP, hS, hR1⟩ := inv
            obtain ⟨sa, sb, sc, sd⟩ := s_drop_st σ i j
            have hO1 : s_OK w n (s_drop σ i j) := s_drop_OK hO hc j
            have hc1 := s_drop_isC j hc
            have h31 : s_kd (s_drop σ i j) i = 3 := by rw [sc]; exact h3
            refine lv_iload hx hb d_S_drop_33 (lv_at hl 0 rfl) ?_
            refine lv_iload_n hx hb d_S_drop_35 rfl (lv_at hl 4 rfl) ?_
            refine lv_icmp_ge (tgt := 50) hx hb d_S_drop_36 (by decide) (fun cj => ?_) (fun cj => ?_)
            · rw [← hn8] at cj
              have hge : nn.toNatClampNeg ≤ j := (nI_leI (by omega) (by omega)).mp cj
              have ej : j = nn.toNatClampNeg := by omega
              refine lv_iconst (v := 1) hx hb d_S_drop_50 (by decide) ?_
              exact W.zret (v := 1) hx hb hr rfl (fun t ht hW => ⟨⟨_, G1, rfl, (by rw [show p_drop σ cx nn = (1, s_drop σ i nn.toNatClampNeg) from (by simp only [p_drop, hci]; rw [if_pos ⟨c0, hok⟩]), ← ej]; exact ⟨rfl, rd, ra, rt, ad, fa, ρ, fr1, rr, rf, rc, wl, el, cr, by omega, by rw [sd]; exact hR1⟩), g_fin ht hP⟩, hS.F ht⟩) hS.2.2 d_S_drop_51
            · have hlt : j < nn.toNatClampNeg := Nat.not_le.mp (fun q => cj (by rw [← hn8]; exact (nI_leI (by omega) (by omega)).mpr q))
              refine lv_aload_n hx hb d_S_drop_39 rfl (lv_at hl 1 rfl) ?_
              refine g_callq hP hS hA (r_U (owner := "StackRoom$Context") (n := 0) (rest := []) C0 [] (k_C_popOne l hR1 hc1 ht0 hO1 (by rw [sd]; omega) (by rw [sa]; omega)) ml_S_C_popOne sm_C_C_popOne se_X_C_popOne_C im_C_popOne ini_C co_C_popOne rfl (by decide +kernel) (g_preV (ci := 3) hK hP rfl (hR1.c3 h31)) hl.1 d_S_drop_40 rfl rfl (Nat.le_of_ble_eq_true rfl) ⟨rfl, rfl⟩ ⟨Nat.le_of_ble_eq_true rfl, Nat.le_of_ble_eq_true rfl⟩ ⟨Nat.le_of_ble_eq_true rfl, Nat.le_of_ble_eq_true rfl⟩) (fun rq G2 H locs hq2 hP hS hz9 hk9 => ?_)
              obtain ⟨-, hR2, -⟩ := hq2
              refine lv_pop hx hb d_S_drop_43 (by cases rq <;> rfl) ?_
              refine lv_iinc (v := nI (j + 1)) (lv' := [(4, .int (nI (j + 1))), (3, .ref (ad i)), (0, .ref x), (1, .int cx), (2, .int nn)]) hx hb d_S_drop_44 hl (k := 0) rfl (by rw [← nI_1]; rfl) (by decide) rfl (fun ls hl => ?_)
              refine lv_goto (tgt := 33) hx hb d_S_drop_47 (by decide) ?_
              exact ih (j := j + 1) _ _ _ _ _ ⟨by omega, by omega, lv_sub hl [0, 1, 2, 3, 4] rfl, hP, hS, hR2⟩
        · refine lv_iload_n hx hb d_S_drop_20 rfl (lv_at hl 3 rfl) ?_
          refine lv_aload_n hx hb d_S_drop_21 rfl (lv_at hl 0 rfl) ?_
          refine vp_callSi (va_Run.run (r_U (owner := "StackRoom$Context") (n := 0) (rest := [.int nn]) C0 [] (k_C_depthNow l hR (i := i) hc hO.1) ml_S_C_depthNow sm_C_C_depthNow se_X_C_depthNow_C im_C_depthNow ini_C co_C_depthNow rfl (by decide +kernel) (g_preV (ci := 3) hK hP rfl (hR.c3 h3)) hl.1 d_S_drop_22 rfl rfl (Nat.le_of_ble_eq_true rfl) ⟨rfl, rfl⟩ ⟨Nat.le_of_ble_eq_true rfl, Nat.le_of_ble_eq_true rfl⟩ ⟨Nat.le_of_ble_eq_true rfl, Nat.le_of_ble_eq_true rfl⟩)) (fun qd ed => ?_)
          refine lv_icmp_le (tgt := 30) hx hb d_S_drop_25 (by decide) (fun c2 => ?_) (fun c2 => ?_)
          · have hok : nn = 0 ∨ s_fr σ i + nn.toNatClampNeg ≤ s_ht σ i := Or.inr ((dp_le (by omega) (by omega) c0).mp (ed ▸ c2))
            have hn8 := s_clampI c0
            have hn7 : s_fr σ i + nn.toNatClampNeg ≤ s_ht σ i ∨ nn.toNatClampNeg = 0 := by
              rcases hok with e | e
              · exact Or.inr (by rw [e]; decide)
              · exact Or.inl e
            refine lv_iconst (v := 0) hx hb d_S_drop_30 (by decide) ?_
            refine lv_istore (lv' := [(4, .int 0), (3, .ref (ad i)), (0, .ref x), (1, .int cx), (2, .int nn)]) hx hb d_S_drop_31 hl (by decide) rfl (fun ls hl => ?_)
            obtain ⟨j, ej⟩ : ∃ z : Nat, z = 0 := ⟨_, rfl⟩
            obtain ⟨g, eg⟩ : ∃ z : Nat, z = 94 := ⟨_, rfl⟩
            obtain ⟨G1, eG1⟩ : ∃ z : gw_G, z = G := ⟨_, rfl⟩
            obtain ⟨H, eH⟩ : ∃ z : Heap, z = s.heap := ⟨_, rfl⟩
            obtain ⟨locs, eL⟩ : ∃ z : List Loc, z = [] := ⟨_, rfl⟩
            obtain ⟨fr1, efr⟩ : ∃ z : Nat → Nat → Option Nat, z = fr := ⟨_, rfl⟩
            have inv : 94 ≤ j + g ∧ j ≤ nn.toNatClampNeg ∧ lv_has ls 5 [(4, .int (nI j)), (3, .ref (ad i)), (0, .ref x), (1, .int cx), (2, .int nn)] ∧ gw_P D vwCl (gw_A G s.heap.size) G1 H ∧ va_S (gw_A G s.heap.size) s.heap H locs ∧ c_Rep w n rd (s_md σ) cV cT (s_drop σ i j) x ra rt ad fa ρ fr1 rr rf rc wl el cr G1 := by
              refine ⟨by omega, by omega, by rw [ej]; exact hl, by rw [eG1, eH]; exact hP, by rw [eH, eL]; exact hS, by rw [ej, efr, eG1]; exact hR⟩
            refine W_heq eH eL ?_
            clear hl hP hS ej eg eG1 efr eH eL
            induction g generalizing j ls H locs G1 fr1
            case zero =>
              obtain ⟨hg, hjn, hl, hP, hS, hR1⟩ := inv
              obtain ⟨sa, sb, sc, sd⟩ := s_drop_st σ i j
              have hO1 : s_OK w n (s_drop σ i j) := s_drop_OK hO hc j
              have hc1 := s_drop_isC j hc
              have h31 : s_kd (s_drop σ i j) i = 3 := by rw [sc]; exact h3
              refine lv_iload hx hb d_S_drop_33 (lv_at hl 0 rfl) ?_
              refine lv_iload_n hx hb d_S_drop_35 rfl (lv_at hl 4 rfl) ?_
              refine lv_icmp_ge (tgt := 50) hx hb d_S_drop_36 (by decide) (fun cj => ?_) (fun cj => ?_)
              · rw [← hn8] at cj
                have hge : nn.toNatClampNeg ≤ j := (nI_leI (by omega) (by omega)).mp cj
                have ej : j = nn.toNatClampNeg := by omega
                refine lv_iconst (v := 1) hx hb d_S_drop_50 (by decide) ?_
                exact W.zret (v := 1) hx hb hr rfl (fun t ht hW => ⟨⟨_, G1, rfl, (by rw [show p_drop σ cx nn = (1, s_drop σ i nn.toNatClampNeg) from (by simp only [p_drop, hci]; rw [if_pos ⟨c0, hok⟩]), ← ej]; exact ⟨rfl, rd, ra, rt, ad, fa, ρ, fr1, rr, rf, rc, wl, el, cr, by omega, by rw [sd]; exact hR1⟩), g_fin ht hP⟩, hS.F ht⟩) hS.2.2 d_S_drop_51
              · have hlt : j < nn.toNatClampNeg := Nat.not_le.mp (fun q => cj (by rw [← hn8]; exact (nI_leI (by omega) (by omega)).mpr q))
                omega
            case succ g ih =>
              obtain ⟨hg, hjn, hl, hP, hS, hR1⟩ := inv
              obtain ⟨sa, sb, sc, sd⟩ := s_drop_st σ i j
              have hO1 : s_OK w n (s_drop σ i j) := s_drop_OK hO hc j
              have hc1 := s_drop_isC j hc
              have h31 : s_kd (s_drop σ i j) i = 3 := by rw [sc]; exact h3
              refine lv_iload hx hb d_S_drop_33 (lv_at hl 0 rfl) ?_
              refine lv_iload_n hx hb d_S_drop_35 rfl (lv_at hl 4 rfl) ?_
              refine lv_icmp_ge (tgt := 50) hx hb d_S_drop_36 (by decide) (fun cj => ?_) (fun cj => ?_)
              · rw [← hn8] at cj
                have hge : nn.toNatClampNeg ≤ j := (nI_leI (by omega) (by omega)).mp cj
                have ej : j = nn.toNatClampNeg := by omega
                refine lv_iconst (v := 1) hx hb d_S_drop_50 (by decide) ?_
                exact W.zret (v := 1) hx hb hr rfl (fun t ht hW => ⟨⟨_, G1, rfl, (by rw [show p_drop σ cx nn = (1, s_drop σ i nn.toNatClampNeg) from (by simp only [p_drop, hci]; rw [if_pos ⟨c0, hok⟩]), ← ej]; exact ⟨rfl, rd, ra, rt, ad, fa, ρ, fr1, rr, rf, rc, wl, el, cr, by omega, by rw [sd]; exact hR1⟩), g_fin ht hP⟩, hS.F ht⟩) hS.2.2 d_S_drop_51
              · have hlt : j < nn.toNatClampNeg := Nat.not_le.mp (fun q => cj (by rw [← hn8]; exact (nI_leI (by omega) (by omega)).mpr q))
                refine lv_aload_n hx hb d_S_drop_39 rfl (lv_at hl 1 rfl) ?_
                refine g_callq hP hS hA (r_U (owner := "StackRoom$Context") (n := 0) (rest := []) C0 [] (k_C_popOne l hR1 hc1 ht0 hO1 (by rw [sd]; omega) (by rw [sa]; omega)) ml_S_C_popOne sm_C_C_popOne se_X_C_popOne_C im_C_popOne ini_C co_C_popOne rfl (by decide +kernel) (g_preV (ci := 3) hK hP rfl (hR1.c3 h31)) hl.1 d_S_drop_40 rfl rfl (Nat.le_of_ble_eq_true rfl) ⟨rfl, rfl⟩ ⟨Nat.le_of_ble_eq_true rfl, Nat.le_of_ble_eq_true rfl⟩ ⟨Nat.le_of_ble_eq_true rfl, Nat.le_of_ble_eq_true rfl⟩) (fun rq G2 H locs hq2 hP hS hz9 hk9 => ?_)
                obtain ⟨-, hR2, -⟩ := hq2
                refine lv_pop hx hb d_S_drop_43 (by cases rq <;> rfl) ?_
                refine lv_iinc (v := nI (j + 1)) (lv' := [(4, .int (nI (j + 1))), (3, .ref (ad i)), (0, .ref x), (1, .int cx), (2, .int nn)]) hx hb d_S_drop_44 hl (k := 0) rfl (by rw [← nI_1]; rfl) (by decide) rfl (fun ls hl => ?_)
                refine lv_goto (tgt := 33) hx hb d_S_drop_47 (by decide) ?_
                exact ih (j := j + 1) _ _ _ _ _ ⟨by omega, by omega, lv_sub hl [0, 1, 2, 3, 4] rfl, hP, hS, hR2⟩
          · have hno : ¬ (nn = 0 ∨ s_fr σ i + nn.toNatClampNeg ≤ s_ht σ i) := fun z => z.elim (fun e => c1 (by rw [e]; decide)) (fun e => c2 (ed ▸ (dp_le (by omega) (by omega) c0).mpr e))
            refine lv_iconst (v := 0) hx hb d_S_drop_28 (by decide) ?_
            exact W.zret (v := 0) hx hb hr rfl (fun t ht hW => ⟨⟨_, G, rfl, (by rw [show p_drop σ cx nn = (0, σ) from (by simp only [p_drop, hci]; rw [if_neg (fun z => hno z.2)])]; exact ⟨rfl, c_R.up ⟨rd, ra, rt, ad, fa, ρ, fr, rr, rf, rc, wl, el, cr, hrd, hR⟩⟩), g_fin ht hP⟩, hS.F ht⟩) hS.2.2 d_S_drop_29
      · refine lv_iconst (v := 0) hx hb d_S_drop_14 (by decide) ?_
        exact W.zret (v := 0) hx hb hr rfl (fun t ht hW => ⟨⟨_, G, rfl, (by rw [show p_drop σ cx nn = (0, σ) from (by simp only [p_drop, hci]; rw [if_neg (fun z => c0 z.1)])]; exact ⟨rfl, c_R.up ⟨rd, ra, rt, ad, fa, ρ, fr, rr, rf, rc, wl, el, cr, hrd, hR⟩⟩), g_fin ht hP⟩, hS.F ht⟩) hS.2.2 d_S_drop_15
    · have hb9 := (hO.1.2.2.2.2.2.2 i hc).2
      have hf9 := s_fr_le hO.1 hc
      refine lv_astore_n (lv' := [(3, .ref (ad i)), (0, .ref x), (1, .int cx), (2, .int nn)]) hx hb d_S_drop_5 rfl hl (by decide) rfl (fun ls hl => ?_)
      refine lv_aload_n hx hb d_S_drop_6 rfl (lv_at hl 0 rfl) ?_
      refine lv_ifnull hx hb d_S_drop_7 ?_
      refine lv_iload_n hx hb d_S_drop_10 rfl (lv_at hl 3 rfl) ?_
      refine lv_if_ge (tgt := 16) hx hb d_S_drop_11 (by decide) (fun c0 => ?_) (fun c0 => ?_)
      · refine lv_iload_n hx hb d_S_drop_16 rfl (lv_at hl 3 rfl) ?_
        refine lv_if_le (tgt := 30) hx hb d_S_drop_17 (by decide) (fun c1 => ?_) (fun c1 => ?_)
        · have hok : nn = 0 ∨ s_fr σ i + nn.toNatClampNeg ≤ s_ht σ i := Or.inl (s_clamp0 c1 c0)
          have hn8 := s_clampI c0
          have hn7 : s_fr σ i + nn.toNatClampNeg ≤ s_ht σ i ∨ nn.toNatClampNeg = 0 := by
            rcases hok with e | e
            · exact Or.inr (by rw [e]; decide)
            · exact Or.inl e
          refine lv_iconst (v := 0) hx hb d_S_drop_30 (by decide) ?_
          refine lv_istore (lv' := [(4, .int 0), (3, .ref (ad i)), (0, .ref x), (1, .int cx), (2, .int nn)]) hx hb d_S_drop_31 hl (by decide) rfl (fun ls hl => ?_)
          obtain ⟨j, ej⟩ : ∃ z : Nat, z = 0 := ⟨_, rfl⟩
          obtain ⟨g, eg⟩ : ∃ z : Nat, z = 94 := ⟨_, rfl⟩
          obtain ⟨G1, eG1⟩ : ∃ z : gw_G, z = G := ⟨_, rfl⟩
          obtain ⟨H, eH⟩ : ∃ z : Heap, z = s.heap := ⟨_, rfl⟩
          obtain ⟨locs, eL⟩ : ∃ z : List Loc, z = [] := ⟨_, rfl⟩
          obtain ⟨fr1, efr⟩ : ∃ z : Nat → Nat → Option Nat, z = fr := ⟨_, rfl⟩
          have inv : 94 ≤ j + g ∧ j ≤ nn.toNatClampNeg ∧ lv_has ls 5 [(4, .int (nI j)), (3, .ref (ad i)), (0, .ref x), (1, .int cx), (2, .int nn)] ∧ gw_P D vwCl (gw_A G s.heap.size) G1 H ∧ va_S (gw_A G s.heap.size) s.heap H locs ∧ c_Rep w n rd (s_md σ) cV cT (s_drop σ i j) x ra rt ad fa ρ fr1 rr rf rc wl el cr G1 := by
            refine ⟨by omega, by omega, by rw [ej]; exact hl, by rw [eG1, eH]; exact hP, by rw [eH, eL]; exact hS, by rw [ej, efr, eG1]; exact hR⟩
          refine W_heq eH eL ?_
          clear hl hP hS ej eg eG1 efr eH eL
          induction g generalizing j ls H locs G1 fr1
          case zero =>
            obtain ⟨hg, hjn, hl, hP, hS, hR1⟩ := inv
            obtain ⟨sa, sb, sc, sd⟩ := s_drop_st σ i j
            have hO1 : s_OK w n (s_drop σ i j) := s_drop_OK hO hc j
            have hc1 := s_drop_isC j hc
            have h41 : s_kd (s_drop σ i j) i = 4 := by rw [sc]; exact h4
            refine lv_iload hx hb d_S_drop_33 (lv_at hl 0 rfl) ?_
            refine lv_iload_n hx hb d_S_drop_35 rfl (lv_at hl 4 rfl) ?_
            refine lv_icmp_ge (tgt := 50) hx hb d_S_drop_36 (by decide) (fun cj => ?_) (fun cj => ?_)
            · rw [← hn8] at cj
              have hge : nn.toNatClampNeg ≤ j := (nI_leI (by omega) (by omega)).mp cj
              have ej : j = nn.toNatClampNeg := by omega
              refine lv_iconst (v := 1) hx hb d_S_drop_50 (by decide) ?_
              exact W.zret (v := 1) hx hb hr rfl (fun t ht hW => ⟨⟨_, G1, rfl, (by rw [show p_drop σ cx nn = (1, s_drop σ i nn.toNatClampNeg) from (by simp only [p_drop, hci]; rw [if_pos ⟨c0, hok⟩]), ← ej]; exact ⟨rfl, rd, ra, rt, ad, fa, ρ, fr1, rr, rf, rc, wl, el, cr, by omega, by rw [sd]; exact hR1⟩), g_fin ht hP⟩, hS.F ht⟩) hS.2.2 d_S_drop_51
            · have hlt : j < nn.toNatClampNeg := Nat.not_le.mp (fun q => cj (by rw [← hn8]; exact (nI_leI (by omega) (by omega)).mpr q))
              omega
          case succ g ih =>
            obtain ⟨hg, hjn, hl, hP, hS, hR1⟩ := inv
            obtain ⟨sa, sb, sc, sd⟩ := s_drop_st σ i j
            have hO1 : s_OK w n (s_drop σ i j) := s_drop_OK hO hc j
            have hc1 := s_drop_isC j hc
            have h41 : s_kd (s_drop σ i j) i = 4 := by rw [sc]; exact h4
            refine lv_iload hx hb d_S_drop_33 (lv_at hl 0 rfl) ?_
            refine lv_iload_n hx hb d_S_drop_35 rfl (lv_at hl 4 rfl) ?_
            refine lv_icmp_ge (tgt := 50) hx hb d_S_drop_36 (by decide) (fun cj => ?_) (fun cj => ?_)
            · rw [← hn8] at cj
              have hge : nn.toNatClampNeg ≤ j := (nI_leI (by omega) (by omega)).mp cj
              have ej : j = nn.toNatClampNeg := by omega
              refine lv_iconst (v := 1) hx hb d_S_drop_50 (by decide) ?_
              exact W.zret (v := 1) hx hb hr rfl (fun t ht hW => ⟨⟨_, G1, rfl, (by rw [show p_drop σ cx nn = (1, s_drop σ i nn.toNatClampNeg) from (by simp only [p_drop, hci]; rw [if_pos ⟨c0, hok⟩]), ← ej]; exact ⟨rfl, rd, ra, rt, ad, fa, ρ, fr1, rr, rf, rc, wl, el, cr, by omega, by rw [sd]; exact hR1⟩), g_fin ht hP⟩, hS.F ht⟩) hS.2.2 d_S_drop_51
            · have hlt : j < nn.toNatClampNeg := Nat.not_le.mp (fun q => cj (by rw [← hn8]; exact (nI_leI (by omega) (by omega)).mpr q))
              refine lv_aload_n hx hb d_S_drop_39 rfl (lv_at hl 1 rfl) ?_
              refine g_callq hP hS hA (r_U (owner := "StackRoom$Context") (n := 0) (rest := []) C0 [] (k_C_popOne l hR1 hc1 ht0 hO1 (by rw [sd]; omega) (by rw [sa]; omega)) ml_S_C_popOne sm_C_C_popOne se_B_C_popOne_C im_C_popOne ini_C co_C_popOne rfl (by decide +kernel) (g_preV (ci := 4) hK hP rfl (hR1.c4 h41)) hl.1 d_S_drop_40 rfl rfl (Nat.le_of_ble_eq_true rfl) ⟨rfl, rfl⟩ ⟨Nat.le_of_ble_eq_true rfl, Nat.le_of_ble_eq_true rfl⟩ ⟨Nat.le_of_ble_eq_true rfl, Nat.le_of_ble_eq_true rfl⟩) (fun rq G2 H locs hq2 hP hS hz9 hk9 => ?_)
              obtain ⟨-, hR2, -⟩ := hq2
              refine lv_pop hx hb d_S_drop_43 (by cases rq <;> rfl) ?_
              refine lv_iinc (v := nI (j + 1)) (lv' := [(4, .int (nI (j + 1))), (3, .ref (ad i)), (0, .ref x), (1, .int cx), (2, .int nn)]) hx hb d_S_drop_44 hl (k := 0) rfl (by rw [← nI_1]; rfl) (by decide) rfl (fun ls hl => ?_)
              refine lv_goto (tgt := 33) hx hb d_S_drop_47 (by decide) ?_
              exact ih (j := j + 1) _ _ _ _ _ ⟨by omega, by omega, lv_sub hl [0, 1, 2, 3, 4] rfl, hP, hS, hR2⟩
        · refine lv_iload_n hx hb d_S_drop_20 rfl (lv_at hl 3 rfl) ?_
          refine lv_aload_n hx hb d_S_drop_21 rfl (lv_at hl 0 rfl) ?_
          refine vp_callSi (va_Run.run (r_U (owner := "StackRoom$Context") (n := 0) (rest := [.int nn]) C0 [] (k_C_depthNow l hR (i := i) hc hO.1) ml_S_C_depthNow sm_C_C_depthNow se_B_C_depthNow_C im_C_depthNow ini_C co_C_depthNow rfl (by decide +kernel) (g_preV (ci := 4) hK hP rfl (hR.c4 h4)) hl.1 d_S_drop_22 rfl rfl (Nat.le_of_ble_eq_true rfl) ⟨rfl, rfl⟩ ⟨Nat.le_of_ble_eq_true rfl, Nat.le_of_ble_eq_true rfl⟩ ⟨Nat.le_of_ble_eq_true rfl, Nat.le_of_ble_eq_true rfl⟩)) (fun qd ed => ?_)
          refine lv_icmp_le (tgt := 30) hx hb d_S_drop_25 (by decide) (fun c2 => ?_) (fun c2 => ?_)
          · have hok : nn = 0 ∨ s_fr σ i + nn.toNatClampNeg ≤ s_ht σ i := Or.inr ((dp_le (by omega) (by omega) c0).mp (ed ▸ c2))
            have hn8 := s_clampI c0
            have hn7 : s_fr σ i + nn.toNatClampNeg ≤ s_ht σ i ∨ nn.toNatClampNeg = 0 := by
              rcases hok with e | e
              · exact Or.inr (by rw [e]; decide)
              · exact Or.inl e
            refine lv_iconst (v := 0) hx hb d_S_drop_30 (by decide) ?_
            refine lv_istore (lv' := [(4, .int 0), (3, .ref (ad i)), (0, .ref x), (1, .int cx), (2, .int nn)]) hx hb d_S_drop_31 hl (by decide) rfl (fun ls hl => ?_)
            obtain ⟨j, ej⟩ : ∃ z : Nat, z = 0 := ⟨_, rfl⟩
            obtain ⟨g, eg⟩ : ∃ z : Nat, z = 94 := ⟨_, rfl⟩
            obtain ⟨G1, eG1⟩ : ∃ z : gw_G, z = G := ⟨_, rfl⟩
            obtain ⟨H, eH⟩ : ∃ z : Heap, z = s.heap := ⟨_, rfl⟩
            obtain ⟨locs, eL⟩ : ∃ z : List Loc, z = [] := ⟨_, rfl⟩
            obtain ⟨fr1, efr⟩ : ∃ z : Nat → Nat → Option Nat, z = fr := ⟨_, rfl⟩
            have inv : 94 ≤ j + g ∧ j ≤ nn.toNatClampNeg ∧ lv_has ls 5 [(4, .int (nI j)), (3, .ref (ad i)), (0, .ref x), (1, .int cx), (2, .int nn)] ∧ gw_P D vwCl (gw_A G s.heap.size) G1 H ∧ va_S (gw_A G s.heap.size) s.heap H locs ∧ c_Rep w n rd (s_md σ) cV cT (s_drop σ i j) x ra rt ad fa ρ fr1 rr rf rc wl el cr G1 := by
              refine ⟨by omega, by omega, by rw [ej]; exact hl, by rw [eG1, eH]; exact hP, by rw [eH, eL]; exact hS, by rw [ej, efr, eG1]; exact hR⟩
            refine W_heq eH eL ?_
            clear hl hP hS ej eg eG1 efr eH eL
            induction g generalizing j ls H locs G1 fr1
            case zero =>
              obtain ⟨hg, hjn, hl, hP, hS, hR1⟩ := inv
              obtain ⟨sa, sb, sc, sd⟩ := s_drop_st σ i j
              have hO1 : s_OK w n (s_drop σ i j) := s_drop_OK hO hc j
              have hc1 := s_drop_isC j hc
              have h41 : s_kd (s_drop σ i j) i = 4 := by rw [sc]; exact h4
              refine lv_iload hx hb d_S_drop_33 (lv_at hl 0 rfl) ?_
              refine lv_iload_n hx hb d_S_drop_35 rfl (lv_at hl 4 rfl) ?_
              refine lv_icmp_ge (tgt := 50) hx hb d_S_drop_36 (by decide) (fun cj => ?_) (fun cj => ?_)
              · rw [← hn8] at cj
                have hge : nn.toNatClampNeg ≤ j := (nI_leI (by omega) (by omega)).mp cj
                have ej : j = nn.toNatClampNeg := by omega
                refine lv_iconst (v := 1) hx hb d_S_drop_50 (by decide) ?_
                exact W.zret (v := 1) hx hb hr rfl (fun t ht hW => ⟨⟨_, G1, rfl, (by rw [show p_drop σ cx nn = (1, s_drop σ i nn.toNatClampNeg) from (by simp only [p_drop, hci]; rw [if_pos ⟨c0, hok⟩]), ← ej]; exact ⟨rfl, rd, ra, rt, ad, fa, ρ, fr1, rr, rf, rc, wl, el, cr, by omega, by rw [sd]; exact hR1⟩), g_fin ht hP⟩, hS.F ht⟩) hS.2.2 d_S_drop_51
              · have hlt : j < nn.toNatClampNeg := Nat.not_le.mp (fun q => cj (by rw [← hn8]; exact (nI_leI (by omega) (by omega)).mpr q))
                omega
            case succ g ih =>
              obtain ⟨hg, hjn, hl, hP, hS, hR1⟩ := inv
              obtain ⟨sa, sb, sc, sd⟩ := s_drop_st σ i j
              have hO1 : s_OK w n (s_drop σ i j) := s_drop_OK hO hc j
              have hc1 := s_drop_isC j hc
              have h41 : s_kd (s_drop σ i j) i = 4 := by rw [sc]; exact h4
              refine lv_iload hx hb d_S_drop_33 (lv_at hl 0 rfl) ?_
              refine lv_iload_n hx hb d_S_drop_35 rfl (lv_at hl 4 rfl) ?_
              refine lv_icmp_ge (tgt := 50) hx hb d_S_drop_36 (by decide) (fun cj => ?_) (fun cj => ?_)
              · rw [← hn8] at cj
                have hge : nn.toNatClampNeg ≤ j := (nI_leI (by omega) (by omega)).mp cj
                have ej : j = nn.toNatClampNeg := by omega
                refine lv_iconst (v := 1) hx hb d_S_drop_50 (by decide) ?_
                exact W.zret (v := 1) hx hb hr rfl (fun t ht hW => ⟨⟨_, G1, rfl, (by rw [show p_drop σ cx nn = (1, s_drop σ i nn.toNatClampNeg) from (by simp only [p_drop, hci]; rw [if_pos ⟨c0, hok⟩]), ← ej]; exact ⟨rfl, rd, ra, rt, ad, fa, ρ, fr1, rr, rf, rc, wl, el, cr, by omega, by rw [sd]; exact hR1⟩), g_fin ht hP⟩, hS.F ht⟩) hS.2.2 d_S_drop_51
              · have hlt : j < nn.toNatClampNeg := Nat.not_le.mp (fun q => cj (by rw [← hn8]; exact (nI_leI (by omega) (by omega)).mpr q))
                refine lv_aload_n hx hb d_S_drop_39 rfl (lv_at hl 1 rfl) ?_
                refine g_callq hP hS hA (r_U (owner := "StackRoom$Context") (n := 0) (rest := []) C0 [] (k_C_popOne l hR1 hc1 ht0 hO1 (by rw [sd]; omega) (by rw [sa]; omega)) ml_S_C_popOne sm_C_C_popOne se_B_C_popOne_C im_C_popOne ini_C co_C_popOne rfl (by decide +kernel) (g_preV (ci := 4) hK hP rfl (hR1.c4 h41)) hl.1 d_S_drop_40 rfl rfl (Nat.le_of_ble_eq_true rfl) ⟨rfl, rfl⟩ ⟨Nat.le_of_ble_eq_true rfl, Nat.le_of_ble_eq_true rfl⟩ ⟨Nat.le_of_ble_eq_true rfl, Nat.le_of_ble_eq_true rfl⟩) (fun rq G2 H locs hq2 hP hS hz9 hk9 => ?_)
                obtain ⟨-, hR2, -⟩ := hq2
                refine lv_pop hx hb d_S_drop_43 (by cases rq <;> rfl) ?_
                refine lv_iinc (v := nI (j + 1)) (lv' := [(4, .int (nI (j + 1))), (3, .ref (ad i)), (0, .ref x), (1, .int cx), (2, .int nn)]) hx hb d_S_drop_44 hl (k := 0) rfl (by rw [← nI_1]; rfl) (by decide) rfl (fun ls hl => ?_)
                refine lv_goto (tgt := 33) hx hb d_S_drop_47 (by decide) ?_
                exact ih (j := j + 1) _ _ _ _ _ ⟨by omega, by omega, lv_sub hl [0, 1, 2, 3, 4] rfl, hP, hS, hR2⟩
          · have hno : ¬ (nn = 0 ∨ s_fr σ i + nn.toNatClampNeg ≤ s_ht σ i) := fun z => z.elim (fun e => c1 (by rw [e]; decide)) (fun e => c2 (ed ▸ (dp_le (by omega) (by omega) c0).mpr e))
            refine lv_iconst (v := 0) hx hb d_S_drop_28 (by decide) ?_
            exact W.zret (v := 0) hx hb hr rfl (fun t ht hW => ⟨⟨_, G, rfl, (by rw [show p_drop σ cx nn = (0, σ) from (by simp only [p_drop, hci]; rw [if_neg (fun z => hno z.2)])]; exact ⟨rfl, c_R.up ⟨rd, ra, rt, ad, fa, ρ, fr, rr, rf, rc, wl, el, cr, hrd, hR⟩⟩), g_fin ht hP⟩, hS.F ht⟩) hS.2.2 d_S_drop_29
      · refine lv_iconst (v := 0) hx hb d_S_drop_14 (by decide) ?_
        exact W.zret (v := 0) hx hb hr rfl (fun t ht hW => ⟨⟨_, G, rfl, (by rw [show p_drop σ cx nn = (0, σ) from (by simp only [p_drop, hci]; rw [if_neg (fun z => c0 z.1)])]; exact ⟨rfl, c_R.up ⟨rd, ra, rt, ad, fa, ρ, fr, rr, rf, rc, wl, el, cr, hrd, hR⟩⟩), g_fin ht hP⟩, hS.F ht⟩) hS.2.2 d_S_drop_15
end K20
