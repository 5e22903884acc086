theorem p_context_no {w n : Nat} {σ : sS} {r m s : Int32} (h : ¬ (0 ≤ r ∧ r ≤ 15)) : p_context w n σ r m s = (-1, σ) := by
  unfold p_context
  split
  · rw [if_neg h]
  · rfl
theorem p_context_nm {w n : Nat} {σ : sS} {r m s : Int32} (h : s_mi σ m = none) : p_context w n σ r m s = (-1, σ) := by
  unfold p_context
  rw [h]
theorem p_context_ns {w n : Nat} {σ : sS} {r m s : Int32} (h : s_si σ s = none) : p_context w n σ r m s = (-1, σ) := by
  unfold p_context
  rw [h]
  cases s_mi σ m <;> rfl
theorem s_si_kd {σ : sS} {r : Int32} {j : Nat} (ho : s_si σ r = some (some j)) : s_kd σ j ≠ 0 := by
  rcases (s_si_some ho).2 with z | ⟨j2, z1, z2, z3⟩
  · exact absurd z.1 (by simp)
  · cases z1
    rcases z3 with z3 | z3 <;> omega
/-- the state at the start -/
def s_new : sS := s_mk (fun _ => none) 2 (fun _ => 0) (fun _ => 0) (fun _ => 0) (fun _ => none) (fun _ => 0) (fun _ => 0) (fun _ => 0) (fun _ _ => none) (fun _ => 0) (fun _ => 0)
def c_w (a : Int32) : Nat := if 128 ≤ a ∧ a ≤ 32768 then a.toNatClampNeg else 32768
def c_n (a : Int32) : Nat := if 16 ≤ a ∧ a ≤ 4096 then a.toNatClampNeg else 4096
theorem c_wI {a : Int32} (h : 128 ≤ a ∧ a ≤ 32768) : nI (c_w a) = a := by
  unfold c_w
  rw [if_pos h]
  exact s_clampI (Int32.le_trans (by decide) h.1)
theorem c_nI {a : Int32} (h : 16 ≤ a ∧ a ≤ 4096) : nI (c_n a) = a := by
  unfold c_n
  rw [if_pos h]
  exact s_clampI (Int32.le_trans (by decide) h.1)
theorem c_w0 {a : Int32} (h : ¬ (128 ≤ a ∧ a ≤ 32768)) : nI (c_w a) = 32768 := by
  unfold c_w
  rw [if_neg h]
  decide
theorem c_n0 {a : Int32} (h : ¬ (16 ≤ a ∧ a ≤ 4096)) : nI (c_n a) = 4096 := by
  unfold c_n
  rw [if_neg h]
  decide
theorem c_clG {a : Int32} {k : Nat} (hk : k < 2 ^ 31) (h : nI k ≤ a) : k ≤ a.toNatClampNeg := by
  obtain ⟨j, hj, rfl⟩ := nI_of (x := a) (fun q => absurd (Int32.le_trans (nI_pos' hk) h) (Int32.not_le.mpr q))
  rw [nI_clamp hj]
  exact (nI_leI hk hj).mp h
theorem c_w_in (a : Int32) : 128 ≤ c_w a ∧ c_w a ≤ 32768 := by
  unfold c_w
  split
  · rename_i h
    exact ⟨c_clG (by decide) h.1, s_clampLe (Int32.le_trans (by decide) h.1) (by decide) h.2⟩
  · omega
theorem c_n_in (a : Int32) : 16 ≤ c_n a ∧ c_n a ≤ 4096 := by
  unfold c_n
  split
  · rename_i h
    exact ⟨c_clG (by decide) h.1, s_clampLe (Int32.le_trans (by decide) h.1) (by decide) h.2⟩
  · omega
section K21
variable {w n k : Nat} {cV cT : ClassId} {σ : sS} {x : Nat} {G : gw_G} {D : va_G} {tys : List (ClassId × FieldType)} {sz : Nat}
set_option maxHeartbeats 4000000 in
set_option maxRecDepth 100000 in
theorem k_S_context (l : Launch) (hR0 : c_R w n k cV cT σ x G) (hO : s_OK w n σ) (hw : 128 ≤ w ∧ w ≤ 32768) (hn : 16 ≤ n ∧ n ≤ 4096) (hm : s_md σ + 2 < 2 ^ 31) (hk : k + 1 < 2 ^ 31) (ht0 : tys[0]? = some (cV, .object "StackRoom$Value")) (ht1 : tys[1]? = some (cT, .object "StackRoom$Thing")) (r mr sr : Int32) : Met l y_S_context w_S_context ({ frames := 6, cells := 2, slots := 101, locals := 129 }) (g_pre D tys G sz [.ref x, .int r, .int mr, .int sr]) (va_Qi (fun (rz : Int32) (G1 : gw_G) => rz = (p_context w n σ r mr sr).1 ∧ c_R w n (k + 1) cV cT (p_context w n σ r mr sr).2 x G1) (g_end D G sz) (gw_A G sz)) 2 101 (gw_A G sz) := by
  refine Met.ofW (cc := b_S_context) (maxL := 6) (ret := (some .int)) (by decide) rfl ?_
  intro p e s m args below meth c s₁ B hml hv
  obtain ⟨rfl, hsz, hP, hK⟩ := hv
  have hx := B.exec
  have hb := B.bytes
  have hr := B.returns
  have ht := fun w (hw : w ∈ gt) => atoms_spec (ws := w_S_context) B.pre w (List.mem_cons_of_mem _ hw)
  have hown : s.vm.findClass "StackRoom" = some m.cls := findClass_of_methodNamed B.named
  have hlocks := B.notSynchronized
  have C0 : CallFix p m c b_S_context 6 s [.ref x, .int r, .int mr, .int sr].toArray gt "StackRoom" := ⟨hx, hb, hml, hown, ht⟩
  subst hsz
  have hP := hP.self (sz := s.heap.size)
  have hA : ∀ q : Nat, s.heap.size ≤ q → gw_A G s.heap.size q := fun q h => Or.inr h
  have hS : va_S (gw_A G s.heap.size) s.heap s.heap [] := va_S.rf
  have hl := lv_entry ([.ref x, .int r, .int mr, .int sr]) (n := 6) (Nat.le_of_ble_eq_true rfl)
  rw [lg_entry_eq]
  generalize (lg_sl ([.ref x, .int r, .int mr, .int sr]) ++ List.replicate (6 - (lg_sl ([.ref x, .int r, .int mr, .int sr])).length) Slot.unset).toArray = ls at hl ⊢
  have hl : lv_has ls 6 [(0, .ref x), (1, .int r), (2, .int mr), (3, .int sr)] := hl
  obtain ⟨rd, ra, rt, ad, fa, ρ, fr, rr, rf, rc, wl, el, cr, hrd, hR⟩ := hR0
  refine lv_aload_n hx hb d_S_context_0 rfl (lv_at hl 0 rfl) ?_
  refine lv_iload_n hx hb d_S_context_1 rfl (lv_at hl 2 rfl) ?_
  refine va_csq (va_Run.run (r_V (rest := []) C0 [.int mr] (k_S_methodIn l hR hO.1 ht0 mr) ml_S_S_methodIn im_S_methodIn se_S_S_methodIn_S ini_S co_S_methodIn ⟨rfl, hd_S_methodIn⟩ (g_preV (ci := 0) hK hP rfl hR.1) hl.1 d_S_context_2 rfl rfl (Nat.le_of_ble_eq_true rfl) ⟨rfl, rfl⟩ ⟨Nat.le_of_ble_eq_true rfl, Nat.le_of_ble_eq_true rfl⟩ ⟨Nat.le_of_ble_eq_true rfl, Nat.le_of_ble_eq_true rfl⟩)) (fun qc ec => ?_)
  subst ec
  rcases hmi : s_mi σ mr with _ | i
  · refine lv_astoreN (lv' := [(4, .null), (0, .ref x), (1, .int r), (2, .int mr), (3, .int sr)]) hx hb d_S_context_5 hl (by decide) rfl (fun ls hl => ?_)
    refine lv_iload_n hx hb d_S_context_7 rfl (lv_at hl 2 rfl) ?_
    refine vp_callSi (va_Run.run (r_S (rest := []) C0 [.int r] (k_S_isRegister l r) ml_S_S_isRegister st_S_isRegister ini_S co_S_isRegister hd_S_isRegister v_preS hl.1 d_S_context_8 rfl rfl (Nat.le_of_ble_eq_true rfl) ⟨rfl, rfl⟩ ⟨Nat.le_of_ble_eq_true rfl, Nat.le_of_ble_eq_true rfl⟩ ⟨Nat.le_of_ble_eq_true rfl, Nat.le_of_ble_eq_true rfl⟩)) (fun q8 eq8 => ?_)
    refine lv_if_eq (tgt := 27) hx hb d_S_context_11 (by decide) (fun c8 => ?_) (fun c8 => ?_)
    · have hreg : ¬ (0 ≤ r ∧ r ≤ 15) := fun h => absurd (eq8.symm.trans c8) (by rw [if_pos h]; decide)
      refine W.widen (k := 2) (n := 101) (by omega) (by omega) ?_
      refine lv_iconst (v := (-1)) hx hb d_S_context_27 (by decide) ?_
      exact W.iret (v := (-1)) hx hb hr (fun t ht hW => ⟨⟨_, G, rfl, (by rw [show p_context w n σ r mr sr = (-1, σ) from (p_context_no hreg)]; exact ⟨rfl, c_R.up ⟨rd, ra, rt, ad, fa, ρ, fr, rr, rf, rc, wl, el, cr, hrd, hR⟩⟩), g_fin ht hP⟩, hS.F ht⟩) hS.2.2 d_S_context_28
    · have hreg : 0 ≤ r ∧ r ≤ 15 := Decidable.byContradiction (fun h => c8 (eq8.trans (if_neg h)))
      refine lv_aloadN hx hb d_S_context_14 (lv_at hl 0 rfl) ?_
      refine lv_ifnullN (tgt := 27) hx hb d_S_context_16 (by decide) ?_
      refine W.widen (k := 2) (n := 101) (by omega) (by omega) ?_
      refine lv_iconst (v := (-1)) hx hb d_S_context_27 (by decide) ?_
      exact W.iret (v := (-1)) hx hb hr (fun t ht hW => ⟨⟨_, G, rfl, (by rw [show p_context w n σ r mr sr = (-1, σ) from (p_context_nm hmi)]; exact ⟨rfl, c_R.up ⟨rd, ra, rt, ad, fa, ρ, fr, rr, rf, rc, wl, el, cr, hrd, hR⟩⟩), g_fin ht hP⟩, hS.F ht⟩) hS.2.2 d_S_context_28
  · have hk2 := (s_mi_some hmi).2.2
    have hri := s_mi_rch hmi
    refine lv_astore (lv' := [(4, .ref (ad i)), (0, .ref x), (1, .int r), (2, .int mr), (3, .int sr)]) hx hb d_S_context_5 hl (by decide) rfl (fun ls hl => ?_)
    refine lv_iload_n hx hb d_S_context_7 rfl (lv_at hl 2 rfl) ?_
    refine vp_callSi (va_Run.run (r_S (rest := []) C0 [.int r] (k_S_isRegister l r) ml_S_S_isRegister st_S_isRegister ini_S co_S_isRegister hd_S_isRegister v_preS hl.1 d_S_context_8 rfl rfl (Nat.le_of_ble_eq_true rfl) ⟨rfl, rfl⟩ ⟨Nat.le_of_ble_eq_true rfl, Nat.le_of_ble_eq_true rfl⟩ ⟨Nat.le_of_ble_eq_true rfl, Nat.le_of_ble_eq_true rfl⟩)) (fun q8 eq8 => ?_)
    refine lv_if_eq (tgt := 27) hx hb d_S_context_11 (by decide) (fun c8 => ?_) (fun c8 => ?_)
    · have hreg : ¬ (0 ≤ r ∧ r ≤ 15) := fun h => absurd (eq8.symm.trans c8) (by rw [if_pos h]; decide)
      refine W.widen (k := 2) (n := 101) (by omega) (by omega) ?_
      refine lv_iconst (v := (-1)) hx hb d_S_context_27 (by decide) ?_
      exact W.iret (v := (-1)) hx hb hr (fun t ht hW => ⟨⟨_, G, rfl, (by rw [show p_context w n σ r mr sr = (-1, σ) from (p_context_no hreg)]; exact ⟨rfl, c_R.up ⟨rd, ra, rt, ad, fa, ρ, fr, rr, rf, rc, wl, el, cr, hrd, hR⟩⟩), g_fin ht hP⟩, hS.F ht⟩) hS.2.2 d_S_context_28
    · have hreg : 0 ≤ r ∧ r ≤ 15 := Decidable.byContradiction (fun h => c8 (eq8.trans (if_neg h)))
      refine lv_aload hx hb d_S_context_14 (lv_at hl 0 rfl) ?_
      refine lv_ifnull hx hb d_S_context_16 ?_
      refine lv_aload_n hx hb d_S_context_19 rfl (lv_at hl 1 rfl) ?_
      refine lv_iload_n hx hb d_S_context_20 rfl (lv_at hl 4 rfl) ?_
      refine vp_callSi (va_Run.run (r_V (rest := []) C0 [.int sr] (k_S_isSender l hR hO.1 ht0 sr) ml_S_S_isSender im_S_isSender se_S_S_isSender_S ini_S co_S_isSender ⟨rfl, hd_S_isSender⟩ (g_preV (ci := 0) hK hP rfl hR.1) hl.1 d_S_context_21 rfl rfl (Nat.le_of_ble_eq_true rfl) ⟨rfl, rfl⟩ ⟨Nat.le_of_ble_eq_true rfl, Nat.le_of_ble_eq_true rfl⟩ ⟨Nat.le_of_ble_eq_true rfl, Nat.le_of_ble_eq_true rfl⟩)) (fun q21 eq21 => ?_)
      refine lv_if_ne (tgt := 29) hx hb d_S_context_24 (by decide) (fun c21 => ?_) (fun c21 => ?_)
      · have hsen : (s_si σ sr).isSome = true := Decidable.byContradiction (fun h => c21 (eq21.trans (if_neg h)))
        obtain ⟨o, ho⟩ : ∃ o, s_si σ sr = some o := Option.isSome_iff_exists.mp hsen
        have hb2 := hO.1.2.2.2.1 i hk2
        refine lv_aload hx hb d_S_context_29 (lv_at hl 0 rfl) ?_
        refine va_getN (D := D) (ci := 2) (C := "StackRoom$Method") (T := T_M) (N := 4) (v := .int (nI (s_tt σ i))) hx hb ht in_M hown hK.1 (hP.one (hR.c2 hk2)) 0 rfl rfl 2 (by decide) (va_Nw.use rfl (hK.2.1 _ fn_S_M_temporaries)) (fun _ h9 => h9) rfl d_S_context_31 ?_
        refine lv_aload hx hb d_S_context_34 (lv_at hl 0 rfl) ?_
        refine va_getN (D := D) (ci := 2) (C := "StackRoom$Method") (T := T_M) (N := 4) (v := .int (nI (s_dd σ i))) hx hb ht in_M hown hK.1 (hP.one (hR.c2 hk2)) 0 rfl rfl 3 (by decide) (va_Nw.use rfl (hK.2.1 _ fn_S_M_depth)) (fun _ h9 => h9) rfl d_S_context_36 ?_
        refine lv_iadd hx hb d_S_context_39 ?_
        refine lv_istore (lv' := [(5, .int ((nI (s_tt σ i)) + (nI (s_dd σ i)))), (4, .ref (ad i)), (0, .ref x), (1, .int r), (2, .int mr), (3, .int sr)]) hx hb d_S_context_40 hl (by decide) rfl (fun ls hl => ?_)
        refine lv_aload_n hx hb d_S_context_42 rfl (lv_at hl 2 rfl) ?_
        refine lv_bipush (v := 9) hx hb d_S_context_43 (by decide) ?_
        refine lv_iload hx hb d_S_context_45 (lv_at hl 0 rfl) ?_
        refine lv_iadd hx hb d_S_context_47 ?_
        refine lv_iconst (v := 1) hx hb d_S_context_48 (by decide) ?_
        refine W.eq (g2 := F0 m 49 ls [.int (nI 1), .int (nI (9 + (s_tt σ i + s_dd σ i))), .ref x]) (by rw [← nI_add, ← nI_add]; rfl) ?_
        refine g_calli hP hS hA (r_V (rest := []) C0 [.int (nI (9 + (s_tt σ i + s_dd σ i))), .int (nI 1)] (k_S_canBeMade l hR hO hw hn (by omega) (by omega) ht0 ht1 (a := 9 + (s_tt σ i + s_dd σ i)) (b := 1) (by omega) (by omega)) ml_S_S_canBeMade im_S_canBeMade se_S_S_canBeMade_S ini_S co_S_canBeMade ⟨rfl, hd_S_canBeMade⟩ (g_preV (ci := 0) hK hP rfl hR.1) hl.1 d_S_context_49 rfl rfl (Nat.le_of_ble_eq_true rfl) ⟨rfl, rfl⟩ ⟨Nat.le_of_ble_eq_true rfl, Nat.le_of_ble_eq_true rfl⟩ ⟨Nat.le_of_ble_eq_true rfl, Nat.le_of_ble_eq_true rfl⟩) (fun qm G50 H locs hq1 hP hS hz9 hk9 => ?_)
        obtain ⟨em, ρ2, rf2, rc2, hR1⟩ := hq1
        refine lv_if_ne (tgt := 58) hx hb d_S_context_52 (by decide) (fun cm => ?_) (fun cm => ?_)
        · have hfit : 9 + (s_tt σ i + s_dd σ i) + s_W σ + 8 ≤ w ∧ 1 + s_N σ + 2 ≤ n := Decidable.byContradiction (fun h => cm (em.trans (if_neg h)))
          have hb2 := hO.1.2.2.2.1 i hk2
          refine lv_aload_n hx hb d_S_context_58 rfl (lv_at hl 2 rfl) ?_
          refine lv_dup hx hb d_S_context_59 rfl ?_
          refine va_get (D := D) (ci := 0) (C := "StackRoom") (T := T_S) (N := 10) (v := .int (nI (s_md σ))) hx hb ht in_S hown hK.1 (hP.one hR1.1) 0 rfl rfl 3 (by decide) (ht _ fl_S_S_made) (fun _ h9 => h9) rfl d_S_context_60 ?_
          refine lv_iconst (v := 1) hx hb d_S_context_63 (by decide) ?_
          refine lv_iadd hx hb d_S_context_64 ?_
          refine gw_put (D := D) (cl := vwCl) (ci := 0) (C := "StackRoom") (T := T_S) (N := 10) (v := .int ((nI (s_md σ)) + 1)) (ty := .int) hx hb ht in_S ty_S tk_S nm_S hown hK.1 hP hS hR1.1 rfl 3 (by decide) (ht _ fl_S_S_made) (fun _ h9 => h9) rfl (by decide +kernel) rfl rfl (Nat.le_of_ble_eq_true rfl) d_S_context_65 (fun H locs hP hS => ?_)
          obtain ⟨G51, eG51⟩ : ∃ z : gw_G, z = va_up G50 x (some (.inr (0, [.int (nI w), .int (nI n), .ref ra, .int ((nI (s_md σ)) + 1), .ref rt, .int rc2, .int (nI (rd + 1)), .int (nI (w - 8 - s_W σ)), .int (nI (n - 2 - s_N σ)), .int (nI (s_K σ))]))) := ⟨_, rfl⟩
          replace hP : gw_P D vwCl (gw_A G s.heap.size) G51 H := by rw [eG51]; exact hP
          have f51 : G51 x = some (.inr (0, [.int (nI w), .int (nI n), .ref ra, .int ((nI (s_md σ)) + 1), .ref rt, .int rc2, .int (nI (rd + 1)), .int (nI (w - 8 - s_W σ)), .int (nI (n - 2 - s_N σ)), .int (nI (s_K σ))])) := by rw [eG51]; exact va_up_self _ _ _
          have e2 : nI (s_md σ) + 1 = nI (s_md σ + 1) := nI_add _ 1
          have hR2 := hR1.own (rd' := rd + 1) (md' := s_md σ + 1) (rc' := rc2) (wl' := nI (w - 8 - s_W σ)) (el' := nI (n - 2 - s_N σ)) (cr' := nI (s_K σ)) (Nat.le_refl _)
          rw [← e2, ← eG51] at hR2
          refine lv_aload_n hx hb d_S_context_68 rfl (lv_at hl 2 rfl) ?_
          refine va_get (D := D) (ci := 0) (C := "StackRoom") (T := T_S) (N := 10) (v := .ref ra) hx hb ht in_S hown hK.1 (hP.one hR2.1) 0 rfl rfl 2 (by decide) (ht _ fl_S_S_registers) (fun _ h9 => h9) rfl d_S_context_69 ?_
          refine lv_iload_n hx hb d_S_context_72 rfl (lv_at hl 3 rfl) ?_
          refine gw_new (D := D) (cl := vwCl) (ci := 3) (fs := [.int 0, .int 0, .null, .int 0, .int 0, .null, .null]) (C := "StackRoom$MethodContext") (T := T_X) (N := 7) hx hb ht in_X ty_X tk_X hown (ht _ cl_S_X) (ht _ is_X) (ht _ ini_X) hK.1 hP hS hA rfl (fun j hj => by rcases (show j = 0 ∨ j = 1 ∨ j = 2 ∨ j = 3 ∨ j = 4 ∨ j = 5 ∨ j = 6 by omega) with rfl | rfl | rfl | rfl | rfl | rfl | rfl <;> rfl) (Nat.le_of_ble_eq_true rfl) (Nat.le_of_ble_eq_true rfl) d_S_context_73 (fun q0 H hP n_q0 hS => ?_)
          obtain ⟨G52, eG52⟩ : ∃ z : gw_G, z = va_up G51 q0 (some (.inr (3, [.int 0, .int 0, .null, .int 0, .int 0, .null, .null]))) := ⟨_, rfl⟩
          replace hP : gw_P D vwCl (gw_A G s.heap.size) G52 H := by rw [eG52]; exact hP
          have f52 : G52 q0 = some (.inr (3, [.int 0, .int 0, .null, .int 0, .int 0, .null, .null])) := by rw [eG52]; exact va_up_self _ _ _
          have hR3 := hR2.fresh (e := some (.inr (3, [.int 0, .int 0, .null, .int 0, .int 0, .null, .null]))) n_q0
          rw [← eG52] at hR3
          refine lv_dup hx hb d_S_context_76 rfl ?_
          refine lv_aload_n hx hb d_S_context_77 rfl (lv_at hl 2 rfl) ?_
          refine va_get (D := D) (ci := 0) (C := "StackRoom") (T := T_S) (N := 10) (v := .int (nI (s_md σ + 1))) hx hb ht in_S hown hK.1 (hP.one hR3.1) 0 rfl rfl 3 (by decide) (ht _ fl_S_S_made) (fun _ h9 => h9) rfl d_S_context_78 ?_
          refine lv_aload hx hb d_S_context_81 (lv_at hl 1 rfl) ?_
          refine lv_aload_n hx hb d_S_context_83 rfl (lv_at hl 2 rfl) ?_
          refine lv_iload_n hx hb d_S_context_84 rfl (lv_at hl 5 rfl) ?_
          refine va_csq (va_Run.run (r_V (rest := [.ref (ad i), .int (nI (s_md σ + 1)), .ref q0, .ref q0, .int r, .ref ra]) C0 [.int sr] (k_S_contextIn l hR3 hO.1 ht0 sr) ml_S_S_contextIn im_S_contextIn se_S_S_contextIn_S ini_S co_S_contextIn ⟨rfl, hd_S_contextIn⟩ (g_preV (ci := 0) hK hP rfl hR3.1) hl.1 d_S_context_85 rfl rfl (Nat.le_of_ble_eq_true rfl) ⟨rfl, rfl⟩ ⟨Nat.le_of_ble_eq_true rfl, Nat.le_of_ble_eq_true rfl⟩ ⟨Nat.le_of_ble_eq_true rfl, Nat.le_of_ble_eq_true rfl⟩)) (fun qc ec => ?_)
          rw [s_si_ci ho] at ec
          subst ec
          refine g_callv hP hS hA (r_I (rest := [.ref q0, .int r, .ref ra]) C0 [.int (nI (s_md σ + 1)), .ref (ad i), va_rf (o.map ad)] (k_X_init l f52 ht0 (hR3.c2 hk2) (o.map ad) (nI (s_md σ + 1)) (by omega)) ml_S_X_init im_X_init ini_X co_X_init rfl hd_X_init (g_preS hK hP) hl.1 d_S_context_88 rfl rfl (Nat.le_of_ble_eq_true rfl) ⟨rfl, rfl⟩ ⟨Nat.le_of_ble_eq_true rfl, Nat.le_of_ble_eq_true rfl⟩ ⟨Nat.le_of_ble_eq_true rfl, Nat.le_of_ble_eq_true rfl⟩) (fun G90 H locs eG90 hP hS hz9 hk9 => ?_)
          have hsd : ∀ j, o = some j → s_kd σ j ≠ 0 := fun j e => s_si_kd (e ▸ ho)
          obtain ⟨fq, hfq, eG90⟩ := eG90
          have hqq : fq ≠ q0 := fun z => by rw [z, eG52, va_up_self] at hfq; cases hfq
          have hfk : G51 fq = none := by rw [eG52, va_up_ne _ _ hqq] at hfq; exact hfq
          have e90 : G90 = va_up (va_up G51 fq (some (.inl (cV, s_tt σ i + s_dd σ i, qv (fun _ => none))))) q0 (some (.inr (kC, [.int (nI (s_md σ + 1)), .int 0, va_rf (o.map ad), .int 0, .int (nI (s_tt σ i)), .ref fq, .ref (ad i)]))) := by rw [eG90, eG52, va_up_sw _ _ _ (Ne.symm hqq), va_up_up]
          have hR3a := (hR2.fresh (e := some (.inl (cV, s_tt σ i + s_dd σ i, qv (fun _ => none)))) hfk).fresh (q := q0) (e := some (.inr (kC, [.int (nI (s_md σ + 1)), .int 0, va_rf (o.map ad), .int 0, .int (nI (s_tt σ i)), .ref fq, .ref (ad i)]))) (by rw [va_up_ne _ _ (Ne.symm hqq)]; exact n_q0)
          rw [← e90] at hR3a
          have f90 : G90 q0 = some (.inr (kC, [.int (nI (s_md σ + 1)), .int 0, va_rf (o.map ad), .int 0, .int (nI (s_tt σ i)), .ref fq, .ref (ad i)])) := by rw [e90]; exact va_up_self _ _ _
          have f91 : G90 fq = some (.inl (cV, s_tt σ i + s_dd σ i, qv (fun _ => none))) := by rw [e90, va_up_ne _ _ hqq]; exact va_up_self _ _ _
          have hR5 := hR3a.newX (q := q0) (fq := fq) (kk := 3) (ht := s_tt σ i) (rm := s_tt σ i + s_dd σ i) (og := i) (sd := o) (de := 0) (ct := 0) hO.1 (by decide) (by omega) hsd (by rw [if_pos rfl]; exact f90) f91 (Ne.symm (gw_neN hR2.2.1 hfk)) (Ne.symm (gw_neN hR2.2.2.1 hfk)) (fun j hj => gw_neN (hR2.2.2.2.2.2.2.1 j hj).1 hfk)
          refine gw_astqO (v := some q0) hx hb hK.1 hP hS 0 hR5.2.1 ht0 (fun y hy => c_any hK hP (⟨_, _, (by cases hy; exact f90), Or.inr (Or.inr (Or.inl rfl))⟩)) (s_rin hreg) d_S_context_91 (fun H locs hP hS => ?_)
          obtain ⟨G91, eG91⟩ : ∃ z : gw_G, z = va_up G90 ra (some (.inl (cV, 16, qv (va_up rr r.toNatClampNeg (some q0))))) := ⟨_, rfl⟩
          replace hP : gw_P D vwCl (gw_A G s.heap.size) G91 H := by rw [eG91]; exact hP
          have hR6 := hR5.reg (k := r.toNatClampNeg) (v := some (.inr (s_md σ + 1))) (r := some q0) (by show some q0 = some (va_up ad (s_md σ + 1) q0 (s_md σ + 1)); rw [va_up_self])
          rw [← eG91] at hR6
          refine lv_aload_n hx hb d_S_context_92 rfl (lv_at hl 2 rfl) ?_
          refine va_get (D := D) (ci := 0) (C := "StackRoom") (T := T_S) (N := 10) (v := .int (nI (s_md σ + 1))) hx hb ht in_S hown hK.1 (hP.one hR6.1) 0 rfl rfl 3 (by decide) (ht _ fl_S_S_made) (fun _ h9 => h9) rfl d_S_context_93 ?_
          refine W.widen (k := 2) (n := 101) (by omega) (by omega) ?_
          exact W.iret (v := (nI (s_md σ + 1))) hx hb hr (fun t ht hW => ⟨⟨_, G91, rfl, (by rw [show p_context w n σ r mr sr = (nI (s_md σ + 1), s_put (s_newX σ 3 o 0 (s_tt σ i) (s_tt σ i + s_dd σ i) i 0) r (some (.inr (s_md σ + 1)))) from (by simp only [p_context, hmi, ho]; rw [if_pos hreg, if_pos hfit])]; exact ⟨rfl, ⟨_, ra, rt, _, _, _, _, _, rf2, rc2, _, _, _, by omega, hR6⟩⟩), g_fin ht hP⟩, hS.F ht⟩) hS.2.2 d_S_context_96
        · have hfit : ¬ (9 + (s_tt σ i + s_dd σ i) + s_W σ + 8 ≤ w ∧ 1 + s_N σ + 2 ≤ n) := fun h => absurd (em.symm.trans cm) (by rw [if_pos h]; decide)
          refine W.widen (k := 2) (n := 101) (by omega) (by omega) ?_
          refine lv_bipush (v := (-2)) hx hb d_S_context_55 (by decide) ?_
          exact W.iret (v := (-2)) hx hb hr (fun t ht hW => ⟨⟨_, G50, rfl, (by rw [show p_context w n σ r mr sr = (-2, σ) from (by simp only [p_context, hmi, ho]; rw [if_pos hreg, if_neg hfit])]; exact ⟨rfl, ⟨_, ra, rt, ad, fa, ρ2, fr, rr, rf2, rc2, _, _, _, by omega, hR1⟩⟩), g_fin ht hP⟩, hS.F ht⟩) hS.2.2 d_S_context_57
      · have hsen : ¬ ((s_si σ sr).isSome = true) := fun h => absurd (eq21.symm.trans c21) (by rw [if_pos h]; decide)
        have hsi : s_si σ sr = none := by cases e9 : s_si σ sr with | none => rfl | some o => exact absurd (by rw [e9]; rfl) hsen
        refine W.widen (k := 2) (n := 101) (by omega) (by omega) ?_
        refine lv_iconst (v := (-1)) hx hb d_S_context_27 (by decide) ?_
        exact W.iret (v := (-1)) hx hb hr (fun t ht hW => ⟨⟨_, G, rfl, (by rw [show p_context w n σ r mr sr = (-1, σ) from (p_context_ns hsi)]; exact ⟨rfl, c_R.up ⟨rd, ra, rt, ad, fa, ρ, fr, rr, rf, rc, wl, el, cr, hrd, hR⟩⟩), g_fin ht hP⟩, hS.F ht⟩) hS.2.2 d_S_context_28
set_option maxHeartbeats 4000000 in
set_option maxRecDepth 100000 in
theorem k_S_block (l : Launch) (hR0 : c_R w n k cV cT σ x G) (hO : s_OK w n σ) (hw : 128 ≤ w ∧ w ≤ 32768) (hn : 16 ≤ n ∧ n ≤ 4096) (hm : s_md σ + 2 < 2 ^ 31) (hk : k + 1 < 2 ^ 31) (ht0 : tys[0]? = some (cV, .object "StackRoom$Value")) (ht1 : tys[1]? = some (cT, .object "StackRoom$Thing")) (r cx kc : Int32) : Met l y_S_block w_S_block ({ frames := 6, cells := 2, slots := 102, locals := 129 }) (g_pre D tys G sz [.ref x, .int r, .int cx, .int kc]) (va_Qi (fun (rz : Int32) (G1 : gw_G) => rz = (p_block w n σ r cx kc).1 ∧ c_R w n (k + 1) cV cT (p_block w n σ r cx kc).2 x G1) (g_end D G sz) (gw_A G sz)) 2 102 (gw_A G sz) := by
  refine Met.ofW (cc := b_S_block) (maxL := 7) (ret := (some .int)) (by decide) rfl ?_
  intro p e s m args below meth c s₁ B hml hv
  obtain ⟨rfl, hsz, hP, hK⟩ := hv
  have hx := B.exec
  have hb := B.bytes
  have hr := B.returns
  have ht := fun w (hw : w ∈ gt) => atoms_spec (ws := w_S_block) B.pre w (List.mem_cons_of_mem _ hw)
  have hown : s.vm.findClass "StackRoom" = some m.cls := findClass_of_methodNamed B.named
  have hlocks := B.notSynchronized
  have C0 : CallFix p m c b_S_block 7 s [.ref x, .int r, .int cx, .int kc].toArray gt "StackRoom" := ⟨hx, hb, hml, hown, ht⟩
  subst hsz
  have hP := hP.self (sz := s.heap.size)
  have hA : ∀ q : Nat, s.heap.size ≤ q → gw_A G s.heap.size q := fun q h => Or.inr h
  have hS : va_S (gw_A G s.heap.size) s.heap s.heap [] := va_S.rf
  have hl := lv_entry ([.ref x, .int r, .int cx, .int kc]) (n := 7) (Nat.le_of_ble_eq_true rfl)
  rw [lg_entry_eq]
  generalize (lg_sl ([.ref x, .int r, .int cx, .int kc]) ++ List.replicate (7 - (lg_sl ([.ref x, .int r, .int cx, .int kc])).length) Slot.unset).toArray = ls at hl ⊢
  have hl : lv_has ls 7 [(0, .ref x), (1, .int r), (2, .int cx), (3, .int kc)] := hl
  obtain ⟨rd, ra, rt, ad, fa, ρ, fr, rr, rf, rc, wl, el, cr, hrd, hR⟩ := hR0
  refine lv_aload_n hx hb d_S_block_0 rfl (lv_at hl 0 rfl) ?_
  refine lv_iload_n hx hb d_S_block_1 rfl (lv_at hl 2 rfl) ?_
  refine va_csq (va_Run.run (r_V (rest := []) C0 [.int cx] (k_S_contextIn l hR hO.1 ht0 cx) ml_S_S_contextIn im_S_contextIn se_S_S_contextIn_S ini_S co_S_contextIn ⟨rfl, hd_S_contextIn⟩ (g_preV (ci := 0) hK hP rfl hR.1) hl.1 d_S_block_2 rfl rfl (Nat.le_of_ble_eq_true rfl) ⟨rfl, rfl⟩ ⟨Nat.le_of_ble_eq_true rfl, Nat.le_of_ble_eq_true rfl⟩ ⟨Nat.le_of_ble_eq_true rfl, Nat.le_of_ble_eq_true rfl⟩)) (fun qc ec => ?_)
  subst ec
  rcases hci : s_ci σ cx with _ | i
  · refine lv_astoreN (lv' := [(4, .null), (0, .ref x), (1, .int r), (2, .int cx), (3, .int kc)]) hx hb d_S_block_5 hl (by decide) rfl (fun ls hl => ?_)
    refine lv_iload_n hx hb d_S_block_7 rfl (lv_at hl 2 rfl) ?_
    refine vp_callSi (va_Run.run (r_S (rest := []) C0 [.int r] (k_S_isRegister l r) ml_S_S_isRegister st_S_isRegister ini_S co_S_isRegister hd_S_isRegister v_preS hl.1 d_S_block_8 rfl rfl (Nat.le_of_ble_eq_true rfl) ⟨rfl, rfl⟩ ⟨Nat.le_of_ble_eq_true rfl, Nat.le_of_ble_eq_true rfl⟩ ⟨Nat.le_of_ble_eq_true rfl, Nat.le_of_ble_eq_true rfl⟩)) (fun q8 eq8 => ?_)
    refine lv_if_eq (tgt := 29) hx hb d_S_block_11 (by decide) (fun c8 => ?_) (fun c8 => ?_)
    · have hreg : ¬ (0 ≤ r ∧ r ≤ 15) := fun h => absurd (eq8.symm.trans c8) (by rw [if_pos h]; decide)
      refine W.widen (k := 2) (n := 102) (by omega) (by omega) ?_
      refine lv_iconst (v := (-1)) hx hb d_S_block_29 (by decide) ?_
      exact W.iret (v := (-1)) hx hb hr (fun t ht hW => ⟨⟨_, G, rfl, (by rw [show p_block w n σ r cx kc = (-1, σ) from (by simp only [p_block, hci])]; exact ⟨rfl, c_R.up ⟨rd, ra, rt, ad, fa, ρ, fr, rr, rf, rc, wl, el, cr, hrd, hR⟩⟩), g_fin ht hP⟩, hS.F ht⟩) hS.2.2 d_S_block_30
    · have hreg : 0 ≤ r ∧ r ≤ 15 := Decidable.byContradiction (fun h => c8 (eq8.trans (if_neg h)))
      refine lv_aloadN hx hb d_S_block_14 (lv_at hl 0 rfl) ?_
      refine lv_ifnullN (tgt := 29) hx hb d_S_block_16 (by decide) ?_
      refine W.widen (k := 2) (n := 102) (by omega) (by omega) ?_
      refine lv_iconst (v := (-1)) hx hb d_S_block_29 (by decide) ?_
      exact W.iret (v := (-1)) hx hb hr (fun t ht hW => ⟨⟨_, G, rfl, (by rw [show p_block w n σ r cx kc = (-1, σ) from (by simp only [p_block, hci])]; exact ⟨rfl, c_R.up ⟨rd, ra, rt, ad, fa, ρ, fr, rr, rf, rc, wl, el, cr, hrd, hR⟩⟩), g_fin ht hP⟩, hS.F ht⟩) hS.2.2 d_S_block_30
  · have hc := (s_ci_some hci).2.2
    have hri := s_ci_rch hci
    rcases id hc with h3 | h4
    · have hkh := s_hm_kd hO.1 hc
      have hkm := hO.1.2.2.2.2.1 _ hkh
      have hbm := hO.1.2.2.2.1 _ hkm
      refine lv_astore (lv' := [(4, .ref (ad i)), (0, .ref x), (1, .int r), (2, .int cx), (3, .int kc)]) hx hb d_S_block_5 hl (by decide) rfl (fun ls hl => ?_)
      refine lv_iload_n hx hb d_S_block_7 rfl (lv_at hl 2 rfl) ?_
      refine vp_callSi (va_Run.run (r_S (rest := []) C0 [.int r] (k_S_isRegister l r) ml_S_S_isRegister st_S_isRegister ini_S co_S_isRegister hd_S_isRegister v_preS hl.1 d_S_block_8 rfl rfl (Nat.le_of_ble_eq_true rfl) ⟨rfl, rfl⟩ ⟨Nat.le_of_ble_eq_true rfl, Nat.le_of_ble_eq_true rfl⟩ ⟨Nat.le_of_ble_eq_true rfl, Nat.le_of_ble_eq_true rfl⟩)) (fun q8 eq8 => ?_)
      refine lv_if_eq (tgt := 29) hx hb d_S_block_11 (by decide) (fun c8 => ?_) (fun c8 => ?_)
      · have hreg : ¬ (0 ≤ r ∧ r ≤ 15) := fun h => absurd (eq8.symm.trans c8) (by rw [if_pos h]; decide)
        refine W.widen (k := 2) (n := 102) (by omega) (by omega) ?_
        refine lv_iconst (v := (-1)) hx hb d_S_block_29 (by decide) ?_
        exact W.iret (v := (-1)) hx hb hr (fun t ht hW => ⟨⟨_, G, rfl, (by rw [show p_block w n σ r cx kc = (-1, σ) from (by simp only [p_block, hci]; rw [if_neg (fun z => hreg z.1)])]; exact ⟨rfl, c_R.up ⟨rd, ra, rt, ad, fa, ρ, fr, rr, rf, rc, wl, el, cr, hrd, hR⟩⟩), g_fin ht hP⟩, hS.F ht⟩) hS.2.2 d_S_block_30
      · have hreg : 0 ≤ r ∧ r ≤ 15 := Decidable.byContradiction (fun h => c8 (eq8.trans (if_neg h)))
        refine lv_aload hx hb d_S_block_14 (lv_at hl 0 rfl) ?_
        refine lv_ifnull hx hb d_S_block_16 ?_
        refine lv_iload_n hx hb d_S_block_19 rfl (lv_at hl 4 rfl) ?_
        refine lv_iconst (v := 0) hx hb d_S_block_20 (by decide) ?_
        refine lv_bipush (v := 15) hx hb d_S_block_21 (by decide) ?_
        refine vp_callSi (va_Run.run (r_S (rest := []) C0 [.int kc, .int 0, .int 15] (k_S_isWithin l kc 0 15) ml_S_S_isWithin st_S_isWithin ini_S co_S_isWithin hd_S_isWithin v_preS hl.1 d_S_block_23 rfl rfl (Nat.le_of_ble_eq_true rfl) ⟨rfl, rfl⟩ ⟨Nat.le_of_ble_eq_true rfl, Nat.le_of_ble_eq_true rfl⟩ ⟨Nat.le_of_ble_eq_true rfl, Nat.le_of_ble_eq_true rfl⟩)) (fun q23 eq23 => ?_)
        refine lv_if_ne (tgt := 31) hx hb d_S_block_26 (by decide) (fun c23 => ?_) (fun c23 => ?_)
        · have hwi : 0 ≤ kc ∧ kc ≤ 15 := Decidable.byContradiction (fun h => c23 (eq23.trans (if_neg h)))
          refine lv_aload hx hb d_S_block_31 (lv_at hl 0 rfl) ?_
          refine va_csq (va_Run.run (r_A (owner := "StackRoom$Context") (n := 0) (rest := []) C0 [] (k_X_homeContext l hR (i := i) h3) ml_S_C_homeContext sm_C_C_homeContext se_X_C_homeContext_X im_X_homeContext ini_X co_X_homeContext (hK.2.1 _ dc_C_homeContext) (by decide +kernel) (g_preV (ci := 3) hK hP rfl (hR.c3 h3)) hl.1 d_S_block_33 rfl rfl (Nat.le_of_ble_eq_true rfl) ⟨rfl, rfl⟩ ⟨Nat.le_of_ble_eq_true rfl, Nat.le_of_ble_eq_true rfl⟩ ⟨Nat.le_of_ble_eq_true rfl, Nat.le_of_ble_eq_true rfl⟩)) (fun qh eh => ?_)
          subst eh
          refine lv_astore (lv' := [(5, .ref (ad (s_hm σ i))), (4, .ref (ad i)), (0, .ref x), (1, .int r), (2, .int cx), (3, .int kc)]) hx hb d_S_block_36 hl (by decide) rfl (fun ls hl => ?_)
          refine lv_aload hx hb d_S_block_38 (lv_at hl 0 rfl) ?_
          refine va_getN (D := D) (ci := 3) (C := "StackRoom$MethodContext") (T := T_X) (N := 7) (v := .ref (ad (s_og σ (s_hm σ i)))) hx hb ht in_X hown hK.1 (hP.one (hR.c3 hkh)) 0 rfl rfl 6 (by decide) (va_Nw.use rfl (hK.2.1 _ fn_S_X_method)) (fun _ h9 => h9) rfl d_S_block_40 ?_
          refine va_getN (D := D) (ci := 2) (C := "StackRoom$Method") (T := T_M) (N := 4) (v := .int (nI (s_dd σ (s_og σ (s_hm σ i))))) hx hb ht in_M hown hK.1 (hP.one (hR.c2 hkm)) 0 rfl rfl 3 (by decide) (va_Nw.use rfl (hK.2.1 _ fn_S_M_depth)) (fun _ h9 => h9) rfl d_S_block_43 ?_
          refine lv_istore (lv' := [(6, .int (nI (s_dd σ (s_og σ (s_hm σ i))))), (5, .ref (ad (s_hm σ i))), (4, .ref (ad i)), (0, .ref x), (1, .int r), (2, .int cx), (3, .int kc)]) hx hb d_S_block_46 hl (by decide) rfl (fun ls hl => ?_)
          refine lv_aload_n hx hb d_S_block_48 rfl (lv_at hl 3 rfl) ?_
          refine lv_bipush (v := 10) hx hb d_S_block_49 (by decide) ?_
          refine lv_iload hx hb d_S_block_51 (lv_at hl 0 rfl) ?_
          refine lv_iadd hx hb d_S_block_53 ?_
          refine lv_iconst (v := 1) hx hb d_S_block_54 (by decide) ?_
          refine W.eq (g2 := F0 m 55 ls [.int (nI 1), .int (nI (10 + s_dd σ (s_og σ (s_hm σ i)))), .ref x]) (by rw [← nI_add]; rfl) ?_
          refine g_calli hP hS hA (r_V (rest := []) C0 [.int (nI (10 + s_dd σ (s_og σ (s_hm σ i)))), .int (nI 1)] (k_S_canBeMade l hR hO hw hn (by omega) (by omega) ht0 ht1 (a := 10 + s_dd σ (s_og σ (s_hm σ i))) (b := 1) (by omega) (by omega)) ml_S_S_canBeMade im_S_canBeMade se_S_S_canBeMade_S ini_S co_S_canBeMade ⟨rfl, hd_S_canBeMade⟩ (g_preV (ci := 0) hK hP rfl hR.1) hl.1 d_S_block_55 rfl rfl (Nat.le_of_ble_eq_true rfl) ⟨rfl, rfl⟩ ⟨Nat.le_of_ble_eq_true rfl, Nat.le_of_ble_eq_true rfl⟩ ⟨Nat.le_of_ble_eq_true rfl, Nat.le_of_ble_eq_true rfl⟩) (fun qm G50 H locs hq1 hP hS hz9 hk9 => ?_)
          obtain ⟨em, ρ2, rf2, rc2, hR1⟩ := hq1
          refine lv_if_ne (tgt := 64) hx hb d_S_block_58 (by decide) (fun cm => ?_) (fun cm => ?_)
          · have hfit : 10 + s_dd σ (s_og σ (s_hm σ i)) + s_W σ + 8 ≤ w ∧ 1 + s_N σ + 2 ≤ n := Decidable.byContradiction (fun h => cm (em.trans (if_neg h)))
            refine lv_aload_n hx hb d_S_block_64 rfl (lv_at hl 3 rfl) ?_
            refine lv_dup hx hb d_S_block_65 rfl ?_
            refine va_get (D := D) (ci := 0) (C := "StackRoom") (T := T_S) (N := 10) (v := .int (nI (s_md σ))) hx hb ht in_S hown hK.1 (hP.one hR1.1) 0 rfl rfl 3 (by decide) (ht _ fl_S_S_made) (fun _ h9 => h9) rfl d_S_block_66 ?_
            refine lv_iconst (v := 1) hx hb d_S_block_69 (by decide) ?_
            refine lv_iadd hx hb d_S_block_70 ?_
            refine gw_put (D := D) (cl := vwCl) (ci := 0) (C := "StackRoom") (T := T_S) (N := 10) (v := .int ((nI (s_md σ)) + 1)) (ty := .int) hx hb ht in_S ty_S tk_S nm_S hown hK.1 hP hS hR1.1 rfl 3 (by decide) (ht _ fl_S_S_made) (fun _ h9 => h9) rfl (by decide +kernel) rfl rfl (Nat.le_of_ble_eq_true rfl) d_S_block_71 (fun H locs hP hS => ?_)
            obtain ⟨G51, eG51⟩ : ∃ z : gw_G, z = va_up G50 x (some (.inr (0, [.int (nI w), .int (nI n), .ref ra, .int ((nI (s_md σ)) + 1), .ref rt, .int rc2, .int (nI (rd + 1)), .int (nI (w - 8 - s_W σ)), .int (nI (n - 2 - s_N σ)), .int (nI (s_K σ))]))) := ⟨_, rfl⟩
            replace hP : gw_P D vwCl (gw_A G s.heap.size) G51 H := by rw [eG51]; exact hP
            have f51 : G51 x = some (.inr (0, [.int (nI w), .int (nI n), .ref ra, .int ((nI (s_md σ)) + 1), .ref rt, .int rc2, .int (nI (rd + 1)), .int (nI (w - 8 - s_W σ)), .int (nI (n - 2 - s_N σ)), .int (nI (s_K σ))])) := by rw [eG51]; exact va_up_self _ _ _
            have e2 : nI (s_md σ) + 1 = nI (s_md σ + 1) := nI_add _ 1
            have hR2 := hR1.own (rd' := rd + 1) (md' := s_md σ + 1) (rc' := rc2) (wl' := nI (w - 8 - s_W σ)) (el' := nI (n - 2 - s_N σ)) (cr' := nI (s_K σ)) (Nat.le_refl _)
            rw [← e2, ← eG51] at hR2
            refine lv_aload_n hx hb d_S_block_74 rfl (lv_at hl 3 rfl) ?_
            refine va_get (D := D) (ci := 0) (C := "StackRoom") (T := T_S) (N := 10) (v := .ref ra) hx hb ht in_S hown hK.1 (hP.one hR2.1) 0 rfl rfl 2 (by decide) (ht _ fl_S_S_registers) (fun _ h9 => h9) rfl d_S_block_75 ?_
            refine lv_iload_n hx hb d_S_block_78 rfl (lv_at hl 4 rfl) ?_
            refine gw_new (D := D) (cl := vwCl) (ci := 4) (fs := [.int 0, .int 0, .null, .int 0, .int 0, .null, .null, .int 0]) (C := "StackRoom$BlockContext") (T := T_B) (N := 8) hx hb ht in_B ty_B tk_B hown (ht _ cl_S_B) (ht _ is_B) (ht _ ini_B) hK.1 hP hS hA rfl (fun j hj => by rcases (show j = 0 ∨ j = 1 ∨ j = 2 ∨ j = 3 ∨ j = 4 ∨ j = 5 ∨ j = 6 ∨ j = 7 by omega) with rfl | rfl | rfl | rfl | rfl | rfl | rfl | rfl <;> rfl) (Nat.le_of_ble_eq_true rfl) (Nat.le_of_ble_eq_true rfl) d_S_block_79 (fun q0 H hP n_q0 hS => ?_)
            obtain ⟨G52, eG52⟩ : ∃ z : gw_G, z = va_up G51 q0 (some (.inr (4, [.int 0, .int 0, .null, .int 0, .int 0, .null, .null, .int 0]))) := ⟨_, rfl⟩
            replace hP : gw_P D vwCl (gw_A G s.heap.size) G52 H := by rw [eG52]; exact hP
            have f52 : G52 q0 = some (.inr (4, [.int 0, .int 0, .null, .int 0, .int 0, .null, .null, .int 0])) := by rw [eG52]; exact va_up_self _ _ _
            have hR3 := hR2.fresh (e := some (.inr (4, [.int 0, .int 0, .null, .int 0, .int 0, .null, .null, .int 0]))) n_q0
            rw [← eG52] at hR3
            refine lv_dup hx hb d_S_block_82 rfl ?_
            refine lv_aload_n hx hb d_S_block_83 rfl (lv_at hl 3 rfl) ?_
            refine va_get (D := D) (ci := 0) (C := "StackRoom") (T := T_S) (N := 10) (v := .int (nI (s_md σ + 1))) hx hb ht in_S hown hK.1 (hP.one hR3.1) 0 rfl rfl 3 (by decide) (ht _ fl_S_S_made) (fun _ h9 => h9) rfl d_S_block_84 ?_
            refine lv_aload hx hb d_S_block_87 (lv_at hl 1 rfl) ?_
            refine lv_iload_n hx hb d_S_block_89 rfl (lv_at hl 6 rfl) ?_
            refine g_callv hP hS hA (r_I (rest := [.ref q0, .int r, .ref ra]) C0 [.int (nI (s_md σ + 1)), .ref (ad (s_hm σ i)), .int kc] (k_B_init l f52 ht0 (hR3.c3 hkh) (hR3.c2 hkm) (nI (s_md σ + 1)) kc (by omega)) ml_S_B_init im_B_init ini_B co_B_init rfl hd_B_init (g_preS hK hP) hl.1 d_S_block_90 rfl rfl (Nat.le_of_ble_eq_true rfl) ⟨rfl, rfl⟩ ⟨Nat.le_of_ble_eq_true rfl, Nat.le_of_ble_eq_true rfl⟩ ⟨Nat.le_of_ble_eq_true rfl, Nat.le_of_ble_eq_true rfl⟩) (fun G90 H locs eG90 hP hS hz9 hk9 => ?_)
            obtain ⟨fq, hfq, eG90⟩ := eG90
            have hqq : fq ≠ q0 := fun z => by rw [z, eG52, va_up_self] at hfq; cases hfq
            have hfk : G51 fq = none := by rw [eG52, va_up_ne _ _ hqq] at hfq; exact hfq
            have e90 : G90 = va_up (va_up G51 fq (some (.inl (cV, s_dd σ (s_og σ (s_hm σ i)), qv (fun _ => none))))) q0 (some (.inr (kB, [.int (nI (s_md σ + 1)), .int 0, .null, .int 1, .int 0, .ref fq, .ref (ad (s_hm σ i)), .int kc]))) := by rw [eG90, eG52, va_up_sw _ _ _ (Ne.symm hqq), va_up_up]
            have hR3a := (hR2.fresh (e := some (.inl (cV, s_dd σ (s_og σ (s_hm σ i)), qv (fun _ => none)))) hfk).fresh (q := q0) (e := some (.inr (kB, [.int (nI (s_md σ + 1)), .int 0, .null, .int 1, .int 0, .ref fq, .ref (ad (s_hm σ i)), .int kc]))) (by rw [va_up_ne _ _ (Ne.symm hqq)]; exact n_q0)
            rw [← e90] at hR3a
            have f90 : G90 q0 = some (.inr (kB, [.int (nI (s_md σ + 1)), .int 0, .null, .int 1, .int 0, .ref fq, .ref (ad (s_hm σ i)), .int kc])) := by rw [e90]; exact va_up_self _ _ _
            have f91 : G90 fq = some (.inl (cV, s_dd σ (s_og σ (s_hm σ i)), qv (fun _ => none))) := by rw [e90, va_up_ne _ _ hqq]; exact va_up_self _ _ _
            have hR5 := hR3a.newX (q := q0) (fq := fq) (kk := 4) (ht := 0) (rm := s_dd σ (s_og σ (s_hm σ i))) (og := s_hm σ i) (sd := none) (de := 1) (ct := kc) hO.1 (by decide) (by omega) (fun j e => by cases e) (by rw [if_neg (by decide)]; exact f90) f91 (Ne.symm (gw_neN hR2.2.1 hfk)) (Ne.symm (gw_neN hR2.2.2.1 hfk)) (fun j hj => gw_neN (hR2.2.2.2.2.2.2.1 j hj).1 hfk)
            refine gw_astqO (v := some q0) hx hb hK.1 hP hS 0 hR5.2.1 ht0 (fun y hy => c_any hK hP (⟨_, _, (by cases hy; exact f90), Or.inr (Or.inr (Or.inr rfl))⟩)) (s_rin hreg) d_S_block_93 (fun H locs hP hS => ?_)
            obtain ⟨G91, eG91⟩ : ∃ z : gw_G, z = va_up G90 ra (some (.inl (cV, 16, qv (va_up rr r.toNatClampNeg (some q0))))) := ⟨_, rfl⟩
            replace hP : gw_P D vwCl (gw_A G s.heap.size) G91 H := by rw [eG91]; exact hP
            have hR6 := hR5.reg (k := r.toNatClampNeg) (v := some (.inr (s_md σ + 1))) (r := some q0) (by show some q0 = some (va_up ad (s_md σ + 1) q0 (s_md σ + 1)); rw [va_up_self])
            rw [← eG91] at hR6
            refine lv_aload_n hx hb d_S_block_94 rfl (lv_at hl 3 rfl) ?_
            refine va_get (D := D) (ci := 0) (C := "StackRoom") (T := T_S) (N := 10) (v := .int (nI (s_md σ + 1))) hx hb ht in_S hown hK.1 (hP.one hR6.1) 0 rfl rfl 3 (by decide) (ht _ fl_S_S_made) (fun _ h9 => h9) rfl d_S_block_95 ?_
            refine W.widen (k := 2) (n := 102) (by omega) (by omega) ?_
            exact W.iret (v := (nI (s_md σ + 1))) hx hb hr (fun t ht hW => ⟨⟨_, G91, rfl, (by rw [show p_block w n σ r cx kc = (nI (s_md σ + 1), s_put (s_newX σ 4 none 1 0 (s_dd σ (s_og σ (s_hm σ i))) (s_hm σ i) kc) r (some (.inr (s_md σ + 1)))) from (by simp only [p_block, hci]; rw [if_pos ⟨hreg, hwi⟩, if_pos hfit])]; exact ⟨rfl, ⟨_, ra, rt, _, _, _, _, _, rf2, rc2, _, _, _, by omega, hR6⟩⟩), g_fin ht hP⟩, hS.F ht⟩) hS.2.2 d_S_block_98
          · have hfit : ¬ (10 + s_dd σ (s_og σ (s_hm σ i)) + s_W σ + 8 ≤ w ∧ 1 + s_N σ + 2 ≤ n) := fun h => absurd (em.symm.trans cm) (by rw [if_pos h]; decide)
            refine W.widen (k := 2) (n := 102) (by omega) (by omega) ?_
            refine lv_bipush (v := (-2)) hx hb d_S_block_61 (by decide) ?_
            exact W.iret (v := (-2)) hx hb hr (fun t ht hW => ⟨⟨_, G50, rfl, (by rw [show p_block w n σ r cx kc = (-2, σ) from (by simp only [p_block, hci]; rw [if_pos ⟨hreg, hwi⟩, if_neg hfit])]; exact ⟨rfl, ⟨_, ra, rt, ad, fa, ρ2, fr, rr, rf2, rc2, _, _, _, by omega, hR1⟩⟩), g_fin ht hP⟩, hS.F ht⟩) hS.2.2 d_S_block_63
        · have hwi : ¬ (0 ≤ kc ∧ kc ≤ 15) := fun h => absurd (eq23.symm.trans c23) (by rw [if_pos h]; decide)
          refine W.widen (k := 2) (n := 102) (by omega) (by omega) ?_
          refine lv_iconst (v := (-1)) hx hb d_S_block_29 (by decide) ?_
          exact W.iret (v := (-1)) hx hb hr (fun t ht hW => ⟨⟨_, G, rfl, (by rw [show p_block w n σ r cx kc = (-1, σ) from (by simp only [p_block, hci]; rw [if_neg (fun z => hwi z.2)])]; exact ⟨rfl, c_R.up ⟨rd, ra, rt, ad, fa, ρ, fr, rr, rf, rc, wl, el, cr, hrd, hR⟩⟩), g_fin ht hP⟩, hS.F ht⟩) hS.2.2 d_S_block_30
    · have hkh := s_hm_kd hO.1 hc
      have hkm := hO.1.2.2.2.2.1 _ hkh
      have hbm := hO.1.2.2.2.1 _ hkm
      refine lv_astore (lv' := [(4, .ref (ad i)), (0, .ref x), (1, .int r), (2, .int cx), (3, .int kc)]) hx hb d_S_block_5 hl (by decide) rfl (fun ls hl => ?_)
      refine lv_iload_n hx hb d_S_block_7 rfl (lv_at hl 2 rfl) ?_
      refine vp_callSi (va_Run.run (r_S (rest := []) C0 [.int r] (k_S_isRegister l r) ml_S_S_isRegister st_S_isRegister ini_S co_S_isRegister hd_S_isRegister v_preS hl.1 d_S_block_8 rfl rfl (Nat.le_of_ble_eq_true rfl) ⟨rfl, rfl⟩ ⟨Nat.le_of_ble_eq_true rfl, Nat.le_of_ble_eq_true rfl⟩ ⟨Nat.le_of_ble_eq_true rfl, Nat.le_of_ble_eq_true rfl⟩)) (fun q8 eq8 => ?_)
      refine lv_if_eq (tgt := 29) hx hb d_S_block_11 (by decide) (fun c8 => ?_) (fun c8 => ?_)
      · have hreg : ¬ (0 ≤ r ∧ r ≤ 15) := fun h => absurd (eq8.symm.trans c8) (by rw [if_pos h]; decide)
        refine W.widen (k := 2) (n := 102) (by omega) (by omega) ?_
        refine lv_iconst (v := (-1)) hx hb d_S_block_29 (by decide) ?_
        exact W.iret (v := (-1)) hx hb hr (fun t ht hW => ⟨⟨_, G, rfl, (by rw [show p_block w n σ r cx kc = (-1, σ) from (by simp only [p_block, hci]; rw [if_neg (fun z => hreg z.1)])]; exact ⟨rfl, c_R.up ⟨rd, ra, rt, ad, fa, ρ, fr, rr, rf, rc, wl, el, cr, hrd, hR⟩⟩), g_fin ht hP⟩, hS.F ht⟩) hS.2.2 d_S_block_30
      · have hreg : 0 ≤ r ∧ r ≤ 15 := Decidable.byContradiction (fun h => c8 (eq8.trans (if_neg h)))
        refine lv_aload hx hb d_S_block_14 (lv_at hl 0 rfl) ?_
        refine lv_ifnull hx hb d_S_block_16 ?_
        refine lv_iload_n hx hb d_S_block_19 rfl (lv_at hl 4 rfl) ?_
        refine lv_iconst (v := 0) hx hb d_S_block_20 (by decide) ?_
        refine lv_bipush (v := 15) hx hb d_S_block_21 (by decide) ?_
        refine vp_callSi (va_Run.run (r_S (rest := []) C0 [.int kc, .int 0, .int 15] (k_S_isWithin l kc 0 15) ml_S_S_isWithin st_S_isWithin ini_S co_S_isWithin hd_S_isWithin v_preS hl.1 d_S_block_23 rfl rfl (Nat.le_of_ble_eq_true rfl) ⟨rfl, rfl⟩ ⟨Nat.le_of_ble_eq_true rfl, Nat.le_of_ble_eq_true rfl⟩ ⟨Nat.le_of_ble_eq_true rfl, Nat.le_of_ble_eq_true rfl⟩)) (fun q23 eq23 => ?_)
        refine lv_if_ne (tgt := 31) hx hb d_S_block_26 (by decide) (fun c23 => ?_) (fun c23 => ?_)
        · have hwi : 0 ≤ kc ∧ kc ≤ 15 := Decidable.byContradiction (fun h => c23 (eq23.trans (if_neg h)))
          refine lv_aload hx hb d_S_block_31 (lv_at hl 0 rfl) ?_
          refine va_csq (va_Run.run (r_A (owner := "StackRoom$Context") (n := 0) (rest := []) C0 [] (k_B_homeContext l hR (i := i) h4) ml_S_C_homeContext sm_C_C_homeContext se_B_C_homeContext_B im_B_homeContext ini_B co_B_homeContext (hK.2.1 _ dc_C_homeContext) (by decide +kernel) (g_preV (ci := 4) hK hP rfl (hR.c4 h4)) hl.1 d_S_block_33 rfl rfl (Nat.le_of_ble_eq_true rfl) ⟨rfl, rfl⟩ ⟨Nat.le_of_ble_eq_true rfl, Nat.le_of_ble_eq_true rfl⟩ ⟨Nat.le_of_ble_eq_true rfl, Nat.le_of_ble_eq_true rfl⟩)) (fun qh eh => ?_)
          subst eh
          refine lv_astore (lv' := [(5, .ref (ad (s_hm σ i))), (4, .ref (ad i)), (0, .ref x), (1, .int r), (2, .int cx), (3, .int kc)]) hx hb d_S_block_36 hl (by decide) rfl (fun ls hl => ?_)
          refine lv_aload hx hb d_S_block_38 (lv_at hl 0 rfl) ?_
          refine va_getN (D := D) (ci := 3) (C := "StackRoom$MethodContext") (T := T_X) (N := 7) (v := .ref (ad (s_og σ (s_hm σ i)))) hx hb ht in_X hown hK.1 (hP.one (hR.c3 hkh)) 0 rfl rfl 6 (by decide) (va_Nw.use rfl (hK.2.1 _ fn_S_X_method)) (fun _ h9 => h9) rfl d_S_block_40 ?_
          refine va_getN (D := D) (ci := 2) (C := "StackRoom$Method") (T := T_M) (N := 4) (v := .int (nI (s_dd σ (s_og σ (s_hm σ i))))) hx hb ht in_M hown hK.1 (hP.one (hR.c2 hkm)) 0 rfl rfl 3 (by decide) (va_Nw.use rfl (hK.2.1 _ fn_S_M_depth)) (fun _ h9 => h9) rfl d_S_block_43 ?_
          refine lv_istore (lv' := [(6, .int (nI (s_dd σ (s_og σ (s_hm σ i))))), (5, .ref (ad (s_hm σ i))), (4, .ref (ad i)), (0, .ref x), (1, .int r), (2, .int cx), (3, .int kc)]) hx hb d_S_block_46 hl (by decide) rfl (fun ls hl => ?_)
          refine lv_aload_n hx hb d_S_block_48 rfl (lv_at hl 3 rfl) ?_
          refine lv_bipush (v := 10) hx hb d_S_block_49 (by decide) ?_
          refine lv_iload hx hb d_S_block_51 (lv_at hl 0 rfl) ?_
          refine lv_iadd hx hb d_S_block_53 ?_
          refine lv_iconst (v := 1) hx hb d_S_block_54 (by decide) ?_
          refine W.eq (g2 := F0 m 55 ls [.int (nI 1), .int (nI (10 + s_dd σ (s_og σ (s_hm σ i)))), .ref x]) (by rw [← nI_add]; rfl) ?_
          refine g_calli hP hS hA (r_V (rest := []) C0 [.int (nI (10 + s_dd σ (s_og σ (s_hm σ i)))), .int (nI 1)] (k_S_canBeMade l hR hO hw hn (by omega) (by omega) ht0 ht1 (a := 10 + s_dd σ (s_og σ (s_hm σ i))) (b := 1) (by omega) (by omega)) ml_S_S_canBeMade im_S_canBeMade se_S_S_canBeMade_S ini_S co_S_canBeMade ⟨rfl, hd_S_canBeMade⟩ (g_preV (ci := 0) hK hP rfl hR.1) hl.1 d_S_block_55 rfl rfl (Nat.le_of_ble_eq_true rfl) ⟨rfl, rfl⟩ ⟨Nat.le_of_ble_eq_true rfl, Nat.le_of_ble_eq_true rfl⟩ ⟨Nat.le_of_ble_eq_true rfl, Nat.le_of_ble_eq_true rfl⟩) (fun qm G50 H locs hq1 hP hS hz9 hk9 => ?_)
          obtain ⟨em, ρ2, rf2, rc2, hR1⟩ := hq1
          refine lv_if_ne (tgt := 64) hx hb d_S_block_58 (by decide) (fun cm => ?_) (fun cm => ?_)
          · have hfit : 10 + s_dd σ (s_og σ (s_hm σ i)) + s_W σ + 8 ≤ w ∧ 1 + s_N σ + 2 ≤ n := Decidable.byContradiction (fun h => cm (em.trans (if_neg h)))
            refine lv_aload_n hx hb d_S_block_64 rfl (lv_at hl 3 rfl) ?_
            refine lv_dup hx hb d_S_block_65 rfl ?_
            refine va_get (D := D) (ci := 0) (C := "StackRoom") (T := T_S) (N := 10) (v := .int (nI (s_md σ))) hx hb ht in_S hown hK.1 (hP.one hR1.1) 0 rfl rfl 3 (by decide) (ht _ fl_S_S_made) (fun _ h9 => h9) rfl d_S_block_66 ?_
            refine lv_iconst (v := 1) hx hb d_S_block_69 (by decide) ?_
            refine lv_iadd hx hb d_S_block_70 ?_
            refine gw_put (D := D) (cl := vwCl) (ci := 0) (C := "StackRoom") (T := T_S) (N := 10) (v := .int ((nI (s_md σ)) + 1)) (ty := .int) hx hb ht in_S ty_S tk_S nm_S hown hK.1 hP hS hR1.1 rfl 3 (by decide) (ht _ fl_S_S_made) (fun _ h9 => h9) rfl (by decide +kernel) rfl rfl (Nat.le_of_ble_eq_true rfl) d_S_block_71 (fun H locs hP hS => ?_)
            obtain ⟨G51, eG51⟩ : ∃ z : gw_G, z = va_up G50 x (some (.inr (0, [.int (nI w), .int (nI n), .ref ra, .int ((nI (s_md σ)) + 1), .ref rt, .int rc2, .int (nI (rd + 1)), .int (nI (w - 8 - s_W σ)), .int (nI (n - 2 - s_N σ)), .int (nI (s_K σ))]))) := ⟨_, rfl⟩
            replace hP : gw_P D vwCl (gw_A G s.heap.size) G51 H := by rw [eG51]; exact hP
            have f51 : G51 x = some (.inr (0, [.int (nI w), .int (nI n), .ref ra, .int ((nI (s_md σ)) + 1), .ref rt, .int rc2, .int (nI (rd + 1)), .int (nI (w - 8 - s_W σ)), .int (nI (n - 2 - s_N σ)), .int (nI (s_K σ))])) := by rw [eG51]; exact va_up_self _ _ _
            have e2 : nI (s_md σ) + 1 = nI (s_md σ + 1) := nI_add _ 1
            have hR2 := hR1.own (rd' := rd + 1) (md' := s_md σ + 1) (rc' := rc2) (wl' := nI (w - 8 - s_W σ)) (el' := nI (n - 2 - s_N σ)) (cr' := nI (s_K σ)) (Nat.le_refl _)
            rw [← e2, ← eG51] at hR2
            refine lv_aload_n hx hb d_S_block_74 rfl (lv_at hl 3 rfl) ?_
            refine va_get (D := D) (ci := 0) (C := "StackRoom") (T := T_S) (N := 10) (v := .ref ra) hx hb ht in_S hown hK.1 (hP.one hR2.1) 0 rfl rfl 2 (by decide) (ht _ fl_S_S_registers) (fun _ h9 => h9) rfl d_S_block_75 ?_
            refine lv_iload_n hx hb d_S_block_78 rfl (lv_at hl 4 rfl) ?_
            refine gw_new (D := D) (cl := vwCl) (ci := 4) (fs := [.int 0, .int 0, .null, .int 0, .int 0, .null, .null, .int 0]) (C := "StackRoom$BlockContext") (T := T_B) (N := 8) hx hb ht in_B ty_B tk_B hown (ht _ cl_S_B) (ht _ is_B) (ht _ ini_B) hK.1 hP hS hA rfl (fun j hj => by rcases (show j = 0 ∨ j = 1 ∨ j = 2 ∨ j = 3 ∨ j = 4 ∨ j = 5 ∨ j = 6 ∨ j = 7 by omega) with rfl | rfl | rfl | rfl | rfl | rfl | rfl | rfl <;> rfl) (Nat.le_of_ble_eq_true rfl) (Nat.le_of_ble_eq_true rfl) d_S_block_79 (fun q0 H hP n_q0 hS => ?_)
            obtain ⟨G52, eG52⟩ : ∃ z : gw_G, z = va_up G51 q0 (some (.inr (4, [.int 0, .int 0, .null, .int 0, .int 0, .null, .null, .int 0]))) := ⟨_, rfl⟩
            replace hP : gw_P D vwCl (gw_A G s.heap.size) G52 H := by rw [eG52]; exact hP
            have f52 : G52 q0 = some (.inr (4, [.int 0, .int 0, .null, .int 0, .int 0, .null, .null, .int 0])) := by rw [eG52]; exact va_up_self _ _ _
            have hR3 := hR2.fresh (e := some (.inr (4, [.int 0, .int 0, .null, .int 0, .int 0, .null, .null, .int 0]))) n_q0
            rw [← eG52] at hR3
            refine lv_dup hx hb d_S_block_82 rfl ?_
            refine lv_aload_n hx hb d_S_block_83 rfl (lv_at hl 3 rfl) ?_
            refine va_get (D := D) (ci := 0) (C := "StackRoom") (T := T_S) (N := 10) (v := .int (nI (s_md σ + 1))) hx hb ht in_S hown hK.1 (hP.one hR3.1) 0 rfl rfl 3 (by decide) (ht _ fl_S_S_made) (fun _ h9 => h9) rfl d_S_block_84 ?_
            refine lv_aload hx hb d_S_block_87 (lv_at hl 1 rfl) ?_
            refine lv_iload_n hx hb d_S_block_89 rfl (lv_at hl 6 rfl) ?_
            refine g_callv hP hS hA (r_I (rest := [.ref q0, .int r, .ref ra]) C0 [.int (nI (s_md σ + 1)), .ref (ad (s_hm σ i)), .int kc] (k_B_init l f52 ht0 (hR3.c3 hkh) (hR3.c2 hkm) (nI (s_md σ + 1)) kc (by omega)) ml_S_B_init im_B_init ini_B co_B_init rfl hd_B_init (g_preS hK hP) hl.1 d_S_block_90 rfl rfl (Nat.le_of_ble_eq_true rfl) ⟨rfl, rfl⟩ ⟨Nat.le_of_ble_eq_true rfl, Nat.le_of_ble_eq_true rfl⟩ ⟨Nat.le_of_ble_eq_true rfl, Nat.le_of_ble_eq_true rfl⟩) (fun G90 H locs eG90 hP hS hz9 hk9 => ?_)
            obtain ⟨fq, hfq, eG90⟩ := eG90
            have hqq : fq ≠ q0 := fun z => by rw [z, eG52, va_up_self] at hfq; cases hfq
            have hfk : G51 fq = none := by rw [eG52, va_up_ne _ _ hqq] at hfq; exact hfq
            have e90 : G90 = va_up (va_up G51 fq (some (.inl (cV, s_dd σ (s_og σ (s_hm σ i)), qv (fun _ => none))))) q0 (some (.inr (kB, [.int (nI (s_md σ + 1)), .int 0, .null, .int 1, .int 0, .ref fq, .ref (ad (s_hm σ i)), .int kc]))) := by rw [eG90, eG52, va_up_sw _ _ _ (Ne.symm hqq), va_up_up]
            have hR3a := (hR2.fresh (e := some (.inl (cV, s_dd σ (s_og σ (s_hm σ i)), qv (fun _ => none)))) hfk).fresh (q := q0) (e := some (.inr (kB, [.int (nI (s_md σ + 1)), .int 0, .null, .int 1, .int 0, .ref fq, .ref (ad (s_hm σ i)), .int kc]))) (by rw [va_up_ne _ _ (Ne.symm hqq)]; exact n_q0)
            rw [← e90] at hR3a
            have f90 : G90 q0 = some (.inr (kB, [.int (nI (s_md σ + 1)), .int 0, .null, .int 1, .int 0, .ref fq, .ref (ad (s_hm σ i)), .int kc])) := by rw [e90]; exact va_up_self _ _ _
            have f91 : G90 fq = some (.inl (cV, s_dd σ (s_og σ (s_hm σ i)), qv (fun _ => none))) := by rw [e90, va_up_ne _ _ hqq]; exact va_up_self _ _ _
            have hR5 := hR3a.newX (q := q0) (fq := fq) (kk := 4) (ht := 0) (rm := s_dd σ (s_og σ (s_hm σ i))) (og := s_hm σ i) (sd := none) (de := 1) (ct := kc) hO.1 (by decide) (by omega) (fun j e => by cases e) (by rw [if_neg (by decide)]; exact f90) f91 (Ne.symm (gw_neN hR2.2.1 hfk)) (Ne.symm (gw_neN hR2.2.2.1 hfk)) (fun j hj => gw_neN (hR2.2.2.2.2.2.2.1 j hj).1 hfk)
            refine gw_astqO (v := some q0) hx hb hK.1 hP hS 0 hR5.2.1 ht0 (fun y hy => c_any hK hP (⟨_, _, (by cases hy; exact f90), Or.inr (Or.inr (Or.inr rfl))⟩)) (s_rin hreg) d_S_block_93 (fun H locs hP hS => ?_)
            obtain ⟨G91, eG91⟩ : ∃ z : gw_G, z = va_up G90 ra (some (.inl (cV, 16, qv (va_up rr r.toNatClampNeg (some q0))))) := ⟨_, rfl⟩
            replace hP : gw_P D vwCl (gw_A G s.heap.size) G91 H := by rw [eG91]; exact hP
            have hR6 := hR5.reg (k := r.toNatClampNeg) (v := some (.inr (s_md σ + 1))) (r := some q0) (by show some q0 = some (va_up ad (s_md σ + 1) q0 (s_md σ + 1)); rw [va_up_self])
            rw [← eG91] at hR6
            refine lv_aload_n hx hb d_S_block_94 rfl (lv_at hl 3 rfl) ?_
            refine va_get (D := D) (ci := 0) (C := "StackRoom") (T := T_S) (N := 10) (v := .int (nI (s_md σ + 1))) hx hb ht in_S hown hK.1 (hP.one hR6.1) 0 rfl rfl 3 (by decide) (ht _ fl_S_S_made) (fun _ h9 => h9) rfl d_S_block_95 ?_
            refine W.widen (k := 2) (n := 102) (by omega) (by omega) ?_
            exact W.iret (v := (nI (s_md σ + 1))) hx hb hr (fun t ht hW => ⟨⟨_, G91, rfl, (by rw [show p_block w n σ r cx kc = (nI (s_md σ + 1), s_put (s_newX σ 4 none 1 0 (s_dd σ (s_og σ (s_hm σ i))) (s_hm σ i) kc) r (some (.inr (s_md σ + 1)))) from (by simp only [p_block, hci]; rw [if_pos ⟨hreg, hwi⟩, if_pos hfit])]; exact ⟨rfl, ⟨_, ra, rt, _, _, _, _, _, rf2, rc2, _, _, _, by omega, hR6⟩⟩), g_fin ht hP⟩, hS.F ht⟩) hS.2.2 d_S_block_98
          · have hfit : ¬ (10 + s_dd σ (s_og σ (s_hm σ i)) + s_W σ + 8 ≤ w ∧ 1 + s_N σ + 2 ≤ n) := fun h => absurd (em.symm.trans cm) (by rw [if_pos h]; decide)
            refine W.widen (k := 2) (n := 102) (by omega) (by omega) ?_
            refine lv_bipush (v := (-2)) hx hb d_S_block_61 (by decide) ?_
            exact W.iret (v := (-2)) hx hb hr (fun t ht hW => ⟨⟨_, G50, rfl, (by rw [show p_block w n σ r cx kc = (-2, σ) from (by simp only [p_block, hci]; rw [if_pos ⟨hreg, hwi⟩, if_neg hfit])]; exact ⟨rfl, ⟨_, ra, rt, ad, fa, ρ2, fr, rr, rf2, rc2, _, _, _, by omega, hR1⟩⟩), g_fin ht hP⟩, hS.F ht⟩) hS.2.2 d_S_block_63
        · have hwi : ¬ (0 ≤ kc ∧ kc ≤ 15) := fun h => absurd (eq23.symm.trans c23) (by rw [if_pos h]; decide)
          refine W.widen (k := 2) (n := 102) (by omega) (by omega) ?_
          refine lv_iconst (v := (-1)) hx hb d_S_block_29 (by decide) ?_
          exact W.iret (v := (-1)) hx hb hr (fun t ht hW => ⟨⟨_, G, rfl, (by rw [show p_block w n σ r cx kc = (-1, σ) from (by simp only [p_block, hci]; rw [if_neg (fun z => hwi z.2)])]; exact ⟨rfl, c_R.up ⟨rd, ra, rt, ad, fa, ρ, fr, rr, rf, rc, wl, el, cr, hrd, hR⟩⟩), g_fin ht hP⟩, hS.F ht⟩) hS.2.2 d_S_block_30
theorem s_new_nc (j : Nat) : ¬ s_isC s_new j := fun h => by rcases h with h | h <;> exact absurd (show (0 : Nat) = _ from h) (by decide)
set_option maxHeartbeats 4000000 in
set_option maxRecDepth 100000 in
theorem k_S_init (l : Launch) (ha : G x = some (.inr (kS, [.int 0, .int 0, .null, .int 0, .null, .int 0, .int 0, .int 0, .int 0, .int 0]))) (ht0 : tys[0]? = some (cV, .object "StackRoom$Value")) (ht1 : tys[1]? = some (cT, .object "StackRoom$Thing")) (wa na : Int32) : Met l y_S_init w_S_init ({ frames := 1, cells := 2, slots := 4112, locals := 22 }) (g_pre D tys G sz [.ref x, .int wa, .int na]) (va_Qv (fun G1 : gw_G => c_R (c_w wa) (c_n na) 0 cV cT s_new x G1) (g_end D G sz) (gw_A G sz)) 2 4112 (gw_A G sz) := by
  refine Met.ofW (cc := b_S_init) (maxL := 3) (ret := none) (by decide) rfl ?_
  intro p e s m args below meth c s₁ B hml hv
  obtain ⟨rfl, hsz, hP, hK⟩ := hv
  have hx := B.exec
  have hb := B.bytes
  have hr := B.returns
  have ht := fun w (hw : w ∈ gt) => atoms_spec (ws := w_S_init) B.pre w (List.mem_cons_of_mem _ hw)
  have hown : s.vm.findClass "StackRoom" = some m.cls := findClass_of_methodNamed B.named
  have hlocks := B.notSynchronized
  have hin : meth.name = "<init>" := (name_of_methodNamed B.named B.method).1
  have C0 : CallFix p m c b_S_init 3 s [.ref x, .int wa, .int na].toArray gt "StackRoom" := ⟨hx, hb, hml, hown, ht⟩
  subst hsz
  have hP := hP.self (sz := s.heap.size)
  have hA : ∀ q : Nat, s.heap.size ≤ q → gw_A G s.heap.size q := fun q h => Or.inr h
  have hS : va_S (gw_A G s.heap.size) s.heap s.heap [] := va_S.rf
  have hl := lv_entry ([.ref x, .int wa, .int na]) (n := 3) (Nat.le_of_ble_eq_true rfl)
  rw [lg_entry_eq]
  generalize (lg_sl ([.ref x, .int wa, .int na]) ++ List.replicate (3 - (lg_sl ([.ref x, .int wa, .int na])).length) Slot.unset).toArray = ls at hl ⊢
  have hl : lv_has ls 3 [(0, .ref x), (1, .int wa), (2, .int na)] := hl
  refine lv_aload_n hx hb d_S_init_0 rfl (lv_at hl 0 rfl) ?_
  refine W.objInit hx hb hown (ht _ ml_S_O_init) (ht _ im_O_init) (ht _ co_O_init) rfl (by rw [hml]; exact hl.1) rfl d_S_init_1 (Nat.le_of_ble_eq_true rfl) (Nat.le_of_ble_eq_true rfl) ?_
  refine W.eq (g2 := F0 m 4 ls []) rfl ?_
  refine lv_aload_n hx hb d_S_init_4 rfl (lv_at hl 0 rfl) ?_
  refine lv_iload_n hx hb d_S_init_5 rfl (lv_at hl 1 rfl) ?_
  refine lv_sipush (v := 128) hx hb d_S_init_6 (by decide) ?_
  refine lv_ldc hx hb hown (ht _ cs_S_32768) d_S_init_9 ?_
  refine vp_callSi (va_Run.run (r_S (rest := [.ref x]) C0 [.int wa, .int 128, .int 32768] (k_S_isWithin l wa 128 32768) ml_S_S_isWithin st_S_isWithin ini_S co_S_isWithin hd_S_isWithin v_preS hl.1 d_S_init_11 rfl rfl (Nat.le_of_ble_eq_true rfl) ⟨rfl, rfl⟩ ⟨Nat.le_of_ble_eq_true rfl, Nat.le_of_ble_eq_true rfl⟩ ⟨Nat.le_of_ble_eq_true rfl, Nat.le_of_ble_eq_true rfl⟩)) (fun q11 eq11 => ?_)
  refine lv_if_eq (tgt := 21) hx hb d_S_init_14 (by decide) (fun c11 => ?_) (fun c11 => ?_)
  · have hw0 : ¬ (128 ≤ wa ∧ wa ≤ 32768) := fun h => absurd (eq11.symm.trans c11) (by rw [if_pos h]; decide)
    refine lv_ldc hx hb hown (ht _ cs_S_32768) d_S_init_21 ?_
    refine W.eq (g2 := F0 m 23 ls [.int (nI (c_w wa)), .ref x]) (by rw [c_w0 hw0]) ?_
    refine gw_putF (D := D) (cl := vwCl) (ci := 0) (C := "StackRoom") (T := T_S) (N := 10) (v := .int (nI (c_w wa))) (ty := .int) hx hb ht in_S ty_S tk_S nm_S hown hK.1 hP hS ha rfl 0 (by decide) (ht _ fl_S_S_allWords) (fun _ h9 => h9) rfl hin rfl (by decide +kernel) rfl rfl (Nat.le_of_ble_eq_true rfl) d_S_init_23 (fun H locs hP hS => ?_)
    obtain ⟨G1, eG1⟩ : ∃ z : gw_G, z = va_up G x (some (.inr (0, [.int (nI (c_w wa)), .int 0, .null, .int 0, .null, .int 0, .int 0, .int 0, .int 0, .int 0]))) := ⟨_, rfl⟩
    replace hP : gw_P D vwCl (gw_A G s.heap.size) G1 H := by rw [eG1]; exact hP
    have f1 : G1 x = some (.inr (0, [.int (nI (c_w wa)), .int 0, .null, .int 0, .null, .int 0, .int 0, .int 0, .int 0, .int 0])) := by rw [eG1]; exact va_up_self _ _ _
    refine lv_aload_n hx hb d_S_init_26 rfl (lv_at hl 0 rfl) ?_
    refine lv_iload_n hx hb d_S_init_27 rfl (lv_at hl 2 rfl) ?_
    refine lv_bipush (v := 16) hx hb d_S_init_28 (by decide) ?_
    refine lv_sipush (v := 4096) hx hb d_S_init_30 (by decide) ?_
    refine vp_callSi (va_Run.run (r_S (rest := [.ref x]) C0 [.int na, .int 16, .int 4096] (k_S_isWithin l na 16 4096) ml_S_S_isWithin st_S_isWithin ini_S co_S_isWithin hd_S_isWithin v_preS hl.1 d_S_init_33 rfl rfl (Nat.le_of_ble_eq_true rfl) ⟨rfl, rfl⟩ ⟨Nat.le_of_ble_eq_true rfl, Nat.le_of_ble_eq_true rfl⟩ ⟨Nat.le_of_ble_eq_true rfl, Nat.le_of_ble_eq_true rfl⟩)) (fun q33 eq33 => ?_)
    refine lv_if_eq (tgt := 43) hx hb d_S_init_36 (by decide) (fun c33 => ?_) (fun c33 => ?_)
    · have hn0 : ¬ (16 ≤ na ∧ na ≤ 4096) := fun h => absurd (eq33.symm.trans c33) (by rw [if_pos h]; decide)
      refine lv_sipush (v := 4096) hx hb d_S_init_43 (by decide) ?_
      refine W.eq (g2 := F0 m 46 ls [.int (nI (c_n na)), .ref x]) (by rw [c_n0 hn0]) ?_
      refine gw_putF (D := D) (cl := vwCl) (ci := 0) (C := "StackRoom") (T := T_S) (N := 10) (v := .int (nI (c_n na))) (ty := .int) hx hb ht in_S ty_S tk_S nm_S hown hK.1 hP hS f1 rfl 1 (by decide) (ht _ fl_S_S_allEntries) (fun _ h9 => h9) rfl hin rfl (by decide +kernel) rfl rfl (Nat.le_of_ble_eq_true rfl) d_S_init_46 (fun H locs hP hS => ?_)
      obtain ⟨G2, eG2⟩ : ∃ z : gw_G, z = va_up G1 x (some (.inr (0, [.int (nI (c_w wa)), .int (nI (c_n na)), .null, .int 0, .null, .int 0, .int 0, .int 0, .int 0, .int 0]))) := ⟨_, rfl⟩
      replace hP : gw_P D vwCl (gw_A G s.heap.size) G2 H := by rw [eG2]; exact hP
      have f2 : G2 x = some (.inr (0, [.int (nI (c_w wa)), .int (nI (c_n na)), .null, .int 0, .null, .int 0, .int 0, .int 0, .int 0, .int 0])) := by rw [eG2]; exact va_up_self _ _ _
      refine lv_aload_n hx hb d_S_init_49 rfl (lv_at hl 0 rfl) ?_
      refine lv_bipush (v := 16) hx hb d_S_init_50 (by decide) ?_
      refine gw_newq (C := "StackRoom$Value") hx hb hown (ht _ cl_S_V) hK.2.2.1 hK.1 hP hS hA (n := 16) (N' := 16) (by decide) (by decide) (by decide) (Nat.le_of_ble_eq_true rfl) (Nat.le_of_ble_eq_true rfl) d_S_init_52 (fun ra cA H hK1 hP n_ra hS => ?_)
      have hcA := k_arr hK.1 ht0 hK1
      subst hcA
      obtain ⟨G3, eG3⟩ : ∃ z : gw_G, z = va_up G2 ra (some (.inl (cA, 16, qv (fun _ => none)))) := ⟨_, rfl⟩
      replace hP : gw_P D vwCl (gw_A G s.heap.size) G3 H := by rw [eG3]; exact hP
      have f3 : G3 ra = some (.inl (cA, 16, qv (fun _ => none))) := by rw [eG3]; exact va_up_self _ _ _
      have hxa : x ≠ ra := gw_neN f2 n_ra
      have f4 : G3 x = some (.inr (0, [.int (nI (c_w wa)), .int (nI (c_n na)), .null, .int 0, .null, .int 0, .int 0, .int 0, .int 0, .int 0])) := by rw [eG3]; exact gw_up f2 hxa
      refine gw_putF (D := D) (cl := vwCl) (ci := 0) (C := "StackRoom") (T := T_S) (N := 10) (v := .ref ra) (ty := .array (.object "StackRoom$Value")) hx hb ht in_S ty_S tk_S nm_S hown hK.1 hP hS f4 rfl 2 (by decide) (ht _ fl_S_S_registers) (fun _ h9 => h9) rfl hin rfl (by decide +kernel) rfl rfl (Nat.le_of_ble_eq_true rfl) d_S_init_55 (fun H locs hP hS => ?_)
      obtain ⟨G5, eG5⟩ : ∃ z : gw_G, z = va_up G3 x (some (.inr (0, [.int (nI (c_w wa)), .int (nI (c_n na)), .ref ra, .int 0, .null, .int 0, .int 0, .int 0, .int 0, .int 0]))) := ⟨_, rfl⟩
      replace hP : gw_P D vwCl (gw_A G s.heap.size) G5 H := by rw [eG5]; exact hP
      have f5 : G5 x = some (.inr (0, [.int (nI (c_w wa)), .int (nI (c_n na)), .ref ra, .int 0, .null, .int 0, .int 0, .int 0, .int 0, .int 0])) := by rw [eG5]; exact va_up_self _ _ _
      refine lv_aload_n hx hb d_S_init_58 rfl (lv_at hl 0 rfl) ?_
      refine lv_aload_n hx hb d_S_init_59 rfl (lv_at hl 0 rfl) ?_
      refine va_get (D := D) (ci := 0) (C := "StackRoom") (T := T_S) (N := 10) (v := .int (nI (c_n na))) hx hb ht in_S hown hK.1 (hP.one f5) 0 rfl rfl 1 (by decide) (ht _ fl_S_S_allEntries) (fun _ h9 => h9) rfl d_S_init_60 ?_
      have hn9 := c_n_in na
      refine gw_newq (C := "StackRoom$Thing") hx hb hown (ht _ cl_S_T) hK.2.2.2.1 hK.1 hP hS hA (n := nI (c_n na)) (N' := c_n na) (nI_pos (by omega)) (nI_clamp (by omega)) (by omega) (Nat.le_of_ble_eq_true rfl) (show 0 + 16 + c_n na ≤ 4112 by omega) d_S_init_63 (fun rt cB H hK2 hP n_rt hS => ?_)
      have hcB := k_arr hK.1 ht1 hK2
      subst hcB
      obtain ⟨G6, eG6⟩ : ∃ z : gw_G, z = va_up G5 rt (some (.inl (cB, c_n na, qv (fun _ => none)))) := ⟨_, rfl⟩
      replace hP : gw_P D vwCl (gw_A G s.heap.size) G6 H := by rw [eG6]; exact hP
      have f6 : G6 rt = some (.inl (cB, c_n na, qv (fun _ => none))) := by rw [eG6]; exact va_up_self _ _ _
      have hxb : x ≠ rt := gw_neN f5 n_rt
      have f7 : G6 x = some (.inr (0, [.int (nI (c_w wa)), .int (nI (c_n na)), .ref ra, .int 0, .null, .int 0, .int 0, .int 0, .int 0, .int 0])) := by rw [eG6]; exact gw_up f5 hxb
      refine gw_putF (D := D) (cl := vwCl) (ci := 0) (C := "StackRoom") (T := T_S) (N := 10) (v := .ref rt) (ty := .array (.object "StackRoom$Thing")) hx hb ht in_S ty_S tk_S nm_S hown hK.1 hP hS f7 rfl 4 (by decide) (ht _ fl_S_S_reached) (fun _ h9 => h9) rfl hin rfl (by decide +kernel) rfl rfl (Nat.le_of_ble_eq_true rfl) d_S_init_66 (fun H locs hP hS => ?_)
      obtain ⟨G8, eG8⟩ : ∃ z : gw_G, z = va_up G6 x (some (.inr (0, [.int (nI (c_w wa)), .int (nI (c_n na)), .ref ra, .int 0, .ref rt, .int 0, .int 0, .int 0, .int 0, .int 0]))) := ⟨_, rfl⟩
      replace hP : gw_P D vwCl (gw_A G s.heap.size) G8 H := by rw [eG8]; exact hP
      have f8 : G8 x = some (.inr (0, [.int (nI (c_w wa)), .int (nI (c_n na)), .ref ra, .int 0, .ref rt, .int 0, .int 0, .int 0, .int 0, .int 0])) := by rw [eG8]; exact va_up_self _ _ _
      refine lv_aload_n hx hb d_S_init_69 rfl (lv_at hl 0 rfl) ?_
      refine lv_iconst (v := 2) hx hb d_S_init_70 (by decide) ?_
      refine gw_put (D := D) (cl := vwCl) (ci := 0) (C := "StackRoom") (T := T_S) (N := 10) (v := .int 2) (ty := .int) hx hb ht in_S ty_S tk_S nm_S hown hK.1 hP hS f8 rfl 3 (by decide) (ht _ fl_S_S_made) (fun _ h9 => h9) rfl (by decide +kernel) rfl rfl (Nat.le_of_ble_eq_true rfl) d_S_init_71 (fun H locs hP hS => ?_)
      obtain ⟨G9, eG9⟩ : ∃ z : gw_G, z = va_up G8 x (some (.inr (0, [.int (nI (c_w wa)), .int (nI (c_n na)), .ref ra, .int 2, .ref rt, .int 0, .int 0, .int 0, .int 0, .int 0]))) := ⟨_, rfl⟩
      replace hP : gw_P D vwCl (gw_A G s.heap.size) G9 H := by rw [eG9]; exact hP
      have f9 : G9 x = some (.inr (0, [.int (nI (c_w wa)), .int (nI (c_n na)), .ref ra, .int 2, .ref rt, .int 0, .int 0, .int 0, .int 0, .int 0])) := by rw [eG9]; exact va_up_self _ _ _
      have hab : ra ≠ rt := gw_neN (show G5 ra = some (.inl (cA, 16, qv (fun _ => none))) by rw [eG5]; exact gw_up f3 (Ne.symm hxa)) n_rt
      have g1 : G9 ra = some (.inl (cA, 16, qv (fun _ => none))) := by rw [eG9, eG8, eG6, va_up_up, va_up_ne _ _ (Ne.symm hxa), va_up_ne _ _ hab, eG5]; exact gw_up f3 (Ne.symm hxa)
      have g2 : G9 rt = some (.inl (cB, c_n na, qv (fun _ => none))) := by rw [eG9, eG8, va_up_up, va_up_ne _ _ (Ne.symm hxb)]; exact f6
      refine W.widen (k := 2) (n := 4112) (by omega) (by omega) ?_
      exact W.vret hx hb hr (fun t ht hW => ⟨⟨G9, rfl, ⟨0, ra, rt, fun _ => 0, fun _ => 0, fun _ => 0, fun _ _ => none, fun _ => none, fun _ => none, 0, 0, 0, 0, Nat.le_refl _, f9, g1, g2, hab, fun j hj => rfl, fun j hj => absurd rfl hj, fun j hj => absurd hj (s_new_nc j), fun j hj => absurd hj (s_new_nc j), fun j j2 hj => absurd hj (s_new_nc j), fun j hj => absurd rfl hj⟩, g_fin ht hP⟩, hS.F ht⟩) hS.2.2 d_S_init_74
    · have hn0 : 16 ≤ na ∧ na ≤ 4096 := Decidable.byContradiction (fun h => c33 (eq33.trans (if_neg h)))
      refine lv_iload_n hx hb d_S_init_39 rfl (lv_at hl 2 rfl) ?_
      refine lv_goto (tgt := 46) hx hb d_S_init_40 (by decide) ?_
      refine W.eq (g2 := F0 m 46 ls [.int (nI (c_n na)), .ref x]) (by rw [c_nI hn0]) ?_
      refine gw_putF (D := D) (cl := vwCl) (ci := 0) (C := "StackRoom") (T := T_S) (N := 10) (v := .int (nI (c_n na))) (ty := .int) hx hb ht in_S ty_S tk_S nm_S hown hK.1 hP hS f1 rfl 1 (by decide) (ht _ fl_S_S_allEntries) (fun _ h9 => h9) rfl hin rfl (by decide +kernel) rfl rfl (Nat.le_of_ble_eq_true rfl) d_S_init_46 (fun H locs hP hS => ?_)
      obtain ⟨G10, eG10⟩ : ∃ z : gw_G, z = va_up G1 x (some (.inr (0, [.int (nI (c_w wa)), .int (nI (c_n na)), .null, .int 0, .null, .int 0, .int 0, .int 0, .int 0, .int 0]))) := ⟨_, rfl⟩
      replace hP : gw_P D vwCl (gw_A G s.heap.size) G10 H := by rw [eG10]; exact hP
      have f10 : G10 x = some (.inr (0, [.int (nI (c_w wa)), .int (nI (c_n na)), .null, .int 0, .null, .int 0, .int 0, .int 0, .int 0, .int 0])) := by rw [eG10]; exact va_up_self _ _ _
      refine lv_aload_n hx hb d_S_init_49 rfl (lv_at hl 0 rfl) ?_
      refine lv_bipush (v := 16) hx hb d_S_init_50 (by decide) ?_
      refine gw_newq (C := "StackRoom$Value") hx hb hown (ht _ cl_S_V) hK.2.2.1 hK.1 hP hS hA (n := 16) (N' := 16) (by decide) (by decide) (by decide) (Nat.le_of_ble_eq_true rfl) (Nat.le_of_ble_eq_true rfl) d_S_init_52 (fun ra cA H hK1 hP n_ra hS => ?_)
      have hcA := k_arr hK.1 ht0 hK1
      subst hcA
      obtain ⟨G11, eG11⟩ : ∃ z : gw_G, z = va_up G10 ra (some (.inl (cA, 16, qv (fun _ => none)))) := ⟨_, rfl⟩
      replace hP : gw_P D vwCl (gw_A G s.heap.size) G11 H := by rw [eG11]; exact hP
      have f11 : G11 ra = some (.inl (cA, 16, qv (fun _ => none))) := by rw [eG11]; exact va_up_self _ _ _
      have hxa : x ≠ ra := gw_neN f10 n_ra
      have f12 : G11 x = some (.inr (0, [.int (nI (c_w wa)), .int (nI (c_n na)), .null, .int 0, .null, .int 0, .int 0, .int 0, .int 0, .int 0])) := by rw [eG11]; exact gw_up f10 hxa
      refine gw_putF (D := D) (cl := vwCl) (ci := 0) (C := "StackRoom") (T := T_S) (N := 10) (v := .ref ra) (ty := .array (.object "StackRoom$Value")) hx hb ht in_S ty_S tk_S nm_S hown hK.1 hP hS f12 rfl 2 (by decide) (ht _ fl_S_S_registers) (fun _ h9 => h9) rfl hin rfl (by decide +kernel) rfl rfl (Nat.le_of_ble_eq_true rfl) d_S_init_55 (fun H locs hP hS => ?_)
      obtain ⟨G13, eG13⟩ : ∃ z : gw_G, z = va_up G11 x (some (.inr (0, [.int (nI (c_w wa)), .int (nI (c_n na)), .ref ra, .int 0, .null, .int 0, .int 0, .int 0, .int 0, .int 0]))) := ⟨_, rfl⟩
      replace hP : gw_P D vwCl (gw_A G s.heap.size) G13 H := by rw [eG13]; exact hP
      have f13 : G13 x = some (.inr (0, [.int (nI (c_w wa)), .int (nI (c_n na)), .ref ra, .int 0, .null, .int 0, .int 0, .int 0, .int 0, .int 0])) := by rw [eG13]; exact va_up_self _ _ _
      refine lv_aload_n hx hb d_S_init_58 rfl (lv_at hl 0 rfl) ?_
      refine lv_aload_n hx hb d_S_init_59 rfl (lv_at hl 0 rfl) ?_
      refine va_get (D := D) (ci := 0) (C := "StackRoom") (T := T_S) (N := 10) (v := .int (nI (c_n na))) hx hb ht in_S hown hK.1 (hP.one f13) 0 rfl rfl 1 (by decide) (ht _ fl_S_S_allEntries) (fun _ h9 => h9) rfl d_S_init_60 ?_
      have hn9 := c_n_in na
      refine gw_newq (C := "StackRoom$Thing") hx hb hown (ht _ cl_S_T) hK.2.2.2.1 hK.1 hP hS hA (n := nI (c_n na)) (N' := c_n na) (nI_pos (by omega)) (nI_clamp (by omega)) (by omega) (Nat.le_of_ble_eq_true rfl) (show 0 + 16 + c_n na ≤ 4112 by omega) d_S_init_63 (fun rt cB H hK2 hP n_rt hS => ?_)
      have hcB := k_arr hK.1 ht1 hK2
      subst hcB
      obtain ⟨G14, eG14⟩ : ∃ z : gw_G, z = va_up G13 rt (some (.inl (cB, c_n na, qv (fun _ => none)))) := ⟨_, rfl⟩
      replace hP : gw_P D vwCl (gw_A G s.heap.size) G14 H := by rw [eG14]; exact hP
      have f14 : G14 rt = some (.inl (cB, c_n na, qv (fun _ => none))) := by rw [eG14]; exact va_up_self _ _ _
      have hxb : x ≠ rt := gw_neN f13 n_rt
      have f15 : G14 x = some (.inr (0, [.int (nI (c_w wa)), .int (nI (c_n na)), .ref ra, .int 0, .null, .int 0, .int 0, .int 0, .int 0, .int 0])) := by rw [eG14]; exact gw_up f13 hxb
      refine gw_putF (D := D) (cl := vwCl) (ci := 0) (C := "StackRoom") (T := T_S) (N := 10) (v := .ref rt) (ty := .array (.object "StackRoom$Thing")) hx hb ht in_S ty_S tk_S nm_S hown hK.1 hP hS f15 rfl 4 (by decide) (ht _ fl_S_S_reached) (fun _ h9 => h9) rfl hin rfl (by decide +kernel) rfl rfl (Nat.le_of_ble_eq_true rfl) d_S_init_66 (fun H locs hP hS => ?_)
      obtain ⟨G16, eG16⟩ : ∃ z : gw_G, z = va_up G14 x (some (.inr (0, [.int (nI (c_w wa)), .int (nI (c_n na)), .ref ra, .int 0, .ref rt, .int 0, .int 0, .int 0, .int 0, .int 0]))) := ⟨_, rfl⟩
      replace hP : gw_P D vwCl (gw_A G s.heap.size) G16 H := by rw [eG16]; exact hP
      have f16 : G16 x = some (.inr (0, [.int (nI (c_w wa)), .int (nI (c_n na)), .ref ra, .int 0, .ref rt, .int 0, .int 0, .int 0, .int 0, .int 0])) := by rw [eG16]; exact va_up_self _ _ _
      refine lv_aload_n hx hb d_S_init_69 rfl (lv_at hl 0 rfl) ?_
      refine lv_iconst (v := 2) hx hb d_S_init_70 (by decide) ?_
      refine gw_put (D := D) (cl := vwCl) (ci := 0) (C := "StackRoom") (T := T_S) (N := 10) (v := .int 2) (ty := .int) hx hb ht in_S ty_S tk_S nm_S hown hK.1 hP hS f16 rfl 3 (by decide) (ht _ fl_S_S_made) (fun _ h9 => h9) rfl (by decide +kernel) rfl rfl (Nat.le_of_ble_eq_true rfl) d_S_init_71 (fun H locs hP hS => ?_)
      obtain ⟨G17, eG17⟩ : ∃ z : gw_G, z = va_up G16 x (some (.inr (0, [.int (nI (c_w wa)), .int (nI (c_n na)), .ref ra, .int 2, .ref rt, .int 0, .int 0, .int 0, .int 0, .int 0]))) := ⟨_, rfl⟩
      replace hP : gw_P D vwCl (gw_A G s.heap.size) G17 H := by rw [eG17]; exact hP
      have f17 : G17 x = some (.inr (0, [.int (nI (c_w wa)), .int (nI (c_n na)), .ref ra, .int 2, .ref rt, .int 0, .int 0, .int 0, .int 0, .int 0])) := by rw [eG17]; exact va_up_self _ _ _
      have hab : ra ≠ rt := gw_neN (show G13 ra = some (.inl (cA, 16, qv (fun _ => none))) by rw [eG13]; exact gw_up f11 (Ne.symm hxa)) n_rt
      have g1 : G17 ra = some (.inl (cA, 16, qv (fun _ => none))) := by rw [eG17, eG16, eG14, va_up_up, va_up_ne _ _ (Ne.symm hxa), va_up_ne _ _ hab, eG13]; exact gw_up f11 (Ne.symm hxa)
      have g2 : G17 rt = some (.inl (cB, c_n na, qv (fun _ => none))) := by rw [eG17, eG16, va_up_up, va_up_ne _ _ (Ne.symm hxb)]; exact f14
      refine W.widen (k := 2) (n := 4112) (by omega) (by omega) ?_
      exact W.vret hx hb hr (fun t ht hW => ⟨⟨G17, rfl, ⟨0, ra, rt, fun _ => 0, fun _ => 0, fun _ => 0, fun _ _ => none, fun _ => none, fun _ => none, 0, 0, 0, 0, Nat.le_refl _, f17, g1, g2, hab, fun j hj => rfl, fun j hj => absurd rfl hj, fun j hj => absurd hj (s_new_nc j), fun j hj => absurd hj (s_new_nc j), fun j j2 hj => absurd hj (s_new_nc j), fun j hj => absurd rfl hj⟩, g_fin ht hP⟩, hS.F ht⟩) hS.2.2 d_S_init_74
  · have hw0 : 128 ≤ wa ∧ wa ≤ 32768 := Decidable.byContradiction (fun h => c11 (eq11.trans (if_neg h)))
    refine lv_iload_n hx hb d_S_init_17 rfl (lv_at hl 1 rfl) ?_
    refine lv_goto (tgt := 23) hx hb d_S_init_18 (by decide) ?_
    refine W.eq (g2 := F0 m 23 ls [.int (nI (c_w wa)), .ref x]) (by rw [c_wI hw0]) ?_
    refine gw_putF (D := D) (cl := vwCl) (ci := 0) (C := "StackRoom") (T := T_S) (N := 10) (v := .int (nI (c_w wa))) (ty := .int) hx hb ht in_S ty_S tk_S nm_S hown hK.1 hP hS ha rfl 0 (by decide) (ht _ fl_S_S_allWords) (fun _ h9 => h9) rfl hin rfl (by decide +kernel) rfl rfl (Nat.le_of_ble_eq_true rfl) d_S_init_23 (fun H locs hP hS => ?_)
    obtain ⟨G18, eG18⟩ : ∃ z : gw_G, z = va_up G x (some (.inr (0, [.int (nI (c_w wa)), .int 0, .null, .int 0, .null, .int 0, .int 0, .int 0, .int 0, .int 0]))) := ⟨_, rfl⟩
    replace hP : gw_P D vwCl (gw_A G s.heap.size) G18 H := by rw [eG18]; exact hP
    have f18 : G18 x = some (.inr (0, [.int (nI (c_w wa)), .int 0, .null, .int 0, .null, .int 0, .int 0, .int 0, .int 0, .int 0])) := by rw [eG18]; exact va_up_self _ _ _
    refine lv_aload_n hx hb d_S_init_26 rfl (lv_at hl 0 rfl) ?_
    refine lv_iload_n hx hb d_S_init_27 rfl (lv_at hl 2 rfl) ?_
    refine lv_bipush (v := 16) hx hb d_S_init_28 (by decide) ?_
    refine lv_sipush (v := 4096) hx hb d_S_init_30 (by decide) ?_
    refine vp_callSi (va_Run.run (r_S (rest := [.ref x]) C0 [.int na, .int 16, .int 4096] (k_S_isWithin l na 16 4096) ml_S_S_isWithin st_S_isWithin ini_S co_S_isWithin hd_S_isWithin v_preS hl.1 d_S_init_33 rfl rfl (Nat.le_of_ble_eq_true rfl) ⟨rfl, rfl⟩ ⟨Nat.le_of_ble_eq_true rfl, Nat.le_of_ble_eq_true rfl⟩ ⟨Nat.le_of_ble_eq_true rfl, Nat.le_of_ble_eq_true rfl⟩)) (fun q33 eq33 => ?_)
    refine lv_if_eq (tgt := 43) hx hb d_S_init_36 (by decide) (fun c33 => ?_) (fun c33 => ?_)
    · have hn0 : ¬ (16 ≤ na ∧ na ≤ 4096) := fun h => absurd (eq33.symm.trans c33) (by rw [if_pos h]; decide)
      refine lv_sipush (v := 4096) hx hb d_S_init_43 (by decide) ?_
      refine W.eq (g2 := F0 m 46 ls [.int (nI (c_n na)), .ref x]) (by rw [c_n0 hn0]) ?_
      refine gw_putF (D := D) (cl := vwCl) (ci := 0) (C := "StackRoom") (T := T_S) (N := 10) (v := .int (nI (c_n na))) (ty := .int) hx hb ht in_S ty_S tk_S nm_S hown hK.1 hP hS f18 rfl 1 (by decide) (ht _ fl_S_S_allEntries) (fun _ h9 => h9) rfl hin rfl (by decide +kernel) rfl rfl (Nat.le_of_ble_eq_true rfl) d_S_init_46 (fun H locs hP hS => ?_)
      obtain ⟨G19, eG19⟩ : ∃ z : gw_G, z = va_up G18 x (some (.inr (0, [.int (nI (c_w wa)), .int (nI (c_n na)), .null, .int 0, .null, .int 0, .int 0, .int 0, .int 0, .int 0]))) := ⟨_, rfl⟩
      replace hP : gw_P D vwCl (gw_A G s.heap.size) G19 H := by rw [eG19]; exact hP
      have f19 : G19 x = some (.inr (0, [.int (nI (c_w wa)), .int (nI (c_n na)), .null, .int 0, .null, .int 0, .int 0, .int 0, .int 0, .int 0])) := by rw [eG19]; exact va_up_self _ _ _
      refine lv_aload_n hx hb d_S_init_49 rfl (lv_at hl 0 rfl) ?_
      refine lv_bipush (v := 16) hx hb d_S_init_50 (by decide) ?_
      refine gw_newq (C := "StackRoom$Value") hx hb hown (ht _ cl_S_V) hK.2.2.1 hK.1 hP hS hA (n := 16) (N' := 16) (by decide) (by decide) (by decide) (Nat.le_of_ble_eq_true rfl) (Nat.le_of_ble_eq_true rfl) d_S_init_52 (fun ra cA H hK1 hP n_ra hS => ?_)
      have hcA := k_arr hK.1 ht0 hK1
      subst hcA
      obtain ⟨G20, eG20⟩ : ∃ z : gw_G, z = va_up G19 ra (some (.inl (cA, 16, qv (fun _ => none)))) := ⟨_, rfl⟩
      replace hP : gw_P D vwCl (gw_A G s.heap.size) G20 H := by rw [eG20]; exact hP
      have f20 : G20 ra = some (.inl (cA, 16, qv (fun _ => none))) := by rw [eG20]; exact va_up_self _ _ _
      have hxa : x ≠ ra := gw_neN f19 n_ra
      have f21 : G20 x = some (.inr (0, [.int (nI (c_w wa)), .int (nI (c_n na)), .null, .int 0, .null, .int 0, .int 0, .int 0, .int 0, .int 0])) := by rw [eG20]; exact gw_up f19 hxa
      refine gw_putF (D := D) (cl := vwCl) (ci := 0) (C := "StackRoom") (T := T_S) (N := 10) (v := .ref ra) (ty := .array (.object "StackRoom$Value")) hx hb ht in_S ty_S tk_S nm_S hown hK.1 hP hS f21 rfl 2 (by decide) (ht _ fl_S_S_registers) (fun _ h9 => h9) rfl hin rfl (by decide +kernel) rfl rfl (Nat.le_of_ble_eq_true rfl) d_S_init_55 (fun H locs hP hS => ?_)
      obtain ⟨G22, eG22⟩ : ∃ z : gw_G, z = va_up G20 x (some (.inr (0, [.int (nI (c_w wa)), .int (nI (c_n na)), .ref ra, .int 0, .null, .int 0, .int 0, .int 0, .int 0, .int 0]))) := ⟨_, rfl⟩
      replace hP : gw_P D vwCl (gw_A G s.heap.size) G22 H := by rw [eG22]; exact hP
      have f22 : G22 x = some (.inr (0, [.int (nI (c_w wa)), .int (nI (c_n na)), .ref ra, .int 0, .null, .int 0, .int 0, .int 0, .int 0, .int 0])) := by rw [eG22]; exact va_up_self _ _ _
      refine lv_aload_n hx hb d_S_init_58 rfl (lv_at hl 0 rfl) ?_
      refine lv_aload_n hx hb d_S_init_59 rfl (lv_at hl 0 rfl) ?_
      refine va_get (D := D) (ci := 0) (C := "StackRoom") (T := T_S) (N := 10) (v := .int (nI (c_n na))) hx hb ht in_S hown hK.1 (hP.one f22) 0 rfl rfl 1 (by decide) (ht _ fl_S_S_allEntries) (fun _ h9 => h9) rfl d_S_init_60 ?_
      have hn9 := c_n_in na
      refine gw_newq (C := "StackRoom$Thing") hx hb hown (ht _ cl_S_T) hK.2.2.2.1 hK.1 hP hS hA (n := nI (c_n na)) (N' := c_n na) (nI_pos (by omega)) (nI_clamp (by omega)) (by omega) (Nat.le_of_ble_eq_true rfl) (show 0 + 16 + c_n na ≤ 4112 by omega) d_S_init_63 (fun rt cB H hK2 hP n_rt hS => ?_)
      have hcB := k_arr hK.1 ht1 hK2
      subst hcB
      obtain ⟨G23, eG23⟩ : ∃ z : gw_G, z = va_up G22 rt (some (.inl (cB, c_n na, qv (fun _ => none)))) := ⟨_, rfl⟩
      replace hP : gw_P D vwCl (gw_A G s.heap.size) G23 H := by rw [eG23]; exact hP
      have f23 : G23 rt = some (.inl (cB, c_n na, qv (fun _ => none))) := by rw [eG23]; exact va_up_self _ _ _
      have hxb : x ≠ rt := gw_neN f22 n_rt
      have f24 : G23 x = some (.inr (0, [.int (nI (c_w wa)), .int (nI (c_n na)), .ref ra, .int 0, .null, .int 0, .int 0, .int 0, .int 0, .int 0])) := by rw [eG23]; exact gw_up f22 hxb
      refine gw_putF (D := D) (cl := vwCl) (ci := 0) (C := "StackRoom") (T := T_S) (N := 10) (v := .ref rt) (ty := .array (.object "StackRoom$Thing")) hx hb ht in_S ty_S tk_S nm_S hown hK.1 hP hS f24 rfl 4 (by decide) (ht _ fl_S_S_reached) (fun _ h9 => h9) rfl hin rfl (by decide +kernel) rfl rfl (Nat.le_of_ble_eq_true rfl) d_S_init_66 (fun H locs hP hS => ?_)
      obtain ⟨G25, eG25⟩ : ∃ z : gw_G, z = va_up G23 x (some (.inr (0, [.int (nI (c_w wa)), .int (nI (c_n na)), .ref ra, .int 0, .ref rt, .int 0, .int 0, .int 0, .int 0, .int 0]))) := ⟨_, rfl⟩
      replace hP : gw_P D vwCl (gw_A G s.heap.size) G25 H := by rw [eG25]; exact hP
      have f25 : G25 x = some (.inr (0, [.int (nI (c_w wa)), .int (nI (c_n na)), .ref ra, .int 0, .ref rt, .int 0, .int 0, .int 0, .int 0, .int 0])) := by rw [eG25]; exact va_up_self _ _ _
      refine lv_aload_n hx hb d_S_init_69 rfl (lv_at hl 0 rfl) ?_
      refine lv_iconst (v := 2) hx hb d_S_init_70 (by decide) ?_
      refine gw_put (D := D) (cl := vwCl) (ci := 0) (C := "StackRoom") (T := T_S) (N := 10) (v := .int 2) (ty := .int) hx hb ht in_S ty_S tk_S nm_S hown hK.1 hP hS f25 rfl 3 (by decide) (ht _ fl_S_S_made) (fun _ h9 => h9) rfl (by decide +kernel) rfl rfl (Nat.le_of_ble_eq_true rfl) d_S_init_71 (fun H locs hP hS => ?_)
      obtain ⟨G26, eG26⟩ : ∃ z : gw_G, z = va_up G25 x (some (.inr (0, [.int (nI (c_w wa)), .int (nI (c_n na)), .ref ra, .int 2, .ref rt, .int 0, .int 0, .int 0, .int 0, .int 0]))) := ⟨_, rfl⟩
      replace hP : gw_P D vwCl (gw_A G s.heap.size) G26 H := by rw [eG26]; exact hP
      have f26 : G26 x = some (.inr (0, [.int (nI (c_w wa)), .int (nI (c_n na)), .ref ra, .int 2, .ref rt, .int 0, .int 0, .int 0, .int 0, .int 0])) := by rw [eG26]; exact va_up_self _ _ _
      have hab : ra ≠ rt := gw_neN (show G22 ra = some (.inl (cA, 16, qv (fun _ => none))) by rw [eG22]; exact gw_up f20 (Ne.symm hxa)) n_rt
      have g1 : G26 ra = some (.inl (cA, 16, qv (fun _ => none))) := by rw [eG26, eG25, eG23, va_up_up, va_up_ne _ _ (Ne.symm hxa), va_up_ne _ _ hab, eG22]; exact gw_up f20 (Ne.symm hxa)
      have g2 : G26 rt = some (.inl (cB, c_n na, qv (fun _ => none))) := by rw [eG26, eG25, va_up_up, va_up_ne _ _ (Ne.symm hxb)]; exact f23
      refine W.widen (k := 2) (n := 4112) (by omega) (by omega) ?_
      exact W.vret hx hb hr (fun t ht hW => ⟨⟨G26, rfl, ⟨0, ra, rt, fun _ => 0, fun _ => 0, fun _ => 0, fun _ _ => none, fun _ => none, fun _ => none, 0, 0, 0, 0, Nat.le_refl _, f26, g1, g2, hab, fun j hj => rfl, fun j hj => absurd rfl hj, fun j hj => absurd hj (s_new_nc j), fun j hj => absurd hj (s_new_nc j), fun j j2 hj => absurd hj (s_new_nc j), fun j hj => absurd rfl hj⟩, g_fin ht hP⟩, hS.F ht⟩) hS.2.2 d_S_init_74
    · have hn0 : 16 ≤ na ∧ na ≤ 4096 := Decidable.byContradiction (fun h => c33 (eq33.trans (if_neg h)))
      refine lv_iload_n hx hb d_S_init_39 rfl (lv_at hl 2 rfl) ?_
      refine lv_goto (tgt := 46) hx hb d_S_init_40 (by decide) ?_
      refine W.eq (g2 := F0 m 46 ls [.int (nI (c_n na)), .ref x]) (by rw [c_nI hn0]) ?_
      refine gw_putF (D := D) (cl := vwCl) (ci := 0) (C := "StackRoom") (T := T_S) (N := 10) (v := .int (nI (c_n na))) (ty := .int) hx hb ht in_S ty_S tk_S nm_S hown hK.1 hP hS f18 rfl 1 (by decide) (ht _ fl_S_S_allEntries) (fun _ h9 => h9) rfl hin rfl (by decide +kernel) rfl rfl (Nat.le_of_ble_eq_true rfl) d_S_init_46 (fun H locs hP hS => ?_)
      obtain ⟨G27, eG27⟩ : ∃ z : gw_G, z = va_up G18 x (some (.inr (0, [.int (nI (c_w wa)), .int (nI (c_n na)), .null, .int 0, .null, .int 0, .int 0, .int 0, .int 0, .int 0]))) := ⟨_, rfl⟩
      replace hP : gw_P D vwCl (gw_A G s.heap.size) G27 H := by rw [eG27]; exact hP
      have f27 : G27 x = some (.inr (0, [.int (nI (c_w wa)), .int (nI (c_n na)), .null, .int 0, .null, .int 0, .int 0, .int 0, .int 0, .int 0])) := by rw [eG27]; exact va_up_self _ _ _
      refine lv_aload_n hx hb d_S_init_49 rfl (lv_at hl 0 rfl) ?_
      refine lv_bipush (v := 16) hx hb d_S_init_50 (by decide) ?_
      refine gw_newq (C := "StackRoom$Value") hx hb hown (ht _ cl_S_V) hK.2.2.1 hK.1 hP hS hA (n := 16) (N' := 16) (by decide) (by decide) (by decide) (Nat.le_of_ble_eq_true rfl) (Nat.le_of_ble_eq_true rfl) d_S_init_52 (fun ra cA H hK1 hP n_ra hS => ?_)
      have hcA := k_arr hK.1 ht0 hK1
      subst hcA
      obtain ⟨G28, eG28⟩ : ∃ z : gw_G, z = va_up G27 ra (some (.inl (cA, 16, qv (fun _ => none)))) := ⟨_, rfl⟩
      replace hP : gw_P D vwCl (gw_A G s.heap.size) G28 H := by rw [eG28]; exact hP
      have f28 : G28 ra = some (.inl (cA, 16, qv (fun _ => none))) := by rw [eG28]; exact va_up_self _ _ _
      have hxa : x ≠ ra := gw_neN f27 n_ra
      have f29 : G28 x = some (.inr (0, [.int (nI (c_w wa)), .int (nI (c_n na)), .null, .int 0, .null, .int 0, .int 0, .int 0, .int 0, .int 0])) := by rw [eG28]; exact gw_up f27 hxa
      refine gw_putF (D := D) (cl := vwCl) (ci := 0) (C := "StackRoom") (T := T_S) (N := 10) (v := .ref ra) (ty := .array (.object "StackRoom$Value")) hx hb ht in_S ty_S tk_S nm_S hown hK.1 hP hS f29 rfl 2 (by decide) (ht _ fl_S_S_registers) (fun _ h9 => h9) rfl hin rfl (by decide +kernel) rfl rfl (Nat.le_of_ble_eq_true rfl) d_S_init_55 (fun H locs hP hS => ?_)
      obtain ⟨G30, eG30⟩ : ∃ z : gw_G, z = va_up G28 x (some (.inr (0, [.int (nI (c_w wa)), .int (nI (c_n na)), .ref ra, .int 0, .null, .int 0, .int 0, .int 0, .int 0, .int 0]))) := ⟨_, rfl⟩
      replace hP : gw_P D vwCl (gw_A G s.heap.size) G30 H := by rw [eG30]; exact hP
      have f30 : G30 x = some (.inr (0, [.int (nI (c_w wa)), .int (nI (c_n na)), .ref ra, .int 0, .null, .int 0, .int 0, .int 0, .int 0, .int 0])) := by rw [eG30]; exact va_up_self _ _ _
      refine lv_aload_n hx hb d_S_init_58 rfl (lv_at hl 0 rfl) ?_
      refine lv_aload_n hx hb d_S_init_59 rfl (lv_at hl 0 rfl) ?_
      refine va_get (D := D) (ci := 0) (C := "StackRoom") (T := T_S) (N := 10) (v := .int (nI (c_n na))) hx hb ht in_S hown hK.1 (hP.one f30) 0 rfl rfl 1 (by decide) (ht _ fl_S_S_allEntries) (fun _ h9 => h9) rfl d_S_init_60 ?_
      have hn9 := c_n_in na
      refine gw_newq (C := "StackRoom$Thing") hx hb hown (ht _ cl_S_T) hK.2.2.2.1 hK.1 hP hS hA (n := nI (c_n na)) (N' := c_n na) (nI_pos (by omega)) (nI_clamp (by omega)) (by omega) (Nat.le_of_ble_eq_true rfl) (show 0 + 16 + c_n na ≤ 4112 by omega) d_S_init_63 (fun rt cB H hK2 hP n_rt hS => ?_)
      have hcB := k_arr hK.1 ht1 hK2
      subst hcB
      obtain ⟨G31, eG31⟩ : ∃ z : gw_G, z = va_up G30 rt (some (.inl (cB, c_n na, qv (fun _ => none)))) := ⟨_, rfl⟩
      replace hP : gw_P D vwCl (gw_A G s.heap.size) G31 H := by rw [eG31]; exact hP
      have f31 : G31 rt = some (.inl (cB, c_n na, qv (fun _ => none))) := by rw [eG31]; exact va_up_self _ _ _
      have hxb : x ≠ rt := gw_neN f30 n_rt
      have f32 : G31 x = some (.inr (0, [.int (nI (c_w wa)), .int (nI (c_n na)), .ref ra, .int 0, .null, .int 0, .int 0, .int 0, .int 0, .int 0])) := by rw [eG31]; exact gw_up f30 hxb
      refine gw_putF (D := D) (cl := vwCl) (ci := 0) (C := "StackRoom") (T := T_S) (N := 10) (v := .ref rt) (ty := .array (.object "StackRoom$Thing")) hx hb ht in_S ty_S tk_S nm_S hown hK.1 hP hS f32 rfl 4 (by decide) (ht _ fl_S_S_reached) (fun _ h9 => h9) rfl hin rfl (by decide +kernel) rfl rfl (Nat.le_of_ble_eq_true rfl) d_S_init_66 (fun H locs hP hS => ?_)
      obtain ⟨G33, eG33⟩ : ∃ z : gw_G, z = va_up G31 x (some (.inr (0, [.int (nI (c_w wa)), .int (nI (c_n na)), .ref ra, .int 0, .ref rt, .int 0, .int 0, .int 0, .int 0, .int 0]))) := ⟨_, rfl⟩
      replace hP : gw_P D vwCl (gw_A G s.heap.size) G33 H := by rw [eG33]; exact hP
      have f33 : G33 x = some (.inr (0, [.int (nI (c_w wa)), .int (nI (c_n na)), .ref ra, .int 0, .ref rt, .int 0, .int 0, .int 0, .int 0, .int 0])) := by rw [eG33]; exact va_up_self _ _ _
      refine lv_aload_n hx hb d_S_init_69 rfl (lv_at hl 0 rfl) ?_
      refine lv_iconst (v := 2) hx hb d_S_init_70 (by decide) ?_
      refine gw_put (D := D) (cl := vwCl) (ci := 0) (C := "StackRoom") (T := T_S) (N := 10) (v := .int 2) (ty := .int) hx hb ht in_S ty_S tk_S nm_S hown hK.1 hP hS f33 rfl 3 (by decide) (ht _ fl_S_S_made) (fun _ h9 => h9) rfl (by decide +kernel) rfl rfl (Nat.le_of_ble_eq_true rfl) d_S_init_71 (fun H locs hP hS => ?_)
      obtain ⟨G34, eG34⟩ : ∃ z : gw_G, z = va_up G33 x (some (.inr (0, [.int (nI (c_w wa)), .int (nI (c_n na)), .ref ra, .int 2, .ref rt, .int 0, .int 0, .int 0, .int 0, .int 0]))) := ⟨_, rfl⟩
      replace hP : gw_P D vwCl (gw_A G s.heap.size) G34 H := by rw [eG34]; exact hP
      have f34 : G34 x = some (.inr (0, [.int (nI (c_w wa)), .int (nI (c_n na)), .ref ra, .int 2, .ref rt, .int 0, .int 0, .int 0, .int 0, .int 0])) := by rw [eG34]; exact va_up_self _ _ _
      have hab : ra ≠ rt := gw_neN (show G30 ra = some (.inl (cA, 16, qv (fun _ => none))) by rw [eG30]; exact gw_up f28 (Ne.symm hxa)) n_rt
      have g1 : G34 ra = some (.inl (cA, 16, qv (fun _ => none))) := by rw [eG34, eG33, eG31, va_up_up, va_up_ne _ _ (Ne.symm hxa), va_up_ne _ _ hab, eG30]; exact gw_up f28 (Ne.symm hxa)
      have g2 : G34 rt = some (.inl (cB, c_n na, qv (fun _ => none))) := by rw [eG34, eG33, va_up_up, va_up_ne _ _ (Ne.symm hxb)]; exact f31
      refine W.widen (k := 2) (n := 4112) (by omega) (by omega) ?_
      exact W.vret hx hb hr (fun t ht hW => ⟨⟨G34, rfl, ⟨0, ra, rt, fun _ => 0, fun _ => 0, fun _ => 0, fun _ _ => none, fun _ => none, fun _ => none, 0, 0, 0, 0, Nat.le_refl _, f34, g1, g2, hab, fun j hj => rfl, fun j hj => absurd rfl hj, fun j hj => absurd hj (s_new_nc j), fun j hj => absurd hj (s_new_nc j), fun j j2 hj => absurd hj (s_new_nc j), fun j hj => absurd rfl hj⟩, g_fin ht hP⟩, hS.F ht⟩) hS.2.2 d_S_init_74
end K21
