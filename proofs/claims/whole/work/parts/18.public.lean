/-- the class's cells hold the state σ; at most k surveys were made -/
def c_R (w n k : Nat) (cV cT : ClassId) (σ : sS) (x : Nat) (G : gw_G) : Prop :=
  ∃ (rd ra rt : Nat) (ad fa : Nat → Nat) (ρ : Nat → Int32) (fr : Nat → Nat → Option Nat) (rr rf : Nat → Option Nat) (rc wl el cr : Int32), rd ≤ k ∧ c_Rep w n rd (s_md σ) cV cT σ x ra rt ad fa ρ fr rr rf rc wl el cr G
theorem c_R.up {w n k : Nat} {cV cT : ClassId} {σ : sS} {x : Nat} {G : gw_G} (h : c_R w n k cV cT σ x G) : c_R w n (k + 1) cV cT σ x G := by
  obtain ⟨rd, ra, rt, ad, fa, ρ, fr, rr, rf, rc, wl, el, cr, hrd, hR⟩ := h
  exact ⟨rd, ra, rt, ad, fa, ρ, fr, rr, rf, rc, wl, el, cr, by omega, hR⟩
theorem s_clampI {v : Int32} (h : 0 ≤ v) : nI v.toNatClampNeg = v := by
  obtain ⟨j, hj, rfl⟩ := nI_of (x := v) (fun q => absurd h (Int32.not_le.mpr q))
  rw [nI_clamp hj]
section K18
variable {w n k : Nat} {cV cT : ClassId} {σ : sS} {x : Nat} {G : gw_G} {D : va_G} {tys : List (ClassId × FieldType)} {sz : Nat}
set_option maxHeartbeats 4000000 in
set_option maxRecDepth 100000 in
theorem k_S_number (l : Launch) (hR0 : c_R w n k cV cT σ x G) (hO : s_OK w n σ) (hw : 128 ≤ w ∧ w ≤ 32768) (hn : 16 ≤ n ∧ n ≤ 4096) (hm : s_md σ + 2 < 2 ^ 31) (hk : k + 1 < 2 ^ 31) (ht0 : tys[0]? = some (cV, .object "StackRoom$Value")) (ht1 : tys[1]? = some (cT, .object "StackRoom$Thing")) (r v : Int32) : Met l y_S_number w_S_number ({ frames := 3, cells := 1, slots := 1, locals := 61 }) (g_pre D tys G sz [.ref x, .int r, .int v]) (va_Qi (fun (rz : Int32) (G1 : gw_G) => rz = (p_number σ r v).1 ∧ c_R w n (k + 1) cV cT (p_number σ r v).2 x G1) (g_end D G sz) (gw_A G sz)) 1 1 (gw_A G sz) := by
  refine Met.ofW (cc := b_S_number) (maxL := 3) (ret := (some .boolean)) (by decide) rfl ?_
  intro p e s m args below meth c s₁ B hml hv
  obtain ⟨rfl, hsz, hP, hK⟩ := hv
  have hx := B.exec
  have hb := B.bytes
  have hr := B.returns
  have ht := fun w (hw : w ∈ gt) => atoms_spec (ws := w_S_number) B.pre w (List.mem_cons_of_mem _ hw)
  have hown : s.vm.findClass "StackRoom" = some m.cls := findClass_of_methodNamed B.named
  have hlocks := B.notSynchronized
  have C0 : CallFix p m c b_S_number 3 s [.ref x, .int r, .int v].toArray gt "StackRoom" := ⟨hx, hb, hml, hown, ht⟩
  subst hsz
  have hP := hP.self (sz := s.heap.size)
  have hA : ∀ q : Nat, s.heap.size ≤ q → gw_A G s.heap.size q := fun q h => Or.inr h
  have hS : va_S (gw_A G s.heap.size) s.heap s.heap [] := va_S.rf
  have hl := lv_entry ([.ref x, .int r, .int v]) (n := 3) (Nat.le_of_ble_eq_true rfl)
  rw [lg_entry_eq]
  generalize (lg_sl ([.ref x, .int r, .int v]) ++ List.replicate (3 - (lg_sl ([.ref x, .int r, .int v])).length) Slot.unset).toArray = ls at hl ⊢
  have hl : lv_has ls 3 [(0, .ref x), (1, .int r), (2, .int v)] := hl
  obtain ⟨rd, ra, rt, ad, fa, ρ, fr, rr, rf, rc, wl, el, cr, hrd, hR⟩ := hR0
  refine lv_iload_n hx hb d_S_number_0 rfl (lv_at hl 1 rfl) ?_
  refine vp_callSi (va_Run.run (r_S (rest := []) C0 [.int r] (k_S_isRegister l r) ml_S_S_isRegister st_S_isRegister ini_S co_S_isRegister hd_S_isRegister v_preS hl.1 d_S_number_1 rfl rfl (Nat.le_of_ble_eq_true rfl) ⟨rfl, rfl⟩ ⟨Nat.le_of_ble_eq_true rfl, Nat.le_of_ble_eq_true rfl⟩ ⟨Nat.le_of_ble_eq_true rfl, Nat.le_of_ble_eq_true rfl⟩)) (fun q1 eq1 => ?_)
  refine lv_if_eq (tgt := 14) hx hb d_S_number_4 (by decide) (fun c1 => ?_) (fun c1 => ?_)
  · have hreg : ¬ (0 ≤ r ∧ r ≤ 15) := fun h => absurd (eq1.symm.trans c1) (by rw [if_pos h]; decide)
    refine W.widen (k := 1) (n := 1) (by omega) (by omega) ?_
    refine lv_iconst (v := 0) hx hb d_S_number_14 (by decide) ?_
    exact W.zret (v := 0) hx hb hr rfl (fun t ht hW => ⟨⟨_, G, rfl, (by rw [show p_number σ r v = (0, σ) from (by unfold p_number; rw [if_neg (fun z => hreg z.1)])]; exact ⟨rfl, c_R.up ⟨rd, ra, rt, ad, fa, ρ, fr, rr, rf, rc, wl, el, cr, hrd, hR⟩⟩), g_fin ht hP⟩, hS.F ht⟩) hS.2.2 d_S_number_15
  · have hreg : 0 ≤ r ∧ r ≤ 15 := Decidable.byContradiction (fun h => c1 (eq1.trans (if_neg h)))
    refine lv_iload_n hx hb d_S_number_7 rfl (lv_at hl 2 rfl) ?_
    refine vp_callSi (va_Run.run (r_S (rest := []) C0 [.int v] (k_S_isNumber l v) ml_S_S_isNumber st_S_isNumber ini_S co_S_isNumber hd_S_isNumber v_preS hl.1 d_S_number_8 rfl rfl (Nat.le_of_ble_eq_true rfl) ⟨rfl, rfl⟩ ⟨Nat.le_of_ble_eq_true rfl, Nat.le_of_ble_eq_true rfl⟩ ⟨Nat.le_of_ble_eq_true rfl, Nat.le_of_ble_eq_true rfl⟩)) (fun q8 eq8 => ?_)
    refine lv_if_ne (tgt := 16) hx hb d_S_number_11 (by decide) (fun c8 => ?_) (fun c8 => ?_)
    · have hnum : -1073741824 ≤ v ∧ v ≤ 1073741823 := Decidable.byContradiction (fun h => c8 (eq8.trans (if_neg h)))
      refine lv_aload_n hx hb d_S_number_16 rfl (lv_at hl 0 rfl) ?_
      refine va_get (D := D) (ci := 0) (C := "StackRoom") (T := T_S) (N := 10) (v := .ref ra) hx hb ht in_S hown hK.1 (hP.one hR.1) 0 rfl rfl 2 (by decide) (ht _ fl_S_S_registers) (fun _ h9 => h9) rfl d_S_number_17 ?_
      refine lv_iload_n hx hb d_S_number_20 rfl (lv_at hl 1 rfl) ?_
      refine gw_new (D := D) (cl := vwCl) (ci := 1) (fs := [.int 0]) (C := "StackRoom$Whole") (T := T_W) (N := 1) hx hb ht in_W ty_W tk_W hown (ht _ cl_S_W) (ht _ is_W) (ht _ ini_W) hK.1 hP hS hA rfl (fun j hj => by rcases (show j = 0 by omega) with rfl <;> rfl) (Nat.le_of_ble_eq_true rfl) (Nat.le_of_ble_eq_true rfl) d_S_number_21 (fun a H hP n_a hS => ?_)
      obtain ⟨G1, eG1⟩ : ∃ z : gw_G, z = va_up G a (some (.inr (1, [.int 0]))) := ⟨_, rfl⟩
      replace hP : gw_P D vwCl (gw_A G s.heap.size) G1 H := by rw [eG1]; exact hP
      have f1 : G1 a = some (.inr (1, [.int 0])) := by rw [eG1]; exact va_up_self _ _ _
      refine lv_dup hx hb d_S_number_24 rfl ?_
      refine lv_iload_n hx hb d_S_number_25 rfl (lv_at hl 2 rfl) ?_
      refine g_callv hP hS hA (r_I (rest := [.ref a, .int r, .ref ra]) C0 [.int v] (k_W_init l f1 v) ml_S_W_init im_W_init ini_W co_W_init rfl hd_W_init (g_preS hK hP) hl.1 d_S_number_26 rfl rfl (Nat.le_of_ble_eq_true rfl) ⟨rfl, rfl⟩ ⟨Nat.le_of_ble_eq_true rfl, Nat.le_of_ble_eq_true rfl⟩ ⟨Nat.le_of_ble_eq_true rfl, Nat.le_of_ble_eq_true rfl⟩) (fun G8 H locs eG8 hP hS hz9 hk9 => ?_)
      have e7 : G8 = va_up G a (some (.inr (kW, [.int v]))) := by rw [eG8, eG1, va_up_up]
      have hR8 := hR.fresh (e := some (.inr (kW, [.int v]))) n_a
      rw [← e7] at hR8
      have fa8 : G8 a = some (.inr (kW, [.int v])) := by rw [e7]; exact va_up_self _ _ _
      refine gw_astqO (v := some a) hx hb hK.1 hP hS 0 hR8.2.1 ht0 (fun y hy => c_any hK hP (⟨_, _, (by cases hy; exact fa8), Or.inl rfl⟩)) (s_rin hreg) d_S_number_29 (fun H locs hP hS => ?_)
      obtain ⟨G2, eG2⟩ : ∃ z : gw_G, z = va_up G8 ra (some (.inl (cV, 16, qv (va_up rr r.toNatClampNeg (some a))))) := ⟨_, rfl⟩
      replace hP : gw_P D vwCl (gw_A G s.heap.size) G2 H := by rw [eG2]; exact hP
      have hR9 := hR8.reg (k := r.toNatClampNeg) (v := some (.inl v)) (r := some a) ⟨a, rfl, fa8⟩
      rw [← eG2] at hR9
      refine W.widen (k := 1) (n := 1) (by omega) (by omega) ?_
      refine lv_iconst (v := 1) hx hb d_S_number_30 (by decide) ?_
      exact W.zret (v := 1) hx hb hr rfl (fun t ht hW => ⟨⟨_, G2, rfl, (by rw [show p_number σ r v = (1, s_put σ r (some (.inl v))) from if_pos ⟨hreg, hnum⟩]; exact ⟨rfl, ⟨_, ra, rt, ad, fa, ρ, fr, _, rf, rc, wl, el, cr, by omega, hR9⟩⟩), g_fin ht hP⟩, hS.F ht⟩) hS.2.2 d_S_number_31
    · have hnum : ¬ (-1073741824 ≤ v ∧ v ≤ 1073741823) := fun h => absurd (eq8.symm.trans c8) (by rw [if_pos h]; decide)
      refine W.widen (k := 1) (n := 1) (by omega) (by omega) ?_
      refine lv_iconst (v := 0) hx hb d_S_number_14 (by decide) ?_
      exact W.zret (v := 0) hx hb hr rfl (fun t ht hW => ⟨⟨_, G, rfl, (by rw [show p_number σ r v = (0, σ) from (by unfold p_number; rw [if_neg (fun z => hnum z.2)])]; exact ⟨rfl, c_R.up ⟨rd, ra, rt, ad, fa, ρ, fr, rr, rf, rc, wl, el, cr, hrd, hR⟩⟩), g_fin ht hP⟩, hS.F ht⟩) hS.2.2 d_S_number_15
set_option maxHeartbeats 4000000 in
set_option maxRecDepth 100000 in
theorem k_S_move (l : Launch) (hR0 : c_R w n k cV cT σ x G) (hO : s_OK w n σ) (hw : 128 ≤ w ∧ w ≤ 32768) (hn : 16 ≤ n ∧ n ≤ 4096) (hm : s_md σ + 2 < 2 ^ 31) (hk : k + 1 < 2 ^ 31) (ht0 : tys[0]? = some (cV, .object "StackRoom$Value")) (ht1 : tys[1]? = some (cT, .object "StackRoom$Thing")) (r f : Int32) : Met l y_S_move w_S_move ({ frames := 2, cells := 0, slots := 0, locals := 42 }) (g_pre D tys G sz [.ref x, .int r, .int f]) (va_Qi (fun (rz : Int32) (G1 : gw_G) => rz = (p_move σ r f).1 ∧ c_R w n (k + 1) cV cT (p_move σ r f).2 x G1) (g_end D G sz) (gw_A G sz)) 0 0 (gw_A G sz) := by
  refine Met.ofW (cc := b_S_move) (maxL := 3) (ret := (some .boolean)) (by decide) rfl ?_
  intro p e s m args below meth c s₁ B hml hv
  obtain ⟨rfl, hsz, hP, hK⟩ := hv
  have hx := B.exec
  have hb := B.bytes
  have hr := B.returns
  have ht := fun w (hw : w ∈ gt) => atoms_spec (ws := w_S_move) B.pre w (List.mem_cons_of_mem _ hw)
  have hown : s.vm.findClass "StackRoom" = some m.cls := findClass_of_methodNamed B.named
  have hlocks := B.notSynchronized
  have C0 : CallFix p m c b_S_move 3 s [.ref x, .int r, .int f].toArray gt "StackRoom" := ⟨hx, hb, hml, hown, ht⟩
  subst hsz
  have hP := hP.self (sz := s.heap.size)
  have hA : ∀ q : Nat, s.heap.size ≤ q → gw_A G s.heap.size q := fun q h => Or.inr h
  have hS : va_S (gw_A G s.heap.size) s.heap s.heap [] := va_S.rf
  have hl := lv_entry ([.ref x, .int r, .int f]) (n := 3) (Nat.le_of_ble_eq_true rfl)
  rw [lg_entry_eq]
  generalize (lg_sl ([.ref x, .int r, .int f]) ++ List.replicate (3 - (lg_sl ([.ref x, .int r, .int f])).length) Slot.unset).toArray = ls at hl ⊢
  have hl : lv_has ls 3 [(0, .ref x), (1, .int r), (2, .int f)] := hl
  obtain ⟨rd, ra, rt, ad, fa, ρ, fr, rr, rf, rc, wl, el, cr, hrd, hR⟩ := hR0
  refine lv_iload_n hx hb d_S_move_0 rfl (lv_at hl 1 rfl) ?_
  refine vp_callSi (va_Run.run (r_S (rest := []) C0 [.int r] (k_S_isRegister l r) ml_S_S_isRegister st_S_isRegister ini_S co_S_isRegister hd_S_isRegister v_preS hl.1 d_S_move_1 rfl rfl (Nat.le_of_ble_eq_true rfl) ⟨rfl, rfl⟩ ⟨Nat.le_of_ble_eq_true rfl, Nat.le_of_ble_eq_true rfl⟩ ⟨Nat.le_of_ble_eq_true rfl, Nat.le_of_ble_eq_true rfl⟩)) (fun q1 eq1 => ?_)
  refine lv_if_eq (tgt := 14) hx hb d_S_move_4 (by decide) (fun c1 => ?_) (fun c1 => ?_)
  · have hreg : ¬ (0 ≤ r ∧ r ≤ 15) := fun h => absurd (eq1.symm.trans c1) (by rw [if_pos h]; decide)
    refine lv_iconst (v := 0) hx hb d_S_move_14 (by decide) ?_
    exact W.zret (v := 0) hx hb hr rfl (fun t ht hW => ⟨⟨_, G, rfl, (by rw [show p_move σ r f = (0, σ) from (by unfold p_move; rw [if_neg (fun z => hreg z.1)])]; exact ⟨rfl, c_R.up ⟨rd, ra, rt, ad, fa, ρ, fr, rr, rf, rc, wl, el, cr, hrd, hR⟩⟩), g_fin ht hP⟩, hS.F ht⟩) hS.2.2 d_S_move_15
  · have hreg : 0 ≤ r ∧ r ≤ 15 := Decidable.byContradiction (fun h => c1 (eq1.trans (if_neg h)))
    refine lv_iload_n hx hb d_S_move_7 rfl (lv_at hl 2 rfl) ?_
    refine vp_callSi (va_Run.run (r_S (rest := []) C0 [.int f] (k_S_isRegister l f) ml_S_S_isRegister st_S_isRegister ini_S co_S_isRegister hd_S_isRegister v_preS hl.1 d_S_move_8 rfl rfl (Nat.le_of_ble_eq_true rfl) ⟨rfl, rfl⟩ ⟨Nat.le_of_ble_eq_true rfl, Nat.le_of_ble_eq_true rfl⟩ ⟨Nat.le_of_ble_eq_true rfl, Nat.le_of_ble_eq_true rfl⟩)) (fun q8 eq8 => ?_)
    refine lv_if_ne (tgt := 16) hx hb d_S_move_11 (by decide) (fun c8 => ?_) (fun c8 => ?_)
    · have hregf : 0 ≤ f ∧ f ≤ 15 := Decidable.byContradiction (fun h => c8 (eq8.trans (if_neg h)))
      refine lv_aload_n hx hb d_S_move_16 rfl (lv_at hl 0 rfl) ?_
      refine va_get (D := D) (ci := 0) (C := "StackRoom") (T := T_S) (N := 10) (v := .ref ra) hx hb ht in_S hown hK.1 (hP.one hR.1) 0 rfl rfl 2 (by decide) (ht _ fl_S_S_registers) (fun _ h9 => h9) rfl d_S_move_17 ?_
      refine lv_iload_n hx hb d_S_move_20 rfl (lv_at hl 1 rfl) ?_
      refine lv_aload_n hx hb d_S_move_21 rfl (lv_at hl 0 rfl) ?_
      refine va_get (D := D) (ci := 0) (C := "StackRoom") (T := T_S) (N := 10) (v := .ref ra) hx hb ht in_S hown hK.1 (hP.one hR.1) 0 rfl rfl 2 (by decide) (ht _ fl_S_S_registers) (fun _ h9 => h9) rfl d_S_move_22 ?_
      refine lv_iload_n hx hb d_S_move_25 rfl (lv_at hl 2 rfl) ?_
      refine va_aldq (C := "StackRoom$Value") hx hb hK.1 (hP.one hR.2.1) 0 0 rfl ht0 (s_rin hregf) d_S_move_26 ?_
      have hvf := hR.2.2.2.2.1 _ (s_reg hregf)
      refine gw_astqO (v := rr f.toNatClampNeg) hx hb hK.1 hP hS 0 hR.2.1 ht0 (fun y hy => c_any hK hP (c_val_isv hR hO.1 hvf (fun i e => hO.1.2.2.1 _ (s_reg hregf) i e) y hy)) (s_rin hreg) d_S_move_27 (fun H locs hP hS => ?_)
      obtain ⟨G1, eG1⟩ : ∃ z : gw_G, z = va_up G ra (some (.inl (cV, 16, qv (va_up rr r.toNatClampNeg (rr f.toNatClampNeg))))) := ⟨_, rfl⟩
      replace hP : gw_P D vwCl (gw_A G s.heap.size) G1 H := by rw [eG1]; exact hP
      have hR9 := hR.reg (k := r.toNatClampNeg) (v := s_get σ f) (r := rr f.toNatClampNeg) hvf
      rw [← eG1] at hR9
      refine lv_iconst (v := 1) hx hb d_S_move_28 (by decide) ?_
      exact W.zret (v := 1) hx hb hr rfl (fun t ht hW => ⟨⟨_, G1, rfl, (by rw [show p_move σ r f = (1, s_put σ r (s_get σ f)) from if_pos ⟨hreg, hregf⟩]; exact ⟨rfl, ⟨_, ra, rt, ad, fa, ρ, fr, _, rf, rc, wl, el, cr, by omega, hR9⟩⟩), g_fin ht hP⟩, hS.F ht⟩) hS.2.2 d_S_move_29
    · have hregf : ¬ (0 ≤ f ∧ f ≤ 15) := fun h => absurd (eq8.symm.trans c8) (by rw [if_pos h]; decide)
      refine lv_iconst (v := 0) hx hb d_S_move_14 (by decide) ?_
      exact W.zret (v := 0) hx hb hr rfl (fun t ht hW => ⟨⟨_, G, rfl, (by rw [show p_move σ r f = (0, σ) from (by unfold p_move; rw [if_neg (fun z => hregf z.2)])]; exact ⟨rfl, c_R.up ⟨rd, ra, rt, ad, fa, ρ, fr, rr, rf, rc, wl, el, cr, hrd, hR⟩⟩), g_fin ht hP⟩, hS.F ht⟩) hS.2.2 d_S_move_15
set_option maxHeartbeats 4000000 in
set_option maxRecDepth 100000 in
theorem k_S_clear (l : Launch) (hR0 : c_R w n k cV cT σ x G) (hO : s_OK w n σ) (hw : 128 ≤ w ∧ w ≤ 32768) (hn : 16 ≤ n ∧ n ≤ 4096) (hm : s_md σ + 2 < 2 ^ 31) (hk : k + 1 < 2 ^ 31) (ht0 : tys[0]? = some (cV, .object "StackRoom$Value")) (ht1 : tys[1]? = some (cT, .object "StackRoom$Thing")) (r : Int32) : Met l y_S_clear w_S_clear ({ frames := 2, cells := 0, slots := 0, locals := 42 }) (g_pre D tys G sz [.ref x, .int r]) (va_Qi (fun (rz : Int32) (G1 : gw_G) => rz = (p_clear σ r).1 ∧ c_R w n (k + 1) cV cT (p_clear σ r).2 x G1) (g_end D G sz) (gw_A G sz)) 0 0 (gw_A G sz) := by
  refine Met.ofW (cc := b_S_clear) (maxL := 2) (ret := (some .boolean)) (by decide) rfl ?_
  intro p e s m args below meth c s₁ B hml hv
  obtain ⟨rfl, hsz, hP, hK⟩ := hv
  have hx := B.exec
  have hb := B.bytes
  have hr := B.returns
  have ht := fun w (hw : w ∈ gt) => atoms_spec (ws := w_S_clear) B.pre w (List.mem_cons_of_mem _ hw)
  have hown : s.vm.findClass "StackRoom" = some m.cls := findClass_of_methodNamed B.named
  have hlocks := B.notSynchronized
  have C0 : CallFix p m c b_S_clear 2 s [.ref x, .int r].toArray gt "StackRoom" := ⟨hx, hb, hml, hown, ht⟩
  subst hsz
  have hP := hP.self (sz := s.heap.size)
  have hA : ∀ q : Nat, s.heap.size ≤ q → gw_A G s.heap.size q := fun q h => Or.inr h
  have hS : va_S (gw_A G s.heap.size) s.heap s.heap [] := va_S.rf
  have hl := lv_entry ([.ref x, .int r]) (n := 2) (Nat.le_of_ble_eq_true rfl)
  rw [lg_entry_eq]
  generalize (lg_sl ([.ref x, .int r]) ++ List.replicate (2 - (lg_sl ([.ref x, .int r])).length) Slot.unset).toArray = ls at hl ⊢
  have hl : lv_has ls 2 [(0, .ref x), (1, .int r)] := hl
  obtain ⟨rd, ra, rt, ad, fa, ρ, fr, rr, rf, rc, wl, el, cr, hrd, hR⟩ := hR0
  refine lv_iload_n hx hb d_S_clear_0 rfl (lv_at hl 1 rfl) ?_
  refine vp_callSi (va_Run.run (r_S (rest := []) C0 [.int r] (k_S_isRegister l r) ml_S_S_isRegister st_S_isRegister ini_S co_S_isRegister hd_S_isRegister v_preS hl.1 d_S_clear_1 rfl rfl (Nat.le_of_ble_eq_true rfl) ⟨rfl, rfl⟩ ⟨Nat.le_of_ble_eq_true rfl, Nat.le_of_ble_eq_true rfl⟩ ⟨Nat.le_of_ble_eq_true rfl, Nat.le_of_ble_eq_true rfl⟩)) (fun q1 eq1 => ?_)
  refine lv_if_ne (tgt := 9) hx hb d_S_clear_4 (by decide) (fun c1 => ?_) (fun c1 => ?_)
  · have hreg : 0 ≤ r ∧ r ≤ 15 := Decidable.byContradiction (fun h => c1 (eq1.trans (if_neg h)))
    refine lv_aload_n hx hb d_S_clear_9 rfl (lv_at hl 0 rfl) ?_
    refine va_get (D := D) (ci := 0) (C := "StackRoom") (T := T_S) (N := 10) (v := .ref ra) hx hb ht in_S hown hK.1 (hP.one hR.1) 0 rfl rfl 2 (by decide) (ht _ fl_S_S_registers) (fun _ h9 => h9) rfl d_S_clear_10 ?_
    refine lv_iload_n hx hb d_S_clear_13 rfl (lv_at hl 1 rfl) ?_
    refine lv_null hx hb d_S_clear_14 ?_
    refine gw_astqO (v := none) hx hb hK.1 hP hS 0 hR.2.1 ht0 (fun y hy => c_any hK hP (by cases hy)) (s_rin hreg) d_S_clear_15 (fun H locs hP hS => ?_)
    obtain ⟨G1, eG1⟩ : ∃ z : gw_G, z = va_up G ra (some (.inl (cV, 16, qv (va_up rr r.toNatClampNeg none)))) := ⟨_, rfl⟩
    replace hP : gw_P D vwCl (gw_A G s.heap.size) G1 H := by rw [eG1]; exact hP
    have hR9 := hR.reg (k := r.toNatClampNeg) (v := none) (r := none) rfl
    rw [← eG1] at hR9
    refine lv_iconst (v := 1) hx hb d_S_clear_16 (by decide) ?_
    exact W.zret (v := 1) hx hb hr rfl (fun t ht hW => ⟨⟨_, G1, rfl, (by rw [show p_clear σ r = (1, s_put σ r none) from if_pos hreg]; exact ⟨rfl, ⟨_, ra, rt, ad, fa, ρ, fr, _, rf, rc, wl, el, cr, by omega, hR9⟩⟩), g_fin ht hP⟩, hS.F ht⟩) hS.2.2 d_S_clear_17
  · have hreg : ¬ (0 ≤ r ∧ r ≤ 15) := fun h => absurd (eq1.symm.trans c1) (by rw [if_pos h]; decide)
    refine lv_iconst (v := 0) hx hb d_S_clear_7 (by decide) ?_
    exact W.zret (v := 0) hx hb hr rfl (fun t ht hW => ⟨⟨_, G, rfl, (by rw [show p_clear σ r = (0, σ) from (if_neg hreg)]; exact ⟨rfl, c_R.up ⟨rd, ra, rt, ad, fa, ρ, fr, rr, rf, rc, wl, el, cr, hrd, hR⟩⟩), g_fin ht hP⟩, hS.F ht⟩) hS.2.2 d_S_clear_8
set_option maxHeartbeats 4000000 in
set_option maxRecDepth 100000 in
theorem k_S_height (l : Launch) (hR0 : c_R w n k cV cT σ x G) (hO : s_OK w n σ) (hw : 128 ≤ w ∧ w ≤ 32768) (hn : 16 ≤ n ∧ n ≤ 4096) (hm : s_md σ + 2 < 2 ^ 31) (hk : k + 1 < 2 ^ 31) (ht0 : tys[0]? = some (cV, .object "StackRoom$Value")) (ht1 : tys[1]? = some (cT, .object "StackRoom$Thing")) (cx : Int32) : Met l y_S_height w_S_height ({ frames := 3, cells := 0, slots := 0, locals := 65 }) (g_pre D tys G sz [.ref x, .int cx]) (vp_Si (fun rz => rz = p_height σ cx)) 0 0 (fun _ => False) := by
  refine Met.ofW (cc := b_S_height) (maxL := 3) (ret := (some .int)) (by decide) rfl ?_
  intro p e s m args below meth c s₁ B hml hv
  obtain ⟨rfl, hsz, hP, hK⟩ := hv
  have hx := B.exec
  have hb := B.bytes
  have hr := B.returns
  have ht := fun w (hw : w ∈ gt) => atoms_spec (ws := w_S_height) B.pre w (List.mem_cons_of_mem _ hw)
  have hown : s.vm.findClass "StackRoom" = some m.cls := findClass_of_methodNamed B.named
  have hlocks := B.notSynchronized
  have C0 : CallFix p m c b_S_height 3 s [.ref x, .int cx].toArray gt "StackRoom" := ⟨hx, hb, hml, hown, ht⟩
  have hl := lv_entry ([.ref x, .int cx]) (n := 3) (Nat.le_of_ble_eq_true rfl)
  rw [lg_entry_eq]
  generalize (lg_sl ([.ref x, .int cx]) ++ List.replicate (3 - (lg_sl ([.ref x, .int cx])).length) Slot.unset).toArray = ls at hl ⊢
  have hl : lv_has ls 3 [(0, .ref x), (1, .int cx)] := hl
  obtain ⟨rd, ra, rt, ad, fa, ρ, fr, rr, rf, rc, wl, el, cr, hrd, hR⟩ := hR0
  refine lv_aload_n hx hb d_S_height_0 rfl (lv_at hl 0 rfl) ?_
  refine lv_iload_n hx hb d_S_height_1 rfl (lv_at hl 1 rfl) ?_
  refine va_csq (va_Run.run (r_V (rest := []) C0 [.int cx] (k_S_contextIn l hR hO.1 ht0 cx) ml_S_S_contextIn im_S_contextIn se_S_S_contextIn_S ini_S co_S_contextIn ⟨rfl, hd_S_contextIn⟩ (g_preV (ci := 0) hK hP rfl hR.1) hl.1 d_S_height_2 rfl rfl (Nat.le_of_ble_eq_true rfl) ⟨rfl, rfl⟩ ⟨Nat.le_of_ble_eq_true rfl, Nat.le_of_ble_eq_true rfl⟩ ⟨Nat.le_of_ble_eq_true rfl, Nat.le_of_ble_eq_true rfl⟩)) (fun qc ec => ?_)
  subst ec
  rcases hci : s_ci σ cx with _ | i
  · refine lv_astore_nN (lv' := [(2, .null), (0, .ref x), (1, .int cx)]) hx hb d_S_height_5 rfl hl (by decide) rfl (fun ls hl => ?_)
    refine lv_aload_nN hx hb d_S_height_6 rfl (lv_at hl 0 rfl) ?_
    refine lv_ifnonnullN hx hb d_S_height_7 ?_
    refine lv_iconst (v := (-1)) hx hb d_S_height_10 (by decide) ?_
    refine lv_goto (tgt := 18) hx hb d_S_height_11 (by decide) ?_
    exact W.iret (v := (-1)) hx hb hr (fun t ht hW => ⟨_, rfl, by simp only [p_height, hci], ht⟩) (fun _ h => by cases h) d_S_height_18
  · have hc := (s_ci_some hci).2.2
    have hri := s_ci_rch hci
    rcases id hc with h3 | h4
    · refine lv_astore_n (lv' := [(2, .ref (ad i)), (0, .ref x), (1, .int cx)]) hx hb d_S_height_5 rfl hl (by decide) rfl (fun ls hl => ?_)
      refine lv_aload_n hx hb d_S_height_6 rfl (lv_at hl 0 rfl) ?_
      refine lv_ifnonnull (tgt := 14) hx hb d_S_height_7 (by decide) ?_
      refine lv_aload_n hx hb d_S_height_14 rfl (lv_at hl 0 rfl) ?_
      refine va_getN (D := D) (ci := 3) (C := "StackRoom$MethodContext") (T := T_X) (N := 7) (v := .int (nI (s_ht σ i))) hx hb ht in_X hown hK.1 (hP.one (hR.c3 h3)) 0 rfl rfl 4 (by decide) (va_Nw.use rfl (hK.2.1 _ fn_S_C_height)) (fun _ h9 => h9) rfl d_S_height_15 ?_
      exact W.iret (v := (nI (s_ht σ i))) hx hb hr (fun t ht hW => ⟨_, rfl, by simp only [p_height, hci], ht⟩) (fun _ h => by cases h) d_S_height_18
    · refine lv_astore_n (lv' := [(2, .ref (ad i)), (0, .ref x), (1, .int cx)]) hx hb d_S_height_5 rfl hl (by decide) rfl (fun ls hl => ?_)
      refine lv_aload_n hx hb d_S_height_6 rfl (lv_at hl 0 rfl) ?_
      refine lv_ifnonnull (tgt := 14) hx hb d_S_height_7 (by decide) ?_
      refine lv_aload_n hx hb d_S_height_14 rfl (lv_at hl 0 rfl) ?_
      refine va_getN (D := D) (ci := 4) (C := "StackRoom$BlockContext") (T := T_B) (N := 8) (v := .int (nI (s_ht σ i))) hx hb ht in_B hown hK.1 (hP.one (hR.c4 h4)) 0 rfl rfl 4 (by decide) (va_Nw.use rfl (hK.2.1 _ fn_S_C_height)) (fun _ h9 => h9) rfl d_S_height_15 ?_
      exact W.iret (v := (nI (s_ht σ i))) hx hb hr (fun t ht hW => ⟨_, rfl, by simp only [p_height, hci], ht⟩) (fun _ h => by cases h) d_S_height_18
set_option maxHeartbeats 4000000 in
set_option maxRecDepth 100000 in
theorem k_S_room (l : Launch) (hR0 : c_R w n k cV cT σ x G) (hO : s_OK w n σ) (hw : 128 ≤ w ∧ w ≤ 32768) (hn : 16 ≤ n ∧ n ≤ 4096) (hm : s_md σ + 2 < 2 ^ 31) (hk : k + 1 < 2 ^ 31) (ht0 : tys[0]? = some (cV, .object "StackRoom$Value")) (ht1 : tys[1]? = some (cT, .object "StackRoom$Thing")) (cx : Int32) : Met l y_S_room w_S_room ({ frames := 3, cells := 0, slots := 0, locals := 65 }) (g_pre D tys G sz [.ref x, .int cx]) (vp_Si (fun rz => rz = p_room σ cx)) 0 0 (fun _ => False) := by
  refine Met.ofW (cc := b_S_room) (maxL := 3) (ret := (some .int)) (by decide) rfl ?_
  intro p e s m args below meth c s₁ B hml hv
  obtain ⟨rfl, hsz, hP, hK⟩ := hv
  have hx := B.exec
  have hb := B.bytes
  have hr := B.returns
  have ht := fun w (hw : w ∈ gt) => atoms_spec (ws := w_S_room) B.pre w (List.mem_cons_of_mem _ hw)
  have hown : s.vm.findClass "StackRoom" = some m.cls := findClass_of_methodNamed B.named
  have hlocks := B.notSynchronized
  have C0 : CallFix p m c b_S_room 3 s [.ref x, .int cx].toArray gt "StackRoom" := ⟨hx, hb, hml, hown, ht⟩
  have hl := lv_entry ([.ref x, .int cx]) (n := 3) (Nat.le_of_ble_eq_true rfl)
  rw [lg_entry_eq]
  generalize (lg_sl ([.ref x, .int cx]) ++ List.replicate (3 - (lg_sl ([.ref x, .int cx])).length) Slot.unset).toArray = ls at hl ⊢
  have hl : lv_has ls 3 [(0, .ref x), (1, .int cx)] := hl
  obtain ⟨rd, ra, rt, ad, fa, ρ, fr, rr, rf, rc, wl, el, cr, hrd, hR⟩ := hR0
  refine lv_aload_n hx hb d_S_room_0 rfl (lv_at hl 0 rfl) ?_
  refine lv_iload_n hx hb d_S_room_1 rfl (lv_at hl 1 rfl) ?_
  refine va_csq (va_Run.run (r_V (rest := []) C0 [.int cx] (k_S_contextIn l hR hO.1 ht0 cx) ml_S_S_contextIn im_S_contextIn se_S_S_contextIn_S ini_S co_S_contextIn ⟨rfl, hd_S_contextIn⟩ (g_preV (ci := 0) hK hP rfl hR.1) hl.1 d_S_room_2 rfl rfl (Nat.le_of_ble_eq_true rfl) ⟨rfl, rfl⟩ ⟨Nat.le_of_ble_eq_true rfl, Nat.le_of_ble_eq_true rfl⟩ ⟨Nat.le_of_ble_eq_true rfl, Nat.le_of_ble_eq_true rfl⟩)) (fun qc ec => ?_)
  subst ec
  rcases hci : s_ci σ cx with _ | i
  · refine lv_astore_nN (lv' := [(2, .null), (0, .ref x), (1, .int cx)]) hx hb d_S_room_5 rfl hl (by decide) rfl (fun ls hl => ?_)
    refine lv_aload_nN hx hb d_S_room_6 rfl (lv_at hl 0 rfl) ?_
    refine lv_ifnonnullN hx hb d_S_room_7 ?_
    refine lv_iconst (v := (-1)) hx hb d_S_room_10 (by decide) ?_
    refine lv_goto (tgt := 19) hx hb d_S_room_11 (by decide) ?_
    exact W.iret (v := (-1)) hx hb hr (fun t ht hW => ⟨_, rfl, by simp only [p_room, hci], ht⟩) (fun _ h => by cases h) d_S_room_19
  · have hc := (s_ci_some hci).2.2
    have hri := s_ci_rch hci
    rcases id hc with h3 | h4
    · refine lv_astore_n (lv' := [(2, .ref (ad i)), (0, .ref x), (1, .int cx)]) hx hb d_S_room_5 rfl hl (by decide) rfl (fun ls hl => ?_)
      refine lv_aload_n hx hb d_S_room_6 rfl (lv_at hl 0 rfl) ?_
      refine lv_ifnonnull (tgt := 14) hx hb d_S_room_7 (by decide) ?_
      refine lv_aload_n hx hb d_S_room_14 rfl (lv_at hl 0 rfl) ?_
      refine va_getN (D := D) (ci := 3) (C := "StackRoom$MethodContext") (T := T_X) (N := 7) (v := .ref (fa i)) hx hb ht in_X hown hK.1 (hP.one (hR.c3 h3)) 0 rfl rfl 5 (by decide) (va_Nw.use rfl (hK.2.1 _ fn_S_C_fields)) (fun _ h9 => h9) rfl d_S_room_15 ?_
      refine va_alen (v := nI (s_rm σ i)) hx hb hK.1 (hP.one (hR.ca hc)) 0 0 rfl ht0 rfl d_S_room_18 ?_
      exact W.iret (v := (nI (s_rm σ i))) hx hb hr (fun t ht hW => ⟨_, rfl, by simp only [p_room, hci], ht⟩) (fun _ h => by cases h) d_S_room_19
    · refine lv_astore_n (lv' := [(2, .ref (ad i)), (0, .ref x), (1, .int cx)]) hx hb d_S_room_5 rfl hl (by decide) rfl (fun ls hl => ?_)
      refine lv_aload_n hx hb d_S_room_6 rfl (lv_at hl 0 rfl) ?_
      refine lv_ifnonnull (tgt := 14) hx hb d_S_room_7 (by decide) ?_
      refine lv_aload_n hx hb d_S_room_14 rfl (lv_at hl 0 rfl) ?_
      refine va_getN (D := D) (ci := 4) (C := "StackRoom$BlockContext") (T := T_B) (N := 8) (v := .ref (fa i)) hx hb ht in_B hown hK.1 (hP.one (hR.c4 h4)) 0 rfl rfl 5 (by decide) (va_Nw.use rfl (hK.2.1 _ fn_S_C_fields)) (fun _ h9 => h9) rfl d_S_room_15 ?_
      refine va_alen (v := nI (s_rm σ i)) hx hb hK.1 (hP.one (hR.ca hc)) 0 0 rfl ht0 rfl d_S_room_18 ?_
      exact W.iret (v := (nI (s_rm σ i))) hx hb hr (fun t ht hW => ⟨_, rfl, by simp only [p_room, hci], ht⟩) (fun _ h => by cases h) d_S_room_19
set_option maxHeartbeats 4000000 in
set_option maxRecDepth 100000 in
theorem k_S_floor (l : Launch) (hR0 : c_R w n k cV cT σ x G) (hO : s_OK w n σ) (hw : 128 ≤ w ∧ w ≤ 32768) (hn : 16 ≤ n ∧ n ≤ 4096) (hm : s_md σ + 2 < 2 ^ 31) (hk : k + 1 < 2 ^ 31) (ht0 : tys[0]? = some (cV, .object "StackRoom$Value")) (ht1 : tys[1]? = some (cT, .object "StackRoom$Thing")) (cx : Int32) : Met l y_S_floor w_S_floor ({ frames := 3, cells := 0, slots := 0, locals := 65 }) (g_pre D tys G sz [.ref x, .int cx]) (vp_Si (fun rz => rz = p_floor σ cx)) 0 0 (fun _ => False) := by
  refine Met.ofW (cc := b_S_floor) (maxL := 3) (ret := (some .int)) (by decide) rfl ?_
  intro p e s m args below meth c s₁ B hml hv
  obtain ⟨rfl, hsz, hP, hK⟩ := hv
  have hx := B.exec
  have hb := B.bytes
  have hr := B.returns
  have ht := fun w (hw : w ∈ gt) => atoms_spec (ws := w_S_floor) B.pre w (List.mem_cons_of_mem _ hw)
  have hown : s.vm.findClass "StackRoom" = some m.cls := findClass_of_methodNamed B.named
  have hlocks := B.notSynchronized
  have C0 : CallFix p m c b_S_floor 3 s [.ref x, .int cx].toArray gt "StackRoom" := ⟨hx, hb, hml, hown, ht⟩
  have hl := lv_entry ([.ref x, .int cx]) (n := 3) (Nat.le_of_ble_eq_true rfl)
  rw [lg_entry_eq]
  generalize (lg_sl ([.ref x, .int cx]) ++ List.replicate (3 - (lg_sl ([.ref x, .int cx])).length) Slot.unset).toArray = ls at hl ⊢
  have hl : lv_has ls 3 [(0, .ref x), (1, .int cx)] := hl
  obtain ⟨rd, ra, rt, ad, fa, ρ, fr, rr, rf, rc, wl, el, cr, hrd, hR⟩ := hR0
  refine lv_aload_n hx hb d_S_floor_0 rfl (lv_at hl 0 rfl) ?_
  refine lv_iload_n hx hb d_S_floor_1 rfl (lv_at hl 1 rfl) ?_
  refine va_csq (va_Run.run (r_V (rest := []) C0 [.int cx] (k_S_contextIn l hR hO.1 ht0 cx) ml_S_S_contextIn im_S_contextIn se_S_S_contextIn_S ini_S co_S_contextIn ⟨rfl, hd_S_contextIn⟩ (g_preV (ci := 0) hK hP rfl hR.1) hl.1 d_S_floor_2 rfl rfl (Nat.le_of_ble_eq_true rfl) ⟨rfl, rfl⟩ ⟨Nat.le_of_ble_eq_true rfl, Nat.le_of_ble_eq_true rfl⟩ ⟨Nat.le_of_ble_eq_true rfl, Nat.le_of_ble_eq_true rfl⟩)) (fun qc ec => ?_)
  subst ec
  rcases hci : s_ci σ cx with _ | i
  · refine lv_astore_nN (lv' := [(2, .null), (0, .ref x), (1, .int cx)]) hx hb d_S_floor_5 rfl hl (by decide) rfl (fun ls hl => ?_)
    refine lv_aload_nN hx hb d_S_floor_6 rfl (lv_at hl 0 rfl) ?_
    refine lv_ifnonnullN hx hb d_S_floor_7 ?_
    refine lv_iconst (v := (-1)) hx hb d_S_floor_10 (by decide) ?_
    refine lv_goto (tgt := 18) hx hb d_S_floor_11 (by decide) ?_
    exact W.iret (v := (-1)) hx hb hr (fun t ht hW => ⟨_, rfl, by simp only [p_floor, hci], ht⟩) (fun _ h => by cases h) d_S_floor_18
  · have hc := (s_ci_some hci).2.2
    have hri := s_ci_rch hci
    rcases id hc with h3 | h4
    · refine lv_astore_n (lv' := [(2, .ref (ad i)), (0, .ref x), (1, .int cx)]) hx hb d_S_floor_5 rfl hl (by decide) rfl (fun ls hl => ?_)
      refine lv_aload_n hx hb d_S_floor_6 rfl (lv_at hl 0 rfl) ?_
      refine lv_ifnonnull (tgt := 14) hx hb d_S_floor_7 (by decide) ?_
      refine lv_aload_n hx hb d_S_floor_14 rfl (lv_at hl 0 rfl) ?_
      refine vp_callSi (va_Run.run (r_A (owner := "StackRoom$Context") (n := 0) (rest := []) C0 [] (k_X_floorNow l hR (i := i) h3 hO.1) ml_S_C_floorNow sm_C_C_floorNow se_X_C_floorNow_X im_X_floorNow ini_X co_X_floorNow (hK.2.1 _ dc_C_floorNow) (by decide +kernel) (g_preV (ci := 3) hK hP rfl (hR.c3 h3)) hl.1 d_S_floor_15 rfl rfl (Nat.le_of_ble_eq_true rfl) ⟨rfl, rfl⟩ ⟨Nat.le_of_ble_eq_true rfl, Nat.le_of_ble_eq_true rfl⟩ ⟨Nat.le_of_ble_eq_true rfl, Nat.le_of_ble_eq_true rfl⟩)) (fun q eq => ?_)
      exact W.iret (v := q) hx hb hr (fun t ht hW => ⟨_, rfl, (by rw [eq]; simp only [p_floor, hci]), ht⟩) (fun _ h => by cases h) d_S_floor_18
    · refine lv_astore_n (lv' := [(2, .ref (ad i)), (0, .ref x), (1, .int cx)]) hx hb d_S_floor_5 rfl hl (by decide) rfl (fun ls hl => ?_)
      refine lv_aload_n hx hb d_S_floor_6 rfl (lv_at hl 0 rfl) ?_
      refine lv_ifnonnull (tgt := 14) hx hb d_S_floor_7 (by decide) ?_
      refine lv_aload_n hx hb d_S_floor_14 rfl (lv_at hl 0 rfl) ?_
      refine vp_callSi (va_Run.run (r_A (owner := "StackRoom$Context") (n := 0) (rest := []) C0 [] (k_B_floorNow l hR (i := i) h4) ml_S_C_floorNow sm_C_C_floorNow se_B_C_floorNow_B im_B_floorNow ini_B co_B_floorNow (hK.2.1 _ dc_C_floorNow) (by decide +kernel) (g_preV (ci := 4) hK hP rfl (hR.c4 h4)) hl.1 d_S_floor_15 rfl rfl (Nat.le_of_ble_eq_true rfl) ⟨rfl, rfl⟩ ⟨Nat.le_of_ble_eq_true rfl, Nat.le_of_ble_eq_true rfl⟩ ⟨Nat.le_of_ble_eq_true rfl, Nat.le_of_ble_eq_true rfl⟩)) (fun q eq => ?_)
      exact W.iret (v := q) hx hb hr (fun t ht hW => ⟨_, rfl, (by rw [eq]; simp only [p_floor, hci]), ht⟩) (fun _ h => by cases h) d_S_floor_18
set_option maxHeartbeats 4000000 in
set_option maxRecDepth 100000 in
theorem k_S_count (l : Launch) (hR0 : c_R w n k cV cT σ x G) (hO : s_OK w n σ) (hw : 128 ≤ w ∧ w ≤ 32768) (hn : 16 ≤ n ∧ n ≤ 4096) (hm : s_md σ + 2 < 2 ^ 31) (hk : k + 1 < 2 ^ 31) (ht0 : tys[0]? = some (cV, .object "StackRoom$Value")) (ht1 : tys[1]? = some (cT, .object "StackRoom$Thing")) (cx : Int32) : Met l y_S_count w_S_count ({ frames := 2, cells := 0, slots := 0, locals := 42 }) (g_pre D tys G sz [.ref x, .int cx]) (vp_Si (fun rz => rz = p_count σ cx)) 0 0 (fun _ => False) := by
  refine Met.ofW (cc := b_S_count) (maxL := 4) (ret := (some .int)) (by decide) rfl ?_
  intro p e s m args below meth c s₁ B hml hv
  obtain ⟨rfl, hsz, hP, hK⟩ := hv
  have hx := B.exec
  have hb := B.bytes
  have hr := B.returns
  have ht := fun w (hw : w ∈ gt) => atoms_spec (ws := w_S_count) B.pre w (List.mem_cons_of_mem _ hw)
  have hown : s.vm.findClass "StackRoom" = some m.cls := findClass_of_methodNamed B.named
  have hlocks := B.notSynchronized
  have C0 : CallFix p m c b_S_count 4 s [.ref x, .int cx].toArray gt "StackRoom" := ⟨hx, hb, hml, hown, ht⟩
  have hl := lv_entry ([.ref x, .int cx]) (n := 4) (Nat.le_of_ble_eq_true rfl)
  rw [lg_entry_eq]
  generalize (lg_sl ([.ref x, .int cx]) ++ List.replicate (4 - (lg_sl ([.ref x, .int cx])).length) Slot.unset).toArray = ls at hl ⊢
  have hl : lv_has ls 4 [(0, .ref x), (1, .int cx)] := hl
  obtain ⟨rd, ra, rt, ad, fa, ρ, fr, rr, rf, rc, wl, el, cr, hrd, hR⟩ := hR0
  refine lv_iload_n hx hb d_S_count_0 rfl (lv_at hl 1 rfl) ?_
  refine vp_callSi (va_Run.run (r_S (rest := []) C0 [.int cx] (k_S_isRegister l cx) ml_S_S_isRegister st_S_isRegister ini_S co_S_isRegister hd_S_isRegister v_preS hl.1 d_S_count_1 rfl rfl (Nat.le_of_ble_eq_true rfl) ⟨rfl, rfl⟩ ⟨Nat.le_of_ble_eq_true rfl, Nat.le_of_ble_eq_true rfl⟩ ⟨Nat.le_of_ble_eq_true rfl, Nat.le_of_ble_eq_true rfl⟩)) (fun q1 eq1 => ?_)
  refine lv_if_eq (tgt := 31) hx hb d_S_count_4 (by decide) (fun c1 => ?_) (fun c1 => ?_)
  · have hreg : ¬ (0 ≤ cx ∧ cx ≤ 15) := fun h => absurd (eq1.symm.trans c1) (by rw [if_pos h]; decide)
    refine lv_iconst (v := (-1)) hx hb d_S_count_31 (by decide) ?_
    exact W.iret (v := (-1)) hx hb hr (fun t ht hW => ⟨_, rfl, by unfold p_count; rw [s_ci_no hreg], ht⟩) (fun _ h => by cases h) d_S_count_32
  · have hreg : 0 ≤ cx ∧ cx ≤ 15 := Decidable.byContradiction (fun h => c1 (eq1.trans (if_neg h)))
    refine lv_aload_n hx hb d_S_count_7 rfl (lv_at hl 0 rfl) ?_
    refine va_get (D := D) (ci := 0) (C := "StackRoom") (T := T_S) (N := 10) (v := .ref ra) hx hb ht in_S hown hK.1 (hP.one hR.1) 0 rfl rfl 2 (by decide) (ht _ fl_S_S_registers) (fun _ h9 => h9) rfl d_S_count_8 ?_
    refine lv_iload_n hx hb d_S_count_11 rfl (lv_at hl 1 rfl) ?_
    refine va_aldq (C := "StackRoom$Value") hx hb hK.1 (hP.one hR.2.1) 0 0 rfl ht0 (s_rin hreg) d_S_count_12 ?_
    have hv := hR.2.2.2.2.1 cx.toNatClampNeg (s_reg hreg)
    rcases hq : s_rg σ cx.toNatClampNeg with _ | (nv | j)
    · have hv : rr cx.toNatClampNeg = none := by rw [hq] at hv; exact hv
      rw [hv]
      refine lv_astore_nN (lv' := [(3, .null), (0, .ref x), (1, .int cx)]) hx hb d_S_count_13 rfl hl (by decide) rfl (fun ls hl => ?_)
      refine lv_aload_nN hx hb d_S_count_14 rfl (lv_at hl 0 rfl) ?_
      refine lv_instN hx hb d_S_count_15 ?_
      refine lv_if_eq (tgt := 31) hx hb d_S_count_18 (by decide) (fun _ => ?_) (fun h => absurd h (by decide))
      refine lv_iconst (v := (-1)) hx hb d_S_count_31 (by decide) ?_
      exact W.iret (v := (-1)) hx hb hr (fun t ht hW => ⟨_, rfl, by simp only [p_count, s_ci_nil hq], ht⟩) (fun _ h => by cases h) d_S_count_32
    · obtain ⟨a, h1, h2⟩ : ∃ a, rr cx.toNatClampNeg = some a ∧ G a = some (.inr (kW, [.int nv])) := by rw [hq] at hv; exact hv
      rw [h1]
      refine lv_astore_n (lv' := [(3, .ref a), (0, .ref x), (1, .int cx)]) hx hb d_S_count_13 rfl hl (by decide) rfl (fun ls hl => ?_)
      refine lv_aload_n hx hb d_S_count_14 rfl (lv_at hl 0 rfl) ?_
      refine va_instNo hx hb hown (ht _ cl_S_B) hK.2.nWB (gw_recv hK.1 hP rfl h2) d_S_count_15 ?_
      refine lv_if_eq (tgt := 31) hx hb d_S_count_18 (by decide) (fun _ => ?_) (fun h => absurd h (by decide))
      refine lv_iconst (v := (-1)) hx hb d_S_count_31 (by decide) ?_
      exact W.iret (v := (-1)) hx hb hr (fun t ht hW => ⟨_, rfl, by simp only [p_count, s_ci_num hq], ht⟩) (fun _ h => by cases h) d_S_count_32
    · have hv : rr cx.toNatClampNeg = some (ad j) := by rw [hq] at hv; exact hv
      rw [hv]
      rcases (hO.1.2.1 j (hO.1.2.2.1 _ (s_reg hreg) j hq)).2.2 with hj | hj | hj
      · refine lv_astore_n (lv' := [(3, .ref (ad j)), (0, .ref x), (1, .int cx)]) hx hb d_S_count_13 rfl hl (by decide) rfl (fun ls hl => ?_)
        refine lv_aload_n hx hb d_S_count_14 rfl (lv_at hl 0 rfl) ?_
        refine va_instNo hx hb hown (ht _ cl_S_B) hK.2.nMB (gw_recv hK.1 hP rfl (hR.c2 hj)) d_S_count_15 ?_
        refine lv_if_eq (tgt := 31) hx hb d_S_count_18 (by decide) (fun _ => ?_) (fun h => absurd h (by decide))
        refine lv_iconst (v := (-1)) hx hb d_S_count_31 (by decide) ?_
        exact W.iret (v := (-1)) hx hb hr (fun t ht hW => ⟨_, rfl, by simp only [p_count, s_ci_m hq hj], ht⟩) (fun _ h => by cases h) d_S_count_32
      · refine lv_astore_n (lv' := [(3, .ref (ad j)), (0, .ref x), (1, .int cx)]) hx hb d_S_count_13 rfl hl (by decide) rfl (fun ls hl => ?_)
        refine lv_aload_n hx hb d_S_count_14 rfl (lv_at hl 0 rfl) ?_
        refine va_instNo hx hb hown (ht _ cl_S_B) hK.2.nXB (gw_recv hK.1 hP rfl (hR.c3 hj)) d_S_count_15 ?_
        refine lv_if_eq (tgt := 31) hx hb d_S_count_18 (by decide) (fun _ => ?_) (fun h => absurd h (by decide))
        refine lv_iconst (v := (-1)) hx hb d_S_count_31 (by decide) ?_
        exact W.iret (v := (-1)) hx hb hr (fun t ht hW => ⟨_, rfl, by simp only [p_count, s_ci_c hreg hq (Or.inl hj)]; rw [if_neg (by omega)], ht⟩) (fun _ h => by cases h) d_S_count_32
      · refine lv_astore_n (lv' := [(3, .ref (ad j)), (0, .ref x), (1, .int cx)]) hx hb d_S_count_13 rfl hl (by decide) rfl (fun ls hl => ?_)
        refine lv_aload_n hx hb d_S_count_14 rfl (lv_at hl 0 rfl) ?_
        refine va_instY hx hb hown (ht _ cl_S_B) (hK.2.1 _ ca_B_B) (gw_recv hK.1 hP rfl (hR.c4 hj)) d_S_count_15 ?_
        refine lv_if_eq (tgt := 31) hx hb d_S_count_18 (by decide) (fun h => absurd h (by decide)) (fun _ => ?_)
        refine lv_aload_n hx hb d_S_count_21 rfl (lv_at hl 0 rfl) ?_
        refine va_castY hx hb hown (ht _ cl_S_B) (hK.2.1 _ ca_B_B) (gw_recv hK.1 hP rfl (hR.c4 hj)) d_S_count_22 ?_
        refine lv_astore_n (lv' := [(2, .ref (ad j)), (3, .ref (ad j)), (0, .ref x), (1, .int cx)]) hx hb d_S_count_25 rfl hl (by decide) rfl (fun ls hl => ?_)
        refine lv_aload_n hx hb d_S_count_26 rfl (lv_at hl 0 rfl) ?_
        refine va_getN (D := D) (ci := 4) (C := "StackRoom$BlockContext") (T := T_B) (N := 8) (v := .int (s_ct σ j)) hx hb ht in_B hown hK.1 (hP.one (hR.c4 hj)) 0 rfl rfl 7 (by decide) (va_Nw.use rfl (hK.2.1 _ fn_S_B_count)) (fun _ h9 => h9) rfl d_S_count_27 ?_
        exact W.iret (v := (s_ct σ j)) hx hb hr (fun t ht hW => ⟨_, rfl, by simp only [p_count, s_ci_c hreg hq (Or.inr hj)]; rw [if_pos hj], ht⟩) (fun _ h => by cases h) d_S_count_30
end K18
