theorem dp_pos {a b : Nat} (ha : a < 2 ^ 30) (hb : b < 2 ^ 30) : 0 < nI a - nI b ↔ b < a := by
  rw [Int32.lt_iff_toInt_lt, pk_sub_toInt ha hb]
  show (0 : Int) < (a : Int) - b ↔ b < a
  omega
theorem dp_lt {a b : Nat} {u : Int32} (ha : a < 2 ^ 30) (hb : b < 2 ^ 30) (hu : 0 ≤ u) : u < nI a - nI b ↔ b + u.toNatClampNeg < a := by
  obtain ⟨j, hj, rfl⟩ := nI_of (x := u) (fun q => absurd hu (Int32.not_le.mpr q))
  rw [Int32.lt_iff_toInt_lt, pk_sub_toInt ha hb, nI_toInt hj, nI_clamp hj]
  omega
theorem dp_le {a b : Nat} {u : Int32} (ha : a < 2 ^ 30) (hb : b < 2 ^ 30) (hu : 0 ≤ u) : u ≤ nI a - nI b ↔ b + u.toNatClampNeg ≤ a := by
  obtain ⟨j, hj, rfl⟩ := nI_of (x := u) (fun q => absurd hu (Int32.not_le.mpr q))
  rw [Int32.le_iff_toInt_le, pk_sub_toInt ha hb, nI_toInt hj, nI_clamp hj]
  omega
theorem s_fr_le {σ : sS} {i : Nat} (hI : s_I σ) (hc : s_isC σ i) : s_fr σ i ≤ 31 := by
  rcases hc with h | h
  · rw [s_fr3 h]
    exact (hI.2.2.2.1 _ (hI.2.2.2.2.1 i h)).1
  · rw [s_fr4 h]
    omega
theorem s_si_ci {σ : sS} {r : Int32} {o : Option Nat} (h : s_si σ r = some o) : s_ci σ r = o := by
  have hs := s_si_some h
  rcases hs.2 with ⟨e1, e2⟩ | ⟨i, e1, e2, e3⟩
  · rw [e1, s_ci_nil e2]
  · rw [e1, s_ci_c hs.1 e2 e3]
section K19
variable {w n k : Nat} {cV cT : ClassId} {σ : sS} {x : Nat} {G : gw_G} {D : va_G} {tys : List (ClassId × FieldType)} {sz : Nat}
set_option maxHeartbeats 4000000 in
set_option maxRecDepth 100000 in
theorem k_S_push (l : Launch) (hR0 : c_R w n k cV cT σ x G) (hO : s_OK w n σ) (hw : 128 ≤ w ∧ w ≤ 32768) (hn : 16 ≤ n ∧ n ≤ 4096) (hm : s_md σ + 2 < 2 ^ 31) (hk : k + 1 < 2 ^ 31) (ht0 : tys[0]? = some (cV, .object "StackRoom$Value")) (ht1 : tys[1]? = some (cT, .object "StackRoom$Thing")) (cx f : Int32) : Met l y_S_push w_S_push ({ frames := 3, cells := 0, slots := 0, locals := 65 }) (g_pre D tys G sz [.ref x, .int cx, .int f]) (va_Qi (fun (rz : Int32) (G1 : gw_G) => rz = (p_push σ cx f).1 ∧ c_R w n (k + 1) cV cT (p_push σ cx f).2 x G1) (g_end D G sz) (gw_A G sz)) 0 0 (gw_A G sz) := by
  refine Met.ofW (cc := b_S_push) (maxL := 4) (ret := (some .boolean)) (by decide) rfl ?_
  intro p e s m args below meth c s₁ B hml hv
  obtain ⟨rfl, hsz, hP, hK⟩ := hv
  have hx := B.exec
  have hb := B.bytes
  have hr := B.returns
  have ht := fun w (hw : w ∈ gt) => atoms_spec (ws := w_S_push) B.pre w (List.mem_cons_of_mem _ hw)
  have hown : s.vm.findClass "StackRoom" = some m.cls := findClass_of_methodNamed B.named
  have hlocks := B.notSynchronized
  have C0 : CallFix p m c b_S_push 4 s [.ref x, .int cx, .int f].toArray gt "StackRoom" := ⟨hx, hb, hml, hown, ht⟩
  subst hsz
  have hP := hP.self (sz := s.heap.size)
  have hA : ∀ q : Nat, s.heap.size ≤ q → gw_A G s.heap.size q := fun q h => Or.inr h
  have hS : va_S (gw_A G s.heap.size) s.heap s.heap [] := va_S.rf
  have hl := lv_entry ([.ref x, .int cx, .int f]) (n := 4) (Nat.le_of_ble_eq_true rfl)
  rw [lg_entry_eq]
  generalize (lg_sl ([.ref x, .int cx, .int f]) ++ List.replicate (4 - (lg_sl ([.ref x, .int cx, .int f])).length) Slot.unset).toArray = ls at hl ⊢
  have hl : lv_has ls 4 [(0, .ref x), (1, .int cx), (2, .int f)] := hl
  obtain ⟨rd, ra, rt, ad, fa, ρ, fr, rr, rf, rc, wl, el, cr, hrd, hR⟩ := hR0
  refine lv_aload_n hx hb d_S_push_0 rfl (lv_at hl 0 rfl) ?_
  refine lv_iload_n hx hb d_S_push_1 rfl (lv_at hl 1 rfl) ?_
  refine va_csq (va_Run.run (r_V (rest := []) C0 [.int cx] (k_S_contextIn l hR hO.1 ht0 cx) ml_S_S_contextIn im_S_contextIn se_S_S_contextIn_S ini_S co_S_contextIn ⟨rfl, hd_S_contextIn⟩ (g_preV (ci := 0) hK hP rfl hR.1) hl.1 d_S_push_2 rfl rfl (Nat.le_of_ble_eq_true rfl) ⟨rfl, rfl⟩ ⟨Nat.le_of_ble_eq_true rfl, Nat.le_of_ble_eq_true rfl⟩ ⟨Nat.le_of_ble_eq_true rfl, Nat.le_of_ble_eq_true rfl⟩)) (fun qc ec => ?_)
  subst ec
  rcases hci : s_ci σ cx with _ | i
  · refine lv_astore_nN (lv' := [(3, .null), (0, .ref x), (1, .int cx), (2, .int f)]) hx hb d_S_push_5 rfl hl (by decide) rfl (fun ls hl => ?_)
    refine lv_aload_nN hx hb d_S_push_6 rfl (lv_at hl 0 rfl) ?_
    refine lv_ifnullN (tgt := 24) hx hb d_S_push_7 (by decide) ?_
    refine lv_iconst (v := 0) hx hb d_S_push_24 (by decide) ?_
    exact W.zret (v := 0) hx hb hr rfl (fun t ht hW => ⟨⟨_, G, rfl, (by rw [show p_push σ cx f = (0, σ) from (by simp only [p_push, hci])]; exact ⟨rfl, c_R.up ⟨rd, ra, rt, ad, fa, ρ, fr, rr, rf, rc, wl, el, cr, hrd, hR⟩⟩), g_fin ht hP⟩, hS.F ht⟩) hS.2.2 d_S_push_25
  · have hc := (s_ci_some hci).2.2
    have hri := s_ci_rch hci
    rcases id hc with h3 | h4
    · refine lv_astore_n (lv' := [(3, .ref (ad i)), (0, .ref x), (1, .int cx), (2, .int f)]) hx hb d_S_push_5 rfl hl (by decide) rfl (fun ls hl => ?_)
      refine lv_aload_n hx hb d_S_push_6 rfl (lv_at hl 0 rfl) ?_
      refine lv_ifnull hx hb d_S_push_7 ?_
      refine lv_iload_n hx hb d_S_push_10 rfl (lv_at hl 3 rfl) ?_
      refine vp_callSi (va_Run.run (r_S (rest := []) C0 [.int f] (k_S_isRegister l f) ml_S_S_isRegister st_S_isRegister ini_S co_S_isRegister hd_S_isRegister v_preS hl.1 d_S_push_11 rfl rfl (Nat.le_of_ble_eq_true rfl) ⟨rfl, rfl⟩ ⟨Nat.le_of_ble_eq_true rfl, Nat.le_of_ble_eq_true rfl⟩ ⟨Nat.le_of_ble_eq_true rfl, Nat.le_of_ble_eq_true rfl⟩)) (fun q11 eq11 => ?_)
      refine lv_if_eq (tgt := 24) hx hb d_S_push_14 (by decide) (fun c11 => ?_) (fun c11 => ?_)
      · have hregf : ¬ (0 ≤ f ∧ f ≤ 15) := fun h => absurd (eq11.symm.trans c11) (by rw [if_pos h]; decide)
        refine lv_iconst (v := 0) hx hb d_S_push_24 (by decide) ?_
        exact W.zret (v := 0) hx hb hr rfl (fun t ht hW => ⟨⟨_, G, rfl, (by rw [show p_push σ cx f = (0, σ) from (by simp only [p_push, hci]; rw [if_neg (fun z => hregf z.1)])]; exact ⟨rfl, c_R.up ⟨rd, ra, rt, ad, fa, ρ, fr, rr, rf, rc, wl, el, cr, hrd, hR⟩⟩), g_fin ht hP⟩, hS.F ht⟩) hS.2.2 d_S_push_25
      · have hregf : 0 ≤ f ∧ f ≤ 15 := Decidable.byContradiction (fun h => c11 (eq11.trans (if_neg h)))
        refine lv_aload_n hx hb d_S_push_17 rfl (lv_at hl 0 rfl) ?_
        refine vp_callSi (va_Run.run (r_U (owner := "StackRoom$Context") (n := 0) (rest := []) C0 [] (k_C_isFull l hR (i := i) hc hO.1 ht0) ml_S_C_isFull sm_C_C_isFull se_X_C_isFull_C im_C_isFull ini_C co_C_isFull rfl (by decide +kernel) (g_preV (ci := 3) hK hP rfl (hR.c3 h3)) hl.1 d_S_push_18 rfl rfl (Nat.le_of_ble_eq_true rfl) ⟨rfl, rfl⟩ ⟨Nat.le_of_ble_eq_true rfl, Nat.le_of_ble_eq_true rfl⟩ ⟨Nat.le_of_ble_eq_true rfl, Nat.le_of_ble_eq_true rfl⟩)) (fun q18 eq18 => ?_)
        refine lv_if_eq (tgt := 26) hx hb d_S_push_21 (by decide) (fun c18 => ?_) (fun c18 => ?_)
        · have hfull : ¬ (s_rm σ i ≤ s_ht σ i) := fun h => absurd (eq18.symm.trans c18) (by rw [if_pos h]; decide)
          refine lv_aload_n hx hb d_S_push_26 rfl (lv_at hl 0 rfl) ?_
          refine lv_aload_n hx hb d_S_push_27 rfl (lv_at hl 1 rfl) ?_
          refine va_get (D := D) (ci := 0) (C := "StackRoom") (T := T_S) (N := 10) (v := .ref ra) hx hb ht in_S hown hK.1 (hP.one hR.1) 0 rfl rfl 2 (by decide) (ht _ fl_S_S_registers) (fun _ h9 => h9) rfl d_S_push_28 ?_
          refine lv_iload_n hx hb d_S_push_31 rfl (lv_at hl 3 rfl) ?_
          refine va_aldq (C := "StackRoom$Value") hx hb hK.1 (hP.one hR.2.1) 0 0 rfl ht0 (s_rin hregf) d_S_push_32 ?_
          have hvf := hR.2.2.2.2.1 _ (s_reg hregf)
          refine g_callv hP hS hA (r_U (owner := "StackRoom$Context") (n := 1) (rest := []) C0 [va_rf (rr f.toNatClampNeg)] (k_C_pushOne l hR hc ht0 hO (by omega) (Nat.not_le.mp hfull) (v := s_get σ f) (fun j e => s_get_rch hregf e) hvf) ml_S_C_pushOne sm_C_C_pushOne se_X_C_pushOne_C im_C_pushOne ini_C co_C_pushOne rfl (by decide +kernel) (g_preV (ci := 3) hK hP rfl (hR.c3 h3)) hl.1 d_S_push_33 rfl rfl (Nat.le_of_ble_eq_true rfl) ⟨rfl, rfl⟩ ⟨Nat.le_of_ble_eq_true rfl, Nat.le_of_ble_eq_true rfl⟩ ⟨Nat.le_of_ble_eq_true rfl, Nat.le_of_ble_eq_true rfl⟩) (fun G1 H locs hR1 hP hS hz9 hk9 => ?_)
          refine lv_iconst (v := 1) hx hb d_S_push_36 (by decide) ?_
          exact W.zret (v := 1) hx hb hr rfl (fun t ht hW => ⟨⟨_, G1, rfl, (by rw [show p_push σ cx f = (1, s_push σ i (s_get σ f)) from (by simp only [p_push, hci]; rw [if_pos ⟨hregf, Nat.not_le.mp hfull⟩])]; exact ⟨rfl, ⟨rd, ra, rt, ad, fa, ρ, _, rr, rf, rc, wl, el, cr, by omega, hR1⟩⟩), g_fin ht hP⟩, hS.F ht⟩) hS.2.2 d_S_push_37
        · have hfull : s_rm σ i ≤ s_ht σ i := Decidable.byContradiction (fun h => c18 (eq18.trans (if_neg h)))
          refine lv_iconst (v := 0) hx hb d_S_push_24 (by decide) ?_
          exact W.zret (v := 0) hx hb hr rfl (fun t ht hW => ⟨⟨_, G, rfl, (by rw [show p_push σ cx f = (0, σ) from (by simp only [p_push, hci]; rw [if_neg (fun z => absurd hfull (Nat.not_le.mpr z.2))])]; exact ⟨rfl, c_R.up ⟨rd, ra, rt, ad, fa, ρ, fr, rr, rf, rc, wl, el, cr, hrd, hR⟩⟩), g_fin ht hP⟩, hS.F ht⟩) hS.2.2 d_S_push_25
    · refine lv_astore_n (lv' := [(3, .ref (ad i)), (0, .ref x), (1, .int cx), (2, .int f)]) hx hb d_S_push_5 rfl hl (by decide) rfl (fun ls hl => ?_)
      refine lv_aload_n hx hb d_S_push_6 rfl (lv_at hl 0 rfl) ?_
      refine lv_ifnull hx hb d_S_push_7 ?_
      refine lv_iload_n hx hb d_S_push_10 rfl (lv_at hl 3 rfl) ?_
      refine vp_callSi (va_Run.run (r_S (rest := []) C0 [.int f] (k_S_isRegister l f) ml_S_S_isRegister st_S_isRegister ini_S co_S_isRegister hd_S_isRegister v_preS hl.1 d_S_push_11 rfl rfl (Nat.le_of_ble_eq_true rfl) ⟨rfl, rfl⟩ ⟨Nat.le_of_ble_eq_true rfl, Nat.le_of_ble_eq_true rfl⟩ ⟨Nat.le_of_ble_eq_true rfl, Nat.le_of_ble_eq_true rfl⟩)) (fun q11 eq11 => ?_)
      refine lv_if_eq (tgt := 24) hx hb d_S_push_14 (by decide) (fun c11 => ?_) (fun c11 => ?_)
      · have hregf : ¬ (0 ≤ f ∧ f ≤ 15) := fun h => absurd (eq11.symm.trans c11) (by rw [if_pos h]; decide)
        refine lv_iconst (v := 0) hx hb d_S_push_24 (by decide) ?_
        exact W.zret (v := 0) hx hb hr rfl (fun t ht hW => ⟨⟨_, G, rfl, (by rw [show p_push σ cx f = (0, σ) from (by simp only [p_push, hci]; rw [if_neg (fun z => hregf z.1)])]; exact ⟨rfl, c_R.up ⟨rd, ra, rt, ad, fa, ρ, fr, rr, rf, rc, wl, el, cr, hrd, hR⟩⟩), g_fin ht hP⟩, hS.F ht⟩) hS.2.2 d_S_push_25
      · have hregf : 0 ≤ f ∧ f ≤ 15 := Decidable.byContradiction (fun h => c11 (eq11.trans (if_neg h)))
        refine lv_aload_n hx hb d_S_push_17 rfl (lv_at hl 0 rfl) ?_
        refine vp_callSi (va_Run.run (r_U (owner := "StackRoom$Context") (n := 0) (rest := []) C0 [] (k_C_isFull l hR (i := i) hc hO.1 ht0) ml_S_C_isFull sm_C_C_isFull se_B_C_isFull_C im_C_isFull ini_C co_C_isFull rfl (by decide +kernel) (g_preV (ci := 4) hK hP rfl (hR.c4 h4)) hl.1 d_S_push_18 rfl rfl (Nat.le_of_ble_eq_true rfl) ⟨rfl, rfl⟩ ⟨Nat.le_of_ble_eq_true rfl, Nat.le_of_ble_eq_true rfl⟩ ⟨Nat.le_of_ble_eq_true rfl, Nat.le_of_ble_eq_true rfl⟩)) (fun q18 eq18 => ?_)
        refine lv_if_eq (tgt := 26) hx hb d_S_push_21 (by decide) (fun c18 => ?_) (fun c18 => ?_)
        · have hfull : ¬ (s_rm σ i ≤ s_ht σ i) := fun h => absurd (eq18.symm.trans c18) (by rw [if_pos h]; decide)
          refine lv_aload_n hx hb d_S_push_26 rfl (lv_at hl 0 rfl) ?_
          refine lv_aload_n hx hb d_S_push_27 rfl (lv_at hl 1 rfl) ?_
          refine va_get (D := D) (ci := 0) (C := "StackRoom") (T := T_S) (N := 10) (v := .ref ra) hx hb ht in_S hown hK.1 (hP.one hR.1) 0 rfl rfl 2 (by decide) (ht _ fl_S_S_registers) (fun _ h9 => h9) rfl d_S_push_28 ?_
          refine lv_iload_n hx hb d_S_push_31 rfl (lv_at hl 3 rfl) ?_
          refine va_aldq (C := "StackRoom$Value") hx hb hK.1 (hP.one hR.2.1) 0 0 rfl ht0 (s_rin hregf) d_S_push_32 ?_
          have hvf := hR.2.2.2.2.1 _ (s_reg hregf)
          refine g_callv hP hS hA (r_U (owner := "StackRoom$Context") (n := 1) (rest := []) C0 [va_rf (rr f.toNatClampNeg)] (k_C_pushOne l hR hc ht0 hO (by omega) (Nat.not_le.mp hfull) (v := s_get σ f) (fun j e => s_get_rch hregf e) hvf) ml_S_C_pushOne sm_C_C_pushOne se_B_C_pushOne_C im_C_pushOne ini_C co_C_pushOne rfl (by decide +kernel) (g_preV (ci := 4) hK hP rfl (hR.c4 h4)) hl.1 d_S_push_33 rfl rfl (Nat.le_of_ble_eq_true rfl) ⟨rfl, rfl⟩ ⟨Nat.le_of_ble_eq_true rfl, Nat.le_of_ble_eq_true rfl⟩ ⟨Nat.le_of_ble_eq_true rfl, Nat.le_of_ble_eq_true rfl⟩) (fun G1 H locs hR1 hP hS hz9 hk9 => ?_)
          refine lv_iconst (v := 1) hx hb d_S_push_36 (by decide) ?_
          exact W.zret (v := 1) hx hb hr rfl (fun t ht hW => ⟨⟨_, G1, rfl, (by rw [show p_push σ cx f = (1, s_push σ i (s_get σ f)) from (by simp only [p_push, hci]; rw [if_pos ⟨hregf, Nat.not_le.mp hfull⟩])]; exact ⟨rfl, ⟨rd, ra, rt, ad, fa, ρ, _, rr, rf, rc, wl, el, cr, by omega, hR1⟩⟩), g_fin ht hP⟩, hS.F ht⟩) hS.2.2 d_S_push_37
        · have hfull : s_rm σ i ≤ s_ht σ i := Decidable.byContradiction (fun h => c18 (eq18.trans (if_neg h)))
          refine lv_iconst (v := 0) hx hb d_S_push_24 (by decide) ?_
          exact W.zret (v := 0) hx hb hr rfl (fun t ht hW => ⟨⟨_, G, rfl, (by rw [show p_push σ cx f = (0, σ) from (by simp only [p_push, hci]; rw [if_neg (fun z => absurd hfull (Nat.not_le.mpr z.2))])]; exact ⟨rfl, c_R.up ⟨rd, ra, rt, ad, fa, ρ, fr, rr, rf, rc, wl, el, cr, hrd, hR⟩⟩), g_fin ht hP⟩, hS.F ht⟩) hS.2.2 d_S_push_25
set_option maxHeartbeats 4000000 in
set_option maxRecDepth 100000 in
theorem k_S_pop (l : Launch) (hR0 : c_R w n k cV cT σ x G) (hO : s_OK w n σ) (hw : 128 ≤ w ∧ w ≤ 32768) (hn : 16 ≤ n ∧ n ≤ 4096) (hm : s_md σ + 2 < 2 ^ 31) (hk : k + 1 < 2 ^ 31) (ht0 : tys[0]? = some (cV, .object "StackRoom$Value")) (ht1 : tys[1]? = some (cT, .object "StackRoom$Thing")) (r cx : Int32) : Met l y_S_pop w_S_pop ({ frames := 3, cells := 0, slots := 0, locals := 65 }) (g_pre D tys G sz [.ref x, .int r, .int cx]) (va_Qi (fun (rz : Int32) (G1 : gw_G) => rz = (p_pop σ r cx).1 ∧ c_R w n (k + 1) cV cT (p_pop σ r cx).2 x G1) (g_end D G sz) (gw_A G sz)) 0 0 (gw_A G sz) := by
  refine Met.ofW (cc := b_S_pop) (maxL := 4) (ret := (some .boolean)) (by decide) rfl ?_
  intro p e s m args below meth c s₁ B hml hv
  obtain ⟨rfl, hsz, hP, hK⟩ := hv
  have hx := B.exec
  have hb := B.bytes
  have hr := B.returns
  have ht := fun w (hw : w ∈ gt) => atoms_spec (ws := w_S_pop) B.pre w (List.mem_cons_of_mem _ hw)
  have hown : s.vm.findClass "StackRoom" = some m.cls := findClass_of_methodNamed B.named
  have hlocks := B.notSynchronized
  have C0 : CallFix p m c b_S_pop 4 s [.ref x, .int r, .int cx].toArray gt "StackRoom" := ⟨hx, hb, hml, hown, ht⟩
  subst hsz
  have hP := hP.self (sz := s.heap.size)
  have hA : ∀ q : Nat, s.heap.size ≤ q → gw_A G s.heap.size q := fun q h => Or.inr h
  have hS : va_S (gw_A G s.heap.size) s.heap s.heap [] := va_S.rf
  have hl := lv_entry ([.ref x, .int r, .int cx]) (n := 4) (Nat.le_of_ble_eq_true rfl)
  rw [lg_entry_eq]
  generalize (lg_sl ([.ref x, .int r, .int cx]) ++ List.replicate (4 - (lg_sl ([.ref x, .int r, .int cx])).length) Slot.unset).toArray = ls at hl ⊢
  have hl : lv_has ls 4 [(0, .ref x), (1, .int r), (2, .int cx)] := hl
  obtain ⟨rd, ra, rt, ad, fa, ρ, fr, rr, rf, rc, wl, el, cr, hrd, hR⟩ := hR0
  refine lv_aload_n hx hb d_S_pop_0 rfl (lv_at hl 0 rfl) ?_
  refine lv_iload_n hx hb d_S_pop_1 rfl (lv_at hl 2 rfl) ?_
  refine va_csq (va_Run.run (r_V (rest := []) C0 [.int cx] (k_S_contextIn l hR hO.1 ht0 cx) ml_S_S_contextIn im_S_contextIn se_S_S_contextIn_S ini_S co_S_contextIn ⟨rfl, hd_S_contextIn⟩ (g_preV (ci := 0) hK hP rfl hR.1) hl.1 d_S_pop_2 rfl rfl (Nat.le_of_ble_eq_true rfl) ⟨rfl, rfl⟩ ⟨Nat.le_of_ble_eq_true rfl, Nat.le_of_ble_eq_true rfl⟩ ⟨Nat.le_of_ble_eq_true rfl, Nat.le_of_ble_eq_true rfl⟩)) (fun qc ec => ?_)
  subst ec
  rcases hci : s_ci σ cx with _ | i
  · refine lv_astore_nN (lv' := [(3, .null), (0, .ref x), (1, .int r), (2, .int cx)]) hx hb d_S_pop_5 rfl hl (by decide) rfl (fun ls hl => ?_)
    refine lv_iload_n hx hb d_S_pop_6 rfl (lv_at hl 2 rfl) ?_
    refine vp_callSi (va_Run.run (r_S (rest := []) C0 [.int r] (k_S_isRegister l r) ml_S_S_isRegister st_S_isRegister ini_S co_S_isRegister hd_S_isRegister v_preS hl.1 d_S_pop_7 rfl rfl (Nat.le_of_ble_eq_true rfl) ⟨rfl, rfl⟩ ⟨Nat.le_of_ble_eq_true rfl, Nat.le_of_ble_eq_true rfl⟩ ⟨Nat.le_of_ble_eq_true rfl, Nat.le_of_ble_eq_true rfl⟩)) (fun q7 eq7 => ?_)
    refine lv_if_eq (tgt := 24) hx hb d_S_pop_10 (by decide) (fun c7 => ?_) (fun c7 => ?_)
    · have hreg : ¬ (0 ≤ r ∧ r ≤ 15) := fun h => absurd (eq7.symm.trans c7) (by rw [if_pos h]; decide)
      refine lv_iconst (v := 0) hx hb d_S_pop_24 (by decide) ?_
      exact W.zret (v := 0) hx hb hr rfl (fun t ht hW => ⟨⟨_, G, rfl, (by rw [show p_pop σ r cx = (0, σ) from (by simp only [p_pop, hci])]; exact ⟨rfl, c_R.up ⟨rd, ra, rt, ad, fa, ρ, fr, rr, rf, rc, wl, el, cr, hrd, hR⟩⟩), g_fin ht hP⟩, hS.F ht⟩) hS.2.2 d_S_pop_25
    · have hreg : 0 ≤ r ∧ r ≤ 15 := Decidable.byContradiction (fun h => c7 (eq7.trans (if_neg h)))
      refine lv_aload_nN hx hb d_S_pop_13 rfl (lv_at hl 0 rfl) ?_
      refine lv_ifnullN (tgt := 24) hx hb d_S_pop_14 (by decide) ?_
      refine lv_iconst (v := 0) hx hb d_S_pop_24 (by decide) ?_
      exact W.zret (v := 0) hx hb hr rfl (fun t ht hW => ⟨⟨_, G, rfl, (by rw [show p_pop σ r cx = (0, σ) from (by simp only [p_pop, hci])]; exact ⟨rfl, c_R.up ⟨rd, ra, rt, ad, fa, ρ, fr, rr, rf, rc, wl, el, cr, hrd, hR⟩⟩), g_fin ht hP⟩, hS.F ht⟩) hS.2.2 d_S_pop_25
  · have hc := (s_ci_some hci).2.2
    have hri := s_ci_rch hci
    rcases id hc with h3 | h4
    · have hb9 := (hO.1.2.2.2.2.2.2 i hc).2
      have hf9 := s_fr_le hO.1 hc
      refine lv_astore_n (lv' := [(3, .ref (ad i)), (0, .ref x), (1, .int r), (2, .int cx)]) hx hb d_S_pop_5 rfl hl (by decide) rfl (fun ls hl => ?_)
      refine lv_iload_n hx hb d_S_pop_6 rfl (lv_at hl 2 rfl) ?_
      refine vp_callSi (va_Run.run (r_S (rest := []) C0 [.int r] (k_S_isRegister l r) ml_S_S_isRegister st_S_isRegister ini_S co_S_isRegister hd_S_isRegister v_preS hl.1 d_S_pop_7 rfl rfl (Nat.le_of_ble_eq_true rfl) ⟨rfl, rfl⟩ ⟨Nat.le_of_ble_eq_true rfl, Nat.le_of_ble_eq_true rfl⟩ ⟨Nat.le_of_ble_eq_true rfl, Nat.le_of_ble_eq_true rfl⟩)) (fun q7 eq7 => ?_)
      refine lv_if_eq (tgt := 24) hx hb d_S_pop_10 (by decide) (fun c7 => ?_) (fun c7 => ?_)
      · have hreg : ¬ (0 ≤ r ∧ r ≤ 15) := fun h => absurd (eq7.symm.trans c7) (by rw [if_pos h]; decide)
        refine lv_iconst (v := 0) hx hb d_S_pop_24 (by decide) ?_
        exact W.zret (v := 0) hx hb hr rfl (fun t ht hW => ⟨⟨_, G, rfl, (by rw [show p_pop σ r cx = (0, σ) from (by simp only [p_pop, hci]; rw [if_neg (fun z => hreg z.1)])]; exact ⟨rfl, c_R.up ⟨rd, ra, rt, ad, fa, ρ, fr, rr, rf, rc, wl, el, cr, hrd, hR⟩⟩), g_fin ht hP⟩, hS.F ht⟩) hS.2.2 d_S_pop_25
      · have hreg : 0 ≤ r ∧ r ≤ 15 := Decidable.byContradiction (fun h => c7 (eq7.trans (if_neg h)))
        refine lv_aload_n hx hb d_S_pop_13 rfl (lv_at hl 0 rfl) ?_
        refine lv_ifnull hx hb d_S_pop_14 ?_
        refine lv_aload_n hx hb d_S_pop_17 rfl (lv_at hl 0 rfl) ?_
        refine vp_callSi (va_Run.run (r_U (owner := "StackRoom$Context") (n := 0) (rest := []) C0 [] (k_C_depthNow l hR (i := i) hc hO.1) ml_S_C_depthNow sm_C_C_depthNow se_X_C_depthNow_C im_C_depthNow ini_C co_C_depthNow rfl (by decide +kernel) (g_preV (ci := 3) hK hP rfl (hR.c3 h3)) hl.1 d_S_pop_18 rfl rfl (Nat.le_of_ble_eq_true rfl) ⟨rfl, rfl⟩ ⟨Nat.le_of_ble_eq_true rfl, Nat.le_of_ble_eq_true rfl⟩ ⟨Nat.le_of_ble_eq_true rfl, Nat.le_of_ble_eq_true rfl⟩)) (fun qd ed => ?_)
        refine lv_if_gt (tgt := 26) hx hb d_S_pop_21 (by decide) (fun cd => ?_) (fun cd => ?_)
        · have hd : s_fr σ i < s_ht σ i := (dp_pos (by omega) (by omega)).mp (ed ▸ cd)
          refine lv_aload_n hx hb d_S_pop_26 rfl (lv_at hl 1 rfl) ?_
          refine va_get (D := D) (ci := 0) (C := "StackRoom") (T := T_S) (N := 10) (v := .ref ra) hx hb ht in_S hown hK.1 (hP.one hR.1) 0 rfl rfl 2 (by decide) (ht _ fl_S_S_registers) (fun _ h9 => h9) rfl d_S_pop_27 ?_
          refine lv_iload_n hx hb d_S_pop_30 rfl (lv_at hl 2 rfl) ?_
          refine lv_aload_n hx hb d_S_pop_31 rfl (lv_at hl 0 rfl) ?_
          refine g_callq hP hS hA (r_U (owner := "StackRoom$Context") (n := 0) (rest := [.int r, .ref ra]) C0 [] (k_C_popOne l hR hc ht0 hO (by omega) (by omega)) ml_S_C_popOne sm_C_C_popOne se_X_C_popOne_C im_C_popOne ini_C co_C_popOne rfl (by decide +kernel) (g_preV (ci := 3) hK hP rfl (hR.c3 h3)) hl.1 d_S_pop_32 rfl rfl (Nat.le_of_ble_eq_true rfl) ⟨rfl, rfl⟩ ⟨Nat.le_of_ble_eq_true rfl, Nat.le_of_ble_eq_true rfl⟩ ⟨Nat.le_of_ble_eq_true rfl, Nat.le_of_ble_eq_true rfl⟩) (fun rq G1 H locs hq1 hP hS hz9 hk9 => ?_)
          obtain ⟨erq, hR1, hcv⟩ := hq1
          subst erq
          have hvf := hcv _ _ (hR.2.2.2.2.2.2.2.1 i hc (s_ht σ i - 1) (by omega))
          have hI1 := (s_pop_OK hO hc).1
          refine gw_astqO (v := fr i (s_ht σ i - 1)) hx hb hK.1 hP hS 0 hR1.2.1 ht0 (fun y hy => c_any hK hP (c_val_isv hR1 hI1 hvf (fun j e => hb9.2.2.2 (s_ht σ i - 1) (by omega) j e) y hy)) (s_rin hreg) d_S_pop_35 (fun H locs hP hS => ?_)
          obtain ⟨G1, eG1⟩ : ∃ z : gw_G, z = va_up G1 ra (some (.inl (cV, 16, qv (va_up rr r.toNatClampNeg (fr i (s_ht σ i - 1)))))) := ⟨_, rfl⟩
          replace hP : gw_P D vwCl (gw_A G s.heap.size) G1 H := by rw [eG1]; exact hP
          have hR9 := hR1.reg (k := r.toNatClampNeg) (v := s_fl σ i (s_ht σ i - 1)) (r := fr i (s_ht σ i - 1)) hvf
          rw [← eG1] at hR9
          refine lv_iconst (v := 1) hx hb d_S_pop_36 (by decide) ?_
          exact W.zret (v := 1) hx hb hr rfl (fun t ht hW => ⟨⟨_, G1, rfl, (by rw [show p_pop σ r cx = (1, s_put (s_pop σ i) r (s_fl σ i (s_ht σ i - 1))) from (by simp only [p_pop, hci]; rw [if_pos ⟨hreg, hd⟩])]; exact ⟨rfl, ⟨rd, ra, rt, ad, fa, ρ, _, _, rf, rc, wl, el, cr, by omega, hR9⟩⟩), g_fin ht hP⟩, hS.F ht⟩) hS.2.2 d_S_pop_37
        · have hd : ¬ s_fr σ i < s_ht σ i := fun z => cd (ed ▸ (dp_pos (by omega) (by omega)).mpr z)
          refine lv_iconst (v := 0) hx hb d_S_pop_24 (by decide) ?_
          exact W.zret (v := 0) hx hb hr rfl (fun t ht hW => ⟨⟨_, G, rfl, (by rw [show p_pop σ r cx = (0, σ) from (by simp only [p_pop, hci]; rw [if_neg (fun z => hd z.2)])]; exact ⟨rfl, c_R.up ⟨rd, ra, rt, ad, fa, ρ, fr, rr, rf, rc, wl, el, cr, hrd, hR⟩⟩), g_fin ht hP⟩, hS.F ht⟩) hS.2.2 d_S_pop_25
    · have hb9 := (hO.1.2.2.2.2.2.2 i hc).2
      have hf9 := s_fr_le hO.1 hc
      refine lv_astore_n (lv' := [(3, .ref (ad i)), (0, .ref x), (1, .int r), (2, .int cx)]) hx hb d_S_pop_5 rfl hl (by decide) rfl (fun ls hl => ?_)
      refine lv_iload_n hx hb d_S_pop_6 rfl (lv_at hl 2 rfl) ?_
      refine vp_callSi (va_Run.run (r_S (rest := []) C0 [.int r] (k_S_isRegister l r) ml_S_S_isRegister st_S_isRegister ini_S co_S_isRegister hd_S_isRegister v_preS hl.1 d_S_pop_7 rfl rfl (Nat.le_of_ble_eq_true rfl) ⟨rfl, rfl⟩ ⟨Nat.le_of_ble_eq_true rfl, Nat.le_of_ble_eq_true rfl⟩ ⟨Nat.le_of_ble_eq_true rfl, Nat.le_of_ble_eq_true rfl⟩)) (fun q7 eq7 => ?_)
      refine lv_if_eq (tgt := 24) hx hb d_S_pop_10 (by decide) (fun c7 => ?_) (fun c7 => ?_)
      · have hreg : ¬ (0 ≤ r ∧ r ≤ 15) := fun h => absurd (eq7.symm.trans c7) (by rw [if_pos h]; decide)
        refine lv_iconst (v := 0) hx hb d_S_pop_24 (by decide) ?_
        exact W.zret (v := 0) hx hb hr rfl (fun t ht hW => ⟨⟨_, G, rfl, (by rw [show p_pop σ r cx = (0, σ) from (by simp only [p_pop, hci]; rw [if_neg (fun z => hreg z.1)])]; exact ⟨rfl, c_R.up ⟨rd, ra, rt, ad, fa, ρ, fr, rr, rf, rc, wl, el, cr, hrd, hR⟩⟩), g_fin ht hP⟩, hS.F ht⟩) hS.2.2 d_S_pop_25
      · have hreg : 0 ≤ r ∧ r ≤ 15 := Decidable.byContradiction (fun h => c7 (eq7.trans (if_neg h)))
        refine lv_aload_n hx hb d_S_pop_13 rfl (lv_at hl 0 rfl) ?_
        refine lv_ifnull hx hb d_S_pop_14 ?_
        refine lv_aload_n hx hb d_S_pop_17 rfl (lv_at hl 0 rfl) ?_
        refine vp_callSi (va_Run.run (r_U (owner := "StackRoom$Context") (n := 0) (rest := []) C0 [] (k_C_depthNow l hR (i := i) hc hO.1) ml_S_C_depthNow sm_C_C_depthNow se_B_C_depthNow_C im_C_depthNow ini_C co_C_depthNow rfl (by decide +kernel) (g_preV (ci := 4) hK hP rfl (hR.c4 h4)) hl.1 d_S_pop_18 rfl rfl (Nat.le_of_ble_eq_true rfl) ⟨rfl, rfl⟩ ⟨Nat.le_of_ble_eq_true rfl, Nat.le_of_ble_eq_true rfl⟩ ⟨Nat.le_of_ble_eq_true rfl, Nat.le_of_ble_eq_true rfl⟩)) (fun qd ed => ?_)
        refine lv_if_gt (tgt := 26) hx hb d_S_pop_21 (by decide) (fun cd => ?_) (fun cd => ?_)
        · have hd : s_fr σ i < s_ht σ i := (dp_pos (by omega) (by omega)).mp (ed ▸ cd)
          refine lv_aload_n hx hb d_S_pop_26 rfl (lv_at hl 1 rfl) ?_
          refine va_get (D := D) (ci := 0) (C := "StackRoom") (T := T_S) (N := 10) (v := .ref ra) hx hb ht in_S hown hK.1 (hP.one hR.1) 0 rfl rfl 2 (by decide) (ht _ fl_S_S_registers) (fun _ h9 => h9) rfl d_S_pop_27 ?_
          refine lv_iload_n hx hb d_S_pop_30 rfl (lv_at hl 2 rfl) ?_
          refine lv_aload_n hx hb d_S_pop_31 rfl (lv_at hl 0 rfl) ?_
          refine g_callq hP hS hA (r_U (owner := "StackRoom$Context") (n := 0) (rest := [.int r, .ref ra]) C0 [] (k_C_popOne l hR hc ht0 hO (by omega) (by omega)) ml_S_C_popOne sm_C_C_popOne se_B_C_popOne_C im_C_popOne ini_C co_C_popOne rfl (by decide +kernel) (g_preV (ci := 4) hK hP rfl (hR.c4 h4)) hl.1 d_S_pop_32 rfl rfl (Nat.le_of_ble_eq_true rfl) ⟨rfl, rfl⟩ ⟨Nat.le_of_ble_eq_true rfl, Nat.le_of_ble_eq_true rfl⟩ ⟨Nat.le_of_ble_eq_true rfl, Nat.le_of_ble_eq_true rfl⟩) (fun rq G1 H locs hq1 hP hS hz9 hk9 => ?_)
          obtain ⟨erq, hR1, hcv⟩ := hq1
          subst erq
          have hvf := hcv _ _ (hR.2.2.2.2.2.2.2.1 i hc (s_ht σ i - 1) (by omega))
          have hI1 := (s_pop_OK hO hc).1
          refine gw_astqO (v := fr i (s_ht σ i - 1)) hx hb hK.1 hP hS 0 hR1.2.1 ht0 (fun y hy => c_any hK hP (c_val_isv hR1 hI1 hvf (fun j e => hb9.2.2.2 (s_ht σ i - 1) (by omega) j e) y hy)) (s_rin hreg) d_S_pop_35 (fun H locs hP hS => ?_)
          obtain ⟨G2, eG2⟩ : ∃ z : gw_G, z = va_up G1 ra (some (.inl (cV, 16, qv (va_up rr r.toNatClampNeg (fr i (s_ht σ i - 1)))))) := ⟨_, rfl⟩
          replace hP : gw_P D vwCl (gw_A G s.heap.size) G2 H := by rw [eG2]; exact hP
          have hR9 := hR1.reg (k := r.toNatClampNeg) (v := s_fl σ i (s_ht σ i - 1)) (r := fr i (s_ht σ i - 1)) hvf
          rw [← eG2] at hR9
          refine lv_iconst (v := 1) hx hb d_S_pop_36 (by decide) ?_
          exact W.zret (v := 1) hx hb hr rfl (fun t ht hW => ⟨⟨_, G2, rfl, (by rw [show p_pop σ r cx = (1, s_put (s_pop σ i) r (s_fl σ i (s_ht σ i - 1))) from (by simp only [p_pop, hci]; rw [if_pos ⟨hreg, hd⟩])]; exact ⟨rfl, ⟨rd, ra, rt, ad, fa, ρ, _, _, rf, rc, wl, el, cr, by omega, hR9⟩⟩), g_fin ht hP⟩, hS.F ht⟩) hS.2.2 d_S_pop_37
        · have hd : ¬ s_fr σ i < s_ht σ i := fun z => cd (ed ▸ (dp_pos (by omega) (by omega)).mpr z)
          refine lv_iconst (v := 0) hx hb d_S_pop_24 (by decide) ?_
          exact W.zret (v := 0) hx hb hr rfl (fun t ht hW => ⟨⟨_, G, rfl, (by rw [show p_pop σ r cx = (0, σ) from (by simp only [p_pop, hci]; rw [if_neg (fun z => hd z.2)])]; exact ⟨rfl, c_R.up ⟨rd, ra, rt, ad, fa, ρ, fr, rr, rf, rc, wl, el, cr, hrd, hR⟩⟩), g_fin ht hP⟩, hS.F ht⟩) hS.2.2 d_S_pop_25
set_option maxHeartbeats 4000000 in
set_option maxRecDepth 100000 in
theorem k_S_peek (l : Launch) (hR0 : c_R w n k cV cT σ x G) (hO : s_OK w n σ) (hw : 128 ≤ w ∧ w ≤ 32768) (hn : 16 ≤ n ∧ n ≤ 4096) (hm : s_md σ + 2 < 2 ^ 31) (hk : k + 1 < 2 ^ 31) (ht0 : tys[0]? = some (cV, .object "StackRoom$Value")) (ht1 : tys[1]? = some (cT, .object "StackRoom$Thing")) (r cx u : Int32) : Met l y_S_peek w_S_peek ({ frames := 3, cells := 0, slots := 0, locals := 65 }) (g_pre D tys G sz [.ref x, .int r, .int cx, .int u]) (va_Qi (fun (rz : Int32) (G1 : gw_G) => rz = (p_peek σ r cx u).1 ∧ c_R w n (k + 1) cV cT (p_peek σ r cx u).2 x G1) (g_end D G sz) (gw_A G sz)) 0 0 (gw_A G sz) := by
  refine Met.ofW (cc := b_S_peek) (maxL := 5) (ret := (some .boolean)) (by decide) rfl ?_
  intro p e s m args below meth c s₁ B hml hv
  obtain ⟨rfl, hsz, hP, hK⟩ := hv
  have hx := B.exec
  have hb := B.bytes
  have hr := B.returns
  have ht := fun w (hw : w ∈ gt) => atoms_spec (ws := w_S_peek) B.pre w (List.mem_cons_of_mem _ hw)
  have hown : s.vm.findClass "StackRoom" = some m.cls := findClass_of_methodNamed B.named
  have hlocks := B.notSynchronized
  have C0 : CallFix p m c b_S_peek 5 s [.ref x, .int r, .int cx, .int u].toArray gt "StackRoom" := ⟨hx, hb, hml, hown, ht⟩
  subst hsz
  have hP := hP.self (sz := s.heap.size)
  have hA : ∀ q : Nat, s.heap.size ≤ q → gw_A G s.heap.size q := fun q h => Or.inr h
  have hS : va_S (gw_A G s.heap.size) s.heap s.heap [] := va_S.rf
  have hl := lv_entry ([.ref x, .int r, .int cx, .int u]) (n := 5) (Nat.le_of_ble_eq_true rfl)
  rw [lg_entry_eq]
  generalize (lg_sl ([.ref x, .int r, .int cx, .int u]) ++ List.replicate (5 - (lg_sl ([.ref x, .int r, .int cx, .int u])).length) Slot.unset).toArray = ls at hl ⊢
  have hl : lv_has ls 5 [(0, .ref x), (1, .int r), (2, .int cx), (3, .int u)] := hl
  obtain ⟨rd, ra, rt, ad, fa, ρ, fr, rr, rf, rc, wl, el, cr, hrd, hR⟩ := hR0
  refine lv_aload_n hx hb d_S_peek_0 rfl (lv_at hl 0 rfl) ?_
  refine lv_iload_n hx hb d_S_peek_1 rfl (lv_at hl 2 rfl) ?_
  refine va_csq (va_Run.run (r_V (rest := []) C0 [.int cx] (k_S_contextIn l hR hO.1 ht0 cx) ml_S_S_contextIn im_S_contextIn se_S_S_contextIn_S ini_S co_S_contextIn ⟨rfl, hd_S_contextIn⟩ (g_preV (ci := 0) hK hP rfl hR.1) hl.1 d_S_peek_2 rfl rfl (Nat.le_of_ble_eq_true rfl) ⟨rfl, rfl⟩ ⟨Nat.le_of_ble_eq_true rfl, Nat.le_of_ble_eq_true rfl⟩ ⟨Nat.le_of_ble_eq_true rfl, Nat.le_of_ble_eq_true rfl⟩)) (fun qc ec => ?_)
  subst ec
  rcases hci : s_ci σ cx with _ | i
  · refine lv_astoreN (lv' := [(4, .null), (0, .ref x), (1, .int r), (2, .int cx), (3, .int u)]) hx hb d_S_peek_5 hl (by decide) rfl (fun ls hl => ?_)
    refine lv_iload_n hx hb d_S_peek_7 rfl (lv_at hl 2 rfl) ?_
    refine vp_callSi (va_Run.run (r_S (rest := []) C0 [.int r] (k_S_isRegister l r) ml_S_S_isRegister st_S_isRegister ini_S co_S_isRegister hd_S_isRegister v_preS hl.1 d_S_peek_8 rfl rfl (Nat.le_of_ble_eq_true rfl) ⟨rfl, rfl⟩ ⟨Nat.le_of_ble_eq_true rfl, Nat.le_of_ble_eq_true rfl⟩ ⟨Nat.le_of_ble_eq_true rfl, Nat.le_of_ble_eq_true rfl⟩)) (fun q8 eq8 => ?_)
    refine lv_if_eq (tgt := 32) hx hb d_S_peek_11 (by decide) (fun c8 => ?_) (fun c8 => ?_)
    · have hreg : ¬ (0 ≤ r ∧ r ≤ 15) := fun h => absurd (eq8.symm.trans c8) (by rw [if_pos h]; decide)
      refine lv_iconst (v := 0) hx hb d_S_peek_32 (by decide) ?_
      exact W.zret (v := 0) hx hb hr rfl (fun t ht hW => ⟨⟨_, G, rfl, (by rw [show p_peek σ r cx u = (0, σ) from (by simp only [p_peek, hci])]; exact ⟨rfl, c_R.up ⟨rd, ra, rt, ad, fa, ρ, fr, rr, rf, rc, wl, el, cr, hrd, hR⟩⟩), g_fin ht hP⟩, hS.F ht⟩) hS.2.2 d_S_peek_33
    · have hreg : 0 ≤ r ∧ r ≤ 15 := Decidable.byContradiction (fun h => c8 (eq8.trans (if_neg h)))
      refine lv_aloadN hx hb d_S_peek_14 (lv_at hl 0 rfl) ?_
      refine lv_ifnullN (tgt := 32) hx hb d_S_peek_16 (by decide) ?_
      refine lv_iconst (v := 0) hx hb d_S_peek_32 (by decide) ?_
      exact W.zret (v := 0) hx hb hr rfl (fun t ht hW => ⟨⟨_, G, rfl, (by rw [show p_peek σ r cx u = (0, σ) from (by simp only [p_peek, hci])]; exact ⟨rfl, c_R.up ⟨rd, ra, rt, ad, fa, ρ, fr, rr, rf, rc, wl, el, cr, hrd, hR⟩⟩), g_fin ht hP⟩, hS.F ht⟩) hS.2.2 d_S_peek_33
  · have hc := (s_ci_some hci).2.2
    have hri := s_ci_rch hci
    rcases id hc with h3 | h4
    · have hb9 := (hO.1.2.2.2.2.2.2 i hc).2
      have hf9 := s_fr_le hO.1 hc
      refine lv_astore (lv' := [(4, .ref (ad i)), (0, .ref x), (1, .int r), (2, .int cx), (3, .int u)]) hx hb d_S_peek_5 hl (by decide) rfl (fun ls hl => ?_)
      refine lv_iload_n hx hb d_S_peek_7 rfl (lv_at hl 2 rfl) ?_
      refine vp_callSi (va_Run.run (r_S (rest := []) C0 [.int r] (k_S_isRegister l r) ml_S_S_isRegister st_S_isRegister ini_S co_S_isRegister hd_S_isRegister v_preS hl.1 d_S_peek_8 rfl rfl (Nat.le_of_ble_eq_true rfl) ⟨rfl, rfl⟩ ⟨Nat.le_of_ble_eq_true rfl, Nat.le_of_ble_eq_true rfl⟩ ⟨Nat.le_of_ble_eq_true rfl, Nat.le_of_ble_eq_true rfl⟩)) (fun q8 eq8 => ?_)
      refine lv_if_eq (tgt := 32) hx hb d_S_peek_11 (by decide) (fun c8 => ?_) (fun c8 => ?_)
      · have hreg : ¬ (0 ≤ r ∧ r ≤ 15) := fun h => absurd (eq8.symm.trans c8) (by rw [if_pos h]; decide)
        refine lv_iconst (v := 0) hx hb d_S_peek_32 (by decide) ?_
        exact W.zret (v := 0) hx hb hr rfl (fun t ht hW => ⟨⟨_, G, rfl, (by rw [show p_peek σ r cx u = (0, σ) from (by simp only [p_peek, hci]; rw [if_neg (fun z => hreg z.1)])]; exact ⟨rfl, c_R.up ⟨rd, ra, rt, ad, fa, ρ, fr, rr, rf, rc, wl, el, cr, hrd, hR⟩⟩), g_fin ht hP⟩, hS.F ht⟩) hS.2.2 d_S_peek_33
      · have hreg : 0 ≤ r ∧ r ≤ 15 := Decidable.byContradiction (fun h => c8 (eq8.trans (if_neg h)))
        refine lv_aload hx hb d_S_peek_14 (lv_at hl 0 rfl) ?_
        refine lv_ifnull hx hb d_S_peek_16 ?_
        refine lv_iload_n hx hb d_S_peek_19 rfl (lv_at hl 4 rfl) ?_
        refine lv_if_lt (tgt := 32) hx hb d_S_peek_20 (by decide) (fun cu => ?_) (fun cu => ?_)
        · refine lv_iconst (v := 0) hx hb d_S_peek_32 (by decide) ?_
          exact W.zret (v := 0) hx hb hr rfl (fun t ht hW => ⟨⟨_, G, rfl, (by rw [show p_peek σ r cx u = (0, σ) from (by simp only [p_peek, hci]; rw [if_neg (fun z => absurd z.2.1 (Int32.not_le.mpr cu))])]; exact ⟨rfl, c_R.up ⟨rd, ra, rt, ad, fa, ρ, fr, rr, rf, rc, wl, el, cr, hrd, hR⟩⟩), g_fin ht hP⟩, hS.F ht⟩) hS.2.2 d_S_peek_33
        · have hu := Int32.not_lt.mp cu
          refine lv_iload_n hx hb d_S_peek_23 rfl (lv_at hl 4 rfl) ?_
          refine lv_aload hx hb d_S_peek_24 (lv_at hl 0 rfl) ?_
          refine vp_callSi (va_Run.run (r_U (owner := "StackRoom$Context") (n := 0) (rest := [.int u]) C0 [] (k_C_depthNow l hR (i := i) hc hO.1) ml_S_C_depthNow sm_C_C_depthNow se_X_C_depthNow_C im_C_depthNow ini_C co_C_depthNow rfl (by decide +kernel) (g_preV (ci := 3) hK hP rfl (hR.c3 h3)) hl.1 d_S_peek_26 rfl rfl (Nat.le_of_ble_eq_true rfl) ⟨rfl, rfl⟩ ⟨Nat.le_of_ble_eq_true rfl, Nat.le_of_ble_eq_true rfl⟩ ⟨Nat.le_of_ble_eq_true rfl, Nat.le_of_ble_eq_true rfl⟩)) (fun qd ed => ?_)
          refine lv_icmp_lt (tgt := 34) hx hb d_S_peek_29 (by decide) (fun cd => ?_) (fun cd => ?_)
          · have hd : s_fr σ i + u.toNatClampNeg < s_ht σ i := (dp_lt (by omega) (by omega) hu).mp (ed ▸ cd)
            refine lv_aload_n hx hb d_S_peek_34 rfl (lv_at hl 1 rfl) ?_
            refine va_get (D := D) (ci := 0) (C := "StackRoom") (T := T_S) (N := 10) (v := .ref ra) hx hb ht in_S hown hK.1 (hP.one hR.1) 0 rfl rfl 2 (by decide) (ht _ fl_S_S_registers) (fun _ h9 => h9) rfl d_S_peek_35 ?_
            refine lv_iload_n hx hb d_S_peek_38 rfl (lv_at hl 2 rfl) ?_
            refine lv_aload hx hb d_S_peek_39 (lv_at hl 0 rfl) ?_
            refine lv_aload hx hb d_S_peek_41 (lv_at hl 0 rfl) ?_
            refine va_getN (D := D) (ci := 3) (C := "StackRoom$MethodContext") (T := T_X) (N := 7) (v := .int (nI (s_ht σ i))) hx hb ht in_X hown hK.1 (hP.one (hR.c3 h3)) 0 rfl rfl 4 (by decide) (va_Nw.use rfl (hK.2.1 _ fn_S_C_height)) (fun _ h9 => h9) rfl d_S_peek_43 ?_
            refine lv_iconst (v := 1) hx hb d_S_peek_46 (by decide) ?_
            refine lv_isub hx hb d_S_peek_47 ?_
            refine lv_iload_n hx hb d_S_peek_48 rfl (lv_at hl 4 rfl) ?_
            refine lv_isub hx hb d_S_peek_49 ?_
            have eix : nI (s_ht σ i) - 1 - u = nI (s_ht σ i - 1 - u.toNatClampNeg) := by rw [← pk_sub (by omega), ← pk_sub (b := 1) (by omega), s_clampI hu]; rfl
            refine va_csq (va_Run.run (r_U (owner := "StackRoom$Context") (n := 1) (rest := [.int r, .ref ra]) C0 [.int (((nI (s_ht σ i)) - 1) - u)] (k_C_fieldAt l hR (i := i) hc hO.1 ht0 (nI (s_ht σ i) - 1 - u)) ml_S_C_fieldAt sm_C_C_fieldAt se_X_C_fieldAt_C im_C_fieldAt ini_C co_C_fieldAt rfl (by decide +kernel) (g_preV (ci := 3) hK hP rfl (hR.c3 h3)) hl.1 d_S_peek_50 rfl rfl (Nat.le_of_ble_eq_true rfl) ⟨rfl, rfl⟩ ⟨Nat.le_of_ble_eq_true rfl, Nat.le_of_ble_eq_true rfl⟩ ⟨Nat.le_of_ble_eq_true rfl, Nat.le_of_ble_eq_true rfl⟩)) (fun qf ef => ?_)
            rw [eix, if_pos ⟨nI_pos' (by omega), (nI_ltI (by omega) (by omega)).mpr (by omega)⟩, nI_clamp (by omega)] at ef
            subst ef
            have hvf := hR.2.2.2.2.2.2.2.1 i hc (s_ht σ i - 1 - u.toNatClampNeg) (by omega)
            refine gw_astqO (v := fr i (s_ht σ i - 1 - u.toNatClampNeg)) hx hb hK.1 hP hS 0 hR.2.1 ht0 (fun y hy => c_any hK hP (c_val_isv hR hO.1 hvf (fun j e => hb9.2.2.2 (s_ht σ i - 1 - u.toNatClampNeg) (by omega) j e) y hy)) (s_rin hreg) d_S_peek_53 (fun H locs hP hS => ?_)
            obtain ⟨G1, eG1⟩ : ∃ z : gw_G, z = va_up G ra (some (.inl (cV, 16, qv (va_up rr r.toNatClampNeg (fr i (s_ht σ i - 1 - u.toNatClampNeg)))))) := ⟨_, rfl⟩
            replace hP : gw_P D vwCl (gw_A G s.heap.size) G1 H := by rw [eG1]; exact hP
            have hR9 := hR.reg (k := r.toNatClampNeg) (v := s_fl σ i (s_ht σ i - 1 - u.toNatClampNeg)) (r := fr i (s_ht σ i - 1 - u.toNatClampNeg)) hvf
            rw [← eG1] at hR9
            refine lv_iconst (v := 1) hx hb d_S_peek_54 (by decide) ?_
            exact W.zret (v := 1) hx hb hr rfl (fun t ht hW => ⟨⟨_, G1, rfl, (by rw [show p_peek σ r cx u = (1, s_put σ r (s_fl σ i (s_ht σ i - 1 - u.toNatClampNeg))) from (by simp only [p_peek, hci]; rw [if_pos ⟨hreg, hu, hd⟩])]; exact ⟨rfl, ⟨rd, ra, rt, ad, fa, ρ, fr, _, rf, rc, wl, el, cr, by omega, hR9⟩⟩), g_fin ht hP⟩, hS.F ht⟩) hS.2.2 d_S_peek_55
          · have hd : ¬ s_fr σ i + u.toNatClampNeg < s_ht σ i := fun z => cd (ed ▸ (dp_lt (by omega) (by omega) hu).mpr z)
            refine lv_iconst (v := 0) hx hb d_S_peek_32 (by decide) ?_
            exact W.zret (v := 0) hx hb hr rfl (fun t ht hW => ⟨⟨_, G, rfl, (by rw [show p_peek σ r cx u = (0, σ) from (by simp only [p_peek, hci]; rw [if_neg (fun z => hd z.2.2)])]; exact ⟨rfl, c_R.up ⟨rd, ra, rt, ad, fa, ρ, fr, rr, rf, rc, wl, el, cr, hrd, hR⟩⟩), g_fin ht hP⟩, hS.F ht⟩) hS.2.2 d_S_peek_33
    · have hb9 := (hO.1.2.2.2.2.2.2 i hc).2
      have hf9 := s_fr_le hO.1 hc
      refine lv_astore (lv' := [(4, .ref (ad i)), (0, .ref x), (1, .int r), (2, .int cx), (3, .int u)]) hx hb d_S_peek_5 hl (by decide) rfl (fun ls hl => ?_)
      refine lv_iload_n hx hb d_S_peek_7 rfl (lv_at hl 2 rfl) ?_
      refine vp_callSi (va_Run.run (r_S (rest := []) C0 [.int r] (k_S_isRegister l r) ml_S_S_isRegister st_S_isRegister ini_S co_S_isRegister hd_S_isRegister v_preS hl.1 d_S_peek_8 rfl rfl (Nat.le_of_ble_eq_true rfl) ⟨rfl, rfl⟩ ⟨Nat.le_of_ble_eq_true rfl, Nat.le_of_ble_eq_true rfl⟩ ⟨Nat.le_of_ble_eq_true rfl, Nat.le_of_ble_eq_true rfl⟩)) (fun q8 eq8 => ?_)
      refine lv_if_eq (tgt := 32) hx hb d_S_peek_11 (by decide) (fun c8 => ?_) (fun c8 => ?_)
      · have hreg : ¬ (0 ≤ r ∧ r ≤ 15) := fun h => absurd (eq8.symm.trans c8) (by rw [if_pos h]; decide)
        refine lv_iconst (v := 0) hx hb d_S_peek_32 (by decide) ?_
        exact W.zret (v := 0) hx hb hr rfl (fun t ht hW => ⟨⟨_, G, rfl, (by rw [show p_peek σ r cx u = (0, σ) from (by simp only [p_peek, hci]; rw [if_neg (fun z => hreg z.1)])]; exact ⟨rfl, c_R.up ⟨rd, ra, rt, ad, fa, ρ, fr, rr, rf, rc, wl, el, cr, hrd, hR⟩⟩), g_fin ht hP⟩, hS.F ht⟩) hS.2.2 d_S_peek_33
      · have hreg : 0 ≤ r ∧ r ≤ 15 := Decidable.byContradiction (fun h => c8 (eq8.trans (if_neg h)))
        refine lv_aload hx hb d_S_peek_14 (lv_at hl 0 rfl) ?_
        refine lv_ifnull hx hb d_S_peek_16 ?_
        refine lv_iload_n hx hb d_S_peek_19 rfl (lv_at hl 4 rfl) ?_
        refine lv_if_lt (tgt := 32) hx hb d_S_peek_20 (by decide) (fun cu => ?_) (fun cu => ?_)
        · refine lv_iconst (v := 0) hx hb d_S_peek_32 (by decide) ?_
          exact W.zret (v := 0) hx hb hr rfl (fun t ht hW => ⟨⟨_, G, rfl, (by rw [show p_peek σ r cx u = (0, σ) from (by simp only [p_peek, hci]; rw [if_neg (fun z => absurd z.2.1 (Int32.not_le.mpr cu))])]; exact ⟨rfl, c_R.up ⟨rd, ra, rt, ad, fa, ρ, fr, rr, rf, rc, wl, el, cr, hrd, hR⟩⟩), g_fin ht hP⟩, hS.F ht⟩) hS.2.2 d_S_peek_33
        · have hu := Int32.not_lt.mp cu
          refine lv_iload_n hx hb d_S_peek_23 rfl (lv_at hl 4 rfl) ?_
          refine lv_aload hx hb d_S_peek_24 (lv_at hl 0 rfl) ?_
          refine vp_callSi (va_Run.run (r_U (owner := "StackRoom$Context") (n := 0) (rest := [.int u]) C0 [] (k_C_depthNow l hR (i := i) hc hO.1) ml_S_C_depthNow sm_C_C_depthNow se_B_C_depthNow_C im_C_depthNow ini_C co_C_depthNow rfl (by decide +kernel) (g_preV (ci := 4) hK hP rfl (hR.c4 h4)) hl.1 d_S_peek_26 rfl rfl (Nat.le_of_ble_eq_true rfl) ⟨rfl, rfl⟩ ⟨Nat.le_of_ble_eq_true rfl, Nat.le_of_ble_eq_true rfl⟩ ⟨Nat.le_of_ble_eq_true rfl, Nat.le_of_ble_eq_true rfl⟩)) (fun qd ed => ?_)
          refine lv_icmp_lt (tgt := 34) hx hb d_S_peek_29 (by decide) (fun cd => ?_) (fun cd => ?_)
          · have hd : s_fr σ i + u.toNatClampNeg < s_ht σ i := (dp_lt (by omega) (by omega) hu).mp (ed ▸ cd)
            refine lv_aload_n hx hb d_S_peek_34 rfl (lv_at hl 1 rfl) ?_
            refine va_get (D := D) (ci := 0) (C := "StackRoom") (T := T_S) (N := 10) (v := .ref ra) hx hb ht in_S hown hK.1 (hP.one hR.1) 0 rfl rfl 2 (by decide) (ht _ fl_S_S_registers) (fun _ h9 => h9) rfl d_S_peek_35 ?_
            refine lv_iload_n hx hb d_S_peek_38 rfl (lv_at hl 2 rfl) ?_
            refine lv_aload hx hb d_S_peek_39 (lv_at hl 0 rfl) ?_
            refine lv_aload hx hb d_S_peek_41 (lv_at hl 0 rfl) ?_
            refine va_getN (D := D) (ci := 4) (C := "StackRoom$BlockContext") (T := T_B) (N := 8) (v := .int (nI (s_ht σ i))) hx hb ht in_B hown hK.1 (hP.one (hR.c4 h4)) 0 rfl rfl 4 (by decide) (va_Nw.use rfl (hK.2.1 _ fn_S_C_height)) (fun _ h9 => h9) rfl d_S_peek_43 ?_
            refine lv_iconst (v := 1) hx hb d_S_peek_46 (by decide) ?_
            refine lv_isub hx hb d_S_peek_47 ?_
            refine lv_iload_n hx hb d_S_peek_48 rfl (lv_at hl 4 rfl) ?_
            refine lv_isub hx hb d_S_peek_49 ?_
            have eix : nI (s_ht σ i) - 1 - u = nI (s_ht σ i - 1 - u.toNatClampNeg) := by rw [← pk_sub (by omega), ← pk_sub (b := 1) (by omega), s_clampI hu]; rfl
            refine va_csq (va_Run.run (r_U (owner := "StackRoom$Context") (n := 1) (rest := [.int r, .ref ra]) C0 [.int (((nI (s_ht σ i)) - 1) - u)] (k_C_fieldAt l hR (i := i) hc hO.1 ht0 (nI (s_ht σ i) - 1 - u)) ml_S_C_fieldAt sm_C_C_fieldAt se_B_C_fieldAt_C im_C_fieldAt ini_C co_C_fieldAt rfl (by decide +kernel) (g_preV (ci := 4) hK hP rfl (hR.c4 h4)) hl.1 d_S_peek_50 rfl rfl (Nat.le_of_ble_eq_true rfl) ⟨rfl, rfl⟩ ⟨Nat.le_of_ble_eq_true rfl, Nat.le_of_ble_eq_true rfl⟩ ⟨Nat.le_of_ble_eq_true rfl, Nat.le_of_ble_eq_true rfl⟩)) (fun qf ef => ?_)
            rw [eix, if_pos ⟨nI_pos' (by omega), (nI_ltI (by omega) (by omega)).mpr (by omega)⟩, nI_clamp (by omega)] at ef
            subst ef
            have hvf := hR.2.2.2.2.2.2.2.1 i hc (s_ht σ i - 1 - u.toNatClampNeg) (by omega)
            refine gw_astqO (v := fr i (s_ht σ i - 1 - u.toNatClampNeg)) hx hb hK.1 hP hS 0 hR.2.1 ht0 (fun y hy => c_any hK hP (c_val_isv hR hO.1 hvf (fun j e => hb9.2.2.2 (s_ht σ i - 1 - u.toNatClampNeg) (by omega) j e) y hy)) (s_rin hreg) d_S_peek_53 (fun H locs hP hS => ?_)
            obtain ⟨G2, eG2⟩ : ∃ z : gw_G, z = va_up G ra (some (.inl (cV, 16, qv (va_up rr r.toNatClampNeg (fr i (s_ht σ i - 1 - u.toNatClampNeg)))))) := ⟨_, rfl⟩
            replace hP : gw_P D vwCl (gw_A G s.heap.size) G2 H := by rw [eG2]; exact hP
            have hR9 := hR.reg (k := r.toNatClampNeg) (v := s_fl σ i (s_ht σ i - 1 - u.toNatClampNeg)) (r := fr i (s_ht σ i - 1 - u.toNatClampNeg)) hvf
            rw [← eG2] at hR9
            refine lv_iconst (v := 1) hx hb d_S_peek_54 (by decide) ?_
            exact W.zret (v := 1) hx hb hr rfl (fun t ht hW => ⟨⟨_, G2, rfl, (by rw [show p_peek σ r cx u = (1, s_put σ r (s_fl σ i (s_ht σ i - 1 - u.toNatClampNeg))) from (by simp only [p_peek, hci]; rw [if_pos ⟨hreg, hu, hd⟩])]; exact ⟨rfl, ⟨rd, ra, rt, ad, fa, ρ, fr, _, rf, rc, wl, el, cr, by omega, hR9⟩⟩), g_fin ht hP⟩, hS.F ht⟩) hS.2.2 d_S_peek_55
          · have hd : ¬ s_fr σ i + u.toNatClampNeg < s_ht σ i := fun z => cd (ed ▸ (dp_lt (by omega) (by omega) hu).mpr z)
            refine lv_iconst (v := 0) hx hb d_S_peek_32 (by decide) ?_
            exact W.zret (v := 0) hx hb hr rfl (fun t ht hW => ⟨⟨_, G, rfl, (by rw [show p_peek σ r cx u = (0, σ) from (by simp only [p_peek, hci]; rw [if_neg (fun z => hd z.2.2)])]; exact ⟨rfl, c_R.up ⟨rd, ra, rt, ad, fa, ρ, fr, rr, rf, rc, wl, el, cr, hrd, hR⟩⟩), g_fin ht hP⟩, hS.F ht⟩) hS.2.2 d_S_peek_33
set_option maxHeartbeats 4000000 in
set_option maxRecDepth 100000 in
theorem k_S_home (l : Launch) (hR0 : c_R w n k cV cT σ x G) (hO : s_OK w n σ) (hw : 128 ≤ w ∧ w ≤ 32768) (hn : 16 ≤ n ∧ n ≤ 4096) (hm : s_md σ + 2 < 2 ^ 31) (hk : k + 1 < 2 ^ 31) (ht0 : tys[0]? = some (cV, .object "StackRoom$Value")) (ht1 : tys[1]? = some (cT, .object "StackRoom$Thing")) (r cx : Int32) : Met l y_S_home w_S_home ({ frames := 3, cells := 0, slots := 0, locals := 65 }) (g_pre D tys G sz [.ref x, .int r, .int cx]) (va_Qi (fun (rz : Int32) (G1 : gw_G) => rz = (p_home σ r cx).1 ∧ c_R w n (k + 1) cV cT (p_home σ r cx).2 x G1) (g_end D G sz) (gw_A G sz)) 0 0 (gw_A G sz) := by
  refine Met.ofW (cc := b_S_home) (maxL := 4) (ret := (some .boolean)) (by decide) rfl ?_
  intro p e s m args below meth c s₁ B hml hv
  obtain ⟨rfl, hsz, hP, hK⟩ := hv
  have hx := B.exec
  have hb := B.bytes
  have hr := B.returns
  have ht := fun w (hw : w ∈ gt) => atoms_spec (ws := w_S_home) B.pre w (List.mem_cons_of_mem _ hw)
  have hown : s.vm.findClass "StackRoom" = some m.cls := findClass_of_methodNamed B.named
  have hlocks := B.notSynchronized
  have C0 : CallFix p m c b_S_home 4 s [.ref x, .int r, .int cx].toArray gt "StackRoom" := ⟨hx, hb, hml, hown, ht⟩
  subst hsz
  have hP := hP.self (sz := s.heap.size)
  have hA : ∀ q : Nat, s.heap.size ≤ q → gw_A G s.heap.size q := fun q h => Or.inr h
  have hS : va_S (gw_A G s.heap.size) s.heap s.heap [] := va_S.rf
  have hl := lv_entry ([.ref x, .int r, .int cx]) (n := 4) (Nat.le_of_ble_eq_true rfl)
  rw [lg_entry_eq]
  generalize (lg_sl ([.ref x, .int r, .int cx]) ++ List.replicate (4 - (lg_sl ([.ref x, .int r, .int cx])).length) Slot.unset).toArray = ls at hl ⊢
  have hl : lv_has ls 4 [(0, .ref x), (1, .int r), (2, .int cx)] := hl
  obtain ⟨rd, ra, rt, ad, fa, ρ, fr, rr, rf, rc, wl, el, cr, hrd, hR⟩ := hR0
  refine lv_aload_n hx hb d_S_home_0 rfl (lv_at hl 0 rfl) ?_
  refine lv_iload_n hx hb d_S_home_1 rfl (lv_at hl 2 rfl) ?_
  refine va_csq (va_Run.run (r_V (rest := []) C0 [.int cx] (k_S_contextIn l hR hO.1 ht0 cx) ml_S_S_contextIn im_S_contextIn se_S_S_contextIn_S ini_S co_S_contextIn ⟨rfl, hd_S_contextIn⟩ (g_preV (ci := 0) hK hP rfl hR.1) hl.1 d_S_home_2 rfl rfl (Nat.le_of_ble_eq_true rfl) ⟨rfl, rfl⟩ ⟨Nat.le_of_ble_eq_true rfl, Nat.le_of_ble_eq_true rfl⟩ ⟨Nat.le_of_ble_eq_true rfl, Nat.le_of_ble_eq_true rfl⟩)) (fun qc ec => ?_)
  subst ec
  rcases hci : s_ci σ cx with _ | i
  · refine lv_astore_nN (lv' := [(3, .null), (0, .ref x), (1, .int r), (2, .int cx)]) hx hb d_S_home_5 rfl hl (by decide) rfl (fun ls hl => ?_)
    refine lv_iload_n hx hb d_S_home_6 rfl (lv_at hl 2 rfl) ?_
    refine vp_callSi (va_Run.run (r_S (rest := []) C0 [.int r] (k_S_isRegister l r) ml_S_S_isRegister st_S_isRegister ini_S co_S_isRegister hd_S_isRegister v_preS hl.1 d_S_home_7 rfl rfl (Nat.le_of_ble_eq_true rfl) ⟨rfl, rfl⟩ ⟨Nat.le_of_ble_eq_true rfl, Nat.le_of_ble_eq_true rfl⟩ ⟨Nat.le_of_ble_eq_true rfl, Nat.le_of_ble_eq_true rfl⟩)) (fun q7 eq7 => ?_)
    refine lv_if_eq (tgt := 17) hx hb d_S_home_10 (by decide) (fun c7 => ?_) (fun c7 => ?_)
    · have hreg : ¬ (0 ≤ r ∧ r ≤ 15) := fun h => absurd (eq7.symm.trans c7) (by rw [if_pos h]; decide)
      refine lv_iconst (v := 0) hx hb d_S_home_17 (by decide) ?_
      exact W.zret (v := 0) hx hb hr rfl (fun t ht hW => ⟨⟨_, G, rfl, (by rw [show p_home σ r cx = (0, σ) from (by simp only [p_home, hci])]; exact ⟨rfl, c_R.up ⟨rd, ra, rt, ad, fa, ρ, fr, rr, rf, rc, wl, el, cr, hrd, hR⟩⟩), g_fin ht hP⟩, hS.F ht⟩) hS.2.2 d_S_home_18
    · have hreg : 0 ≤ r ∧ r ≤ 15 := Decidable.byContradiction (fun h => c7 (eq7.trans (if_neg h)))
      refine lv_aload_nN hx hb d_S_home_13 rfl (lv_at hl 0 rfl) ?_
      refine lv_ifnonnullN hx hb d_S_home_14 ?_
      refine lv_iconst (v := 0) hx hb d_S_home_17 (by decide) ?_
      exact W.zret (v := 0) hx hb hr rfl (fun t ht hW => ⟨⟨_, G, rfl, (by rw [show p_home σ r cx = (0, σ) from (by simp only [p_home, hci])]; exact ⟨rfl, c_R.up ⟨rd, ra, rt, ad, fa, ρ, fr, rr, rf, rc, wl, el, cr, hrd, hR⟩⟩), g_fin ht hP⟩, hS.F ht⟩) hS.2.2 d_S_home_18
  · have hc := (s_ci_some hci).2.2
    have hri := s_ci_rch hci
    rcases id hc with h3 | h4
    · refine lv_astore_n (lv' := [(3, .ref (ad i)), (0, .ref x), (1, .int r), (2, .int cx)]) hx hb d_S_home_5 rfl hl (by decide) rfl (fun ls hl => ?_)
      refine lv_iload_n hx hb d_S_home_6 rfl (lv_at hl 2 rfl) ?_
      refine vp_callSi (va_Run.run (r_S (rest := []) C0 [.int r] (k_S_isRegister l r) ml_S_S_isRegister st_S_isRegister ini_S co_S_isRegister hd_S_isRegister v_preS hl.1 d_S_home_7 rfl rfl (Nat.le_of_ble_eq_true rfl) ⟨rfl, rfl⟩ ⟨Nat.le_of_ble_eq_true rfl, Nat.le_of_ble_eq_true rfl⟩ ⟨Nat.le_of_ble_eq_true rfl, Nat.le_of_ble_eq_true rfl⟩)) (fun q7 eq7 => ?_)
      refine lv_if_eq (tgt := 17) hx hb d_S_home_10 (by decide) (fun c7 => ?_) (fun c7 => ?_)
      · have hreg : ¬ (0 ≤ r ∧ r ≤ 15) := fun h => absurd (eq7.symm.trans c7) (by rw [if_pos h]; decide)
        refine lv_iconst (v := 0) hx hb d_S_home_17 (by decide) ?_
        exact W.zret (v := 0) hx hb hr rfl (fun t ht hW => ⟨⟨_, G, rfl, (by rw [show p_home σ r cx = (0, σ) from (by simp only [p_home, hci]; rw [if_neg (fun z => hreg z)])]; exact ⟨rfl, c_R.up ⟨rd, ra, rt, ad, fa, ρ, fr, rr, rf, rc, wl, el, cr, hrd, hR⟩⟩), g_fin ht hP⟩, hS.F ht⟩) hS.2.2 d_S_home_18
      · have hreg : 0 ≤ r ∧ r ≤ 15 := Decidable.byContradiction (fun h => c7 (eq7.trans (if_neg h)))
        refine lv_aload_n hx hb d_S_home_13 rfl (lv_at hl 0 rfl) ?_
        refine lv_ifnonnull (tgt := 19) hx hb d_S_home_14 (by decide) ?_
        refine lv_aload_n hx hb d_S_home_19 rfl (lv_at hl 1 rfl) ?_
        refine va_get (D := D) (ci := 0) (C := "StackRoom") (T := T_S) (N := 10) (v := .ref ra) hx hb ht in_S hown hK.1 (hP.one hR.1) 0 rfl rfl 2 (by decide) (ht _ fl_S_S_registers) (fun _ h9 => h9) rfl d_S_home_20 ?_
        refine lv_iload_n hx hb d_S_home_23 rfl (lv_at hl 2 rfl) ?_
        refine lv_aload_n hx hb d_S_home_24 rfl (lv_at hl 0 rfl) ?_
        refine va_csq (va_Run.run (r_A (owner := "StackRoom$Context") (n := 0) (rest := [.int r, .ref ra]) C0 [] (k_X_homeContext l hR (i := i) h3) ml_S_C_homeContext sm_C_C_homeContext se_X_C_homeContext_X im_X_homeContext ini_X co_X_homeContext (hK.2.1 _ dc_C_homeContext) (by decide +kernel) (g_preV (ci := 3) hK hP rfl (hR.c3 h3)) hl.1 d_S_home_25 rfl rfl (Nat.le_of_ble_eq_true rfl) ⟨rfl, rfl⟩ ⟨Nat.le_of_ble_eq_true rfl, Nat.le_of_ble_eq_true rfl⟩ ⟨Nat.le_of_ble_eq_true rfl, Nat.le_of_ble_eq_true rfl⟩)) (fun qh eh => ?_)
        subst eh
        refine gw_astqO (v := some (ad (s_hm σ i))) hx hb hK.1 hP hS 0 hR.2.1 ht0 (fun y hy => c_any hK hP ((by cases hy; exact ⟨_, _, hR.c3 (s_hm_kd hO.1 hc), Or.inr (Or.inr (Or.inl rfl))⟩))) (s_rin hreg) d_S_home_28 (fun H locs hP hS => ?_)
        obtain ⟨G1, eG1⟩ : ∃ z : gw_G, z = va_up G ra (some (.inl (cV, 16, qv (va_up rr r.toNatClampNeg (some (ad (s_hm σ i))))))) := ⟨_, rfl⟩
        replace hP : gw_P D vwCl (gw_A G s.heap.size) G1 H := by rw [eG1]; exact hP
        have hR9 := hR.reg (k := r.toNatClampNeg) (v := some (.inr (s_hm σ i))) (r := some (ad (s_hm σ i))) rfl
        rw [← eG1] at hR9
        refine lv_iconst (v := 1) hx hb d_S_home_29 (by decide) ?_
        exact W.zret (v := 1) hx hb hr rfl (fun t ht hW => ⟨⟨_, G1, rfl, (by rw [show p_home σ r cx = (1, s_put σ r (some (.inr (s_hm σ i)))) from (by simp only [p_home, hci]; rw [if_pos hreg])]; exact ⟨rfl, ⟨rd, ra, rt, ad, fa, ρ, fr, _, rf, rc, wl, el, cr, by omega, hR9⟩⟩), g_fin ht hP⟩, hS.F ht⟩) hS.2.2 d_S_home_30
    · refine lv_astore_n (lv' := [(3, .ref (ad i)), (0, .ref x), (1, .int r), (2, .int cx)]) hx hb d_S_home_5 rfl hl (by decide) rfl (fun ls hl => ?_)
      refine lv_iload_n hx hb d_S_home_6 rfl (lv_at hl 2 rfl) ?_
      refine vp_callSi (va_Run.run (r_S (rest := []) C0 [.int r] (k_S_isRegister l r) ml_S_S_isRegister st_S_isRegister ini_S co_S_isRegister hd_S_isRegister v_preS hl.1 d_S_home_7 rfl rfl (Nat.le_of_ble_eq_true rfl) ⟨rfl, rfl⟩ ⟨Nat.le_of_ble_eq_true rfl, Nat.le_of_ble_eq_true rfl⟩ ⟨Nat.le_of_ble_eq_true rfl, Nat.le_of_ble_eq_true rfl⟩)) (fun q7 eq7 => ?_)
      refine lv_if_eq (tgt := 17) hx hb d_S_home_10 (by decide) (fun c7 => ?_) (fun c7 => ?_)
      · have hreg : ¬ (0 ≤ r ∧ r ≤ 15) := fun h => absurd (eq7.symm.trans c7) (by rw [if_pos h]; decide)
        refine lv_iconst (v := 0) hx hb d_S_home_17 (by decide) ?_
        exact W.zret (v := 0) hx hb hr rfl (fun t ht hW => ⟨⟨_, G, rfl, (by rw [show p_home σ r cx = (0, σ) from (by simp only [p_home, hci]; rw [if_neg (fun z => hreg z)])]; exact ⟨rfl, c_R.up ⟨rd, ra, rt, ad, fa, ρ, fr, rr, rf, rc, wl, el, cr, hrd, hR⟩⟩), g_fin ht hP⟩, hS.F ht⟩) hS.2.2 d_S_home_18
      · have hreg : 0 ≤ r ∧ r ≤ 15 := Decidable.byContradiction (fun h => c7 (eq7.trans (if_neg h)))
        refine lv_aload_n hx hb d_S_home_13 rfl (lv_at hl 0 rfl) ?_
        refine lv_ifnonnull (tgt := 19) hx hb d_S_home_14 (by decide) ?_
        refine lv_aload_n hx hb d_S_home_19 rfl (lv_at hl 1 rfl) ?_
        refine va_get (D := D) (ci := 0) (C := "StackRoom") (T := T_S) (N := 10) (v := .ref ra) hx hb ht in_S hown hK.1 (hP.one hR.1) 0 rfl rfl 2 (by decide) (ht _ fl_S_S_registers) (fun _ h9 => h9) rfl d_S_home_20 ?_
        refine lv_iload_n hx hb d_S_home_23 rfl (lv_at hl 2 rfl) ?_
        refine lv_aload_n hx hb d_S_home_24 rfl (lv_at hl 0 rfl) ?_
        refine va_csq (va_Run.run (r_A (owner := "StackRoom$Context") (n := 0) (rest := [.int r, .ref ra]) C0 [] (k_B_homeContext l hR (i := i) h4) ml_S_C_homeContext sm_C_C_homeContext se_B_C_homeContext_B im_B_homeContext ini_B co_B_homeContext (hK.2.1 _ dc_C_homeContext) (by decide +kernel) (g_preV (ci := 4) hK hP rfl (hR.c4 h4)) hl.1 d_S_home_25 rfl rfl (Nat.le_of_ble_eq_true rfl) ⟨rfl, rfl⟩ ⟨Nat.le_of_ble_eq_true rfl, Nat.le_of_ble_eq_true rfl⟩ ⟨Nat.le_of_ble_eq_true rfl, Nat.le_of_ble_eq_true rfl⟩)) (fun qh eh => ?_)
        subst eh
        refine gw_astqO (v := some (ad (s_hm σ i))) hx hb hK.1 hP hS 0 hR.2.1 ht0 (fun y hy => c_any hK hP ((by cases hy; exact ⟨_, _, hR.c3 (s_hm_kd hO.1 hc), Or.inr (Or.inr (Or.inl rfl))⟩))) (s_rin hreg) d_S_home_28 (fun H locs hP hS => ?_)
        obtain ⟨G2, eG2⟩ : ∃ z : gw_G, z = va_up G ra (some (.inl (cV, 16, qv (va_up rr r.toNatClampNeg (some (ad (s_hm σ i))))))) := ⟨_, rfl⟩
        replace hP : gw_P D vwCl (gw_A G s.heap.size) G2 H := by rw [eG2]; exact hP
        have hR9 := hR.reg (k := r.toNatClampNeg) (v := some (.inr (s_hm σ i))) (r := some (ad (s_hm σ i))) rfl
        rw [← eG2] at hR9
        refine lv_iconst (v := 1) hx hb d_S_home_29 (by decide) ?_
        exact W.zret (v := 1) hx hb hr rfl (fun t ht hW => ⟨⟨_, G2, rfl, (by rw [show p_home σ r cx = (1, s_put σ r (some (.inr (s_hm σ i)))) from (by simp only [p_home, hci]; rw [if_pos hreg])]; exact ⟨rfl, ⟨rd, ra, rt, ad, fa, ρ, fr, _, rf, rc, wl, el, cr, by omega, hR9⟩⟩), g_fin ht hP⟩, hS.F ht⟩) hS.2.2 d_S_home_30
set_option maxHeartbeats 4000000 in
set_option maxRecDepth 100000 in
theorem k_S_sender (l : Launch) (hR0 : c_R w n k cV cT σ x G) (hO : s_OK w n σ) (hw : 128 ≤ w ∧ w ≤ 32768) (hn : 16 ≤ n ∧ n ≤ 4096) (hm : s_md σ + 2 < 2 ^ 31) (hk : k + 1 < 2 ^ 31) (ht0 : tys[0]? = some (cV, .object "StackRoom$Value")) (ht1 : tys[1]? = some (cT, .object "StackRoom$Thing")) (r cx : Int32) : Met l y_S_sender w_S_sender ({ frames := 3, cells := 0, slots := 0, locals := 65 }) (g_pre D tys G sz [.ref x, .int r, .int cx]) (va_Qi (fun (rz : Int32) (G1 : gw_G) => rz = (p_sender σ r cx).1 ∧ c_R w n (k + 1) cV cT (p_sender σ r cx).2 x G1) (g_end D G sz) (gw_A G sz)) 0 0 (gw_A G sz) := by
  refine Met.ofW (cc := b_S_sender) (maxL := 4) (ret := (some .boolean)) (by decide) rfl ?_
  intro p e s m args below meth c s₁ B hml hv
  obtain ⟨rfl, hsz, hP, hK⟩ := hv
  have hx := B.exec
  have hb := B.bytes
  have hr := B.returns
  have ht := fun w (hw : w ∈ gt) => atoms_spec (ws := w_S_sender) B.pre w (List.mem_cons_of_mem _ hw)
  have hown : s.vm.findClass "StackRoom" = some m.cls := findClass_of_methodNamed B.named
  have hlocks := B.notSynchronized
  have C0 : CallFix p m c b_S_sender 4 s [.ref x, .int r, .int cx].toArray gt "StackRoom" := ⟨hx, hb, hml, hown, ht⟩
  subst hsz
  have hP := hP.self (sz := s.heap.size)
  have hA : ∀ q : Nat, s.heap.size ≤ q → gw_A G s.heap.size q := fun q h => Or.inr h
  have hS : va_S (gw_A G s.heap.size) s.heap s.heap [] := va_S.rf
  have hl := lv_entry ([.ref x, .int r, .int cx]) (n := 4) (Nat.le_of_ble_eq_true rfl)
  rw [lg_entry_eq]
  generalize (lg_sl ([.ref x, .int r, .int cx]) ++ List.replicate (4 - (lg_sl ([.ref x, .int r, .int cx])).length) Slot.unset).toArray = ls at hl ⊢
  have hl : lv_has ls 4 [(0, .ref x), (1, .int r), (2, .int cx)] := hl
  obtain ⟨rd, ra, rt, ad, fa, ρ, fr, rr, rf, rc, wl, el, cr, hrd, hR⟩ := hR0
  refine lv_aload_n hx hb d_S_sender_0 rfl (lv_at hl 0 rfl) ?_
  refine lv_iload_n hx hb d_S_sender_1 rfl (lv_at hl 2 rfl) ?_
  refine va_csq (va_Run.run (r_V (rest := []) C0 [.int cx] (k_S_contextIn l hR hO.1 ht0 cx) ml_S_S_contextIn im_S_contextIn se_S_S_contextIn_S ini_S co_S_contextIn ⟨rfl, hd_S_contextIn⟩ (g_preV (ci := 0) hK hP rfl hR.1) hl.1 d_S_sender_2 rfl rfl (Nat.le_of_ble_eq_true rfl) ⟨rfl, rfl⟩ ⟨Nat.le_of_ble_eq_true rfl, Nat.le_of_ble_eq_true rfl⟩ ⟨Nat.le_of_ble_eq_true rfl, Nat.le_of_ble_eq_true rfl⟩)) (fun qc ec => ?_)
  subst ec
  rcases hci : s_ci σ cx with _ | i
  · refine lv_astore_nN (lv' := [(3, .null), (0, .ref x), (1, .int r), (2, .int cx)]) hx hb d_S_sender_5 rfl hl (by decide) rfl (fun ls hl => ?_)
    refine lv_iload_n hx hb d_S_sender_6 rfl (lv_at hl 2 rfl) ?_
    refine vp_callSi (va_Run.run (r_S (rest := []) C0 [.int r] (k_S_isRegister l r) ml_S_S_isRegister st_S_isRegister ini_S co_S_isRegister hd_S_isRegister v_preS hl.1 d_S_sender_7 rfl rfl (Nat.le_of_ble_eq_true rfl) ⟨rfl, rfl⟩ ⟨Nat.le_of_ble_eq_true rfl, Nat.le_of_ble_eq_true rfl⟩ ⟨Nat.le_of_ble_eq_true rfl, Nat.le_of_ble_eq_true rfl⟩)) (fun q7 eq7 => ?_)
    refine lv_if_eq (tgt := 17) hx hb d_S_sender_10 (by decide) (fun c7 => ?_) (fun c7 => ?_)
    · have hreg : ¬ (0 ≤ r ∧ r ≤ 15) := fun h => absurd (eq7.symm.trans c7) (by rw [if_pos h]; decide)
      refine lv_iconst (v := 0) hx hb d_S_sender_17 (by decide) ?_
      exact W.zret (v := 0) hx hb hr rfl (fun t ht hW => ⟨⟨_, G, rfl, (by rw [show p_sender σ r cx = (0, σ) from (by simp only [p_sender, hci])]; exact ⟨rfl, c_R.up ⟨rd, ra, rt, ad, fa, ρ, fr, rr, rf, rc, wl, el, cr, hrd, hR⟩⟩), g_fin ht hP⟩, hS.F ht⟩) hS.2.2 d_S_sender_18
    · have hreg : 0 ≤ r ∧ r ≤ 15 := Decidable.byContradiction (fun h => c7 (eq7.trans (if_neg h)))
      refine lv_aload_nN hx hb d_S_sender_13 rfl (lv_at hl 0 rfl) ?_
      refine lv_ifnonnullN hx hb d_S_sender_14 ?_
      refine lv_iconst (v := 0) hx hb d_S_sender_17 (by decide) ?_
      exact W.zret (v := 0) hx hb hr rfl (fun t ht hW => ⟨⟨_, G, rfl, (by rw [show p_sender σ r cx = (0, σ) from (by simp only [p_sender, hci])]; exact ⟨rfl, c_R.up ⟨rd, ra, rt, ad, fa, ρ, fr, rr, rf, rc, wl, el, cr, hrd, hR⟩⟩), g_fin ht hP⟩, hS.F ht⟩) hS.2.2 d_S_sender_18
  · have hc := (s_ci_some hci).2.2
    have hri := s_ci_rch hci
    rcases id hc with h3 | h4
    · refine lv_astore_n (lv' := [(3, .ref (ad i)), (0, .ref x), (1, .int r), (2, .int cx)]) hx hb d_S_sender_5 rfl hl (by decide) rfl (fun ls hl => ?_)
      refine lv_iload_n hx hb d_S_sender_6 rfl (lv_at hl 2 rfl) ?_
      refine vp_callSi (va_Run.run (r_S (rest := []) C0 [.int r] (k_S_isRegister l r) ml_S_S_isRegister st_S_isRegister ini_S co_S_isRegister hd_S_isRegister v_preS hl.1 d_S_sender_7 rfl rfl (Nat.le_of_ble_eq_true rfl) ⟨rfl, rfl⟩ ⟨Nat.le_of_ble_eq_true rfl, Nat.le_of_ble_eq_true rfl⟩ ⟨Nat.le_of_ble_eq_true rfl, Nat.le_of_ble_eq_true rfl⟩)) (fun q7 eq7 => ?_)
      refine lv_if_eq (tgt := 17) hx hb d_S_sender_10 (by decide) (fun c7 => ?_) (fun c7 => ?_)
      · have hreg : ¬ (0 ≤ r ∧ r ≤ 15) := fun h => absurd (eq7.symm.trans c7) (by rw [if_pos h]; decide)
        refine lv_iconst (v := 0) hx hb d_S_sender_17 (by decide) ?_
        exact W.zret (v := 0) hx hb hr rfl (fun t ht hW => ⟨⟨_, G, rfl, (by rw [show p_sender σ r cx = (0, σ) from (by simp only [p_sender, hci]; rw [if_neg (fun z => hreg z)])]; exact ⟨rfl, c_R.up ⟨rd, ra, rt, ad, fa, ρ, fr, rr, rf, rc, wl, el, cr, hrd, hR⟩⟩), g_fin ht hP⟩, hS.F ht⟩) hS.2.2 d_S_sender_18
      · have hreg : 0 ≤ r ∧ r ≤ 15 := Decidable.byContradiction (fun h => c7 (eq7.trans (if_neg h)))
        refine lv_aload_n hx hb d_S_sender_13 rfl (lv_at hl 0 rfl) ?_
        refine lv_ifnonnull (tgt := 19) hx hb d_S_sender_14 (by decide) ?_
        refine lv_aload_n hx hb d_S_sender_19 rfl (lv_at hl 1 rfl) ?_
        refine va_get (D := D) (ci := 0) (C := "StackRoom") (T := T_S) (N := 10) (v := .ref ra) hx hb ht in_S hown hK.1 (hP.one hR.1) 0 rfl rfl 2 (by decide) (ht _ fl_S_S_registers) (fun _ h9 => h9) rfl d_S_sender_20 ?_
        refine lv_iload_n hx hb d_S_sender_23 rfl (lv_at hl 2 rfl) ?_
        refine lv_aload_n hx hb d_S_sender_24 rfl (lv_at hl 0 rfl) ?_
        refine va_getN (D := D) (ci := 3) (C := "StackRoom$MethodContext") (T := T_X) (N := 7) (v := va_rf ((s_sn σ i).map ad)) hx hb ht in_X hown hK.1 (hP.one (hR.c3 h3)) 0 rfl rfl 2 (by decide) (va_Nw.use rfl (hK.2.1 _ fn_S_C_sender)) (fun _ h9 => h9) rfl d_S_sender_25 ?_
        have hvf : c_val G ad ((s_sn σ i).map .inr) ((s_sn σ i).map ad) := c_val_sn _
        refine gw_astqO (v := (s_sn σ i).map ad) hx hb hK.1 hP hS 0 hR.2.1 ht0 (fun y hy => c_any hK hP (c_val_isv hR hO.1 hvf (fun j e => by have := (hO.1.2.2.2.2.2.2 i hc).1 j (sn_inr e); rcases this with z | z <;> omega) y hy)) (s_rin hreg) d_S_sender_28 (fun H locs hP hS => ?_)
        obtain ⟨G1, eG1⟩ : ∃ z : gw_G, z = va_up G ra (some (.inl (cV, 16, qv (va_up rr r.toNatClampNeg ((s_sn σ i).map ad))))) := ⟨_, rfl⟩
        replace hP : gw_P D vwCl (gw_A G s.heap.size) G1 H := by rw [eG1]; exact hP
        have hR9 := hR.reg (k := r.toNatClampNeg) (v := (s_sn σ i).map .inr) (r := (s_sn σ i).map ad) hvf
        rw [← eG1] at hR9
        refine lv_iconst (v := 1) hx hb d_S_sender_29 (by decide) ?_
        exact W.zret (v := 1) hx hb hr rfl (fun t ht hW => ⟨⟨_, G1, rfl, (by rw [show p_sender σ r cx = (1, s_put σ r ((s_sn σ i).map .inr)) from (by simp only [p_sender, hci]; rw [if_pos hreg])]; exact ⟨rfl, ⟨rd, ra, rt, ad, fa, ρ, fr, _, rf, rc, wl, el, cr, by omega, hR9⟩⟩), g_fin ht hP⟩, hS.F ht⟩) hS.2.2 d_S_sender_30
    · refine lv_astore_n (lv' := [(3, .ref (ad i)), (0, .ref x), (1, .int r), (2, .int cx)]) hx hb d_S_sender_5 rfl hl (by decide) rfl (fun ls hl => ?_)
      refine lv_iload_n hx hb d_S_sender_6 rfl (lv_at hl 2 rfl) ?_
      refine vp_callSi (va_Run.run (r_S (rest := []) C0 [.int r] (k_S_isRegister l r) ml_S_S_isRegister st_S_isRegister ini_S co_S_isRegister hd_S_isRegister v_preS hl.1 d_S_sender_7 rfl rfl (Nat.le_of_ble_eq_true rfl) ⟨rfl, rfl⟩ ⟨Nat.le_of_ble_eq_true rfl, Nat.le_of_ble_eq_true rfl⟩ ⟨Nat.le_of_ble_eq_true rfl, Nat.le_of_ble_eq_true rfl⟩)) (fun q7 eq7 => ?_)
      refine lv_if_eq (tgt := 17) hx hb d_S_sender_10 (by decide) (fun c7 => ?_) (fun c7 => ?_)
      · have hreg : ¬ (0 ≤ r ∧ r ≤ 15) := fun h => absurd (eq7.symm.trans c7) (by rw [if_pos h]; decide)
        refine lv_iconst (v := 0) hx hb d_S_sender_17 (by decide) ?_
        exact W.zret (v := 0) hx hb hr rfl (fun t ht hW => ⟨⟨_, G, rfl, (by rw [show p_sender σ r cx = (0, σ) from (by simp only [p_sender, hci]; rw [if_neg (fun z => hreg z)])]; exact ⟨rfl, c_R.up ⟨rd, ra, rt, ad, fa, ρ, fr, rr, rf, rc, wl, el, cr, hrd, hR⟩⟩), g_fin ht hP⟩, hS.F ht⟩) hS.2.2 d_S_sender_18
      · have hreg : 0 ≤ r ∧ r ≤ 15 := Decidable.byContradiction (fun h => c7 (eq7.trans (if_neg h)))
        refine lv_aload_n hx hb d_S_sender_13 rfl (lv_at hl 0 rfl) ?_
        refine lv_ifnonnull (tgt := 19) hx hb d_S_sender_14 (by decide) ?_
        refine lv_aload_n hx hb d_S_sender_19 rfl (lv_at hl 1 rfl) ?_
        refine va_get (D := D) (ci := 0) (C := "StackRoom") (T := T_S) (N := 10) (v := .ref ra) hx hb ht in_S hown hK.1 (hP.one hR.1) 0 rfl rfl 2 (by decide) (ht _ fl_S_S_registers) (fun _ h9 => h9) rfl d_S_sender_20 ?_
        refine lv_iload_n hx hb d_S_sender_23 rfl (lv_at hl 2 rfl) ?_
        refine lv_aload_n hx hb d_S_sender_24 rfl (lv_at hl 0 rfl) ?_
        refine va_getN (D := D) (ci := 4) (C := "StackRoom$BlockContext") (T := T_B) (N := 8) (v := va_rf ((s_sn σ i).map ad)) hx hb ht in_B hown hK.1 (hP.one (hR.c4 h4)) 0 rfl rfl 2 (by decide) (va_Nw.use rfl (hK.2.1 _ fn_S_C_sender)) (fun _ h9 => h9) rfl d_S_sender_25 ?_
        have hvf : c_val G ad ((s_sn σ i).map .inr) ((s_sn σ i).map ad) := c_val_sn _
        refine gw_astqO (v := (s_sn σ i).map ad) hx hb hK.1 hP hS 0 hR.2.1 ht0 (fun y hy => c_any hK hP (c_val_isv hR hO.1 hvf (fun j e => by have := (hO.1.2.2.2.2.2.2 i hc).1 j (sn_inr e); rcases this with z | z <;> omega) y hy)) (s_rin hreg) d_S_sender_28 (fun H locs hP hS => ?_)
        obtain ⟨G2, eG2⟩ : ∃ z : gw_G, z = va_up G ra (some (.inl (cV, 16, qv (va_up rr r.toNatClampNeg ((s_sn σ i).map ad))))) := ⟨_, rfl⟩
        replace hP : gw_P D vwCl (gw_A G s.heap.size) G2 H := by rw [eG2]; exact hP
        have hR9 := hR.reg (k := r.toNatClampNeg) (v := (s_sn σ i).map .inr) (r := (s_sn σ i).map ad) hvf
        rw [← eG2] at hR9
        refine lv_iconst (v := 1) hx hb d_S_sender_29 (by decide) ?_
        exact W.zret (v := 1) hx hb hr rfl (fun t ht hW => ⟨⟨_, G2, rfl, (by rw [show p_sender σ r cx = (1, s_put σ r ((s_sn σ i).map .inr)) from (by simp only [p_sender, hci]; rw [if_pos hreg])]; exact ⟨rfl, ⟨rd, ra, rt, ad, fa, ρ, fr, _, rf, rc, wl, el, cr, by omega, hR9⟩⟩), g_fin ht hP⟩, hS.F ht⟩) hS.2.2 d_S_sender_30
set_option maxHeartbeats 4000000 in
set_option maxRecDepth 100000 in
theorem k_S_send (l : Launch) (hR0 : c_R w n k cV cT σ x G) (hO : s_OK w n σ) (hw : 128 ≤ w ∧ w ≤ 32768) (hn : 16 ≤ n ∧ n ≤ 4096) (hm : s_md σ + 2 < 2 ^ 31) (hk : k + 1 < 2 ^ 31) (ht0 : tys[0]? = some (cV, .object "StackRoom$Value")) (ht1 : tys[1]? = some (cT, .object "StackRoom$Thing")) (cx sr : Int32) : Met l y_S_send w_S_send ({ frames := 3, cells := 0, slots := 0, locals := 65 }) (g_pre D tys G sz [.ref x, .int cx, .int sr]) (va_Qi (fun (rz : Int32) (G1 : gw_G) => rz = (p_send σ cx sr).1 ∧ c_R w n (k + 1) cV cT (p_send σ cx sr).2 x G1) (g_end D G sz) (gw_A G sz)) 0 0 (gw_A G sz) := by
  refine Met.ofW (cc := b_S_send) (maxL := 4) (ret := (some .boolean)) (by decide) rfl ?_
  intro p e s m args below meth c s₁ B hml hv
  obtain ⟨rfl, hsz, hP, hK⟩ := hv
  have hx := B.exec
  have hb := B.bytes
  have hr := B.returns
  have ht := fun w (hw : w ∈ gt) => atoms_spec (ws := w_S_send) B.pre w (List.mem_cons_of_mem _ hw)
  have hown : s.vm.findClass "StackRoom" = some m.cls := findClass_of_methodNamed B.named
  have hlocks := B.notSynchronized
  have C0 : CallFix p m c b_S_send 4 s [.ref x, .int cx, .int sr].toArray gt "StackRoom" := ⟨hx, hb, hml, hown, ht⟩
  subst hsz
  have hP := hP.self (sz := s.heap.size)
  have hA : ∀ q : Nat, s.heap.size ≤ q → gw_A G s.heap.size q := fun q h => Or.inr h
  have hS : va_S (gw_A G s.heap.size) s.heap s.heap [] := va_S.rf
  have hl := lv_entry ([.ref x, .int cx, .int sr]) (n := 4) (Nat.le_of_ble_eq_true rfl)
  rw [lg_entry_eq]
  generalize (lg_sl ([.ref x, .int cx, .int sr]) ++ List.replicate (4 - (lg_sl ([.ref x, .int cx, .int sr])).length) Slot.unset).toArray = ls at hl ⊢
  have hl : lv_has ls 4 [(0, .ref x), (1, .int cx), (2, .int sr)] := hl
  obtain ⟨rd, ra, rt, ad, fa, ρ, fr, rr, rf, rc, wl, el, cr, hrd, hR⟩ := hR0
  refine lv_aload_n hx hb d_S_send_0 rfl (lv_at hl 0 rfl) ?_
  refine lv_iload_n hx hb d_S_send_1 rfl (lv_at hl 1 rfl) ?_
  refine va_csq (va_Run.run (r_V (rest := []) C0 [.int cx] (k_S_contextIn l hR hO.1 ht0 cx) ml_S_S_contextIn im_S_contextIn se_S_S_contextIn_S ini_S co_S_contextIn ⟨rfl, hd_S_contextIn⟩ (g_preV (ci := 0) hK hP rfl hR.1) hl.1 d_S_send_2 rfl rfl (Nat.le_of_ble_eq_true rfl) ⟨rfl, rfl⟩ ⟨Nat.le_of_ble_eq_true rfl, Nat.le_of_ble_eq_true rfl⟩ ⟨Nat.le_of_ble_eq_true rfl, Nat.le_of_ble_eq_true rfl⟩)) (fun qc ec => ?_)
  subst ec
  rcases hci : s_ci σ cx with _ | i
  · refine lv_astore_nN (lv' := [(3, .null), (0, .ref x), (1, .int cx), (2, .int sr)]) hx hb d_S_send_5 rfl hl (by decide) rfl (fun ls hl => ?_)
    refine lv_aload_nN hx hb d_S_send_6 rfl (lv_at hl 0 rfl) ?_
    refine lv_ifnullN (tgt := 18) hx hb d_S_send_7 (by decide) ?_
    refine lv_iconst (v := 0) hx hb d_S_send_18 (by decide) ?_
    exact W.zret (v := 0) hx hb hr rfl (fun t ht hW => ⟨⟨_, G, rfl, (by rw [show p_send σ cx sr = (0, σ) from (by simp only [p_send, hci])]; exact ⟨rfl, c_R.up ⟨rd, ra, rt, ad, fa, ρ, fr, rr, rf, rc, wl, el, cr, hrd, hR⟩⟩), g_fin ht hP⟩, hS.F ht⟩) hS.2.2 d_S_send_19
  · have hc := (s_ci_some hci).2.2
    have hri := s_ci_rch hci
    rcases id hc with h3 | h4
    · refine lv_astore_n (lv' := [(3, .ref (ad i)), (0, .ref x), (1, .int cx), (2, .int sr)]) hx hb d_S_send_5 rfl hl (by decide) rfl (fun ls hl => ?_)
      refine lv_aload_n hx hb d_S_send_6 rfl (lv_at hl 0 rfl) ?_
      refine lv_ifnull hx hb d_S_send_7 ?_
      refine lv_aload_n hx hb d_S_send_10 rfl (lv_at hl 1 rfl) ?_
      refine lv_iload_n hx hb d_S_send_11 rfl (lv_at hl 3 rfl) ?_
      refine vp_callSi (va_Run.run (r_V (rest := []) C0 [.int sr] (k_S_isSender l hR hO.1 ht0 sr) ml_S_S_isSender im_S_isSender se_S_S_isSender_S ini_S co_S_isSender ⟨rfl, hd_S_isSender⟩ (g_preV (ci := 0) hK hP rfl hR.1) hl.1 d_S_send_12 rfl rfl (Nat.le_of_ble_eq_true rfl) ⟨rfl, rfl⟩ ⟨Nat.le_of_ble_eq_true rfl, Nat.le_of_ble_eq_true rfl⟩ ⟨Nat.le_of_ble_eq_true rfl, Nat.le_of_ble_eq_true rfl⟩)) (fun q12 eq12 => ?_)
      refine lv_if_ne (tgt := 20) hx hb d_S_send_15 (by decide) (fun c12 => ?_) (fun c12 => ?_)
      · have hsen : (s_si σ sr).isSome = true := Decidable.byContradiction (fun h => c12 (eq12.trans (if_neg h)))
        obtain ⟨o, ho⟩ : ∃ o, s_si σ sr = some o := Option.isSome_iff_exists.mp hsen
        refine lv_aload_n hx hb d_S_send_20 rfl (lv_at hl 0 rfl) ?_
        refine lv_aload_n hx hb d_S_send_21 rfl (lv_at hl 1 rfl) ?_
        refine lv_iload_n hx hb d_S_send_22 rfl (lv_at hl 3 rfl) ?_
        refine va_csq (va_Run.run (r_V (rest := [.ref (ad i)]) C0 [.int sr] (k_S_contextIn l hR hO.1 ht0 sr) ml_S_S_contextIn im_S_contextIn se_S_S_contextIn_S ini_S co_S_contextIn ⟨rfl, hd_S_contextIn⟩ (g_preV (ci := 0) hK hP rfl hR.1) hl.1 d_S_send_23 rfl rfl (Nat.le_of_ble_eq_true rfl) ⟨rfl, rfl⟩ ⟨Nat.le_of_ble_eq_true rfl, Nat.le_of_ble_eq_true rfl⟩ ⟨Nat.le_of_ble_eq_true rfl, Nat.le_of_ble_eq_true rfl⟩)) (fun qc ec => ?_)
        rw [s_si_ci ho] at ec
        subst ec
        rcases o with _ | so
        · refine W.eq (g2 := F0 m 26 ls [.null, .ref (ad i)]) rfl ?_
          refine gw_putN (D := D) (cl := vwCl) (ci := 3) (C := "StackRoom$MethodContext") (T := T_X) (N := 7) (v := .null) (ty := .object "StackRoom$Context") hx hb ht in_X ty_X tk_X nm_X hown hK.1 hP hS (hR.c3 h3) rfl 2 (by decide) (va_Nw.use rfl (hK.2.1 _ fn_S_C_sender)) (fun _ h9 => h9) rfl (by decide +kernel) rfl rfl (Nat.le_of_ble_eq_true rfl) d_S_send_26 (fun H locs hP hS => ?_)
          obtain ⟨G1, eG1⟩ : ∃ z : gw_G, z = va_up G (ad i) (some (.inr (3, [.int (nI i), .int (ρ i), .null, .int (s_de σ i), .int (nI (s_ht σ i)), .ref (fa i), .ref (ad (s_og σ i))]))) := ⟨_, rfl⟩
          replace hP : gw_P D vwCl (gw_A G s.heap.size) G1 H := by rw [eG1]; exact hP
          have f1 : G1 (ad i) = some (.inr (3, [.int (nI i), .int (ρ i), .null, .int (s_de σ i), .int (nI (s_ht σ i)), .ref (fa i), .ref (ad (s_og σ i))])) := by rw [eG1]; exact va_up_self _ _ _
          have hR1 := hR.obj (i := i) (τ := s_setS σ i none) (ρ' := ρ) hO.1 (by omega) (by rcases hc with e | e <;> omega) rfl rfl rfl rfl (fun j hj => by unfold c_cell; rw [show s_sn (s_setS σ i none) j = s_sn σ j from va_up_ne _ _ hj]; rfl) (fun j hj => hR.2.2.2.2.2.2.2.2.2 j hj)
          have e8 : c_cell (s_setS σ i none) ad fa ρ i = .inr (3, [.int (nI i), .int (ρ i), .null, .int (s_de σ i), .int (nI (s_ht σ i)), .ref (fa i), .ref (ad (s_og σ i))]) := by unfold c_cell; rw [show s_kd (s_setS σ i none) i = 3 from h3, show s_sn (s_setS σ i none) i = none from va_up_self _ _ _]; rfl
          rw [e8, ← eG1] at hR1
          refine lv_iconst (v := 1) hx hb d_S_send_29 (by decide) ?_
          exact W.zret (v := 1) hx hb hr rfl (fun t ht hW => ⟨⟨_, G1, rfl, (by rw [show p_send σ cx sr = (1, s_setS σ i none) from (by simp only [p_send, hci, ho])]; exact ⟨rfl, ⟨rd, ra, rt, ad, fa, ρ, fr, rr, rf, rc, wl, el, cr, by omega, hR1⟩⟩), g_fin ht hP⟩, hS.F ht⟩) hS.2.2 d_S_send_30
        · refine W.eq (g2 := F0 m 26 ls [.ref (ad so), .ref (ad i)]) rfl ?_
          refine gw_putN (D := D) (cl := vwCl) (ci := 3) (C := "StackRoom$MethodContext") (T := T_X) (N := 7) (v := .ref (ad so)) (ty := .object "StackRoom$Context") hx hb ht in_X ty_X tk_X nm_X hown hK.1 hP hS (hR.c3 h3) rfl 2 (by decide) (va_Nw.use rfl (hK.2.1 _ fn_S_C_sender)) (fun _ h9 => h9) rfl (by decide +kernel) rfl rfl (Nat.le_of_ble_eq_true rfl) d_S_send_26 (fun H locs hP hS => ?_)
          obtain ⟨G2, eG2⟩ : ∃ z : gw_G, z = va_up G (ad i) (some (.inr (3, [.int (nI i), .int (ρ i), .ref (ad so), .int (s_de σ i), .int (nI (s_ht σ i)), .ref (fa i), .ref (ad (s_og σ i))]))) := ⟨_, rfl⟩
          replace hP : gw_P D vwCl (gw_A G s.heap.size) G2 H := by rw [eG2]; exact hP
          have f2 : G2 (ad i) = some (.inr (3, [.int (nI i), .int (ρ i), .ref (ad so), .int (s_de σ i), .int (nI (s_ht σ i)), .ref (fa i), .ref (ad (s_og σ i))])) := by rw [eG2]; exact va_up_self _ _ _
          have hR1 := hR.obj (i := i) (τ := s_setS σ i (some so)) (ρ' := ρ) hO.1 (by omega) (by rcases hc with e | e <;> omega) rfl rfl rfl rfl (fun j hj => by unfold c_cell; rw [show s_sn (s_setS σ i (some so)) j = s_sn σ j from va_up_ne _ _ hj]; rfl) (fun j hj => hR.2.2.2.2.2.2.2.2.2 j hj)
          have e8 : c_cell (s_setS σ i (some so)) ad fa ρ i = .inr (3, [.int (nI i), .int (ρ i), .ref (ad so), .int (s_de σ i), .int (nI (s_ht σ i)), .ref (fa i), .ref (ad (s_og σ i))]) := by unfold c_cell; rw [show s_kd (s_setS σ i (some so)) i = 3 from h3, show s_sn (s_setS σ i (some so)) i = (some so) from va_up_self _ _ _]; rfl
          rw [e8, ← eG2] at hR1
          refine lv_iconst (v := 1) hx hb d_S_send_29 (by decide) ?_
          exact W.zret (v := 1) hx hb hr rfl (fun t ht hW => ⟨⟨_, G2, rfl, (by rw [show p_send σ cx sr = (1, s_setS σ i (some so)) from (by simp only [p_send, hci, ho])]; exact ⟨rfl, ⟨rd, ra, rt, ad, fa, ρ, fr, rr, rf, rc, wl, el, cr, by omega, hR1⟩⟩), g_fin ht hP⟩, hS.F ht⟩) hS.2.2 d_S_send_30
      · have hsen : ¬ ((s_si σ sr).isSome = true) := fun h => absurd (eq12.symm.trans c12) (by rw [if_pos h]; decide)
        have hsi : s_si σ sr = none := by cases e9 : s_si σ sr with | none => rfl | some o => exact absurd (by rw [e9]; rfl) hsen
        refine lv_iconst (v := 0) hx hb d_S_send_18 (by decide) ?_
        exact W.zret (v := 0) hx hb hr rfl (fun t ht hW => ⟨⟨_, G, rfl, (by rw [show p_send σ cx sr = (0, σ) from (by simp only [p_send, hci, hsi])]; exact ⟨rfl, c_R.up ⟨rd, ra, rt, ad, fa, ρ, fr, rr, rf, rc, wl, el, cr, hrd, hR⟩⟩), g_fin ht hP⟩, hS.F ht⟩) hS.2.2 d_S_send_19
    · refine lv_astore_n (lv' := [(3, .ref (ad i)), (0, .ref x), (1, .int cx), (2, .int sr)]) hx hb d_S_send_5 rfl hl (by decide) rfl (fun ls hl => ?_)
      refine lv_aload_n hx hb d_S_send_6 rfl (lv_at hl 0 rfl) ?_
      refine lv_ifnull hx hb d_S_send_7 ?_
      refine lv_aload_n hx hb d_S_send_10 rfl (lv_at hl 1 rfl) ?_
      refine lv_iload_n hx hb d_S_send_11 rfl (lv_at hl 3 rfl) ?_
      refine vp_callSi (va_Run.run (r_V (rest := []) C0 [.int sr] (k_S_isSender l hR hO.1 ht0 sr) ml_S_S_isSender im_S_isSender se_S_S_isSender_S ini_S co_S_isSender ⟨rfl, hd_S_isSender⟩ (g_preV (ci := 0) hK hP rfl hR.1) hl.1 d_S_send_12 rfl rfl (Nat.le_of_ble_eq_true rfl) ⟨rfl, rfl⟩ ⟨Nat.le_of_ble_eq_true rfl, Nat.le_of_ble_eq_true rfl⟩ ⟨Nat.le_of_ble_eq_true rfl, Nat.le_of_ble_eq_true rfl⟩)) (fun q12 eq12 => ?_)
      refine lv_if_ne (tgt := 20) hx hb d_S_send_15 (by decide) (fun c12 => ?_) (fun c12 => ?_)
      · have hsen : (s_si σ sr).isSome = true := Decidable.byContradiction (fun h => c12 (eq12.trans (if_neg h)))
        obtain ⟨o, ho⟩ : ∃ o, s_si σ sr = some o := Option.isSome_iff_exists.mp hsen
        refine lv_aload_n hx hb d_S_send_20 rfl (lv_at hl 0 rfl) ?_
        refine lv_aload_n hx hb d_S_send_21 rfl (lv_at hl 1 rfl) ?_
        refine lv_iload_n hx hb d_S_send_22 rfl (lv_at hl 3 rfl) ?_
        refine va_csq (va_Run.run (r_V (rest := [.ref (ad i)]) C0 [.int sr] (k_S_contextIn l hR hO.1 ht0 sr) ml_S_S_contextIn im_S_contextIn se_S_S_contextIn_S ini_S co_S_contextIn ⟨rfl, hd_S_contextIn⟩ (g_preV (ci := 0) hK hP rfl hR.1) hl.1 d_S_send_23 rfl rfl (Nat.le_of_ble_eq_true rfl) ⟨rfl, rfl⟩ ⟨Nat.le_of_ble_eq_true rfl, Nat.le_of_ble_eq_true rfl⟩ ⟨Nat.le_of_ble_eq_true rfl, Nat.le_of_ble_eq_true rfl⟩)) (fun qc ec => ?_)
        rw [s_si_ci ho] at ec
        subst ec
        rcases o with _ | so
        · refine W.eq (g2 := F0 m 26 ls [.null, .ref (ad i)]) rfl ?_
          refine gw_putN (D := D) (cl := vwCl) (ci := 4) (C := "StackRoom$BlockContext") (T := T_B) (N := 8) (v := .null) (ty := .object "StackRoom$Context") hx hb ht in_B ty_B tk_B nm_B hown hK.1 hP hS (hR.c4 h4) rfl 2 (by decide) (va_Nw.use rfl (hK.2.1 _ fn_S_C_sender)) (fun _ h9 => h9) rfl (by decide +kernel) rfl rfl (Nat.le_of_ble_eq_true rfl) d_S_send_26 (fun H locs hP hS => ?_)
          obtain ⟨G3, eG3⟩ : ∃ z : gw_G, z = va_up G (ad i) (some (.inr (4, [.int (nI i), .int (ρ i), .null, .int (s_de σ i), .int (nI (s_ht σ i)), .ref (fa i), .ref (ad (s_og σ i)), .int (s_ct σ i)]))) := ⟨_, rfl⟩
          replace hP : gw_P D vwCl (gw_A G s.heap.size) G3 H := by rw [eG3]; exact hP
          have f3 : G3 (ad i) = some (.inr (4, [.int (nI i), .int (ρ i), .null, .int (s_de σ i), .int (nI (s_ht σ i)), .ref (fa i), .ref (ad (s_og σ i)), .int (s_ct σ i)])) := by rw [eG3]; exact va_up_self _ _ _
          have hR1 := hR.obj (i := i) (τ := s_setS σ i none) (ρ' := ρ) hO.1 (by omega) (by rcases hc with e | e <;> omega) rfl rfl rfl rfl (fun j hj => by unfold c_cell; rw [show s_sn (s_setS σ i none) j = s_sn σ j from va_up_ne _ _ hj]; rfl) (fun j hj => hR.2.2.2.2.2.2.2.2.2 j hj)
          have e8 : c_cell (s_setS σ i none) ad fa ρ i = .inr (4, [.int (nI i), .int (ρ i), .null, .int (s_de σ i), .int (nI (s_ht σ i)), .ref (fa i), .ref (ad (s_og σ i)), .int (s_ct σ i)]) := by unfold c_cell; rw [show s_kd (s_setS σ i none) i = 4 from h4, show s_sn (s_setS σ i none) i = none from va_up_self _ _ _]; rfl
          rw [e8, ← eG3] at hR1
          refine lv_iconst (v := 1) hx hb d_S_send_29 (by decide) ?_
          exact W.zret (v := 1) hx hb hr rfl (fun t ht hW => ⟨⟨_, G3, rfl, (by rw [show p_send σ cx sr = (1, s_setS σ i none) from (by simp only [p_send, hci, ho])]; exact ⟨rfl, ⟨rd, ra, rt, ad, fa, ρ, fr, rr, rf, rc, wl, el, cr, by omega, hR1⟩⟩), g_fin ht hP⟩, hS.F ht⟩) hS.2.2 d_S_send_30
        · refine W.eq (g2 := F0 m 26 ls [.ref (ad so), .ref (ad i)]) rfl ?_
          refine gw_putN (D := D) (cl := vwCl) (ci := 4) (C := "StackRoom$BlockContext") (T := T_B) (N := 8) (v := .ref (ad so)) (ty := .object "StackRoom$Context") hx hb ht in_B ty_B tk_B nm_B hown hK.1 hP hS (hR.c4 h4) rfl 2 (by decide) (va_Nw.use rfl (hK.2.1 _ fn_S_C_sender)) (fun _ h9 => h9) rfl (by decide +kernel) rfl rfl (Nat.le_of_ble_eq_true rfl) d_S_send_26 (fun H locs hP hS => ?_)
          obtain ⟨G4, eG4⟩ : ∃ z : gw_G, z = va_up G (ad i) (some (.inr (4, [.int (nI i), .int (ρ i), .ref (ad so), .int (s_de σ i), .int (nI (s_ht σ i)), .ref (fa i), .ref (ad (s_og σ i)), .int (s_ct σ i)]))) := ⟨_, rfl⟩
          replace hP : gw_P D vwCl (gw_A G s.heap.size) G4 H := by rw [eG4]; exact hP
          have f4 : G4 (ad i) = some (.inr (4, [.int (nI i), .int (ρ i), .ref (ad so), .int (s_de σ i), .int (nI (s_ht σ i)), .ref (fa i), .ref (ad (s_og σ i)), .int (s_ct σ i)])) := by rw [eG4]; exact va_up_self _ _ _
          have hR1 := hR.obj (i := i) (τ := s_setS σ i (some so)) (ρ' := ρ) hO.1 (by omega) (by rcases hc with e | e <;> omega) rfl rfl rfl rfl (fun j hj => by unfold c_cell; rw [show s_sn (s_setS σ i (some so)) j = s_sn σ j from va_up_ne _ _ hj]; rfl) (fun j hj => hR.2.2.2.2.2.2.2.2.2 j hj)
          have e8 : c_cell (s_setS σ i (some so)) ad fa ρ i = .inr (4, [.int (nI i), .int (ρ i), .ref (ad so), .int (s_de σ i), .int (nI (s_ht σ i)), .ref (fa i), .ref (ad (s_og σ i)), .int (s_ct σ i)]) := by unfold c_cell; rw [show s_kd (s_setS σ i (some so)) i = 4 from h4, show s_sn (s_setS σ i (some so)) i = (some so) from va_up_self _ _ _]; rfl
          rw [e8, ← eG4] at hR1
          refine lv_iconst (v := 1) hx hb d_S_send_29 (by decide) ?_
          exact W.zret (v := 1) hx hb hr rfl (fun t ht hW => ⟨⟨_, G4, rfl, (by rw [show p_send σ cx sr = (1, s_setS σ i (some so)) from (by simp only [p_send, hci, ho])]; exact ⟨rfl, ⟨rd, ra, rt, ad, fa, ρ, fr, rr, rf, rc, wl, el, cr, by omega, hR1⟩⟩), g_fin ht hP⟩, hS.F ht⟩) hS.2.2 d_S_send_30
      · have hsen : ¬ ((s_si σ sr).isSome = true) := fun h => absurd (eq12.symm.trans c12) (by rw [if_pos h]; decide)
        have hsi : s_si σ sr = none := by cases e9 : s_si σ sr with | none => rfl | some o => exact absurd (by rw [e9]; rfl) hsen
        refine lv_iconst (v := 0) hx hb d_S_send_18 (by decide) ?_
        exact W.zret (v := 0) hx hb hr rfl (fun t ht hW => ⟨⟨_, G, rfl, (by rw [show p_send σ cx sr = (0, σ) from (by simp only [p_send, hci, hsi])]; exact ⟨rfl, c_R.up ⟨rd, ra, rt, ad, fa, ρ, fr, rr, rf, rc, wl, el, cr, hrd, hR⟩⟩), g_fin ht hP⟩, hS.F ht⟩) hS.2.2 d_S_send_19
set_option maxHeartbeats 4000000 in
set_option maxRecDepth 100000 in
theorem k_S_kill (l : Launch) (hR0 : c_R w n k cV cT σ x G) (hO : s_OK w n σ) (hw : 128 ≤ w ∧ w ≤ 32768) (hn : 16 ≤ n ∧ n ≤ 4096) (hm : s_md σ + 2 < 2 ^ 31) (hk : k + 1 < 2 ^ 31) (ht0 : tys[0]? = some (cV, .object "StackRoom$Value")) (ht1 : tys[1]? = some (cT, .object "StackRoom$Thing")) (cx d : Int32) (hd : d = 0 ∨ d = 1) : Met l y_S_kill w_S_kill ({ frames := 3, cells := 0, slots := 0, locals := 65 }) (g_pre D tys G sz [.ref x, .int cx, .int d]) (va_Qi (fun (rz : Int32) (G1 : gw_G) => rz = (p_kill σ cx d).1 ∧ c_R w n (k + 1) cV cT (p_kill σ cx d).2 x G1) (g_end D G sz) (gw_A G sz)) 0 0 (gw_A G sz) := by
  refine Met.ofW (cc := b_S_kill) (maxL := 5) (ret := (some .boolean)) (by decide) rfl ?_
  intro p e s m args below meth c s₁ B hml hv
  obtain ⟨rfl, hsz, hP, hK⟩ := hv
  have hx := B.exec
  have hb := B.bytes
  have hr := B.returns
  have ht := fun w (hw : w ∈ gt) => atoms_spec (ws := w_S_kill) B.pre w (List.mem_cons_of_mem _ hw)
  have hown : s.vm.findClass "StackRoom" = some m.cls := findClass_of_methodNamed B.named
  have hlocks := B.notSynchronized
  have C0 : CallFix p m c b_S_kill 5 s [.ref x, .int cx, .int d].toArray gt "StackRoom" := ⟨hx, hb, hml, hown, ht⟩
  subst hsz
  have hP := hP.self (sz := s.heap.size)
  have hA : ∀ q : Nat, s.heap.size ≤ q → gw_A G s.heap.size q := fun q h => Or.inr h
  have hS : va_S (gw_A G s.heap.size) s.heap s.heap [] := va_S.rf
  have hl := lv_entry ([.ref x, .int cx, .int d]) (n := 5) (Nat.le_of_ble_eq_true rfl)
  rw [lg_entry_eq]
  generalize (lg_sl ([.ref x, .int cx, .int d]) ++ List.replicate (5 - (lg_sl ([.ref x, .int cx, .int d])).length) Slot.unset).toArray = ls at hl ⊢
  have hl : lv_has ls 5 [(0, .ref x), (1, .int cx), (2, .int d)] := hl
  obtain ⟨rd, ra, rt, ad, fa, ρ, fr, rr, rf, rc, wl, el, cr, hrd, hR⟩ := hR0
  refine lv_aload_n hx hb d_S_kill_0 rfl (lv_at hl 0 rfl) ?_
  refine lv_iload_n hx hb d_S_kill_1 rfl (lv_at hl 1 rfl) ?_
  refine va_csq (va_Run.run (r_V (rest := []) C0 [.int cx] (k_S_contextIn l hR hO.1 ht0 cx) ml_S_S_contextIn im_S_contextIn se_S_S_contextIn_S ini_S co_S_contextIn ⟨rfl, hd_S_contextIn⟩ (g_preV (ci := 0) hK hP rfl hR.1) hl.1 d_S_kill_2 rfl rfl (Nat.le_of_ble_eq_true rfl) ⟨rfl, rfl⟩ ⟨Nat.le_of_ble_eq_true rfl, Nat.le_of_ble_eq_true rfl⟩ ⟨Nat.le_of_ble_eq_true rfl, Nat.le_of_ble_eq_true rfl⟩)) (fun qc ec => ?_)
  subst ec
  rcases hci : s_ci σ cx with _ | i
  · refine lv_astore_nN (lv' := [(3, .null), (0, .ref x), (1, .int cx), (2, .int d)]) hx hb d_S_kill_5 rfl hl (by decide) rfl (fun ls hl => ?_)
    refine lv_aload_nN hx hb d_S_kill_6 rfl (lv_at hl 0 rfl) ?_
    refine lv_ifnonnullN hx hb d_S_kill_7 ?_
    refine lv_iconst (v := 0) hx hb d_S_kill_10 (by decide) ?_
    exact W.zret (v := 0) hx hb hr rfl (fun t ht hW => ⟨⟨_, G, rfl, (by rw [show p_kill σ cx d = (0, σ) from (by simp only [p_kill, hci])]; exact ⟨rfl, c_R.up ⟨rd, ra, rt, ad, fa, ρ, fr, rr, rf, rc, wl, el, cr, hrd, hR⟩⟩), g_fin ht hP⟩, hS.F ht⟩) hS.2.2 d_S_kill_11
  · have hc := (s_ci_some hci).2.2
    have hri := s_ci_rch hci
    rcases id hc with h3 | h4
    · refine lv_astore_n (lv' := [(3, .ref (ad i)), (0, .ref x), (1, .int cx), (2, .int d)]) hx hb d_S_kill_5 rfl hl (by decide) rfl (fun ls hl => ?_)
      refine lv_aload_n hx hb d_S_kill_6 rfl (lv_at hl 0 rfl) ?_
      refine lv_ifnonnull (tgt := 12) hx hb d_S_kill_7 (by decide) ?_
      refine lv_aload_n hx hb d_S_kill_12 rfl (lv_at hl 0 rfl) ?_
      refine va_getN (D := D) (ci := 3) (C := "StackRoom$MethodContext") (T := T_X) (N := 7) (v := .int (s_de σ i)) hx hb ht in_X hown hK.1 (hP.one (hR.c3 h3)) 0 rfl rfl 3 (by decide) (va_Nw.use rfl (hK.2.1 _ fn_S_C_dead)) (fun _ h9 => h9) rfl d_S_kill_13 ?_
      refine lv_istore (lv' := [(4, .int (s_de σ i)), (3, .ref (ad i)), (0, .ref x), (1, .int cx), (2, .int d)]) hx hb d_S_kill_16 hl (by decide) rfl (fun ls hl => ?_)
      refine lv_aload_n hx hb d_S_kill_18 rfl (lv_at hl 1 rfl) ?_
      refine lv_iload_n hx hb d_S_kill_19 rfl (lv_at hl 4 rfl) ?_
      have hde := (hO.1.2.2.2.2.2.2 i hc).2.2.2.1
      refine gw_putN (D := D) (cl := vwCl) (ci := 3) (C := "StackRoom$MethodContext") (T := T_X) (N := 7) (v := .int d) (ty := .boolean) hx hb ht in_X ty_X tk_X nm_X hown hK.1 hP hS (hR.c3 h3) rfl 3 (by decide) (va_Nw.use rfl (hK.2.1 _ fn_S_C_dead)) (fun _ h9 => h9) rfl (by decide +kernel) (by rcases hd with e | e <;> rw [e] <;> rfl) (by rcases hd with e | e <;> rw [e] <;> rfl) (Nat.le_of_ble_eq_true rfl) d_S_kill_20 (fun H locs hP hS => ?_)
      obtain ⟨G1, eG1⟩ : ∃ z : gw_G, z = va_up G (ad i) (some (.inr (3, [.int (nI i), .int (ρ i), va_rf ((s_sn σ i).map ad), .int d, .int (nI (s_ht σ i)), .ref (fa i), .ref (ad (s_og σ i))]))) := ⟨_, rfl⟩
      replace hP : gw_P D vwCl (gw_A G s.heap.size) G1 H := by rw [eG1]; exact hP
      have f1 : G1 (ad i) = some (.inr (3, [.int (nI i), .int (ρ i), va_rf ((s_sn σ i).map ad), .int d, .int (nI (s_ht σ i)), .ref (fa i), .ref (ad (s_og σ i))])) := by rw [eG1]; exact va_up_self _ _ _
      have hR1 := hR.obj (i := i) (τ := s_setD σ i d) (ρ' := ρ) hO.1 (by omega) (by rcases hc with e | e <;> omega) rfl rfl rfl rfl (fun j hj => by unfold c_cell; rw [show s_de (s_setD σ i d) j = s_de σ j from va_up_ne _ _ hj]; rfl) (fun j hj => hR.2.2.2.2.2.2.2.2.2 j hj)
      have e8 : c_cell (s_setD σ i d) ad fa ρ i = .inr (3, [.int (nI i), .int (ρ i), va_rf ((s_sn σ i).map ad), .int d, .int (nI (s_ht σ i)), .ref (fa i), .ref (ad (s_og σ i))]) := by unfold c_cell; rw [show s_kd (s_setD σ i d) i = 3 from h3, show s_de (s_setD σ i d) i = d from va_up_self _ _ _]; rfl
      rw [e8, ← eG1] at hR1
      refine lv_iload hx hb d_S_kill_23 (lv_at hl 0 rfl) ?_
      exact W.zret (v := (s_de σ i)) hx hb hr (by rcases hde with e | e <;> rw [e] <;> rfl) (fun t ht hW => ⟨⟨_, G1, rfl, (by rw [show p_kill σ cx d = (s_de σ i, s_setD σ i d) from (by simp only [p_kill, hci])]; exact ⟨rfl, ⟨rd, ra, rt, ad, fa, ρ, fr, rr, rf, rc, wl, el, cr, by omega, hR1⟩⟩), g_fin ht hP⟩, hS.F ht⟩) hS.2.2 d_S_kill_25
    · refine lv_astore_n (lv' := [(3, .ref (ad i)), (0, .ref x), (1, .int cx), (2, .int d)]) hx hb d_S_kill_5 rfl hl (by decide) rfl (fun ls hl => ?_)
      refine lv_aload_n hx hb d_S_kill_6 rfl (lv_at hl 0 rfl) ?_
      refine lv_ifnonnull (tgt := 12) hx hb d_S_kill_7 (by decide) ?_
      refine lv_aload_n hx hb d_S_kill_12 rfl (lv_at hl 0 rfl) ?_
      refine va_getN (D := D) (ci := 4) (C := "StackRoom$BlockContext") (T := T_B) (N := 8) (v := .int (s_de σ i)) hx hb ht in_B hown hK.1 (hP.one (hR.c4 h4)) 0 rfl rfl 3 (by decide) (va_Nw.use rfl (hK.2.1 _ fn_S_C_dead)) (fun _ h9 => h9) rfl d_S_kill_13 ?_
      refine lv_istore (lv' := [(4, .int (s_de σ i)), (3, .ref (ad i)), (0, .ref x), (1, .int cx), (2, .int d)]) hx hb d_S_kill_16 hl (by decide) rfl (fun ls hl => ?_)
      refine lv_aload_n hx hb d_S_kill_18 rfl (lv_at hl 1 rfl) ?_
      refine lv_iload_n hx hb d_S_kill_19 rfl (lv_at hl 4 rfl) ?_
      have hde := (hO.1.2.2.2.2.2.2 i hc).2.2.2.1
      refine gw_putN (D := D) (cl := vwCl) (ci := 4) (C := "StackRoom$BlockContext") (T := T_B) (N := 8) (v := .int d) (ty := .boolean) hx hb ht in_B ty_B tk_B nm_B hown hK.1 hP hS (hR.c4 h4) rfl 3 (by decide) (va_Nw.use rfl (hK.2.1 _ fn_S_C_dead)) (fun _ h9 => h9) rfl (by decide +kernel) (by rcases hd with e | e <;> rw [e] <;> rfl) (by rcases hd with e | e <;> rw [e] <;> rfl) (Nat.le_of_ble_eq_true rfl) d_S_kill_20 (fun H locs hP hS => ?_)
      obtain ⟨G2, eG2⟩ : ∃ z : gw_G, z = va_up G (ad i) (some (.inr (4, [.int (nI i), .int (ρ i), va_rf ((s_sn σ i).map ad), .int d, .int (nI (s_ht σ i)), .ref (fa i), .ref (ad (s_og σ i)), .int (s_ct σ i)]))) := ⟨_, rfl⟩
      replace hP : gw_P D vwCl (gw_A G s.heap.size) G2 H := by rw [eG2]; exact hP
      have f2 : G2 (ad i) = some (.inr (4, [.int (nI i), .int (ρ i), va_rf ((s_sn σ i).map ad), .int d, .int (nI (s_ht σ i)), .ref (fa i), .ref (ad (s_og σ i)), .int (s_ct σ i)])) := by rw [eG2]; exact va_up_self _ _ _
      have hR1 := hR.obj (i := i) (τ := s_setD σ i d) (ρ' := ρ) hO.1 (by omega) (by rcases hc with e | e <;> omega) rfl rfl rfl rfl (fun j hj => by unfold c_cell; rw [show s_de (s_setD σ i d) j = s_de σ j from va_up_ne _ _ hj]; rfl) (fun j hj => hR.2.2.2.2.2.2.2.2.2 j hj)
      have e8 : c_cell (s_setD σ i d) ad fa ρ i = .inr (4, [.int (nI i), .int (ρ i), va_rf ((s_sn σ i).map ad), .int d, .int (nI (s_ht σ i)), .ref (fa i), .ref (ad (s_og σ i)), .int (s_ct σ i)]) := by unfold c_cell; rw [show s_kd (s_setD σ i d) i = 4 from h4, show s_de (s_setD σ i d) i = d from va_up_self _ _ _]; rfl
      rw [e8, ← eG2] at hR1
      refine lv_iload hx hb d_S_kill_23 (lv_at hl 0 rfl) ?_
      exact W.zret (v := (s_de σ i)) hx hb hr (by rcases hde with e | e <;> rw [e] <;> rfl) (fun t ht hW => ⟨⟨_, G2, rfl, (by rw [show p_kill σ cx d = (s_de σ i, s_setD σ i d) from (by simp only [p_kill, hci])]; exact ⟨rfl, ⟨rd, ra, rt, ad, fa, ρ, fr, rr, rf, rc, wl, el, cr, by omega, hR1⟩⟩), g_fin ht hP⟩, hS.F ht⟩) hS.2.2 d_S_kill_25
set_option maxHeartbeats 4000000 in
set_option maxRecDepth 100000 in
theorem k_S_temporary (l : Launch) (hR0 : c_R w n k cV cT σ x G) (hO : s_OK w n σ) (hw : 128 ≤ w ∧ w ≤ 32768) (hn : 16 ≤ n ∧ n ≤ 4096) (hm : s_md σ + 2 < 2 ^ 31) (hk : k + 1 < 2 ^ 31) (ht0 : tys[0]? = some (cV, .object "StackRoom$Value")) (ht1 : tys[1]? = some (cT, .object "StackRoom$Thing")) (r cx ix : Int32) : Met l y_S_temporary w_S_temporary ({ frames := 3, cells := 0, slots := 0, locals := 65 }) (g_pre D tys G sz [.ref x, .int r, .int cx, .int ix]) (va_Qi (fun (rz : Int32) (G1 : gw_G) => rz = (p_temporary σ r cx ix).1 ∧ c_R w n (k + 1) cV cT (p_temporary σ r cx ix).2 x G1) (g_end D G sz) (gw_A G sz)) 0 0 (gw_A G sz) := by
  refine Met.ofW (cc := b_S_temporary) (maxL := 5) (ret := (some .boolean)) (by decide) rfl ?_
  intro p e s m args below meth c s₁ B hml hv
  obtain ⟨rfl, hsz, hP, hK⟩ := hv
  have hx := B.exec
  have hb := B.bytes
  have hr := B.returns
  have ht := fun w (hw : w ∈ gt) => atoms_spec (ws := w_S_temporary) B.pre w (List.mem_cons_of_mem _ hw)
  have hown : s.vm.findClass "StackRoom" = some m.cls := findClass_of_methodNamed B.named
  have hlocks := B.notSynchronized
  have C0 : CallFix p m c b_S_temporary 5 s [.ref x, .int r, .int cx, .int ix].toArray gt "StackRoom" := ⟨hx, hb, hml, hown, ht⟩
  subst hsz
  have hP := hP.self (sz := s.heap.size)
  have hA : ∀ q : Nat, s.heap.size ≤ q → gw_A G s.heap.size q := fun q h => Or.inr h
  have hS : va_S (gw_A G s.heap.size) s.heap s.heap [] := va_S.rf
  have hl := lv_entry ([.ref x, .int r, .int cx, .int ix]) (n := 5) (Nat.le_of_ble_eq_true rfl)
  rw [lg_entry_eq]
  generalize (lg_sl ([.ref x, .int r, .int cx, .int ix]) ++ List.replicate (5 - (lg_sl ([.ref x, .int r, .int cx, .int ix])).length) Slot.unset).toArray = ls at hl ⊢
  have hl : lv_has ls 5 [(0, .ref x), (1, .int r), (2, .int cx), (3, .int ix)] := hl
  obtain ⟨rd, ra, rt, ad, fa, ρ, fr, rr, rf, rc, wl, el, cr, hrd, hR⟩ := hR0
  refine lv_aload_n hx hb d_S_temporary_0 rfl (lv_at hl 0 rfl) ?_
  refine lv_iload_n hx hb d_S_temporary_1 rfl (lv_at hl 2 rfl) ?_
  refine va_csq (va_Run.run (r_V (rest := []) C0 [.int cx] (k_S_contextIn l hR hO.1 ht0 cx) ml_S_S_contextIn im_S_contextIn se_S_S_contextIn_S ini_S co_S_contextIn ⟨rfl, hd_S_contextIn⟩ (g_preV (ci := 0) hK hP rfl hR.1) hl.1 d_S_temporary_2 rfl rfl (Nat.le_of_ble_eq_true rfl) ⟨rfl, rfl⟩ ⟨Nat.le_of_ble_eq_true rfl, Nat.le_of_ble_eq_true rfl⟩ ⟨Nat.le_of_ble_eq_true rfl, Nat.le_of_ble_eq_true rfl⟩)) (fun qc ec => ?_)
  subst ec
  rcases hci : s_ci σ cx with _ | i
  · refine lv_astoreN (lv' := [(4, .null), (0, .ref x), (1, .int r), (2, .int cx), (3, .int ix)]) hx hb d_S_temporary_5 hl (by decide) rfl (fun ls hl => ?_)
    refine lv_iload_n hx hb d_S_temporary_7 rfl (lv_at hl 2 rfl) ?_
    refine vp_callSi (va_Run.run (r_S (rest := []) C0 [.int r] (k_S_isRegister l r) ml_S_S_isRegister st_S_isRegister ini_S co_S_isRegister hd_S_isRegister v_preS hl.1 d_S_temporary_8 rfl rfl (Nat.le_of_ble_eq_true rfl) ⟨rfl, rfl⟩ ⟨Nat.le_of_ble_eq_true rfl, Nat.le_of_ble_eq_true rfl⟩ ⟨Nat.le_of_ble_eq_true rfl, Nat.le_of_ble_eq_true rfl⟩)) (fun q8 eq8 => ?_)
    refine lv_if_eq (tgt := 31) hx hb d_S_temporary_11 (by decide) (fun c8 => ?_) (fun c8 => ?_)
    · have hreg : ¬ (0 ≤ r ∧ r ≤ 15) := fun h => absurd (eq8.symm.trans c8) (by rw [if_pos h]; decide)
      refine lv_iconst (v := 0) hx hb d_S_temporary_31 (by decide) ?_
      exact W.zret (v := 0) hx hb hr rfl (fun t ht hW => ⟨⟨_, G, rfl, (by rw [show p_temporary σ r cx ix = (0, σ) from (by simp only [p_temporary, hci])]; exact ⟨rfl, c_R.up ⟨rd, ra, rt, ad, fa, ρ, fr, rr, rf, rc, wl, el, cr, hrd, hR⟩⟩), g_fin ht hP⟩, hS.F ht⟩) hS.2.2 d_S_temporary_32
    · have hreg : 0 ≤ r ∧ r ≤ 15 := Decidable.byContradiction (fun h => c8 (eq8.trans (if_neg h)))
      refine lv_aloadN hx hb d_S_temporary_14 (lv_at hl 0 rfl) ?_
      refine lv_ifnullN (tgt := 31) hx hb d_S_temporary_16 (by decide) ?_
      refine lv_iconst (v := 0) hx hb d_S_temporary_31 (by decide) ?_
      exact W.zret (v := 0) hx hb hr rfl (fun t ht hW => ⟨⟨_, G, rfl, (by rw [show p_temporary σ r cx ix = (0, σ) from (by simp only [p_temporary, hci])]; exact ⟨rfl, c_R.up ⟨rd, ra, rt, ad, fa, ρ, fr, rr, rf, rc, wl, el, cr, hrd, hR⟩⟩), g_fin ht hP⟩, hS.F ht⟩) hS.2.2 d_S_temporary_32
  · have hc := (s_ci_some hci).2.2
    have hri := s_ci_rch hci
    rcases id hc with h3 | h4
    · have hkh := s_hm_kd hO.1 hc
      have hbh := (hO.1.2.2.2.2.2.2 (s_hm σ i) (Or.inl hkh)).2
      have hth := (hO.1.2.2.2.1 _ (hO.1.2.2.2.2.1 _ hkh)).1
      refine lv_astore (lv' := [(4, .ref (ad i)), (0, .ref x), (1, .int r), (2, .int cx), (3, .int ix)]) hx hb d_S_temporary_5 hl (by decide) rfl (fun ls hl => ?_)
      refine lv_iload_n hx hb d_S_temporary_7 rfl (lv_at hl 2 rfl) ?_
      refine vp_callSi (va_Run.run (r_S (rest := []) C0 [.int r] (k_S_isRegister l r) ml_S_S_isRegister st_S_isRegister ini_S co_S_isRegister hd_S_isRegister v_preS hl.1 d_S_temporary_8 rfl rfl (Nat.le_of_ble_eq_true rfl) ⟨rfl, rfl⟩ ⟨Nat.le_of_ble_eq_true rfl, Nat.le_of_ble_eq_true rfl⟩ ⟨Nat.le_of_ble_eq_true rfl, Nat.le_of_ble_eq_true rfl⟩)) (fun q8 eq8 => ?_)
      refine lv_if_eq (tgt := 31) hx hb d_S_temporary_11 (by decide) (fun c8 => ?_) (fun c8 => ?_)
      · have hreg : ¬ (0 ≤ r ∧ r ≤ 15) := fun h => absurd (eq8.symm.trans c8) (by rw [if_pos h]; decide)
        refine lv_iconst (v := 0) hx hb d_S_temporary_31 (by decide) ?_
        exact W.zret (v := 0) hx hb hr rfl (fun t ht hW => ⟨⟨_, G, rfl, (by rw [show p_temporary σ r cx ix = (0, σ) from (by simp only [p_temporary, hci]; rw [if_neg (fun z => hreg z.1)])]; exact ⟨rfl, c_R.up ⟨rd, ra, rt, ad, fa, ρ, fr, rr, rf, rc, wl, el, cr, hrd, hR⟩⟩), g_fin ht hP⟩, hS.F ht⟩) hS.2.2 d_S_temporary_32
      · have hreg : 0 ≤ r ∧ r ≤ 15 := Decidable.byContradiction (fun h => c8 (eq8.trans (if_neg h)))
        refine lv_aload hx hb d_S_temporary_14 (lv_at hl 0 rfl) ?_
        refine lv_ifnull hx hb d_S_temporary_16 ?_
        refine lv_aload hx hb d_S_temporary_19 (lv_at hl 0 rfl) ?_
        refine va_csq (va_Run.run (r_A (owner := "StackRoom$Context") (n := 0) (rest := []) C0 [] (k_X_homeContext l hR (i := i) h3) ml_S_C_homeContext sm_C_C_homeContext se_X_C_homeContext_X im_X_homeContext ini_X co_X_homeContext (hK.2.1 _ dc_C_homeContext) (by decide +kernel) (g_preV (ci := 3) hK hP rfl (hR.c3 h3)) hl.1 d_S_temporary_21 rfl rfl (Nat.le_of_ble_eq_true rfl) ⟨rfl, rfl⟩ ⟨Nat.le_of_ble_eq_true rfl, Nat.le_of_ble_eq_true rfl⟩ ⟨Nat.le_of_ble_eq_true rfl, Nat.le_of_ble_eq_true rfl⟩)) (fun qh1 eh1 => ?_)
        subst eh1
        refine lv_iload_n hx hb d_S_temporary_24 rfl (lv_at hl 4 rfl) ?_
        refine vp_callSi (va_Run.run (r_V (rest := []) C0 [.int ix] (k_X_hasTemporary l hR (i := s_hm σ i) hkh hO.1 ht0 ix) ml_S_X_hasTemporary im_X_hasTemporary se_X_X_hasTemporary_X ini_X co_X_hasTemporary ⟨rfl, hd_X_hasTemporary⟩ (g_preV (ci := 3) hK hP rfl (hR.c3 hkh)) hl.1 d_S_temporary_25 rfl rfl (Nat.le_of_ble_eq_true rfl) ⟨rfl, rfl⟩ ⟨Nat.le_of_ble_eq_true rfl, Nat.le_of_ble_eq_true rfl⟩ ⟨Nat.le_of_ble_eq_true rfl, Nat.le_of_ble_eq_true rfl⟩)) (fun q25 eq25 => ?_)
        refine lv_if_ne (tgt := 33) hx hb d_S_temporary_28 (by decide) (fun c25 => ?_) (fun c25 => ?_)
        · have htm : ix < nI (s_tt σ (s_og σ (s_hm σ i))) ∧ 0 ≤ ix ∧ ix < nI (s_rm σ (s_hm σ i)) := Decidable.byContradiction (fun h => c25 (eq25.trans (if_neg h)))
          have hx0 := htm.2.1
          have hi1 : ix.toNatClampNeg < s_tt σ (s_og σ (s_hm σ i)) := by have z := htm.1; rw [← s_clampI hx0] at z; exact (nI_ltI (by have := s_clampLe (k := 1000) hx0 (by omega) (Int32.le_trans (Int32.le_of_lt htm.1) ((nI_leI (by omega) (by omega)).mpr (by omega))); omega) (by omega)).mp z
          have hi2 : ix.toNatClampNeg < s_rm σ (s_hm σ i) := by have z := htm.2.2; rw [← s_clampI hx0] at z; exact (nI_ltI (by omega) (by omega)).mp z
          refine lv_aload_n hx hb d_S_temporary_33 rfl (lv_at hl 1 rfl) ?_
          refine va_get (D := D) (ci := 0) (C := "StackRoom") (T := T_S) (N := 10) (v := .ref ra) hx hb ht in_S hown hK.1 (hP.one hR.1) 0 rfl rfl 2 (by decide) (ht _ fl_S_S_registers) (fun _ h9 => h9) rfl d_S_temporary_34 ?_
          refine lv_iload_n hx hb d_S_temporary_37 rfl (lv_at hl 2 rfl) ?_
          refine lv_aload hx hb d_S_temporary_38 (lv_at hl 0 rfl) ?_
          refine va_csq (va_Run.run (r_A (owner := "StackRoom$Context") (n := 0) (rest := [.int r, .ref ra]) C0 [] (k_X_homeContext l hR (i := i) h3) ml_S_C_homeContext sm_C_C_homeContext se_X_C_homeContext_X im_X_homeContext ini_X co_X_homeContext (hK.2.1 _ dc_C_homeContext) (by decide +kernel) (g_preV (ci := 3) hK hP rfl (hR.c3 h3)) hl.1 d_S_temporary_40 rfl rfl (Nat.le_of_ble_eq_true rfl) ⟨rfl, rfl⟩ ⟨Nat.le_of_ble_eq_true rfl, Nat.le_of_ble_eq_true rfl⟩ ⟨Nat.le_of_ble_eq_true rfl, Nat.le_of_ble_eq_true rfl⟩)) (fun qh2 eh2 => ?_)
          subst eh2
          refine lv_iload_n hx hb d_S_temporary_43 rfl (lv_at hl 4 rfl) ?_
          refine va_csq (va_Run.run (r_U (owner := "StackRoom$Context") (n := 1) (rest := [.int r, .ref ra]) C0 [.int ix] (k_C_fieldAt l hR (i := s_hm σ i) (Or.inl hkh) hO.1 ht0 ix) ml_S_X_fieldAt sm_X_C_fieldAt se_X_X_fieldAt_C im_C_fieldAt ini_C co_C_fieldAt rfl (by decide +kernel) (g_preV (ci := 3) hK hP rfl (hR.c3 hkh)) hl.1 d_S_temporary_44 rfl rfl (Nat.le_of_ble_eq_true rfl) ⟨rfl, rfl⟩ ⟨Nat.le_of_ble_eq_true rfl, Nat.le_of_ble_eq_true rfl⟩ ⟨Nat.le_of_ble_eq_true rfl, Nat.le_of_ble_eq_true rfl⟩)) (fun qf ef => ?_)
          rw [if_pos ⟨hx0, htm.2.2⟩] at ef
          subst ef
          have hvf := hR.2.2.2.2.2.2.2.1 (s_hm σ i) (Or.inl hkh) ix.toNatClampNeg hi2
          refine gw_astqO (v := fr (s_hm σ i) ix.toNatClampNeg) hx hb hK.1 hP hS 0 hR.2.1 ht0 (fun y hy => c_any hK hP (c_val_isv hR hO.1 hvf (fun j e => hbh.2.2.2 _ hi2 j e) y hy)) (s_rin hreg) d_S_temporary_47 (fun H locs hP hS => ?_)
          obtain ⟨G1, eG1⟩ : ∃ z : gw_G, z = va_up G ra (some (.inl (cV, 16, qv (va_up rr r.toNatClampNeg (fr (s_hm σ i) ix.toNatClampNeg))))) := ⟨_, rfl⟩
          replace hP : gw_P D vwCl (gw_A G s.heap.size) G1 H := by rw [eG1]; exact hP
          have hR9 := hR.reg (k := r.toNatClampNeg) (v := s_fl σ (s_hm σ i) ix.toNatClampNeg) (r := fr (s_hm σ i) ix.toNatClampNeg) hvf
          rw [← eG1] at hR9
          refine lv_iconst (v := 1) hx hb d_S_temporary_48 (by decide) ?_
          exact W.zret (v := 1) hx hb hr rfl (fun t ht hW => ⟨⟨_, G1, rfl, (by rw [show p_temporary σ r cx ix = (1, s_put σ r (s_fl σ (s_hm σ i) ix.toNatClampNeg)) from (by simp only [p_temporary, hci]; rw [if_pos ⟨hreg, hx0, hi1, hi2⟩])]; exact ⟨rfl, ⟨rd, ra, rt, ad, fa, ρ, fr, _, rf, rc, wl, el, cr, by omega, hR9⟩⟩), g_fin ht hP⟩, hS.F ht⟩) hS.2.2 d_S_temporary_49
        · have htm : ¬ (ix < nI (s_tt σ (s_og σ (s_hm σ i))) ∧ 0 ≤ ix ∧ ix < nI (s_rm σ (s_hm σ i))) := fun h => absurd (eq25.symm.trans c25) (by rw [if_pos h]; decide)
          have hno : ¬ (0 ≤ ix ∧ ix.toNatClampNeg < s_tt σ (s_og σ (s_hm σ i)) ∧ ix.toNatClampNeg < s_rm σ (s_hm σ i)) := fun z => htm ⟨by rw [← s_clampI z.1]; exact (nI_ltI (by omega) (by omega)).mpr z.2.1, z.1, by rw [← s_clampI z.1]; exact (nI_ltI (by omega) (by omega)).mpr z.2.2⟩
          refine lv_iconst (v := 0) hx hb d_S_temporary_31 (by decide) ?_
          exact W.zret (v := 0) hx hb hr rfl (fun t ht hW => ⟨⟨_, G, rfl, (by rw [show p_temporary σ r cx ix = (0, σ) from (by simp only [p_temporary, hci]; rw [if_neg (fun z => hno z.2)])]; exact ⟨rfl, c_R.up ⟨rd, ra, rt, ad, fa, ρ, fr, rr, rf, rc, wl, el, cr, hrd, hR⟩⟩), g_fin ht hP⟩, hS.F ht⟩) hS.2.2 d_S_temporary_32
    · have hkh := s_hm_kd hO.1 hc
      have hbh := (hO.1.2.2.2.2.2.2 (s_hm σ i) (Or.inl hkh)).2
      have hth := (hO.1.2.2.2.1 _ (hO.1.2.2.2.2.1 _ hkh)).1
      refine lv_astore (lv' := [(4, .ref (ad i)), (0, .ref x), (1, .int r), (2, .int cx), (3, .int ix)]) hx hb d_S_temporary_5 hl (by decide) rfl (fun ls hl => ?_)
      refine lv_iload_n hx hb d_S_temporary_7 rfl (lv_at hl 2 rfl) ?_
      refine vp_callSi (va_Run.run (r_S (rest := []) C0 [.int r] (k_S_isRegister l r) ml_S_S_isRegister st_S_isRegister ini_S co_S_isRegister hd_S_isRegister v_preS hl.1 d_S_temporary_8 rfl rfl (Nat.le_of_ble_eq_true rfl) ⟨rfl, rfl⟩ ⟨Nat.le_of_ble_eq_true rfl, Nat.le_of_ble_eq_true rfl⟩ ⟨Nat.le_of_ble_eq_true rfl, Nat.le_of_ble_eq_true rfl⟩)) (fun q8 eq8 => ?_)
      refine lv_if_eq (tgt := 31) hx hb d_S_temporary_11 (by decide) (fun c8 => ?_) (fun c8 => ?_)
      · have hreg : ¬ (0 ≤ r ∧ r ≤ 15) := fun h => absurd (eq8.symm.trans c8) (by rw [if_pos h]; decide)
        refine lv_iconst (v := 0) hx hb d_S_temporary_31 (by decide) ?_
        exact W.zret (v := 0) hx hb hr rfl (fun t ht hW => ⟨⟨_, G, rfl, (by rw [show p_temporary σ r cx ix = (0, σ) from (by simp only [p_temporary, hci]; rw [if_neg (fun z => hreg z.1)])]; exact ⟨rfl, c_R.up ⟨rd, ra, rt, ad, fa, ρ, fr, rr, rf, rc, wl, el, cr, hrd, hR⟩⟩), g_fin ht hP⟩, hS.F ht⟩) hS.2.2 d_S_temporary_32
      · have hreg : 0 ≤ r ∧ r ≤ 15 := Decidable.byContradiction (fun h => c8 (eq8.trans (if_neg h)))
        refine lv_aload hx hb d_S_temporary_14 (lv_at hl 0 rfl) ?_
        refine lv_ifnull hx hb d_S_temporary_16 ?_
        refine lv_aload hx hb d_S_temporary_19 (lv_at hl 0 rfl) ?_
        refine va_csq (va_Run.run (r_A (owner := "StackRoom$Context") (n := 0) (rest := []) C0 [] (k_B_homeContext l hR (i := i) h4) ml_S_C_homeContext sm_C_C_homeContext se_B_C_homeContext_B im_B_homeContext ini_B co_B_homeContext (hK.2.1 _ dc_C_homeContext) (by decide +kernel) (g_preV (ci := 4) hK hP rfl (hR.c4 h4)) hl.1 d_S_temporary_21 rfl rfl (Nat.le_of_ble_eq_true rfl) ⟨rfl, rfl⟩ ⟨Nat.le_of_ble_eq_true rfl, Nat.le_of_ble_eq_true rfl⟩ ⟨Nat.le_of_ble_eq_true rfl, Nat.le_of_ble_eq_true rfl⟩)) (fun qh1 eh1 => ?_)
        subst eh1
        refine lv_iload_n hx hb d_S_temporary_24 rfl (lv_at hl 4 rfl) ?_
        refine vp_callSi (va_Run.run (r_V (rest := []) C0 [.int ix] (k_X_hasTemporary l hR (i := s_hm σ i) hkh hO.1 ht0 ix) ml_S_X_hasTemporary im_X_hasTemporary se_X_X_hasTemporary_X ini_X co_X_hasTemporary ⟨rfl, hd_X_hasTemporary⟩ (g_preV (ci := 3) hK hP rfl (hR.c3 hkh)) hl.1 d_S_temporary_25 rfl rfl (Nat.le_of_ble_eq_true rfl) ⟨rfl, rfl⟩ ⟨Nat.le_of_ble_eq_true rfl, Nat.le_of_ble_eq_true rfl⟩ ⟨Nat.le_of_ble_eq_true rfl, Nat.le_of_ble_eq_true rfl⟩)) (fun q25 eq25 => ?_)
        refine lv_if_ne (tgt := 33) hx hb d_S_temporary_28 (by decide) (fun c25 => ?_) (fun c25 => ?_)
        · have htm : ix < nI (s_tt σ (s_og σ (s_hm σ i))) ∧ 0 ≤ ix ∧ ix < nI (s_rm σ (s_hm σ i)) := Decidable.byContradiction (fun h => c25 (eq25.trans (if_neg h)))
          have hx0 := htm.2.1
          have hi1 : ix.toNatClampNeg < s_tt σ (s_og σ (s_hm σ i)) := by have z := htm.1; rw [← s_clampI hx0] at z; exact (nI_ltI (by have := s_clampLe (k := 1000) hx0 (by omega) (Int32.le_trans (Int32.le_of_lt htm.1) ((nI_leI (by omega) (by omega)).mpr (by omega))); omega) (by omega)).mp z
          have hi2 : ix.toNatClampNeg < s_rm σ (s_hm σ i) := by have z := htm.2.2; rw [← s_clampI hx0] at z; exact (nI_ltI (by omega) (by omega)).mp z
          refine lv_aload_n hx hb d_S_temporary_33 rfl (lv_at hl 1 rfl) ?_
          refine va_get (D := D) (ci := 0) (C := "StackRoom") (T := T_S) (N := 10) (v := .ref ra) hx hb ht in_S hown hK.1 (hP.one hR.1) 0 rfl rfl 2 (by decide) (ht _ fl_S_S_registers) (fun _ h9 => h9) rfl d_S_temporary_34 ?_
          refine lv_iload_n hx hb d_S_temporary_37 rfl (lv_at hl 2 rfl) ?_
          refine lv_aload hx hb d_S_temporary_38 (lv_at hl 0 rfl) ?_
          refine va_csq (va_Run.run (r_A (owner := "StackRoom$Context") (n := 0) (rest := [.int r, .ref ra]) C0 [] (k_B_homeContext l hR (i := i) h4) ml_S_C_homeContext sm_C_C_homeContext se_B_C_homeContext_B im_B_homeContext ini_B co_B_homeContext (hK.2.1 _ dc_C_homeContext) (by decide +kernel) (g_preV (ci := 4) hK hP rfl (hR.c4 h4)) hl.1 d_S_temporary_40 rfl rfl (Nat.le_of_ble_eq_true rfl) ⟨rfl, rfl⟩ ⟨Nat.le_of_ble_eq_true rfl, Nat.le_of_ble_eq_true rfl⟩ ⟨Nat.le_of_ble_eq_true rfl, Nat.le_of_ble_eq_true rfl⟩)) (fun qh2 eh2 => ?_)
          subst eh2
          refine lv_iload_n hx hb d_S_temporary_43 rfl (lv_at hl 4 rfl) ?_
          refine va_csq (va_Run.run (r_U (owner := "StackRoom$Context") (n := 1) (rest := [.int r, .ref ra]) C0 [.int ix] (k_C_fieldAt l hR (i := s_hm σ i) (Or.inl hkh) hO.1 ht0 ix) ml_S_X_fieldAt sm_X_C_fieldAt se_X_X_fieldAt_C im_C_fieldAt ini_C co_C_fieldAt rfl (by decide +kernel) (g_preV (ci := 3) hK hP rfl (hR.c3 hkh)) hl.1 d_S_temporary_44 rfl rfl (Nat.le_of_ble_eq_true rfl) ⟨rfl, rfl⟩ ⟨Nat.le_of_ble_eq_true rfl, Nat.le_of_ble_eq_true rfl⟩ ⟨Nat.le_of_ble_eq_true rfl, Nat.le_of_ble_eq_true rfl⟩)) (fun qf ef => ?_)
          rw [if_pos ⟨hx0, htm.2.2⟩] at ef
          subst ef
          have hvf := hR.2.2.2.2.2.2.2.1 (s_hm σ i) (Or.inl hkh) ix.toNatClampNeg hi2
          refine gw_astqO (v := fr (s_hm σ i) ix.toNatClampNeg) hx hb hK.1 hP hS 0 hR.2.1 ht0 (fun y hy => c_any hK hP (c_val_isv hR hO.1 hvf (fun j e => hbh.2.2.2 _ hi2 j e) y hy)) (s_rin hreg) d_S_temporary_47 (fun H locs hP hS => ?_)
          obtain ⟨G2, eG2⟩ : ∃ z : gw_G, z = va_up G ra (some (.inl (cV, 16, qv (va_up rr r.toNatClampNeg (fr (s_hm σ i) ix.toNatClampNeg))))) := ⟨_, rfl⟩
          replace hP : gw_P D vwCl (gw_A G s.heap.size) G2 H := by rw [eG2]; exact hP
          have hR9 := hR.reg (k := r.toNatClampNeg) (v := s_fl σ (s_hm σ i) ix.toNatClampNeg) (r := fr (s_hm σ i) ix.toNatClampNeg) hvf
          rw [← eG2] at hR9
          refine lv_iconst (v := 1) hx hb d_S_temporary_48 (by decide) ?_
          exact W.zret (v := 1) hx hb hr rfl (fun t ht hW => ⟨⟨_, G2, rfl, (by rw [show p_temporary σ r cx ix = (1, s_put σ r (s_fl σ (s_hm σ i) ix.toNatClampNeg)) from (by simp only [p_temporary, hci]; rw [if_pos ⟨hreg, hx0, hi1, hi2⟩])]; exact ⟨rfl, ⟨rd, ra, rt, ad, fa, ρ, fr, _, rf, rc, wl, el, cr, by omega, hR9⟩⟩), g_fin ht hP⟩, hS.F ht⟩) hS.2.2 d_S_temporary_49
        · have htm : ¬ (ix < nI (s_tt σ (s_og σ (s_hm σ i))) ∧ 0 ≤ ix ∧ ix < nI (s_rm σ (s_hm σ i))) := fun h => absurd (eq25.symm.trans c25) (by rw [if_pos h]; decide)
          have hno : ¬ (0 ≤ ix ∧ ix.toNatClampNeg < s_tt σ (s_og σ (s_hm σ i)) ∧ ix.toNatClampNeg < s_rm σ (s_hm σ i)) := fun z => htm ⟨by rw [← s_clampI z.1]; exact (nI_ltI (by omega) (by omega)).mpr z.2.1, z.1, by rw [← s_clampI z.1]; exact (nI_ltI (by omega) (by omega)).mpr z.2.2⟩
          refine lv_iconst (v := 0) hx hb d_S_temporary_31 (by decide) ?_
          exact W.zret (v := 0) hx hb hr rfl (fun t ht hW => ⟨⟨_, G, rfl, (by rw [show p_temporary σ r cx ix = (0, σ) from (by simp only [p_temporary, hci]; rw [if_neg (fun z => hno z.2)])]; exact ⟨rfl, c_R.up ⟨rd, ra, rt, ad, fa, ρ, fr, rr, rf, rc, wl, el, cr, hrd, hR⟩⟩), g_fin ht hP⟩, hS.F ht⟩) hS.2.2 d_S_temporary_32
set_option maxHeartbeats 4000000 in
set_option maxRecDepth 100000 in
theorem k_S_keep (l : Launch) (hR0 : c_R w n k cV cT σ x G) (hO : s_OK w n σ) (hw : 128 ≤ w ∧ w ≤ 32768) (hn : 16 ≤ n ∧ n ≤ 4096) (hm : s_md σ + 2 < 2 ^ 31) (hk : k + 1 < 2 ^ 31) (ht0 : tys[0]? = some (cV, .object "StackRoom$Value")) (ht1 : tys[1]? = some (cT, .object "StackRoom$Thing")) (cx ix f : Int32) : Met l y_S_keep w_S_keep ({ frames := 3, cells := 0, slots := 0, locals := 65 }) (g_pre D tys G sz [.ref x, .int cx, .int ix, .int f]) (va_Qi (fun (rz : Int32) (G1 : gw_G) => rz = (p_keep σ cx ix f).1 ∧ c_R w n (k + 1) cV cT (p_keep σ cx ix f).2 x G1) (g_end D G sz) (gw_A G sz)) 0 0 (gw_A G sz) := by
  refine Met.ofW (cc := b_S_keep) (maxL := 5) (ret := (some .boolean)) (by decide) rfl ?_
  intro p e s m args below meth c s₁ B hml hv
  obtain ⟨rfl, hsz, hP, hK⟩ := hv
  have hx := B.exec
  have hb := B.bytes
  have hr := B.returns
  have ht := fun w (hw : w ∈ gt) => atoms_spec (ws := w_S_keep) B.pre w (List.mem_cons_of_mem _ hw)
  have hown : s.vm.findClass "StackRoom" = some m.cls := findClass_of_methodNamed B.named
  have hlocks := B.notSynchronized
  have C0 : CallFix p m c b_S_keep 5 s [.ref x, .int cx, .int ix, .int f].toArray gt "StackRoom" := ⟨hx, hb, hml, hown, ht⟩
  subst hsz
  have hP := hP.self (sz := s.heap.size)
  have hA : ∀ q : Nat, s.heap.size ≤ q → gw_A G s.heap.size q := fun q h => Or.inr h
  have hS : va_S (gw_A G s.heap.size) s.heap s.heap [] := va_S.rf
  have hl := lv_entry ([.ref x, .int cx, .int ix, .int f]) (n := 5) (Nat.le_of_ble_eq_true rfl)
  rw [lg_entry_eq]
  generalize (lg_sl ([.ref x, .int cx, .int ix, .int f]) ++ List.replicate (5 - (lg_sl ([.ref x, .int cx, .int ix, .int f])).length) Slot.unset).toArray = ls at hl ⊢
  have hl : lv_has ls 5 [(0, .ref x), (1, .int cx), (2, .int ix), (3, .int f)] := hl
  obtain ⟨rd, ra, rt, ad, fa, ρ, fr, rr, rf, rc, wl, el, cr, hrd, hR⟩ := hR0
  refine lv_aload_n hx hb d_S_keep_0 rfl (lv_at hl 0 rfl) ?_
  refine lv_iload_n hx hb d_S_keep_1 rfl (lv_at hl 1 rfl) ?_
  refine va_csq (va_Run.run (r_V (rest := []) C0 [.int cx] (k_S_contextIn l hR hO.1 ht0 cx) ml_S_S_contextIn im_S_contextIn se_S_S_contextIn_S ini_S co_S_contextIn ⟨rfl, hd_S_contextIn⟩ (g_preV (ci := 0) hK hP rfl hR.1) hl.1 d_S_keep_2 rfl rfl (Nat.le_of_ble_eq_true rfl) ⟨rfl, rfl⟩ ⟨Nat.le_of_ble_eq_true rfl, Nat.le_of_ble_eq_true rfl⟩ ⟨Nat.le_of_ble_eq_true rfl, Nat.le_of_ble_eq_true rfl⟩)) (fun qc ec => ?_)
  subst ec
  rcases hci : s_ci σ cx with _ | i
  · refine lv_astoreN (lv' := [(4, .null), (0, .ref x), (1, .int cx), (2, .int ix), (3, .int f)]) hx hb d_S_keep_5 hl (by decide) rfl (fun ls hl => ?_)
    refine lv_aloadN hx hb d_S_keep_7 (lv_at hl 0 rfl) ?_
    refine lv_ifnullN (tgt := 31) hx hb d_S_keep_9 (by decide) ?_
    refine lv_iconst (v := 0) hx hb d_S_keep_31 (by decide) ?_
    exact W.zret (v := 0) hx hb hr rfl (fun t ht hW => ⟨⟨_, G, rfl, (by rw [show p_keep σ cx ix f = (0, σ) from (by simp only [p_keep, hci])]; exact ⟨rfl, c_R.up ⟨rd, ra, rt, ad, fa, ρ, fr, rr, rf, rc, wl, el, cr, hrd, hR⟩⟩), g_fin ht hP⟩, hS.F ht⟩) hS.2.2 d_S_keep_32
  · have hc := (s_ci_some hci).2.2
    have hri := s_ci_rch hci
    rcases id hc with h3 | h4
    · have hkh := s_hm_kd hO.1 hc
      have hbh := (hO.1.2.2.2.2.2.2 (s_hm σ i) (Or.inl hkh)).2
      have hth := (hO.1.2.2.2.1 _ (hO.1.2.2.2.2.1 _ hkh)).1
      refine lv_astore (lv' := [(4, .ref (ad i)), (0, .ref x), (1, .int cx), (2, .int ix), (3, .int f)]) hx hb d_S_keep_5 hl (by decide) rfl (fun ls hl => ?_)
      refine lv_aload hx hb d_S_keep_7 (lv_at hl 0 rfl) ?_
      refine lv_ifnull hx hb d_S_keep_9 ?_
      refine lv_iload_n hx hb d_S_keep_12 rfl (lv_at hl 4 rfl) ?_
      refine vp_callSi (va_Run.run (r_S (rest := []) C0 [.int f] (k_S_isRegister l f) ml_S_S_isRegister st_S_isRegister ini_S co_S_isRegister hd_S_isRegister v_preS hl.1 d_S_keep_13 rfl rfl (Nat.le_of_ble_eq_true rfl) ⟨rfl, rfl⟩ ⟨Nat.le_of_ble_eq_true rfl, Nat.le_of_ble_eq_true rfl⟩ ⟨Nat.le_of_ble_eq_true rfl, Nat.le_of_ble_eq_true rfl⟩)) (fun q13 eq13 => ?_)
      refine lv_if_eq (tgt := 31) hx hb d_S_keep_16 (by decide) (fun c13 => ?_) (fun c13 => ?_)
      · have hregf : ¬ (0 ≤ f ∧ f ≤ 15) := fun h => absurd (eq13.symm.trans c13) (by rw [if_pos h]; decide)
        refine lv_iconst (v := 0) hx hb d_S_keep_31 (by decide) ?_
        exact W.zret (v := 0) hx hb hr rfl (fun t ht hW => ⟨⟨_, G, rfl, (by rw [show p_keep σ cx ix f = (0, σ) from (by simp only [p_keep, hci]; rw [if_neg (fun z => hregf z.1)])]; exact ⟨rfl, c_R.up ⟨rd, ra, rt, ad, fa, ρ, fr, rr, rf, rc, wl, el, cr, hrd, hR⟩⟩), g_fin ht hP⟩, hS.F ht⟩) hS.2.2 d_S_keep_32
      · have hregf : 0 ≤ f ∧ f ≤ 15 := Decidable.byContradiction (fun h => c13 (eq13.trans (if_neg h)))
        refine lv_aload hx hb d_S_keep_19 (lv_at hl 0 rfl) ?_
        refine va_csq (va_Run.run (r_A (owner := "StackRoom$Context") (n := 0) (rest := []) C0 [] (k_X_homeContext l hR (i := i) h3) ml_S_C_homeContext sm_C_C_homeContext se_X_C_homeContext_X im_X_homeContext ini_X co_X_homeContext (hK.2.1 _ dc_C_homeContext) (by decide +kernel) (g_preV (ci := 3) hK hP rfl (hR.c3 h3)) hl.1 d_S_keep_21 rfl rfl (Nat.le_of_ble_eq_true rfl) ⟨rfl, rfl⟩ ⟨Nat.le_of_ble_eq_true rfl, Nat.le_of_ble_eq_true rfl⟩ ⟨Nat.le_of_ble_eq_true rfl, Nat.le_of_ble_eq_true rfl⟩)) (fun qh1 eh1 => ?_)
        subst eh1
        refine lv_iload_n hx hb d_S_keep_24 rfl (lv_at hl 3 rfl) ?_
        refine vp_callSi (va_Run.run (r_V (rest := []) C0 [.int ix] (k_X_hasTemporary l hR (i := s_hm σ i) hkh hO.1 ht0 ix) ml_S_X_hasTemporary im_X_hasTemporary se_X_X_hasTemporary_X ini_X co_X_hasTemporary ⟨rfl, hd_X_hasTemporary⟩ (g_preV (ci := 3) hK hP rfl (hR.c3 hkh)) hl.1 d_S_keep_25 rfl rfl (Nat.le_of_ble_eq_true rfl) ⟨rfl, rfl⟩ ⟨Nat.le_of_ble_eq_true rfl, Nat.le_of_ble_eq_true rfl⟩ ⟨Nat.le_of_ble_eq_true rfl, Nat.le_of_ble_eq_true rfl⟩)) (fun q25 eq25 => ?_)
        refine lv_if_ne (tgt := 33) hx hb d_S_keep_28 (by decide) (fun c25 => ?_) (fun c25 => ?_)
        · have htm : ix < nI (s_tt σ (s_og σ (s_hm σ i))) ∧ 0 ≤ ix ∧ ix < nI (s_rm σ (s_hm σ i)) := Decidable.byContradiction (fun h => c25 (eq25.trans (if_neg h)))
          have hx0 := htm.2.1
          have hi1 : ix.toNatClampNeg < s_tt σ (s_og σ (s_hm σ i)) := by have z := htm.1; rw [← s_clampI hx0] at z; exact (nI_ltI (by have := s_clampLe (k := 1000) hx0 (by omega) (Int32.le_trans (Int32.le_of_lt htm.1) ((nI_leI (by omega) (by omega)).mpr (by omega))); omega) (by omega)).mp z
          have hi2 : ix.toNatClampNeg < s_rm σ (s_hm σ i) := by have z := htm.2.2; rw [← s_clampI hx0] at z; exact (nI_ltI (by omega) (by omega)).mp z
          refine lv_aload hx hb d_S_keep_33 (lv_at hl 0 rfl) ?_
          refine va_csq (va_Run.run (r_A (owner := "StackRoom$Context") (n := 0) (rest := []) C0 [] (k_X_homeContext l hR (i := i) h3) ml_S_C_homeContext sm_C_C_homeContext se_X_C_homeContext_X im_X_homeContext ini_X co_X_homeContext (hK.2.1 _ dc_C_homeContext) (by decide +kernel) (g_preV (ci := 3) hK hP rfl (hR.c3 h3)) hl.1 d_S_keep_35 rfl rfl (Nat.le_of_ble_eq_true rfl) ⟨rfl, rfl⟩ ⟨Nat.le_of_ble_eq_true rfl, Nat.le_of_ble_eq_true rfl⟩ ⟨Nat.le_of_ble_eq_true rfl, Nat.le_of_ble_eq_true rfl⟩)) (fun qh2 eh2 => ?_)
          subst eh2
          refine lv_iload_n hx hb d_S_keep_38 rfl (lv_at hl 3 rfl) ?_
          refine lv_aload_n hx hb d_S_keep_39 rfl (lv_at hl 1 rfl) ?_
          refine va_get (D := D) (ci := 0) (C := "StackRoom") (T := T_S) (N := 10) (v := .ref ra) hx hb ht in_S hown hK.1 (hP.one hR.1) 0 rfl rfl 2 (by decide) (ht _ fl_S_S_registers) (fun _ h9 => h9) rfl d_S_keep_40 ?_
          refine lv_iload_n hx hb d_S_keep_43 rfl (lv_at hl 4 rfl) ?_
          refine va_aldq (C := "StackRoom$Value") hx hb hK.1 (hP.one hR.2.1) 0 0 rfl ht0 (s_rin hregf) d_S_keep_44 ?_
          have hvf := hR.2.2.2.2.1 _ (s_reg hregf)
          refine W.eq (g2 := F0 m 45 ls [va_rf (rr f.toNatClampNeg), .int (nI ix.toNatClampNeg), .ref (ad (s_hm σ i))]) (by rw [s_clampI hx0]; rfl) ?_
          refine g_callv hP hS hA (r_U (owner := "StackRoom$Context") (n := 2) (rest := []) C0 [.int (nI ix.toNatClampNeg), va_rf (rr f.toNatClampNeg)] (k_C_putField l hR (i := s_hm σ i) (Or.inl hkh) ht0 hO.1 hi2 (r := rr f.toNatClampNeg) (c_val_isv hR hO.1 hvf (fun j e => hO.1.2.2.1 _ (s_reg hregf) j e))) ml_S_X_putField sm_X_C_putField se_X_X_putField_C im_C_putField ini_C co_C_putField rfl (by decide +kernel) (g_preV (ci := 3) hK hP rfl (hR.c3 hkh)) hl.1 d_S_keep_45 rfl rfl (Nat.le_of_ble_eq_true rfl) ⟨rfl, rfl⟩ ⟨Nat.le_of_ble_eq_true rfl, Nat.le_of_ble_eq_true rfl⟩ ⟨Nat.le_of_ble_eq_true rfl, Nat.le_of_ble_eq_true rfl⟩) (fun G1 H locs eG1 hP hS hz9 hk9 => ?_)
          have hR1 := hR.fld (i := s_hm σ i) (k := ix.toNatClampNeg) (v := s_get σ f) (Or.inl hkh) hvf
          rw [← eG1] at hR1
          refine lv_iconst (v := 1) hx hb d_S_keep_48 (by decide) ?_
          exact W.zret (v := 1) hx hb hr rfl (fun t ht hW => ⟨⟨_, G1, rfl, (by rw [show p_keep σ cx ix f = (1, s_setF σ (s_hm σ i) ix.toNatClampNeg (s_get σ f)) from (by simp only [p_keep, hci]; rw [if_pos ⟨hregf, hx0, hi1, hi2⟩])]; exact ⟨rfl, ⟨rd, ra, rt, ad, fa, ρ, _, rr, rf, rc, wl, el, cr, by omega, hR1⟩⟩), g_fin ht hP⟩, hS.F ht⟩) hS.2.2 d_S_keep_49
        · have htm : ¬ (ix < nI (s_tt σ (s_og σ (s_hm σ i))) ∧ 0 ≤ ix ∧ ix < nI (s_rm σ (s_hm σ i))) := fun h => absurd (eq25.symm.trans c25) (by rw [if_pos h]; decide)
          have hno : ¬ (0 ≤ ix ∧ ix.toNatClampNeg < s_tt σ (s_og σ (s_hm σ i)) ∧ ix.toNatClampNeg < s_rm σ (s_hm σ i)) := fun z => htm ⟨by rw [← s_clampI z.1]; exact (nI_ltI (by omega) (by omega)).mpr z.2.1, z.1, by rw [← s_clampI z.1]; exact (nI_ltI (by omega) (by omega)).mpr z.2.2⟩
          refine lv_iconst (v := 0) hx hb d_S_keep_31 (by decide) ?_
          exact W.zret (v := 0) hx hb hr rfl (fun t ht hW => ⟨⟨_, G, rfl, (by rw [show p_keep σ cx ix f = (0, σ) from (by simp only [p_keep, hci]; rw [if_neg (fun z => hno z.2)])]; exact ⟨rfl, c_R.up ⟨rd, ra, rt, ad, fa, ρ, fr, rr, rf, rc, wl, el, cr, hrd, hR⟩⟩), g_fin ht hP⟩, hS.F ht⟩) hS.2.2 d_S_keep_32
    · have hkh := s_hm_kd hO.1 hc
      have hbh := (hO.1.2.2.2.2.2.2 (s_hm σ i) (Or.inl hkh)).2
      have hth := (hO.1.2.2.2.1 _ (hO.1.2.2.2.2.1 _ hkh)).1
      refine lv_astore (lv' := [(4, .ref (ad i)), (0, .ref x), (1, .int cx), (2, .int ix), (3, .int f)]) hx hb d_S_keep_5 hl (by decide) rfl (fun ls hl => ?_)
      refine lv_aload hx hb d_S_keep_7 (lv_at hl 0 rfl) ?_
      refine lv_ifnull hx hb d_S_keep_9 ?_
      refine lv_iload_n hx hb d_S_keep_12 rfl (lv_at hl 4 rfl) ?_
      refine vp_callSi (va_Run.run (r_S (rest := []) C0 [.int f] (k_S_isRegister l f) ml_S_S_isRegister st_S_isRegister ini_S co_S_isRegister hd_S_isRegister v_preS hl.1 d_S_keep_13 rfl rfl (Nat.le_of_ble_eq_true rfl) ⟨rfl, rfl⟩ ⟨Nat.le_of_ble_eq_true rfl, Nat.le_of_ble_eq_true rfl⟩ ⟨Nat.le_of_ble_eq_true rfl, Nat.le_of_ble_eq_true rfl⟩)) (fun q13 eq13 => ?_)
      refine lv_if_eq (tgt := 31) hx hb d_S_keep_16 (by decide) (fun c13 => ?_) (fun c13 => ?_)
      · have hregf : ¬ (0 ≤ f ∧ f ≤ 15) := fun h => absurd (eq13.symm.trans c13) (by rw [if_pos h]; decide)
        refine lv_iconst (v := 0) hx hb d_S_keep_31 (by decide) ?_
        exact W.zret (v := 0) hx hb hr rfl (fun t ht hW => ⟨⟨_, G, rfl, (by rw [show p_keep σ cx ix f = (0, σ) from (by simp only [p_keep, hci]; rw [if_neg (fun z => hregf z.1)])]; exact ⟨rfl, c_R.up ⟨rd, ra, rt, ad, fa, ρ, fr, rr, rf, rc, wl, el, cr, hrd, hR⟩⟩), g_fin ht hP⟩, hS.F ht⟩) hS.2.2 d_S_keep_32
      · have hregf : 0 ≤ f ∧ f ≤ 15 := Decidable.byContradiction (fun h => c13 (eq13.trans (if_neg h)))
        refine lv_aload hx hb d_S_keep_19 (lv_at hl 0 rfl) ?_
        refine va_csq (va_Run.run (r_A (owner := "StackRoom$Context") (n := 0) (rest := []) C0 [] (k_B_homeContext l hR (i := i) h4) ml_S_C_homeContext sm_C_C_homeContext se_B_C_homeContext_B im_B_homeContext ini_B co_B_homeContext (hK.2.1 _ dc_C_homeContext) (by decide +kernel) (g_preV (ci := 4) hK hP rfl (hR.c4 h4)) hl.1 d_S_keep_21 rfl rfl (Nat.le_of_ble_eq_true rfl) ⟨rfl, rfl⟩ ⟨Nat.le_of_ble_eq_true rfl, Nat.le_of_ble_eq_true rfl⟩ ⟨Nat.le_of_ble_eq_true rfl, Nat.le_of_ble_eq_true rfl⟩)) (fun qh1 eh1 => ?_)
        subst eh1
        refine lv_iload_n hx hb d_S_keep_24 rfl (lv_at hl 3 rfl) ?_
        refine vp_callSi (va_Run.run (r_V (rest := []) C0 [.int ix] (k_X_hasTemporary l hR (i := s_hm σ i) hkh hO.1 ht0 ix) ml_S_X_hasTemporary im_X_hasTemporary se_X_X_hasTemporary_X ini_X co_X_hasTemporary ⟨rfl, hd_X_hasTemporary⟩ (g_preV (ci := 3) hK hP rfl (hR.c3 hkh)) hl.1 d_S_keep_25 rfl rfl (Nat.le_of_ble_eq_true rfl) ⟨rfl, rfl⟩ ⟨Nat.le_of_ble_eq_true rfl, Nat.le_of_ble_eq_true rfl⟩ ⟨Nat.le_of_ble_eq_true rfl, Nat.le_of_ble_eq_true rfl⟩)) (fun q25 eq25 => ?_)
        refine lv_if_ne (tgt := 33) hx hb d_S_keep_28 (by decide) (fun c25 => ?_) (fun c25 => ?_)
        · have htm : ix < nI (s_tt σ (s_og σ (s_hm σ i))) ∧ 0 ≤ ix ∧ ix < nI (s_rm σ (s_hm σ i)) := Decidable.byContradiction (fun h => c25 (eq25.trans (if_neg h)))
          have hx0 := htm.2.1
          have hi1 : ix.toNatClampNeg < s_tt σ (s_og σ (s_hm σ i)) := by have z := htm.1; rw [← s_clampI hx0] at z; exact (nI_ltI (by have := s_clampLe (k := 1000) hx0 (by omega) (Int32.le_trans (Int32.le_of_lt htm.1) ((nI_leI (by omega) (by omega)).mpr (by omega))); omega) (by omega)).mp z
          have hi2 : ix.toNatClampNeg < s_rm σ (s_hm σ i) := by have z := htm.2.2; rw [← s_clampI hx0] at z; exact (nI_ltI (by omega) (by omega)).mp z
          refine lv_aload hx hb d_S_keep_33 (lv_at hl 0 rfl) ?_
          refine va_csq (va_Run.run (r_A (owner := "StackRoom$Context") (n := 0) (rest := []) C0 [] (k_B_homeContext l hR (i := i) h4) ml_S_C_homeContext sm_C_C_homeContext se_B_C_homeContext_B im_B_homeContext ini_B co_B_homeContext (hK.2.1 _ dc_C_homeContext) (by decide +kernel) (g_preV (ci := 4) hK hP rfl (hR.c4 h4)) hl.1 d_S_keep_35 rfl rfl (Nat.le_of_ble_eq_true rfl) ⟨rfl, rfl⟩ ⟨Nat.le_of_ble_eq_true rfl, Nat.le_of_ble_eq_true rfl⟩ ⟨Nat.le_of_ble_eq_true rfl, Nat.le_of_ble_eq_true rfl⟩)) (fun qh2 eh2 => ?_)
          subst eh2
          refine lv_iload_n hx hb d_S_keep_38 rfl (lv_at hl 3 rfl) ?_
          refine lv_aload_n hx hb d_S_keep_39 rfl (lv_at hl 1 rfl) ?_
          refine va_get (D := D) (ci := 0) (C := "StackRoom") (T := T_S) (N := 10) (v := .ref ra) hx hb ht in_S hown hK.1 (hP.one hR.1) 0 rfl rfl 2 (by decide) (ht _ fl_S_S_registers) (fun _ h9 => h9) rfl d_S_keep_40 ?_
          refine lv_iload_n hx hb d_S_keep_43 rfl (lv_at hl 4 rfl) ?_
          refine va_aldq (C := "StackRoom$Value") hx hb hK.1 (hP.one hR.2.1) 0 0 rfl ht0 (s_rin hregf) d_S_keep_44 ?_
          have hvf := hR.2.2.2.2.1 _ (s_reg hregf)
          refine W.eq (g2 := F0 m 45 ls [va_rf (rr f.toNatClampNeg), .int (nI ix.toNatClampNeg), .ref (ad (s_hm σ i))]) (by rw [s_clampI hx0]; rfl) ?_
          refine g_callv hP hS hA (r_U (owner := "StackRoom$Context") (n := 2) (rest := []) C0 [.int (nI ix.toNatClampNeg), va_rf (rr f.toNatClampNeg)] (k_C_putField l hR (i := s_hm σ i) (Or.inl hkh) ht0 hO.1 hi2 (r := rr f.toNatClampNeg) (c_val_isv hR hO.1 hvf (fun j e => hO.1.2.2.1 _ (s_reg hregf) j e))) ml_S_X_putField sm_X_C_putField se_X_X_putField_C im_C_putField ini_C co_C_putField rfl (by decide +kernel) (g_preV (ci := 3) hK hP rfl (hR.c3 hkh)) hl.1 d_S_keep_45 rfl rfl (Nat.le_of_ble_eq_true rfl) ⟨rfl, rfl⟩ ⟨Nat.le_of_ble_eq_true rfl, Nat.le_of_ble_eq_true rfl⟩ ⟨Nat.le_of_ble_eq_true rfl, Nat.le_of_ble_eq_true rfl⟩) (fun G1 H locs eG1 hP hS hz9 hk9 => ?_)
          have hR1 := hR.fld (i := s_hm σ i) (k := ix.toNatClampNeg) (v := s_get σ f) (Or.inl hkh) hvf
          rw [← eG1] at hR1
          refine lv_iconst (v := 1) hx hb d_S_keep_48 (by decide) ?_
          exact W.zret (v := 1) hx hb hr rfl (fun t ht hW => ⟨⟨_, G1, rfl, (by rw [show p_keep σ cx ix f = (1, s_setF σ (s_hm σ i) ix.toNatClampNeg (s_get σ f)) from (by simp only [p_keep, hci]; rw [if_pos ⟨hregf, hx0, hi1, hi2⟩])]; exact ⟨rfl, ⟨rd, ra, rt, ad, fa, ρ, _, rr, rf, rc, wl, el, cr, by omega, hR1⟩⟩), g_fin ht hP⟩, hS.F ht⟩) hS.2.2 d_S_keep_49
        · have htm : ¬ (ix < nI (s_tt σ (s_og σ (s_hm σ i))) ∧ 0 ≤ ix ∧ ix < nI (s_rm σ (s_hm σ i))) := fun h => absurd (eq25.symm.trans c25) (by rw [if_pos h]; decide)
          have hno : ¬ (0 ≤ ix ∧ ix.toNatClampNeg < s_tt σ (s_og σ (s_hm σ i)) ∧ ix.toNatClampNeg < s_rm σ (s_hm σ i)) := fun z => htm ⟨by rw [← s_clampI z.1]; exact (nI_ltI (by omega) (by omega)).mpr z.2.1, z.1, by rw [← s_clampI z.1]; exact (nI_ltI (by omega) (by omega)).mpr z.2.2⟩
          refine lv_iconst (v := 0) hx hb d_S_keep_31 (by decide) ?_
          exact W.zret (v := 0) hx hb hr rfl (fun t ht hW => ⟨⟨_, G, rfl, (by rw [show p_keep σ cx ix f = (0, σ) from (by simp only [p_keep, hci]; rw [if_neg (fun z => hno z.2)])]; exact ⟨rfl, c_R.up ⟨rd, ra, rt, ad, fa, ρ, fr, rr, rf, rc, wl, el, cr, hrd, hR⟩⟩), g_fin ht hP⟩, hS.F ht⟩) hS.2.2 d_S_keep_32
end K19
