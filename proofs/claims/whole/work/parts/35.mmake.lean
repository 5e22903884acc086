section K35
variable {cI cB cZ : ClassId} {x w n md : Nat} {adr : Nat → Nat} {us r0 r1 r2 r3 : Int32} {ar : Nat → Nat → Int32} {G : gw_G} {σ : sS} {sl bg : Nat → Nat} {U : Nat} {D : va_G} {tys : List (ClassId × FieldType)} {sz : Nat}
theorem m_val_ad {sl : Nat → Nat} {id o : Nat} {v : sV} (h : ∀ i, v = some (.inr i) → i ≠ id) : m_val (va_up sl id o) v = m_val sl v := by
  rcases v with _ | (a | i)
  · rfl
  · rfl
  · show nI (2 * va_up sl id o i + 2) = nI (2 * sl i + 2)
    rw [va_up_ne _ _ (h i rfl)]
theorem m_Sem.new {τ : sS} {id o c U2 : Nat} {ar2 : Nat → Nat → Int32} (hI : s_I σ) (h : m_Sem (s_rch σ) σ sl bg (U2 + c) ar) (hid : s_kd σ id = 0) (hno : ∀ i, s_rch σ i → sl i ≠ o) (ho : o < 4096) (hrg : s_rg τ = s_rg σ)
    (hold : ∀ i, i ≠ id → s_kd τ i = s_kd σ i ∧ s_tt τ i = s_tt σ i ∧ s_dd τ i = s_dd σ i ∧ s_sn τ i = s_sn σ i ∧ s_de τ i = s_de σ i ∧ s_ht τ i = s_ht σ i ∧ s_rm τ i = s_rm σ i ∧ s_fl τ i = s_fl σ i ∧ s_og τ i = s_og σ i ∧ s_ct τ i = s_ct σ i)
    (ha : ∀ k, 4 ≤ k → k ≤ 15 → ∀ q, q ≠ o → ar2 k q = ar k q) (h3 : ar2 3 = ar 3) (h16 : ar2 16 = ar 16) (n1 : ar2 4 o = nI (s_kd τ id)) (n2 : ar2 5 o = nI id) (n3 : s_kd τ id = 2 → ar2 7 o = nI (s_tt τ id) ∧ ar2 8 o = nI (s_dd τ id))
    (n4 : s_isC τ id → ar2 9 o = m_val sl ((s_sn τ id).map .inr) ∧ ar2 10 o = s_de τ id ∧ ar2 11 o = nI (s_ht τ id) ∧ ar2 12 o = nI (sl (s_og τ id)) ∧ ar2 14 o = nI U2 ∧ ar2 15 o = nI (s_rm τ id) ∧ s_rm τ id = c ∧ s_rch σ (s_og τ id) ∧ ∀ j, s_sn τ id = some j → s_rch σ j)
    (n5 : s_kd τ id = 4 → ar2 13 o = s_ct τ id) (n6 : s_isC τ id → ∀ k, k < s_rm τ id → s_fl τ id k = none) (hz : ∀ k, k < c → ar 16 (U2 + k) = 0) (hbU : ∀ i, s_rch σ i → s_isC σ i → bg i + s_rm σ i ≤ U2) : m_Sem (fun i => s_rch σ i ∨ i = id) τ (va_up sl id o) (va_up bg id U2) (U2 + c) ar2 := by
  obtain ⟨h1, h2, h4, h5, h6, h7, h8, h9, h10⟩ := h
  have ne : ∀ i, s_rch σ i → i ≠ id := fun i hi z => s_rch_kd hI hi (z ▸ hid)
  have nk : ∀ i, s_kd σ i ≠ 0 → i ≠ id := fun i hi z => hi (z ▸ hid)
  have cc : ∀ i, i ≠ id → (s_isC τ i ↔ s_isC σ i) := fun i hi => by unfold s_isC; rw [(hold i hi).1]
  refine ⟨fun r hr => ?_, fun i hi => ?_, fun i hi hk => ?_, fun i hi hc => ?_, fun i hi hk => ?_, fun i hi hc k hk => ?_, fun i j hi hj e => ?_, fun i j k q hi hj ci cj hk hq e => ?_, h10⟩
  · rw [h3, hrg, m_val_ad (fun i e => nk i (hI.2.2.1 r hr i e))]
    exact h1 r hr
  · rcases hi with hi | hi
    · have e := ne i hi
      rw [va_up_ne _ _ e, ha 4 (by decide) (by decide) _ (hno i hi), ha 5 (by decide) (by decide) _ (hno i hi), (hold i e).1]
      exact h2 i hi
    · subst hi
      rw [va_up_self]
      exact ⟨ho, n1, n2⟩
  · rcases hi with hi | hi
    · have e := ne i hi
      rw [(hold i e).1] at hk
      rw [va_up_ne _ _ e, ha 7 (by decide) (by decide) _ (hno i hi), ha 8 (by decide) (by decide) _ (hno i hi), (hold i e).2.1, (hold i e).2.2.1]
      exact h4 i hi hk
    · subst hi
      rw [va_up_self]
      exact n3 hk
  · rcases hi with hi | hi
    · have e := ne i hi
      have hc := (cc i e).mp hc
      obtain ⟨-, -, -, q1, q2, q3, q4, -, q5, -⟩ := hold i e
      have es := m_val_ad (sl := sl) (o := o) (id := id) (v := (s_sn σ i).map .inr) (fun j z => by have := (hI.2.2.2.2.2.2 i hc).1 j (sn_inr z); exact nk j (by rcases this with y | y <;> omega))
      have eo : va_up sl id o (s_og σ i) = sl (s_og σ i) := va_up_ne _ _ (ne _ (s_rch_edge hi ⟨hc, Or.inr (Or.inl rfl)⟩))
      rw [va_up_ne _ _ e, va_up_ne _ _ e, ha 9 (by decide) (by decide) _ (hno i hi), ha 10 (by decide) (by decide) _ (hno i hi), ha 11 (by decide) (by decide) _ (hno i hi), ha 12 (by decide) (by decide) _ (hno i hi), ha 14 (by decide) (by decide) _ (hno i hi), ha 15 (by decide) (by decide) _ (hno i hi), q1, q2, q3, q4, q5, es, eo]
      exact h5 i hi hc
    · subst hi
      obtain ⟨t1, t2, t3, t4, t5, t6, t7, t8, t9⟩ := n4 hc
      rw [va_up_self, va_up_self, m_val_ad (fun j z => ne j (t9 j (sn_inr z))), va_up_ne _ _ (ne _ t8)]
      exact ⟨t1, t2, t3, t4, t5, t6, by omega⟩
  · rcases hi with hi | hi
    · have e := ne i hi
      rw [(hold i e).1] at hk
      rw [va_up_ne _ _ e, ha 13 (by decide) (by decide) _ (hno i hi), (hold i e).2.2.2.2.2.2.2.2.2]
      exact h6 i hi hk
    · subst hi
      rw [va_up_self]
      exact n5 hk
  · rcases hi with hi | hi
    · have e := ne i hi
      have hc := (cc i e).mp hc
      rw [(hold i e).2.2.2.2.2.2.1] at hk
      rw [va_up_ne _ _ e, h16, (hold i e).2.2.2.2.2.2.2.1, m_val_ad (fun j z => nk j ((hI.2.2.2.2.2.2 i hc).2.2.2.2 k hk j z))]
      exact h7 i hi hc k hk
    · subst hi
      rw [va_up_self, h16, n6 hc k hk]
      exact hz k (by have := (n4 hc).2.2.2.2.2.2.1; omega)
  · rcases hi with hi | hi <;> rcases hj with hj | hj
    · rw [va_up_ne _ _ (ne i hi), va_up_ne _ _ (ne j hj)] at e
      exact h8 i j hi hj e
    · rw [va_up_ne _ _ (ne i hi), hj, va_up_self] at e
      exact absurd e (hno i hi)
    · rw [va_up_ne _ _ (ne j hj), hi, va_up_self] at e
      exact absurd e.symm (hno j hj)
    · rw [hi, hj]
  · rcases hi with hi | hi <;> rcases hj with hj | hj
    · have ei := ne i hi
      have ej := ne j hj
      rw [va_up_ne _ _ ei, va_up_ne _ _ ej] at e
      rw [(hold i ei).2.2.2.2.2.2.1] at hk
      rw [(hold j ej).2.2.2.2.2.2.1] at hq
      exact h9 i j k q hi hj ((cc i ei).mp ci) ((cc j ej).mp cj) hk hq e
    · have ei := ne i hi
      rw [va_up_ne _ _ ei, hj, va_up_self] at e
      rw [(hold i ei).2.2.2.2.2.2.1] at hk
      have := hbU i hi ((cc i ei).mp ci)
      omega
    · have ej := ne j hj
      rw [va_up_ne _ _ ej, hi, va_up_self] at e
      rw [(hold j ej).2.2.2.2.2.2.1] at hq
      have := hbU j hj ((cc j ej).mp cj)
      omega
    · rw [hi, hj]
/-- there is a free place -/
theorem m_free {w n : Nat} {σ : sS} {sl : Nat → Nat} (hO : s_OK w n σ) (hn : n ≤ 4096) : ∃ o, o < 4096 ∧ ∀ i, s_rch σ i → sl i ≠ o := by
  refine Classical.byContradiction (fun hc => ?_)
  have hall : ∀ o, o < 4096 → ∃ i, s_rch σ i ∧ sl i = o := fun o ho => Classical.byContradiction (fun z => hc ⟨o, ho, fun i hi e => z ⟨i, hi, e⟩⟩)
  have en := s_all_enum hO.1
  have hs := sm_sub (f := fun _ => 1) (List.range 4096) ((s_all σ).map sl) List.nodup_range (fun o ho => by
    obtain ⟨i, hi, e⟩ := hall o (List.mem_range.mp ho)
    exact List.mem_map.mpr ⟨i, (en.2 i).mpr hi, e⟩)
  have hl := s_part_len (L := s_all σ) ⟨en.1, fun i hi => (en.2 i).mp hi⟩ hO
  have c1 : ∀ L : List Nat, (L.map (fun _ => 1)).sum = L.length := fun L => by
    induction L with
    | nil => rfl
    | cons a L ih => simp only [List.map_cons, List.sum_cons, List.length_cons, ih]; omega
  rw [c1, c1, List.length_range, List.length_map] at hs
  omega
theorem b_k {k : Nat} (h : k = 2 ∨ k = 3 ∨ k = 4) : (nI k).toInt8.toInt32 = nI k ∧ vp_nar .byte (nI k) = nI k := by
  rcases h with rfl | rfl | rfl <;> decide
set_option maxHeartbeats 4000000 in
set_option maxRecDepth 100000 in
theorem k_R_make (l : Launch) (hM : m_Arr cI cB cZ x w n md adr (nI U) r0 r1 r2 r3 ar G) (hE : m_Sem (s_rch σ) σ sl bg U ar) (hO : s_OK w n σ) (hV : s_NV σ) (hw : w ≤ 32768) (hn4 : n ≤ 4096) (ht2 : tys[2]? = some (cI, .int)) (ht3 : tys[3]? = some (cB, .byte)) (ht4 : tys[4]? = some (cZ, .boolean)) {kk a b c0 : Nat} (hkk : kk = 2 ∨ kk = 3 ∨ kk = 4) (ha : a < 1000) (hb0 : b < 1000) (hc0 : c0 ≤ a) : Met l y_R_make w_R_make ({ frames := 3, cells := 0, slots := 0, locals := 64 }) (g_pre D tys G sz [.ref x, .int (nI kk), .int (nI a), .int (nI b), .int (nI c0)]) (va_Qi (fun (rz : Int32) (G1 : gw_G) => ((a + s_W σ + 8 ≤ w ∧ b + s_N σ + 2 ≤ n) ∧ ∃ adr2 ar2 b2 U2 r4 r5 r6 r7 o, rz = nI o ∧ o < 4096 ∧ m_Arr cI cB cZ x w n (md + b) adr2 (nI (U2 + c0)) r4 r5 r6 r7 ar2 G1 ∧ m_Sem (s_rch σ) σ sl b2 (U2 + c0) ar2 ∧ (∀ i, s_rch σ i → sl i ≠ o) ∧ ar2 4 o = nI kk ∧ ar2 5 o = nI (md + b) ∧ ar2 14 o = nI U2 ∧ ar2 15 o = nI c0 ∧ (∀ k, k < c0 → ar2 16 (U2 + k) = 0) ∧ ∀ i, s_rch σ i → s_isC σ i → b2 i + s_rm σ i ≤ U2) ∨ (¬ (a + s_W σ + 8 ≤ w ∧ b + s_N σ + 2 ≤ n) ∧ rz = -2 ∧ ∃ ar2 r4 r5 r6 r7, m_Arr cI cB cZ x w n md adr (nI U) r4 r5 r6 r7 ar2 G1 ∧ m_Sem (s_rch σ) σ sl bg U ar2)) (g_end D G sz) (gw_A G sz)) 0 0 (gw_A G sz) := by
  refine Met.ofW (cc := b_R_make) (maxL := 7) (ret := (some .int)) (by decide) rfl ?_
  intro p e s m args below meth c s₁ B hml hv
  obtain ⟨rfl, hsz, hP, hK⟩ := hv
  have hx := B.exec
  have hb := B.bytes
  have hr := B.returns
  have ht := fun w (hw : w ∈ gt) => atoms_spec (ws := w_R_make) B.pre w (List.mem_cons_of_mem _ hw)
  have hown : s.vm.findClass "StackRoomModel" = some m.cls := findClass_of_methodNamed B.named
  have hlocks := B.notSynchronized
  have C0 : CallFix p m c b_R_make 7 s [.ref x, .int (nI kk), .int (nI a), .int (nI b), .int (nI c0)].toArray gt "StackRoomModel" := ⟨hx, hb, hml, hown, ht⟩
  subst hsz
  have hP := hP.self (sz := s.heap.size)
  have hA : ∀ q : Nat, s.heap.size ≤ q → gw_A G s.heap.size q := fun q h => Or.inr h
  have hS : va_S (gw_A G s.heap.size) s.heap s.heap [] := va_S.rf
  have hl := lv_entry ([.ref x, .int (nI kk), .int (nI a), .int (nI b), .int (nI c0)]) (n := 7) (Nat.le_of_ble_eq_true rfl)
  rw [lg_entry_eq]
  generalize (lg_sl ([.ref x, .int (nI kk), .int (nI a), .int (nI b), .int (nI c0)]) ++ List.replicate (7 - (lg_sl ([.ref x, .int (nI kk), .int (nI a), .int (nI b), .int (nI c0)])).length) Slot.unset).toArray = ls at hl ⊢
  have hl : lv_has ls 7 [(0, .ref x), (1, .int (nI kk)), (2, .int (nI a)), (3, .int (nI b)), (4, .int (nI c0))] := hl
  refine lv_aload_n hx hb d_R_make_0 rfl (lv_at hl 0 rfl) ?_
  refine g_callv hP hS hA (r_V (rest := []) C0 [] (k_R_look l hM hE hO hV hn4 ht2 ht3 ht4) ml_R_R_look im_R_look se_R_R_look_R ini_R co_R_look ⟨rfl, hd_R_look⟩ (g_preV (ci := 5) hK hP rfl hM.1) hl.1 d_R_make_1 rfl rfl (Nat.le_of_ble_eq_true rfl) ⟨rfl, rfl⟩ ⟨Nat.le_of_ble_eq_true rfl, Nat.le_of_ble_eq_true rfl⟩ ⟨Nat.le_of_ble_eq_true rfl, Nat.le_of_ble_eq_true rfl⟩) (fun G1 H locs hq1 hP hS hz9 hk9 => ?_)
  obtain ⟨ar1, r4, hM1, hse, hs0, hkp⟩ := hq1
  have hE1 : m_Sem (s_rch σ) σ sl bg U ar1 := by
    unfold m_Sem
    rw [hkp 3 (by decide) (by decide), hkp 4 (by decide) (by decide), hkp 5 (by decide) (by decide), hkp 7 (by decide) (by decide), hkp 8 (by decide) (by decide), hkp 9 (by decide) (by decide), hkp 10 (by decide) (by decide), hkp 11 (by decide) (by decide), hkp 12 (by decide) (by decide), hkp 13 (by decide) (by decide), hkp 14 (by decide) (by decide), hkp 15 (by decide) (by decide), hkp 16 (by decide) (by decide)]
    exact hE
  have hW8 := hO.2.1
  have hN8 := hO.2.2
  refine lv_aload_n hx hb d_R_make_4 rfl (lv_at hl 0 rfl) ?_
  refine va_get (D := D) (ci := 5) (C := "StackRoomModel") (T := T_R) (N := 25) (v := .int (nI (s_W σ))) hx hb ht in_R hown hK.1 (hP.one hM1.1) 0 rfl rfl 23 (by decide) (ht _ fl_R_R_reachedWords) (fun _ h9 => h9) rfl d_R_make_5 ?_
  refine lv_bipush (v := 8) hx hb d_R_make_8 (by decide) ?_
  refine lv_iadd hx hb d_R_make_10 ?_
  refine lv_iload_n hx hb d_R_make_11 rfl (lv_at hl 2 rfl) ?_
  refine lv_iadd hx hb d_R_make_12 ?_
  refine lv_aload_n hx hb d_R_make_13 rfl (lv_at hl 0 rfl) ?_
  refine va_get (D := D) (ci := 5) (C := "StackRoomModel") (T := T_R) (N := 25) (v := .int (nI w)) hx hb ht in_R hown hK.1 (hP.one hM1.1) 0 rfl rfl 0 (by decide) (ht _ fl_R_R_words) (fun _ h9 => h9) rfl d_R_make_14 ?_
  refine W.eq (g2 := F0 m 17 ls [.int (nI w), .int (nI (s_W σ + 8 + a))]) (by rw [← nI_add, ← nI_add]; rfl) ?_
  refine lv_icmp_gt (tgt := 35) hx hb d_R_make_17 (by decide) (fun ca => ?_) (fun ca => ?_)
  · have hno : ¬ (a + s_W σ + 8 ≤ w ∧ b + s_N σ + 2 ≤ n) := fun q => absurd ((nI_ltI (by omega) (by omega)).mp ca) (by omega)
    refine lv_bipush (v := (-2)) hx hb d_R_make_35 (by decide) ?_
    exact W.iret (v := (-2)) hx hb hr (fun t ht hW => ⟨⟨_, G1, rfl, Or.inr ⟨hno, rfl, ar1, _, _, _, _, hM1, hE1⟩, g_fin ht hP⟩, hS.F ht⟩) hS.2.2 d_R_make_37
  · refine lv_aload_n hx hb d_R_make_20 rfl (lv_at hl 0 rfl) ?_
    refine va_get (D := D) (ci := 5) (C := "StackRoomModel") (T := T_R) (N := 25) (v := .int (nI (s_N σ))) hx hb ht in_R hown hK.1 (hP.one hM1.1) 0 rfl rfl 22 (by decide) (ht _ fl_R_R_reachedObjects) (fun _ h9 => h9) rfl d_R_make_21 ?_
    refine lv_iconst (v := 2) hx hb d_R_make_24 (by decide) ?_
    refine lv_iadd hx hb d_R_make_25 ?_
    refine lv_iload_n hx hb d_R_make_26 rfl (lv_at hl 3 rfl) ?_
    refine lv_iadd hx hb d_R_make_27 ?_
    refine lv_aload_n hx hb d_R_make_28 rfl (lv_at hl 0 rfl) ?_
    refine va_get (D := D) (ci := 5) (C := "StackRoomModel") (T := T_R) (N := 25) (v := .int (nI n)) hx hb ht in_R hown hK.1 (hP.one hM1.1) 0 rfl rfl 1 (by decide) (ht _ fl_R_R_entries) (fun _ h9 => h9) rfl d_R_make_29 ?_
    refine W.eq (g2 := F0 m 32 ls [.int (nI n), .int (nI (s_N σ + 2 + b))]) (by rw [← nI_add, ← nI_add]; rfl) ?_
    refine lv_icmp_le (tgt := 38) hx hb d_R_make_32 (by decide) (fun cb => ?_) (fun cb => ?_)
    · have hfit : a + s_W σ + 8 ≤ w ∧ b + s_N σ + 2 ≤ n := ⟨by have := Nat.not_lt.mp (fun q => ca ((nI_ltI (by omega) (by omega)).mpr q)); omega, by have := (nI_leI (by omega) (by omega)).mp cb; omega⟩
      refine lv_aload_n hx hb d_R_make_38 rfl (lv_at hl 0 rfl) ?_
      refine g_callv hP hS hA (r_V (rest := []) C0 [] (k_R_letGo l hM1 hE1 hO hw hse hs0 ht2 ht3 ht4) ml_R_R_letGo im_R_letGo se_R_R_letGo_R ini_R co_R_letGo ⟨rfl, hd_R_letGo⟩ (g_preV (ci := 5) hK hP rfl hM1.1) hl.1 d_R_make_39 rfl rfl (Nat.le_of_ble_eq_true rfl) ⟨rfl, rfl⟩ ⟨Nat.le_of_ble_eq_true rfl, Nat.le_of_ble_eq_true rfl⟩ ⟨Nat.le_of_ble_eq_true rfl, Nat.le_of_ble_eq_true rfl⟩) (fun G2 H locs hq2 hP hS hz9 hk9 => ?_)
      obtain ⟨adr2, ar2, b2, U2, hM2, hE2, hU2, hk0⟩ := hq2
      clear hz9 hk9
      refine lv_iconst (v := 0) hx hb d_R_make_42 (by decide) ?_
      refine lv_istore (lv' := [(5, .int 0), (0, .ref x), (1, .int (nI kk)), (2, .int (nI a)), (3, .int (nI b)), (4, .int (nI c0))]) hx hb d_R_make_43 hl (by decide) rfl (fun ls hl => ?_)
      obtain ⟨of, hof, hfree⟩ := m_free (sl := sl) hO hn4
      obtain ⟨o, eo⟩ : ∃ z : Nat, z = 0 := ⟨_, rfl⟩
      obtain ⟨f, ef⟩ : ∃ z : Nat, z = of := ⟨_, rfl⟩
      have inv : of ≤ o + f ∧ o ≤ of ∧ lv_has ls 7 [(5, .int (nI o)), (0, .ref x), (1, .int (nI kk)), (2, .int (nI a)), (3, .int (nI b)), (4, .int (nI c0))] := ⟨by omega, by omega, by rw [eo]; exact hl⟩
      clear hl eo ef
      induction f generalizing o ls
      case zero =>
        obtain ⟨hf, ho, hl⟩ := inv
        refine lv_aload_n hx hb d_R_make_45 rfl (lv_at hl 1 rfl) ?_
        refine va_get (D := D) (ci := 5) (C := "StackRoomModel") (T := T_R) (N := 25) (v := .ref (adr2 4)) hx hb ht in_R hown hK.1 (hP.one hM2.1) 0 rfl rfl 4 (by decide) (ht _ fl_R_R_kinds) (fun _ h9 => h9) rfl d_R_make_46 ?_
        refine lv_iload hx hb d_R_make_49 (lv_at hl 0 rfl) ?_
        refine va_bald hx hb hK.1 (hP.one hM2.a4) 0 3 rfl ht3 (vp_in_nI (show o < 4096 by omega) (by decide)) d_R_make_51 ?_
        rw [nI_clamp (by omega)]
        refine lv_if_eq (tgt := 61) hx hb d_R_make_52 (by decide) (fun ck => ?_) (fun ck => ?_)
        · have ho4 : o < 4096 := by omega
          have hno : ∀ i, s_rch σ i → sl i ≠ o := fun i hi e => by
            have := (hE2.2.1 i hi).2.1
            rw [e, ck] at this
            have h0 := s_rch_kd hO.1 hi
            have h4 : s_kd σ i ≤ 4 := by have := (hO.1.2.1 i h0).2.2; omega
            exact nI_ne0 (Nat.pos_of_ne_zero h0) (by omega) this.symm
          have hbU : ∀ i, s_rch σ i → s_isC σ i → b2 i + s_rm σ i ≤ U2 := fun i hi hc => (hE2.2.2.2.1 i hi hc).2.2.2.2.2.2
          refine lv_aload_n hx hb d_R_make_61 rfl (lv_at hl 1 rfl) ?_
          refine va_get (D := D) (ci := 5) (C := "StackRoomModel") (T := T_R) (N := 25) (v := .ref (adr2 4)) hx hb ht in_R hown hK.1 (hP.one hM2.1) 0 rfl rfl 4 (by decide) (ht _ fl_R_R_kinds) (fun _ h9 => h9) rfl d_R_make_62 ?_
          refine lv_iload hx hb d_R_make_65 (lv_at hl 0 rfl) ?_
          refine lv_iload_n hx hb d_R_make_67 rfl (lv_at hl 2 rfl) ?_
          refine lv_i2b (v := nI kk) hx hb d_R_make_68 (b_k hkk).1 ?_
          refine gw_bast hx hb hK.1 hP hS 3 hM2.a4 ht3 (vp_in_nI ho4 (by decide)) d_R_make_69 (fun H locs hP hS => ?_)
          rw [nI_clamp (by omega), (b_k hkk).2] at hP
          obtain ⟨G21, eG21⟩ : ∃ z : gw_G, z = va_up G2 (adr2 4) (some (.inl (cB, 4096, .inl (upd (ar2 4) (o) ((nI kk)))))) := ⟨_, rfl⟩
          replace hP : gw_P D vwCl (gw_A G s.heap.size) G21 H := by rw [eG21]; exact hP
          obtain ⟨ar21, ear21⟩ : ∃ z : Nat → Nat → Int32, z = va_up ar2 4 (upd (ar2 4) (o) ((nI kk))) := ⟨_, rfl⟩
          have hM21 : m_Arr cI cB cZ x w n md adr2 (nI U2) (r4) (nI (s_N σ)) (nI (s_W σ)) (nI (s_K σ)) ar21 G21 := by rw [eG21, ear21]; exact hM2.put (k := 4) (by decide) _
          refine lv_aload_n hx hb d_R_make_70 rfl (lv_at hl 1 rfl) ?_
          refine lv_dup hx hb d_R_make_71 rfl ?_
          refine va_get (D := D) (ci := 5) (C := "StackRoomModel") (T := T_R) (N := 25) (v := .int (nI md)) hx hb ht in_R hown hK.1 (hP.one hM21.1) 0 rfl rfl 2 (by decide) (ht _ fl_R_R_made) (fun _ h9 => h9) rfl d_R_make_72 ?_
          refine lv_iload_n hx hb d_R_make_75 rfl (lv_at hl 4 rfl) ?_
          refine lv_iadd hx hb d_R_make_76 ?_
          refine W.eq (g2 := F0 m 77 ls [.int (nI (md + b)), .ref x]) (by rw [← nI_add]) ?_
          refine gw_put (D := D) (cl := vwCl) (ci := 5) (C := "StackRoomModel") (T := T_R) (N := 25) (v := .int (nI (md + b))) (ty := .int) hx hb ht in_R ty_R tk_R nm_R hown hK.1 hP hS hM21.1 rfl 2 (by decide) (ht _ fl_R_R_made) (fun _ h9 => h9) rfl (by decide +kernel) rfl rfl (Nat.le_of_ble_eq_true rfl) d_R_make_77 (fun H locs hP hS => ?_)
          obtain ⟨G22, eG22⟩ : ∃ z : gw_G, z = va_up G21 x (some (.inr (5, [.int (nI w), .int (nI n), .int (nI (md + b)), .ref (adr2 3), .ref (adr2 4), .ref (adr2 5), .ref (adr2 6), .ref (adr2 7), .ref (adr2 8), .ref (adr2 9), .ref (adr2 10), .ref (adr2 11), .ref (adr2 12), .ref (adr2 13), .ref (adr2 14), .ref (adr2 15), .ref (adr2 16), .ref (adr2 17), .int (nI U2), .ref (adr2 19), .ref (adr2 20), .int r4, .int (nI (s_N σ)), .int (nI (s_W σ)), .int (nI (s_K σ))]))) := ⟨_, rfl⟩
          replace hP : gw_P D vwCl (gw_A G s.heap.size) G22 H := by rw [eG22]; exact hP
          have hM22 : m_Arr cI cB cZ x w n (md + b) adr2 (nI U2) (r4) (nI (s_N σ)) (nI (s_W σ)) (nI (s_K σ)) ar21 G22 := by rw [eG22]; exact hM21.own (md + b) (nI U2) (r4) (nI (s_N σ)) (nI (s_W σ)) (nI (s_K σ))
          refine lv_aload_n hx hb d_R_make_80 rfl (lv_at hl 1 rfl) ?_
          refine va_get (D := D) (ci := 5) (C := "StackRoomModel") (T := T_R) (N := 25) (v := .ref (adr2 5)) hx hb ht in_R hown hK.1 (hP.one hM22.1) 0 rfl rfl 5 (by decide) (ht _ fl_R_R_identities) (fun _ h9 => h9) rfl d_R_make_81 ?_
          refine lv_iload hx hb d_R_make_84 (lv_at hl 0 rfl) ?_
          refine lv_aload_n hx hb d_R_make_86 rfl (lv_at hl 1 rfl) ?_
          refine va_get (D := D) (ci := 5) (C := "StackRoomModel") (T := T_R) (N := 25) (v := .int (nI (md + b))) hx hb ht in_R hown hK.1 (hP.one hM22.1) 0 rfl rfl 2 (by decide) (ht _ fl_R_R_made) (fun _ h9 => h9) rfl d_R_make_87 ?_
          refine gw_iast hx hb hK.1 hP hS 2 hM22.a5 ht2 (vp_in_nI ho4 (by decide)) d_R_make_90 (fun H locs hP hS => ?_)
          rw [nI_clamp (by omega)] at hP
          obtain ⟨G23, eG23⟩ : ∃ z : gw_G, z = va_up G22 (adr2 5) (some (.inl (cI, 4096, .inl (upd (ar21 5) (o) ((nI (md + b))))))) := ⟨_, rfl⟩
          replace hP : gw_P D vwCl (gw_A G s.heap.size) G23 H := by rw [eG23]; exact hP
          obtain ⟨ar23, ear23⟩ : ∃ z : Nat → Nat → Int32, z = va_up ar21 5 (upd (ar21 5) (o) ((nI (md + b)))) := ⟨_, rfl⟩
          have hM23 : m_Arr cI cB cZ x w n (md + b) adr2 (nI U2) (r4) (nI (s_N σ)) (nI (s_W σ)) (nI (s_K σ)) ar23 G23 := by rw [eG23, ear23]; exact hM22.put (k := 5) (by decide) _
          refine lv_aload_n hx hb d_R_make_91 rfl (lv_at hl 1 rfl) ?_
          refine va_get (D := D) (ci := 5) (C := "StackRoomModel") (T := T_R) (N := 25) (v := .ref (adr2 14)) hx hb ht in_R hown hK.1 (hP.one hM23.1) 0 rfl rfl 14 (by decide) (ht _ fl_R_R_begins) (fun _ h9 => h9) rfl d_R_make_92 ?_
          refine lv_iload hx hb d_R_make_95 (lv_at hl 0 rfl) ?_
          refine lv_aload_n hx hb d_R_make_97 rfl (lv_at hl 1 rfl) ?_
          refine va_get (D := D) (ci := 5) (C := "StackRoomModel") (T := T_R) (N := 25) (v := .int (nI U2)) hx hb ht in_R hown hK.1 (hP.one hM23.1) 0 rfl rfl 18 (by decide) (ht _ fl_R_R_used) (fun _ h9 => h9) rfl d_R_make_98 ?_
          refine gw_iast hx hb hK.1 hP hS 2 hM23.a14 ht2 (vp_in_nI ho4 (by decide)) d_R_make_101 (fun H locs hP hS => ?_)
          rw [nI_clamp (by omega)] at hP
          obtain ⟨G24, eG24⟩ : ∃ z : gw_G, z = va_up G23 (adr2 14) (some (.inl (cI, 4096, .inl (upd (ar23 14) (o) ((nI U2)))))) := ⟨_, rfl⟩
          replace hP : gw_P D vwCl (gw_A G s.heap.size) G24 H := by rw [eG24]; exact hP
          obtain ⟨ar24, ear24⟩ : ∃ z : Nat → Nat → Int32, z = va_up ar23 14 (upd (ar23 14) (o) ((nI U2))) := ⟨_, rfl⟩
          have hM24 : m_Arr cI cB cZ x w n (md + b) adr2 (nI U2) (r4) (nI (s_N σ)) (nI (s_W σ)) (nI (s_K σ)) ar24 G24 := by rw [eG24, ear24]; exact hM23.put (k := 14) (by decide) _
          refine lv_aload_n hx hb d_R_make_102 rfl (lv_at hl 1 rfl) ?_
          refine va_get (D := D) (ci := 5) (C := "StackRoomModel") (T := T_R) (N := 25) (v := .ref (adr2 15)) hx hb ht in_R hown hK.1 (hP.one hM24.1) 0 rfl rfl 15 (by decide) (ht _ fl_R_R_rooms) (fun _ h9 => h9) rfl d_R_make_103 ?_
          refine lv_iload hx hb d_R_make_106 (lv_at hl 0 rfl) ?_
          refine lv_iload hx hb d_R_make_108 (lv_at hl 5 rfl) ?_
          refine gw_iast hx hb hK.1 hP hS 2 hM24.a15 ht2 (vp_in_nI ho4 (by decide)) d_R_make_110 (fun H locs hP hS => ?_)
          rw [nI_clamp (by omega)] at hP
          obtain ⟨G25, eG25⟩ : ∃ z : gw_G, z = va_up G24 (adr2 15) (some (.inl (cI, 4096, .inl (upd (ar24 15) (o) ((nI c0)))))) := ⟨_, rfl⟩
          replace hP : gw_P D vwCl (gw_A G s.heap.size) G25 H := by rw [eG25]; exact hP
          obtain ⟨ar25, ear25⟩ : ∃ z : Nat → Nat → Int32, z = va_up ar24 15 (upd (ar24 15) (o) ((nI c0))) := ⟨_, rfl⟩
          have hM25 : m_Arr cI cB cZ x w n (md + b) adr2 (nI U2) (r4) (nI (s_N σ)) (nI (s_W σ)) (nI (s_K σ)) ar25 G25 := by rw [eG25, ear25]; exact hM24.put (k := 15) (by decide) _
          refine lv_iconst (v := 0) hx hb d_R_make_111 (by decide) ?_
          refine lv_istore (lv' := [(6, .int 0), (5, .int (nI o)), (0, .ref x), (1, .int (nI kk)), (2, .int (nI a)), (3, .int (nI b)), (4, .int (nI c0))]) hx hb d_R_make_112 hl (by decide) rfl (fun ls hl => ?_)
          obtain ⟨j, ej⟩ : ∃ z : Nat, z = 0 := ⟨_, rfl⟩
          obtain ⟨f2, ef2⟩ : ∃ z : Nat, z = c0 := ⟨_, rfl⟩
          obtain ⟨G8, eG8⟩ : ∃ z : gw_G, z = G25 := ⟨_, rfl⟩
          obtain ⟨ar8, ear8⟩ : ∃ z : Nat → Nat → Int32, z = ar25 := ⟨_, rfl⟩
          have inv2 : c0 ≤ j + f2 ∧ j ≤ c0 ∧ lv_has ls 7 [(6, .int (nI j)), (5, .int (nI o)), (0, .ref x), (1, .int (nI kk)), (2, .int (nI a)), (3, .int (nI b)), (4, .int (nI c0))] ∧ gw_P D vwCl (gw_A G s.heap.size) G8 H ∧ va_S (gw_A G s.heap.size) s.heap H locs ∧ m_Arr cI cB cZ x w n (md + b) adr2 (nI U2) r4 (nI (s_N σ)) (nI (s_W σ)) (nI (s_K σ)) ar8 G8 ∧ (∀ k, k < j → ar8 16 (U2 + k) = 0) ∧ (∀ q, q < U2 → ar8 16 q = ar2 16 q) ∧ (∀ k, k ≠ 16 → ar8 k = ar25 k) := by
            refine ⟨by omega, by omega, by rw [ej]; exact lv_sub hl [0, 1, 2, 3, 4, 5, 6] rfl, by rw [eG8]; exact hP, hS, by rw [eG8, ear8]; exact hM25, fun k hk => absurd hk (by omega), fun q hq => by rw [ear8, ear25, ear24, ear23, ear21]; rfl, fun k _ => by rw [ear8]⟩
          clear hl hP hS ej ef2 eG8 ear8
          induction f2 generalizing j ls H locs G8 ar8
          case zero =>
            obtain ⟨hf2, hjc, hl, hP, hS, hM8, hz8, hlo, hkq⟩ := inv2
            refine lv_iload hx hb d_R_make_114 (lv_at hl 0 rfl) ?_
            refine lv_iload hx hb d_R_make_116 (lv_at hl 6 rfl) ?_
            refine lv_icmp_ge (tgt := 140) hx hb d_R_make_118 (by decide) (fun cj => ?_) (fun cj => ?_)
            · have hge : c0 ≤ j := (nI_leI (by omega) (by omega)).mp cj
              refine lv_aload_n hx hb d_R_make_140 rfl (lv_at hl 2 rfl) ?_
              refine lv_dup hx hb d_R_make_141 rfl ?_
              refine va_get (D := D) (ci := 5) (C := "StackRoomModel") (T := T_R) (N := 25) (v := .int (nI U2)) hx hb ht in_R hown hK.1 (hP.one hM8.1) 0 rfl rfl 18 (by decide) (ht _ fl_R_R_used) (fun _ h9 => h9) rfl d_R_make_142 ?_
              refine lv_iload hx hb d_R_make_145 (lv_at hl 6 rfl) ?_
              refine lv_iadd hx hb d_R_make_147 ?_
              refine W.eq (g2 := F0 m 148 ls [.int (nI (U2 + c0)), .ref x]) (by rw [← nI_add]) ?_
              refine gw_put (D := D) (cl := vwCl) (ci := 5) (C := "StackRoomModel") (T := T_R) (N := 25) (v := .int (nI (U2 + c0))) (ty := .int) hx hb ht in_R ty_R tk_R nm_R hown hK.1 hP hS hM8.1 rfl 18 (by decide) (ht _ fl_R_R_used) (fun _ h9 => h9) rfl (by decide +kernel) rfl rfl (Nat.le_of_ble_eq_true rfl) d_R_make_148 (fun H locs hP hS => ?_)
              obtain ⟨G36, eG36⟩ : ∃ z : gw_G, z = va_up G8 x (some (.inr (5, [.int (nI w), .int (nI n), .int (nI (md + b)), .ref (adr2 3), .ref (adr2 4), .ref (adr2 5), .ref (adr2 6), .ref (adr2 7), .ref (adr2 8), .ref (adr2 9), .ref (adr2 10), .ref (adr2 11), .ref (adr2 12), .ref (adr2 13), .ref (adr2 14), .ref (adr2 15), .ref (adr2 16), .ref (adr2 17), .int (nI (U2 + c0)), .ref (adr2 19), .ref (adr2 20), .int r4, .int (nI (s_N σ)), .int (nI (s_W σ)), .int (nI (s_K σ))]))) := ⟨_, rfl⟩
              replace hP : gw_P D vwCl (gw_A G s.heap.size) G36 H := by rw [eG36]; exact hP
              have hM36 : m_Arr cI cB cZ x w n (md + b) adr2 (nI (U2 + c0)) (r4) (nI (s_N σ)) (nI (s_W σ)) (nI (s_K σ)) ar8 G36 := by rw [eG36]; exact hM8.own (md + b) (nI (U2 + c0)) (r4) (nI (s_N σ)) (nI (s_W σ)) (nI (s_K σ))
              have rd : ∀ k, k ≠ 4 → k ≠ 5 → k ≠ 14 → k ≠ 15 → k ≠ 16 → ar8 k = ar2 k := fun k h1 h2 h3 h4 h5 => by rw [hkq k h5, ear25, va_up_ne _ _ h4, ear24, va_up_ne _ _ h3, ear23, va_up_ne _ _ h2, ear21, va_up_ne _ _ h1]
              have r4q : ar8 4 = upd (ar2 4) o (nI kk) := by rw [hkq 4 (by decide), ear25, va_up_ne _ _ (by decide), ear24, va_up_ne _ _ (by decide), ear23, va_up_ne _ _ (by decide), ear21, va_up_self]
              have r5q : ar8 5 = upd (ar2 5) o (nI (md + b)) := by rw [hkq 5 (by decide), ear25, va_up_ne _ _ (by decide), ear24, va_up_ne _ _ (by decide), ear23, va_up_self, ear21, va_up_ne _ _ (by decide)]
              have r14q : ar8 14 = upd (ar2 14) o (nI U2) := by rw [hkq 14 (by decide), ear25, va_up_ne _ _ (by decide), ear24, va_up_self, ear23, va_up_ne _ _ (by decide), ear21, va_up_ne _ _ (by decide)]
              have r15q : ar8 15 = upd (ar2 15) o (nI c0) := by rw [hkq 15 (by decide), ear25, va_up_self, ear24, va_up_ne _ _ (by decide), ear23, va_up_ne _ _ (by decide), ear21, va_up_ne _ _ (by decide)]
              have hE8 : m_Sem (s_rch σ) σ sl b2 (U2 + c0) ar8 := by
                obtain ⟨s1, s2, s3, s4, s5, s6, s7, s8, s9⟩ := hE2
                refine ⟨by rw [rd 3 (by decide) (by decide) (by decide) (by decide) (by decide)]; exact s1, fun i hi => ?_, fun i hi hk => ?_, fun i hi hc => ?_, fun i hi hk => ?_, fun i hi hc k hk => ?_, s7, s8, by omega⟩
                · rw [r4q, r5q, upd_ne _ _ (hno i hi), upd_ne _ _ (hno i hi)]; exact s2 i hi
                · rw [rd 7 (by decide) (by decide) (by decide) (by decide) (by decide), rd 8 (by decide) (by decide) (by decide) (by decide) (by decide)]; exact s3 i hi hk
                · rw [rd 9 (by decide) (by decide) (by decide) (by decide) (by decide), rd 10 (by decide) (by decide) (by decide) (by decide) (by decide), rd 11 (by decide) (by decide) (by decide) (by decide) (by decide), rd 12 (by decide) (by decide) (by decide) (by decide) (by decide), r14q, r15q, upd_ne _ _ (hno i hi), upd_ne _ _ (hno i hi)]
                  obtain ⟨t1, t2, t3, t4, t5, t6, t7⟩ := s4 i hi hc
                  exact ⟨t1, t2, t3, t4, t5, t6, by omega⟩
                · rw [rd 13 (by decide) (by decide) (by decide) (by decide) (by decide)]; exact s5 i hi hk
                · rw [hlo _ (by have := hbU i hi hc; omega)]; exact s6 i hi hc k hk
              refine lv_iload hx hb d_R_make_151 (lv_at hl 1 rfl) ?_
              exact W.iret (v := (nI o)) hx hb hr (fun t ht hW => ⟨⟨_, G36, rfl, Or.inl ⟨hfit, adr2, ar8, b2, U2, _, _, _, _, o, rfl, ho4, hM36, hE8, hno, by rw [r4q, upd_self], by rw [r5q, upd_self], by rw [r14q, upd_self], by rw [r15q, upd_self], fun k hk => hz8 k (by omega), hbU⟩, g_fin ht hP⟩, hS.F ht⟩) hS.2.2 d_R_make_153
            · have hltj : j < c0 := Nat.not_le.mp (fun z => cj ((nI_leI (by omega) (by omega)).mpr z))
              omega
          case succ f2 ih2 =>
            obtain ⟨hf2, hjc, hl, hP, hS, hM8, hz8, hlo, hkq⟩ := inv2
            refine lv_iload hx hb d_R_make_114 (lv_at hl 0 rfl) ?_
            refine lv_iload hx hb d_R_make_116 (lv_at hl 6 rfl) ?_
            refine lv_icmp_ge (tgt := 140) hx hb d_R_make_118 (by decide) (fun cj => ?_) (fun cj => ?_)
            · have hge : c0 ≤ j := (nI_leI (by omega) (by omega)).mp cj
              refine lv_aload_n hx hb d_R_make_140 rfl (lv_at hl 2 rfl) ?_
              refine lv_dup hx hb d_R_make_141 rfl ?_
              refine va_get (D := D) (ci := 5) (C := "StackRoomModel") (T := T_R) (N := 25) (v := .int (nI U2)) hx hb ht in_R hown hK.1 (hP.one hM8.1) 0 rfl rfl 18 (by decide) (ht _ fl_R_R_used) (fun _ h9 => h9) rfl d_R_make_142 ?_
              refine lv_iload hx hb d_R_make_145 (lv_at hl 6 rfl) ?_
              refine lv_iadd hx hb d_R_make_147 ?_
              refine W.eq (g2 := F0 m 148 ls [.int (nI (U2 + c0)), .ref x]) (by rw [← nI_add]) ?_
              refine gw_put (D := D) (cl := vwCl) (ci := 5) (C := "StackRoomModel") (T := T_R) (N := 25) (v := .int (nI (U2 + c0))) (ty := .int) hx hb ht in_R ty_R tk_R nm_R hown hK.1 hP hS hM8.1 rfl 18 (by decide) (ht _ fl_R_R_used) (fun _ h9 => h9) rfl (by decide +kernel) rfl rfl (Nat.le_of_ble_eq_true rfl) d_R_make_148 (fun H locs hP hS => ?_)
              obtain ⟨G47, eG47⟩ : ∃ z : gw_G, z = va_up G8 x (some (.inr (5, [.int (nI w), .int (nI n), .int (nI (md + b)), .ref (adr2 3), .ref (adr2 4), .ref (adr2 5), .ref (adr2 6), .ref (adr2 7), .ref (adr2 8), .ref (adr2 9), .ref (adr2 10), .ref (adr2 11), .ref (adr2 12), .ref (adr2 13), .ref (adr2 14), .ref (adr2 15), .ref (adr2 16), .ref (adr2 17), .int (nI (U2 + c0)), .ref (adr2 19), .ref (adr2 20), .int r4, .int (nI (s_N σ)), .int (nI (s_W σ)), .int (nI (s_K σ))]))) := ⟨_, rfl⟩
              replace hP : gw_P D vwCl (gw_A G s.heap.size) G47 H := by rw [eG47]; exact hP
              have hM47 : m_Arr cI cB cZ x w n (md + b) adr2 (nI (U2 + c0)) (r4) (nI (s_N σ)) (nI (s_W σ)) (nI (s_K σ)) ar8 G47 := by rw [eG47]; exact hM8.own (md + b) (nI (U2 + c0)) (r4) (nI (s_N σ)) (nI (s_W σ)) (nI (s_K σ))
              have rd : ∀ k, k ≠ 4 → k ≠ 5 → k ≠ 14 → k ≠ 15 → k ≠ 16 → ar8 k = ar2 k := fun k h1 h2 h3 h4 h5 => by rw [hkq k h5, ear25, va_up_ne _ _ h4, ear24, va_up_ne _ _ h3, ear23, va_up_ne _ _ h2, ear21, va_up_ne _ _ h1]
              have r4q : ar8 4 = upd (ar2 4) o (nI kk) := by rw [hkq 4 (by decide), ear25, va_up_ne _ _ (by decide), ear24, va_up_ne _ _ (by decide), ear23, va_up_ne _ _ (by decide), ear21, va_up_self]
              have r5q : ar8 5 = upd (ar2 5) o (nI (md + b)) := by rw [hkq 5 (by decide), ear25, va_up_ne _ _ (by decide), ear24, va_up_ne _ _ (by decide), ear23, va_up_self, ear21, va_up_ne _ _ (by decide)]
              have r14q : ar8 14 = upd (ar2 14) o (nI U2) := by rw [hkq 14 (by decide), ear25, va_up_ne _ _ (by decide), ear24, va_up_self, ear23, va_up_ne _ _ (by decide), ear21, va_up_ne _ _ (by decide)]
              have r15q : ar8 15 = upd (ar2 15) o (nI c0) := by rw [hkq 15 (by decide), ear25, va_up_self, ear24, va_up_ne _ _ (by decide), ear23, va_up_ne _ _ (by decide), ear21, va_up_ne _ _ (by decide)]
              have hE8 : m_Sem (s_rch σ) σ sl b2 (U2 + c0) ar8 := by
                obtain ⟨s1, s2, s3, s4, s5, s6, s7, s8, s9⟩ := hE2
                refine ⟨by rw [rd 3 (by decide) (by decide) (by decide) (by decide) (by decide)]; exact s1, fun i hi => ?_, fun i hi hk => ?_, fun i hi hc => ?_, fun i hi hk => ?_, fun i hi hc k hk => ?_, s7, s8, by omega⟩
                · rw [r4q, r5q, upd_ne _ _ (hno i hi), upd_ne _ _ (hno i hi)]; exact s2 i hi
                · rw [rd 7 (by decide) (by decide) (by decide) (by decide) (by decide), rd 8 (by decide) (by decide) (by decide) (by decide) (by decide)]; exact s3 i hi hk
                · rw [rd 9 (by decide) (by decide) (by decide) (by decide) (by decide), rd 10 (by decide) (by decide) (by decide) (by decide) (by decide), rd 11 (by decide) (by decide) (by decide) (by decide) (by decide), rd 12 (by decide) (by decide) (by decide) (by decide) (by decide), r14q, r15q, upd_ne _ _ (hno i hi), upd_ne _ _ (hno i hi)]
                  obtain ⟨t1, t2, t3, t4, t5, t6, t7⟩ := s4 i hi hc
                  exact ⟨t1, t2, t3, t4, t5, t6, by omega⟩
                · rw [rd 13 (by decide) (by decide) (by decide) (by decide) (by decide)]; exact s5 i hi hk
                · rw [hlo _ (by have := hbU i hi hc; omega)]; exact s6 i hi hc k hk
              refine lv_iload hx hb d_R_make_151 (lv_at hl 1 rfl) ?_
              exact W.iret (v := (nI o)) hx hb hr (fun t ht hW => ⟨⟨_, G47, rfl, Or.inl ⟨hfit, adr2, ar8, b2, U2, _, _, _, _, o, rfl, ho4, hM47, hE8, hno, by rw [r4q, upd_self], by rw [r5q, upd_self], by rw [r14q, upd_self], by rw [r15q, upd_self], fun k hk => hz8 k (by omega), hbU⟩, g_fin ht hP⟩, hS.F ht⟩) hS.2.2 d_R_make_153
            · have hltj : j < c0 := Nat.not_le.mp (fun z => cj ((nI_leI (by omega) (by omega)).mpr z))
              refine lv_aload_n hx hb d_R_make_121 rfl (lv_at hl 2 rfl) ?_
              refine va_get (D := D) (ci := 5) (C := "StackRoomModel") (T := T_R) (N := 25) (v := .ref (adr2 16)) hx hb ht in_R hown hK.1 (hP.one hM8.1) 0 rfl rfl 16 (by decide) (ht _ fl_R_R_fields) (fun _ h9 => h9) rfl d_R_make_122 ?_
              refine lv_aload_n hx hb d_R_make_125 rfl (lv_at hl 2 rfl) ?_
              refine va_get (D := D) (ci := 5) (C := "StackRoomModel") (T := T_R) (N := 25) (v := .int (nI U2)) hx hb ht in_R hown hK.1 (hP.one hM8.1) 0 rfl rfl 18 (by decide) (ht _ fl_R_R_used) (fun _ h9 => h9) rfl d_R_make_126 ?_
              refine lv_iload hx hb d_R_make_129 (lv_at hl 0 rfl) ?_
              refine lv_iadd hx hb d_R_make_131 ?_
              refine W.eq (g2 := F0 m 132 ls [.int (nI (U2 + j)), .ref (adr2 16)]) (by rw [← nI_add]) ?_
              refine lv_iconst (v := 0) hx hb d_R_make_132 (by decide) ?_
              refine gw_iast hx hb hK.1 hP hS 2 hM8.a16 ht2 (vp_in_nI (show U2 + j < 32768 by omega) (by decide)) d_R_make_133 (fun H locs hP hS => ?_)
              rw [nI_clamp (by omega)] at hP
              obtain ⟨G48, eG48⟩ : ∃ z : gw_G, z = va_up G8 (adr2 16) (some (.inl (cI, 32768, .inl (upd (ar8 16) (U2 + j) (0))))) := ⟨_, rfl⟩
              replace hP : gw_P D vwCl (gw_A G s.heap.size) G48 H := by rw [eG48]; exact hP
              obtain ⟨ar48, ear48⟩ : ∃ z : Nat → Nat → Int32, z = va_up ar8 16 (upd (ar8 16) (U2 + j) (0)) := ⟨_, rfl⟩
              have hM48 : m_Arr cI cB cZ x w n (md + b) adr2 (nI U2) (r4) (nI (s_N σ)) (nI (s_W σ)) (nI (s_K σ)) ar48 G48 := by rw [eG48, ear48]; exact hM8.put (k := 16) (by decide) _
              refine lv_iinc (v := nI (j + 1)) (lv' := [(6, .int (nI (j + 1))), (5, .int (nI o)), (0, .ref x), (1, .int (nI kk)), (2, .int (nI a)), (3, .int (nI b)), (4, .int (nI c0))]) hx hb d_R_make_134 hl (k := 0) rfl (by rw [← nI_1]; rfl) (by decide) rfl (fun ls hl => ?_)
              refine lv_goto (tgt := 114) hx hb d_R_make_137 (by decide) ?_
              refine ih2 _ _ _ _ _ _ ⟨by omega, by omega, lv_sub hl [0, 1, 2, 3, 4, 5, 6] rfl, hP, hS, hM48, fun k hk => ?_, fun q hq => ?_, fun k h1 => by rw [ear48, va_up_ne _ _ h1]; exact hkq k h1⟩
              · rw [ear48, va_up_self]
                by_cases e : k = j
                · rw [e, upd_self]
                · rw [upd_ne _ _ (by omega)]; exact hz8 k (by omega)
              · rw [ear48, va_up_self, upd_ne _ _ (by omega)]; exact hlo q hq
        · have hne : o ≠ of := fun e => ck (by rw [e]; exact hk0 of hof hfree)
          omega
      case succ f ih =>
        obtain ⟨hf, ho, hl⟩ := inv
        refine lv_aload_n hx hb d_R_make_45 rfl (lv_at hl 1 rfl) ?_
        refine va_get (D := D) (ci := 5) (C := "StackRoomModel") (T := T_R) (N := 25) (v := .ref (adr2 4)) hx hb ht in_R hown hK.1 (hP.one hM2.1) 0 rfl rfl 4 (by decide) (ht _ fl_R_R_kinds) (fun _ h9 => h9) rfl d_R_make_46 ?_
        refine lv_iload hx hb d_R_make_49 (lv_at hl 0 rfl) ?_
        refine va_bald hx hb hK.1 (hP.one hM2.a4) 0 3 rfl ht3 (vp_in_nI (show o < 4096 by omega) (by decide)) d_R_make_51 ?_
        rw [nI_clamp (by omega)]
        refine lv_if_eq (tgt := 61) hx hb d_R_make_52 (by decide) (fun ck => ?_) (fun ck => ?_)
        · have ho4 : o < 4096 := by omega
          have hno : ∀ i, s_rch σ i → sl i ≠ o := fun i hi e => by
            have := (hE2.2.1 i hi).2.1
            rw [e, ck] at this
            have h0 := s_rch_kd hO.1 hi
            have h4 : s_kd σ i ≤ 4 := by have := (hO.1.2.1 i h0).2.2; omega
            exact nI_ne0 (Nat.pos_of_ne_zero h0) (by omega) this.symm
          have hbU : ∀ i, s_rch σ i → s_isC σ i → b2 i + s_rm σ i ≤ U2 := fun i hi hc => (hE2.2.2.2.1 i hi hc).2.2.2.2.2.2
          refine lv_aload_n hx hb d_R_make_61 rfl (lv_at hl 1 rfl) ?_
          refine va_get (D := D) (ci := 5) (C := "StackRoomModel") (T := T_R) (N := 25) (v := .ref (adr2 4)) hx hb ht in_R hown hK.1 (hP.one hM2.1) 0 rfl rfl 4 (by decide) (ht _ fl_R_R_kinds) (fun _ h9 => h9) rfl d_R_make_62 ?_
          refine lv_iload hx hb d_R_make_65 (lv_at hl 0 rfl) ?_
          refine lv_iload_n hx hb d_R_make_67 rfl (lv_at hl 2 rfl) ?_
          refine lv_i2b (v := nI kk) hx hb d_R_make_68 (b_k hkk).1 ?_
          refine gw_bast hx hb hK.1 hP hS 3 hM2.a4 ht3 (vp_in_nI ho4 (by decide)) d_R_make_69 (fun H locs hP hS => ?_)
          rw [nI_clamp (by omega), (b_k hkk).2] at hP
          obtain ⟨G49, eG49⟩ : ∃ z : gw_G, z = va_up G2 (adr2 4) (some (.inl (cB, 4096, .inl (upd (ar2 4) (o) ((nI kk)))))) := ⟨_, rfl⟩
          replace hP : gw_P D vwCl (gw_A G s.heap.size) G49 H := by rw [eG49]; exact hP
          obtain ⟨ar49, ear49⟩ : ∃ z : Nat → Nat → Int32, z = va_up ar2 4 (upd (ar2 4) (o) ((nI kk))) := ⟨_, rfl⟩
          have hM49 : m_Arr cI cB cZ x w n md adr2 (nI U2) (r4) (nI (s_N σ)) (nI (s_W σ)) (nI (s_K σ)) ar49 G49 := by rw [eG49, ear49]; exact hM2.put (k := 4) (by decide) _
          refine lv_aload_n hx hb d_R_make_70 rfl (lv_at hl 1 rfl) ?_
          refine lv_dup hx hb d_R_make_71 rfl ?_
          refine va_get (D := D) (ci := 5) (C := "StackRoomModel") (T := T_R) (N := 25) (v := .int (nI md)) hx hb ht in_R hown hK.1 (hP.one hM49.1) 0 rfl rfl 2 (by decide) (ht _ fl_R_R_made) (fun _ h9 => h9) rfl d_R_make_72 ?_
          refine lv_iload_n hx hb d_R_make_75 rfl (lv_at hl 4 rfl) ?_
          refine lv_iadd hx hb d_R_make_76 ?_
          refine W.eq (g2 := F0 m 77 ls [.int (nI (md + b)), .ref x]) (by rw [← nI_add]) ?_
          refine gw_put (D := D) (cl := vwCl) (ci := 5) (C := "StackRoomModel") (T := T_R) (N := 25) (v := .int (nI (md + b))) (ty := .int) hx hb ht in_R ty_R tk_R nm_R hown hK.1 hP hS hM49.1 rfl 2 (by decide) (ht _ fl_R_R_made) (fun _ h9 => h9) rfl (by decide +kernel) rfl rfl (Nat.le_of_ble_eq_true rfl) d_R_make_77 (fun H locs hP hS => ?_)
          obtain ⟨G50, eG50⟩ : ∃ z : gw_G, z = va_up G49 x (some (.inr (5, [.int (nI w), .int (nI n), .int (nI (md + b)), .ref (adr2 3), .ref (adr2 4), .ref (adr2 5), .ref (adr2 6), .ref (adr2 7), .ref (adr2 8), .ref (adr2 9), .ref (adr2 10), .ref (adr2 11), .ref (adr2 12), .ref (adr2 13), .ref (adr2 14), .ref (adr2 15), .ref (adr2 16), .ref (adr2 17), .int (nI U2), .ref (adr2 19), .ref (adr2 20), .int r4, .int (nI (s_N σ)), .int (nI (s_W σ)), .int (nI (s_K σ))]))) := ⟨_, rfl⟩
          replace hP : gw_P D vwCl (gw_A G s.heap.size) G50 H := by rw [eG50]; exact hP
          have hM50 : m_Arr cI cB cZ x w n (md + b) adr2 (nI U2) (r4) (nI (s_N σ)) (nI (s_W σ)) (nI (s_K σ)) ar49 G50 := by rw [eG50]; exact hM49.own (md + b) (nI U2) (r4) (nI (s_N σ)) (nI (s_W σ)) (nI (s_K σ))
          refine lv_aload_n hx hb d_R_make_80 rfl (lv_at hl 1 rfl) ?_
          refine va_get (D := D) (ci := 5) (C := "StackRoomModel") (T := T_R) (N := 25) (v := .ref (adr2 5)) hx hb ht in_R hown hK.1 (hP.one hM50.1) 0 rfl rfl 5 (by decide) (ht _ fl_R_R_identities) (fun _ h9 => h9) rfl d_R_make_81 ?_
          refine lv_iload hx hb d_R_make_84 (lv_at hl 0 rfl) ?_
          refine lv_aload_n hx hb d_R_make_86 rfl (lv_at hl 1 rfl) ?_
          refine va_get (D := D) (ci := 5) (C := "StackRoomModel") (T := T_R) (N := 25) (v := .int (nI (md + b))) hx hb ht in_R hown hK.1 (hP.one hM50.1) 0 rfl rfl 2 (by decide) (ht _ fl_R_R_made) (fun _ h9 => h9) rfl d_R_make_87 ?_
          refine gw_iast hx hb hK.1 hP hS 2 hM50.a5 ht2 (vp_in_nI ho4 (by decide)) d_R_make_90 (fun H locs hP hS => ?_)
          rw [nI_clamp (by omega)] at hP
          obtain ⟨G51, eG51⟩ : ∃ z : gw_G, z = va_up G50 (adr2 5) (some (.inl (cI, 4096, .inl (upd (ar49 5) (o) ((nI (md + b))))))) := ⟨_, rfl⟩
          replace hP : gw_P D vwCl (gw_A G s.heap.size) G51 H := by rw [eG51]; exact hP
          obtain ⟨ar51, ear51⟩ : ∃ z : Nat → Nat → Int32, z = va_up ar49 5 (upd (ar49 5) (o) ((nI (md + b)))) := ⟨_, rfl⟩
          have hM51 : m_Arr cI cB cZ x w n (md + b) adr2 (nI U2) (r4) (nI (s_N σ)) (nI (s_W σ)) (nI (s_K σ)) ar51 G51 := by rw [eG51, ear51]; exact hM50.put (k := 5) (by decide) _
          refine lv_aload_n hx hb d_R_make_91 rfl (lv_at hl 1 rfl) ?_
          refine va_get (D := D) (ci := 5) (C := "StackRoomModel") (T := T_R) (N := 25) (v := .ref (adr2 14)) hx hb ht in_R hown hK.1 (hP.one hM51.1) 0 rfl rfl 14 (by decide) (ht _ fl_R_R_begins) (fun _ h9 => h9) rfl d_R_make_92 ?_
          refine lv_iload hx hb d_R_make_95 (lv_at hl 0 rfl) ?_
          refine lv_aload_n hx hb d_R_make_97 rfl (lv_at hl 1 rfl) ?_
          refine va_get (D := D) (ci := 5) (C := "StackRoomModel") (T := T_R) (N := 25) (v := .int (nI U2)) hx hb ht in_R hown hK.1 (hP.one hM51.1) 0 rfl rfl 18 (by decide) (ht _ fl_R_R_used) (fun _ h9 => h9) rfl d_R_make_98 ?_
          refine gw_iast hx hb hK.1 hP hS 2 hM51.a14 ht2 (vp_in_nI ho4 (by decide)) d_R_make_101 (fun H locs hP hS => ?_)
          rw [nI_clamp (by omega)] at hP
          obtain ⟨G52, eG52⟩ : ∃ z : gw_G, z = va_up G51 (adr2 14) (some (.inl (cI, 4096, .inl (upd (ar51 14) (o) ((nI U2)))))) := ⟨_, rfl⟩
          replace hP : gw_P D vwCl (gw_A G s.heap.size) G52 H := by rw [eG52]; exact hP
          obtain ⟨ar52, ear52⟩ : ∃ z : Nat → Nat → Int32, z = va_up ar51 14 (upd (ar51 14) (o) ((nI U2))) := ⟨_, rfl⟩
          have hM52 : m_Arr cI cB cZ x w n (md + b) adr2 (nI U2) (r4) (nI (s_N σ)) (nI (s_W σ)) (nI (s_K σ)) ar52 G52 := by rw [eG52, ear52]; exact hM51.put (k := 14) (by decide) _
          refine lv_aload_n hx hb d_R_make_102 rfl (lv_at hl 1 rfl) ?_
          refine va_get (D := D) (ci := 5) (C := "StackRoomModel") (T := T_R) (N := 25) (v := .ref (adr2 15)) hx hb ht in_R hown hK.1 (hP.one hM52.1) 0 rfl rfl 15 (by decide) (ht _ fl_R_R_rooms) (fun _ h9 => h9) rfl d_R_make_103 ?_
          refine lv_iload hx hb d_R_make_106 (lv_at hl 0 rfl) ?_
          refine lv_iload hx hb d_R_make_108 (lv_at hl 5 rfl) ?_
          refine gw_iast hx hb hK.1 hP hS 2 hM52.a15 ht2 (vp_in_nI ho4 (by decide)) d_R_make_110 (fun H locs hP hS => ?_)
          rw [nI_clamp (by omega)] at hP
          obtain ⟨G53, eG53⟩ : ∃ z : gw_G, z = va_up G52 (adr2 15) (some (.inl (cI, 4096, .inl (upd (ar52 15) (o) ((nI c0)))))) := ⟨_, rfl⟩
          replace hP : gw_P D vwCl (gw_A G s.heap.size) G53 H := by rw [eG53]; exact hP
          obtain ⟨ar53, ear53⟩ : ∃ z : Nat → Nat → Int32, z = va_up ar52 15 (upd (ar52 15) (o) ((nI c0))) := ⟨_, rfl⟩
          have hM53 : m_Arr cI cB cZ x w n (md + b) adr2 (nI U2) (r4) (nI (s_N σ)) (nI (s_W σ)) (nI (s_K σ)) ar53 G53 := by rw [eG53, ear53]; exact hM52.put (k := 15) (by decide) _
          refine lv_iconst (v := 0) hx hb d_R_make_111 (by decide) ?_
          refine lv_istore (lv' := [(6, .int 0), (5, .int (nI o)), (0, .ref x), (1, .int (nI kk)), (2, .int (nI a)), (3, .int (nI b)), (4, .int (nI c0))]) hx hb d_R_make_112 hl (by decide) rfl (fun ls hl => ?_)
          obtain ⟨j, ej⟩ : ∃ z : Nat, z = 0 := ⟨_, rfl⟩
          obtain ⟨f2, ef2⟩ : ∃ z : Nat, z = c0 := ⟨_, rfl⟩
          obtain ⟨G8, eG8⟩ : ∃ z : gw_G, z = G53 := ⟨_, rfl⟩
          obtain ⟨ar8, ear8⟩ : ∃ z : Nat → Nat → Int32, z = ar53 := ⟨_, rfl⟩
          have inv2 : c0 ≤ j + f2 ∧ j ≤ c0 ∧ lv_has ls 7 [(6, .int (nI j)), (5, .int (nI o)), (0, .ref x), (1, .int (nI kk)), (2, .int (nI a)), (3, .int (nI b)), (4, .int (nI c0))] ∧ gw_P D vwCl (gw_A G s.heap.size) G8 H ∧ va_S (gw_A G s.heap.size) s.heap H locs ∧ m_Arr cI cB cZ x w n (md + b) adr2 (nI U2) r4 (nI (s_N σ)) (nI (s_W σ)) (nI (s_K σ)) ar8 G8 ∧ (∀ k, k < j → ar8 16 (U2 + k) = 0) ∧ (∀ q, q < U2 → ar8 16 q = ar2 16 q) ∧ (∀ k, k ≠ 16 → ar8 k = ar53 k) := by
            refine ⟨by omega, by omega, by rw [ej]; exact lv_sub hl [0, 1, 2, 3, 4, 5, 6] rfl, by rw [eG8]; exact hP, hS, by rw [eG8, ear8]; exact hM53, fun k hk => absurd hk (by omega), fun q hq => by rw [ear8, ear53, ear52, ear51, ear49]; rfl, fun k _ => by rw [ear8]⟩
          clear hl hP hS ej ef2 eG8 ear8
          induction f2 generalizing j ls H locs G8 ar8
          case zero =>
            obtain ⟨hf2, hjc, hl, hP, hS, hM8, hz8, hlo, hkq⟩ := inv2
            refine lv_iload hx hb d_R_make_114 (lv_at hl 0 rfl) ?_
            refine lv_iload hx hb d_R_make_116 (lv_at hl 6 rfl) ?_
            refine lv_icmp_ge (tgt := 140) hx hb d_R_make_118 (by decide) (fun cj => ?_) (fun cj => ?_)
            · have hge : c0 ≤ j := (nI_leI (by omega) (by omega)).mp cj
              refine lv_aload_n hx hb d_R_make_140 rfl (lv_at hl 2 rfl) ?_
              refine lv_dup hx hb d_R_make_141 rfl ?_
              refine va_get (D := D) (ci := 5) (C := "StackRoomModel") (T := T_R) (N := 25) (v := .int (nI U2)) hx hb ht in_R hown hK.1 (hP.one hM8.1) 0 rfl rfl 18 (by decide) (ht _ fl_R_R_used) (fun _ h9 => h9) rfl d_R_make_142 ?_
              refine lv_iload hx hb d_R_make_145 (lv_at hl 6 rfl) ?_
              refine lv_iadd hx hb d_R_make_147 ?_
              refine W.eq (g2 := F0 m 148 ls [.int (nI (U2 + c0)), .ref x]) (by rw [← nI_add]) ?_
              refine gw_put (D := D) (cl := vwCl) (ci := 5) (C := "StackRoomModel") (T := T_R) (N := 25) (v := .int (nI (U2 + c0))) (ty := .int) hx hb ht in_R ty_R tk_R nm_R hown hK.1 hP hS hM8.1 rfl 18 (by decide) (ht _ fl_R_R_used) (fun _ h9 => h9) rfl (by decide +kernel) rfl rfl (Nat.le_of_ble_eq_true rfl) d_R_make_148 (fun H locs hP hS => ?_)
              obtain ⟨G64, eG64⟩ : ∃ z : gw_G, z = va_up G8 x (some (.inr (5, [.int (nI w), .int (nI n), .int (nI (md + b)), .ref (adr2 3), .ref (adr2 4), .ref (adr2 5), .ref (adr2 6), .ref (adr2 7), .ref (adr2 8), .ref (adr2 9), .ref (adr2 10), .ref (adr2 11), .ref (adr2 12), .ref (adr2 13), .ref (adr2 14), .ref (adr2 15), .ref (adr2 16), .ref (adr2 17), .int (nI (U2 + c0)), .ref (adr2 19), .ref (adr2 20), .int r4, .int (nI (s_N σ)), .int (nI (s_W σ)), .int (nI (s_K σ))]))) := ⟨_, rfl⟩
              replace hP : gw_P D vwCl (gw_A G s.heap.size) G64 H := by rw [eG64]; exact hP
              have hM64 : m_Arr cI cB cZ x w n (md + b) adr2 (nI (U2 + c0)) (r4) (nI (s_N σ)) (nI (s_W σ)) (nI (s_K σ)) ar8 G64 := by rw [eG64]; exact hM8.own (md + b) (nI (U2 + c0)) (r4) (nI (s_N σ)) (nI (s_W σ)) (nI (s_K σ))
              have rd : ∀ k, k ≠ 4 → k ≠ 5 → k ≠ 14 → k ≠ 15 → k ≠ 16 → ar8 k = ar2 k := fun k h1 h2 h3 h4 h5 => by rw [hkq k h5, ear53, va_up_ne _ _ h4, ear52, va_up_ne _ _ h3, ear51, va_up_ne _ _ h2, ear49, va_up_ne _ _ h1]
              have r4q : ar8 4 = upd (ar2 4) o (nI kk) := by rw [hkq 4 (by decide), ear53, va_up_ne _ _ (by decide), ear52, va_up_ne _ _ (by decide), ear51, va_up_ne _ _ (by decide), ear49, va_up_self]
              have r5q : ar8 5 = upd (ar2 5) o (nI (md + b)) := by rw [hkq 5 (by decide), ear53, va_up_ne _ _ (by decide), ear52, va_up_ne _ _ (by decide), ear51, va_up_self, ear49, va_up_ne _ _ (by decide)]
              have r14q : ar8 14 = upd (ar2 14) o (nI U2) := by rw [hkq 14 (by decide), ear53, va_up_ne _ _ (by decide), ear52, va_up_self, ear51, va_up_ne _ _ (by decide), ear49, va_up_ne _ _ (by decide)]
              have r15q : ar8 15 = upd (ar2 15) o (nI c0) := by rw [hkq 15 (by decide), ear53, va_up_self, ear52, va_up_ne _ _ (by decide), ear51, va_up_ne _ _ (by decide), ear49, va_up_ne _ _ (by decide)]
              have hE8 : m_Sem (s_rch σ) σ sl b2 (U2 + c0) ar8 := by
                obtain ⟨s1, s2, s3, s4, s5, s6, s7, s8, s9⟩ := hE2
                refine ⟨by rw [rd 3 (by decide) (by decide) (by decide) (by decide) (by decide)]; exact s1, fun i hi => ?_, fun i hi hk => ?_, fun i hi hc => ?_, fun i hi hk => ?_, fun i hi hc k hk => ?_, s7, s8, by omega⟩
                · rw [r4q, r5q, upd_ne _ _ (hno i hi), upd_ne _ _ (hno i hi)]; exact s2 i hi
                · rw [rd 7 (by decide) (by decide) (by decide) (by decide) (by decide), rd 8 (by decide) (by decide) (by decide) (by decide) (by decide)]; exact s3 i hi hk
                · rw [rd 9 (by decide) (by decide) (by decide) (by decide) (by decide), rd 10 (by decide) (by decide) (by decide) (by decide) (by decide), rd 11 (by decide) (by decide) (by decide) (by decide) (by decide), rd 12 (by decide) (by decide) (by decide) (by decide) (by decide), r14q, r15q, upd_ne _ _ (hno i hi), upd_ne _ _ (hno i hi)]
                  obtain ⟨t1, t2, t3, t4, t5, t6, t7⟩ := s4 i hi hc
                  exact ⟨t1, t2, t3, t4, t5, t6, by omega⟩
                · rw [rd 13 (by decide) (by decide) (by decide) (by decide) (by decide)]; exact s5 i hi hk
                · rw [hlo _ (by have := hbU i hi hc; omega)]; exact s6 i hi hc k hk
              refine lv_iload hx hb d_R_make_151 (lv_at hl 1 rfl) ?_
              exact W.iret (v := (nI o)) hx hb hr (fun t ht hW => ⟨⟨_, G64, rfl, Or.inl ⟨hfit, adr2, ar8, b2, U2, _, _, _, _, o, rfl, ho4, hM64, hE8, hno, by rw [r4q, upd_self], by rw [r5q, upd_self], by rw [r14q, upd_self], by rw [r15q, upd_self], fun k hk => hz8 k (by omega), hbU⟩, g_fin ht hP⟩, hS.F ht⟩) hS.2.2 d_R_make_153
            · have hltj : j < c0 := Nat.not_le.mp (fun z => cj ((nI_leI (by omega) (by omega)).mpr z))
              omega
          case succ f2 ih2 =>
            obtain ⟨hf2, hjc, hl, hP, hS, hM8, hz8, hlo, hkq⟩ := inv2
            refine lv_iload hx hb d_R_make_114 (lv_at hl 0 rfl) ?_
            refine lv_iload hx hb d_R_make_116 (lv_at hl 6 rfl) ?_
            refine lv_icmp_ge (tgt := 140) hx hb d_R_make_118 (by decide) (fun cj => ?_) (fun cj => ?_)
            · have hge : c0 ≤ j := (nI_leI (by omega) (by omega)).mp cj
              refine lv_aload_n hx hb d_R_make_140 rfl (lv_at hl 2 rfl) ?_
              refine lv_dup hx hb d_R_make_141 rfl ?_
              refine va_get (D := D) (ci := 5) (C := "StackRoomModel") (T := T_R) (N := 25) (v := .int (nI U2)) hx hb ht in_R hown hK.1 (hP.one hM8.1) 0 rfl rfl 18 (by decide) (ht _ fl_R_R_used) (fun _ h9 => h9) rfl d_R_make_142 ?_
              refine lv_iload hx hb d_R_make_145 (lv_at hl 6 rfl) ?_
              refine lv_iadd hx hb d_R_make_147 ?_
              refine W.eq (g2 := F0 m 148 ls [.int (nI (U2 + c0)), .ref x]) (by rw [← nI_add]) ?_
              refine gw_put (D := D) (cl := vwCl) (ci := 5) (C := "StackRoomModel") (T := T_R) (N := 25) (v := .int (nI (U2 + c0))) (ty := .int) hx hb ht in_R ty_R tk_R nm_R hown hK.1 hP hS hM8.1 rfl 18 (by decide) (ht _ fl_R_R_used) (fun _ h9 => h9) rfl (by decide +kernel) rfl rfl (Nat.le_of_ble_eq_true rfl) d_R_make_148 (fun H locs hP hS => ?_)
              obtain ⟨G75, eG75⟩ : ∃ z : gw_G, z = va_up G8 x (some (.inr (5, [.int (nI w), .int (nI n), .int (nI (md + b)), .ref (adr2 3), .ref (adr2 4), .ref (adr2 5), .ref (adr2 6), .ref (adr2 7), .ref (adr2 8), .ref (adr2 9), .ref (adr2 10), .ref (adr2 11), .ref (adr2 12), .ref (adr2 13), .ref (adr2 14), .ref (adr2 15), .ref (adr2 16), .ref (adr2 17), .int (nI (U2 + c0)), .ref (adr2 19), .ref (adr2 20), .int r4, .int (nI (s_N σ)), .int (nI (s_W σ)), .int (nI (s_K σ))]))) := ⟨_, rfl⟩
              replace hP : gw_P D vwCl (gw_A G s.heap.size) G75 H := by rw [eG75]; exact hP
              have hM75 : m_Arr cI cB cZ x w n (md + b) adr2 (nI (U2 + c0)) (r4) (nI (s_N σ)) (nI (s_W σ)) (nI (s_K σ)) ar8 G75 := by rw [eG75]; exact hM8.own (md + b) (nI (U2 + c0)) (r4) (nI (s_N σ)) (nI (s_W σ)) (nI (s_K σ))
              have rd : ∀ k, k ≠ 4 → k ≠ 5 → k ≠ 14 → k ≠ 15 → k ≠ 16 → ar8 k = ar2 k := fun k h1 h2 h3 h4 h5 => by rw [hkq k h5, ear53, va_up_ne _ _ h4, ear52, va_up_ne _ _ h3, ear51, va_up_ne _ _ h2, ear49, va_up_ne _ _ h1]
              have r4q : ar8 4 = upd (ar2 4) o (nI kk) := by rw [hkq 4 (by decide), ear53, va_up_ne _ _ (by decide), ear52, va_up_ne _ _ (by decide), ear51, va_up_ne _ _ (by decide), ear49, va_up_self]
              have r5q : ar8 5 = upd (ar2 5) o (nI (md + b)) := by rw [hkq 5 (by decide), ear53, va_up_ne _ _ (by decide), ear52, va_up_ne _ _ (by decide), ear51, va_up_self, ear49, va_up_ne _ _ (by decide)]
              have r14q : ar8 14 = upd (ar2 14) o (nI U2) := by rw [hkq 14 (by decide), ear53, va_up_ne _ _ (by decide), ear52, va_up_self, ear51, va_up_ne _ _ (by decide), ear49, va_up_ne _ _ (by decide)]
              have r15q : ar8 15 = upd (ar2 15) o (nI c0) := by rw [hkq 15 (by decide), ear53, va_up_self, ear52, va_up_ne _ _ (by decide), ear51, va_up_ne _ _ (by decide), ear49, va_up_ne _ _ (by decide)]
              have hE8 : m_Sem (s_rch σ) σ sl b2 (U2 + c0) ar8 := by
                obtain ⟨s1, s2, s3, s4, s5, s6, s7, s8, s9⟩ := hE2
                refine ⟨by rw [rd 3 (by decide) (by decide) (by decide) (by decide) (by decide)]; exact s1, fun i hi => ?_, fun i hi hk => ?_, fun i hi hc => ?_, fun i hi hk => ?_, fun i hi hc k hk => ?_, s7, s8, by omega⟩
                · rw [r4q, r5q, upd_ne _ _ (hno i hi), upd_ne _ _ (hno i hi)]; exact s2 i hi
                · rw [rd 7 (by decide) (by decide) (by decide) (by decide) (by decide), rd 8 (by decide) (by decide) (by decide) (by decide) (by decide)]; exact s3 i hi hk
                · rw [rd 9 (by decide) (by decide) (by decide) (by decide) (by decide), rd 10 (by decide) (by decide) (by decide) (by decide) (by decide), rd 11 (by decide) (by decide) (by decide) (by decide) (by decide), rd 12 (by decide) (by decide) (by decide) (by decide) (by decide), r14q, r15q, upd_ne _ _ (hno i hi), upd_ne _ _ (hno i hi)]
                  obtain ⟨t1, t2, t3, t4, t5, t6, t7⟩ := s4 i hi hc
                  exact ⟨t1, t2, t3, t4, t5, t6, by omega⟩
                · rw [rd 13 (by decide) (by decide) (by decide) (by decide) (by decide)]; exact s5 i hi hk
                · rw [hlo _ (by have := hbU i hi hc; omega)]; exact s6 i hi hc k hk
              refine lv_iload hx hb d_R_make_151 (lv_at hl 1 rfl) ?_
              exact W.iret (v := (nI o)) hx hb hr (fun t ht hW => ⟨⟨_, G75, rfl, Or.inl ⟨hfit, adr2, ar8, b2, U2, _, _, _, _, o, rfl, ho4, hM75, hE8, hno, by rw [r4q, upd_self], by rw [r5q, upd_self], by rw [r14q, upd_self], by rw [r15q, upd_self], fun k hk => hz8 k (by omega), hbU⟩, g_fin ht hP⟩, hS.F ht⟩) hS.2.2 d_R_make_153
            · have hltj : j < c0 := Nat.not_le.mp (fun z => cj ((nI_leI (by omega) (by omega)).mpr z))
              refine lv_aload_n hx hb d_R_make_121 rfl (lv_at hl 2 rfl) ?_
              refine va_get (D := D) (ci := 5) (C := "StackRoomModel") (T := T_R) (N := 25) (v := .ref (adr2 16)) hx hb ht in_R hown hK.1 (hP.one hM8.1) 0 rfl rfl 16 (by decide) (ht _ fl_R_R_fields) (fun _ h9 => h9) rfl d_R_make_122 ?_
              refine lv_aload_n hx hb d_R_make_125 rfl (lv_at hl 2 rfl) ?_
              refine va_get (D := D) (ci := 5) (C := "StackRoomModel") (T := T_R) (N := 25) (v := .int (nI U2)) hx hb ht in_R hown hK.1 (hP.one hM8.1) 0 rfl rfl 18 (by decide) (ht _ fl_R_R_used) (fun _ h9 => h9) rfl d_R_make_126 ?_
              refine lv_iload hx hb d_R_make_129 (lv_at hl 0 rfl) ?_
              refine lv_iadd hx hb d_R_make_131 ?_
              refine W.eq (g2 := F0 m 132 ls [.int (nI (U2 + j)), .ref (adr2 16)]) (by rw [← nI_add]) ?_
              refine lv_iconst (v := 0) hx hb d_R_make_132 (by decide) ?_
              refine gw_iast hx hb hK.1 hP hS 2 hM8.a16 ht2 (vp_in_nI (show U2 + j < 32768 by omega) (by decide)) d_R_make_133 (fun H locs hP hS => ?_)
              rw [nI_clamp (by omega)] at hP
              obtain ⟨G76, eG76⟩ : ∃ z : gw_G, z = va_up G8 (adr2 16) (some (.inl (cI, 32768, .inl (upd (ar8 16) (U2 + j) (0))))) := ⟨_, rfl⟩
              replace hP : gw_P D vwCl (gw_A G s.heap.size) G76 H := by rw [eG76]; exact hP
              obtain ⟨ar76, ear76⟩ : ∃ z : Nat → Nat → Int32, z = va_up ar8 16 (upd (ar8 16) (U2 + j) (0)) := ⟨_, rfl⟩
              have hM76 : m_Arr cI cB cZ x w n (md + b) adr2 (nI U2) (r4) (nI (s_N σ)) (nI (s_W σ)) (nI (s_K σ)) ar76 G76 := by rw [eG76, ear76]; exact hM8.put (k := 16) (by decide) _
              refine lv_iinc (v := nI (j + 1)) (lv' := [(6, .int (nI (j + 1))), (5, .int (nI o)), (0, .ref x), (1, .int (nI kk)), (2, .int (nI a)), (3, .int (nI b)), (4, .int (nI c0))]) hx hb d_R_make_134 hl (k := 0) rfl (by rw [← nI_1]; rfl) (by decide) rfl (fun ls hl => ?_)
              refine lv_goto (tgt := 114) hx hb d_R_make_137 (by decide) ?_
              refine ih2 _ _ _ _ _ _ ⟨by omega, by omega, lv_sub hl [0, 1, 2, 3, 4, 5, 6] rfl, hP, hS, hM76, fun k hk => ?_, fun q hq => ?_, fun k h1 => by rw [ear76, va_up_ne _ _ h1]; exact hkq k h1⟩
              · rw [ear76, va_up_self]
                by_cases e : k = j
                · rw [e, upd_self]
                · rw [upd_ne _ _ (by omega)]; exact hz8 k (by omega)
              · rw [ear76, va_up_self, upd_ne _ _ (by omega)]; exact hlo q hq
        · have hne : o ≠ of := fun e => ck (by rw [e]; exact hk0 of hof hfree)
          refine lv_iinc (v := nI (o + 1)) (lv' := [(5, .int (nI (o + 1))), (0, .ref x), (1, .int (nI kk)), (2, .int (nI a)), (3, .int (nI b)), (4, .int (nI c0))]) hx hb d_R_make_55 hl (k := 0) rfl (by rw [← nI_1]; rfl) (by decide) rfl (fun ls hl => ?_)
          refine lv_goto (tgt := 45) hx hb d_R_make_58 (by decide) ?_
          exact ih _ _ ⟨by omega, by omega, lv_sub hl [0, 1, 2, 3, 4, 5] rfl⟩
    · have hno : ¬ (a + s_W σ + 8 ≤ w ∧ b + s_N σ + 2 ≤ n) := fun q => cb ((nI_leI (by omega) (by omega)).mpr (by omega))
      refine lv_bipush (v := (-2)) hx hb d_R_make_35 (by decide) ?_
      exact W.iret (v := (-2)) hx hb hr (fun t ht hW => ⟨⟨_, G1, rfl, Or.inr ⟨hno, rfl, ar1, _, _, _, _, hM1, hE1⟩, g_fin ht hP⟩, hS.F ht⟩) hS.2.2 d_R_make_37
end K35
