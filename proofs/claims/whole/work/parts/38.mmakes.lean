theorem s_fresh {σ : sS} (hI : s_I σ) {k : Nat} (h : s_md σ < k) : s_kd σ k = 0 := Classical.byContradiction (fun e => by have := (hI.2.1 k e).2.1; omega)
theorem s_newM_rch {σ : sS} {t d r i : Nat} (h : s_rch (s_setR (s_newM σ t d) r (some (.inr (s_md σ + 2)))) i) : s_rch σ i ∨ i = s_md σ + 2 := by
  refine h (fun i => s_rch σ i ∨ i = s_md σ + 2) (fun q hq j hj => ?_) (fun j k hj hjk => ?_)
  · have hj : va_up (s_rg σ) r (some (.inr (s_md σ + 2))) q = some (.inr j) := hj
    by_cases e : q = r
    · rw [e, va_up_self] at hj
      cases hj
      exact Or.inr rfl
    · rw [va_up_ne _ _ e] at hj
      exact Or.inl (s_rch_root hq hj)
  · obtain ⟨hc, he⟩ := hjk
    have hc : va_up (s_kd σ) (s_md σ + 2) 2 j = 3 ∨ va_up (s_kd σ) (s_md σ + 2) 2 j = 4 := hc
    by_cases e : j = s_md σ + 2
    · rw [e, va_up_self] at hc
      omega
    · rw [va_up_ne _ _ e] at hc
      exact Or.inl (s_rch_edge (hj.resolve_right e) ⟨hc, he⟩)
theorem s_newX_rch {σ : sS} {kk ht rm og r i : Nat} {s : Option Nat} {de ct : Int32} (hs : ∀ j, s = some j → s_rch σ j) (hog : s_rch σ og) (h : s_rch (s_setR (s_newX σ kk s de ht rm og ct) r (some (.inr (s_md σ + 1)))) i) : s_rch σ i ∨ i = s_md σ + 1 := by
  refine h (fun i => s_rch σ i ∨ i = s_md σ + 1) (fun q hq j hj => ?_) (fun j k hj hjk => ?_)
  · have hj : va_up (s_rg σ) r (some (.inr (s_md σ + 1))) q = some (.inr j) := hj
    by_cases e : q = r
    · rw [e, va_up_self] at hj
      cases hj
      exact Or.inr rfl
    · rw [va_up_ne _ _ e] at hj
      exact Or.inl (s_rch_root hq hj)
  · obtain ⟨hc, he⟩ := hjk
    have hc : va_up (s_kd σ) (s_md σ + 1) kk j = 3 ∨ va_up (s_kd σ) (s_md σ + 1) kk j = 4 := hc
    have he : va_up (s_sn σ) (s_md σ + 1) s j = some k ∨ va_up (s_og σ) (s_md σ + 1) og j = k ∨ ∃ b, b < va_up (s_rm σ) (s_md σ + 1) rm j ∧ va_up (s_fl σ) (s_md σ + 1) (fun _ => none) j b = some (.inr k) := he
    by_cases e : j = s_md σ + 1
    · subst e
      simp only [va_up_self] at he
      rcases he with he | he | ⟨b, -, he⟩
      · exact Or.inl (hs k he)
      · exact Or.inl (he ▸ hog)
      · cases he
    · rw [va_up_ne _ _ e] at hc
      simp only [va_up_ne _ _ e] at he
      exact Or.inl (s_rch_edge (hj.resolve_right e) ⟨hc, he⟩)
theorem m_off {X : Nat → Nat → Int32} {k0 o k q : Nat} {f : Nat → Int32} {v : Int32} (hf : X k0 = f) (hq : q ≠ o) : va_up X k0 (upd f o v) k q = X k q := by
  by_cases e : k = k0
  · subst e
    rw [va_up_self, upd_ne _ _ hq, hf]
  · rw [va_up_ne _ _ e]
theorem m_9 (a b : Nat) : (9 : Int32) + nI a + nI b = nI (9 + (a + b)) := by
  rw [show (9 : Int32) = nI 9 from rfl, nI_add, nI_add, Nat.add_assoc]
theorem m_10 (a : Nat) : (10 : Int32) + nI a = nI (10 + a) := by
  rw [show (10 : Int32) = nI 10 from rfl, nI_add]
theorem p_ctx_bad {w n : Nat} {σ : sS} {r m s : Int32} (h : ¬ (0 ≤ r ∧ r ≤ 15)) : p_context w n σ r m s = (-1, σ) := by
  unfold p_context
  split
  · exact if_neg h
  · rfl
section K38
variable {cI cB cZ : ClassId} {x w n md : Nat} {adr : Nat → Nat} {us r0 r1 r2 r3 : Int32} {ar : Nat → Nat → Int32} {G : gw_G} {σ : sS} {sl bg : Nat → Nat} {U : Nat} {D : va_G} {tys : List (ClassId × FieldType)} {sz : Nat}
theorem m_newM {b2 : Nat → Nat} {U2 o t d r : Nat} {ar2 : Nat → Nat → Int32} {a : Int32} (hI : s_I σ) (h : m_Sem (s_rch σ) σ sl b2 (U2 + 0) ar2) (hno : ∀ i, s_rch σ i → sl i ≠ o) (ho : o < 4096) (n4 : ar2 4 o = nI 2) (n5 : ar2 5 o = nI (s_md σ + 2)) (hbU : ∀ i, s_rch σ i → s_isC σ i → b2 i + s_rm σ i ≤ U2) :
    m_Sem (s_rch (s_setR (s_newM σ t d) r (some (.inr (s_md σ + 2))))) (s_setR (s_newM σ t d) r (some (.inr (s_md σ + 2)))) (va_up sl (s_md σ + 2) o) (va_up b2 (s_md σ + 2) U2) (U2 + 0) (va_up (va_up (va_up (va_up ar2 6 (upd (ar2 6) o a)) 7 (upd (ar2 7) o (nI t))) 8 (upd (ar2 8) o (nI d))) 3 (upd (ar2 3) r (nI (2 * o + 2)))) := by
  have ek : s_kd (s_newM σ t d) (s_md σ + 2) = 2 := va_up_self _ _ _
  have h1 := m_Sem.new (τ := s_newM σ t d) (id := s_md σ + 2) (o := o) (c := 0) (U2 := U2) (ar2 := va_up (va_up (va_up ar2 6 (upd (ar2 6) o a)) 7 (upd (ar2 7) o (nI t))) 8 (upd (ar2 8) o (nI d))) hI h (s_fresh hI (by omega)) hno ho rfl
    (fun i hi => ⟨va_up_ne _ _ hi, va_up_ne _ _ hi, va_up_ne _ _ hi, rfl, rfl, rfl, rfl, rfl, rfl, rfl⟩)
    (fun k _ _ q hq => (m_off rfl hq).trans ((m_off rfl hq).trans (m_off rfl hq))) rfl rfl (by rw [ek]; exact n4) n5
    (fun _ => ⟨by rw [show s_tt (s_newM σ t d) (s_md σ + 2) = t from va_up_self _ _ _]; exact upd_self _ _ _, by rw [show s_dd (s_newM σ t d) (s_md σ + 2) = d from va_up_self _ _ _]; exact upd_self _ _ _⟩)
    (fun hc => by rcases hc with z | z <;> rw [ek] at z <;> omega) (fun z => by rw [ek] at z; omega) (fun hc => by rcases hc with z | z <;> rw [ek] at z <;> omega) (fun k hk => absurd hk (Nat.not_lt_zero k)) hbU
  have h2 := h1.reg r (some (.inr (s_md σ + 2)))
  rw [show m_val (va_up sl (s_md σ + 2) o) (some (.inr (s_md σ + 2))) = nI (2 * o + 2) from (by show nI (2 * va_up sl (s_md σ + 2) o (s_md σ + 2) + 2) = _; rw [va_up_self])] at h2
  exact h2.mono (fun i hi => s_newM_rch hi)
theorem m_newX {b2 : Nat → Nat} {U2 o r kk c0 ht og : Nat} {ar2 arb : Nat → Nat → Int32} {de ct : Int32} {s : Option Nat} (hI : s_I σ) (h : m_Sem (s_rch σ) σ sl b2 (U2 + c0) ar2) (hno : ∀ i, s_rch σ i → sl i ≠ o) (ho : o < 4096) (hb1 : ∀ k q, q ≠ o → arb k q = ar2 k q) (hb3 : arb 3 = ar2 3) (hb16 : arb 16 = ar2 16) (hkk : kk = 3 ∨ kk = 4) (n4 : arb 4 o = nI kk) (n5 : arb 5 o = nI (s_md σ + 1)) (n14 : arb 14 o = nI U2) (n15 : arb 15 o = nI c0) (n13 : kk = 4 → arb 13 o = ct) (hz : ∀ k, k < c0 → ar2 16 (U2 + k) = 0) (hbU : ∀ i, s_rch σ i → s_isC σ i → b2 i + s_rm σ i ≤ U2) (hs : ∀ j, s = some j → s_rch σ j) (hog : s_rch σ og) :
    m_Sem (s_rch (s_setR (s_newX σ kk s de ht c0 og ct) r (some (.inr (s_md σ + 1))))) (s_setR (s_newX σ kk s de ht c0 og ct) r (some (.inr (s_md σ + 1)))) (va_up sl (s_md σ + 1) o) (va_up b2 (s_md σ + 1) U2) (U2 + c0) (va_up (va_up (va_up (va_up (va_up arb 9 (upd (arb 9) o (m_val sl (s.map .inr)))) 10 (upd (arb 10) o de)) 11 (upd (arb 11) o (nI ht))) 12 (upd (arb 12) o (nI (sl og)))) 3 (upd (arb 3) r (nI (2 * o + 2)))) := by
  have ek : s_kd (s_newX σ kk s de ht c0 og ct) (s_md σ + 1) = kk := va_up_self _ _ _
  have e1 : s_sn (s_newX σ kk s de ht c0 og ct) (s_md σ + 1) = s := va_up_self _ _ _
  have e2 : s_de (s_newX σ kk s de ht c0 og ct) (s_md σ + 1) = de := va_up_self _ _ _
  have e3 : s_ht (s_newX σ kk s de ht c0 og ct) (s_md σ + 1) = ht := va_up_self _ _ _
  have e4 : s_rm (s_newX σ kk s de ht c0 og ct) (s_md σ + 1) = c0 := va_up_self _ _ _
  have e5 : s_og (s_newX σ kk s de ht c0 og ct) (s_md σ + 1) = og := va_up_self _ _ _
  have e6 : s_ct (s_newX σ kk s de ht c0 og ct) (s_md σ + 1) = ct := va_up_self _ _ _
  have e7 : s_fl (s_newX σ kk s de ht c0 og ct) (s_md σ + 1) = fun _ => none := va_up_self _ _ _
  have h1 := m_Sem.new (τ := s_newX σ kk s de ht c0 og ct) (id := s_md σ + 1) (o := o) (c := c0) (U2 := U2) (ar2 := va_up (va_up (va_up (va_up arb 9 (upd (arb 9) o (m_val sl (s.map .inr)))) 10 (upd (arb 10) o de)) 11 (upd (arb 11) o (nI ht))) 12 (upd (arb 12) o (nI (sl og)))) hI h (s_fresh hI (by omega)) hno ho rfl
    (fun i hi => ⟨va_up_ne _ _ hi, rfl, rfl, va_up_ne _ _ hi, va_up_ne _ _ hi, va_up_ne _ _ hi, va_up_ne _ _ hi, va_up_ne _ _ hi, va_up_ne _ _ hi, va_up_ne _ _ hi⟩)
    (fun k _ _ q hq => (m_off rfl hq).trans ((m_off rfl hq).trans ((m_off rfl hq).trans ((m_off rfl hq).trans (hb1 k q hq))))) hb3 hb16 (by rw [ek]; exact n4) n5
    (fun z => by rw [ek] at z; omega)
    (fun _ => by
      rw [e1, e2, e3, e4, e5]
      exact ⟨upd_self _ _ _, upd_self _ _ _, upd_self _ _ _, upd_self _ _ _, n14, n15, rfl, hog, hs⟩)
    (fun z => by rw [ek] at z; rw [e6]; exact n13 z) (fun _ k _ => by rw [e7]) hz hbU
  have h2 := h1.reg r (some (.inr (s_md σ + 1)))
  rw [show m_val (va_up sl (s_md σ + 1) o) (some (.inr (s_md σ + 1))) = nI (2 * o + 2) from (by show nI (2 * va_up sl (s_md σ + 1) o (s_md σ + 1) + 2) = _; rw [va_up_self])] at h2
  exact h2.mono (fun i hi => s_newX_rch hs hog hi)
set_option maxHeartbeats 4000000 in
set_option maxRecDepth 100000 in
theorem k_R_method (l : Launch) (hR0 : m_R w n cI cB cZ σ x G) (hO : s_OK w n σ) (hV : s_NV σ) (hw : 128 ≤ w ∧ w ≤ 32768) (hn : 16 ≤ n ∧ n ≤ 4096) (hm : s_md σ + 2 < 2 ^ 31) (ht2 : tys[2]? = some (cI, .int)) (ht3 : tys[3]? = some (cB, .byte)) (ht4 : tys[4]? = some (cZ, .boolean)) (r aa tt dd : Int32) : Met l y_R_method w_R_method ({ frames := 4, cells := 0, slots := 0, locals := 90 }) (g_pre D tys G sz [.ref x, .int r, .int aa, .int tt, .int dd]) (va_Qi (fun (rz : Int32) (G1 : gw_G) => rz = (p_method w n σ r aa tt dd).1 ∧ m_R w n cI cB cZ (p_method w n σ r aa tt dd).2 x G1) (g_end D G sz) (gw_A G sz)) 0 0 (gw_A G sz) := by
  refine Met.ofW (cc := b_R_method) (maxL := 6) (ret := (some .int)) (by decide) rfl ?_
  intro p e s m args below meth c s₁ B hml hv
  obtain ⟨rfl, hsz, hP, hK⟩ := hv
  have hx := B.exec
  have hb := B.bytes
  have hr := B.returns
  have ht := fun w (hw : w ∈ gt) => atoms_spec (ws := w_R_method) B.pre w (List.mem_cons_of_mem _ hw)
  have hown : s.vm.findClass "StackRoomModel" = some m.cls := findClass_of_methodNamed B.named
  have hlocks := B.notSynchronized
  have C0 : CallFix p m c b_R_method 6 s [.ref x, .int r, .int aa, .int tt, .int dd].toArray gt "StackRoomModel" := ⟨hx, hb, hml, hown, ht⟩
  subst hsz
  have hP := hP.self (sz := s.heap.size)
  have hA : ∀ q : Nat, s.heap.size ≤ q → gw_A G s.heap.size q := fun q h => Or.inr h
  have hS : va_S (gw_A G s.heap.size) s.heap s.heap [] := va_S.rf
  have hl := lv_entry ([.ref x, .int r, .int aa, .int tt, .int dd]) (n := 6) (Nat.le_of_ble_eq_true rfl)
  rw [lg_entry_eq]
  generalize (lg_sl ([.ref x, .int r, .int aa, .int tt, .int dd]) ++ List.replicate (6 - (lg_sl ([.ref x, .int r, .int aa, .int tt, .int dd])).length) Slot.unset).toArray = ls at hl ⊢
  have hl : lv_has ls 6 [(0, .ref x), (1, .int r), (2, .int aa), (3, .int tt), (4, .int dd)] := hl
  obtain ⟨adr, ar, sl, bg, U, r0, r1, r2, r3, hM, hE⟩ := hR0
  refine lv_iload_n hx hb d_R_method_0 rfl (lv_at hl 1 rfl) ?_
  refine vp_callSi (va_Run.run (r_S (rest := []) C0 [.int r] (k_R_isRegister l r) ml_R_R_isRegister st_R_isRegister ini_R co_R_isRegister hd_R_isRegister v_preS hl.1 d_R_method_1 rfl rfl (Nat.le_of_ble_eq_true rfl) ⟨rfl, rfl⟩ ⟨Nat.le_of_ble_eq_true rfl, Nat.le_of_ble_eq_true rfl⟩ ⟨Nat.le_of_ble_eq_true rfl, Nat.le_of_ble_eq_true rfl⟩)) (fun q1 eq1 => ?_)
  refine lv_if_eq (tgt := 17) hx hb d_R_method_4 (by decide) (fun c1 => ?_) (fun c1 => ?_)
  · have hreg : ¬ (0 ≤ r ∧ r ≤ 15) := fun h => absurd (eq1.symm.trans c1) (by rw [if_pos h]; decide)
    refine lv_iconst (v := (-1)) hx hb d_R_method_17 (by decide) ?_
    exact W.iret (v := (-1)) hx hb hr (fun t ht hW => ⟨⟨_, G, rfl, (by rw [show p_method w n σ r aa tt dd = (-1, σ) from (by unfold p_method; rw [if_neg (fun z => hreg z.1)])]; exact ⟨rfl, adr, ar, sl, bg, U, r0, r1, r2, r3, hM, hE⟩), g_fin ht hP⟩, hS.F ht⟩) hS.2.2 d_R_method_18
  · have hreg : 0 ≤ r ∧ r ≤ 15 := Decidable.byContradiction (fun h => c1 (eq1.trans (if_neg h)))
    refine lv_iload_n hx hb d_R_method_7 rfl (lv_at hl 2 rfl) ?_
    refine lv_iload_n hx hb d_R_method_8 rfl (lv_at hl 3 rfl) ?_
    refine lv_iload hx hb d_R_method_9 (lv_at hl 4 rfl) ?_
    refine vp_callSi (va_Run.run (r_S (rest := []) C0 [.int aa, .int tt, .int dd] (k_R_isMethod l aa tt dd) ml_R_R_isMethod st_R_isMethod ini_R co_R_isMethod hd_R_isMethod v_preS hl.1 d_R_method_11 rfl rfl (Nat.le_of_ble_eq_true rfl) ⟨rfl, rfl⟩ ⟨Nat.le_of_ble_eq_true rfl, Nat.le_of_ble_eq_true rfl⟩ ⟨Nat.le_of_ble_eq_true rfl, Nat.le_of_ble_eq_true rfl⟩)) (fun q11 eq11 => ?_)
    refine lv_if_ne (tgt := 19) hx hb d_R_method_14 (by decide) (fun c11 => ?_) (fun c11 => ?_)
    · have hnum : (0 ≤ aa ∧ aa ≤ 15) ∧ (aa ≤ tt ∧ tt ≤ 31) ∧ (0 ≤ dd ∧ dd ≤ 63) := Decidable.byContradiction (fun h => c11 (eq11.trans (if_neg h)))
      refine lv_aload_n hx hb d_R_method_19 rfl (lv_at hl 0 rfl) ?_
      refine lv_iconst (v := 2) hx hb d_R_method_20 (by decide) ?_
      refine lv_bipush (v := 10) hx hb d_R_method_21 (by decide) ?_
      refine lv_iconst (v := 2) hx hb d_R_method_23 (by decide) ?_
      refine lv_iconst (v := 0) hx hb d_R_method_24 (by decide) ?_
      refine W.eq (g2 := F0 m 25 ls [.int (nI 0), .int (nI 2), .int (nI 10), .int (nI 2), .ref x]) (rfl) ?_
      refine g_calli hP hS hA (r_V (rest := []) C0 [.int (nI 2), .int (nI 10), .int (nI 2), .int (nI 0)] (k_R_make l hM hE hO hV hw.2 hn.2 ht2 ht3 ht4 (kk := 2) (a := 10) (b := 2) (c0 := 0) (Or.inl rfl) (by decide) (by decide) (by decide)) ml_R_R_make im_R_make se_R_R_make_R ini_R co_R_make ⟨rfl, hd_R_make⟩ (g_preV (ci := 5) hK hP rfl hM.1) hl.1 d_R_method_25 rfl rfl (Nat.le_of_ble_eq_true rfl) ⟨rfl, rfl⟩ ⟨Nat.le_of_ble_eq_true rfl, Nat.le_of_ble_eq_true rfl⟩ ⟨Nat.le_of_ble_eq_true rfl, Nat.le_of_ble_eq_true rfl⟩) (fun qz G1 H locs hq hP hS hz9 hk9 => ?_)
      rcases hq with ⟨hfit, adr2, ar2, b2, U2, r4, r5, r6, r7, o, rfl, ho, hM2, hE2, hno, n4, n5, n14, n15, nz, hbU⟩ | ⟨hfit, rfl, ar2, r4, r5, r6, r7, hM2, hE2⟩
      · refine lv_istore (lv' := [(5, .int (nI o)), (0, .ref x), (1, .int r), (2, .int aa), (3, .int tt), (4, .int dd)]) hx hb d_R_method_28 hl (by decide) rfl (fun ls hl => ?_)
        refine lv_iload hx hb d_R_method_30 (lv_at hl 0 rfl) ?_
        refine lv_if_ge (tgt := 38) hx hb d_R_method_32 (by decide) (fun _ => ?_) (fun z => absurd (nI_pos' (by omega)) z)
        refine lv_aload_n hx hb d_R_method_38 rfl (lv_at hl 1 rfl) ?_
        refine lv_iload hx hb d_R_method_39 (lv_at hl 0 rfl) ?_
        refine lv_iload_n hx hb d_R_method_41 rfl (lv_at hl 3 rfl) ?_
        refine lv_iload_n hx hb d_R_method_42 rfl (lv_at hl 4 rfl) ?_
        refine lv_iload hx hb d_R_method_43 (lv_at hl 5 rfl) ?_
        refine g_callv hP hS hA (r_V (rest := []) C0 [.int (nI o), .int aa, .int tt, .int dd] (k_R_give l hM2 ht2 ht3 ht4 ho aa tt dd) ml_R_R_give im_R_give se_R_R_give_R ini_R co_R_give ⟨rfl, hd_R_give⟩ (g_preV (ci := 5) hK hP rfl hM2.1) hl.1 d_R_method_45 rfl rfl (Nat.le_of_ble_eq_true rfl) ⟨rfl, rfl⟩ ⟨Nat.le_of_ble_eq_true rfl, Nat.le_of_ble_eq_true rfl⟩ ⟨Nat.le_of_ble_eq_true rfl, Nat.le_of_ble_eq_true rfl⟩) (fun G2 H locs hM3 hP hS hz9 hk9 => ?_)
        have ht9 : 0 ≤ tt := Int32.le_trans hnum.1.1 hnum.2.1.1
        obtain ⟨ar3, ear3⟩ : ∃ z : Nat → Nat → Int32, z = va_up (va_up (va_up ar2 6 (upd (ar2 6) o aa)) 7 (upd (ar2 7) o tt)) 8 (upd (ar2 8) o dd) := ⟨_, rfl⟩
        rw [← ear3] at hM3
        refine lv_aload_n hx hb d_R_method_48 rfl (lv_at hl 1 rfl) ?_
        refine va_get (D := D) (ci := 5) (C := "StackRoomModel") (T := T_R) (N := 25) (v := .ref (adr2 3)) hx hb ht in_R hown hK.1 (hP.one hM3.1) 0 rfl rfl 3 (by decide) (ht _ fl_R_R_registers) (fun _ h9 => h9) rfl d_R_method_49 ?_
        refine lv_iload_n hx hb d_R_method_52 rfl (lv_at hl 2 rfl) ?_
        refine lv_iconst (v := 2) hx hb d_R_method_53 (by decide) ?_
        refine lv_iload hx hb d_R_method_54 (lv_at hl 0 rfl) ?_
        refine lv_imul hx hb d_R_method_56 ?_
        refine lv_iconst (v := 2) hx hb d_R_method_57 (by decide) ?_
        refine lv_iadd hx hb d_R_method_58 ?_
        refine W.eq (g2 := F0 m 59 ls [.int (nI (2 * o + 2)), .int r, .ref (adr2 3)]) (by rw [m_lnk]) ?_
        refine gw_iast hx hb hK.1 hP hS 2 hM3.a3 ht2 (m_rin hreg) d_R_method_59 (fun H locs hP hS => ?_)
        obtain ⟨G21, eG21⟩ : ∃ z : gw_G, z = va_up G2 (adr2 3) (some (.inl (cI, 16, .inl (upd (ar3 3) (r.toNatClampNeg) (nI (2 * o + 2)))))) := ⟨_, rfl⟩
        replace hP : gw_P D vwCl (gw_A G s.heap.size) G21 H := by rw [eG21]; exact hP
        obtain ⟨ar21, ear21⟩ : ∃ z : Nat → Nat → Int32, z = va_up ar3 3 (upd (ar3 3) (r.toNatClampNeg) (nI (2 * o + 2))) := ⟨_, rfl⟩
        have hM21 : m_Arr cI cB cZ x w n (s_md σ + 2) adr2 (nI (U2 + 0)) (r4) (r5) (r6) (r7) ar21 G21 := by rw [eG21, ear21]; exact hM3.put (k := 3) (by decide) _
        refine lv_aload_n hx hb d_R_method_60 rfl (lv_at hl 1 rfl) ?_
        refine va_get (D := D) (ci := 5) (C := "StackRoomModel") (T := T_R) (N := 25) (v := .ref (adr2 5)) hx hb ht in_R hown hK.1 (hP.one hM21.1) 0 rfl rfl 5 (by decide) (ht _ fl_R_R_identities) (fun _ h9 => h9) rfl d_R_method_61 ?_
        refine lv_iload hx hb d_R_method_64 (lv_at hl 0 rfl) ?_
        refine va_iald hx hb hK.1 (hP.one hM21.a5) 0 2 rfl ht2 (vp_in_nI ho (by decide)) d_R_method_66 ?_
        rw [nI_clamp (by omega)]
        rw [show ar21 5 o = nI (s_md σ + 2) from (by rw [ear21, ear3]; exact n5)]
        have hE9 := m_newM (a := aa) (t := tt.toNatClampNeg) (d := dd.toNatClampNeg) (r := r.toNatClampNeg) hO.1 hE2 hno ho n4 n5 hbU
        rw [s_clampI ht9, s_clampI hnum.2.2.1] at hE9
        have hM9 := hM21
        rw [ear21, ear3] at hM9
        exact W.iret (v := (nI (s_md σ + 2))) hx hb hr (fun t ht hW => ⟨⟨_, G21, rfl, (by rw [show p_method w n σ r aa tt dd = (nI (s_md σ + 2), s_put (s_newM σ tt.toNatClampNeg dd.toNatClampNeg) r (some (.inr (s_md σ + 2)))) from (by unfold p_method; rw [if_pos ⟨hreg, hnum⟩, if_pos hfit])]; exact ⟨rfl, adr2, _, _, _, U2 + 0, _, _, _, _, hM9, hE9⟩), g_fin ht hP⟩, hS.F ht⟩) hS.2.2 d_R_method_67
      · refine lv_istore (lv' := [(5, .int (-2)), (0, .ref x), (1, .int r), (2, .int aa), (3, .int tt), (4, .int dd)]) hx hb d_R_method_28 hl (by decide) rfl (fun ls hl => ?_)
        refine lv_iload hx hb d_R_method_30 (lv_at hl 0 rfl) ?_
        refine lv_if_ge (tgt := 38) hx hb d_R_method_32 (by decide) (fun z => absurd z (by decide)) (fun _ => ?_)
        refine lv_bipush (v := (-2)) hx hb d_R_method_35 (by decide) ?_
        exact W.iret (v := (-2)) hx hb hr (fun t ht hW => ⟨⟨_, G1, rfl, (by rw [show p_method w n σ r aa tt dd = (-2, σ) from (by unfold p_method; rw [if_pos ⟨hreg, hnum⟩, if_neg hfit])]; exact ⟨rfl, adr, ar2, sl, bg, U, _, _, _, _, hM2, hE2⟩), g_fin ht hP⟩, hS.F ht⟩) hS.2.2 d_R_method_37
    · have hnum : ¬ ((0 ≤ aa ∧ aa ≤ 15) ∧ (aa ≤ tt ∧ tt ≤ 31) ∧ (0 ≤ dd ∧ dd ≤ 63)) := fun h => absurd (eq11.symm.trans c11) (by rw [if_pos h]; decide)
      refine lv_iconst (v := (-1)) hx hb d_R_method_17 (by decide) ?_
      exact W.iret (v := (-1)) hx hb hr (fun t ht hW => ⟨⟨_, G, rfl, (by rw [show p_method w n σ r aa tt dd = (-1, σ) from (by unfold p_method; rw [if_neg (fun z => hnum z.2)])]; exact ⟨rfl, adr, ar, sl, bg, U, r0, r1, r2, r3, hM, hE⟩), g_fin ht hP⟩, hS.F ht⟩) hS.2.2 d_R_method_18
set_option maxHeartbeats 4000000 in
set_option maxRecDepth 100000 in
theorem k_R_context (l : Launch) (hR0 : m_R w n cI cB cZ σ x G) (hO : s_OK w n σ) (hV : s_NV σ) (hw : 128 ≤ w ∧ w ≤ 32768) (hn : 16 ≤ n ∧ n ≤ 4096) (hm : s_md σ + 2 < 2 ^ 31) (ht2 : tys[2]? = some (cI, .int)) (ht3 : tys[3]? = some (cB, .byte)) (ht4 : tys[4]? = some (cZ, .boolean)) (r mr sr : Int32) : Met l y_R_context w_R_context ({ frames := 4, cells := 0, slots := 0, locals := 90 }) (g_pre D tys G sz [.ref x, .int r, .int mr, .int sr]) (va_Qi (fun (rz : Int32) (G1 : gw_G) => rz = (p_context w n σ r mr sr).1 ∧ m_R w n cI cB cZ (p_context w n σ r mr sr).2 x G1) (g_end D G sz) (gw_A G sz)) 0 0 (gw_A G sz) := by
  refine Met.ofW (cc := b_R_context) (maxL := 8) (ret := (some .int)) (by decide) rfl ?_
  intro p e s m args below meth c s₁ B hml hv
  obtain ⟨rfl, hsz, hP, hK⟩ := hv
  have hx := B.exec
  have hb := B.bytes
  have hr := B.returns
  have ht := fun w (hw : w ∈ gt) => atoms_spec (ws := w_R_context) B.pre w (List.mem_cons_of_mem _ hw)
  have hown : s.vm.findClass "StackRoomModel" = some m.cls := findClass_of_methodNamed B.named
  have hlocks := B.notSynchronized
  have C0 : CallFix p m c b_R_context 8 s [.ref x, .int r, .int mr, .int sr].toArray gt "StackRoomModel" := ⟨hx, hb, hml, hown, ht⟩
  subst hsz
  have hP := hP.self (sz := s.heap.size)
  have hA : ∀ q : Nat, s.heap.size ≤ q → gw_A G s.heap.size q := fun q h => Or.inr h
  have hS : va_S (gw_A G s.heap.size) s.heap s.heap [] := va_S.rf
  have hl := lv_entry ([.ref x, .int r, .int mr, .int sr]) (n := 8) (Nat.le_of_ble_eq_true rfl)
  rw [lg_entry_eq]
  generalize (lg_sl ([.ref x, .int r, .int mr, .int sr]) ++ List.replicate (8 - (lg_sl ([.ref x, .int r, .int mr, .int sr])).length) Slot.unset).toArray = ls at hl ⊢
  have hl : lv_has ls 8 [(0, .ref x), (1, .int r), (2, .int mr), (3, .int sr)] := hl
  obtain ⟨adr, ar, sl, bg, U, r0, r1, r2, r3, hM, hE⟩ := hR0
  refine lv_aload_n hx hb d_R_context_0 rfl (lv_at hl 0 rfl) ?_
  refine lv_iload_n hx hb d_R_context_1 rfl (lv_at hl 2 rfl) ?_
  refine lv_iconst (v := 2) hx hb d_R_context_2 (by decide) ?_
  refine lv_iconst (v := 2) hx hb d_R_context_3 (by decide) ?_
  refine vp_callSi (va_Run.run (r_V (rest := []) C0 [.int mr, .int 2, .int 2] (k_R_objectIn l hM hE hO.1 hV ht2 ht3 ht4 mr 2 2) ml_R_R_objectIn im_R_objectIn se_R_R_objectIn_R ini_R co_R_objectIn ⟨rfl, hd_R_objectIn⟩ (g_preV (ci := 5) hK hP rfl hM.1) hl.1 d_R_context_4 rfl rfl (Nat.le_of_ble_eq_true rfl) ⟨rfl, rfl⟩ ⟨Nat.le_of_ble_eq_true rfl, Nat.le_of_ble_eq_true rfl⟩ ⟨Nat.le_of_ble_eq_true rfl, Nat.le_of_ble_eq_true rfl⟩)) (fun qc ec => ?_)
  rw [m_oi_m hO.1] at ec
  subst ec
  rcases hmi : s_mi σ mr with _ | i
  · refine W.eq (g2 := F0 m 7 ls [.int (-1)]) (rfl) ?_
    refine lv_istore (lv' := [(4, .int (-1)), (0, .ref x), (1, .int r), (2, .int mr), (3, .int sr)]) hx hb d_R_context_7 hl (by decide) rfl (fun ls hl => ?_)
    refine lv_iload_n hx hb d_R_context_9 rfl (lv_at hl 2 rfl) ?_
    refine vp_callSi (va_Run.run (r_S (rest := []) C0 [.int r] (k_R_isRegister l r) ml_R_R_isRegister st_R_isRegister ini_R co_R_isRegister hd_R_isRegister v_preS hl.1 d_R_context_10 rfl rfl (Nat.le_of_ble_eq_true rfl) ⟨rfl, rfl⟩ ⟨Nat.le_of_ble_eq_true rfl, Nat.le_of_ble_eq_true rfl⟩ ⟨Nat.le_of_ble_eq_true rfl, Nat.le_of_ble_eq_true rfl⟩)) (fun q10 eq10 => ?_)
    refine lv_if_eq (tgt := 29) hx hb d_R_context_13 (by decide) (fun c10 => ?_) (fun c10 => ?_)
    · have hreg : ¬ (0 ≤ r ∧ r ≤ 15) := fun h => absurd (eq10.symm.trans c10) (by rw [if_pos h]; decide)
      refine lv_iconst (v := (-1)) hx hb d_R_context_29 (by decide) ?_
      exact W.iret (v := (-1)) hx hb hr (fun t ht hW => ⟨⟨_, G, rfl, (by rw [show p_context w n σ r mr sr = (-1, σ) from (p_ctx_bad hreg)]; exact ⟨rfl, adr, ar, sl, bg, U, r0, r1, r2, r3, hM, hE⟩), g_fin ht hP⟩, hS.F ht⟩) hS.2.2 d_R_context_30
    · have hreg : 0 ≤ r ∧ r ≤ 15 := Decidable.byContradiction (fun h => c10 (eq10.trans (if_neg h)))
      refine lv_iload hx hb d_R_context_16 (lv_at hl 0 rfl) ?_
      refine lv_if_lt (tgt := 29) hx hb d_R_context_18 (by decide) (fun _ => ?_) (fun z => absurd (by decide) z)
      refine lv_iconst (v := (-1)) hx hb d_R_context_29 (by decide) ?_
      exact W.iret (v := (-1)) hx hb hr (fun t ht hW => ⟨⟨_, G, rfl, (by rw [show p_context w n σ r mr sr = (-1, σ) from (by simp only [p_context, hmi])]; exact ⟨rfl, adr, ar, sl, bg, U, r0, r1, r2, r3, hM, hE⟩), g_fin ht hP⟩, hS.F ht⟩) hS.2.2 d_R_context_30
  · refine W.eq (g2 := F0 m 7 ls [.int (nI (sl i))]) (rfl) ?_
    have hk2 := (s_mi_some hmi).2.2
    have hri := s_mi_rch hmi
    obtain ⟨hs, hk4, hk5⟩ := hE.2.1 i hri
    obtain ⟨q7, q8⟩ := hE.2.2.1 i hri hk2
    have hU := hE.2.2.2.2.2.2.2.2
    refine lv_istore (lv' := [(4, .int (nI (sl i))), (0, .ref x), (1, .int r), (2, .int mr), (3, .int sr)]) hx hb d_R_context_7 hl (by decide) rfl (fun ls hl => ?_)
    refine lv_iload_n hx hb d_R_context_9 rfl (lv_at hl 2 rfl) ?_
    refine vp_callSi (va_Run.run (r_S (rest := []) C0 [.int r] (k_R_isRegister l r) ml_R_R_isRegister st_R_isRegister ini_R co_R_isRegister hd_R_isRegister v_preS hl.1 d_R_context_10 rfl rfl (Nat.le_of_ble_eq_true rfl) ⟨rfl, rfl⟩ ⟨Nat.le_of_ble_eq_true rfl, Nat.le_of_ble_eq_true rfl⟩ ⟨Nat.le_of_ble_eq_true rfl, Nat.le_of_ble_eq_true rfl⟩)) (fun q10 eq10 => ?_)
    refine lv_if_eq (tgt := 29) hx hb d_R_context_13 (by decide) (fun c10 => ?_) (fun c10 => ?_)
    · have hreg : ¬ (0 ≤ r ∧ r ≤ 15) := fun h => absurd (eq10.symm.trans c10) (by rw [if_pos h]; decide)
      refine lv_iconst (v := (-1)) hx hb d_R_context_29 (by decide) ?_
      exact W.iret (v := (-1)) hx hb hr (fun t ht hW => ⟨⟨_, G, rfl, (by rw [show p_context w n σ r mr sr = (-1, σ) from (p_ctx_bad hreg)]; exact ⟨rfl, adr, ar, sl, bg, U, r0, r1, r2, r3, hM, hE⟩), g_fin ht hP⟩, hS.F ht⟩) hS.2.2 d_R_context_30
    · have hreg : 0 ≤ r ∧ r ≤ 15 := Decidable.byContradiction (fun h => c10 (eq10.trans (if_neg h)))
      refine lv_iload hx hb d_R_context_16 (lv_at hl 0 rfl) ?_
      refine lv_if_lt (tgt := 29) hx hb d_R_context_18 (by decide) (fun z => absurd z (nI_pos (by omega))) (fun _ => ?_)
      refine lv_aload_n hx hb d_R_context_21 rfl (lv_at hl 1 rfl) ?_
      refine lv_iload_n hx hb d_R_context_22 rfl (lv_at hl 4 rfl) ?_
      refine vp_callSi (va_Run.run (r_V (rest := []) C0 [.int sr] (k_R_isNilOrContext l hM hE hO.1 hV ht2 ht3 ht4 sr) ml_R_R_isNilOrContext im_R_isNilOrContext se_R_R_isNilOrContext_R ini_R co_R_isNilOrContext ⟨rfl, hd_R_isNilOrContext⟩ (g_preV (ci := 5) hK hP rfl hM.1) hl.1 d_R_context_23 rfl rfl (Nat.le_of_ble_eq_true rfl) ⟨rfl, rfl⟩ ⟨Nat.le_of_ble_eq_true rfl, Nat.le_of_ble_eq_true rfl⟩ ⟨Nat.le_of_ble_eq_true rfl, Nat.le_of_ble_eq_true rfl⟩)) (fun q23 eq23 => ?_)
      refine lv_if_ne (tgt := 31) hx hb d_R_context_26 (by decide) (fun c23 => ?_) (fun c23 => ?_)
      · have hsi : (s_si σ sr).isSome = true := Decidable.byContradiction (fun h => c23 (eq23.trans (if_neg h)))
        obtain ⟨so, hso⟩ := Option.isSome_iff_exists.mp hsi
        have hss := s_si_some hso
        have eg : s_rg σ sr.toNatClampNeg = so.map .inr := by
          rcases hss.2 with ⟨e1, e2⟩ | ⟨j, e1, e2, e3⟩
          · rw [e1]; exact e2
          · rw [e1]; exact e2
        have hbt := hO.1.2.2.2.1 i hk2
        refine lv_aload_n hx hb d_R_context_31 rfl (lv_at hl 1 rfl) ?_
        refine va_get (D := D) (ci := 5) (C := "StackRoomModel") (T := T_R) (N := 25) (v := .ref (adr 7)) hx hb ht in_R hown hK.1 (hP.one hM.1) 0 rfl rfl 7 (by decide) (ht _ fl_R_R_temporaries) (fun _ h9 => h9) rfl d_R_context_32 ?_
        refine lv_iload hx hb d_R_context_35 (lv_at hl 0 rfl) ?_
        refine va_iald hx hb hK.1 (hP.one hM.a7) 0 2 rfl ht2 (vp_in_nI hs (by decide)) d_R_context_37 ?_
        rw [nI_clamp (by omega)]
        rw [q7]
        refine lv_istore (lv' := [(5, .int (nI (s_tt σ i))), (4, .int (nI (sl i))), (0, .ref x), (1, .int r), (2, .int mr), (3, .int sr)]) hx hb d_R_context_38 hl (by decide) rfl (fun ls hl => ?_)
        refine lv_aload_n hx hb d_R_context_40 rfl (lv_at hl 2 rfl) ?_
        refine va_get (D := D) (ci := 5) (C := "StackRoomModel") (T := T_R) (N := 25) (v := .ref (adr 8)) hx hb ht in_R hown hK.1 (hP.one hM.1) 0 rfl rfl 8 (by decide) (ht _ fl_R_R_depths) (fun _ h9 => h9) rfl d_R_context_41 ?_
        refine lv_iload hx hb d_R_context_44 (lv_at hl 1 rfl) ?_
        refine va_iald hx hb hK.1 (hP.one hM.a8) 0 2 rfl ht2 (vp_in_nI hs (by decide)) d_R_context_46 ?_
        rw [nI_clamp (by omega)]
        rw [q8]
        refine lv_istore (lv' := [(6, .int (nI (s_dd σ i))), (5, .int (nI (s_tt σ i))), (4, .int (nI (sl i))), (0, .ref x), (1, .int r), (2, .int mr), (3, .int sr)]) hx hb d_R_context_47 hl (by decide) rfl (fun ls hl => ?_)
        refine lv_aload_n hx hb d_R_context_49 rfl (lv_at hl 3 rfl) ?_
        refine lv_iconst (v := 3) hx hb d_R_context_50 (by decide) ?_
        refine lv_bipush (v := 9) hx hb d_R_context_51 (by decide) ?_
        refine lv_iload hx hb d_R_context_53 (lv_at hl 1 rfl) ?_
        refine lv_iadd hx hb d_R_context_55 ?_
        refine lv_iload hx hb d_R_context_56 (lv_at hl 0 rfl) ?_
        refine lv_iadd hx hb d_R_context_58 ?_
        refine lv_iconst (v := 1) hx hb d_R_context_59 (by decide) ?_
        refine lv_iload hx hb d_R_context_60 (lv_at hl 1 rfl) ?_
        refine lv_iload hx hb d_R_context_62 (lv_at hl 0 rfl) ?_
        refine lv_iadd hx hb d_R_context_64 ?_
        refine W.eq (g2 := F0 m 65 ls [.int (nI (s_tt σ i + s_dd σ i)), .int (nI 1), .int (nI (9 + (s_tt σ i + s_dd σ i))), .int (nI 3), .ref x]) (by rw [m_9, nI_add] <;> rfl) ?_
        refine g_calli hP hS hA (r_V (rest := []) C0 [.int (nI 3), .int (nI (9 + (s_tt σ i + s_dd σ i))), .int (nI 1), .int (nI (s_tt σ i + s_dd σ i))] (k_R_make l hM hE hO hV hw.2 hn.2 ht2 ht3 ht4 (kk := 3) (a := 9 + (s_tt σ i + s_dd σ i)) (b := 1) (c0 := s_tt σ i + s_dd σ i) (Or.inr (Or.inl rfl)) (by omega) (by decide) (by omega)) ml_R_R_make im_R_make se_R_R_make_R ini_R co_R_make ⟨rfl, hd_R_make⟩ (g_preV (ci := 5) hK hP rfl hM.1) hl.1 d_R_context_65 rfl rfl (Nat.le_of_ble_eq_true rfl) ⟨rfl, rfl⟩ ⟨Nat.le_of_ble_eq_true rfl, Nat.le_of_ble_eq_true rfl⟩ ⟨Nat.le_of_ble_eq_true rfl, Nat.le_of_ble_eq_true rfl⟩) (fun qz G1 H locs hq hP hS hz9 hk9 => ?_)
        rcases hq with ⟨hfit, adr2, ar2, b2, U2, r4, r5, r6, r7, o, rfl, ho, hM2, hE2, hno, n4, n5, n14, n15, nz, hbU⟩ | ⟨hfit, rfl, ar2, r4, r5, r6, r7, hM2, hE2⟩
        · refine lv_istore (lv' := [(7, .int (nI o)), (6, .int (nI (s_dd σ i))), (5, .int (nI (s_tt σ i))), (4, .int (nI (sl i))), (0, .ref x), (1, .int r), (2, .int mr), (3, .int sr)]) hx hb d_R_context_68 hl (by decide) rfl (fun ls hl => ?_)
          refine lv_iload hx hb d_R_context_70 (lv_at hl 0 rfl) ?_
          refine lv_if_ge (tgt := 80) hx hb d_R_context_72 (by decide) (fun _ => ?_) (fun z => absurd (nI_pos' (by omega)) z)
          refine lv_aload_n hx hb d_R_context_80 rfl (lv_at hl 4 rfl) ?_
          refine lv_iload_n hx hb d_R_context_81 rfl (lv_at hl 5 rfl) ?_
          refine lv_iload hx hb d_R_context_82 (lv_at hl 0 rfl) ?_
          refine lv_aload_n hx hb d_R_context_84 rfl (lv_at hl 4 rfl) ?_
          refine va_get (D := D) (ci := 5) (C := "StackRoomModel") (T := T_R) (N := 25) (v := .ref (adr2 3)) hx hb ht in_R hown hK.1 (hP.one hM2.1) 0 rfl rfl 3 (by decide) (ht _ fl_R_R_registers) (fun _ h9 => h9) rfl d_R_context_85 ?_
          refine lv_iload_n hx hb d_R_context_88 rfl (lv_at hl 7 rfl) ?_
          refine va_iald hx hb hK.1 (hP.one hM2.a3) 0 2 rfl ht2 (m_rin hss.1) d_R_context_89 ?_
          rw [hE2.1 _ (s_reg hss.1), eg]
          refine lv_iconst (v := 0) hx hb d_R_context_90 (by decide) ?_
          refine lv_iload hx hb d_R_context_91 (lv_at hl 2 rfl) ?_
          refine lv_iload hx hb d_R_context_93 (lv_at hl 3 rfl) ?_
          refine g_calli hP hS hA (r_V (rest := []) C0 [.int r, .int (nI o), .int (m_val sl (so.map .inr)), .int 0, .int (nI (s_tt σ i)), .int (nI (sl i))] (k_R_settle l hM2 ht2 ht3 ht4 ho (r := r) (sd := m_val sl (so.map .inr)) (d := 0) (hh := nI (s_tt σ i)) (lk := nI (sl i)) hreg (Or.inl rfl)) ml_R_R_settle im_R_settle se_R_R_settle_R ini_R co_R_settle ⟨rfl, hd_R_settle⟩ (g_preV (ci := 5) hK hP rfl hM2.1) hl.1 d_R_context_95 rfl rfl (Nat.le_of_ble_eq_true rfl) ⟨rfl, rfl⟩ ⟨Nat.le_of_ble_eq_true rfl, Nat.le_of_ble_eq_true rfl⟩ ⟨Nat.le_of_ble_eq_true rfl, Nat.le_of_ble_eq_true rfl⟩) (fun q2 G2 H locs hq2 hP hS hz9 hk9 => ?_)
          obtain ⟨rfl, hM3⟩ := hq2
          rw [n5]
          have hE9 := m_newX (arb := ar2) (kk := 3) (de := 0) (ct := 0) (ht := s_tt σ i) (og := i) (s := so) (r := r.toNatClampNeg) hO.1 hE2 hno ho (fun _ _ _ => rfl) rfl rfl (Or.inl rfl) n4 n5 n14 n15 (fun z => absurd z (by decide)) nz hbU (fun j e => s_get_rch hss.1 (show s_rg σ sr.toNatClampNeg = some (.inr j) by rw [eg, e]; rfl)) hri
          exact W.iret (v := (nI (s_md σ + 1))) hx hb hr (fun t ht hW => ⟨⟨_, G2, rfl, (by rw [show p_context w n σ r mr sr = (nI (s_md σ + 1), s_put (s_newX σ 3 so 0 (s_tt σ i) (s_tt σ i + s_dd σ i) i 0) r (some (.inr (s_md σ + 1)))) from (by simp only [p_context, hmi, hso]; rw [if_pos hreg, if_pos hfit])]; exact ⟨rfl, adr2, _, _, _, U2 + (s_tt σ i + s_dd σ i), _, _, _, _, hM3, hE9⟩), g_fin ht hP⟩, hS.F ht⟩) hS.2.2 d_R_context_98
        · refine lv_istore (lv' := [(7, .int (-2)), (6, .int (nI (s_dd σ i))), (5, .int (nI (s_tt σ i))), (4, .int (nI (sl i))), (0, .ref x), (1, .int r), (2, .int mr), (3, .int sr)]) hx hb d_R_context_68 hl (by decide) rfl (fun ls hl => ?_)
          refine lv_iload hx hb d_R_context_70 (lv_at hl 0 rfl) ?_
          refine lv_if_ge (tgt := 80) hx hb d_R_context_72 (by decide) (fun z => absurd z (by decide)) (fun _ => ?_)
          refine lv_bipush (v := (-2)) hx hb d_R_context_75 (by decide) ?_
          refine lv_goto (tgt := 98) hx hb d_R_context_77 (by decide) ?_
          exact W.iret (v := (-2)) hx hb hr (fun t ht hW => ⟨⟨_, G1, rfl, (by rw [show p_context w n σ r mr sr = (-2, σ) from (by simp only [p_context, hmi, hso]; rw [if_pos hreg, if_neg hfit])]; exact ⟨rfl, adr, ar2, sl, bg, U, _, _, _, _, hM2, hE2⟩), g_fin ht hP⟩, hS.F ht⟩) hS.2.2 d_R_context_98
      · have hsi : ¬ ((s_si σ sr).isSome = true) := fun h => absurd (eq23.symm.trans c23) (by rw [if_pos h]; decide)
        have hsn : s_si σ sr = none := Option.not_isSome_iff_eq_none.mp hsi
        refine lv_iconst (v := (-1)) hx hb d_R_context_29 (by decide) ?_
        exact W.iret (v := (-1)) hx hb hr (fun t ht hW => ⟨⟨_, G, rfl, (by rw [show p_context w n σ r mr sr = (-1, σ) from (by simp only [p_context, hmi, hsn])]; exact ⟨rfl, adr, ar, sl, bg, U, r0, r1, r2, r3, hM, hE⟩), g_fin ht hP⟩, hS.F ht⟩) hS.2.2 d_R_context_30
set_option maxHeartbeats 4000000 in
set_option maxRecDepth 100000 in
theorem k_R_block (l : Launch) (hR0 : m_R w n cI cB cZ σ x G) (hO : s_OK w n σ) (hV : s_NV σ) (hw : 128 ≤ w ∧ w ≤ 32768) (hn : 16 ≤ n ∧ n ≤ 4096) (hm : s_md σ + 2 < 2 ^ 31) (ht2 : tys[2]? = some (cI, .int)) (ht3 : tys[3]? = some (cB, .byte)) (ht4 : tys[4]? = some (cZ, .boolean)) (r cx kc : Int32) : Met l y_R_block w_R_block ({ frames := 4, cells := 0, slots := 0, locals := 90 }) (g_pre D tys G sz [.ref x, .int r, .int cx, .int kc]) (va_Qi (fun (rz : Int32) (G1 : gw_G) => rz = (p_block w n σ r cx kc).1 ∧ m_R w n cI cB cZ (p_block w n σ r cx kc).2 x G1) (g_end D G sz) (gw_A G sz)) 0 0 (gw_A G sz) := by
  refine Met.ofW (cc := b_R_block) (maxL := 8) (ret := (some .int)) (by decide) rfl ?_
  intro p e s m args below meth c s₁ B hml hv
  obtain ⟨rfl, hsz, hP, hK⟩ := hv
  have hx := B.exec
  have hb := B.bytes
  have hr := B.returns
  have ht := fun w (hw : w ∈ gt) => atoms_spec (ws := w_R_block) B.pre w (List.mem_cons_of_mem _ hw)
  have hown : s.vm.findClass "StackRoomModel" = some m.cls := findClass_of_methodNamed B.named
  have hlocks := B.notSynchronized
  have C0 : CallFix p m c b_R_block 8 s [.ref x, .int r, .int cx, .int kc].toArray gt "StackRoomModel" := ⟨hx, hb, hml, hown, ht⟩
  subst hsz
  have hP := hP.self (sz := s.heap.size)
  have hA : ∀ q : Nat, s.heap.size ≤ q → gw_A G s.heap.size q := fun q h => Or.inr h
  have hS : va_S (gw_A G s.heap.size) s.heap s.heap [] := va_S.rf
  have hl := lv_entry ([.ref x, .int r, .int cx, .int kc]) (n := 8) (Nat.le_of_ble_eq_true rfl)
  rw [lg_entry_eq]
  generalize (lg_sl ([.ref x, .int r, .int cx, .int kc]) ++ List.replicate (8 - (lg_sl ([.ref x, .int r, .int cx, .int kc])).length) Slot.unset).toArray = ls at hl ⊢
  have hl : lv_has ls 8 [(0, .ref x), (1, .int r), (2, .int cx), (3, .int kc)] := hl
  obtain ⟨adr, ar, sl, bg, U, r0, r1, r2, r3, hM, hE⟩ := hR0
  refine lv_aload_n hx hb d_R_block_0 rfl (lv_at hl 0 rfl) ?_
  refine lv_iload_n hx hb d_R_block_1 rfl (lv_at hl 2 rfl) ?_
  refine vp_callSi (va_Run.run (r_V (rest := []) C0 [.int cx] (k_R_contextIn l hM hE hO.1 hV ht2 ht3 ht4 cx) ml_R_R_contextIn im_R_contextIn se_R_R_contextIn_R ini_R co_R_contextIn ⟨rfl, hd_R_contextIn⟩ (g_preV (ci := 5) hK hP rfl hM.1) hl.1 d_R_block_2 rfl rfl (Nat.le_of_ble_eq_true rfl) ⟨rfl, rfl⟩ ⟨Nat.le_of_ble_eq_true rfl, Nat.le_of_ble_eq_true rfl⟩ ⟨Nat.le_of_ble_eq_true rfl, Nat.le_of_ble_eq_true rfl⟩)) (fun qc ec => ?_)
  subst ec
  rcases hci : s_ci σ cx with _ | i
  · refine W.eq (g2 := F0 m 5 ls [.int (-1)]) (rfl) ?_
    refine lv_istore (lv' := [(4, .int (-1)), (0, .ref x), (1, .int r), (2, .int cx), (3, .int kc)]) hx hb d_R_block_5 hl (by decide) rfl (fun ls hl => ?_)
    refine lv_iload_n hx hb d_R_block_7 rfl (lv_at hl 2 rfl) ?_
    refine vp_callSi (va_Run.run (r_S (rest := []) C0 [.int r] (k_R_isRegister l r) ml_R_R_isRegister st_R_isRegister ini_R co_R_isRegister hd_R_isRegister v_preS hl.1 d_R_block_8 rfl rfl (Nat.le_of_ble_eq_true rfl) ⟨rfl, rfl⟩ ⟨Nat.le_of_ble_eq_true rfl, Nat.le_of_ble_eq_true rfl⟩ ⟨Nat.le_of_ble_eq_true rfl, Nat.le_of_ble_eq_true rfl⟩)) (fun q8 eq8 => ?_)
    refine lv_if_eq (tgt := 29) hx hb d_R_block_11 (by decide) (fun c8 => ?_) (fun c8 => ?_)
    · have hreg : ¬ (0 ≤ r ∧ r ≤ 15) := fun h => absurd (eq8.symm.trans c8) (by rw [if_pos h]; decide)
      refine lv_iconst (v := (-1)) hx hb d_R_block_29 (by decide) ?_
      exact W.iret (v := (-1)) hx hb hr (fun t ht hW => ⟨⟨_, G, rfl, (by rw [show p_block w n σ r cx kc = (-1, σ) from (by simp only [p_block, hci])]; exact ⟨rfl, adr, ar, sl, bg, U, r0, r1, r2, r3, hM, hE⟩), g_fin ht hP⟩, hS.F ht⟩) hS.2.2 d_R_block_30
    · have hreg : 0 ≤ r ∧ r ≤ 15 := Decidable.byContradiction (fun h => c8 (eq8.trans (if_neg h)))
      refine lv_iload hx hb d_R_block_14 (lv_at hl 0 rfl) ?_
      refine lv_if_lt (tgt := 29) hx hb d_R_block_16 (by decide) (fun _ => ?_) (fun z => absurd (by decide) z)
      refine lv_iconst (v := (-1)) hx hb d_R_block_29 (by decide) ?_
      exact W.iret (v := (-1)) hx hb hr (fun t ht hW => ⟨⟨_, G, rfl, (by rw [show p_block w n σ r cx kc = (-1, σ) from (by simp only [p_block, hci])]; exact ⟨rfl, adr, ar, sl, bg, U, r0, r1, r2, r3, hM, hE⟩), g_fin ht hP⟩, hS.F ht⟩) hS.2.2 d_R_block_30
  · refine W.eq (g2 := F0 m 5 ls [.int (nI (sl i))]) (rfl) ?_
    have hc := (s_ci_some hci).2.2
    have hri := s_ci_rch hci
    obtain ⟨hs, hk4, hk5⟩ := hE.2.1 i hri
    obtain ⟨yy9, yy10, yy11, yy12, yy14, yy15, qU⟩ := hE.2.2.2.1 i hri hc
    have hU := hE.2.2.2.2.2.2.2.2
    have hb9 := (hO.1.2.2.2.2.2.2 i hc).2
    refine lv_istore (lv' := [(4, .int (nI (sl i))), (0, .ref x), (1, .int r), (2, .int cx), (3, .int kc)]) hx hb d_R_block_5 hl (by decide) rfl (fun ls hl => ?_)
    refine lv_iload_n hx hb d_R_block_7 rfl (lv_at hl 2 rfl) ?_
    refine vp_callSi (va_Run.run (r_S (rest := []) C0 [.int r] (k_R_isRegister l r) ml_R_R_isRegister st_R_isRegister ini_R co_R_isRegister hd_R_isRegister v_preS hl.1 d_R_block_8 rfl rfl (Nat.le_of_ble_eq_true rfl) ⟨rfl, rfl⟩ ⟨Nat.le_of_ble_eq_true rfl, Nat.le_of_ble_eq_true rfl⟩ ⟨Nat.le_of_ble_eq_true rfl, Nat.le_of_ble_eq_true rfl⟩)) (fun q8 eq8 => ?_)
    refine lv_if_eq (tgt := 29) hx hb d_R_block_11 (by decide) (fun c8 => ?_) (fun c8 => ?_)
    · have hreg : ¬ (0 ≤ r ∧ r ≤ 15) := fun h => absurd (eq8.symm.trans c8) (by rw [if_pos h]; decide)
      refine lv_iconst (v := (-1)) hx hb d_R_block_29 (by decide) ?_
      exact W.iret (v := (-1)) hx hb hr (fun t ht hW => ⟨⟨_, G, rfl, (by rw [show p_block w n σ r cx kc = (-1, σ) from (by simp only [p_block, hci]; rw [if_neg (fun z => hreg z.1)])]; exact ⟨rfl, adr, ar, sl, bg, U, r0, r1, r2, r3, hM, hE⟩), g_fin ht hP⟩, hS.F ht⟩) hS.2.2 d_R_block_30
    · have hreg : 0 ≤ r ∧ r ≤ 15 := Decidable.byContradiction (fun h => c8 (eq8.trans (if_neg h)))
      refine lv_iload hx hb d_R_block_14 (lv_at hl 0 rfl) ?_
      refine lv_if_lt (tgt := 29) hx hb d_R_block_16 (by decide) (fun z => absurd z (nI_pos (by omega))) (fun _ => ?_)
      refine lv_iload_n hx hb d_R_block_19 rfl (lv_at hl 4 rfl) ?_
      refine lv_if_lt (tgt := 29) hx hb d_R_block_20 (by decide) (fun c1 => ?_) (fun c1 => ?_)
      · refine lv_iconst (v := (-1)) hx hb d_R_block_29 (by decide) ?_
        exact W.iret (v := (-1)) hx hb hr (fun t ht hW => ⟨⟨_, G, rfl, (by rw [show p_block w n σ r cx kc = (-1, σ) from (by simp only [p_block, hci]; rw [if_neg (fun z => absurd z.2.1 (Int32.not_le.mpr c1))])]; exact ⟨rfl, adr, ar, sl, bg, U, r0, r1, r2, r3, hM, hE⟩), g_fin ht hP⟩, hS.F ht⟩) hS.2.2 d_R_block_30
      · refine lv_iload_n hx hb d_R_block_23 rfl (lv_at hl 4 rfl) ?_
        refine lv_bipush (v := 15) hx hb d_R_block_24 (by decide) ?_
        refine lv_icmp_le (tgt := 31) hx hb d_R_block_26 (by decide) (fun c2 => ?_) (fun c2 => ?_)
        · have hwi : 0 ≤ kc ∧ kc ≤ 15 := ⟨Int32.not_lt.mp c1, c2⟩
          have h3 := s_hm_kd hO.1 hc
          have hrh := s_hm_rch hri hc
          obtain ⟨hs2, -, -⟩ := hE.2.1 _ hrh
          obtain ⟨-, -, -, t12, -, -, -⟩ := hE.2.2.2.1 _ hrh (Or.inl h3)
          obtain ⟨hro, ho2⟩ := s_hro hO.1 _ hrh h3
          obtain ⟨hs3, -, -⟩ := hE.2.1 _ hro
          have t8 := (hE.2.2.1 _ hro ho2).2
          have hbt := hO.1.2.2.2.1 _ ho2
          refine lv_aload_n hx hb d_R_block_31 rfl (lv_at hl 1 rfl) ?_
          refine lv_iload hx hb d_R_block_32 (lv_at hl 0 rfl) ?_
          refine vp_callSi (va_Run.run (r_V (rest := []) C0 [.int (nI (sl i))] (k_R_homeOf l hM hE hri hc ht2 ht3 ht4) ml_R_R_homeOf im_R_homeOf se_R_R_homeOf_R ini_R co_R_homeOf ⟨rfl, hd_R_homeOf⟩ (g_preV (ci := 5) hK hP rfl hM.1) hl.1 d_R_block_34 rfl rfl (Nat.le_of_ble_eq_true rfl) ⟨rfl, rfl⟩ ⟨Nat.le_of_ble_eq_true rfl, Nat.le_of_ble_eq_true rfl⟩ ⟨Nat.le_of_ble_eq_true rfl, Nat.le_of_ble_eq_true rfl⟩)) (fun qh eh => ?_)
          subst eh
          refine lv_istore (lv' := [(5, .int (nI (sl (s_hm σ i)))), (4, .int (nI (sl i))), (0, .ref x), (1, .int r), (2, .int cx), (3, .int kc)]) hx hb d_R_block_37 hl (by decide) rfl (fun ls hl => ?_)
          refine lv_aload_n hx hb d_R_block_39 rfl (lv_at hl 2 rfl) ?_
          refine va_get (D := D) (ci := 5) (C := "StackRoomModel") (T := T_R) (N := 25) (v := .ref (adr 8)) hx hb ht in_R hown hK.1 (hP.one hM.1) 0 rfl rfl 8 (by decide) (ht _ fl_R_R_depths) (fun _ h9 => h9) rfl d_R_block_40 ?_
          refine lv_aload_n hx hb d_R_block_43 rfl (lv_at hl 2 rfl) ?_
          refine va_get (D := D) (ci := 5) (C := "StackRoomModel") (T := T_R) (N := 25) (v := .ref (adr 12)) hx hb ht in_R hown hK.1 (hP.one hM.1) 0 rfl rfl 12 (by decide) (ht _ fl_R_R_links) (fun _ h9 => h9) rfl d_R_block_44 ?_
          refine lv_iload hx hb d_R_block_47 (lv_at hl 0 rfl) ?_
          refine va_iald hx hb hK.1 (hP.one hM.a12) 0 2 rfl ht2 (vp_in_nI hs2 (by decide)) d_R_block_49 ?_
          rw [nI_clamp (by omega)]
          rw [t12]
          refine va_iald hx hb hK.1 (hP.one hM.a8) 0 2 rfl ht2 (vp_in_nI hs3 (by decide)) d_R_block_50 ?_
          rw [nI_clamp (by omega)]
          rw [t8]
          refine lv_istore (lv' := [(6, .int (nI (s_dd σ (s_og σ (s_hm σ i))))), (5, .int (nI (sl (s_hm σ i)))), (4, .int (nI (sl i))), (0, .ref x), (1, .int r), (2, .int cx), (3, .int kc)]) hx hb d_R_block_51 hl (by decide) rfl (fun ls hl => ?_)
          refine lv_aload_n hx hb d_R_block_53 rfl (lv_at hl 3 rfl) ?_
          refine lv_iconst (v := 4) hx hb d_R_block_54 (by decide) ?_
          refine lv_bipush (v := 10) hx hb d_R_block_55 (by decide) ?_
          refine lv_iload hx hb d_R_block_57 (lv_at hl 0 rfl) ?_
          refine lv_iadd hx hb d_R_block_59 ?_
          refine lv_iconst (v := 1) hx hb d_R_block_60 (by decide) ?_
          refine lv_iload hx hb d_R_block_61 (lv_at hl 0 rfl) ?_
          refine W.eq (g2 := F0 m 63 ls [.int (nI (s_dd σ (s_og σ (s_hm σ i)))), .int (nI 1), .int (nI (10 + s_dd σ (s_og σ (s_hm σ i)))), .int (nI 4), .ref x]) (by rw [m_10] <;> rfl) ?_
          refine g_calli hP hS hA (r_V (rest := []) C0 [.int (nI 4), .int (nI (10 + s_dd σ (s_og σ (s_hm σ i)))), .int (nI 1), .int (nI (s_dd σ (s_og σ (s_hm σ i))))] (k_R_make l hM hE hO hV hw.2 hn.2 ht2 ht3 ht4 (kk := 4) (a := 10 + s_dd σ (s_og σ (s_hm σ i))) (b := 1) (c0 := s_dd σ (s_og σ (s_hm σ i))) (Or.inr (Or.inr rfl)) (by omega) (by decide) (by omega)) ml_R_R_make im_R_make se_R_R_make_R ini_R co_R_make ⟨rfl, hd_R_make⟩ (g_preV (ci := 5) hK hP rfl hM.1) hl.1 d_R_block_63 rfl rfl (Nat.le_of_ble_eq_true rfl) ⟨rfl, rfl⟩ ⟨Nat.le_of_ble_eq_true rfl, Nat.le_of_ble_eq_true rfl⟩ ⟨Nat.le_of_ble_eq_true rfl, Nat.le_of_ble_eq_true rfl⟩) (fun qz G1 H locs hq hP hS hz9 hk9 => ?_)
          rcases hq with ⟨hfit, adr2, ar2, b2, U2, r4, r5, r6, r7, o, rfl, ho, hM2, hE2, hno, n4, n5, n14, n15, nz, hbU⟩ | ⟨hfit, rfl, ar2, r4, r5, r6, r7, hM2, hE2⟩
          · refine lv_istore (lv' := [(7, .int (nI o)), (6, .int (nI (s_dd σ (s_og σ (s_hm σ i))))), (5, .int (nI (sl (s_hm σ i)))), (4, .int (nI (sl i))), (0, .ref x), (1, .int r), (2, .int cx), (3, .int kc)]) hx hb d_R_block_66 hl (by decide) rfl (fun ls hl => ?_)
            refine lv_iload hx hb d_R_block_68 (lv_at hl 0 rfl) ?_
            refine lv_if_ge (tgt := 76) hx hb d_R_block_70 (by decide) (fun _ => ?_) (fun z => absurd (nI_pos' (by omega)) z)
            refine lv_aload_n hx hb d_R_block_76 rfl (lv_at hl 4 rfl) ?_
            refine va_get (D := D) (ci := 5) (C := "StackRoomModel") (T := T_R) (N := 25) (v := .ref (adr2 13)) hx hb ht in_R hown hK.1 (hP.one hM2.1) 0 rfl rfl 13 (by decide) (ht _ fl_R_R_counts) (fun _ h9 => h9) rfl d_R_block_77 ?_
            refine lv_iload hx hb d_R_block_80 (lv_at hl 0 rfl) ?_
            refine lv_iload_n hx hb d_R_block_82 rfl (lv_at hl 7 rfl) ?_
            refine gw_iast hx hb hK.1 hP hS 2 hM2.a13 ht2 (vp_in_nI ho (by decide)) d_R_block_83 (fun H locs hP hS => ?_)
            rw [nI_clamp (by omega)] at hP
            obtain ⟨G11, eG11⟩ : ∃ z : gw_G, z = va_up G1 (adr2 13) (some (.inl (cI, 4096, .inl (upd (ar2 13) (o) (kc))))) := ⟨_, rfl⟩
            replace hP : gw_P D vwCl (gw_A G s.heap.size) G11 H := by rw [eG11]; exact hP
            obtain ⟨ar11, ear11⟩ : ∃ z : Nat → Nat → Int32, z = va_up ar2 13 (upd (ar2 13) (o) (kc)) := ⟨_, rfl⟩
            have hM11 : m_Arr cI cB cZ x w n (s_md σ + 1) adr2 (nI (U2 + (s_dd σ (s_og σ (s_hm σ i))))) (r4) (r5) (r6) (r7) ar11 G11 := by rw [eG11, ear11]; exact hM2.put (k := 13) (by decide) _
            refine lv_aload_n hx hb d_R_block_84 rfl (lv_at hl 4 rfl) ?_
            refine lv_iload_n hx hb d_R_block_85 rfl (lv_at hl 5 rfl) ?_
            refine lv_iload hx hb d_R_block_86 (lv_at hl 0 rfl) ?_
            refine lv_iconst (v := 0) hx hb d_R_block_88 (by decide) ?_
            refine lv_iconst (v := 1) hx hb d_R_block_89 (by decide) ?_
            refine lv_iconst (v := 0) hx hb d_R_block_90 (by decide) ?_
            refine lv_iload hx hb d_R_block_91 (lv_at hl 2 rfl) ?_
            refine W.eq (g2 := F0 m 93 ls [.int (nI (sl (s_hm σ i))), .int (nI 0), .int 1, .int (m_val sl ((none : Option Nat).map .inr)), .int (nI o), .int r, .ref x]) (rfl) ?_
            refine g_calli hP hS hA (r_V (rest := []) C0 [.int r, .int (nI o), .int (m_val sl ((none : Option Nat).map .inr)), .int 1, .int (nI 0), .int (nI (sl (s_hm σ i)))] (k_R_settle l hM11 ht2 ht3 ht4 ho (r := r) (sd := m_val sl ((none : Option Nat).map .inr)) (d := 1) (hh := nI 0) (lk := nI (sl (s_hm σ i))) hreg (Or.inr rfl)) ml_R_R_settle im_R_settle se_R_R_settle_R ini_R co_R_settle ⟨rfl, hd_R_settle⟩ (g_preV (ci := 5) hK hP rfl hM11.1) hl.1 d_R_block_93 rfl rfl (Nat.le_of_ble_eq_true rfl) ⟨rfl, rfl⟩ ⟨Nat.le_of_ble_eq_true rfl, Nat.le_of_ble_eq_true rfl⟩ ⟨Nat.le_of_ble_eq_true rfl, Nat.le_of_ble_eq_true rfl⟩) (fun q2 G2 H locs hq2 hP hS hz9 hk9 => ?_)
            obtain ⟨rfl, hM3⟩ := hq2
            have n5b : ar11 5 o = nI (s_md σ + 1) := by rw [ear11]; exact n5
            rw [n5b]
            have hE9 := m_newX (arb := ar11) (kk := 4) (de := 1) (ct := kc) (ht := 0) (og := s_hm σ i) (s := none) (r := r.toNatClampNeg) hO.1 hE2 hno ho (fun _ _ hq => by rw [ear11]; exact m_off rfl hq) (by rw [ear11]; rfl) (by rw [ear11]; rfl) (Or.inr rfl) (by rw [ear11]; exact n4) n5b (by rw [ear11]; exact n14) (by rw [ear11]; exact n15) (fun _ => by rw [ear11]; exact upd_self _ _ _) nz hbU (fun j e => by cases e) hrh
            exact W.iret (v := (nI (s_md σ + 1))) hx hb hr (fun t ht hW => ⟨⟨_, G2, rfl, (by rw [show p_block w n σ r cx kc = (nI (s_md σ + 1), s_put (s_newX σ 4 none 1 0 (s_dd σ (s_og σ (s_hm σ i))) (s_hm σ i) kc) r (some (.inr (s_md σ + 1)))) from (by simp only [p_block, hci]; rw [if_pos ⟨hreg, hwi⟩, if_pos hfit])]; exact ⟨rfl, adr2, _, _, _, U2 + s_dd σ (s_og σ (s_hm σ i)), _, _, _, _, hM3, hE9⟩), g_fin ht hP⟩, hS.F ht⟩) hS.2.2 d_R_block_96
          · refine lv_istore (lv' := [(7, .int (-2)), (6, .int (nI (s_dd σ (s_og σ (s_hm σ i))))), (5, .int (nI (sl (s_hm σ i)))), (4, .int (nI (sl i))), (0, .ref x), (1, .int r), (2, .int cx), (3, .int kc)]) hx hb d_R_block_66 hl (by decide) rfl (fun ls hl => ?_)
            refine lv_iload hx hb d_R_block_68 (lv_at hl 0 rfl) ?_
            refine lv_if_ge (tgt := 76) hx hb d_R_block_70 (by decide) (fun z => absurd z (by decide)) (fun _ => ?_)
            refine lv_bipush (v := (-2)) hx hb d_R_block_73 (by decide) ?_
            exact W.iret (v := (-2)) hx hb hr (fun t ht hW => ⟨⟨_, G1, rfl, (by rw [show p_block w n σ r cx kc = (-2, σ) from (by simp only [p_block, hci]; rw [if_pos ⟨hreg, hwi⟩, if_neg hfit])]; exact ⟨rfl, adr, ar2, sl, bg, U, _, _, _, _, hM2, hE2⟩), g_fin ht hP⟩, hS.F ht⟩) hS.2.2 d_R_block_75
        · refine lv_iconst (v := (-1)) hx hb d_R_block_29 (by decide) ?_
          exact W.iret (v := (-1)) hx hb hr (fun t ht hW => ⟨⟨_, G, rfl, (by rw [show p_block w n σ r cx kc = (-1, σ) from (by simp only [p_block, hci]; rw [if_neg (fun z => c2 z.2.2)])]; exact ⟨rfl, adr, ar, sl, bg, U, r0, r1, r2, r3, hM, hE⟩), g_fin ht hP⟩, hS.F ht⟩) hS.2.2 d_R_block_30
end K38
