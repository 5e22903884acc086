section K34
variable {cI cB cZ : ClassId} {x w n md : Nat} {adr : Nat → Nat} {us r0 r1 r2 r3 : Int32} {ar : Nat → Nat → Int32} {G : gw_G} {σ : sS} {sl bg : Nat → Nat} {U : Nat} {D : va_G} {tys : List (ClassId × FieldType)} {sz : Nat}
theorem b_0 : vp_nar .byte 0 = 0 := by decide
/-- what an object takes of the row of fields -/
def m_g (σ : sS) (i : Nat) : Nat := if s_kd σ i = 2 then 0 else s_rm σ i
theorem m_g_le (σ : sS) (i : Nat) : m_g σ i ≤ s_wd σ i := by
  unfold m_g s_wd
  split
  · omega
  · split <;> omega
theorem s_sum_le {f g : Nat → Nat} (h : ∀ i, f i ≤ g i) : ∀ L : List Nat, s_sum f L ≤ s_sum g L
  | [] => Nat.le_refl _
  | a :: L => by
    have h1 := s_sum_le h L
    have h2 := h a
    unfold s_sum at *
    simp only [List.map_cons, List.sum_cons]
    omega
theorem m_g_W {σ : sS} {L : List Nat} (h : s_part σ L) (hI : s_I σ) : s_sum (m_g σ) L ≤ s_W σ := Nat.le_trans (s_sum_le (m_g_le σ) L) (s_part_W h hI)
def m_sw {α : Type} (f : Nat → α) : Nat → α := va_up (va_up f 16 (f 17)) 17 (f 16)
theorem m_sw16 {α : Type} (f : Nat → α) : m_sw f 16 = f 17 := by
  unfold m_sw
  rw [va_up_ne _ _ (by decide), va_up_self]
theorem m_sw17 {α : Type} (f : Nat → α) : m_sw f 17 = f 16 := va_up_self _ _ _
theorem m_swn {α : Type} (f : Nat → α) {k : Nat} (h1 : k ≠ 16) (h2 : k ≠ 17) : m_sw f k = f k := by
  unfold m_sw
  rw [va_up_ne _ _ h2, va_up_ne _ _ h1]
theorem m_Arr.swap (h : m_Arr cI cB cZ x w n md adr us r0 r1 r2 r3 ar G) (us2 : Int32) : m_Arr cI cB cZ x w n md (m_sw adr) us2 r0 r1 r2 r3 (m_sw ar) (va_up G x (some (m_cell w n md (m_sw adr) us2 r0 r1 r2 r3))) := by
  obtain ⟨h1, h2, h3⟩ := h
  have key : ∀ k, m_isA k → ∃ j, m_isA j ∧ m_sw adr k = adr j ∧ m_sw ar k = ar j ∧ m_cl cI cB cZ k = m_cl cI cB cZ j ∧ m_len k = m_len j ∧ (k = 16 → j = 17) ∧ (k = 17 → j = 16) ∧ (k ≠ 16 → k ≠ 17 → j = k) := by
    intro k hk
    by_cases e1 : k = 16
    · subst e1
      exact ⟨17, by decide, m_sw16 _, m_sw16 _, rfl, rfl, fun _ => rfl, fun z => by omega, fun z => absurd rfl z⟩
    · by_cases e2 : k = 17
      · subst e2
        exact ⟨16, by decide, m_sw17 _, m_sw17 _, rfl, rfl, fun z => by omega, fun _ => rfl, fun _ z => absurd rfl z⟩
      · exact ⟨k, hk, m_swn _ e1 e2, m_swn _ e1 e2, rfl, rfl, fun z => absurd z e1, fun z => absurd z e2, fun _ _ => rfl⟩
  refine ⟨va_up_self _ _ _, fun k hk => ?_, fun a b ha hb e => ?_⟩
  · obtain ⟨j, hj, e1, e2, e3, e4, -⟩ := key k hk
    rw [e1, e2, e3, e4]
    exact gw_up (h2 j hj) (gw_ne (h2 j hj) h1 (fun z => by cases z))
  · obtain ⟨j, hj, e1, -, -, -, p1, p2, p3⟩ := key a ha
    obtain ⟨q, hq, f1, -, -, -, s1, s2, s3⟩ := key b hb
    rw [e1, f1] at e
    have ejq := h3 j q hj hq e
    by_cases a1 : a = 16 <;> by_cases a2 : a = 17 <;> by_cases b1 : b = 16 <;> by_cases b2 : b = 17 <;> simp_all
set_option maxHeartbeats 4000000 in
set_option maxRecDepth 100000 in
theorem k_R_letGo (l : Launch) (hM : m_Arr cI cB cZ x w n md adr us r0 r1 r2 r3 ar G) (hE : m_Sem (s_rch σ) σ sl bg U ar) (hO : s_OK w n σ) (hw : w ≤ 32768) (hse : ∀ i, s_rch σ i → ar 19 (sl i) = 1) (hs0 : ∀ o, o < 4096 → (∀ i, s_rch σ i → sl i ≠ o) → ar 19 o = 0) (ht2 : tys[2]? = some (cI, .int)) (ht3 : tys[3]? = some (cB, .byte)) (ht4 : tys[4]? = some (cZ, .boolean)) : Met l y_R_letGo w_R_letGo ({ frames := 0, cells := 0, slots := 0, locals := 0 }) (g_pre D tys G sz [.ref x]) (va_Qv (fun G1 : gw_G => ∃ adr2 ar2 b2 U2, m_Arr cI cB cZ x w n md adr2 (nI U2) r0 r1 r2 r3 ar2 G1 ∧ m_Sem (s_rch σ) σ sl b2 U2 ar2 ∧ U2 ≤ s_W σ ∧ ∀ o, o < 4096 → (∀ i, s_rch σ i → sl i ≠ o) → ar2 4 o = 0) (g_end D G sz) (gw_A G sz)) 0 0 (gw_A G sz) := by
  refine Met.ofW (cc := b_R_letGo) (maxL := 4) (ret := none) (by decide) rfl ?_
  intro p e s m args below meth c s₁ B hml hv
  obtain ⟨rfl, hsz, hP, hK⟩ := hv
  have hx := B.exec
  have hb := B.bytes
  have hr := B.returns
  have ht := fun w (hw : w ∈ gt) => atoms_spec (ws := w_R_letGo) B.pre w (List.mem_cons_of_mem _ hw)
  have hown : s.vm.findClass "StackRoomModel" = some m.cls := findClass_of_methodNamed B.named
  have hlocks := B.notSynchronized
  have C0 : CallFix p m c b_R_letGo 4 s [.ref x].toArray gt "StackRoomModel" := ⟨hx, hb, hml, hown, ht⟩
  subst hsz
  have hP := hP.self (sz := s.heap.size)
  have hA : ∀ q : Nat, s.heap.size ≤ q → gw_A G s.heap.size q := fun q h => Or.inr h
  have hS : va_S (gw_A G s.heap.size) s.heap s.heap [] := va_S.rf
  have hl := lv_entry ([.ref x]) (n := 4) (Nat.le_of_ble_eq_true rfl)
  rw [lg_entry_eq]
  generalize (lg_sl ([.ref x]) ++ List.replicate (4 - (lg_sl ([.ref x])).length) Slot.unset).toArray = ls at hl ⊢
  have hl : lv_has ls 4 [(0, .ref x)] := hl
  have hsl := fun i (hi : s_rch σ i) => (hE.2.1 i hi).1
  have hinj := hE.2.2.2.2.2.2.1
  have hU := hE.2.2.2.2.2.2.2.2
  have hW8 := hO.2.1
  refine lv_iconst (v := 0) hx hb d_R_letGo_0 (by decide) ?_
  refine lv_istore_n (lv' := [(1, .int 0), (0, .ref x)]) hx hb d_R_letGo_1 rfl hl (by decide) rfl (fun ls hl => ?_)
  refine lv_iconst (v := 0) hx hb d_R_letGo_2 (by decide) ?_
  refine lv_istore_n (lv' := [(2, .int 0), (1, .int 0), (0, .ref x)]) hx hb d_R_letGo_3 rfl hl (by decide) rfl (fun ls hl => ?_)
  obtain ⟨o, eo⟩ : ∃ z : Nat, z = 0 := ⟨_, rfl⟩
  obtain ⟨f, ef⟩ : ∃ z : Nat, z = 4096 := ⟨_, rfl⟩
  obtain ⟨P, eP⟩ : ∃ z : List Nat, z = [] := ⟨_, rfl⟩
  obtain ⟨b2, eb2⟩ : ∃ z : Nat → Nat, z = bg := ⟨_, rfl⟩
  obtain ⟨G1, eG1⟩ : ∃ z : gw_G, z = G := ⟨_, rfl⟩
  obtain ⟨ar1, ear⟩ : ∃ z : Nat → Nat → Int32, z = ar := ⟨_, rfl⟩
  obtain ⟨H, eH⟩ : ∃ z : Heap, z = s.heap := ⟨_, rfl⟩
  obtain ⟨locs, eL⟩ : ∃ z : List Loc, z = [] := ⟨_, rfl⟩
  have inv : 4096 ≤ o + f ∧ o ≤ 4096 ∧ lv_has ls 4 [(2, .int (nI o)), (1, .int (nI (s_sum (m_g σ) P))), (0, .ref x)] ∧ gw_P D vwCl (gw_A G s.heap.size) G1 H ∧ va_S (gw_A G s.heap.size) s.heap H locs ∧ m_Arr cI cB cZ x w n md adr us r0 r1 r2 r3 ar1 G1 ∧ s_part σ P ∧ (∀ i, i ∈ P ↔ s_rch σ i ∧ sl i < o) ∧ (∀ i, s_rch σ i → ar1 4 (sl i) = nI (s_kd σ i)) ∧ (∀ q, q < o → (∀ i, s_rch σ i → sl i ≠ q) → ar1 4 q = 0) ∧ (∀ i, s_rch σ i → s_isC σ i → o ≤ sl i → ar1 14 (sl i) = nI (bg i)) ∧ (∀ i, i ∈ P → s_isC σ i → ar1 14 (sl i) = nI (b2 i) ∧ b2 i + s_rm σ i ≤ s_sum (m_g σ) P ∧ ∀ k, k < s_rm σ i → ar1 17 (b2 i + k) = m_val sl (s_fl σ i k)) ∧ (∀ i j k q, i ∈ P → j ∈ P → s_isC σ i → s_isC σ j → k < s_rm σ i → q < s_rm σ j → b2 i + k = b2 j + q → i = j) ∧ (∀ k, k ≠ 4 → k ≠ 14 → k ≠ 17 → ar1 k = ar k) := by
    refine ⟨by omega, by omega, by rw [eo, eP]; exact hl, by rw [eG1, eH]; exact hP, by rw [eH, eL]; exact hS, by rw [ear, eG1]; exact hM, by rw [eP]; exact s_part_nil, fun i => ?_, fun i hi => by rw [ear]; exact (hE.2.1 i hi).2.1, fun q hq => absurd hq (by omega), fun i hi hc _ => by rw [ear]; exact (hE.2.2.2.1 i hi hc).2.2.2.2.1, fun i hi => (by rw [eP] at hi; cases hi), fun i j k q hi => (by rw [eP] at hi; cases hi), fun k _ _ _ => by rw [ear]⟩
    rw [eP]
    exact ⟨fun z => (by cases z), fun z => absurd z.2 (by omega)⟩
  refine W_heq eH eL ?_
  clear hl hP hS eo ef eP eb2 eG1 ear eH eL
  induction f generalizing o ls H locs G1 ar1 P b2
  case zero =>
    obtain ⟨hf, ho, hl, hP, hS, hM1, hp, hPi, hk1, hk0, hb1, hb2, hdj, hkp⟩ := inv
    have hT := m_g_W hp hO.1
    refine lv_iload_n hx hb d_R_letGo_4 rfl (lv_at hl 0 rfl) ?_
    refine lv_sipush (v := 4096) hx hb d_R_letGo_5 (by decide) ?_
    refine lv_icmp_ge (tgt := 101) hx hb d_R_letGo_8 (by decide) (fun co => ?_) (fun co => ?_)
    · have hge : 4096 ≤ o := (nI_leI (by omega) (by omega)).mp (show nI 4096 ≤ nI o from co)
      refine lv_aload_n hx hb d_R_letGo_101 rfl (lv_at hl 2 rfl) ?_
      refine va_get (D := D) (ci := 5) (C := "StackRoomModel") (T := T_R) (N := 25) (v := .ref (adr 16)) hx hb ht in_R hown hK.1 (hP.one hM1.1) 0 rfl rfl 16 (by decide) (ht _ fl_R_R_fields) (fun _ h9 => h9) rfl d_R_letGo_102 ?_
      refine lv_astore_n (lv' := [(2, .ref (adr 16)), (1, .int (nI (s_sum (m_g σ) P))), (0, .ref x)]) hx hb d_R_letGo_105 rfl hl (by decide) rfl (fun ls hl => ?_)
      refine lv_aload_n hx hb d_R_letGo_106 rfl (lv_at hl 2 rfl) ?_
      refine lv_aload_n hx hb d_R_letGo_107 rfl (lv_at hl 2 rfl) ?_
      refine va_get (D := D) (ci := 5) (C := "StackRoomModel") (T := T_R) (N := 25) (v := .ref (adr 17)) hx hb ht in_R hown hK.1 (hP.one hM1.1) 0 rfl rfl 17 (by decide) (ht _ fl_R_R_other) (fun _ h9 => h9) rfl d_R_letGo_108 ?_
      refine gw_put (D := D) (cl := vwCl) (ci := 5) (C := "StackRoomModel") (T := T_R) (N := 25) (v := .ref (adr 17)) (ty := .array .int) hx hb ht in_R ty_R tk_R nm_R hown hK.1 hP hS hM1.1 rfl 16 (by decide) (ht _ fl_R_R_fields) (fun _ h9 => h9) rfl (by decide +kernel) rfl rfl (Nat.le_of_ble_eq_true rfl) d_R_letGo_111 (fun H locs hP hS => ?_)
      obtain ⟨G11, eG11⟩ : ∃ z : gw_G, z = va_up G1 x (some (.inr (5, [.int (nI w), .int (nI n), .int (nI md), .ref (adr 3), .ref (adr 4), .ref (adr 5), .ref (adr 6), .ref (adr 7), .ref (adr 8), .ref (adr 9), .ref (adr 10), .ref (adr 11), .ref (adr 12), .ref (adr 13), .ref (adr 14), .ref (adr 15), .ref (adr 17), .ref (adr 17), .int us, .ref (adr 19), .ref (adr 20), .int r0, .int r1, .int r2, .int r3]))) := ⟨_, rfl⟩
      replace hP : gw_P D vwCl (gw_A G s.heap.size) G11 H := by rw [eG11]; exact hP
      have f11 : G11 x = some (.inr (5, [.int (nI w), .int (nI n), .int (nI md), .ref (adr 3), .ref (adr 4), .ref (adr 5), .ref (adr 6), .ref (adr 7), .ref (adr 8), .ref (adr 9), .ref (adr 10), .ref (adr 11), .ref (adr 12), .ref (adr 13), .ref (adr 14), .ref (adr 15), .ref (adr 17), .ref (adr 17), .int us, .ref (adr 19), .ref (adr 20), .int r0, .int r1, .int r2, .int r3])) := by rw [eG11]; exact va_up_self _ _ _
      refine lv_aload_n hx hb d_R_letGo_114 rfl (lv_at hl 2 rfl) ?_
      refine lv_aload_n hx hb d_R_letGo_115 rfl (lv_at hl 0 rfl) ?_
      refine gw_put (D := D) (cl := vwCl) (ci := 5) (C := "StackRoomModel") (T := T_R) (N := 25) (v := .ref (adr 16)) (ty := .array .int) hx hb ht in_R ty_R tk_R nm_R hown hK.1 hP hS f11 rfl 17 (by decide) (ht _ fl_R_R_other) (fun _ h9 => h9) rfl (by decide +kernel) rfl rfl (Nat.le_of_ble_eq_true rfl) d_R_letGo_116 (fun H locs hP hS => ?_)
      obtain ⟨G12, eG12⟩ : ∃ z : gw_G, z = va_up G11 x (some (.inr (5, [.int (nI w), .int (nI n), .int (nI md), .ref (adr 3), .ref (adr 4), .ref (adr 5), .ref (adr 6), .ref (adr 7), .ref (adr 8), .ref (adr 9), .ref (adr 10), .ref (adr 11), .ref (adr 12), .ref (adr 13), .ref (adr 14), .ref (adr 15), .ref (adr 17), .ref (adr 16), .int us, .ref (adr 19), .ref (adr 20), .int r0, .int r1, .int r2, .int r3]))) := ⟨_, rfl⟩
      replace hP : gw_P D vwCl (gw_A G s.heap.size) G12 H := by rw [eG12]; exact hP
      have f12 : G12 x = some (.inr (5, [.int (nI w), .int (nI n), .int (nI md), .ref (adr 3), .ref (adr 4), .ref (adr 5), .ref (adr 6), .ref (adr 7), .ref (adr 8), .ref (adr 9), .ref (adr 10), .ref (adr 11), .ref (adr 12), .ref (adr 13), .ref (adr 14), .ref (adr 15), .ref (adr 17), .ref (adr 16), .int us, .ref (adr 19), .ref (adr 20), .int r0, .int r1, .int r2, .int r3])) := by rw [eG12]; exact va_up_self _ _ _
      refine lv_aload_n hx hb d_R_letGo_119 rfl (lv_at hl 2 rfl) ?_
      refine lv_iload_n hx hb d_R_letGo_120 rfl (lv_at hl 1 rfl) ?_
      refine gw_put (D := D) (cl := vwCl) (ci := 5) (C := "StackRoomModel") (T := T_R) (N := 25) (v := .int (nI (s_sum (m_g σ) P))) (ty := .int) hx hb ht in_R ty_R tk_R nm_R hown hK.1 hP hS f12 rfl 18 (by decide) (ht _ fl_R_R_used) (fun _ h9 => h9) rfl (by decide +kernel) rfl rfl (Nat.le_of_ble_eq_true rfl) d_R_letGo_121 (fun H locs hP hS => ?_)
      obtain ⟨G13, eG13⟩ : ∃ z : gw_G, z = va_up G12 x (some (.inr (5, [.int (nI w), .int (nI n), .int (nI md), .ref (adr 3), .ref (adr 4), .ref (adr 5), .ref (adr 6), .ref (adr 7), .ref (adr 8), .ref (adr 9), .ref (adr 10), .ref (adr 11), .ref (adr 12), .ref (adr 13), .ref (adr 14), .ref (adr 15), .ref (adr 17), .ref (adr 16), .int (nI (s_sum (m_g σ) P)), .ref (adr 19), .ref (adr 20), .int r0, .int r1, .int r2, .int r3]))) := ⟨_, rfl⟩
      replace hP : gw_P D vwCl (gw_A G s.heap.size) G13 H := by rw [eG13]; exact hP
      have f13 : G13 x = some (.inr (5, [.int (nI w), .int (nI n), .int (nI md), .ref (adr 3), .ref (adr 4), .ref (adr 5), .ref (adr 6), .ref (adr 7), .ref (adr 8), .ref (adr 9), .ref (adr 10), .ref (adr 11), .ref (adr 12), .ref (adr 13), .ref (adr 14), .ref (adr 15), .ref (adr 17), .ref (adr 16), .int (nI (s_sum (m_g σ) P)), .ref (adr 19), .ref (adr 20), .int r0, .int r1, .int r2, .int r3])) := by rw [eG13]; exact va_up_self _ _ _
      have hM9 := hM1.swap (nI (s_sum (m_g σ) P))
      have e9 : G13 = va_up G1 x (some (m_cell w n md (m_sw adr) (nI (s_sum (m_g σ) P)) r0 r1 r2 r3)) := by
        rw [eG13, eG12, eG11, va_up_up, va_up_up]
        rfl
      rw [← e9] at hM9
      have hall : ∀ i, s_rch σ i → i ∈ P := fun i hi => (hPi i).mpr ⟨hi, by have := hsl i hi; omega⟩
      obtain ⟨s1, s2, s3, s4, s5, s6, s7, s8, s9⟩ := hE
      have kp : ∀ k, k ≠ 4 → k ≠ 14 → k ≠ 16 → k ≠ 17 → m_sw ar1 k = ar k := fun k h1 h2 h3 h4 => by rw [m_swn _ h3 h4]; exact hkp k h1 h2 h4
      have hE9 : m_Sem (s_rch σ) σ sl b2 (s_sum (m_g σ) P) (m_sw ar1) := by
        refine ⟨fun r hr => by rw [kp 3 (by decide) (by decide) (by decide) (by decide)]; exact s1 r hr, fun i hi => ⟨(s2 i hi).1, by rw [m_swn _ (by decide) (by decide)]; exact hk1 i hi, by rw [kp 5 (by decide) (by decide) (by decide) (by decide)]; exact (s2 i hi).2.2⟩, fun i hi hk => by rw [kp 7 (by decide) (by decide) (by decide) (by decide), kp 8 (by decide) (by decide) (by decide) (by decide)]; exact s3 i hi hk, fun i hi hc => ?_, fun i hi hk => by rw [kp 13 (by decide) (by decide) (by decide) (by decide)]; exact s5 i hi hk, fun i hi hc k hk => by rw [m_sw16]; exact (hb2 i (hall i hi) hc).2.2 k hk, s7, fun i j k q hi hj => hdj i j k q (hall i hi) (hall j hj), by omega⟩
        rw [kp 9 (by decide) (by decide) (by decide) (by decide), kp 10 (by decide) (by decide) (by decide) (by decide), kp 11 (by decide) (by decide) (by decide) (by decide), kp 12 (by decide) (by decide) (by decide) (by decide), kp 15 (by decide) (by decide) (by decide) (by decide), m_swn _ (by decide) (by decide)]
        obtain ⟨t1, t2, t3, t4, t5, t6, t7⟩ := s4 i hi hc
        exact ⟨t1, t2, t3, t4, (hb2 i (hall i hi) hc).1, t6, (hb2 i (hall i hi) hc).2.1⟩
      exact W.vret hx hb hr (fun t ht hW => ⟨⟨G13, rfl, ⟨m_sw adr, m_sw ar1, b2, s_sum (m_g σ) P, hM9, hE9, hT, fun q hq hno => by rw [m_swn _ (by decide) (by decide)]; exact hk0 q (by omega) hno⟩, g_fin ht hP⟩, hS.F ht⟩) hS.2.2 d_R_letGo_124
    · have hlt : o < 4096 := Nat.not_le.mp (fun q => co (show nI 4096 ≤ nI o from (nI_leI (by omega) (by omega)).mpr q))
      omega
  case succ f ih =>
    obtain ⟨hf, ho, hl, hP, hS, hM1, hp, hPi, hk1, hk0, hb1, hb2, hdj, hkp⟩ := inv
    have hT := m_g_W hp hO.1
    refine lv_iload_n hx hb d_R_letGo_4 rfl (lv_at hl 0 rfl) ?_
    refine lv_sipush (v := 4096) hx hb d_R_letGo_5 (by decide) ?_
    refine lv_icmp_ge (tgt := 101) hx hb d_R_letGo_8 (by decide) (fun co => ?_) (fun co => ?_)
    · have hge : 4096 ≤ o := (nI_leI (by omega) (by omega)).mp (show nI 4096 ≤ nI o from co)
      refine lv_aload_n hx hb d_R_letGo_101 rfl (lv_at hl 2 rfl) ?_
      refine va_get (D := D) (ci := 5) (C := "StackRoomModel") (T := T_R) (N := 25) (v := .ref (adr 16)) hx hb ht in_R hown hK.1 (hP.one hM1.1) 0 rfl rfl 16 (by decide) (ht _ fl_R_R_fields) (fun _ h9 => h9) rfl d_R_letGo_102 ?_
      refine lv_astore_n (lv' := [(2, .ref (adr 16)), (1, .int (nI (s_sum (m_g σ) P))), (0, .ref x)]) hx hb d_R_letGo_105 rfl hl (by decide) rfl (fun ls hl => ?_)
      refine lv_aload_n hx hb d_R_letGo_106 rfl (lv_at hl 2 rfl) ?_
      refine lv_aload_n hx hb d_R_letGo_107 rfl (lv_at hl 2 rfl) ?_
      refine va_get (D := D) (ci := 5) (C := "StackRoomModel") (T := T_R) (N := 25) (v := .ref (adr 17)) hx hb ht in_R hown hK.1 (hP.one hM1.1) 0 rfl rfl 17 (by decide) (ht _ fl_R_R_other) (fun _ h9 => h9) rfl d_R_letGo_108 ?_
      refine gw_put (D := D) (cl := vwCl) (ci := 5) (C := "StackRoomModel") (T := T_R) (N := 25) (v := .ref (adr 17)) (ty := .array .int) hx hb ht in_R ty_R tk_R nm_R hown hK.1 hP hS hM1.1 rfl 16 (by decide) (ht _ fl_R_R_fields) (fun _ h9 => h9) rfl (by decide +kernel) rfl rfl (Nat.le_of_ble_eq_true rfl) d_R_letGo_111 (fun H locs hP hS => ?_)
      obtain ⟨G24, eG24⟩ : ∃ z : gw_G, z = va_up G1 x (some (.inr (5, [.int (nI w), .int (nI n), .int (nI md), .ref (adr 3), .ref (adr 4), .ref (adr 5), .ref (adr 6), .ref (adr 7), .ref (adr 8), .ref (adr 9), .ref (adr 10), .ref (adr 11), .ref (adr 12), .ref (adr 13), .ref (adr 14), .ref (adr 15), .ref (adr 17), .ref (adr 17), .int us, .ref (adr 19), .ref (adr 20), .int r0, .int r1, .int r2, .int r3]))) := ⟨_, rfl⟩
      replace hP : gw_P D vwCl (gw_A G s.heap.size) G24 H := by rw [eG24]; exact hP
      have f24 : G24 x = some (.inr (5, [.int (nI w), .int (nI n), .int (nI md), .ref (adr 3), .ref (adr 4), .ref (adr 5), .ref (adr 6), .ref (adr 7), .ref (adr 8), .ref (adr 9), .ref (adr 10), .ref (adr 11), .ref (adr 12), .ref (adr 13), .ref (adr 14), .ref (adr 15), .ref (adr 17), .ref (adr 17), .int us, .ref (adr 19), .ref (adr 20), .int r0, .int r1, .int r2, .int r3])) := by rw [eG24]; exact va_up_self _ _ _
      refine lv_aload_n hx hb d_R_letGo_114 rfl (lv_at hl 2 rfl) ?_
      refine lv_aload_n hx hb d_R_letGo_115 rfl (lv_at hl 0 rfl) ?_
      refine gw_put (D := D) (cl := vwCl) (ci := 5) (C := "StackRoomModel") (T := T_R) (N := 25) (v := .ref (adr 16)) (ty := .array .int) hx hb ht in_R ty_R tk_R nm_R hown hK.1 hP hS f24 rfl 17 (by decide) (ht _ fl_R_R_other) (fun _ h9 => h9) rfl (by decide +kernel) rfl rfl (Nat.le_of_ble_eq_true rfl) d_R_letGo_116 (fun H locs hP hS => ?_)
      obtain ⟨G25, eG25⟩ : ∃ z : gw_G, z = va_up G24 x (some (.inr (5, [.int (nI w), .int (nI n), .int (nI md), .ref (adr 3), .ref (adr 4), .ref (adr 5), .ref (adr 6), .ref (adr 7), .ref (adr 8), .ref (adr 9), .ref (adr 10), .ref (adr 11), .ref (adr 12), .ref (adr 13), .ref (adr 14), .ref (adr 15), .ref (adr 17), .ref (adr 16), .int us, .ref (adr 19), .ref (adr 20), .int r0, .int r1, .int r2, .int r3]))) := ⟨_, rfl⟩
      replace hP : gw_P D vwCl (gw_A G s.heap.size) G25 H := by rw [eG25]; exact hP
      have f25 : G25 x = some (.inr (5, [.int (nI w), .int (nI n), .int (nI md), .ref (adr 3), .ref (adr 4), .ref (adr 5), .ref (adr 6), .ref (adr 7), .ref (adr 8), .ref (adr 9), .ref (adr 10), .ref (adr 11), .ref (adr 12), .ref (adr 13), .ref (adr 14), .ref (adr 15), .ref (adr 17), .ref (adr 16), .int us, .ref (adr 19), .ref (adr 20), .int r0, .int r1, .int r2, .int r3])) := by rw [eG25]; exact va_up_self _ _ _
      refine lv_aload_n hx hb d_R_letGo_119 rfl (lv_at hl 2 rfl) ?_
      refine lv_iload_n hx hb d_R_letGo_120 rfl (lv_at hl 1 rfl) ?_
      refine gw_put (D := D) (cl := vwCl) (ci := 5) (C := "StackRoomModel") (T := T_R) (N := 25) (v := .int (nI (s_sum (m_g σ) P))) (ty := .int) hx hb ht in_R ty_R tk_R nm_R hown hK.1 hP hS f25 rfl 18 (by decide) (ht _ fl_R_R_used) (fun _ h9 => h9) rfl (by decide +kernel) rfl rfl (Nat.le_of_ble_eq_true rfl) d_R_letGo_121 (fun H locs hP hS => ?_)
      obtain ⟨G26, eG26⟩ : ∃ z : gw_G, z = va_up G25 x (some (.inr (5, [.int (nI w), .int (nI n), .int (nI md), .ref (adr 3), .ref (adr 4), .ref (adr 5), .ref (adr 6), .ref (adr 7), .ref (adr 8), .ref (adr 9), .ref (adr 10), .ref (adr 11), .ref (adr 12), .ref (adr 13), .ref (adr 14), .ref (adr 15), .ref (adr 17), .ref (adr 16), .int (nI (s_sum (m_g σ) P)), .ref (adr 19), .ref (adr 20), .int r0, .int r1, .int r2, .int r3]))) := ⟨_, rfl⟩
      replace hP : gw_P D vwCl (gw_A G s.heap.size) G26 H := by rw [eG26]; exact hP
      have f26 : G26 x = some (.inr (5, [.int (nI w), .int (nI n), .int (nI md), .ref (adr 3), .ref (adr 4), .ref (adr 5), .ref (adr 6), .ref (adr 7), .ref (adr 8), .ref (adr 9), .ref (adr 10), .ref (adr 11), .ref (adr 12), .ref (adr 13), .ref (adr 14), .ref (adr 15), .ref (adr 17), .ref (adr 16), .int (nI (s_sum (m_g σ) P)), .ref (adr 19), .ref (adr 20), .int r0, .int r1, .int r2, .int r3])) := by rw [eG26]; exact va_up_self _ _ _
      have hM9 := hM1.swap (nI (s_sum (m_g σ) P))
      have e9 : G26 = va_up G1 x (some (m_cell w n md (m_sw adr) (nI (s_sum (m_g σ) P)) r0 r1 r2 r3)) := by
        rw [eG26, eG25, eG24, va_up_up, va_up_up]
        rfl
      rw [← e9] at hM9
      have hall : ∀ i, s_rch σ i → i ∈ P := fun i hi => (hPi i).mpr ⟨hi, by have := hsl i hi; omega⟩
      obtain ⟨s1, s2, s3, s4, s5, s6, s7, s8, s9⟩ := hE
      have kp : ∀ k, k ≠ 4 → k ≠ 14 → k ≠ 16 → k ≠ 17 → m_sw ar1 k = ar k := fun k h1 h2 h3 h4 => by rw [m_swn _ h3 h4]; exact hkp k h1 h2 h4
      have hE9 : m_Sem (s_rch σ) σ sl b2 (s_sum (m_g σ) P) (m_sw ar1) := by
        refine ⟨fun r hr => by rw [kp 3 (by decide) (by decide) (by decide) (by decide)]; exact s1 r hr, fun i hi => ⟨(s2 i hi).1, by rw [m_swn _ (by decide) (by decide)]; exact hk1 i hi, by rw [kp 5 (by decide) (by decide) (by decide) (by decide)]; exact (s2 i hi).2.2⟩, fun i hi hk => by rw [kp 7 (by decide) (by decide) (by decide) (by decide), kp 8 (by decide) (by decide) (by decide) (by decide)]; exact s3 i hi hk, fun i hi hc => ?_, fun i hi hk => by rw [kp 13 (by decide) (by decide) (by decide) (by decide)]; exact s5 i hi hk, fun i hi hc k hk => by rw [m_sw16]; exact (hb2 i (hall i hi) hc).2.2 k hk, s7, fun i j k q hi hj => hdj i j k q (hall i hi) (hall j hj), by omega⟩
        rw [kp 9 (by decide) (by decide) (by decide) (by decide), kp 10 (by decide) (by decide) (by decide) (by decide), kp 11 (by decide) (by decide) (by decide) (by decide), kp 12 (by decide) (by decide) (by decide) (by decide), kp 15 (by decide) (by decide) (by decide) (by decide), m_swn _ (by decide) (by decide)]
        obtain ⟨t1, t2, t3, t4, t5, t6, t7⟩ := s4 i hi hc
        exact ⟨t1, t2, t3, t4, (hb2 i (hall i hi) hc).1, t6, (hb2 i (hall i hi) hc).2.1⟩
      exact W.vret hx hb hr (fun t ht hW => ⟨⟨G26, rfl, ⟨m_sw adr, m_sw ar1, b2, s_sum (m_g σ) P, hM9, hE9, hT, fun q hq hno => by rw [m_swn _ (by decide) (by decide)]; exact hk0 q (by omega) hno⟩, g_fin ht hP⟩, hS.F ht⟩) hS.2.2 d_R_letGo_124
    · have hlt : o < 4096 := Nat.not_le.mp (fun q => co (show nI 4096 ≤ nI o from (nI_leI (by omega) (by omega)).mpr q))
      refine lv_aload_n hx hb d_R_letGo_11 rfl (lv_at hl 2 rfl) ?_
      refine va_get (D := D) (ci := 5) (C := "StackRoomModel") (T := T_R) (N := 25) (v := .ref (adr 19)) hx hb ht in_R hown hK.1 (hP.one hM1.1) 0 rfl rfl 19 (by decide) (ht _ fl_R_R_seen) (fun _ h9 => h9) rfl d_R_letGo_12 ?_
      refine lv_iload_n hx hb d_R_letGo_15 rfl (lv_at hl 0 rfl) ?_
      refine va_zald hx hb hK.1 (hP.one hM1.a19) 0 4 rfl ht4 (vp_in_nI hlt (by decide)) d_R_letGo_16 ?_
      rw [nI_clamp (by omega)]
      rw [hkp 19 (by decide) (by decide) (by decide)]
      by_cases hex : ∃ i, s_rch σ i ∧ sl i = o
      · obtain ⟨i, hri, hio⟩ := hex
        have hi0 := s_rch_kd hO.1 hri
        have hiP : i ∉ P := fun z => absurd ((hPi i).mp z).2 (by omega)
        have hp2 := s_part_push hp hri hiP
        have hT2 := m_g_W hp2 hO.1
        rw [s_sum_push] at hT2
        have hPi2 : ∀ j, j ∈ P ++ [i] ↔ s_rch σ j ∧ sl j < o + 1 := fun j => by
          constructor
          · intro hj
            rcases List.mem_append.mp hj with q | q
            · exact ⟨((hPi j).mp q).1, by have := ((hPi j).mp q).2; omega⟩
            · rw [List.mem_singleton.mp q]; exact ⟨hri, by omega⟩
          · intro hj
            by_cases e : sl j = o
            · rw [hinj j i hj.1 hri (e.trans hio.symm)]; exact List.mem_append_right _ List.mem_cons_self
            · exact List.mem_append_left _ ((hPi j).mpr ⟨hj.1, by omega⟩)
        have h19 := hse i hri
        rw [hio] at h19
        rw [h19]
        refine lv_if_ne (tgt := 30) hx hb d_R_letGo_17 (by decide) (fun _ => ?_) (fun h => absurd h (by decide))
        refine lv_aload_n hx hb d_R_letGo_30 rfl (lv_at hl 2 rfl) ?_
        refine va_get (D := D) (ci := 5) (C := "StackRoomModel") (T := T_R) (N := 25) (v := .ref (adr 4)) hx hb ht in_R hown hK.1 (hP.one hM1.1) 0 rfl rfl 4 (by decide) (ht _ fl_R_R_kinds) (fun _ h9 => h9) rfl d_R_letGo_31 ?_
        refine lv_iload_n hx hb d_R_letGo_34 rfl (lv_at hl 0 rfl) ?_
        refine va_bald hx hb hK.1 (hP.one hM1.a4) 0 3 rfl ht3 (vp_in_nI hlt (by decide)) d_R_letGo_35 ?_
        rw [nI_clamp (by omega)]
        have h4 := hk1 i hri
        rw [hio] at h4
        rw [h4]
        rcases (hO.1.2.1 i hi0).2.2 with hj | hj | hj
        · rw [hj]
          refine lv_iconst (v := 2) hx hb d_R_letGo_36 (by decide) ?_
          refine lv_icmp_eq (tgt := 95) hx hb d_R_letGo_37 (by decide) (fun _ => ?_) (fun z => absurd rfl z)
          refine lv_iinc (v := nI (o + 1)) (lv' := [(2, .int (nI (o + 1))), (1, .int (nI (s_sum (m_g σ) P))), (0, .ref x)]) hx hb d_R_letGo_95 hl (k := 0) rfl (by rw [← nI_1]; rfl) (by decide) rfl (fun ls hl => ?_)
          refine lv_goto (tgt := 4) hx hb d_R_letGo_98 (by decide) ?_
          have e7 : s_sum (m_g σ) (P ++ [i]) = s_sum (m_g σ) P := by rw [s_sum_push, show m_g σ i = 0 from if_pos hj, Nat.add_zero]
          refine ih (b2 := b2) _ _ _ _ _ _ _ ⟨by omega, by omega, by rw [e7]; exact lv_sub hl [0, 1, 2] rfl, hP, hS, hM1, hp2, hPi2, hk1, fun q hq hno => ?_, fun j hj1 hc hle => hb1 j hj1 hc (by omega), fun j hj1 hc => ?_, fun j1 j2 k q h1 h2 c1 c2 => ?_, hkp⟩
          · by_cases e : q = o
            · exact absurd (hio.trans e.symm) (hno i hri)
            · exact hk0 q (by omega) hno
          · rcases List.mem_append.mp hj1 with q | q
            · rw [e7]; exact hb2 j q hc
            · rw [List.mem_singleton.mp q] at hc; exact absurd hc (fun z => by rcases z with z | z <;> omega)
          · have mem : ∀ j, j ∈ P ++ [i] → s_isC σ j → j ∈ P := fun j hj1 hc => by
              rcases List.mem_append.mp hj1 with q | q
              · exact q
              · rw [List.mem_singleton.mp q] at hc; exact absurd hc (fun z => by rcases z with z | z <;> omega)
            exact hdj j1 j2 k q (mem j1 h1 c1) (mem j2 h2 c2) c1 c2
        · have hc : s_isC σ i := Or.inl hj
          have hgi : m_g σ i = s_rm σ i := if_neg (by omega)
          rw [hgi] at hT2
          have hfx := hE.2.2.2.1 i hri hc
          have hb94 := (hO.1.2.2.2.2.2.2 i hc).2.2.1
          have hbi := hb1 i hri hc (by omega)
          rw [hio] at hbi hfx
          rw [hj]
          refine lv_iconst (v := 2) hx hb d_R_letGo_36 (by decide) ?_
          refine lv_icmp_eq (tgt := 95) hx hb d_R_letGo_37 (by decide) (fun z => absurd z (by decide)) (fun _ => ?_)
          refine lv_iconst (v := 0) hx hb d_R_letGo_40 (by decide) ?_
          refine lv_istore_n (lv' := [(3, .int 0), (2, .int (nI o)), (1, .int (nI (s_sum (m_g σ) P))), (0, .ref x)]) hx hb d_R_letGo_41 rfl hl (by decide) rfl (fun ls hl => ?_)
          obtain ⟨j, ej⟩ : ∃ z : Nat, z = 0 := ⟨_, rfl⟩
          obtain ⟨f2, ef2⟩ : ∃ z : Nat, z = s_rm σ i := ⟨_, rfl⟩
          obtain ⟨G2, eG2⟩ : ∃ z : gw_G, z = G1 := ⟨_, rfl⟩
          obtain ⟨ar2, ear2⟩ : ∃ z : Nat → Nat → Int32, z = ar1 := ⟨_, rfl⟩
          have inv2 : s_rm σ i ≤ j + f2 ∧ j ≤ s_rm σ i ∧ lv_has ls 4 [(3, .int (nI j)), (2, .int (nI o)), (1, .int (nI (s_sum (m_g σ) P))), (0, .ref x)] ∧ gw_P D vwCl (gw_A G s.heap.size) G2 H ∧ va_S (gw_A G s.heap.size) s.heap H locs ∧ m_Arr cI cB cZ x w n md adr us r0 r1 r2 r3 ar2 G2 ∧ (∀ k, k < j → ar2 17 (s_sum (m_g σ) P + k) = m_val sl (s_fl σ i k)) ∧ (∀ q, q < s_sum (m_g σ) P → ar2 17 q = ar1 17 q) ∧ (∀ k, k ≠ 17 → ar2 k = ar1 k) := by
            refine ⟨by omega, by omega, by rw [ej]; exact lv_sub hl [0, 1, 2, 3] rfl, by rw [eG2]; exact hP, hS, by rw [ear2, eG2]; exact hM1, fun k hk => absurd hk (by omega), fun q hq => by rw [ear2], fun k _ => by rw [ear2]⟩
          clear hl hP hS ej ef2 eG2 ear2
          induction f2 generalizing j ls H locs G2 ar2
          case zero =>
            obtain ⟨hf2, hjr, hl, hP, hS, hM2, hcp, hlo, hkq⟩ := inv2
            refine lv_iload_n hx hb d_R_letGo_42 rfl (lv_at hl 0 rfl) ?_
            refine lv_aload_n hx hb d_R_letGo_43 rfl (lv_at hl 3 rfl) ?_
            refine va_get (D := D) (ci := 5) (C := "StackRoomModel") (T := T_R) (N := 25) (v := .ref (adr 15)) hx hb ht in_R hown hK.1 (hP.one hM2.1) 0 rfl rfl 15 (by decide) (ht _ fl_R_R_rooms) (fun _ h9 => h9) rfl d_R_letGo_44 ?_
            refine lv_iload_n hx hb d_R_letGo_47 rfl (lv_at hl 1 rfl) ?_
            refine va_iald hx hb hK.1 (hP.one hM2.a15) 0 2 rfl ht2 (vp_in_nI hlt (by decide)) d_R_letGo_48 ?_
            rw [nI_clamp (by omega)]
            rw [hkq 15 (by decide), hkp 15 (by decide) (by decide) (by decide), hfx.2.2.2.2.2.1]
            refine lv_icmp_ge (tgt := 79) hx hb d_R_letGo_49 (by decide) (fun cr => ?_) (fun cr => ?_)
            · have hge2 : s_rm σ i ≤ j := (nI_leI (by omega) (by omega)).mp cr
              refine lv_aload_n hx hb d_R_letGo_79 rfl (lv_at hl 3 rfl) ?_
              refine va_get (D := D) (ci := 5) (C := "StackRoomModel") (T := T_R) (N := 25) (v := .ref (adr 14)) hx hb ht in_R hown hK.1 (hP.one hM2.1) 0 rfl rfl 14 (by decide) (ht _ fl_R_R_begins) (fun _ h9 => h9) rfl d_R_letGo_80 ?_
              refine lv_iload_n hx hb d_R_letGo_83 rfl (lv_at hl 1 rfl) ?_
              refine lv_iload_n hx hb d_R_letGo_84 rfl (lv_at hl 2 rfl) ?_
              refine gw_iast hx hb hK.1 hP hS 2 hM2.a14 ht2 (vp_in_nI hlt (by decide)) d_R_letGo_85 (fun H locs hP hS => ?_)
              rw [nI_clamp (by omega)] at hP
              obtain ⟨G37, eG37⟩ : ∃ z : gw_G, z = va_up G2 (adr 14) (some (.inl (cI, 4096, .inl (upd (ar2 14) (o) ((nI (s_sum (m_g σ) P))))))) := ⟨_, rfl⟩
              replace hP : gw_P D vwCl (gw_A G s.heap.size) G37 H := by rw [eG37]; exact hP
              obtain ⟨ar37, ear37⟩ : ∃ z : Nat → Nat → Int32, z = va_up ar2 14 (upd (ar2 14) (o) ((nI (s_sum (m_g σ) P)))) := ⟨_, rfl⟩
              have hM37 : m_Arr cI cB cZ x w n md adr (us) (r0) (r1) (r2) (r3) ar37 G37 := by rw [eG37, ear37]; exact hM2.put (k := 14) (by decide) _
              refine lv_iload_n hx hb d_R_letGo_86 rfl (lv_at hl 2 rfl) ?_
              refine lv_aload_n hx hb d_R_letGo_87 rfl (lv_at hl 3 rfl) ?_
              refine va_get (D := D) (ci := 5) (C := "StackRoomModel") (T := T_R) (N := 25) (v := .ref (adr 15)) hx hb ht in_R hown hK.1 (hP.one hM37.1) 0 rfl rfl 15 (by decide) (ht _ fl_R_R_rooms) (fun _ h9 => h9) rfl d_R_letGo_88 ?_
              refine lv_iload_n hx hb d_R_letGo_91 rfl (lv_at hl 1 rfl) ?_
              refine va_iald hx hb hK.1 (hP.one hM37.a15) 0 2 rfl ht2 (vp_in_nI hlt (by decide)) d_R_letGo_92 ?_
              rw [nI_clamp (by omega)]
              rw [ear37, va_up_ne _ _ (by decide)]
              rw [hkq 15 (by decide), hkp 15 (by decide) (by decide) (by decide), hfx.2.2.2.2.2.1]
              refine lv_iadd hx hb d_R_letGo_93 ?_
              refine W.eq (g2 := F0 m 94 ls [.int (nI (s_sum (m_g σ) P + s_rm σ i))]) (by rw [← nI_add]) ?_
              refine lv_istore_n (lv' := [(1, .int (nI (s_sum (m_g σ) P + s_rm σ i))), (3, .int (nI j)), (2, .int (nI o)), (0, .ref x)]) hx hb d_R_letGo_94 rfl hl (by decide) rfl (fun ls hl => ?_)
              refine lv_iinc (v := nI (o + 1)) (lv' := [(2, .int (nI (o + 1))), (1, .int (nI (s_sum (m_g σ) P + s_rm σ i))), (3, .int (nI j)), (0, .ref x)]) hx hb d_R_letGo_95 hl (k := 2) rfl (by rw [← nI_1]; rfl) (by decide) rfl (fun ls hl => ?_)
              refine lv_goto (tgt := 4) hx hb d_R_letGo_98 (by decide) ?_
              have e7 : s_sum (m_g σ) (P ++ [i]) = s_sum (m_g σ) P + s_rm σ i := by rw [s_sum_push, hgi]
              have n4 : ∀ k, k ≠ 14 → ar37 k = ar2 k := fun k h1 => by rw [ear37, va_up_ne _ _ h1]
              have n14 : ∀ q, q ≠ o → ar37 14 q = ar1 14 q := fun q h1 => by rw [ear37, va_up_self, upd_ne _ _ h1, hkq 14 (by decide)]
              have neP : ∀ j1, j1 ∈ P → sl j1 ≠ o := fun j1 h1 => by have := ((hPi j1).mp h1).2; omega
              have nei : ∀ j1, j1 ∈ P → j1 ≠ i := fun j1 h1 z => hiP (z ▸ h1)
              refine ih (b2 := va_up b2 i (s_sum (m_g σ) P)) _ _ _ _ _ _ _ ⟨by omega, by omega, by rw [e7]; exact lv_sub hl [0, 1, 3] rfl, hP, hS, hM37, hp2, hPi2, fun j1 h1 => by rw [n4 4 (by decide), hkq 4 (by decide)]; exact hk1 j1 h1, fun q hq hno => ?_, fun j1 h1 c1 hle => ?_, fun j1 h1 c1 => ?_, fun j1 j2 k q h1 h2 c1 c2 hk hq he => ?_, fun k h1 h2 h3 => by rw [n4 k h2, hkq k h3]; exact hkp k h1 h2 h3⟩
              · rw [n4 4 (by decide), hkq 4 (by decide)]
                by_cases e : q = o
                · exact absurd (hio.trans e.symm) (hno i hri)
                · exact hk0 q (by omega) hno
              · rw [n14 _ (by omega)]
                exact hb1 j1 h1 c1 (by omega)
              · rcases List.mem_append.mp h1 with q | q
                · rw [va_up_ne _ _ (nei j1 q), n14 _ (neP j1 q), n4 17 (by decide)]
                  obtain ⟨u1, u2, u3⟩ := hb2 j1 q c1
                  exact ⟨u1, by omega, fun k hk => by rw [hlo _ (by omega)]; exact u3 k hk⟩
                · have ej1 := List.mem_singleton.mp q
                  rw [ej1, va_up_self, hio, ear37, va_up_self, upd_self, va_up_ne _ _ (by decide), e7]
                  exact ⟨rfl, by omega, fun k hk => hcp k (by omega)⟩
              · have hcase : ∀ j, j ∈ P ++ [i] → j ∈ P ∨ j = i := fun j hj9 => (List.mem_append.mp hj9).elim Or.inl (fun z => Or.inr (List.mem_singleton.mp z))
                rcases hcase j1 h1 with q1 | q1 <;> rcases hcase j2 h2 with q2 | q2
                · rw [va_up_ne _ _ (nei j1 q1), va_up_ne _ _ (nei j2 q2)] at he
                  exact hdj j1 j2 k q q1 q2 c1 c2 hk hq he
                · rw [va_up_ne _ _ (nei j1 q1), q2, va_up_self] at he
                  have := (hb2 j1 q1 c1).2.1
                  omega
                · rw [va_up_ne _ _ (nei j2 q2), q1, va_up_self] at he
                  have := (hb2 j2 q2 c2).2.1
                  omega
                · rw [q1, q2]
            · have hltj : j < s_rm σ i := Nat.not_le.mp (fun z => cr ((nI_leI (by omega) (by omega)).mpr z))
              omega
          case succ f2 ih2 =>
            obtain ⟨hf2, hjr, hl, hP, hS, hM2, hcp, hlo, hkq⟩ := inv2
            refine lv_iload_n hx hb d_R_letGo_42 rfl (lv_at hl 0 rfl) ?_
            refine lv_aload_n hx hb d_R_letGo_43 rfl (lv_at hl 3 rfl) ?_
            refine va_get (D := D) (ci := 5) (C := "StackRoomModel") (T := T_R) (N := 25) (v := .ref (adr 15)) hx hb ht in_R hown hK.1 (hP.one hM2.1) 0 rfl rfl 15 (by decide) (ht _ fl_R_R_rooms) (fun _ h9 => h9) rfl d_R_letGo_44 ?_
            refine lv_iload_n hx hb d_R_letGo_47 rfl (lv_at hl 1 rfl) ?_
            refine va_iald hx hb hK.1 (hP.one hM2.a15) 0 2 rfl ht2 (vp_in_nI hlt (by decide)) d_R_letGo_48 ?_
            rw [nI_clamp (by omega)]
            rw [hkq 15 (by decide), hkp 15 (by decide) (by decide) (by decide), hfx.2.2.2.2.2.1]
            refine lv_icmp_ge (tgt := 79) hx hb d_R_letGo_49 (by decide) (fun cr => ?_) (fun cr => ?_)
            · have hge2 : s_rm σ i ≤ j := (nI_leI (by omega) (by omega)).mp cr
              refine lv_aload_n hx hb d_R_letGo_79 rfl (lv_at hl 3 rfl) ?_
              refine va_get (D := D) (ci := 5) (C := "StackRoomModel") (T := T_R) (N := 25) (v := .ref (adr 14)) hx hb ht in_R hown hK.1 (hP.one hM2.1) 0 rfl rfl 14 (by decide) (ht _ fl_R_R_begins) (fun _ h9 => h9) rfl d_R_letGo_80 ?_
              refine lv_iload_n hx hb d_R_letGo_83 rfl (lv_at hl 1 rfl) ?_
              refine lv_iload_n hx hb d_R_letGo_84 rfl (lv_at hl 2 rfl) ?_
              refine gw_iast hx hb hK.1 hP hS 2 hM2.a14 ht2 (vp_in_nI hlt (by decide)) d_R_letGo_85 (fun H locs hP hS => ?_)
              rw [nI_clamp (by omega)] at hP
              obtain ⟨G48, eG48⟩ : ∃ z : gw_G, z = va_up G2 (adr 14) (some (.inl (cI, 4096, .inl (upd (ar2 14) (o) ((nI (s_sum (m_g σ) P))))))) := ⟨_, rfl⟩
              replace hP : gw_P D vwCl (gw_A G s.heap.size) G48 H := by rw [eG48]; exact hP
              obtain ⟨ar48, ear48⟩ : ∃ z : Nat → Nat → Int32, z = va_up ar2 14 (upd (ar2 14) (o) ((nI (s_sum (m_g σ) P)))) := ⟨_, rfl⟩
              have hM48 : m_Arr cI cB cZ x w n md adr (us) (r0) (r1) (r2) (r3) ar48 G48 := by rw [eG48, ear48]; exact hM2.put (k := 14) (by decide) _
              refine lv_iload_n hx hb d_R_letGo_86 rfl (lv_at hl 2 rfl) ?_
              refine lv_aload_n hx hb d_R_letGo_87 rfl (lv_at hl 3 rfl) ?_
              refine va_get (D := D) (ci := 5) (C := "StackRoomModel") (T := T_R) (N := 25) (v := .ref (adr 15)) hx hb ht in_R hown hK.1 (hP.one hM48.1) 0 rfl rfl 15 (by decide) (ht _ fl_R_R_rooms) (fun _ h9 => h9) rfl d_R_letGo_88 ?_
              refine lv_iload_n hx hb d_R_letGo_91 rfl (lv_at hl 1 rfl) ?_
              refine va_iald hx hb hK.1 (hP.one hM48.a15) 0 2 rfl ht2 (vp_in_nI hlt (by decide)) d_R_letGo_92 ?_
              rw [nI_clamp (by omega)]
              rw [ear48, va_up_ne _ _ (by decide)]
              rw [hkq 15 (by decide), hkp 15 (by decide) (by decide) (by decide), hfx.2.2.2.2.2.1]
              refine lv_iadd hx hb d_R_letGo_93 ?_
              refine W.eq (g2 := F0 m 94 ls [.int (nI (s_sum (m_g σ) P + s_rm σ i))]) (by rw [← nI_add]) ?_
              refine lv_istore_n (lv' := [(1, .int (nI (s_sum (m_g σ) P + s_rm σ i))), (3, .int (nI j)), (2, .int (nI o)), (0, .ref x)]) hx hb d_R_letGo_94 rfl hl (by decide) rfl (fun ls hl => ?_)
              refine lv_iinc (v := nI (o + 1)) (lv' := [(2, .int (nI (o + 1))), (1, .int (nI (s_sum (m_g σ) P + s_rm σ i))), (3, .int (nI j)), (0, .ref x)]) hx hb d_R_letGo_95 hl (k := 2) rfl (by rw [← nI_1]; rfl) (by decide) rfl (fun ls hl => ?_)
              refine lv_goto (tgt := 4) hx hb d_R_letGo_98 (by decide) ?_
              have e7 : s_sum (m_g σ) (P ++ [i]) = s_sum (m_g σ) P + s_rm σ i := by rw [s_sum_push, hgi]
              have n4 : ∀ k, k ≠ 14 → ar48 k = ar2 k := fun k h1 => by rw [ear48, va_up_ne _ _ h1]
              have n14 : ∀ q, q ≠ o → ar48 14 q = ar1 14 q := fun q h1 => by rw [ear48, va_up_self, upd_ne _ _ h1, hkq 14 (by decide)]
              have neP : ∀ j1, j1 ∈ P → sl j1 ≠ o := fun j1 h1 => by have := ((hPi j1).mp h1).2; omega
              have nei : ∀ j1, j1 ∈ P → j1 ≠ i := fun j1 h1 z => hiP (z ▸ h1)
              refine ih (b2 := va_up b2 i (s_sum (m_g σ) P)) _ _ _ _ _ _ _ ⟨by omega, by omega, by rw [e7]; exact lv_sub hl [0, 1, 3] rfl, hP, hS, hM48, hp2, hPi2, fun j1 h1 => by rw [n4 4 (by decide), hkq 4 (by decide)]; exact hk1 j1 h1, fun q hq hno => ?_, fun j1 h1 c1 hle => ?_, fun j1 h1 c1 => ?_, fun j1 j2 k q h1 h2 c1 c2 hk hq he => ?_, fun k h1 h2 h3 => by rw [n4 k h2, hkq k h3]; exact hkp k h1 h2 h3⟩
              · rw [n4 4 (by decide), hkq 4 (by decide)]
                by_cases e : q = o
                · exact absurd (hio.trans e.symm) (hno i hri)
                · exact hk0 q (by omega) hno
              · rw [n14 _ (by omega)]
                exact hb1 j1 h1 c1 (by omega)
              · rcases List.mem_append.mp h1 with q | q
                · rw [va_up_ne _ _ (nei j1 q), n14 _ (neP j1 q), n4 17 (by decide)]
                  obtain ⟨u1, u2, u3⟩ := hb2 j1 q c1
                  exact ⟨u1, by omega, fun k hk => by rw [hlo _ (by omega)]; exact u3 k hk⟩
                · have ej1 := List.mem_singleton.mp q
                  rw [ej1, va_up_self, hio, ear48, va_up_self, upd_self, va_up_ne _ _ (by decide), e7]
                  exact ⟨rfl, by omega, fun k hk => hcp k (by omega)⟩
              · have hcase : ∀ j, j ∈ P ++ [i] → j ∈ P ∨ j = i := fun j hj9 => (List.mem_append.mp hj9).elim Or.inl (fun z => Or.inr (List.mem_singleton.mp z))
                rcases hcase j1 h1 with q1 | q1 <;> rcases hcase j2 h2 with q2 | q2
                · rw [va_up_ne _ _ (nei j1 q1), va_up_ne _ _ (nei j2 q2)] at he
                  exact hdj j1 j2 k q q1 q2 c1 c2 hk hq he
                · rw [va_up_ne _ _ (nei j1 q1), q2, va_up_self] at he
                  have := (hb2 j1 q1 c1).2.1
                  omega
                · rw [va_up_ne _ _ (nei j2 q2), q1, va_up_self] at he
                  have := (hb2 j2 q2 c2).2.1
                  omega
                · rw [q1, q2]
            · have hltj : j < s_rm σ i := Nat.not_le.mp (fun z => cr ((nI_leI (by omega) (by omega)).mpr z))
              refine lv_aload_n hx hb d_R_letGo_52 rfl (lv_at hl 3 rfl) ?_
              refine va_get (D := D) (ci := 5) (C := "StackRoomModel") (T := T_R) (N := 25) (v := .ref (adr 17)) hx hb ht in_R hown hK.1 (hP.one hM2.1) 0 rfl rfl 17 (by decide) (ht _ fl_R_R_other) (fun _ h9 => h9) rfl d_R_letGo_53 ?_
              refine lv_iload_n hx hb d_R_letGo_56 rfl (lv_at hl 2 rfl) ?_
              refine lv_iload_n hx hb d_R_letGo_57 rfl (lv_at hl 0 rfl) ?_
              refine lv_iadd hx hb d_R_letGo_58 ?_
              refine W.eq (g2 := F0 m 59 ls [.int (nI (s_sum (m_g σ) P + j)), .ref (adr 17)]) (by rw [← nI_add]) ?_
              refine lv_aload_n hx hb d_R_letGo_59 rfl (lv_at hl 3 rfl) ?_
              refine va_get (D := D) (ci := 5) (C := "StackRoomModel") (T := T_R) (N := 25) (v := .ref (adr 16)) hx hb ht in_R hown hK.1 (hP.one hM2.1) 0 rfl rfl 16 (by decide) (ht _ fl_R_R_fields) (fun _ h9 => h9) rfl d_R_letGo_60 ?_
              refine lv_aload_n hx hb d_R_letGo_63 rfl (lv_at hl 3 rfl) ?_
              refine va_get (D := D) (ci := 5) (C := "StackRoomModel") (T := T_R) (N := 25) (v := .ref (adr 14)) hx hb ht in_R hown hK.1 (hP.one hM2.1) 0 rfl rfl 14 (by decide) (ht _ fl_R_R_begins) (fun _ h9 => h9) rfl d_R_letGo_64 ?_
              refine lv_iload_n hx hb d_R_letGo_67 rfl (lv_at hl 1 rfl) ?_
              refine va_iald hx hb hK.1 (hP.one hM2.a14) 0 2 rfl ht2 (vp_in_nI hlt (by decide)) d_R_letGo_68 ?_
              rw [nI_clamp (by omega), hkq 14 (by decide), hbi]
              refine lv_iload_n hx hb d_R_letGo_69 rfl (lv_at hl 0 rfl) ?_
              refine lv_iadd hx hb d_R_letGo_70 ?_
              refine W.eq (g2 := F0 m 71 ls [.int (nI (bg i + j)), .ref (adr 16), .int (nI (s_sum (m_g σ) P + j)), .ref (adr 17)]) (by rw [← nI_add (bg i) j]) ?_
              refine va_iald hx hb hK.1 (hP.one hM2.a16) 0 2 rfl ht2 (vp_in_nI (by omega) (by decide)) d_R_letGo_71 ?_
              rw [nI_clamp (by omega), hkq 16 (by decide), hkp 16 (by decide) (by decide) (by decide), hE.2.2.2.2.2.1 i hri hc j hltj]
              refine gw_iast hx hb hK.1 hP hS 2 hM2.a17 ht2 (vp_in_nI (show s_sum (m_g σ) P + j < 32768 by omega) (by decide)) d_R_letGo_72 (fun H locs hP hS => ?_)
              rw [nI_clamp (by omega)] at hP
              obtain ⟨G49, eG49⟩ : ∃ z : gw_G, z = va_up G2 (adr 17) (some (.inl (cI, 32768, .inl (upd (ar2 17) (s_sum (m_g σ) P + j) ((m_val sl (s_fl σ i j))))))) := ⟨_, rfl⟩
              replace hP : gw_P D vwCl (gw_A G s.heap.size) G49 H := by rw [eG49]; exact hP
              obtain ⟨ar49, ear49⟩ : ∃ z : Nat → Nat → Int32, z = va_up ar2 17 (upd (ar2 17) (s_sum (m_g σ) P + j) ((m_val sl (s_fl σ i j)))) := ⟨_, rfl⟩
              have hM49 : m_Arr cI cB cZ x w n md adr (us) (r0) (r1) (r2) (r3) ar49 G49 := by rw [eG49, ear49]; exact hM2.put (k := 17) (by decide) _
              refine lv_iinc (v := nI (j + 1)) (lv' := [(3, .int (nI (j + 1))), (2, .int (nI o)), (1, .int (nI (s_sum (m_g σ) P))), (0, .ref x)]) hx hb d_R_letGo_73 hl (k := 0) rfl (by rw [← nI_1]; rfl) (by decide) rfl (fun ls hl => ?_)
              refine lv_goto (tgt := 42) hx hb d_R_letGo_76 (by decide) ?_
              refine ih2 _ _ _ _ _ _ ⟨by omega, by omega, lv_sub hl [0, 1, 2, 3] rfl, hP, hS, hM49, fun k hk => ?_, fun q hq => ?_, fun k h1 => by rw [ear49, va_up_ne _ _ h1]; exact hkq k h1⟩
              · rw [ear49, va_up_self]
                by_cases e : k = j
                · rw [e, upd_self]
                · rw [upd_ne _ _ (by omega)]; exact hcp k (by omega)
              · rw [ear49, va_up_self, upd_ne _ _ (by omega)]; exact hlo q hq
        · have hc : s_isC σ i := Or.inr hj
          have hgi : m_g σ i = s_rm σ i := if_neg (by omega)
          rw [hgi] at hT2
          have hfx := hE.2.2.2.1 i hri hc
          have hb94 := (hO.1.2.2.2.2.2.2 i hc).2.2.1
          have hbi := hb1 i hri hc (by omega)
          rw [hio] at hbi hfx
          rw [hj]
          refine lv_iconst (v := 2) hx hb d_R_letGo_36 (by decide) ?_
          refine lv_icmp_eq (tgt := 95) hx hb d_R_letGo_37 (by decide) (fun z => absurd z (by decide)) (fun _ => ?_)
          refine lv_iconst (v := 0) hx hb d_R_letGo_40 (by decide) ?_
          refine lv_istore_n (lv' := [(3, .int 0), (2, .int (nI o)), (1, .int (nI (s_sum (m_g σ) P))), (0, .ref x)]) hx hb d_R_letGo_41 rfl hl (by decide) rfl (fun ls hl => ?_)
          obtain ⟨j, ej⟩ : ∃ z : Nat, z = 0 := ⟨_, rfl⟩
          obtain ⟨f2, ef2⟩ : ∃ z : Nat, z = s_rm σ i := ⟨_, rfl⟩
          obtain ⟨G2, eG2⟩ : ∃ z : gw_G, z = G1 := ⟨_, rfl⟩
          obtain ⟨ar2, ear2⟩ : ∃ z : Nat → Nat → Int32, z = ar1 := ⟨_, rfl⟩
          have inv2 : s_rm σ i ≤ j + f2 ∧ j ≤ s_rm σ i ∧ lv_has ls 4 [(3, .int (nI j)), (2, .int (nI o)), (1, .int (nI (s_sum (m_g σ) P))), (0, .ref x)] ∧ gw_P D vwCl (gw_A G s.heap.size) G2 H ∧ va_S (gw_A G s.heap.size) s.heap H locs ∧ m_Arr cI cB cZ x w n md adr us r0 r1 r2 r3 ar2 G2 ∧ (∀ k, k < j → ar2 17 (s_sum (m_g σ) P + k) = m_val sl (s_fl σ i k)) ∧ (∀ q, q < s_sum (m_g σ) P → ar2 17 q = ar1 17 q) ∧ (∀ k, k ≠ 17 → ar2 k = ar1 k) := by
            refine ⟨by omega, by omega, by rw [ej]; exact lv_sub hl [0, 1, 2, 3] rfl, by rw [eG2]; exact hP, hS, by rw [ear2, eG2]; exact hM1, fun k hk => absurd hk (by omega), fun q hq => by rw [ear2], fun k _ => by rw [ear2]⟩
          clear hl hP hS ej ef2 eG2 ear2
          induction f2 generalizing j ls H locs G2 ar2
          case zero =>
            obtain ⟨hf2, hjr, hl, hP, hS, hM2, hcp, hlo, hkq⟩ := inv2
            refine lv_iload_n hx hb d_R_letGo_42 rfl (lv_at hl 0 rfl) ?_
            refine lv_aload_n hx hb d_R_letGo_43 rfl (lv_at hl 3 rfl) ?_
            refine va_get (D := D) (ci := 5) (C := "StackRoomModel") (T := T_R) (N := 25) (v := .ref (adr 15)) hx hb ht in_R hown hK.1 (hP.one hM2.1) 0 rfl rfl 15 (by decide) (ht _ fl_R_R_rooms) (fun _ h9 => h9) rfl d_R_letGo_44 ?_
            refine lv_iload_n hx hb d_R_letGo_47 rfl (lv_at hl 1 rfl) ?_
            refine va_iald hx hb hK.1 (hP.one hM2.a15) 0 2 rfl ht2 (vp_in_nI hlt (by decide)) d_R_letGo_48 ?_
            rw [nI_clamp (by omega)]
            rw [hkq 15 (by decide), hkp 15 (by decide) (by decide) (by decide), hfx.2.2.2.2.2.1]
            refine lv_icmp_ge (tgt := 79) hx hb d_R_letGo_49 (by decide) (fun cr => ?_) (fun cr => ?_)
            · have hge2 : s_rm σ i ≤ j := (nI_leI (by omega) (by omega)).mp cr
              refine lv_aload_n hx hb d_R_letGo_79 rfl (lv_at hl 3 rfl) ?_
              refine va_get (D := D) (ci := 5) (C := "StackRoomModel") (T := T_R) (N := 25) (v := .ref (adr 14)) hx hb ht in_R hown hK.1 (hP.one hM2.1) 0 rfl rfl 14 (by decide) (ht _ fl_R_R_begins) (fun _ h9 => h9) rfl d_R_letGo_80 ?_
              refine lv_iload_n hx hb d_R_letGo_83 rfl (lv_at hl 1 rfl) ?_
              refine lv_iload_n hx hb d_R_letGo_84 rfl (lv_at hl 2 rfl) ?_
              refine gw_iast hx hb hK.1 hP hS 2 hM2.a14 ht2 (vp_in_nI hlt (by decide)) d_R_letGo_85 (fun H locs hP hS => ?_)
              rw [nI_clamp (by omega)] at hP
              obtain ⟨G60, eG60⟩ : ∃ z : gw_G, z = va_up G2 (adr 14) (some (.inl (cI, 4096, .inl (upd (ar2 14) (o) ((nI (s_sum (m_g σ) P))))))) := ⟨_, rfl⟩
              replace hP : gw_P D vwCl (gw_A G s.heap.size) G60 H := by rw [eG60]; exact hP
              obtain ⟨ar60, ear60⟩ : ∃ z : Nat → Nat → Int32, z = va_up ar2 14 (upd (ar2 14) (o) ((nI (s_sum (m_g σ) P)))) := ⟨_, rfl⟩
              have hM60 : m_Arr cI cB cZ x w n md adr (us) (r0) (r1) (r2) (r3) ar60 G60 := by rw [eG60, ear60]; exact hM2.put (k := 14) (by decide) _
              refine lv_iload_n hx hb d_R_letGo_86 rfl (lv_at hl 2 rfl) ?_
              refine lv_aload_n hx hb d_R_letGo_87 rfl (lv_at hl 3 rfl) ?_
              refine va_get (D := D) (ci := 5) (C := "StackRoomModel") (T := T_R) (N := 25) (v := .ref (adr 15)) hx hb ht in_R hown hK.1 (hP.one hM60.1) 0 rfl rfl 15 (by decide) (ht _ fl_R_R_rooms) (fun _ h9 => h9) rfl d_R_letGo_88 ?_
              refine lv_iload_n hx hb d_R_letGo_91 rfl (lv_at hl 1 rfl) ?_
              refine va_iald hx hb hK.1 (hP.one hM60.a15) 0 2 rfl ht2 (vp_in_nI hlt (by decide)) d_R_letGo_92 ?_
              rw [nI_clamp (by omega)]
              rw [ear60, va_up_ne _ _ (by decide)]
              rw [hkq 15 (by decide), hkp 15 (by decide) (by decide) (by decide), hfx.2.2.2.2.2.1]
              refine lv_iadd hx hb d_R_letGo_93 ?_
              refine W.eq (g2 := F0 m 94 ls [.int (nI (s_sum (m_g σ) P + s_rm σ i))]) (by rw [← nI_add]) ?_
              refine lv_istore_n (lv' := [(1, .int (nI (s_sum (m_g σ) P + s_rm σ i))), (3, .int (nI j)), (2, .int (nI o)), (0, .ref x)]) hx hb d_R_letGo_94 rfl hl (by decide) rfl (fun ls hl => ?_)
              refine lv_iinc (v := nI (o + 1)) (lv' := [(2, .int (nI (o + 1))), (1, .int (nI (s_sum (m_g σ) P + s_rm σ i))), (3, .int (nI j)), (0, .ref x)]) hx hb d_R_letGo_95 hl (k := 2) rfl (by rw [← nI_1]; rfl) (by decide) rfl (fun ls hl => ?_)
              refine lv_goto (tgt := 4) hx hb d_R_letGo_98 (by decide) ?_
              have e7 : s_sum (m_g σ) (P ++ [i]) = s_sum (m_g σ) P + s_rm σ i := by rw [s_sum_push, hgi]
              have n4 : ∀ k, k ≠ 14 → ar60 k = ar2 k := fun k h1 => by rw [ear60, va_up_ne _ _ h1]
              have n14 : ∀ q, q ≠ o → ar60 14 q = ar1 14 q := fun q h1 => by rw [ear60, va_up_self, upd_ne _ _ h1, hkq 14 (by decide)]
              have neP : ∀ j1, j1 ∈ P → sl j1 ≠ o := fun j1 h1 => by have := ((hPi j1).mp h1).2; omega
              have nei : ∀ j1, j1 ∈ P → j1 ≠ i := fun j1 h1 z => hiP (z ▸ h1)
              refine ih (b2 := va_up b2 i (s_sum (m_g σ) P)) _ _ _ _ _ _ _ ⟨by omega, by omega, by rw [e7]; exact lv_sub hl [0, 1, 3] rfl, hP, hS, hM60, hp2, hPi2, fun j1 h1 => by rw [n4 4 (by decide), hkq 4 (by decide)]; exact hk1 j1 h1, fun q hq hno => ?_, fun j1 h1 c1 hle => ?_, fun j1 h1 c1 => ?_, fun j1 j2 k q h1 h2 c1 c2 hk hq he => ?_, fun k h1 h2 h3 => by rw [n4 k h2, hkq k h3]; exact hkp k h1 h2 h3⟩
              · rw [n4 4 (by decide), hkq 4 (by decide)]
                by_cases e : q = o
                · exact absurd (hio.trans e.symm) (hno i hri)
                · exact hk0 q (by omega) hno
              · rw [n14 _ (by omega)]
                exact hb1 j1 h1 c1 (by omega)
              · rcases List.mem_append.mp h1 with q | q
                · rw [va_up_ne _ _ (nei j1 q), n14 _ (neP j1 q), n4 17 (by decide)]
                  obtain ⟨u1, u2, u3⟩ := hb2 j1 q c1
                  exact ⟨u1, by omega, fun k hk => by rw [hlo _ (by omega)]; exact u3 k hk⟩
                · have ej1 := List.mem_singleton.mp q
                  rw [ej1, va_up_self, hio, ear60, va_up_self, upd_self, va_up_ne _ _ (by decide), e7]
                  exact ⟨rfl, by omega, fun k hk => hcp k (by omega)⟩
              · have hcase : ∀ j, j ∈ P ++ [i] → j ∈ P ∨ j = i := fun j hj9 => (List.mem_append.mp hj9).elim Or.inl (fun z => Or.inr (List.mem_singleton.mp z))
                rcases hcase j1 h1 with q1 | q1 <;> rcases hcase j2 h2 with q2 | q2
                · rw [va_up_ne _ _ (nei j1 q1), va_up_ne _ _ (nei j2 q2)] at he
                  exact hdj j1 j2 k q q1 q2 c1 c2 hk hq he
                · rw [va_up_ne _ _ (nei j1 q1), q2, va_up_self] at he
                  have := (hb2 j1 q1 c1).2.1
                  omega
                · rw [va_up_ne _ _ (nei j2 q2), q1, va_up_self] at he
                  have := (hb2 j2 q2 c2).2.1
                  omega
                · rw [q1, q2]
            · have hltj : j < s_rm σ i := Nat.not_le.mp (fun z => cr ((nI_leI (by omega) (by omega)).mpr z))
              omega
          case succ f2 ih2 =>
            obtain ⟨hf2, hjr, hl, hP, hS, hM2, hcp, hlo, hkq⟩ := inv2
            refine lv_iload_n hx hb d_R_letGo_42 rfl (lv_at hl 0 rfl) ?_
            refine lv_aload_n hx hb d_R_letGo_43 rfl (lv_at hl 3 rfl) ?_
            refine va_get (D := D) (ci := 5) (C := "StackRoomModel") (T := T_R) (N := 25) (v := .ref (adr 15)) hx hb ht in_R hown hK.1 (hP.one hM2.1) 0 rfl rfl 15 (by decide) (ht _ fl_R_R_rooms) (fun _ h9 => h9) rfl d_R_letGo_44 ?_
            refine lv_iload_n hx hb d_R_letGo_47 rfl (lv_at hl 1 rfl) ?_
            refine va_iald hx hb hK.1 (hP.one hM2.a15) 0 2 rfl ht2 (vp_in_nI hlt (by decide)) d_R_letGo_48 ?_
            rw [nI_clamp (by omega)]
            rw [hkq 15 (by decide), hkp 15 (by decide) (by decide) (by decide), hfx.2.2.2.2.2.1]
            refine lv_icmp_ge (tgt := 79) hx hb d_R_letGo_49 (by decide) (fun cr => ?_) (fun cr => ?_)
            · have hge2 : s_rm σ i ≤ j := (nI_leI (by omega) (by omega)).mp cr
              refine lv_aload_n hx hb d_R_letGo_79 rfl (lv_at hl 3 rfl) ?_
              refine va_get (D := D) (ci := 5) (C := "StackRoomModel") (T := T_R) (N := 25) (v := .ref (adr 14)) hx hb ht in_R hown hK.1 (hP.one hM2.1) 0 rfl rfl 14 (by decide) (ht _ fl_R_R_begins) (fun _ h9 => h9) rfl d_R_letGo_80 ?_
              refine lv_iload_n hx hb d_R_letGo_83 rfl (lv_at hl 1 rfl) ?_
              refine lv_iload_n hx hb d_R_letGo_84 rfl (lv_at hl 2 rfl) ?_
              refine gw_iast hx hb hK.1 hP hS 2 hM2.a14 ht2 (vp_in_nI hlt (by decide)) d_R_letGo_85 (fun H locs hP hS => ?_)
              rw [nI_clamp (by omega)] at hP
              obtain ⟨G71, eG71⟩ : ∃ z : gw_G, z = va_up G2 (adr 14) (some (.inl (cI, 4096, .inl (upd (ar2 14) (o) ((nI (s_sum (m_g σ) P))))))) := ⟨_, rfl⟩
              replace hP : gw_P D vwCl (gw_A G s.heap.size) G71 H := by rw [eG71]; exact hP
              obtain ⟨ar71, ear71⟩ : ∃ z : Nat → Nat → Int32, z = va_up ar2 14 (upd (ar2 14) (o) ((nI (s_sum (m_g σ) P)))) := ⟨_, rfl⟩
              have hM71 : m_Arr cI cB cZ x w n md adr (us) (r0) (r1) (r2) (r3) ar71 G71 := by rw [eG71, ear71]; exact hM2.put (k := 14) (by decide) _
              refine lv_iload_n hx hb d_R_letGo_86 rfl (lv_at hl 2 rfl) ?_
              refine lv_aload_n hx hb d_R_letGo_87 rfl (lv_at hl 3 rfl) ?_
              refine va_get (D := D) (ci := 5) (C := "StackRoomModel") (T := T_R) (N := 25) (v := .ref (adr 15)) hx hb ht in_R hown hK.1 (hP.one hM71.1) 0 rfl rfl 15 (by decide) (ht _ fl_R_R_rooms) (fun _ h9 => h9) rfl d_R_letGo_88 ?_
              refine lv_iload_n hx hb d_R_letGo_91 rfl (lv_at hl 1 rfl) ?_
              refine va_iald hx hb hK.1 (hP.one hM71.a15) 0 2 rfl ht2 (vp_in_nI hlt (by decide)) d_R_letGo_92 ?_
              rw [nI_clamp (by omega)]
              rw [ear71, va_up_ne _ _ (by decide)]
              rw [hkq 15 (by decide), hkp 15 (by decide) (by decide) (by decide), hfx.2.2.2.2.2.1]
              refine lv_iadd hx hb d_R_letGo_93 ?_
              refine W.eq (g2 := F0 m 94 ls [.int (nI (s_sum (m_g σ) P + s_rm σ i))]) (by rw [← nI_add]) ?_
              refine lv_istore_n (lv' := [(1, .int (nI (s_sum (m_g σ) P + s_rm σ i))), (3, .int (nI j)), (2, .int (nI o)), (0, .ref x)]) hx hb d_R_letGo_94 rfl hl (by decide) rfl (fun ls hl => ?_)
              refine lv_iinc (v := nI (o + 1)) (lv' := [(2, .int (nI (o + 1))), (1, .int (nI (s_sum (m_g σ) P + s_rm σ i))), (3, .int (nI j)), (0, .ref x)]) hx hb d_R_letGo_95 hl (k := 2) rfl (by rw [← nI_1]; rfl) (by decide) rfl (fun ls hl => ?_)
              refine lv_goto (tgt := 4) hx hb d_R_letGo_98 (by decide) ?_
              have e7 : s_sum (m_g σ) (P ++ [i]) = s_sum (m_g σ) P + s_rm σ i := by rw [s_sum_push, hgi]
              have n4 : ∀ k, k ≠ 14 → ar71 k = ar2 k := fun k h1 => by rw [ear71, va_up_ne _ _ h1]
              have n14 : ∀ q, q ≠ o → ar71 14 q = ar1 14 q := fun q h1 => by rw [ear71, va_up_self, upd_ne _ _ h1, hkq 14 (by decide)]
              have neP : ∀ j1, j1 ∈ P → sl j1 ≠ o := fun j1 h1 => by have := ((hPi j1).mp h1).2; omega
              have nei : ∀ j1, j1 ∈ P → j1 ≠ i := fun j1 h1 z => hiP (z ▸ h1)
              refine ih (b2 := va_up b2 i (s_sum (m_g σ) P)) _ _ _ _ _ _ _ ⟨by omega, by omega, by rw [e7]; exact lv_sub hl [0, 1, 3] rfl, hP, hS, hM71, hp2, hPi2, fun j1 h1 => by rw [n4 4 (by decide), hkq 4 (by decide)]; exact hk1 j1 h1, fun q hq hno => ?_, fun j1 h1 c1 hle => ?_, fun j1 h1 c1 => ?_, fun j1 j2 k q h1 h2 c1 c2 hk hq he => ?_, fun k h1 h2 h3 => by rw [n4 k h2, hkq k h3]; exact hkp k h1 h2 h3⟩
              · rw [n4 4 (by decide), hkq 4 (by decide)]
                by_cases e : q = o
                · exact absurd (hio.trans e.symm) (hno i hri)
                · exact hk0 q (by omega) hno
              · rw [n14 _ (by omega)]
                exact hb1 j1 h1 c1 (by omega)
              · rcases List.mem_append.mp h1 with q | q
                · rw [va_up_ne _ _ (nei j1 q), n14 _ (neP j1 q), n4 17 (by decide)]
                  obtain ⟨u1, u2, u3⟩ := hb2 j1 q c1
                  exact ⟨u1, by omega, fun k hk => by rw [hlo _ (by omega)]; exact u3 k hk⟩
                · have ej1 := List.mem_singleton.mp q
                  rw [ej1, va_up_self, hio, ear71, va_up_self, upd_self, va_up_ne _ _ (by decide), e7]
                  exact ⟨rfl, by omega, fun k hk => hcp k (by omega)⟩
              · have hcase : ∀ j, j ∈ P ++ [i] → j ∈ P ∨ j = i := fun j hj9 => (List.mem_append.mp hj9).elim Or.inl (fun z => Or.inr (List.mem_singleton.mp z))
                rcases hcase j1 h1 with q1 | q1 <;> rcases hcase j2 h2 with q2 | q2
                · rw [va_up_ne _ _ (nei j1 q1), va_up_ne _ _ (nei j2 q2)] at he
                  exact hdj j1 j2 k q q1 q2 c1 c2 hk hq he
                · rw [va_up_ne _ _ (nei j1 q1), q2, va_up_self] at he
                  have := (hb2 j1 q1 c1).2.1
                  omega
                · rw [va_up_ne _ _ (nei j2 q2), q1, va_up_self] at he
                  have := (hb2 j2 q2 c2).2.1
                  omega
                · rw [q1, q2]
            · have hltj : j < s_rm σ i := Nat.not_le.mp (fun z => cr ((nI_leI (by omega) (by omega)).mpr z))
              refine lv_aload_n hx hb d_R_letGo_52 rfl (lv_at hl 3 rfl) ?_
              refine va_get (D := D) (ci := 5) (C := "StackRoomModel") (T := T_R) (N := 25) (v := .ref (adr 17)) hx hb ht in_R hown hK.1 (hP.one hM2.1) 0 rfl rfl 17 (by decide) (ht _ fl_R_R_other) (fun _ h9 => h9) rfl d_R_letGo_53 ?_
              refine lv_iload_n hx hb d_R_letGo_56 rfl (lv_at hl 2 rfl) ?_
              refine lv_iload_n hx hb d_R_letGo_57 rfl (lv_at hl 0 rfl) ?_
              refine lv_iadd hx hb d_R_letGo_58 ?_
              refine W.eq (g2 := F0 m 59 ls [.int (nI (s_sum (m_g σ) P + j)), .ref (adr 17)]) (by rw [← nI_add]) ?_
              refine lv_aload_n hx hb d_R_letGo_59 rfl (lv_at hl 3 rfl) ?_
              refine va_get (D := D) (ci := 5) (C := "StackRoomModel") (T := T_R) (N := 25) (v := .ref (adr 16)) hx hb ht in_R hown hK.1 (hP.one hM2.1) 0 rfl rfl 16 (by decide) (ht _ fl_R_R_fields) (fun _ h9 => h9) rfl d_R_letGo_60 ?_
              refine lv_aload_n hx hb d_R_letGo_63 rfl (lv_at hl 3 rfl) ?_
              refine va_get (D := D) (ci := 5) (C := "StackRoomModel") (T := T_R) (N := 25) (v := .ref (adr 14)) hx hb ht in_R hown hK.1 (hP.one hM2.1) 0 rfl rfl 14 (by decide) (ht _ fl_R_R_begins) (fun _ h9 => h9) rfl d_R_letGo_64 ?_
              refine lv_iload_n hx hb d_R_letGo_67 rfl (lv_at hl 1 rfl) ?_
              refine va_iald hx hb hK.1 (hP.one hM2.a14) 0 2 rfl ht2 (vp_in_nI hlt (by decide)) d_R_letGo_68 ?_
              rw [nI_clamp (by omega), hkq 14 (by decide), hbi]
              refine lv_iload_n hx hb d_R_letGo_69 rfl (lv_at hl 0 rfl) ?_
              refine lv_iadd hx hb d_R_letGo_70 ?_
              refine W.eq (g2 := F0 m 71 ls [.int (nI (bg i + j)), .ref (adr 16), .int (nI (s_sum (m_g σ) P + j)), .ref (adr 17)]) (by rw [← nI_add (bg i) j]) ?_
              refine va_iald hx hb hK.1 (hP.one hM2.a16) 0 2 rfl ht2 (vp_in_nI (by omega) (by decide)) d_R_letGo_71 ?_
              rw [nI_clamp (by omega), hkq 16 (by decide), hkp 16 (by decide) (by decide) (by decide), hE.2.2.2.2.2.1 i hri hc j hltj]
              refine gw_iast hx hb hK.1 hP hS 2 hM2.a17 ht2 (vp_in_nI (show s_sum (m_g σ) P + j < 32768 by omega) (by decide)) d_R_letGo_72 (fun H locs hP hS => ?_)
              rw [nI_clamp (by omega)] at hP
              obtain ⟨G72, eG72⟩ : ∃ z : gw_G, z = va_up G2 (adr 17) (some (.inl (cI, 32768, .inl (upd (ar2 17) (s_sum (m_g σ) P + j) ((m_val sl (s_fl σ i j))))))) := ⟨_, rfl⟩
              replace hP : gw_P D vwCl (gw_A G s.heap.size) G72 H := by rw [eG72]; exact hP
              obtain ⟨ar72, ear72⟩ : ∃ z : Nat → Nat → Int32, z = va_up ar2 17 (upd (ar2 17) (s_sum (m_g σ) P + j) ((m_val sl (s_fl σ i j)))) := ⟨_, rfl⟩
              have hM72 : m_Arr cI cB cZ x w n md adr (us) (r0) (r1) (r2) (r3) ar72 G72 := by rw [eG72, ear72]; exact hM2.put (k := 17) (by decide) _
              refine lv_iinc (v := nI (j + 1)) (lv' := [(3, .int (nI (j + 1))), (2, .int (nI o)), (1, .int (nI (s_sum (m_g σ) P))), (0, .ref x)]) hx hb d_R_letGo_73 hl (k := 0) rfl (by rw [← nI_1]; rfl) (by decide) rfl (fun ls hl => ?_)
              refine lv_goto (tgt := 42) hx hb d_R_letGo_76 (by decide) ?_
              refine ih2 _ _ _ _ _ _ ⟨by omega, by omega, lv_sub hl [0, 1, 2, 3] rfl, hP, hS, hM72, fun k hk => ?_, fun q hq => ?_, fun k h1 => by rw [ear72, va_up_ne _ _ h1]; exact hkq k h1⟩
              · rw [ear72, va_up_self]
                by_cases e : k = j
                · rw [e, upd_self]
                · rw [upd_ne _ _ (by omega)]; exact hcp k (by omega)
              · rw [ear72, va_up_self, upd_ne _ _ (by omega)]; exact hlo q hq
      · have hno : ∀ i, s_rch σ i → sl i ≠ o := fun i hi z => hex ⟨i, hi, z⟩
        rw [hs0 o hlt hno]
        refine lv_if_ne (tgt := 30) hx hb d_R_letGo_17 (by decide) (fun h => absurd h (by decide)) (fun _ => ?_)
        refine lv_aload_n hx hb d_R_letGo_20 rfl (lv_at hl 2 rfl) ?_
        refine va_get (D := D) (ci := 5) (C := "StackRoomModel") (T := T_R) (N := 25) (v := .ref (adr 4)) hx hb ht in_R hown hK.1 (hP.one hM1.1) 0 rfl rfl 4 (by decide) (ht _ fl_R_R_kinds) (fun _ h9 => h9) rfl d_R_letGo_21 ?_
        refine lv_iload_n hx hb d_R_letGo_24 rfl (lv_at hl 0 rfl) ?_
        refine lv_iconst (v := 0) hx hb d_R_letGo_25 (by decide) ?_
        refine gw_bast hx hb hK.1 hP hS 3 hM1.a4 ht3 (vp_in_nI hlt (by decide)) d_R_letGo_26 (fun H locs hP hS => ?_)
        rw [nI_clamp (by omega), b_0] at hP
        obtain ⟨G73, eG73⟩ : ∃ z : gw_G, z = va_up G1 (adr 4) (some (.inl (cB, 4096, .inl (upd (ar1 4) (o) (0))))) := ⟨_, rfl⟩
        replace hP : gw_P D vwCl (gw_A G s.heap.size) G73 H := by rw [eG73]; exact hP
        obtain ⟨ar73, ear73⟩ : ∃ z : Nat → Nat → Int32, z = va_up ar1 4 (upd (ar1 4) (o) (0)) := ⟨_, rfl⟩
        have hM73 : m_Arr cI cB cZ x w n md adr (us) (r0) (r1) (r2) (r3) ar73 G73 := by rw [eG73, ear73]; exact hM1.put (k := 4) (by decide) _
        refine lv_goto (tgt := 95) hx hb d_R_letGo_27 (by decide) ?_
        refine lv_iinc (v := nI (o + 1)) (lv' := [(2, .int (nI (o + 1))), (1, .int (nI (s_sum (m_g σ) P))), (0, .ref x)]) hx hb d_R_letGo_95 hl (k := 0) rfl (by rw [← nI_1]; rfl) (by decide) rfl (fun ls hl => ?_)
        refine lv_goto (tgt := 4) hx hb d_R_letGo_98 (by decide) ?_
        have hPi2 : ∀ j, j ∈ P ↔ s_rch σ j ∧ sl j < o + 1 := fun j => ⟨fun hj => ⟨((hPi j).mp hj).1, by have := ((hPi j).mp hj).2; omega⟩, fun hj => (hPi j).mpr ⟨hj.1, by have := hno j hj.1; omega⟩⟩
        have n4 : ∀ k, k ≠ 4 → ar73 k = ar1 k := fun k h1 => by rw [ear73, va_up_ne _ _ h1]
        refine ih _ _ _ _ _ _ _ _ ⟨by omega, by omega, lv_sub hl [0, 1, 2] rfl, hP, hS, hM73, hp, hPi2, fun j1 h1 => ?_, fun q hq hnq => ?_, fun j1 h1 c1 hle => by rw [n4 14 (by decide)]; exact hb1 j1 h1 c1 (by omega), fun j1 h1 c1 => by rw [n4 14 (by decide), n4 17 (by decide)]; exact hb2 j1 h1 c1, hdj, fun k h1 h2 h3 => by rw [n4 k h1]; exact hkp k h1 h2 h3⟩
        · rw [ear73, va_up_self, upd_ne _ _ (hno j1 h1)]; exact hk1 j1 h1
        · rw [ear73, va_up_self]
          by_cases e : q = o
          · rw [e, upd_self]
          · rw [upd_ne _ _ e]; exact hk0 q (by omega) hnq
end K34
