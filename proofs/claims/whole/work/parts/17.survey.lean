section K17
theorem nI_n1 {rd k : Nat} (h : k ≤ rd) (hr : rd + 1 < 2 ^ 31) : nI k ≠ nI (rd + 1) := fun e => by
  have := (nI_eq (by omega) hr).mp e
  omega
theorem s_sum_take {f : Nat → Nat} {L M : List Nat} {p i : Nat} (h : L[p]? = some i) : s_sum f ((L ++ M).take (p + 1)) = s_sum f (L.take p) + f i := by
  have hl := (List.getElem?_eq_some_iff.mp h).1
  rw [List.take_append_of_le_length (by omega), List.take_add_one, h]
  exact s_sum_push f _ i
variable {w n rd md : Nat} {cV cT : ClassId} {σ : sS} {x ra rt : Nat} {ad fa : Nat → Nat} {ρ : Nat → Int32} {fr : Nat → Nat → Option Nat} {rr rf : Nat → Option Nat} {rc wl el cr : Int32} {G : gw_G} {D : va_G} {tys : List (ClassId × FieldType)} {sz : Nat}
theorem c_Srv.start (h : c_Rep w n rd md cV cT σ x ra rt ad fa ρ fr rr rf rc wl el cr G) (hr : rd + 1 < 2 ^ 31) {G1 : gw_G} (h1 : c_Rep w n (rd + 1) md cV cT σ x ra rt ad fa ρ fr rr rf 0 (nI (w - 8)) (nI (n - 2)) 0 G1) : c_Srv w n (rd + 1) md cV cT σ x ra rt ad fa fr rr [] 0 G1 := by
  refine ⟨ρ, rf, h1, fun k i hk => by simp at hk, fun i hi => ?_⟩
  obtain ⟨k, hk, e⟩ := h.2.2.2.2.2.2.2.2.2 i hi
  rw [e]
  exact ⟨fun z => absurd z (nI_n1 hk hr), fun z => by cases z⟩
set_option maxHeartbeats 4000000 in
set_option maxRecDepth 100000 in
theorem k_S_survey (l : Launch) (hR : c_Rep w n rd md cV cT σ x ra rt ad fa ρ fr rr rf rc wl el cr G) (hO : s_OK w n σ) (hw : 128 ≤ w ∧ w ≤ 32768) (hn : 16 ≤ n ∧ n ≤ 4096) (hm : s_md σ < 2 ^ 31) (hrd : rd + 1 < 2 ^ 31) (ht0 : tys[0]? = some (cV, .object "StackRoom$Value")) (ht1 : tys[1]? = some (cT, .object "StackRoom$Thing")) : Met l y_S_survey w_S_survey ({ frames := 4, cells := 0, slots := 0, locals := 84 }) (g_pre D tys G sz [.ref x]) (va_Qv (fun G1 : gw_G => ∃ ρ2 rf2 rc2, c_Rep w n (rd + 1) md cV cT σ x ra rt ad fa ρ2 fr rr rf2 rc2 (nI (w - 8 - s_W σ)) (nI (n - 2 - s_N σ)) (nI (s_K σ)) G1) (g_end D G sz) (gw_A G sz)) 0 0 (gw_A G sz) := by
  refine Met.ofW (cc := b_S_survey) (maxL := 4) (ret := none) (by decide) rfl ?_
  intro p e s m args below meth c s₁ B hml hv
  obtain ⟨rfl, hsz, hP, hK⟩ := hv
  have hx := B.exec
  have hb := B.bytes
  have hr := B.returns
  have ht := fun w (hw : w ∈ gt) => atoms_spec (ws := w_S_survey) B.pre w (List.mem_cons_of_mem _ hw)
  have hown : s.vm.findClass "StackRoom" = some m.cls := findClass_of_methodNamed B.named
  have hlocks := B.notSynchronized
  have C0 : CallFix p m c b_S_survey 4 s [.ref x].toArray gt "StackRoom" := ⟨hx, hb, hml, hown, ht⟩
  subst hsz
  have hP := hP.self (sz := s.heap.size)
  have hA : ∀ q : Nat, s.heap.size ≤ q → gw_A G s.heap.size q := fun q h => Or.inr h
  have hS : va_S (gw_A G s.heap.size) s.heap s.heap [] := va_S.rf
  have hl := lv_entry ([.ref x]) (n := 4) (Nat.le_of_ble_eq_true rfl)
  rw [lg_entry_eq]
  generalize (lg_sl ([.ref x]) ++ List.replicate (4 - (lg_sl ([.ref x])).length) Slot.unset).toArray = ls at hl ⊢
  have hl : lv_has ls 4 [(0, .ref x)] := hl
  refine lv_aload_n hx hb d_S_survey_0 rfl (lv_at hl 0 rfl) ?_
  refine lv_dup hx hb d_S_survey_1 rfl ?_
  refine va_get (D := D) (ci := 0) (C := "StackRoom") (T := T_S) (N := 10) (v := .int (nI rd)) hx hb ht in_S hown hK.1 (hP.one hR.1) 0 rfl rfl 6 (by decide) (ht _ fl_S_S_round) (fun _ h9 => h9) rfl d_S_survey_2 ?_
  refine lv_iconst (v := 1) hx hb d_S_survey_5 (by decide) ?_
  refine lv_iadd hx hb d_S_survey_6 ?_
  refine gw_put (D := D) (cl := vwCl) (ci := 0) (C := "StackRoom") (T := T_S) (N := 10) (v := .int ((nI rd) + 1)) (ty := .int) hx hb ht in_S ty_S tk_S nm_S hown hK.1 hP hS hR.1 rfl 6 (by decide) (ht _ fl_S_S_round) (fun _ h9 => h9) rfl (by decide +kernel) rfl rfl (Nat.le_of_ble_eq_true rfl) d_S_survey_7 (fun H locs hP hS => ?_)
  obtain ⟨G1, eG1⟩ : ∃ z : gw_G, z = va_up G x (some (.inr (0, [.int (nI w), .int (nI n), .ref ra, .int (nI md), .ref rt, .int rc, .int ((nI rd) + 1), .int wl, .int el, .int cr]))) := ⟨_, rfl⟩
  replace hP : gw_P D vwCl (gw_A G s.heap.size) G1 H := by rw [eG1]; exact hP
  have f1 : G1 x = some (.inr (0, [.int (nI w), .int (nI n), .ref ra, .int (nI md), .ref rt, .int rc, .int ((nI rd) + 1), .int wl, .int el, .int cr])) := by rw [eG1]; exact va_up_self _ _ _
  refine lv_aload_n hx hb d_S_survey_10 rfl (lv_at hl 0 rfl) ?_
  refine lv_iconst (v := 0) hx hb d_S_survey_11 (by decide) ?_
  refine gw_put (D := D) (cl := vwCl) (ci := 0) (C := "StackRoom") (T := T_S) (N := 10) (v := .int 0) (ty := .int) hx hb ht in_S ty_S tk_S nm_S hown hK.1 hP hS f1 rfl 5 (by decide) (ht _ fl_S_S_reachedCount) (fun _ h9 => h9) rfl (by decide +kernel) rfl rfl (Nat.le_of_ble_eq_true rfl) d_S_survey_12 (fun H locs hP hS => ?_)
  obtain ⟨G2, eG2⟩ : ∃ z : gw_G, z = va_up G1 x (some (.inr (0, [.int (nI w), .int (nI n), .ref ra, .int (nI md), .ref rt, .int 0, .int ((nI rd) + 1), .int wl, .int el, .int cr]))) := ⟨_, rfl⟩
  replace hP : gw_P D vwCl (gw_A G s.heap.size) G2 H := by rw [eG2]; exact hP
  have f2 : G2 x = some (.inr (0, [.int (nI w), .int (nI n), .ref ra, .int (nI md), .ref rt, .int 0, .int ((nI rd) + 1), .int wl, .int el, .int cr])) := by rw [eG2]; exact va_up_self _ _ _
  refine lv_aload_n hx hb d_S_survey_15 rfl (lv_at hl 0 rfl) ?_
  refine lv_aload_n hx hb d_S_survey_16 rfl (lv_at hl 0 rfl) ?_
  refine va_get (D := D) (ci := 0) (C := "StackRoom") (T := T_S) (N := 10) (v := .int (nI w)) hx hb ht in_S hown hK.1 (hP.one f2) 0 rfl rfl 0 (by decide) (ht _ fl_S_S_allWords) (fun _ h9 => h9) rfl d_S_survey_17 ?_
  refine lv_bipush (v := 8) hx hb d_S_survey_20 (by decide) ?_
  refine lv_isub hx hb d_S_survey_22 ?_
  refine gw_put (D := D) (cl := vwCl) (ci := 0) (C := "StackRoom") (T := T_S) (N := 10) (v := .int ((nI w) - 8)) (ty := .int) hx hb ht in_S ty_S tk_S nm_S hown hK.1 hP hS f2 rfl 7 (by decide) (ht _ fl_S_S_wordsLeft) (fun _ h9 => h9) rfl (by decide +kernel) rfl rfl (Nat.le_of_ble_eq_true rfl) d_S_survey_23 (fun H locs hP hS => ?_)
  obtain ⟨G3, eG3⟩ : ∃ z : gw_G, z = va_up G2 x (some (.inr (0, [.int (nI w), .int (nI n), .ref ra, .int (nI md), .ref rt, .int 0, .int ((nI rd) + 1), .int ((nI w) - 8), .int el, .int cr]))) := ⟨_, rfl⟩
  replace hP : gw_P D vwCl (gw_A G s.heap.size) G3 H := by rw [eG3]; exact hP
  have f3 : G3 x = some (.inr (0, [.int (nI w), .int (nI n), .ref ra, .int (nI md), .ref rt, .int 0, .int ((nI rd) + 1), .int ((nI w) - 8), .int el, .int cr])) := by rw [eG3]; exact va_up_self _ _ _
  refine lv_aload_n hx hb d_S_survey_26 rfl (lv_at hl 0 rfl) ?_
  refine lv_aload_n hx hb d_S_survey_27 rfl (lv_at hl 0 rfl) ?_
  refine va_get (D := D) (ci := 0) (C := "StackRoom") (T := T_S) (N := 10) (v := .int (nI n)) hx hb ht in_S hown hK.1 (hP.one f3) 0 rfl rfl 1 (by decide) (ht _ fl_S_S_allEntries) (fun _ h9 => h9) rfl d_S_survey_28 ?_
  refine lv_iconst (v := 2) hx hb d_S_survey_31 (by decide) ?_
  refine lv_isub hx hb d_S_survey_32 ?_
  refine gw_put (D := D) (cl := vwCl) (ci := 0) (C := "StackRoom") (T := T_S) (N := 10) (v := .int ((nI n) - 2)) (ty := .int) hx hb ht in_S ty_S tk_S nm_S hown hK.1 hP hS f3 rfl 8 (by decide) (ht _ fl_S_S_entriesLeft) (fun _ h9 => h9) rfl (by decide +kernel) rfl rfl (Nat.le_of_ble_eq_true rfl) d_S_survey_33 (fun H locs hP hS => ?_)
  obtain ⟨G4, eG4⟩ : ∃ z : gw_G, z = va_up G3 x (some (.inr (0, [.int (nI w), .int (nI n), .ref ra, .int (nI md), .ref rt, .int 0, .int ((nI rd) + 1), .int ((nI w) - 8), .int ((nI n) - 2), .int cr]))) := ⟨_, rfl⟩
  replace hP : gw_P D vwCl (gw_A G s.heap.size) G4 H := by rw [eG4]; exact hP
  have f4 : G4 x = some (.inr (0, [.int (nI w), .int (nI n), .ref ra, .int (nI md), .ref rt, .int 0, .int ((nI rd) + 1), .int ((nI w) - 8), .int ((nI n) - 2), .int cr])) := by rw [eG4]; exact va_up_self _ _ _
  refine lv_aload_n hx hb d_S_survey_36 rfl (lv_at hl 0 rfl) ?_
  refine lv_iconst (v := 0) hx hb d_S_survey_37 (by decide) ?_
  refine gw_put (D := D) (cl := vwCl) (ci := 0) (C := "StackRoom") (T := T_S) (N := 10) (v := .int 0) (ty := .int) hx hb ht in_S ty_S tk_S nm_S hown hK.1 hP hS f4 rfl 9 (by decide) (ht _ fl_S_S_contextsReached) (fun _ h9 => h9) rfl (by decide +kernel) rfl rfl (Nat.le_of_ble_eq_true rfl) d_S_survey_38 (fun H locs hP hS => ?_)
  obtain ⟨G5, eG5⟩ : ∃ z : gw_G, z = va_up G4 x (some (.inr (0, [.int (nI w), .int (nI n), .ref ra, .int (nI md), .ref rt, .int 0, .int ((nI rd) + 1), .int ((nI w) - 8), .int ((nI n) - 2), .int 0]))) := ⟨_, rfl⟩
  replace hP : gw_P D vwCl (gw_A G s.heap.size) G5 H := by rw [eG5]; exact hP
  have f5 : G5 x = some (.inr (0, [.int (nI w), .int (nI n), .ref ra, .int (nI md), .ref rt, .int 0, .int ((nI rd) + 1), .int ((nI w) - 8), .int ((nI n) - 2), .int 0])) := by rw [eG5]; exact va_up_self _ _ _
  have hR1 := hR.own (rd' := rd + 1) (md' := md) (rc' := 0) (wl' := nI (w - 8)) (el' := nI (n - 2)) (cr' := 0) (Nat.le_succ rd)
  have e9 : G5 = va_up G x (some (.inr (kS, [.int (nI w), .int (nI n), .ref ra, .int (nI md), .ref rt, .int 0, .int (nI (rd + 1)), .int (nI (w - 8)), .int (nI (n - 2)), .int 0]))) := by
    rw [eG5, eG4, eG3, eG2, eG1, va_up_up, va_up_up, va_up_up, va_up_up, ← nI_1, ← pk_sub (a := w) (b := 8) (by omega), ← pk_sub (a := n) (b := 2) (by omega)]
    rfl
  rw [← e9] at hR1
  have hS1 := c_Srv.start hR hrd hR1
  refine lv_iconst (v := 0) hx hb d_S_survey_41 (by decide) ?_
  refine lv_istore_n (lv' := [(1, .int 0), (0, .ref x)]) hx hb d_S_survey_42 rfl hl (by decide) rfl (fun ls hl => ?_)
  obtain ⟨L, eL⟩ : ∃ z : List Nat, z = [] := ⟨_, rfl⟩
  rw [← eL] at hS1
  obtain ⟨j, ej⟩ : ∃ z : Nat, z = 0 := ⟨_, rfl⟩
  obtain ⟨f, ef⟩ : ∃ z : Nat, z = 16 := ⟨_, rfl⟩
  have inv : 16 ≤ j + f ∧ j ≤ 16 ∧ lv_has ls 4 [(1, .int (nI j)), (0, .ref x)] ∧ gw_P D vwCl (gw_A G s.heap.size) G5 H ∧ va_S (gw_A G s.heap.size) s.heap H locs ∧ c_Srv w n (rd + 1) md cV cT σ x ra rt ad fa fr rr L 0 G5 ∧ s_part σ L ∧ (∀ k, k < j → ∀ a, s_rg σ k = some (.inr a) → a ∈ L) := by
    refine ⟨by omega, by omega, by rw [ej]; exact hl, hP, hS, hS1, by rw [eL]; exact s_part_nil, fun k hk => absurd hk (by omega)⟩
  clear hl hP hS hS1 hR1 e9 eL ej ef f5 eG5
  induction f generalizing j ls H locs G5 L
  case zero =>
    obtain ⟨hf, hjm, hl, hP, hS, hS2, hp2, hrg⟩ := inv
    obtain ⟨ρ2, rf2, hR2, -, -⟩ := id hS2
    refine lv_iload_n hx hb d_S_survey_43 rfl (lv_at hl 0 rfl) ?_
    refine lv_aload_n hx hb d_S_survey_44 rfl (lv_at hl 1 rfl) ?_
    refine va_get (D := D) (ci := 0) (C := "StackRoom") (T := T_S) (N := 10) (v := .ref ra) hx hb ht in_S hown hK.1 (hP.one hR2.1) 0 rfl rfl 2 (by decide) (ht _ fl_S_S_registers) (fun _ h9 => h9) rfl d_S_survey_45 ?_
    refine va_alen (v := nI 16) hx hb hK.1 (hP.one hR2.2.1) 0 0 rfl ht0 rfl d_S_survey_48 ?_
    refine lv_icmp_ge (tgt := 68) hx hb d_S_survey_49 (by decide) (fun cj => ?_) (fun cj => ?_)
    · have hge := (nI_leI (by omega) (by omega)).mp cj
      have hroot : ∀ k, k < 16 → ∀ a, s_rg σ k = some (.inr a) → a ∈ L := fun k hk => hrg k (by omega)
      refine lv_iconst (v := 0) hx hb d_S_survey_68 (by decide) ?_
      refine lv_istore_n (lv' := [(1, .int 0), (0, .ref x)]) hx hb d_S_survey_69 rfl hl (by decide) rfl (fun ls hl => ?_)
      clear hrg hR2 rf2 ρ2 cj
      obtain ⟨cc, ecc⟩ : ∃ z : Int32, z = 0 := ⟨_, rfl⟩
      rw [← ecc] at hS2
      obtain ⟨q, eq⟩ : ∃ z : Nat, z = 0 := ⟨_, rfl⟩
      obtain ⟨g, eg⟩ : ∃ z : Nat, z = n := ⟨_, rfl⟩
      have inv : n ≤ q + g ∧ q ≤ L.length ∧ lv_has ls 4 [(1, .int (nI q)), (0, .ref x)] ∧ gw_P D vwCl (gw_A G s.heap.size) G5 H ∧ va_S (gw_A G s.heap.size) s.heap H locs ∧ c_Srv w n (rd + 1) md cV cT σ x ra rt ad fa fr rr L cc G5 ∧ s_part σ L ∧ (∀ k, k < 16 → ∀ a, s_rg σ k = some (.inr a) → a ∈ L) ∧ cc = nI (s_sum (s_cn σ) (L.take q)) ∧ (∀ k i, k < q → L[k]? = some i → ∀ a, s_edge σ i a → a ∈ L) := by
        refine ⟨by omega, by omega, by rw [eq]; exact lv_sub hl [0, 1] rfl, hP, hS, hS2, hp2, hroot, by rw [eq, ecc]; rfl, fun k i hk => absurd hk (by omega)⟩
      clear hl hP hS hS2 hp2 hroot ecc eq eg hge
      induction g generalizing q ls H locs G5 L cc
      case zero =>
        obtain ⟨hg, hqL, hl, hP, hS, hS2, hp2, hroot, hcc, hed⟩ := inv
        obtain ⟨ρ2, rf2, hR2, hrf, -⟩ := id hS2
        have hle := s_part_len hp2 hO
        refine lv_iload_n hx hb d_S_survey_70 rfl (lv_at hl 0 rfl) ?_
        refine lv_aload_n hx hb d_S_survey_71 rfl (lv_at hl 1 rfl) ?_
        refine va_get (D := D) (ci := 0) (C := "StackRoom") (T := T_S) (N := 10) (v := .int (nI L.length)) hx hb ht in_S hown hK.1 (hP.one hR2.1) 0 rfl rfl 5 (by decide) (ht _ fl_S_S_reachedCount) (fun _ h9 => h9) rfl d_S_survey_72 ?_
        refine lv_icmp_ge (tgt := 127) hx hb d_S_survey_75 (by decide) (fun cq => ?_) (fun cq => ?_)
        · have hq2 : L.length ≤ q := (nI_leI (by omega) (by omega)).mp cq
          have henum : s_enum σ L := s_part_enum hp2 hroot (fun j hj k hk => by
            obtain ⟨a, ha⟩ := List.getElem?_of_mem hj
            exact hed a j (by have := (List.getElem?_eq_some_iff.mp ha).1; omega) ha k hk)
          have e1 : s_sum (s_wd σ) L = s_W σ := s_W_enum hO.1 henum
          have e2 : s_sum (s_en σ) L = s_N σ := s_N_enum hO.1 henum
          have e3 : s_sum (s_cn σ) (L.take q) = s_K σ := by
            rw [List.take_of_length_le hq2]
            exact s_K_enum hO.1 henum
          rw [e1, e2, hcc, e3] at hR2
          exact W.vret hx hb hr (fun t ht hW => ⟨⟨G5, rfl, ⟨ρ2, rf2, _, hR2⟩, g_fin ht hP⟩, hS.F ht⟩) hS.2.2 d_S_survey_127
        · have hlt : q < L.length := Nat.not_le.mp (fun z => cq ((nI_leI (by omega) (by omega)).mpr z))
          omega
      case succ g ih =>
        obtain ⟨hg, hqL, hl, hP, hS, hS2, hp2, hroot, hcc, hed⟩ := inv
        obtain ⟨ρ2, rf2, hR2, hrf, -⟩ := id hS2
        have hle := s_part_len hp2 hO
        refine lv_iload_n hx hb d_S_survey_70 rfl (lv_at hl 0 rfl) ?_
        refine lv_aload_n hx hb d_S_survey_71 rfl (lv_at hl 1 rfl) ?_
        refine va_get (D := D) (ci := 0) (C := "StackRoom") (T := T_S) (N := 10) (v := .int (nI L.length)) hx hb ht in_S hown hK.1 (hP.one hR2.1) 0 rfl rfl 5 (by decide) (ht _ fl_S_S_reachedCount) (fun _ h9 => h9) rfl d_S_survey_72 ?_
        refine lv_icmp_ge (tgt := 127) hx hb d_S_survey_75 (by decide) (fun cq => ?_) (fun cq => ?_)
        · have hq2 : L.length ≤ q := (nI_leI (by omega) (by omega)).mp cq
          have henum : s_enum σ L := s_part_enum hp2 hroot (fun j hj k hk => by
            obtain ⟨a, ha⟩ := List.getElem?_of_mem hj
            exact hed a j (by have := (List.getElem?_eq_some_iff.mp ha).1; omega) ha k hk)
          have e1 : s_sum (s_wd σ) L = s_W σ := s_W_enum hO.1 henum
          have e2 : s_sum (s_en σ) L = s_N σ := s_N_enum hO.1 henum
          have e3 : s_sum (s_cn σ) (L.take q) = s_K σ := by
            rw [List.take_of_length_le hq2]
            exact s_K_enum hO.1 henum
          rw [e1, e2, hcc, e3] at hR2
          exact W.vret hx hb hr (fun t ht hW => ⟨⟨G5, rfl, ⟨ρ2, rf2, _, hR2⟩, g_fin ht hP⟩, hS.F ht⟩) hS.2.2 d_S_survey_127
        · have hlt : q < L.length := Nat.not_le.mp (fun z => cq ((nI_leI (by omega) (by omega)).mpr z))
          refine lv_iload_n hx hb d_S_survey_78 rfl (lv_at hl 0 rfl) ?_
          refine lv_aload_n hx hb d_S_survey_79 rfl (lv_at hl 1 rfl) ?_
          refine va_get (D := D) (ci := 0) (C := "StackRoom") (T := T_S) (N := 10) (v := .ref rt) hx hb ht in_S hown hK.1 (hP.one hR2.1) 0 rfl rfl 4 (by decide) (ht _ fl_S_S_reached) (fun _ h9 => h9) rfl d_S_survey_80 ?_
          refine va_alen (v := nI n) hx hb hK.1 (hP.one hR2.2.2.1) 0 1 rfl ht1 rfl d_S_survey_83 ?_
          refine lv_icmp_ge (tgt := 127) hx hb d_S_survey_84 (by decide) (fun cn => ?_) (fun cn => ?_)
          · exact absurd ((nI_leI (by omega) (by omega)).mp cn) (by omega)
          · obtain ⟨i, hi⟩ : ∃ i, L[q]? = some i := ⟨_, List.getElem?_eq_getElem hlt⟩
            have hri := hp2.2 i (List.mem_of_getElem? hi)
            have hi0 := s_rch_kd hO.1 hri
            refine lv_aload_n hx hb d_S_survey_87 rfl (lv_at hl 1 rfl) ?_
            refine va_get (D := D) (ci := 0) (C := "StackRoom") (T := T_S) (N := 10) (v := .ref rt) hx hb ht in_S hown hK.1 (hP.one hR2.1) 0 rfl rfl 4 (by decide) (ht _ fl_S_S_reached) (fun _ h9 => h9) rfl d_S_survey_88 ?_
            refine lv_iload_n hx hb d_S_survey_91 rfl (lv_at hl 0 rfl) ?_
            refine va_aldq (C := "StackRoom$Thing") hx hb hK.1 (hP.one hR2.2.2.1) 0 1 rfl ht1 (vp_in_nI (by omega) (by omega)) d_S_survey_92 ?_
            rw [nI_clamp (by omega), hrf q i hi]
            rcases (hO.1.2.1 i hi0).2.2 with hj | hj | hj
            · refine lv_astore_n (lv' := [(3, .ref (ad i)), (1, .int (nI q)), (0, .ref x)]) hx hb d_S_survey_93 rfl hl (by decide) rfl (fun ls hl => ?_)
              refine lv_aload_n hx hb d_S_survey_94 rfl (lv_at hl 0 rfl) ?_
              refine va_instNo hx hb hown (ht _ cl_S_C) hK.2.nMC (gw_recv hK.1 hP rfl (hR2.c2 hj)) d_S_survey_95 ?_
              refine lv_if_eq (tgt := 121) hx hb d_S_survey_98 (by decide) (fun _ => ?_) (fun h => absurd h (by decide))
              refine lv_iinc (v := nI (q + 1)) (lv' := [(1, .int (nI (q + 1))), (3, .ref (ad i)), (0, .ref x)]) hx hb d_S_survey_121 hl (k := 1) rfl (by rw [← nI_1]; rfl) (by decide) rfl (fun ls hl => ?_)
              refine lv_goto (tgt := 70) hx hb d_S_survey_124 (by decide) ?_
              refine ih _ _ _ _ _ _ _ ⟨by omega, by omega, lv_sub hl [0, 2] rfl, hP, hS, hS2, hp2, hroot, ?_, fun k b hk hb a ha => ?_⟩
              · have e7 := s_sum_take (f := s_cn σ) (M := []) hi
                rw [List.append_nil] at e7
                rw [e7, hcc, show s_cn σ i = 0 from if_pos hj, Nat.add_zero]
              · by_cases e : k = q
                · subst e
                  rw [hi] at hb
                  cases hb
                  exact absurd ha.1 (fun z => by rcases z with z | z <;> omega)
                · exact hed k b (by omega) hb a ha
            · refine lv_astore_n (lv' := [(3, .ref (ad i)), (1, .int (nI q)), (0, .ref x)]) hx hb d_S_survey_93 rfl hl (by decide) rfl (fun ls hl => ?_)
              refine lv_aload_n hx hb d_S_survey_94 rfl (lv_at hl 0 rfl) ?_
              refine va_instY hx hb hown (ht _ cl_S_C) (hK.2.1 _ ca_X_C) (gw_recv hK.1 hP rfl (hR2.c3 hj)) d_S_survey_95 ?_
              refine lv_if_eq (tgt := 121) hx hb d_S_survey_98 (by decide) (fun h => absurd h (by decide)) (fun _ => ?_)
              refine lv_aload_n hx hb d_S_survey_101 rfl (lv_at hl 0 rfl) ?_
              refine va_castY hx hb hown (ht _ cl_S_C) (hK.2.1 _ ca_X_C) (gw_recv hK.1 hP rfl (hR2.c3 hj)) d_S_survey_102 ?_
              refine lv_astore_n (lv' := [(2, .ref (ad i)), (3, .ref (ad i)), (1, .int (nI q)), (0, .ref x)]) hx hb d_S_survey_105 rfl hl (by decide) rfl (fun ls hl => ?_)
              refine lv_aload_n hx hb d_S_survey_106 rfl (lv_at hl 3 rfl) ?_
              refine lv_dup hx hb d_S_survey_107 rfl ?_
              refine va_get (D := D) (ci := 0) (C := "StackRoom") (T := T_S) (N := 10) (v := .int cc) hx hb ht in_S hown hK.1 (hP.one hR2.1) 0 rfl rfl 9 (by decide) (ht _ fl_S_S_contextsReached) (fun _ h9 => h9) rfl d_S_survey_108 ?_
              refine lv_iconst (v := 1) hx hb d_S_survey_111 (by decide) ?_
              refine lv_iadd hx hb d_S_survey_112 ?_
              refine gw_put (D := D) (cl := vwCl) (ci := 0) (C := "StackRoom") (T := T_S) (N := 10) (v := .int (cc + 1)) (ty := .int) hx hb ht in_S ty_S tk_S nm_S hown hK.1 hP hS hR2.1 rfl 9 (by decide) (ht _ fl_S_S_contextsReached) (fun _ h9 => h9) rfl (by decide +kernel) rfl rfl (Nat.le_of_ble_eq_true rfl) d_S_survey_113 (fun H locs hP hS => ?_)
              obtain ⟨G6, eG6⟩ : ∃ z : gw_G, z = va_up G5 x (some (.inr (0, [.int (nI w), .int (nI n), .ref ra, .int (nI md), .ref rt, .int (nI L.length), .int (nI (rd + 1)), .int (nI (w - 8 - s_sum (s_wd σ) L)), .int (nI (n - 2 - s_sum (s_en σ) L)), .int (cc + 1)]))) := ⟨_, rfl⟩
              replace hP : gw_P D vwCl (gw_A G s.heap.size) G6 H := by rw [eG6]; exact hP
              have f6 : G6 x = some (.inr (0, [.int (nI w), .int (nI n), .ref ra, .int (nI md), .ref rt, .int (nI L.length), .int (nI (rd + 1)), .int (nI (w - 8 - s_sum (s_wd σ) L)), .int (nI (n - 2 - s_sum (s_en σ) L)), .int (cc + 1)])) := by rw [eG6]; exact va_up_self _ _ _
              have hR3 := hR2.own (rd' := rd + 1) (md' := md) (rc' := nI L.length) (wl' := nI (w - 8 - s_sum (s_wd σ) L)) (el' := nI (n - 2 - s_sum (s_en σ) L)) (cr' := cc + 1) (Nat.le_refl _)
              rw [← eG6] at hR3
              have hS3 : c_Srv w n (rd + 1) md cV cT σ x ra rt ad fa fr rr L (cc + 1) G6 := by
                obtain ⟨ρ9, rf9, hR9, h9, h8⟩ := id hS2
                have hR8 := hR9.own (rd' := rd + 1) (md' := md) (rc' := nI L.length) (wl' := nI (w - 8 - s_sum (s_wd σ) L)) (el' := nI (n - 2 - s_sum (s_en σ) L)) (cr' := cc + 1) (Nat.le_refl _)
                rw [← eG6] at hR8
                exact ⟨ρ9, rf9, hR8, h9, h8⟩
              refine lv_aload_n hx hb d_S_survey_116 rfl (lv_at hl 3 rfl) ?_
              refine lv_aload_n hx hb d_S_survey_117 rfl (lv_at hl 0 rfl) ?_
              refine g_callv hP hS hA (r_V (rest := []) C0 [.ref (ad i)] (k_S_reachPartsOf l hS3 hp2 hO hn.2 hm ht0 ht1 (i := i) hri (Or.inl hj)) ml_S_S_reachPartsOf im_S_reachPartsOf se_S_S_reachPartsOf_S ini_S co_S_reachPartsOf ⟨rfl, hd_S_reachPartsOf⟩ (g_preV (ci := 0) hK hP rfl hR3.1) hl.1 d_S_survey_118 rfl rfl (Nat.le_of_ble_eq_true rfl) ⟨rfl, rfl⟩ ⟨Nat.le_of_ble_eq_true rfl, Nat.le_of_ble_eq_true rfl⟩ ⟨Nat.le_of_ble_eq_true rfl, Nat.le_of_ble_eq_true rfl⟩) (fun G7 H locs hS4 hP hS hz9 hk9 => ?_)
              obtain ⟨L2, ⟨M, eM⟩, hp3, hed3, hS4⟩ := hS4
              refine lv_iinc (v := nI (q + 1)) (lv' := [(1, .int (nI (q + 1))), (2, .ref (ad i)), (3, .ref (ad i)), (0, .ref x)]) hx hb d_S_survey_121 hl (k := 2) rfl (by rw [← nI_1]; rfl) (by decide) rfl (fun ls hl => ?_)
              refine lv_goto (tgt := 70) hx hb d_S_survey_124 (by decide) ?_
              have sub : ∀ a, a ∈ L → a ∈ L2 := fun a ha => by rw [eM]; exact List.mem_append_left _ ha
              refine ih _ _ _ _ _ _ _ ⟨by omega, by rw [eM, List.length_append]; omega, lv_sub hl [0, 3] rfl, hP, hS, hS4, hp3, fun k hk a ha => sub a (hroot k hk a ha), ?_, fun k b hk hb a ha => ?_⟩
              · rw [eM, s_sum_take hi, hcc, show s_cn σ i = 1 from if_neg (by omega), nI_1]
              · have hk2 : k < L.length := by omega
                rw [eM, List.getElem?_append_left hk2] at hb
                by_cases e : k = q
                · subst e
                  rw [hi] at hb
                  cases hb
                  exact hed3 a ha
                · exact sub a (hed k b (by omega) hb a ha)
            · refine lv_astore_n (lv' := [(3, .ref (ad i)), (1, .int (nI q)), (0, .ref x)]) hx hb d_S_survey_93 rfl hl (by decide) rfl (fun ls hl => ?_)
              refine lv_aload_n hx hb d_S_survey_94 rfl (lv_at hl 0 rfl) ?_
              refine va_instY hx hb hown (ht _ cl_S_C) (hK.2.1 _ ca_B_C) (gw_recv hK.1 hP rfl (hR2.c4 hj)) d_S_survey_95 ?_
              refine lv_if_eq (tgt := 121) hx hb d_S_survey_98 (by decide) (fun h => absurd h (by decide)) (fun _ => ?_)
              refine lv_aload_n hx hb d_S_survey_101 rfl (lv_at hl 0 rfl) ?_
              refine va_castY hx hb hown (ht _ cl_S_C) (hK.2.1 _ ca_B_C) (gw_recv hK.1 hP rfl (hR2.c4 hj)) d_S_survey_102 ?_
              refine lv_astore_n (lv' := [(2, .ref (ad i)), (3, .ref (ad i)), (1, .int (nI q)), (0, .ref x)]) hx hb d_S_survey_105 rfl hl (by decide) rfl (fun ls hl => ?_)
              refine lv_aload_n hx hb d_S_survey_106 rfl (lv_at hl 3 rfl) ?_
              refine lv_dup hx hb d_S_survey_107 rfl ?_
              refine va_get (D := D) (ci := 0) (C := "StackRoom") (T := T_S) (N := 10) (v := .int cc) hx hb ht in_S hown hK.1 (hP.one hR2.1) 0 rfl rfl 9 (by decide) (ht _ fl_S_S_contextsReached) (fun _ h9 => h9) rfl d_S_survey_108 ?_
              refine lv_iconst (v := 1) hx hb d_S_survey_111 (by decide) ?_
              refine lv_iadd hx hb d_S_survey_112 ?_
              refine gw_put (D := D) (cl := vwCl) (ci := 0) (C := "StackRoom") (T := T_S) (N := 10) (v := .int (cc + 1)) (ty := .int) hx hb ht in_S ty_S tk_S nm_S hown hK.1 hP hS hR2.1 rfl 9 (by decide) (ht _ fl_S_S_contextsReached) (fun _ h9 => h9) rfl (by decide +kernel) rfl rfl (Nat.le_of_ble_eq_true rfl) d_S_survey_113 (fun H locs hP hS => ?_)
              obtain ⟨G7, eG7⟩ : ∃ z : gw_G, z = va_up G5 x (some (.inr (0, [.int (nI w), .int (nI n), .ref ra, .int (nI md), .ref rt, .int (nI L.length), .int (nI (rd + 1)), .int (nI (w - 8 - s_sum (s_wd σ) L)), .int (nI (n - 2 - s_sum (s_en σ) L)), .int (cc + 1)]))) := ⟨_, rfl⟩
              replace hP : gw_P D vwCl (gw_A G s.heap.size) G7 H := by rw [eG7]; exact hP
              have f7 : G7 x = some (.inr (0, [.int (nI w), .int (nI n), .ref ra, .int (nI md), .ref rt, .int (nI L.length), .int (nI (rd + 1)), .int (nI (w - 8 - s_sum (s_wd σ) L)), .int (nI (n - 2 - s_sum (s_en σ) L)), .int (cc + 1)])) := by rw [eG7]; exact va_up_self _ _ _
              have hR3 := hR2.own (rd' := rd + 1) (md' := md) (rc' := nI L.length) (wl' := nI (w - 8 - s_sum (s_wd σ) L)) (el' := nI (n - 2 - s_sum (s_en σ) L)) (cr' := cc + 1) (Nat.le_refl _)
              rw [← eG7] at hR3
              have hS3 : c_Srv w n (rd + 1) md cV cT σ x ra rt ad fa fr rr L (cc + 1) G7 := by
                obtain ⟨ρ9, rf9, hR9, h9, h8⟩ := id hS2
                have hR8 := hR9.own (rd' := rd + 1) (md' := md) (rc' := nI L.length) (wl' := nI (w - 8 - s_sum (s_wd σ) L)) (el' := nI (n - 2 - s_sum (s_en σ) L)) (cr' := cc + 1) (Nat.le_refl _)
                rw [← eG7] at hR8
                exact ⟨ρ9, rf9, hR8, h9, h8⟩
              refine lv_aload_n hx hb d_S_survey_116 rfl (lv_at hl 3 rfl) ?_
              refine lv_aload_n hx hb d_S_survey_117 rfl (lv_at hl 0 rfl) ?_
              refine g_callv hP hS hA (r_V (rest := []) C0 [.ref (ad i)] (k_S_reachPartsOf l hS3 hp2 hO hn.2 hm ht0 ht1 (i := i) hri (Or.inr hj)) ml_S_S_reachPartsOf im_S_reachPartsOf se_S_S_reachPartsOf_S ini_S co_S_reachPartsOf ⟨rfl, hd_S_reachPartsOf⟩ (g_preV (ci := 0) hK hP rfl hR3.1) hl.1 d_S_survey_118 rfl rfl (Nat.le_of_ble_eq_true rfl) ⟨rfl, rfl⟩ ⟨Nat.le_of_ble_eq_true rfl, Nat.le_of_ble_eq_true rfl⟩ ⟨Nat.le_of_ble_eq_true rfl, Nat.le_of_ble_eq_true rfl⟩) (fun G7 H locs hS4 hP hS hz9 hk9 => ?_)
              obtain ⟨L2, ⟨M, eM⟩, hp3, hed3, hS4⟩ := hS4
              refine lv_iinc (v := nI (q + 1)) (lv' := [(1, .int (nI (q + 1))), (2, .ref (ad i)), (3, .ref (ad i)), (0, .ref x)]) hx hb d_S_survey_121 hl (k := 2) rfl (by rw [← nI_1]; rfl) (by decide) rfl (fun ls hl => ?_)
              refine lv_goto (tgt := 70) hx hb d_S_survey_124 (by decide) ?_
              have sub : ∀ a, a ∈ L → a ∈ L2 := fun a ha => by rw [eM]; exact List.mem_append_left _ ha
              refine ih _ _ _ _ _ _ _ ⟨by omega, by rw [eM, List.length_append]; omega, lv_sub hl [0, 3] rfl, hP, hS, hS4, hp3, fun k hk a ha => sub a (hroot k hk a ha), ?_, fun k b hk hb a ha => ?_⟩
              · rw [eM, s_sum_take hi, hcc, show s_cn σ i = 1 from if_neg (by omega), nI_1]
              · have hk2 : k < L.length := by omega
                rw [eM, List.getElem?_append_left hk2] at hb
                by_cases e : k = q
                · subst e
                  rw [hi] at hb
                  cases hb
                  exact hed3 a ha
                · exact sub a (hed k b (by omega) hb a ha)
    · have hlt : j < 16 := Nat.not_le.mp (fun q => cj ((nI_leI (by omega) (by omega)).mpr q))
      omega
  case succ f ih =>
    obtain ⟨hf, hjm, hl, hP, hS, hS2, hp2, hrg⟩ := inv
    obtain ⟨ρ2, rf2, hR2, -, -⟩ := id hS2
    refine lv_iload_n hx hb d_S_survey_43 rfl (lv_at hl 0 rfl) ?_
    refine lv_aload_n hx hb d_S_survey_44 rfl (lv_at hl 1 rfl) ?_
    refine va_get (D := D) (ci := 0) (C := "StackRoom") (T := T_S) (N := 10) (v := .ref ra) hx hb ht in_S hown hK.1 (hP.one hR2.1) 0 rfl rfl 2 (by decide) (ht _ fl_S_S_registers) (fun _ h9 => h9) rfl d_S_survey_45 ?_
    refine va_alen (v := nI 16) hx hb hK.1 (hP.one hR2.2.1) 0 0 rfl ht0 rfl d_S_survey_48 ?_
    refine lv_icmp_ge (tgt := 68) hx hb d_S_survey_49 (by decide) (fun cj => ?_) (fun cj => ?_)
    · have hge := (nI_leI (by omega) (by omega)).mp cj
      have hroot : ∀ k, k < 16 → ∀ a, s_rg σ k = some (.inr a) → a ∈ L := fun k hk => hrg k (by omega)
      refine lv_iconst (v := 0) hx hb d_S_survey_68 (by decide) ?_
      refine lv_istore_n (lv' := [(1, .int 0), (0, .ref x)]) hx hb d_S_survey_69 rfl hl (by decide) rfl (fun ls hl => ?_)
      clear hrg hR2 rf2 ρ2 cj
      obtain ⟨cc, ecc⟩ : ∃ z : Int32, z = 0 := ⟨_, rfl⟩
      rw [← ecc] at hS2
      obtain ⟨q, eq⟩ : ∃ z : Nat, z = 0 := ⟨_, rfl⟩
      obtain ⟨g, eg⟩ : ∃ z : Nat, z = n := ⟨_, rfl⟩
      have inv : n ≤ q + g ∧ q ≤ L.length ∧ lv_has ls 4 [(1, .int (nI q)), (0, .ref x)] ∧ gw_P D vwCl (gw_A G s.heap.size) G5 H ∧ va_S (gw_A G s.heap.size) s.heap H locs ∧ c_Srv w n (rd + 1) md cV cT σ x ra rt ad fa fr rr L cc G5 ∧ s_part σ L ∧ (∀ k, k < 16 → ∀ a, s_rg σ k = some (.inr a) → a ∈ L) ∧ cc = nI (s_sum (s_cn σ) (L.take q)) ∧ (∀ k i, k < q → L[k]? = some i → ∀ a, s_edge σ i a → a ∈ L) := by
        refine ⟨by omega, by omega, by rw [eq]; exact lv_sub hl [0, 1] rfl, hP, hS, hS2, hp2, hroot, by rw [eq, ecc]; rfl, fun k i hk => absurd hk (by omega)⟩
      clear hl hP hS hS2 hp2 hroot ecc eq eg hge
      induction g generalizing q ls H locs G5 L cc
      case zero =>
        obtain ⟨hg, hqL, hl, hP, hS, hS2, hp2, hroot, hcc, hed⟩ := inv
        obtain ⟨ρ2, rf2, hR2, hrf, -⟩ := id hS2
        have hle := s_part_len hp2 hO
        refine lv_iload_n hx hb d_S_survey_70 rfl (lv_at hl 0 rfl) ?_
        refine lv_aload_n hx hb d_S_survey_71 rfl (lv_at hl 1 rfl) ?_
        refine va_get (D := D) (ci := 0) (C := "StackRoom") (T := T_S) (N := 10) (v := .int (nI L.length)) hx hb ht in_S hown hK.1 (hP.one hR2.1) 0 rfl rfl 5 (by decide) (ht _ fl_S_S_reachedCount) (fun _ h9 => h9) rfl d_S_survey_72 ?_
        refine lv_icmp_ge (tgt := 127) hx hb d_S_survey_75 (by decide) (fun cq => ?_) (fun cq => ?_)
        · have hq2 : L.length ≤ q := (nI_leI (by omega) (by omega)).mp cq
          have henum : s_enum σ L := s_part_enum hp2 hroot (fun j hj k hk => by
            obtain ⟨a, ha⟩ := List.getElem?_of_mem hj
            exact hed a j (by have := (List.getElem?_eq_some_iff.mp ha).1; omega) ha k hk)
          have e1 : s_sum (s_wd σ) L = s_W σ := s_W_enum hO.1 henum
          have e2 : s_sum (s_en σ) L = s_N σ := s_N_enum hO.1 henum
          have e3 : s_sum (s_cn σ) (L.take q) = s_K σ := by
            rw [List.take_of_length_le hq2]
            exact s_K_enum hO.1 henum
          rw [e1, e2, hcc, e3] at hR2
          exact W.vret hx hb hr (fun t ht hW => ⟨⟨G5, rfl, ⟨ρ2, rf2, _, hR2⟩, g_fin ht hP⟩, hS.F ht⟩) hS.2.2 d_S_survey_127
        · have hlt : q < L.length := Nat.not_le.mp (fun z => cq ((nI_leI (by omega) (by omega)).mpr z))
          omega
      case succ g ih =>
        obtain ⟨hg, hqL, hl, hP, hS, hS2, hp2, hroot, hcc, hed⟩ := inv
        obtain ⟨ρ2, rf2, hR2, hrf, -⟩ := id hS2
        have hle := s_part_len hp2 hO
        refine lv_iload_n hx hb d_S_survey_70 rfl (lv_at hl 0 rfl) ?_
        refine lv_aload_n hx hb d_S_survey_71 rfl (lv_at hl 1 rfl) ?_
        refine va_get (D := D) (ci := 0) (C := "StackRoom") (T := T_S) (N := 10) (v := .int (nI L.length)) hx hb ht in_S hown hK.1 (hP.one hR2.1) 0 rfl rfl 5 (by decide) (ht _ fl_S_S_reachedCount) (fun _ h9 => h9) rfl d_S_survey_72 ?_
        refine lv_icmp_ge (tgt := 127) hx hb d_S_survey_75 (by decide) (fun cq => ?_) (fun cq => ?_)
        · have hq2 : L.length ≤ q := (nI_leI (by omega) (by omega)).mp cq
          have henum : s_enum σ L := s_part_enum hp2 hroot (fun j hj k hk => by
            obtain ⟨a, ha⟩ := List.getElem?_of_mem hj
            exact hed a j (by have := (List.getElem?_eq_some_iff.mp ha).1; omega) ha k hk)
          have e1 : s_sum (s_wd σ) L = s_W σ := s_W_enum hO.1 henum
          have e2 : s_sum (s_en σ) L = s_N σ := s_N_enum hO.1 henum
          have e3 : s_sum (s_cn σ) (L.take q) = s_K σ := by
            rw [List.take_of_length_le hq2]
            exact s_K_enum hO.1 henum
          rw [e1, e2, hcc, e3] at hR2
          exact W.vret hx hb hr (fun t ht hW => ⟨⟨G5, rfl, ⟨ρ2, rf2, _, hR2⟩, g_fin ht hP⟩, hS.F ht⟩) hS.2.2 d_S_survey_127
        · have hlt : q < L.length := Nat.not_le.mp (fun z => cq ((nI_leI (by omega) (by omega)).mpr z))
          refine lv_iload_n hx hb d_S_survey_78 rfl (lv_at hl 0 rfl) ?_
          refine lv_aload_n hx hb d_S_survey_79 rfl (lv_at hl 1 rfl) ?_
          refine va_get (D := D) (ci := 0) (C := "StackRoom") (T := T_S) (N := 10) (v := .ref rt) hx hb ht in_S hown hK.1 (hP.one hR2.1) 0 rfl rfl 4 (by decide) (ht _ fl_S_S_reached) (fun _ h9 => h9) rfl d_S_survey_80 ?_
          refine va_alen (v := nI n) hx hb hK.1 (hP.one hR2.2.2.1) 0 1 rfl ht1 rfl d_S_survey_83 ?_
          refine lv_icmp_ge (tgt := 127) hx hb d_S_survey_84 (by decide) (fun cn => ?_) (fun cn => ?_)
          · exact absurd ((nI_leI (by omega) (by omega)).mp cn) (by omega)
          · obtain ⟨i, hi⟩ : ∃ i, L[q]? = some i := ⟨_, List.getElem?_eq_getElem hlt⟩
            have hri := hp2.2 i (List.mem_of_getElem? hi)
            have hi0 := s_rch_kd hO.1 hri
            refine lv_aload_n hx hb d_S_survey_87 rfl (lv_at hl 1 rfl) ?_
            refine va_get (D := D) (ci := 0) (C := "StackRoom") (T := T_S) (N := 10) (v := .ref rt) hx hb ht in_S hown hK.1 (hP.one hR2.1) 0 rfl rfl 4 (by decide) (ht _ fl_S_S_reached) (fun _ h9 => h9) rfl d_S_survey_88 ?_
            refine lv_iload_n hx hb d_S_survey_91 rfl (lv_at hl 0 rfl) ?_
            refine va_aldq (C := "StackRoom$Thing") hx hb hK.1 (hP.one hR2.2.2.1) 0 1 rfl ht1 (vp_in_nI (by omega) (by omega)) d_S_survey_92 ?_
            rw [nI_clamp (by omega), hrf q i hi]
            rcases (hO.1.2.1 i hi0).2.2 with hj | hj | hj
            · refine lv_astore_n (lv' := [(3, .ref (ad i)), (1, .int (nI q)), (0, .ref x)]) hx hb d_S_survey_93 rfl hl (by decide) rfl (fun ls hl => ?_)
              refine lv_aload_n hx hb d_S_survey_94 rfl (lv_at hl 0 rfl) ?_
              refine va_instNo hx hb hown (ht _ cl_S_C) hK.2.nMC (gw_recv hK.1 hP rfl (hR2.c2 hj)) d_S_survey_95 ?_
              refine lv_if_eq (tgt := 121) hx hb d_S_survey_98 (by decide) (fun _ => ?_) (fun h => absurd h (by decide))
              refine lv_iinc (v := nI (q + 1)) (lv' := [(1, .int (nI (q + 1))), (3, .ref (ad i)), (0, .ref x)]) hx hb d_S_survey_121 hl (k := 1) rfl (by rw [← nI_1]; rfl) (by decide) rfl (fun ls hl => ?_)
              refine lv_goto (tgt := 70) hx hb d_S_survey_124 (by decide) ?_
              refine ih _ _ _ _ _ _ _ ⟨by omega, by omega, lv_sub hl [0, 2] rfl, hP, hS, hS2, hp2, hroot, ?_, fun k b hk hb a ha => ?_⟩
              · have e7 := s_sum_take (f := s_cn σ) (M := []) hi
                rw [List.append_nil] at e7
                rw [e7, hcc, show s_cn σ i = 0 from if_pos hj, Nat.add_zero]
              · by_cases e : k = q
                · subst e
                  rw [hi] at hb
                  cases hb
                  exact absurd ha.1 (fun z => by rcases z with z | z <;> omega)
                · exact hed k b (by omega) hb a ha
            · refine lv_astore_n (lv' := [(3, .ref (ad i)), (1, .int (nI q)), (0, .ref x)]) hx hb d_S_survey_93 rfl hl (by decide) rfl (fun ls hl => ?_)
              refine lv_aload_n hx hb d_S_survey_94 rfl (lv_at hl 0 rfl) ?_
              refine va_instY hx hb hown (ht _ cl_S_C) (hK.2.1 _ ca_X_C) (gw_recv hK.1 hP rfl (hR2.c3 hj)) d_S_survey_95 ?_
              refine lv_if_eq (tgt := 121) hx hb d_S_survey_98 (by decide) (fun h => absurd h (by decide)) (fun _ => ?_)
              refine lv_aload_n hx hb d_S_survey_101 rfl (lv_at hl 0 rfl) ?_
              refine va_castY hx hb hown (ht _ cl_S_C) (hK.2.1 _ ca_X_C) (gw_recv hK.1 hP rfl (hR2.c3 hj)) d_S_survey_102 ?_
              refine lv_astore_n (lv' := [(2, .ref (ad i)), (3, .ref (ad i)), (1, .int (nI q)), (0, .ref x)]) hx hb d_S_survey_105 rfl hl (by decide) rfl (fun ls hl => ?_)
              refine lv_aload_n hx hb d_S_survey_106 rfl (lv_at hl 3 rfl) ?_
              refine lv_dup hx hb d_S_survey_107 rfl ?_
              refine va_get (D := D) (ci := 0) (C := "StackRoom") (T := T_S) (N := 10) (v := .int cc) hx hb ht in_S hown hK.1 (hP.one hR2.1) 0 rfl rfl 9 (by decide) (ht _ fl_S_S_contextsReached) (fun _ h9 => h9) rfl d_S_survey_108 ?_
              refine lv_iconst (v := 1) hx hb d_S_survey_111 (by decide) ?_
              refine lv_iadd hx hb d_S_survey_112 ?_
              refine gw_put (D := D) (cl := vwCl) (ci := 0) (C := "StackRoom") (T := T_S) (N := 10) (v := .int (cc + 1)) (ty := .int) hx hb ht in_S ty_S tk_S nm_S hown hK.1 hP hS hR2.1 rfl 9 (by decide) (ht _ fl_S_S_contextsReached) (fun _ h9 => h9) rfl (by decide +kernel) rfl rfl (Nat.le_of_ble_eq_true rfl) d_S_survey_113 (fun H locs hP hS => ?_)
              obtain ⟨G8, eG8⟩ : ∃ z : gw_G, z = va_up G5 x (some (.inr (0, [.int (nI w), .int (nI n), .ref ra, .int (nI md), .ref rt, .int (nI L.length), .int (nI (rd + 1)), .int (nI (w - 8 - s_sum (s_wd σ) L)), .int (nI (n - 2 - s_sum (s_en σ) L)), .int (cc + 1)]))) := ⟨_, rfl⟩
              replace hP : gw_P D vwCl (gw_A G s.heap.size) G8 H := by rw [eG8]; exact hP
              have f8 : G8 x = some (.inr (0, [.int (nI w), .int (nI n), .ref ra, .int (nI md), .ref rt, .int (nI L.length), .int (nI (rd + 1)), .int (nI (w - 8 - s_sum (s_wd σ) L)), .int (nI (n - 2 - s_sum (s_en σ) L)), .int (cc + 1)])) := by rw [eG8]; exact va_up_self _ _ _
              have hR3 := hR2.own (rd' := rd + 1) (md' := md) (rc' := nI L.length) (wl' := nI (w - 8 - s_sum (s_wd σ) L)) (el' := nI (n - 2 - s_sum (s_en σ) L)) (cr' := cc + 1) (Nat.le_refl _)
              rw [← eG8] at hR3
              have hS3 : c_Srv w n (rd + 1) md cV cT σ x ra rt ad fa fr rr L (cc + 1) G8 := by
                obtain ⟨ρ9, rf9, hR9, h9, h8⟩ := id hS2
                have hR8 := hR9.own (rd' := rd + 1) (md' := md) (rc' := nI L.length) (wl' := nI (w - 8 - s_sum (s_wd σ) L)) (el' := nI (n - 2 - s_sum (s_en σ) L)) (cr' := cc + 1) (Nat.le_refl _)
                rw [← eG8] at hR8
                exact ⟨ρ9, rf9, hR8, h9, h8⟩
              refine lv_aload_n hx hb d_S_survey_116 rfl (lv_at hl 3 rfl) ?_
              refine lv_aload_n hx hb d_S_survey_117 rfl (lv_at hl 0 rfl) ?_
              refine g_callv hP hS hA (r_V (rest := []) C0 [.ref (ad i)] (k_S_reachPartsOf l hS3 hp2 hO hn.2 hm ht0 ht1 (i := i) hri (Or.inl hj)) ml_S_S_reachPartsOf im_S_reachPartsOf se_S_S_reachPartsOf_S ini_S co_S_reachPartsOf ⟨rfl, hd_S_reachPartsOf⟩ (g_preV (ci := 0) hK hP rfl hR3.1) hl.1 d_S_survey_118 rfl rfl (Nat.le_of_ble_eq_true rfl) ⟨rfl, rfl⟩ ⟨Nat.le_of_ble_eq_true rfl, Nat.le_of_ble_eq_true rfl⟩ ⟨Nat.le_of_ble_eq_true rfl, Nat.le_of_ble_eq_true rfl⟩) (fun G7 H locs hS4 hP hS hz9 hk9 => ?_)
              obtain ⟨L2, ⟨M, eM⟩, hp3, hed3, hS4⟩ := hS4
              refine lv_iinc (v := nI (q + 1)) (lv' := [(1, .int (nI (q + 1))), (2, .ref (ad i)), (3, .ref (ad i)), (0, .ref x)]) hx hb d_S_survey_121 hl (k := 2) rfl (by rw [← nI_1]; rfl) (by decide) rfl (fun ls hl => ?_)
              refine lv_goto (tgt := 70) hx hb d_S_survey_124 (by decide) ?_
              have sub : ∀ a, a ∈ L → a ∈ L2 := fun a ha => by rw [eM]; exact List.mem_append_left _ ha
              refine ih _ _ _ _ _ _ _ ⟨by omega, by rw [eM, List.length_append]; omega, lv_sub hl [0, 3] rfl, hP, hS, hS4, hp3, fun k hk a ha => sub a (hroot k hk a ha), ?_, fun k b hk hb a ha => ?_⟩
              · rw [eM, s_sum_take hi, hcc, show s_cn σ i = 1 from if_neg (by omega), nI_1]
              · have hk2 : k < L.length := by omega
                rw [eM, List.getElem?_append_left hk2] at hb
                by_cases e : k = q
                · subst e
                  rw [hi] at hb
                  cases hb
                  exact hed3 a ha
                · exact sub a (hed k b (by omega) hb a ha)
            · refine lv_astore_n (lv' := [(3, .ref (ad i)), (1, .int (nI q)), (0, .ref x)]) hx hb d_S_survey_93 rfl hl (by decide) rfl (fun ls hl => ?_)
              refine lv_aload_n hx hb d_S_survey_94 rfl (lv_at hl 0 rfl) ?_
              refine va_instY hx hb hown (ht _ cl_S_C) (hK.2.1 _ ca_B_C) (gw_recv hK.1 hP rfl (hR2.c4 hj)) d_S_survey_95 ?_
              refine lv_if_eq (tgt := 121) hx hb d_S_survey_98 (by decide) (fun h => absurd h (by decide)) (fun _ => ?_)
              refine lv_aload_n hx hb d_S_survey_101 rfl (lv_at hl 0 rfl) ?_
              refine va_castY hx hb hown (ht _ cl_S_C) (hK.2.1 _ ca_B_C) (gw_recv hK.1 hP rfl (hR2.c4 hj)) d_S_survey_102 ?_
              refine lv_astore_n (lv' := [(2, .ref (ad i)), (3, .ref (ad i)), (1, .int (nI q)), (0, .ref x)]) hx hb d_S_survey_105 rfl hl (by decide) rfl (fun ls hl => ?_)
              refine lv_aload_n hx hb d_S_survey_106 rfl (lv_at hl 3 rfl) ?_
              refine lv_dup hx hb d_S_survey_107 rfl ?_
              refine va_get (D := D) (ci := 0) (C := "StackRoom") (T := T_S) (N := 10) (v := .int cc) hx hb ht in_S hown hK.1 (hP.one hR2.1) 0 rfl rfl 9 (by decide) (ht _ fl_S_S_contextsReached) (fun _ h9 => h9) rfl d_S_survey_108 ?_
              refine lv_iconst (v := 1) hx hb d_S_survey_111 (by decide) ?_
              refine lv_iadd hx hb d_S_survey_112 ?_
              refine gw_put (D := D) (cl := vwCl) (ci := 0) (C := "StackRoom") (T := T_S) (N := 10) (v := .int (cc + 1)) (ty := .int) hx hb ht in_S ty_S tk_S nm_S hown hK.1 hP hS hR2.1 rfl 9 (by decide) (ht _ fl_S_S_contextsReached) (fun _ h9 => h9) rfl (by decide +kernel) rfl rfl (Nat.le_of_ble_eq_true rfl) d_S_survey_113 (fun H locs hP hS => ?_)
              obtain ⟨G9, eG9⟩ : ∃ z : gw_G, z = va_up G5 x (some (.inr (0, [.int (nI w), .int (nI n), .ref ra, .int (nI md), .ref rt, .int (nI L.length), .int (nI (rd + 1)), .int (nI (w - 8 - s_sum (s_wd σ) L)), .int (nI (n - 2 - s_sum (s_en σ) L)), .int (cc + 1)]))) := ⟨_, rfl⟩
              replace hP : gw_P D vwCl (gw_A G s.heap.size) G9 H := by rw [eG9]; exact hP
              have f9 : G9 x = some (.inr (0, [.int (nI w), .int (nI n), .ref ra, .int (nI md), .ref rt, .int (nI L.length), .int (nI (rd + 1)), .int (nI (w - 8 - s_sum (s_wd σ) L)), .int (nI (n - 2 - s_sum (s_en σ) L)), .int (cc + 1)])) := by rw [eG9]; exact va_up_self _ _ _
              have hR3 := hR2.own (rd' := rd + 1) (md' := md) (rc' := nI L.length) (wl' := nI (w - 8 - s_sum (s_wd σ) L)) (el' := nI (n - 2 - s_sum (s_en σ) L)) (cr' := cc + 1) (Nat.le_refl _)
              rw [← eG9] at hR3
              have hS3 : c_Srv w n (rd + 1) md cV cT σ x ra rt ad fa fr rr L (cc + 1) G9 := by
                obtain ⟨ρ9, rf9, hR9, h9, h8⟩ := id hS2
                have hR8 := hR9.own (rd' := rd + 1) (md' := md) (rc' := nI L.length) (wl' := nI (w - 8 - s_sum (s_wd σ) L)) (el' := nI (n - 2 - s_sum (s_en σ) L)) (cr' := cc + 1) (Nat.le_refl _)
                rw [← eG9] at hR8
                exact ⟨ρ9, rf9, hR8, h9, h8⟩
              refine lv_aload_n hx hb d_S_survey_116 rfl (lv_at hl 3 rfl) ?_
              refine lv_aload_n hx hb d_S_survey_117 rfl (lv_at hl 0 rfl) ?_
              refine g_callv hP hS hA (r_V (rest := []) C0 [.ref (ad i)] (k_S_reachPartsOf l hS3 hp2 hO hn.2 hm ht0 ht1 (i := i) hri (Or.inr hj)) ml_S_S_reachPartsOf im_S_reachPartsOf se_S_S_reachPartsOf_S ini_S co_S_reachPartsOf ⟨rfl, hd_S_reachPartsOf⟩ (g_preV (ci := 0) hK hP rfl hR3.1) hl.1 d_S_survey_118 rfl rfl (Nat.le_of_ble_eq_true rfl) ⟨rfl, rfl⟩ ⟨Nat.le_of_ble_eq_true rfl, Nat.le_of_ble_eq_true rfl⟩ ⟨Nat.le_of_ble_eq_true rfl, Nat.le_of_ble_eq_true rfl⟩) (fun G7 H locs hS4 hP hS hz9 hk9 => ?_)
              obtain ⟨L2, ⟨M, eM⟩, hp3, hed3, hS4⟩ := hS4
              refine lv_iinc (v := nI (q + 1)) (lv' := [(1, .int (nI (q + 1))), (2, .ref (ad i)), (3, .ref (ad i)), (0, .ref x)]) hx hb d_S_survey_121 hl (k := 2) rfl (by rw [← nI_1]; rfl) (by decide) rfl (fun ls hl => ?_)
              refine lv_goto (tgt := 70) hx hb d_S_survey_124 (by decide) ?_
              have sub : ∀ a, a ∈ L → a ∈ L2 := fun a ha => by rw [eM]; exact List.mem_append_left _ ha
              refine ih _ _ _ _ _ _ _ ⟨by omega, by rw [eM, List.length_append]; omega, lv_sub hl [0, 3] rfl, hP, hS, hS4, hp3, fun k hk a ha => sub a (hroot k hk a ha), ?_, fun k b hk hb a ha => ?_⟩
              · rw [eM, s_sum_take hi, hcc, show s_cn σ i = 1 from if_neg (by omega), nI_1]
              · have hk2 : k < L.length := by omega
                rw [eM, List.getElem?_append_left hk2] at hb
                by_cases e : k = q
                · subst e
                  rw [hi] at hb
                  cases hb
                  exact hed3 a ha
                · exact sub a (hed k b (by omega) hb a ha)
    · have hlt : j < 16 := Nat.not_le.mp (fun q => cj ((nI_leI (by omega) (by omega)).mpr q))
      refine lv_aload_n hx hb d_S_survey_52 rfl (lv_at hl 1 rfl) ?_
      refine lv_aload_n hx hb d_S_survey_53 rfl (lv_at hl 1 rfl) ?_
      refine va_get (D := D) (ci := 0) (C := "StackRoom") (T := T_S) (N := 10) (v := .ref ra) hx hb ht in_S hown hK.1 (hP.one hR2.1) 0 rfl rfl 2 (by decide) (ht _ fl_S_S_registers) (fun _ h9 => h9) rfl d_S_survey_54 ?_
      refine lv_iload_n hx hb d_S_survey_57 rfl (lv_at hl 0 rfl) ?_
      refine va_aldq (C := "StackRoom$Value") hx hb hK.1 (hP.one hR2.2.1) 0 0 rfl ht0 (vp_in_nI hlt (by omega)) d_S_survey_58 ?_
      rw [nI_clamp (by omega)]
      have hv3 : ∀ a, s_rg σ j = some (.inr a) → s_rch σ a := fun a e => s_rch_root hlt e
      refine g_callv hP hS hA (r_V (rest := []) C0 [va_rf (rr j)] (k_S_reach l hS2 hp2 hO hn.2 hm ht0 ht1 (v := s_rg σ j) hv3 (hR2.2.2.2.2.1 j hlt)) ml_S_S_reach im_S_reach se_S_S_reach_S ini_S co_S_reach ⟨rfl, hd_S_reach⟩ (g_preV (ci := 0) hK hP rfl hR2.1) hl.1 d_S_survey_59 rfl rfl (Nat.le_of_ble_eq_true rfl) ⟨rfl, rfl⟩ ⟨Nat.le_of_ble_eq_true rfl, Nat.le_of_ble_eq_true rfl⟩ ⟨Nat.le_of_ble_eq_true rfl, Nat.le_of_ble_eq_true rfl⟩) (fun G6 H locs hS3 hP hS hz9 hk9 => ?_)
      refine lv_iinc (v := nI (j + 1)) (lv' := [(1, .int (nI (j + 1))), (0, .ref x)]) hx hb d_S_survey_62 hl (k := 0) rfl (by rw [← nI_1]; rfl) (by decide) rfl (fun ls hl => ?_)
      refine lv_goto (tgt := 43) hx hb d_S_survey_65 (by decide) ?_
      refine ih _ _ _ _ _ _ ⟨by omega, by omega, lv_sub hl [0, 1] rfl, hP, hS, hS3, s_part_add hp2 hv3, fun k hk a ha => ?_⟩
      by_cases e : k = j
      · subst e
        rw [ha]
        exact s_add_in
      · exact s_add_sub (hrg k (by omega) a ha)
set_option maxHeartbeats 4000000 in
set_option maxRecDepth 100000 in
theorem k_S_words (l : Launch) (hR : c_Rep w n rd md cV cT σ x ra rt ad fa ρ fr rr rf rc wl el cr G) (hO : s_OK w n σ) (hw : 128 ≤ w ∧ w ≤ 32768) (hn : 16 ≤ n ∧ n ≤ 4096) (hm : s_md σ < 2 ^ 31) (hrd : rd + 1 < 2 ^ 31) (ht0 : tys[0]? = some (cV, .object "StackRoom$Value")) (ht1 : tys[1]? = some (cT, .object "StackRoom$Thing")) : Met l y_S_words w_S_words ({ frames := 5, cells := 0, slots := 0, locals := 107 }) (g_pre D tys G sz [.ref x]) (va_Qi (fun (rz : Int32) (G1 : gw_G) => rz = p_words w σ ∧ ∃ ρ2 rf2 rc2, c_Rep w n (rd + 1) md cV cT σ x ra rt ad fa ρ2 fr rr rf2 rc2 (nI (w - 8 - s_W σ)) (nI (n - 2 - s_N σ)) (nI (s_K σ)) G1) (g_end D G sz) (gw_A G sz)) 0 0 (gw_A G sz) := by
  refine Met.ofW (cc := b_S_words) (maxL := 1) (ret := (some .int)) (by decide) rfl ?_
  intro p e s m args below meth c s₁ B hml hv
  obtain ⟨rfl, hsz, hP, hK⟩ := hv
  have hx := B.exec
  have hb := B.bytes
  have hr := B.returns
  have ht := fun w (hw : w ∈ gt) => atoms_spec (ws := w_S_words) B.pre w (List.mem_cons_of_mem _ hw)
  have hown : s.vm.findClass "StackRoom" = some m.cls := findClass_of_methodNamed B.named
  have hlocks := B.notSynchronized
  have C0 : CallFix p m c b_S_words 1 s [.ref x].toArray gt "StackRoom" := ⟨hx, hb, hml, hown, ht⟩
  subst hsz
  have hP := hP.self (sz := s.heap.size)
  have hA : ∀ q : Nat, s.heap.size ≤ q → gw_A G s.heap.size q := fun q h => Or.inr h
  have hS : va_S (gw_A G s.heap.size) s.heap s.heap [] := va_S.rf
  have hl := lv_entry ([.ref x]) (n := 1) (Nat.le_of_ble_eq_true rfl)
  rw [lg_entry_eq]
  generalize (lg_sl ([.ref x]) ++ List.replicate (1 - (lg_sl ([.ref x])).length) Slot.unset).toArray = ls at hl ⊢
  have hl : lv_has ls 1 [(0, .ref x)] := hl
  refine lv_aload_n hx hb d_S_words_0 rfl (lv_at hl 0 rfl) ?_
  refine g_callv hP hS hA (r_V (rest := []) C0 [] (k_S_survey l hR hO hw hn hm hrd ht0 ht1) ml_S_S_survey im_S_survey se_S_S_survey_S ini_S co_S_survey ⟨rfl, hd_S_survey⟩ (g_preV (ci := 0) hK hP rfl hR.1) hl.1 d_S_words_1 rfl rfl (Nat.le_of_ble_eq_true rfl) ⟨rfl, rfl⟩ ⟨Nat.le_of_ble_eq_true rfl, Nat.le_of_ble_eq_true rfl⟩ ⟨Nat.le_of_ble_eq_true rfl, Nat.le_of_ble_eq_true rfl⟩) (fun G1 H locs hR1 hP hS hz9 hk9 => ?_)
  obtain ⟨ρ2, rf2, rc2, hR1⟩ := hR1
  refine lv_aload_n hx hb d_S_words_4 rfl (lv_at hl 0 rfl) ?_
  refine va_get (D := D) (ci := 0) (C := "StackRoom") (T := T_S) (N := 10) (v := .int (nI (w - 8 - s_W σ))) hx hb ht in_S hown hK.1 (hP.one hR1.1) 0 rfl rfl 7 (by decide) (ht _ fl_S_S_wordsLeft) (fun _ h9 => h9) rfl d_S_words_5 ?_
  exact W.iret (v := (nI (w - 8 - s_W σ))) hx hb hr (fun t ht hW => ⟨⟨_, G1, rfl, ⟨rfl, ρ2, rf2, rc2, hR1⟩, g_fin ht hP⟩, hS.F ht⟩) hS.2.2 d_S_words_8
set_option maxHeartbeats 4000000 in
set_option maxRecDepth 100000 in
theorem k_S_entries (l : Launch) (hR : c_Rep w n rd md cV cT σ x ra rt ad fa ρ fr rr rf rc wl el cr G) (hO : s_OK w n σ) (hw : 128 ≤ w ∧ w ≤ 32768) (hn : 16 ≤ n ∧ n ≤ 4096) (hm : s_md σ < 2 ^ 31) (hrd : rd + 1 < 2 ^ 31) (ht0 : tys[0]? = some (cV, .object "StackRoom$Value")) (ht1 : tys[1]? = some (cT, .object "StackRoom$Thing")) : Met l y_S_entries w_S_entries ({ frames := 5, cells := 0, slots := 0, locals := 107 }) (g_pre D tys G sz [.ref x]) (va_Qi (fun (rz : Int32) (G1 : gw_G) => rz = p_entries n σ ∧ ∃ ρ2 rf2 rc2, c_Rep w n (rd + 1) md cV cT σ x ra rt ad fa ρ2 fr rr rf2 rc2 (nI (w - 8 - s_W σ)) (nI (n - 2 - s_N σ)) (nI (s_K σ)) G1) (g_end D G sz) (gw_A G sz)) 0 0 (gw_A G sz) := by
  refine Met.ofW (cc := b_S_entries) (maxL := 1) (ret := (some .int)) (by decide) rfl ?_
  intro p e s m args below meth c s₁ B hml hv
  obtain ⟨rfl, hsz, hP, hK⟩ := hv
  have hx := B.exec
  have hb := B.bytes
  have hr := B.returns
  have ht := fun w (hw : w ∈ gt) => atoms_spec (ws := w_S_entries) B.pre w (List.mem_cons_of_mem _ hw)
  have hown : s.vm.findClass "StackRoom" = some m.cls := findClass_of_methodNamed B.named
  have hlocks := B.notSynchronized
  have C0 : CallFix p m c b_S_entries 1 s [.ref x].toArray gt "StackRoom" := ⟨hx, hb, hml, hown, ht⟩
  subst hsz
  have hP := hP.self (sz := s.heap.size)
  have hA : ∀ q : Nat, s.heap.size ≤ q → gw_A G s.heap.size q := fun q h => Or.inr h
  have hS : va_S (gw_A G s.heap.size) s.heap s.heap [] := va_S.rf
  have hl := lv_entry ([.ref x]) (n := 1) (Nat.le_of_ble_eq_true rfl)
  rw [lg_entry_eq]
  generalize (lg_sl ([.ref x]) ++ List.replicate (1 - (lg_sl ([.ref x])).length) Slot.unset).toArray = ls at hl ⊢
  have hl : lv_has ls 1 [(0, .ref x)] := hl
  refine lv_aload_n hx hb d_S_entries_0 rfl (lv_at hl 0 rfl) ?_
  refine g_callv hP hS hA (r_V (rest := []) C0 [] (k_S_survey l hR hO hw hn hm hrd ht0 ht1) ml_S_S_survey im_S_survey se_S_S_survey_S ini_S co_S_survey ⟨rfl, hd_S_survey⟩ (g_preV (ci := 0) hK hP rfl hR.1) hl.1 d_S_entries_1 rfl rfl (Nat.le_of_ble_eq_true rfl) ⟨rfl, rfl⟩ ⟨Nat.le_of_ble_eq_true rfl, Nat.le_of_ble_eq_true rfl⟩ ⟨Nat.le_of_ble_eq_true rfl, Nat.le_of_ble_eq_true rfl⟩) (fun G1 H locs hR1 hP hS hz9 hk9 => ?_)
  obtain ⟨ρ2, rf2, rc2, hR1⟩ := hR1
  refine lv_aload_n hx hb d_S_entries_4 rfl (lv_at hl 0 rfl) ?_
  refine va_get (D := D) (ci := 0) (C := "StackRoom") (T := T_S) (N := 10) (v := .int (nI (n - 2 - s_N σ))) hx hb ht in_S hown hK.1 (hP.one hR1.1) 0 rfl rfl 8 (by decide) (ht _ fl_S_S_entriesLeft) (fun _ h9 => h9) rfl d_S_entries_5 ?_
  exact W.iret (v := (nI (n - 2 - s_N σ))) hx hb hr (fun t ht hW => ⟨⟨_, G1, rfl, ⟨rfl, ρ2, rf2, rc2, hR1⟩, g_fin ht hP⟩, hS.F ht⟩) hS.2.2 d_S_entries_8
set_option maxHeartbeats 4000000 in
set_option maxRecDepth 100000 in
theorem k_S_contexts (l : Launch) (hR : c_Rep w n rd md cV cT σ x ra rt ad fa ρ fr rr rf rc wl el cr G) (hO : s_OK w n σ) (hw : 128 ≤ w ∧ w ≤ 32768) (hn : 16 ≤ n ∧ n ≤ 4096) (hm : s_md σ < 2 ^ 31) (hrd : rd + 1 < 2 ^ 31) (ht0 : tys[0]? = some (cV, .object "StackRoom$Value")) (ht1 : tys[1]? = some (cT, .object "StackRoom$Thing")) : Met l y_S_contexts w_S_contexts ({ frames := 5, cells := 0, slots := 0, locals := 107 }) (g_pre D tys G sz [.ref x]) (va_Qi (fun (rz : Int32) (G1 : gw_G) => rz = p_contexts σ ∧ ∃ ρ2 rf2 rc2, c_Rep w n (rd + 1) md cV cT σ x ra rt ad fa ρ2 fr rr rf2 rc2 (nI (w - 8 - s_W σ)) (nI (n - 2 - s_N σ)) (nI (s_K σ)) G1) (g_end D G sz) (gw_A G sz)) 0 0 (gw_A G sz) := by
  refine Met.ofW (cc := b_S_contexts) (maxL := 1) (ret := (some .int)) (by decide) rfl ?_
  intro p e s m args below meth c s₁ B hml hv
  obtain ⟨rfl, hsz, hP, hK⟩ := hv
  have hx := B.exec
  have hb := B.bytes
  have hr := B.returns
  have ht := fun w (hw : w ∈ gt) => atoms_spec (ws := w_S_contexts) B.pre w (List.mem_cons_of_mem _ hw)
  have hown : s.vm.findClass "StackRoom" = some m.cls := findClass_of_methodNamed B.named
  have hlocks := B.notSynchronized
  have C0 : CallFix p m c b_S_contexts 1 s [.ref x].toArray gt "StackRoom" := ⟨hx, hb, hml, hown, ht⟩
  subst hsz
  have hP := hP.self (sz := s.heap.size)
  have hA : ∀ q : Nat, s.heap.size ≤ q → gw_A G s.heap.size q := fun q h => Or.inr h
  have hS : va_S (gw_A G s.heap.size) s.heap s.heap [] := va_S.rf
  have hl := lv_entry ([.ref x]) (n := 1) (Nat.le_of_ble_eq_true rfl)
  rw [lg_entry_eq]
  generalize (lg_sl ([.ref x]) ++ List.replicate (1 - (lg_sl ([.ref x])).length) Slot.unset).toArray = ls at hl ⊢
  have hl : lv_has ls 1 [(0, .ref x)] := hl
  refine lv_aload_n hx hb d_S_contexts_0 rfl (lv_at hl 0 rfl) ?_
  refine g_callv hP hS hA (r_V (rest := []) C0 [] (k_S_survey l hR hO hw hn hm hrd ht0 ht1) ml_S_S_survey im_S_survey se_S_S_survey_S ini_S co_S_survey ⟨rfl, hd_S_survey⟩ (g_preV (ci := 0) hK hP rfl hR.1) hl.1 d_S_contexts_1 rfl rfl (Nat.le_of_ble_eq_true rfl) ⟨rfl, rfl⟩ ⟨Nat.le_of_ble_eq_true rfl, Nat.le_of_ble_eq_true rfl⟩ ⟨Nat.le_of_ble_eq_true rfl, Nat.le_of_ble_eq_true rfl⟩) (fun G1 H locs hR1 hP hS hz9 hk9 => ?_)
  obtain ⟨ρ2, rf2, rc2, hR1⟩ := hR1
  refine lv_aload_n hx hb d_S_contexts_4 rfl (lv_at hl 0 rfl) ?_
  refine va_get (D := D) (ci := 0) (C := "StackRoom") (T := T_S) (N := 10) (v := .int (nI (s_K σ))) hx hb ht in_S hown hK.1 (hP.one hR1.1) 0 rfl rfl 9 (by decide) (ht _ fl_S_S_contextsReached) (fun _ h9 => h9) rfl d_S_contexts_5 ?_
  exact W.iret (v := (nI (s_K σ))) hx hb hr (fun t ht hW => ⟨⟨_, G1, rfl, ⟨rfl, ρ2, rf2, rc2, hR1⟩, g_fin ht hP⟩, hS.F ht⟩) hS.2.2 d_S_contexts_8
set_option maxHeartbeats 4000000 in
set_option maxRecDepth 100000 in
theorem k_S_canBeMade (l : Launch) (hR : c_Rep w n rd md cV cT σ x ra rt ad fa ρ fr rr rf rc wl el cr G) (hO : s_OK w n σ) (hw : 128 ≤ w ∧ w ≤ 32768) (hn : 16 ≤ n ∧ n ≤ 4096) (hm : s_md σ < 2 ^ 31) (hrd : rd + 1 < 2 ^ 31) (ht0 : tys[0]? = some (cV, .object "StackRoom$Value")) (ht1 : tys[1]? = some (cT, .object "StackRoom$Thing")) {a b : Nat} (ha : a < 1000) (hb0 : b < 1000) : Met l y_S_canBeMade w_S_canBeMade ({ frames := 5, cells := 0, slots := 0, locals := 107 }) (g_pre D tys G sz [.ref x, .int (nI a), .int (nI b)]) (va_Qi (fun (rz : Int32) (G1 : gw_G) => rz = (if a + s_W σ + 8 ≤ w ∧ b + s_N σ + 2 ≤ n then 1 else 0) ∧ ∃ ρ2 rf2 rc2, c_Rep w n (rd + 1) md cV cT σ x ra rt ad fa ρ2 fr rr rf2 rc2 (nI (w - 8 - s_W σ)) (nI (n - 2 - s_N σ)) (nI (s_K σ)) G1) (g_end D G sz) (gw_A G sz)) 0 0 (gw_A G sz) := by
  refine Met.ofW (cc := b_S_canBeMade) (maxL := 3) (ret := (some .boolean)) (by decide) rfl ?_
  intro p e s m args below meth c s₁ B hml hv
  obtain ⟨rfl, hsz, hP, hK⟩ := hv
  have hx := B.exec
  have hb := B.bytes
  have hr := B.returns
  have ht := fun w (hw : w ∈ gt) => atoms_spec (ws := w_S_canBeMade) B.pre w (List.mem_cons_of_mem _ hw)
  have hown : s.vm.findClass "StackRoom" = some m.cls := findClass_of_methodNamed B.named
  have hlocks := B.notSynchronized
  have C0 : CallFix p m c b_S_canBeMade 3 s [.ref x, .int (nI a), .int (nI b)].toArray gt "StackRoom" := ⟨hx, hb, hml, hown, ht⟩
  subst hsz
  have hP := hP.self (sz := s.heap.size)
  have hA : ∀ q : Nat, s.heap.size ≤ q → gw_A G s.heap.size q := fun q h => Or.inr h
  have hS : va_S (gw_A G s.heap.size) s.heap s.heap [] := va_S.rf
  have hl := lv_entry ([.ref x, .int (nI a), .int (nI b)]) (n := 3) (Nat.le_of_ble_eq_true rfl)
  rw [lg_entry_eq]
  generalize (lg_sl ([.ref x, .int (nI a), .int (nI b)]) ++ List.replicate (3 - (lg_sl ([.ref x, .int (nI a), .int (nI b)])).length) Slot.unset).toArray = ls at hl ⊢
  have hl : lv_has ls 3 [(0, .ref x), (1, .int (nI a)), (2, .int (nI b))] := hl
  refine lv_aload_n hx hb d_S_canBeMade_0 rfl (lv_at hl 0 rfl) ?_
  refine g_callv hP hS hA (r_V (rest := []) C0 [] (k_S_survey l hR hO hw hn hm hrd ht0 ht1) ml_S_S_survey im_S_survey se_S_S_survey_S ini_S co_S_survey ⟨rfl, hd_S_survey⟩ (g_preV (ci := 0) hK hP rfl hR.1) hl.1 d_S_canBeMade_1 rfl rfl (Nat.le_of_ble_eq_true rfl) ⟨rfl, rfl⟩ ⟨Nat.le_of_ble_eq_true rfl, Nat.le_of_ble_eq_true rfl⟩ ⟨Nat.le_of_ble_eq_true rfl, Nat.le_of_ble_eq_true rfl⟩) (fun G1 H locs hR1 hP hS hz9 hk9 => ?_)
  obtain ⟨ρ2, rf2, rc2, hR1⟩ := hR1
  have h1 := hO.2.1
  have h2 := hO.2.2
  refine lv_iload_n hx hb d_S_canBeMade_4 rfl (lv_at hl 1 rfl) ?_
  refine lv_aload_n hx hb d_S_canBeMade_5 rfl (lv_at hl 0 rfl) ?_
  refine va_get (D := D) (ci := 0) (C := "StackRoom") (T := T_S) (N := 10) (v := .int (nI (w - 8 - s_W σ))) hx hb ht in_S hown hK.1 (hP.one hR1.1) 0 rfl rfl 7 (by decide) (ht _ fl_S_S_wordsLeft) (fun _ h9 => h9) rfl d_S_canBeMade_6 ?_
  refine lv_icmp_gt (tgt := 24) hx hb d_S_canBeMade_9 (by decide) (fun ca => ?_) (fun ca => ?_)
  · refine lv_iconst (v := 0) hx hb d_S_canBeMade_24 (by decide) ?_
    exact W.zret (v := 0) hx hb hr rfl (fun t ht hW => ⟨⟨_, G1, rfl, ⟨by rw [if_neg (fun q => absurd ((nI_ltI (by omega) (by omega)).mp ca) (by omega))], ρ2, rf2, rc2, hR1⟩, g_fin ht hP⟩, hS.F ht⟩) hS.2.2 d_S_canBeMade_25
  · refine lv_iload_n hx hb d_S_canBeMade_12 rfl (lv_at hl 2 rfl) ?_
    refine lv_aload_n hx hb d_S_canBeMade_13 rfl (lv_at hl 0 rfl) ?_
    refine va_get (D := D) (ci := 0) (C := "StackRoom") (T := T_S) (N := 10) (v := .int (nI (n - 2 - s_N σ))) hx hb ht in_S hown hK.1 (hP.one hR1.1) 0 rfl rfl 8 (by decide) (ht _ fl_S_S_entriesLeft) (fun _ h9 => h9) rfl d_S_canBeMade_14 ?_
    refine lv_icmp_gt (tgt := 24) hx hb d_S_canBeMade_17 (by decide) (fun cb => ?_) (fun cb => ?_)
    · refine lv_iconst (v := 0) hx hb d_S_canBeMade_24 (by decide) ?_
      exact W.zret (v := 0) hx hb hr rfl (fun t ht hW => ⟨⟨_, G1, rfl, ⟨by rw [if_neg (fun q => absurd ((nI_ltI (by omega) (by omega)).mp cb) (by omega))], ρ2, rf2, rc2, hR1⟩, g_fin ht hP⟩, hS.F ht⟩) hS.2.2 d_S_canBeMade_25
    · refine lv_iconst (v := 1) hx hb d_S_canBeMade_20 (by decide) ?_
      refine lv_goto (tgt := 25) hx hb d_S_canBeMade_21 (by decide) ?_
      exact W.zret (v := 1) hx hb hr rfl (fun t ht hW => ⟨⟨_, G1, rfl, ⟨by rw [if_pos ⟨by have := Nat.not_lt.mp (fun q => ca ((nI_ltI (by omega) (by omega)).mpr q)); omega, by have := Nat.not_lt.mp (fun q => cb ((nI_ltI (by omega) (by omega)).mpr q)); omega⟩], ρ2, rf2, rc2, hR1⟩, g_fin ht hP⟩, hS.F ht⟩) hS.2.2 d_S_canBeMade_25
end K17
