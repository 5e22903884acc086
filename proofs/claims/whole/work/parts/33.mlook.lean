section K33
variable {cI cB cZ : ClassId} {x w n md : Nat} {adr : Nat → Nat} {us r0 r1 r2 r3 : Int32} {ar : Nat → Nat → Int32} {G : gw_G} {σ : sS} {sl bg : Nat → Nat} {U : Nat} {D : va_G} {tys : List (ClassId × FieldType)} {sz : Nat}
theorem nI_0s : nI ([] : List Nat).length = 0 := nI_0
theorem m_lnk (s : Nat) : 2 * nI s + 2 = nI (2 * s + 2) := by
  rw [← nI_add, ← pk_mul]
  rfl
theorem s_hu {σ : sS} (hV : s_NV σ) {r : Nat} (hr : r < 16) : ∀ a, s_rg σ r = some (.inl a) → -1073741824 ≤ a ∧ a ≤ 1073741823 := fun a e => hV.1 r hr a e
theorem sn_no {o : Option Nat} {a : Int32} (h : (o.map .inr : sV) = some (.inl a)) : False := by
  cases o <;> cases h
set_option maxHeartbeats 4000000 in
set_option maxRecDepth 100000 in
theorem k_R_look (l : Launch) (hM : m_Arr cI cB cZ x w n md adr us r0 r1 r2 r3 ar G) (hE : m_Sem (s_rch σ) σ sl bg U ar) (hO : s_OK w n σ) (hV : s_NV σ) (hn4 : n ≤ 4096) (ht2 : tys[2]? = some (cI, .int)) (ht3 : tys[3]? = some (cB, .byte)) (ht4 : tys[4]? = some (cZ, .boolean)) : Met l y_R_look w_R_look ({ frames := 2, cells := 0, slots := 0, locals := 41 }) (g_pre D tys G sz [.ref x]) (va_Qv (fun G1 : gw_G => ∃ ar2 r4, m_Arr cI cB cZ x w n md adr us r4 (nI (s_N σ)) (nI (s_W σ)) (nI (s_K σ)) ar2 G1 ∧ (∀ i, s_rch σ i → ar2 19 (sl i) = 1) ∧ (∀ o, o < 4096 → (∀ i, s_rch σ i → sl i ≠ o) → ar2 19 o = 0) ∧ ∀ k, k ≠ 19 → k ≠ 20 → ar2 k = ar k) (g_end D G sz) (gw_A G sz)) 0 0 (gw_A G sz) := by
  refine Met.ofW (cc := b_R_look) (maxL := 4) (ret := none) (by decide) rfl ?_
  intro p e s m args below meth c s₁ B hml hv
  obtain ⟨rfl, hsz, hP, hK⟩ := hv
  have hx := B.exec
  have hb := B.bytes
  have hr := B.returns
  have ht := fun w (hw : w ∈ gt) => atoms_spec (ws := w_R_look) B.pre w (List.mem_cons_of_mem _ hw)
  have hown : s.vm.findClass "StackRoomModel" = some m.cls := findClass_of_methodNamed B.named
  have hlocks := B.notSynchronized
  have C0 : CallFix p m c b_R_look 4 s [.ref x].toArray gt "StackRoomModel" := ⟨hx, hb, hml, hown, ht⟩
  subst hsz
  have hP := hP.self (sz := s.heap.size)
  have hA : ∀ q : Nat, s.heap.size ≤ q → gw_A G s.heap.size q := fun q h => Or.inr h
  have hS : va_S (gw_A G s.heap.size) s.heap s.heap [] := va_S.rf
  have hl := lv_entry ([.ref x]) (n := 4) (Nat.le_of_ble_eq_true rfl)
  rw [lg_entry_eq]
  generalize (lg_sl ([.ref x]) ++ List.replicate (4 - (lg_sl ([.ref x])).length) Slot.unset).toArray = ls at hl ⊢
  have hl : lv_has ls 4 [(0, .ref x)] := hl
  have hsl := fun i (hi : s_rch σ i) => (hE.2.1 i hi).1
  have hinj := hE.2.2.2.2.2.2.1
  refine lv_iconst (v := 0) hx hb d_R_look_0 (by decide) ?_
  refine lv_istore_n (lv' := [(1, .int 0), (0, .ref x)]) hx hb d_R_look_1 rfl hl (by decide) rfl (fun ls hl => ?_)
  obtain ⟨j, ej⟩ : ∃ z : Nat, z = 0 := ⟨_, rfl⟩
  obtain ⟨f, ef⟩ : ∃ z : Nat, z = 4096 := ⟨_, rfl⟩
  obtain ⟨G1, eG1⟩ : ∃ z : gw_G, z = G := ⟨_, rfl⟩
  obtain ⟨ar1, ear⟩ : ∃ z : Nat → Nat → Int32, z = ar := ⟨_, rfl⟩
  obtain ⟨H, eH⟩ : ∃ z : Heap, z = s.heap := ⟨_, rfl⟩
  obtain ⟨locs, eL⟩ : ∃ z : List Loc, z = [] := ⟨_, rfl⟩
  have inv : 4096 ≤ j + f ∧ j ≤ 4096 ∧ lv_has ls 4 [(1, .int (nI j)), (0, .ref x)] ∧ gw_P D vwCl (gw_A G s.heap.size) G1 H ∧ va_S (gw_A G s.heap.size) s.heap H locs ∧ m_Arr cI cB cZ x w n md adr us (r0) (r1) (r2) (r3) ar1 G1 ∧ (∀ o, o < j → ar1 19 o = 0) ∧ (∀ k, k ≠ 19 → k ≠ 20 → ar1 k = ar k) := by
    refine ⟨by omega, by omega, by rw [ej]; exact hl, by rw [eG1, eH]; exact hP, by rw [eH, eL]; exact hS, by rw [ear, eG1]; exact hM, fun o ho => absurd ho (by omega), fun k _ _ => by rw [ear]⟩
  refine W_heq eH eL ?_
  clear hl hP hS ej ef eG1 ear eH eL
  induction f generalizing j ls H locs G1 ar1
  case zero =>
    obtain ⟨hf, hj, hl, hP, hS, hM1, h19, hkp⟩ := inv
    refine lv_iload_n hx hb d_R_look_2 rfl (lv_at hl 0 rfl) ?_
    refine lv_sipush (v := 4096) hx hb d_R_look_3 (by decide) ?_
    refine lv_icmp_ge (tgt := 22) hx hb d_R_look_6 (by decide) (fun cj => ?_) (fun cj => ?_)
    · have hge : 4096 ≤ j := (nI_leI (by omega) (by omega)).mp (show nI 4096 ≤ nI j from cj)
      refine lv_aload_n hx hb d_R_look_22 rfl (lv_at hl 1 rfl) ?_
      refine lv_iconst (v := 0) hx hb d_R_look_23 (by decide) ?_
      refine gw_put (D := D) (cl := vwCl) (ci := 5) (C := "StackRoomModel") (T := T_R) (N := 25) (v := .int 0) (ty := .int) hx hb ht in_R ty_R tk_R nm_R hown hK.1 hP hS hM1.1 rfl 21 (by decide) (ht _ fl_R_R_reached) (fun _ h9 => h9) rfl (by decide +kernel) rfl rfl (Nat.le_of_ble_eq_true rfl) d_R_look_24 (fun H locs hP hS => ?_)
      obtain ⟨G11, eG11⟩ : ∃ z : gw_G, z = va_up G1 x (some (.inr (5, [.int (nI w), .int (nI n), .int (nI md), .ref (adr 3), .ref (adr 4), .ref (adr 5), .ref (adr 6), .ref (adr 7), .ref (adr 8), .ref (adr 9), .ref (adr 10), .ref (adr 11), .ref (adr 12), .ref (adr 13), .ref (adr 14), .ref (adr 15), .ref (adr 16), .ref (adr 17), .int us, .ref (adr 19), .ref (adr 20), .int 0, .int r1, .int r2, .int r3]))) := ⟨_, rfl⟩
      replace hP : gw_P D vwCl (gw_A G s.heap.size) G11 H := by rw [eG11]; exact hP
      have hM11 : m_Arr cI cB cZ x w n md adr (us) (0) (r1) (r2) (r3) ar1 G11 := by rw [eG11]; exact hM1.own md (us) (0) (r1) (r2) (r3)
      refine lv_aload_n hx hb d_R_look_27 rfl (lv_at hl 1 rfl) ?_
      refine lv_iconst (v := 0) hx hb d_R_look_28 (by decide) ?_
      refine gw_put (D := D) (cl := vwCl) (ci := 5) (C := "StackRoomModel") (T := T_R) (N := 25) (v := .int 0) (ty := .int) hx hb ht in_R ty_R tk_R nm_R hown hK.1 hP hS hM11.1 rfl 22 (by decide) (ht _ fl_R_R_reachedObjects) (fun _ h9 => h9) rfl (by decide +kernel) rfl rfl (Nat.le_of_ble_eq_true rfl) d_R_look_29 (fun H locs hP hS => ?_)
      obtain ⟨G12, eG12⟩ : ∃ z : gw_G, z = va_up G11 x (some (.inr (5, [.int (nI w), .int (nI n), .int (nI md), .ref (adr 3), .ref (adr 4), .ref (adr 5), .ref (adr 6), .ref (adr 7), .ref (adr 8), .ref (adr 9), .ref (adr 10), .ref (adr 11), .ref (adr 12), .ref (adr 13), .ref (adr 14), .ref (adr 15), .ref (adr 16), .ref (adr 17), .int us, .ref (adr 19), .ref (adr 20), .int 0, .int 0, .int r2, .int r3]))) := ⟨_, rfl⟩
      replace hP : gw_P D vwCl (gw_A G s.heap.size) G12 H := by rw [eG12]; exact hP
      have hM12 : m_Arr cI cB cZ x w n md adr (us) (0) (0) (r2) (r3) ar1 G12 := by rw [eG12]; exact hM11.own md (us) (0) (0) (r2) (r3)
      refine lv_aload_n hx hb d_R_look_32 rfl (lv_at hl 1 rfl) ?_
      refine lv_iconst (v := 0) hx hb d_R_look_33 (by decide) ?_
      refine gw_put (D := D) (cl := vwCl) (ci := 5) (C := "StackRoomModel") (T := T_R) (N := 25) (v := .int 0) (ty := .int) hx hb ht in_R ty_R tk_R nm_R hown hK.1 hP hS hM12.1 rfl 23 (by decide) (ht _ fl_R_R_reachedWords) (fun _ h9 => h9) rfl (by decide +kernel) rfl rfl (Nat.le_of_ble_eq_true rfl) d_R_look_34 (fun H locs hP hS => ?_)
      obtain ⟨G13, eG13⟩ : ∃ z : gw_G, z = va_up G12 x (some (.inr (5, [.int (nI w), .int (nI n), .int (nI md), .ref (adr 3), .ref (adr 4), .ref (adr 5), .ref (adr 6), .ref (adr 7), .ref (adr 8), .ref (adr 9), .ref (adr 10), .ref (adr 11), .ref (adr 12), .ref (adr 13), .ref (adr 14), .ref (adr 15), .ref (adr 16), .ref (adr 17), .int us, .ref (adr 19), .ref (adr 20), .int 0, .int 0, .int 0, .int r3]))) := ⟨_, rfl⟩
      replace hP : gw_P D vwCl (gw_A G s.heap.size) G13 H := by rw [eG13]; exact hP
      have hM13 : m_Arr cI cB cZ x w n md adr (us) (0) (0) (0) (r3) ar1 G13 := by rw [eG13]; exact hM12.own md (us) (0) (0) (0) (r3)
      refine lv_aload_n hx hb d_R_look_37 rfl (lv_at hl 1 rfl) ?_
      refine lv_iconst (v := 0) hx hb d_R_look_38 (by decide) ?_
      refine gw_put (D := D) (cl := vwCl) (ci := 5) (C := "StackRoomModel") (T := T_R) (N := 25) (v := .int 0) (ty := .int) hx hb ht in_R ty_R tk_R nm_R hown hK.1 hP hS hM13.1 rfl 24 (by decide) (ht _ fl_R_R_reachedContexts) (fun _ h9 => h9) rfl (by decide +kernel) rfl rfl (Nat.le_of_ble_eq_true rfl) d_R_look_39 (fun H locs hP hS => ?_)
      obtain ⟨G14, eG14⟩ : ∃ z : gw_G, z = va_up G13 x (some (.inr (5, [.int (nI w), .int (nI n), .int (nI md), .ref (adr 3), .ref (adr 4), .ref (adr 5), .ref (adr 6), .ref (adr 7), .ref (adr 8), .ref (adr 9), .ref (adr 10), .ref (adr 11), .ref (adr 12), .ref (adr 13), .ref (adr 14), .ref (adr 15), .ref (adr 16), .ref (adr 17), .int us, .ref (adr 19), .ref (adr 20), .int 0, .int 0, .int 0, .int 0]))) := ⟨_, rfl⟩
      replace hP : gw_P D vwCl (gw_A G s.heap.size) G14 H := by rw [eG14]; exact hP
      have hM14 : m_Arr cI cB cZ x w n md adr (us) (0) (0) (0) (0) ar1 G14 := by rw [eG14]; exact hM13.own md (us) (0) (0) (0) (0)
      refine lv_iconst (v := 0) hx hb d_R_look_42 (by decide) ?_
      refine lv_istore_n (lv' := [(1, .int 0), (0, .ref x)]) hx hb d_R_look_43 rfl hl (by decide) rfl (fun ls hl => ?_)
      have hM2 : m_Arr cI cB cZ x w n md adr us (nI ([] : List Nat).length) (0) (0) (0) ar1 G14 := by rw [nI_0s]; exact hM14
      have hQ2 : m_Q sl [] ar1 := ⟨fun i hi => (by cases hi), fun o ho _ => h19 o (by omega), fun k i hk => (by simp at hk)⟩
      obtain ⟨G2, eG2⟩ : ∃ z : gw_G, z = G14 := ⟨_, rfl⟩
      obtain ⟨ar2, ear2⟩ : ∃ z : Nat → Nat → Int32, z = ar1 := ⟨_, rfl⟩
      obtain ⟨L, eL⟩ : ∃ z : List Nat, z = [] := ⟨_, rfl⟩
      obtain ⟨q, eq⟩ : ∃ z : Nat, z = 0 := ⟨_, rfl⟩
      obtain ⟨g, eg⟩ : ∃ z : Nat, z = 16 := ⟨_, rfl⟩
      have inv : 16 ≤ q + g ∧ q ≤ 16 ∧ lv_has ls 4 [(1, .int (nI q)), (0, .ref x)] ∧ gw_P D vwCl (gw_A G s.heap.size) G2 H ∧ va_S (gw_A G s.heap.size) s.heap H locs ∧ m_Arr cI cB cZ x w n md adr us (nI L.length) (0) (0) (0) ar2 G2 ∧ m_Q sl L ar2 ∧ s_part σ L ∧ (∀ k, k < q → ∀ a, s_rg σ k = some (.inr a) → a ∈ L) ∧ (∀ k, k ≠ 19 → k ≠ 20 → ar2 k = ar k) := by
        refine ⟨by omega, by omega, by rw [eq]; exact hl, by rw [eG2]; exact hP, hS, by rw [eL, ear2, eG2]; exact hM2, by rw [eL, ear2]; exact hQ2, by rw [eL]; exact s_part_nil, fun k hk => absurd hk (by omega), fun k h1 h2 => by rw [ear2]; exact hkp k h1 h2⟩
      clear hl hP hS hM2 hQ2 eG2 ear2 eL eq eg hM14
      induction g generalizing q ls H locs G2 ar2 L
      case zero =>
        obtain ⟨hg, hq, hl, hP, hS, hM2, hQ2, hp2, hrg, hkp2⟩ := inv
        refine lv_iload_n hx hb d_R_look_44 rfl (lv_at hl 0 rfl) ?_
        refine lv_bipush (v := 16) hx hb d_R_look_45 (by decide) ?_
        refine lv_icmp_ge (tgt := 66) hx hb d_R_look_47 (by decide) (fun cq => ?_) (fun cq => ?_)
        · have hge2 : 16 ≤ q := (nI_leI (by omega) (by omega)).mp (show nI 16 ≤ nI q from cq)
          refine lv_iconst (v := 0) hx hb d_R_look_66 (by decide) ?_
          refine lv_istore_n (lv' := [(1, .int 0), (0, .ref x)]) hx hb d_R_look_67 rfl hl (by decide) rfl (fun ls hl => ?_)
          have hroot : ∀ k, k < 16 → ∀ a, s_rg σ k = some (.inr a) → a ∈ L := fun k hk => hrg k (by omega)
          obtain ⟨o1, eo1⟩ : ∃ z : Int32, z = 0 := ⟨_, rfl⟩
          obtain ⟨o2, eo2⟩ : ∃ z : Int32, z = 0 := ⟨_, rfl⟩
          obtain ⟨o3, eo3⟩ : ∃ z : Int32, z = 0 := ⟨_, rfl⟩
          obtain ⟨p3, ep3⟩ : ∃ z : Nat, z = 0 := ⟨_, rfl⟩
          obtain ⟨g3, eg3⟩ : ∃ z : Nat, z = n := ⟨_, rfl⟩
          have inv : n ≤ p3 + g3 ∧ p3 ≤ L.length ∧ lv_has ls 4 [(1, .int (nI p3)), (0, .ref x)] ∧ gw_P D vwCl (gw_A G s.heap.size) G2 H ∧ va_S (gw_A G s.heap.size) s.heap H locs ∧ m_Arr cI cB cZ x w n md adr us (nI L.length) (o1) (o2) (o3) ar2 G2 ∧ m_Q sl L ar2 ∧ s_part σ L ∧ (∀ k, k < 16 → ∀ a, s_rg σ k = some (.inr a) → a ∈ L) ∧ o1 = nI (s_sum (s_en σ) (L.take p3)) ∧ o2 = nI (s_sum (s_wd σ) (L.take p3)) ∧ o3 = nI (s_sum (s_cn σ) (L.take p3)) ∧ (∀ k i, k < p3 → L[k]? = some i → ∀ a, s_edge σ i a → a ∈ L) ∧ (∀ k, k ≠ 19 → k ≠ 20 → ar2 k = ar k) := by
            refine ⟨by omega, by omega, by rw [ep3]; exact lv_sub hl [0, 1] rfl, hP, hS, by rw [eo1, eo2, eo3]; exact hM2, hQ2, hp2, hroot, by rw [ep3, eo1]; rfl, by rw [ep3, eo2]; rfl, by rw [ep3, eo3]; rfl, fun k i hk => absurd hk (by omega), hkp2⟩
          clear hl hP hS hM2 hQ2 hp2 hrg hroot eo1 eo2 eo3 ep3 eg3 hkp2 hge2 cq
          induction g3 generalizing p3 ls H locs G2 ar2 L o1 o2 o3
          case zero =>
            obtain ⟨hg3, hqL, hl, hP, hS, hM2, hQ2, hp2, hroot, he1, he2, he3, hed, hkp2⟩ := inv
            have hle := s_part_len hp2 hO
            refine lv_iload_n hx hb d_R_look_68 rfl (lv_at hl 0 rfl) ?_
            refine lv_aload_n hx hb d_R_look_69 rfl (lv_at hl 1 rfl) ?_
            refine va_get (D := D) (ci := 5) (C := "StackRoomModel") (T := T_R) (N := 25) (v := .int (nI L.length)) hx hb ht in_R hown hK.1 (hP.one hM2.1) 0 rfl rfl 21 (by decide) (ht _ fl_R_R_reached) (fun _ h9 => h9) rfl d_R_look_70 ?_
            refine lv_icmp_ge (tgt := 235) hx hb d_R_look_73 (by decide) (fun cp => ?_) (fun cp => ?_)
            · have hq2 : L.length ≤ p3 := (nI_leI (by omega) (by omega)).mp cp
              have henum : s_enum σ L := s_part_enum hp2 hroot (fun j hj k hk => by
                obtain ⟨a, ha⟩ := List.getElem?_of_mem hj
                exact hed a j (by have := (List.getElem?_eq_some_iff.mp ha).1; omega) ha k hk)
              rw [List.take_of_length_le hq2] at he1 he2 he3
              have e1 : s_sum (s_en σ) L = s_N σ := s_N_enum hO.1 henum
              have e2 : s_sum (s_wd σ) L = s_W σ := s_W_enum hO.1 henum
              have e3 : s_sum (s_cn σ) L = s_K σ := s_K_enum hO.1 henum
              rw [e1] at he1
              rw [e2] at he2
              rw [e3] at he3
              rw [he1, he2, he3] at hM2
              exact W.vret hx hb hr (fun t ht hW => ⟨⟨G2, rfl, ⟨ar2, _, hM2, fun i hi => hQ2.1 i ((henum.2 i).mpr hi), fun o ho hno => hQ2.2.1 o ho (fun i hi => hno i ((henum.2 i).mp hi)), hkp2⟩, g_fin ht hP⟩, hS.F ht⟩) hS.2.2 d_R_look_235
            · have hlt : p3 < L.length := Nat.not_le.mp (fun z => cp ((nI_leI (by omega) (by omega)).mpr z))
              omega
          case succ g3 ih3 =>
            obtain ⟨hg3, hqL, hl, hP, hS, hM2, hQ2, hp2, hroot, he1, he2, he3, hed, hkp2⟩ := inv
            have hle := s_part_len hp2 hO
            refine lv_iload_n hx hb d_R_look_68 rfl (lv_at hl 0 rfl) ?_
            refine lv_aload_n hx hb d_R_look_69 rfl (lv_at hl 1 rfl) ?_
            refine va_get (D := D) (ci := 5) (C := "StackRoomModel") (T := T_R) (N := 25) (v := .int (nI L.length)) hx hb ht in_R hown hK.1 (hP.one hM2.1) 0 rfl rfl 21 (by decide) (ht _ fl_R_R_reached) (fun _ h9 => h9) rfl d_R_look_70 ?_
            refine lv_icmp_ge (tgt := 235) hx hb d_R_look_73 (by decide) (fun cp => ?_) (fun cp => ?_)
            · have hq2 : L.length ≤ p3 := (nI_leI (by omega) (by omega)).mp cp
              have henum : s_enum σ L := s_part_enum hp2 hroot (fun j hj k hk => by
                obtain ⟨a, ha⟩ := List.getElem?_of_mem hj
                exact hed a j (by have := (List.getElem?_eq_some_iff.mp ha).1; omega) ha k hk)
              rw [List.take_of_length_le hq2] at he1 he2 he3
              have e1 : s_sum (s_en σ) L = s_N σ := s_N_enum hO.1 henum
              have e2 : s_sum (s_wd σ) L = s_W σ := s_W_enum hO.1 henum
              have e3 : s_sum (s_cn σ) L = s_K σ := s_K_enum hO.1 henum
              rw [e1] at he1
              rw [e2] at he2
              rw [e3] at he3
              rw [he1, he2, he3] at hM2
              exact W.vret hx hb hr (fun t ht hW => ⟨⟨G2, rfl, ⟨ar2, _, hM2, fun i hi => hQ2.1 i ((henum.2 i).mpr hi), fun o ho hno => hQ2.2.1 o ho (fun i hi => hno i ((henum.2 i).mp hi)), hkp2⟩, g_fin ht hP⟩, hS.F ht⟩) hS.2.2 d_R_look_235
            · have hlt : p3 < L.length := Nat.not_le.mp (fun z => cp ((nI_leI (by omega) (by omega)).mpr z))
              obtain ⟨i, hi⟩ : ∃ i, L[p3]? = some i := ⟨_, List.getElem?_eq_getElem hlt⟩
              have hri := hp2.2 i (List.mem_of_getElem? hi)
              have hi0 := s_rch_kd hO.1 hri
              have hs := hsl i hri
              have hki := (hE.2.1 i hri).2.1
              refine lv_aload_n hx hb d_R_look_76 rfl (lv_at hl 1 rfl) ?_
              refine va_get (D := D) (ci := 5) (C := "StackRoomModel") (T := T_R) (N := 25) (v := .ref (adr 20)) hx hb ht in_R hown hK.1 (hP.one hM2.1) 0 rfl rfl 20 (by decide) (ht _ fl_R_R_todo) (fun _ h9 => h9) rfl d_R_look_77 ?_
              refine lv_iload_n hx hb d_R_look_80 rfl (lv_at hl 0 rfl) ?_
              refine va_iald hx hb hK.1 (hP.one hM2.a20) 0 2 rfl ht2 (vp_in_nI (by omega) (by decide)) d_R_look_81 ?_
              rw [nI_clamp (by omega)]
              rw [hQ2.2.2 p3 i hi]
              refine lv_istore_n (lv' := [(2, .int (nI (sl i))), (1, .int (nI p3)), (0, .ref x)]) hx hb d_R_look_82 rfl hl (by decide) rfl (fun ls hl => ?_)
              refine lv_aload_n hx hb d_R_look_83 rfl (lv_at hl 2 rfl) ?_
              refine va_get (D := D) (ci := 5) (C := "StackRoomModel") (T := T_R) (N := 25) (v := .ref (adr 4)) hx hb ht in_R hown hK.1 (hP.one hM2.1) 0 rfl rfl 4 (by decide) (ht _ fl_R_R_kinds) (fun _ h9 => h9) rfl d_R_look_84 ?_
              refine lv_iload_n hx hb d_R_look_87 rfl (lv_at hl 0 rfl) ?_
              refine va_bald hx hb hK.1 (hP.one hM2.a4) 0 3 rfl ht3 (vp_in_nI hs (by decide)) d_R_look_88 ?_
              rw [nI_clamp (by omega)]
              rw [hkp2 4 (by decide) (by decide), hki]
              rcases (hO.1.2.1 i hi0).2.2 with hj | hj | hj
              · rw [hj]
                refine lv_iconst (v := 2) hx hb d_R_look_89 (by decide) ?_
                refine lv_icmp_ne (tgt := 117) hx hb d_R_look_90 (by decide) (fun z => absurd rfl z) (fun _ => ?_)
                refine lv_aload_n hx hb d_R_look_93 rfl (lv_at hl 2 rfl) ?_
                refine lv_dup hx hb d_R_look_94 rfl ?_
                refine va_get (D := D) (ci := 5) (C := "StackRoomModel") (T := T_R) (N := 25) (v := .int o1) hx hb ht in_R hown hK.1 (hP.one hM2.1) 0 rfl rfl 22 (by decide) (ht _ fl_R_R_reachedObjects) (fun _ h9 => h9) rfl d_R_look_95 ?_
                refine lv_iconst (v := 2) hx hb d_R_look_98 (by decide) ?_
                refine lv_iadd hx hb d_R_look_99 ?_
                refine gw_put (D := D) (cl := vwCl) (ci := 5) (C := "StackRoomModel") (T := T_R) (N := 25) (v := .int (o1 + 2)) (ty := .int) hx hb ht in_R ty_R tk_R nm_R hown hK.1 hP hS hM2.1 rfl 22 (by decide) (ht _ fl_R_R_reachedObjects) (fun _ h9 => h9) rfl (by decide +kernel) rfl rfl (Nat.le_of_ble_eq_true rfl) d_R_look_100 (fun H locs hP hS => ?_)
                obtain ⟨G15, eG15⟩ : ∃ z : gw_G, z = va_up G2 x (some (.inr (5, [.int (nI w), .int (nI n), .int (nI md), .ref (adr 3), .ref (adr 4), .ref (adr 5), .ref (adr 6), .ref (adr 7), .ref (adr 8), .ref (adr 9), .ref (adr 10), .ref (adr 11), .ref (adr 12), .ref (adr 13), .ref (adr 14), .ref (adr 15), .ref (adr 16), .ref (adr 17), .int us, .ref (adr 19), .ref (adr 20), .int (nI L.length), .int (o1 + 2), .int o2, .int o3]))) := ⟨_, rfl⟩
                replace hP : gw_P D vwCl (gw_A G s.heap.size) G15 H := by rw [eG15]; exact hP
                have hM15 : m_Arr cI cB cZ x w n md adr (us) (nI L.length) (o1 + 2) (o2) (o3) ar2 G15 := by rw [eG15]; exact hM2.own md (us) (nI L.length) (o1 + 2) (o2) (o3)
                refine lv_aload_n hx hb d_R_look_103 rfl (lv_at hl 2 rfl) ?_
                refine lv_dup hx hb d_R_look_104 rfl ?_
                refine va_get (D := D) (ci := 5) (C := "StackRoomModel") (T := T_R) (N := 25) (v := .int o2) hx hb ht in_R hown hK.1 (hP.one hM15.1) 0 rfl rfl 23 (by decide) (ht _ fl_R_R_reachedWords) (fun _ h9 => h9) rfl d_R_look_105 ?_
                refine lv_bipush (v := 10) hx hb d_R_look_108 (by decide) ?_
                refine lv_iadd hx hb d_R_look_110 ?_
                refine gw_put (D := D) (cl := vwCl) (ci := 5) (C := "StackRoomModel") (T := T_R) (N := 25) (v := .int (o2 + 10)) (ty := .int) hx hb ht in_R ty_R tk_R nm_R hown hK.1 hP hS hM15.1 rfl 23 (by decide) (ht _ fl_R_R_reachedWords) (fun _ h9 => h9) rfl (by decide +kernel) rfl rfl (Nat.le_of_ble_eq_true rfl) d_R_look_111 (fun H locs hP hS => ?_)
                obtain ⟨G16, eG16⟩ : ∃ z : gw_G, z = va_up G15 x (some (.inr (5, [.int (nI w), .int (nI n), .int (nI md), .ref (adr 3), .ref (adr 4), .ref (adr 5), .ref (adr 6), .ref (adr 7), .ref (adr 8), .ref (adr 9), .ref (adr 10), .ref (adr 11), .ref (adr 12), .ref (adr 13), .ref (adr 14), .ref (adr 15), .ref (adr 16), .ref (adr 17), .int us, .ref (adr 19), .ref (adr 20), .int (nI L.length), .int (o1 + 2), .int (o2 + 10), .int o3]))) := ⟨_, rfl⟩
                replace hP : gw_P D vwCl (gw_A G s.heap.size) G16 H := by rw [eG16]; exact hP
                have hM16 : m_Arr cI cB cZ x w n md adr (us) (nI L.length) (o1 + 2) (o2 + 10) (o3) ar2 G16 := by rw [eG16]; exact hM15.own md (us) (nI L.length) (o1 + 2) (o2 + 10) (o3)
                refine lv_goto (tgt := 229) hx hb d_R_look_114 (by decide) ?_
                refine lv_iinc (v := nI (p3 + 1)) (lv' := [(1, .int (nI (p3 + 1))), (2, .int (nI (sl i))), (0, .ref x)]) hx hb d_R_look_229 hl (k := 1) rfl (by rw [← nI_1]; rfl) (by decide) rfl (fun ls hl => ?_)
                refine lv_goto (tgt := 68) hx hb d_R_look_232 (by decide) ?_
                have e7 : ∀ f : Nat → Nat, s_sum f (L.take (p3 + 1)) = s_sum f (L.take p3) + f i := fun f => by
                  have := s_sum_take (f := f) (M := []) hi
                  rwa [List.append_nil] at this
                refine ih3 _ _ _ _ _ _ _ _ _ _ ⟨by omega, by omega, lv_sub hl [0, 2] rfl, hP, hS, hM16, hQ2, hp2, hroot, ?_, ?_, ?_, fun k b hk hb a ha => ?_, hkp2⟩
                · rw [e7, he1, show s_en σ i = 2 from s_en2 hj, ← nI_add]; rfl
                · rw [e7, he2, show s_wd σ i = 10 from s_wd2 hj, ← nI_add]; rfl
                · rw [e7, he3, show s_cn σ i = 0 from if_pos hj, Nat.add_zero]
                · by_cases e : k = p3
                  · subst e
                    rw [hi] at hb
                    cases hb
                    exact absurd ha.1 (fun z => by rcases z with z | z <;> omega)
                  · exact hed k b (by omega) hb a ha
              · have hc : s_isC σ i := Or.inl hj
                have hfx := hE.2.2.2.1 i hri hc
                have hb94 := (hO.1.2.2.2.2.2.2 i hc).2.2.1
                have hU := hE.2.2.2.2.2.2.2.2
                rw [hj]
                refine lv_iconst (v := 2) hx hb d_R_look_89 (by decide) ?_
                refine lv_icmp_ne (tgt := 117) hx hb d_R_look_90 (by decide) (fun _ => ?_) (fun z => absurd z (by decide))
                refine lv_aload_n hx hb d_R_look_117 rfl (lv_at hl 2 rfl) ?_
                refine lv_dup hx hb d_R_look_118 rfl ?_
                refine va_get (D := D) (ci := 5) (C := "StackRoomModel") (T := T_R) (N := 25) (v := .int o1) hx hb ht in_R hown hK.1 (hP.one hM2.1) 0 rfl rfl 22 (by decide) (ht _ fl_R_R_reachedObjects) (fun _ h9 => h9) rfl d_R_look_119 ?_
                refine lv_iconst (v := 1) hx hb d_R_look_122 (by decide) ?_
                refine lv_iadd hx hb d_R_look_123 ?_
                refine gw_put (D := D) (cl := vwCl) (ci := 5) (C := "StackRoomModel") (T := T_R) (N := 25) (v := .int (o1 + 1)) (ty := .int) hx hb ht in_R ty_R tk_R nm_R hown hK.1 hP hS hM2.1 rfl 22 (by decide) (ht _ fl_R_R_reachedObjects) (fun _ h9 => h9) rfl (by decide +kernel) rfl rfl (Nat.le_of_ble_eq_true rfl) d_R_look_124 (fun H locs hP hS => ?_)
                obtain ⟨G17, eG17⟩ : ∃ z : gw_G, z = va_up G2 x (some (.inr (5, [.int (nI w), .int (nI n), .int (nI md), .ref (adr 3), .ref (adr 4), .ref (adr 5), .ref (adr 6), .ref (adr 7), .ref (adr 8), .ref (adr 9), .ref (adr 10), .ref (adr 11), .ref (adr 12), .ref (adr 13), .ref (adr 14), .ref (adr 15), .ref (adr 16), .ref (adr 17), .int us, .ref (adr 19), .ref (adr 20), .int (nI L.length), .int (o1 + 1), .int o2, .int o3]))) := ⟨_, rfl⟩
                replace hP : gw_P D vwCl (gw_A G s.heap.size) G17 H := by rw [eG17]; exact hP
                have hM17 : m_Arr cI cB cZ x w n md adr (us) (nI L.length) (o1 + 1) (o2) (o3) ar2 G17 := by rw [eG17]; exact hM2.own md (us) (nI L.length) (o1 + 1) (o2) (o3)
                refine lv_aload_n hx hb d_R_look_127 rfl (lv_at hl 2 rfl) ?_
                refine lv_dup hx hb d_R_look_128 rfl ?_
                refine va_get (D := D) (ci := 5) (C := "StackRoomModel") (T := T_R) (N := 25) (v := .int o3) hx hb ht in_R hown hK.1 (hP.one hM17.1) 0 rfl rfl 24 (by decide) (ht _ fl_R_R_reachedContexts) (fun _ h9 => h9) rfl d_R_look_129 ?_
                refine lv_iconst (v := 1) hx hb d_R_look_132 (by decide) ?_
                refine lv_iadd hx hb d_R_look_133 ?_
                refine gw_put (D := D) (cl := vwCl) (ci := 5) (C := "StackRoomModel") (T := T_R) (N := 25) (v := .int (o3 + 1)) (ty := .int) hx hb ht in_R ty_R tk_R nm_R hown hK.1 hP hS hM17.1 rfl 24 (by decide) (ht _ fl_R_R_reachedContexts) (fun _ h9 => h9) rfl (by decide +kernel) rfl rfl (Nat.le_of_ble_eq_true rfl) d_R_look_134 (fun H locs hP hS => ?_)
                obtain ⟨G18, eG18⟩ : ∃ z : gw_G, z = va_up G17 x (some (.inr (5, [.int (nI w), .int (nI n), .int (nI md), .ref (adr 3), .ref (adr 4), .ref (adr 5), .ref (adr 6), .ref (adr 7), .ref (adr 8), .ref (adr 9), .ref (adr 10), .ref (adr 11), .ref (adr 12), .ref (adr 13), .ref (adr 14), .ref (adr 15), .ref (adr 16), .ref (adr 17), .int us, .ref (adr 19), .ref (adr 20), .int (nI L.length), .int (o1 + 1), .int o2, .int (o3 + 1)]))) := ⟨_, rfl⟩
                replace hP : gw_P D vwCl (gw_A G s.heap.size) G18 H := by rw [eG18]; exact hP
                have hM18 : m_Arr cI cB cZ x w n md adr (us) (nI L.length) (o1 + 1) (o2) (o3 + 1) ar2 G18 := by rw [eG18]; exact hM17.own md (us) (nI L.length) (o1 + 1) (o2) (o3 + 1)
                refine lv_aload_n hx hb d_R_look_137 rfl (lv_at hl 2 rfl) ?_
                refine lv_dup hx hb d_R_look_138 rfl ?_
                refine va_get (D := D) (ci := 5) (C := "StackRoomModel") (T := T_R) (N := 25) (v := .int o2) hx hb ht in_R hown hK.1 (hP.one hM18.1) 0 rfl rfl 23 (by decide) (ht _ fl_R_R_reachedWords) (fun _ h9 => h9) rfl d_R_look_139 ?_
                refine lv_aload_n hx hb d_R_look_142 rfl (lv_at hl 2 rfl) ?_
                refine va_get (D := D) (ci := 5) (C := "StackRoomModel") (T := T_R) (N := 25) (v := .ref (adr 4)) hx hb ht in_R hown hK.1 (hP.one hM18.1) 0 rfl rfl 4 (by decide) (ht _ fl_R_R_kinds) (fun _ h9 => h9) rfl d_R_look_143 ?_
                refine lv_iload_n hx hb d_R_look_146 rfl (lv_at hl 0 rfl) ?_
                refine va_bald hx hb hK.1 (hP.one hM18.a4) 0 3 rfl ht3 (vp_in_nI hs (by decide)) d_R_look_147 ?_
                rw [nI_clamp (by omega)]
                rw [hkp2 4 (by decide) (by decide), hki, hj]
                refine lv_iconst (v := 3) hx hb d_R_look_148 (by decide) ?_
                refine lv_icmp_ne (tgt := 157) hx hb d_R_look_149 (by decide) (fun z => absurd rfl z) (fun _ => ?_)
                refine lv_bipush (v := 9) hx hb d_R_look_152 (by decide) ?_
                refine lv_goto (tgt := 159) hx hb d_R_look_154 (by decide) ?_
                refine lv_aload_n hx hb d_R_look_159 rfl (lv_at hl 2 rfl) ?_
                refine va_get (D := D) (ci := 5) (C := "StackRoomModel") (T := T_R) (N := 25) (v := .ref (adr 15)) hx hb ht in_R hown hK.1 (hP.one hM18.1) 0 rfl rfl 15 (by decide) (ht _ fl_R_R_rooms) (fun _ h9 => h9) rfl d_R_look_160 ?_
                refine lv_iload_n hx hb d_R_look_163 rfl (lv_at hl 0 rfl) ?_
                refine va_iald hx hb hK.1 (hP.one hM18.a15) 0 2 rfl ht2 (vp_in_nI hs (by decide)) d_R_look_164 ?_
                rw [nI_clamp (by omega)]
                rw [hkp2 15 (by decide) (by decide), hfx.2.2.2.2.2.1]
                refine lv_iadd hx hb d_R_look_165 ?_
                refine lv_iadd hx hb d_R_look_166 ?_
                refine gw_put (D := D) (cl := vwCl) (ci := 5) (C := "StackRoomModel") (T := T_R) (N := 25) (v := .int (o2 + (9 + (nI (s_rm σ i))))) (ty := .int) hx hb ht in_R ty_R tk_R nm_R hown hK.1 hP hS hM18.1 rfl 23 (by decide) (ht _ fl_R_R_reachedWords) (fun _ h9 => h9) rfl (by decide +kernel) rfl rfl (Nat.le_of_ble_eq_true rfl) d_R_look_167 (fun H locs hP hS => ?_)
                obtain ⟨G19, eG19⟩ : ∃ z : gw_G, z = va_up G18 x (some (.inr (5, [.int (nI w), .int (nI n), .int (nI md), .ref (adr 3), .ref (adr 4), .ref (adr 5), .ref (adr 6), .ref (adr 7), .ref (adr 8), .ref (adr 9), .ref (adr 10), .ref (adr 11), .ref (adr 12), .ref (adr 13), .ref (adr 14), .ref (adr 15), .ref (adr 16), .ref (adr 17), .int us, .ref (adr 19), .ref (adr 20), .int (nI L.length), .int (o1 + 1), .int (o2 + (9 + nI (s_rm σ i))), .int (o3 + 1)]))) := ⟨_, rfl⟩
                replace hP : gw_P D vwCl (gw_A G s.heap.size) G19 H := by rw [eG19]; exact hP
                have hM19 : m_Arr cI cB cZ x w n md adr (us) (nI L.length) (o1 + 1) (o2 + (9 + nI (s_rm σ i))) (o3 + 1) ar2 G19 := by rw [eG19]; exact hM18.own md (us) (nI L.length) (o1 + 1) (o2 + (9 + nI (s_rm σ i))) (o3 + 1)
                refine lv_aload_n hx hb d_R_look_170 rfl (lv_at hl 2 rfl) ?_
                refine lv_aload_n hx hb d_R_look_171 rfl (lv_at hl 2 rfl) ?_
                refine va_get (D := D) (ci := 5) (C := "StackRoomModel") (T := T_R) (N := 25) (v := .ref (adr 9)) hx hb ht in_R hown hK.1 (hP.one hM19.1) 0 rfl rfl 9 (by decide) (ht _ fl_R_R_senders) (fun _ h9 => h9) rfl d_R_look_172 ?_
                refine lv_iload_n hx hb d_R_look_175 rfl (lv_at hl 0 rfl) ?_
                refine va_iald hx hb hK.1 (hP.one hM19.a9) 0 2 rfl ht2 (vp_in_nI hs (by decide)) d_R_look_176 ?_
                rw [nI_clamp (by omega)]
                refine W.eq (g2 := F0 m 177 ls [.int (m_val sl ((s_sn σ i).map .inr)), .ref x]) (by rw [hkp2 9 (by decide) (by decide), hfx.1]) ?_
                have hv1 : ∀ j, ((s_sn σ i).map .inr : sV) = some (.inr j) → s_rch σ j := fun j e => s_rch_edge hri ⟨hc, Or.inl (sn_inr e)⟩
                refine g_callv hP hS hA (r_V (rest := []) C0 [.int (m_val sl ((s_sn σ i).map .inr))] (k_R_see l hM19 hQ2 hp2 hO hn4 hsl hinj ht2 ht3 ht4 (u := (s_sn σ i).map .inr) hv1 (fun a e => (sn_no e).elim)) ml_R_R_see im_R_see se_R_R_see_R ini_R co_R_see ⟨rfl, hd_R_see⟩ (g_preV (ci := 5) hK hP rfl hM19.1) hl.1 d_R_look_177 rfl rfl (Nat.le_of_ble_eq_true rfl) ⟨rfl, rfl⟩ ⟨Nat.le_of_ble_eq_true rfl, Nat.le_of_ble_eq_true rfl⟩ ⟨Nat.le_of_ble_eq_true rfl, Nat.le_of_ble_eq_true rfl⟩) (fun G201 H locs hq201 hP hS hz9 hk9 => ?_)
                clear hz9 hk9
                obtain ⟨ar201, hM201, hQ201, hkp201⟩ := hq201
                have hp3 := s_part_add hp2 hv1
                refine lv_aload_n hx hb d_R_look_180 rfl (lv_at hl 2 rfl) ?_
                refine lv_iconst (v := 2) hx hb d_R_look_181 (by decide) ?_
                refine lv_aload_n hx hb d_R_look_182 rfl (lv_at hl 2 rfl) ?_
                refine va_get (D := D) (ci := 5) (C := "StackRoomModel") (T := T_R) (N := 25) (v := .ref (adr 12)) hx hb ht in_R hown hK.1 (hP.one hM201.1) 0 rfl rfl 12 (by decide) (ht _ fl_R_R_links) (fun _ h9 => h9) rfl d_R_look_183 ?_
                refine lv_iload_n hx hb d_R_look_186 rfl (lv_at hl 0 rfl) ?_
                refine va_iald hx hb hK.1 (hP.one hM201.a12) 0 2 rfl ht2 (vp_in_nI hs (by decide)) d_R_look_187 ?_
                rw [nI_clamp (by omega)]
                rw [hkp201 12 (by decide) (by decide), hkp2 12 (by decide) (by decide), hfx.2.2.2.1]
                refine lv_imul hx hb d_R_look_188 ?_
                refine lv_iconst (v := 2) hx hb d_R_look_189 (by decide) ?_
                refine lv_iadd hx hb d_R_look_190 ?_
                refine W.eq (g2 := F0 m 191 ls [.int (m_val sl (some (.inr (s_og σ i)))), .ref x]) (by rw [m_lnk]; rfl) ?_
                have hv2 : ∀ j, (some (.inr (s_og σ i)) : sV) = some (.inr j) → s_rch σ j := fun j e => by cases e; exact s_rch_edge hri ⟨hc, Or.inr (Or.inl rfl)⟩
                refine g_callv hP hS hA (r_V (rest := []) C0 [.int (m_val sl (some (.inr (s_og σ i))))] (k_R_see l hM201 hQ201 hp3 hO hn4 hsl hinj ht2 ht3 ht4 (u := some (.inr (s_og σ i))) hv2 (fun a e => by cases e)) ml_R_R_see im_R_see se_R_R_see_R ini_R co_R_see ⟨rfl, hd_R_see⟩ (g_preV (ci := 5) hK hP rfl hM201.1) hl.1 d_R_look_191 rfl rfl (Nat.le_of_ble_eq_true rfl) ⟨rfl, rfl⟩ ⟨Nat.le_of_ble_eq_true rfl, Nat.le_of_ble_eq_true rfl⟩ ⟨Nat.le_of_ble_eq_true rfl, Nat.le_of_ble_eq_true rfl⟩) (fun G202 H locs hq202 hP hS hz9 hk9 => ?_)
                clear hz9 hk9
                obtain ⟨ar202, hM202, hQ202, hkp202⟩ := hq202
                refine lv_iconst (v := 0) hx hb d_R_look_194 (by decide) ?_
                refine lv_istore_n (lv' := [(3, .int 0), (2, .int (nI (sl i))), (1, .int (nI p3)), (0, .ref x)]) hx hb d_R_look_195 rfl hl (by decide) rfl (fun ls hl => ?_)
                obtain ⟨L2, eL2⟩ : ∃ z, z = s_add (s_add L ((s_sn σ i).map .inr)) (some (.inr (s_og σ i))) := ⟨_, rfl⟩
                obtain ⟨G4, eG4⟩ : ∃ z : gw_G, z = G202 := ⟨_, rfl⟩
                obtain ⟨ar4, ear4⟩ : ∃ z : Nat → Nat → Int32, z = ar202 := ⟨_, rfl⟩
                obtain ⟨b, eb⟩ : ∃ z : Nat, z = 0 := ⟨_, rfl⟩
                obtain ⟨f4, ef4⟩ : ∃ z : Nat, z = s_rm σ i := ⟨_, rfl⟩
                have inv4 : s_rm σ i ≤ b + f4 ∧ b ≤ s_rm σ i ∧ lv_has ls 4 [(3, .int (nI b)), (2, .int (nI (sl i))), (1, .int (nI p3)), (0, .ref x)] ∧ gw_P D vwCl (gw_A G s.heap.size) G4 H ∧ va_S (gw_A G s.heap.size) s.heap H locs ∧ m_Arr cI cB cZ x w n md adr us (nI L2.length) (o1 + 1) (o2 + (9 + nI (s_rm σ i))) (o3 + 1) ar4 G4 ∧ m_Q sl L2 ar4 ∧ s_part σ L2 ∧ (∃ M, L2 = L ++ M) ∧ (∀ k, s_sn σ i = some k → k ∈ L2) ∧ s_og σ i ∈ L2 ∧ (∀ k, k < b → ∀ a, s_fl σ i k = some (.inr a) → a ∈ L2) ∧ (∀ k, k ≠ 19 → k ≠ 20 → ar4 k = ar k) := by
                  refine ⟨by omega, by omega, by rw [eb]; exact lv_sub hl [0, 1, 2, 3] rfl, by rw [eG4]; exact hP, hS, by rw [eG4, ear4, eL2]; exact hM202, by rw [ear4, eL2]; exact hQ202, by rw [eL2]; exact s_part_add hp3 hv2, ?_, fun k hk => ?_, by rw [eL2]; exact s_add_in, fun k hk => absurd hk (by omega), fun k h1 h2 => by rw [ear4, hkp202 k h1 h2, hkp201 k h1 h2]; exact hkp2 k h1 h2⟩
                  · obtain ⟨M1, e1⟩ := s_add_pre L ((s_sn σ i).map .inr)
                    obtain ⟨M2, e2⟩ := s_add_pre (s_add L ((s_sn σ i).map .inr)) (some (.inr (s_og σ i)))
                    exact ⟨M1 ++ M2, by rw [eL2, e2, e1, List.append_assoc]⟩
                  · rw [eL2]
                    refine s_add_sub ?_
                    rw [hk]
                    exact s_add_in
                clear hl hP hS eL2 eG4 ear4 eb ef4
                induction f4 generalizing b ls H locs G4 ar4 L2
                case zero =>
                  obtain ⟨hf4, hbm, hl, hP, hS, hM4, hQ4, hp4, hpre, hsn4, hog4, hfl4, hkp4⟩ := inv4
                  refine lv_iload_n hx hb d_R_look_196 rfl (lv_at hl 0 rfl) ?_
                  refine lv_aload_n hx hb d_R_look_197 rfl (lv_at hl 3 rfl) ?_
                  refine va_get (D := D) (ci := 5) (C := "StackRoomModel") (T := T_R) (N := 25) (v := .ref (adr 15)) hx hb ht in_R hown hK.1 (hP.one hM4.1) 0 rfl rfl 15 (by decide) (ht _ fl_R_R_rooms) (fun _ h9 => h9) rfl d_R_look_198 ?_
                  refine lv_iload_n hx hb d_R_look_201 rfl (lv_at hl 1 rfl) ?_
                  refine va_iald hx hb hK.1 (hP.one hM4.a15) 0 2 rfl ht2 (vp_in_nI hs (by decide)) d_R_look_202 ?_
                  rw [nI_clamp (by omega)]
                  rw [hkp4 15 (by decide) (by decide), hfx.2.2.2.2.2.1]
                  refine lv_icmp_ge (tgt := 229) hx hb d_R_look_203 (by decide) (fun cb => ?_) (fun cb => ?_)
                  · have hgeb := (nI_leI (by omega) (by omega)).mp cb
                    refine lv_iinc (v := nI (p3 + 1)) (lv' := [(1, .int (nI (p3 + 1))), (3, .int (nI b)), (2, .int (nI (sl i))), (0, .ref x)]) hx hb d_R_look_229 hl (k := 2) rfl (by rw [← nI_1]; rfl) (by decide) rfl (fun ls hl => ?_)
                    refine lv_goto (tgt := 68) hx hb d_R_look_232 (by decide) ?_
                    obtain ⟨M, eM⟩ := hpre
                    have sub : ∀ a, a ∈ L → a ∈ L2 := fun a ha => by rw [eM]; exact List.mem_append_left _ ha
                    refine ih3 _ _ _ _ _ _ _ _ _ _ ⟨by omega, by rw [eM, List.length_append]; omega, lv_sub hl [0, 3] rfl, hP, hS, hM4, hQ4, hp4, fun k hk a ha => sub a (hroot k hk a ha), ?_, ?_, ?_, fun k c hk hc2 a ha => ?_, hkp4⟩
                    · rw [eM, s_sum_take hi, he1, show s_en σ i = 1 from s_enC hc, ← nI_add]; rfl
                    · rw [eM, s_sum_take hi, he2, s_wd3 hj, ← nI_add, ← nI_add]; rfl
                    · rw [eM, s_sum_take hi, he3, show s_cn σ i = 1 from if_neg (by omega), ← nI_add]; rfl
                    · have hk2 : k < L.length := by omega
                      rw [eM, List.getElem?_append_left hk2] at hc2
                      by_cases e : k = p3
                      · subst e
                        rw [hi] at hc2
                        cases hc2
                        rcases ha.2 with e | e | ⟨b9, hb1, e⟩
                        · exact hsn4 a e
                        · exact e ▸ hog4
                        · exact hfl4 b9 (by omega) a e
                      · exact sub a (hed k c (by omega) hc2 a ha)
                  · have hltb : b < s_rm σ i := Nat.not_le.mp (fun t => cb ((nI_leI (by omega) (by omega)).mpr t))
                    omega
                case succ f4 ih =>
                  obtain ⟨hf4, hbm, hl, hP, hS, hM4, hQ4, hp4, hpre, hsn4, hog4, hfl4, hkp4⟩ := inv4
                  refine lv_iload_n hx hb d_R_look_196 rfl (lv_at hl 0 rfl) ?_
                  refine lv_aload_n hx hb d_R_look_197 rfl (lv_at hl 3 rfl) ?_
                  refine va_get (D := D) (ci := 5) (C := "StackRoomModel") (T := T_R) (N := 25) (v := .ref (adr 15)) hx hb ht in_R hown hK.1 (hP.one hM4.1) 0 rfl rfl 15 (by decide) (ht _ fl_R_R_rooms) (fun _ h9 => h9) rfl d_R_look_198 ?_
                  refine lv_iload_n hx hb d_R_look_201 rfl (lv_at hl 1 rfl) ?_
                  refine va_iald hx hb hK.1 (hP.one hM4.a15) 0 2 rfl ht2 (vp_in_nI hs (by decide)) d_R_look_202 ?_
                  rw [nI_clamp (by omega)]
                  rw [hkp4 15 (by decide) (by decide), hfx.2.2.2.2.2.1]
                  refine lv_icmp_ge (tgt := 229) hx hb d_R_look_203 (by decide) (fun cb => ?_) (fun cb => ?_)
                  · have hgeb := (nI_leI (by omega) (by omega)).mp cb
                    refine lv_iinc (v := nI (p3 + 1)) (lv' := [(1, .int (nI (p3 + 1))), (3, .int (nI b)), (2, .int (nI (sl i))), (0, .ref x)]) hx hb d_R_look_229 hl (k := 2) rfl (by rw [← nI_1]; rfl) (by decide) rfl (fun ls hl => ?_)
                    refine lv_goto (tgt := 68) hx hb d_R_look_232 (by decide) ?_
                    obtain ⟨M, eM⟩ := hpre
                    have sub : ∀ a, a ∈ L → a ∈ L2 := fun a ha => by rw [eM]; exact List.mem_append_left _ ha
                    refine ih3 _ _ _ _ _ _ _ _ _ _ ⟨by omega, by rw [eM, List.length_append]; omega, lv_sub hl [0, 3] rfl, hP, hS, hM4, hQ4, hp4, fun k hk a ha => sub a (hroot k hk a ha), ?_, ?_, ?_, fun k c hk hc2 a ha => ?_, hkp4⟩
                    · rw [eM, s_sum_take hi, he1, show s_en σ i = 1 from s_enC hc, ← nI_add]; rfl
                    · rw [eM, s_sum_take hi, he2, s_wd3 hj, ← nI_add, ← nI_add]; rfl
                    · rw [eM, s_sum_take hi, he3, show s_cn σ i = 1 from if_neg (by omega), ← nI_add]; rfl
                    · have hk2 : k < L.length := by omega
                      rw [eM, List.getElem?_append_left hk2] at hc2
                      by_cases e : k = p3
                      · subst e
                        rw [hi] at hc2
                        cases hc2
                        rcases ha.2 with e | e | ⟨b9, hb1, e⟩
                        · exact hsn4 a e
                        · exact e ▸ hog4
                        · exact hfl4 b9 (by omega) a e
                      · exact sub a (hed k c (by omega) hc2 a ha)
                  · have hltb : b < s_rm σ i := Nat.not_le.mp (fun t => cb ((nI_leI (by omega) (by omega)).mpr t))
                    refine lv_aload_n hx hb d_R_look_206 rfl (lv_at hl 3 rfl) ?_
                    refine lv_aload_n hx hb d_R_look_207 rfl (lv_at hl 3 rfl) ?_
                    refine va_get (D := D) (ci := 5) (C := "StackRoomModel") (T := T_R) (N := 25) (v := .ref (adr 16)) hx hb ht in_R hown hK.1 (hP.one hM4.1) 0 rfl rfl 16 (by decide) (ht _ fl_R_R_fields) (fun _ h9 => h9) rfl d_R_look_208 ?_
                    refine lv_aload_n hx hb d_R_look_211 rfl (lv_at hl 3 rfl) ?_
                    refine va_get (D := D) (ci := 5) (C := "StackRoomModel") (T := T_R) (N := 25) (v := .ref (adr 14)) hx hb ht in_R hown hK.1 (hP.one hM4.1) 0 rfl rfl 14 (by decide) (ht _ fl_R_R_begins) (fun _ h9 => h9) rfl d_R_look_212 ?_
                    refine lv_iload_n hx hb d_R_look_215 rfl (lv_at hl 1 rfl) ?_
                    refine va_iald hx hb hK.1 (hP.one hM4.a14) 0 2 rfl ht2 (vp_in_nI hs (by decide)) d_R_look_216 ?_
                    rw [nI_clamp (by omega), hkp4 14 (by decide) (by decide), hfx.2.2.2.2.1]
                    refine lv_iload_n hx hb d_R_look_217 rfl (lv_at hl 0 rfl) ?_
                    refine lv_iadd hx hb d_R_look_218 ?_
                    refine W.eq (g2 := F0 m 219 ls [.int (nI (bg i + b)), .ref (adr 16), .ref x]) (by rw [← nI_add]) ?_
                    refine va_iald hx hb hK.1 (hP.one hM4.a16) 0 2 rfl ht2 (vp_in_nI (by omega) (by decide)) d_R_look_219 ?_
                    rw [nI_clamp (by omega), hkp4 16 (by decide) (by decide), hE.2.2.2.2.2.1 i hri hc b hltb]
                    have hv3 : ∀ a, s_fl σ i b = some (.inr a) → s_rch σ a := fun a e => s_rch_edge hri ⟨hc, Or.inr (Or.inr ⟨b, hltb, e⟩)⟩
                    refine g_callv hP hS hA (r_V (rest := []) C0 [.int (m_val sl (s_fl σ i b))] (k_R_see l hM4 hQ4 hp4 hO hn4 hsl hinj ht2 ht3 ht4 (u := s_fl σ i b) hv3 (fun a e => hV.2 i hc b hltb a e)) ml_R_R_see im_R_see se_R_R_see_R ini_R co_R_see ⟨rfl, hd_R_see⟩ (g_preV (ci := 5) hK hP rfl hM4.1) hl.1 d_R_look_220 rfl rfl (Nat.le_of_ble_eq_true rfl) ⟨rfl, rfl⟩ ⟨Nat.le_of_ble_eq_true rfl, Nat.le_of_ble_eq_true rfl⟩ ⟨Nat.le_of_ble_eq_true rfl, Nat.le_of_ble_eq_true rfl⟩) (fun G203 H locs hq203 hP hS hz9 hk9 => ?_)
                    clear hz9 hk9
                    obtain ⟨ar203, hM203, hQ203, hkp203⟩ := hq203
                    refine lv_iinc (v := nI (b + 1)) (lv' := [(3, .int (nI (b + 1))), (2, .int (nI (sl i))), (1, .int (nI p3)), (0, .ref x)]) hx hb d_R_look_223 hl (k := 0) rfl (by rw [← nI_1]; rfl) (by decide) rfl (fun ls hl => ?_)
                    refine lv_goto (tgt := 196) hx hb d_R_look_226 (by decide) ?_
                    refine ih _ _ _ _ _ _ _ ⟨by omega, by omega, lv_sub hl [0, 1, 2, 3] rfl, hP, hS, hM203, hQ203, s_part_add hp4 hv3, ?_, fun k hk => s_add_sub (hsn4 k hk), s_add_sub hog4, fun k hk a ha => ?_, fun k h1 h2 => by rw [hkp203 k h1 h2]; exact hkp4 k h1 h2⟩
                    · obtain ⟨M1, e1⟩ := hpre
                      obtain ⟨M2, e2⟩ := s_add_pre L2 (s_fl σ i b)
                      exact ⟨M1 ++ M2, by rw [e2, e1, List.append_assoc]⟩
                    · by_cases e : k = b
                      · subst e
                        rw [ha]
                        exact s_add_in
                      · exact s_add_sub (hfl4 k (by omega) a ha)
              · have hc : s_isC σ i := Or.inr hj
                have hfx := hE.2.2.2.1 i hri hc
                have hb94 := (hO.1.2.2.2.2.2.2 i hc).2.2.1
                have hU := hE.2.2.2.2.2.2.2.2
                rw [hj]
                refine lv_iconst (v := 2) hx hb d_R_look_89 (by decide) ?_
                refine lv_icmp_ne (tgt := 117) hx hb d_R_look_90 (by decide) (fun _ => ?_) (fun z => absurd z (by decide))
                refine lv_aload_n hx hb d_R_look_117 rfl (lv_at hl 2 rfl) ?_
                refine lv_dup hx hb d_R_look_118 rfl ?_
                refine va_get (D := D) (ci := 5) (C := "StackRoomModel") (T := T_R) (N := 25) (v := .int o1) hx hb ht in_R hown hK.1 (hP.one hM2.1) 0 rfl rfl 22 (by decide) (ht _ fl_R_R_reachedObjects) (fun _ h9 => h9) rfl d_R_look_119 ?_
                refine lv_iconst (v := 1) hx hb d_R_look_122 (by decide) ?_
                refine lv_iadd hx hb d_R_look_123 ?_
                refine gw_put (D := D) (cl := vwCl) (ci := 5) (C := "StackRoomModel") (T := T_R) (N := 25) (v := .int (o1 + 1)) (ty := .int) hx hb ht in_R ty_R tk_R nm_R hown hK.1 hP hS hM2.1 rfl 22 (by decide) (ht _ fl_R_R_reachedObjects) (fun _ h9 => h9) rfl (by decide +kernel) rfl rfl (Nat.le_of_ble_eq_true rfl) d_R_look_124 (fun H locs hP hS => ?_)
                obtain ⟨G20, eG20⟩ : ∃ z : gw_G, z = va_up G2 x (some (.inr (5, [.int (nI w), .int (nI n), .int (nI md), .ref (adr 3), .ref (adr 4), .ref (adr 5), .ref (adr 6), .ref (adr 7), .ref (adr 8), .ref (adr 9), .ref (adr 10), .ref (adr 11), .ref (adr 12), .ref (adr 13), .ref (adr 14), .ref (adr 15), .ref (adr 16), .ref (adr 17), .int us, .ref (adr 19), .ref (adr 20), .int (nI L.length), .int (o1 + 1), .int o2, .int o3]))) := ⟨_, rfl⟩
                replace hP : gw_P D vwCl (gw_A G s.heap.size) G20 H := by rw [eG20]; exact hP
                have hM20 : m_Arr cI cB cZ x w n md adr (us) (nI L.length) (o1 + 1) (o2) (o3) ar2 G20 := by rw [eG20]; exact hM2.own md (us) (nI L.length) (o1 + 1) (o2) (o3)
                refine lv_aload_n hx hb d_R_look_127 rfl (lv_at hl 2 rfl) ?_
                refine lv_dup hx hb d_R_look_128 rfl ?_
                refine va_get (D := D) (ci := 5) (C := "StackRoomModel") (T := T_R) (N := 25) (v := .int o3) hx hb ht in_R hown hK.1 (hP.one hM20.1) 0 rfl rfl 24 (by decide) (ht _ fl_R_R_reachedContexts) (fun _ h9 => h9) rfl d_R_look_129 ?_
                refine lv_iconst (v := 1) hx hb d_R_look_132 (by decide) ?_
                refine lv_iadd hx hb d_R_look_133 ?_
                refine gw_put (D := D) (cl := vwCl) (ci := 5) (C := "StackRoomModel") (T := T_R) (N := 25) (v := .int (o3 + 1)) (ty := .int) hx hb ht in_R ty_R tk_R nm_R hown hK.1 hP hS hM20.1 rfl 24 (by decide) (ht _ fl_R_R_reachedContexts) (fun _ h9 => h9) rfl (by decide +kernel) rfl rfl (Nat.le_of_ble_eq_true rfl) d_R_look_134 (fun H locs hP hS => ?_)
                obtain ⟨G21, eG21⟩ : ∃ z : gw_G, z = va_up G20 x (some (.inr (5, [.int (nI w), .int (nI n), .int (nI md), .ref (adr 3), .ref (adr 4), .ref (adr 5), .ref (adr 6), .ref (adr 7), .ref (adr 8), .ref (adr 9), .ref (adr 10), .ref (adr 11), .ref (adr 12), .ref (adr 13), .ref (adr 14), .ref (adr 15), .ref (adr 16), .ref (adr 17), .int us, .ref (adr 19), .ref (adr 20), .int (nI L.length), .int (o1 + 1), .int o2, .int (o3 + 1)]))) := ⟨_, rfl⟩
                replace hP : gw_P D vwCl (gw_A G s.heap.size) G21 H := by rw [eG21]; exact hP
                have hM21 : m_Arr cI cB cZ x w n md adr (us) (nI L.length) (o1 + 1) (o2) (o3 + 1) ar2 G21 := by rw [eG21]; exact hM20.own md (us) (nI L.length) (o1 + 1) (o2) (o3 + 1)
                refine lv_aload_n hx hb d_R_look_137 rfl (lv_at hl 2 rfl) ?_
                refine lv_dup hx hb d_R_look_138 rfl ?_
                refine va_get (D := D) (ci := 5) (C := "StackRoomModel") (T := T_R) (N := 25) (v := .int o2) hx hb ht in_R hown hK.1 (hP.one hM21.1) 0 rfl rfl 23 (by decide) (ht _ fl_R_R_reachedWords) (fun _ h9 => h9) rfl d_R_look_139 ?_
                refine lv_aload_n hx hb d_R_look_142 rfl (lv_at hl 2 rfl) ?_
                refine va_get (D := D) (ci := 5) (C := "StackRoomModel") (T := T_R) (N := 25) (v := .ref (adr 4)) hx hb ht in_R hown hK.1 (hP.one hM21.1) 0 rfl rfl 4 (by decide) (ht _ fl_R_R_kinds) (fun _ h9 => h9) rfl d_R_look_143 ?_
                refine lv_iload_n hx hb d_R_look_146 rfl (lv_at hl 0 rfl) ?_
                refine va_bald hx hb hK.1 (hP.one hM21.a4) 0 3 rfl ht3 (vp_in_nI hs (by decide)) d_R_look_147 ?_
                rw [nI_clamp (by omega)]
                rw [hkp2 4 (by decide) (by decide), hki, hj]
                refine lv_iconst (v := 3) hx hb d_R_look_148 (by decide) ?_
                refine lv_icmp_ne (tgt := 157) hx hb d_R_look_149 (by decide) (fun _ => ?_) (fun z => absurd z (by decide))
                refine lv_bipush (v := 10) hx hb d_R_look_157 (by decide) ?_
                refine lv_aload_n hx hb d_R_look_159 rfl (lv_at hl 2 rfl) ?_
                refine va_get (D := D) (ci := 5) (C := "StackRoomModel") (T := T_R) (N := 25) (v := .ref (adr 15)) hx hb ht in_R hown hK.1 (hP.one hM21.1) 0 rfl rfl 15 (by decide) (ht _ fl_R_R_rooms) (fun _ h9 => h9) rfl d_R_look_160 ?_
                refine lv_iload_n hx hb d_R_look_163 rfl (lv_at hl 0 rfl) ?_
                refine va_iald hx hb hK.1 (hP.one hM21.a15) 0 2 rfl ht2 (vp_in_nI hs (by decide)) d_R_look_164 ?_
                rw [nI_clamp (by omega)]
                rw [hkp2 15 (by decide) (by decide), hfx.2.2.2.2.2.1]
                refine lv_iadd hx hb d_R_look_165 ?_
                refine lv_iadd hx hb d_R_look_166 ?_
                refine gw_put (D := D) (cl := vwCl) (ci := 5) (C := "StackRoomModel") (T := T_R) (N := 25) (v := .int (o2 + (10 + (nI (s_rm σ i))))) (ty := .int) hx hb ht in_R ty_R tk_R nm_R hown hK.1 hP hS hM21.1 rfl 23 (by decide) (ht _ fl_R_R_reachedWords) (fun _ h9 => h9) rfl (by decide +kernel) rfl rfl (Nat.le_of_ble_eq_true rfl) d_R_look_167 (fun H locs hP hS => ?_)
                obtain ⟨G22, eG22⟩ : ∃ z : gw_G, z = va_up G21 x (some (.inr (5, [.int (nI w), .int (nI n), .int (nI md), .ref (adr 3), .ref (adr 4), .ref (adr 5), .ref (adr 6), .ref (adr 7), .ref (adr 8), .ref (adr 9), .ref (adr 10), .ref (adr 11), .ref (adr 12), .ref (adr 13), .ref (adr 14), .ref (adr 15), .ref (adr 16), .ref (adr 17), .int us, .ref (adr 19), .ref (adr 20), .int (nI L.length), .int (o1 + 1), .int (o2 + (10 + nI (s_rm σ i))), .int (o3 + 1)]))) := ⟨_, rfl⟩
                replace hP : gw_P D vwCl (gw_A G s.heap.size) G22 H := by rw [eG22]; exact hP
                have hM22 : m_Arr cI cB cZ x w n md adr (us) (nI L.length) (o1 + 1) (o2 + (10 + nI (s_rm σ i))) (o3 + 1) ar2 G22 := by rw [eG22]; exact hM21.own md (us) (nI L.length) (o1 + 1) (o2 + (10 + nI (s_rm σ i))) (o3 + 1)
                refine lv_aload_n hx hb d_R_look_170 rfl (lv_at hl 2 rfl) ?_
                refine lv_aload_n hx hb d_R_look_171 rfl (lv_at hl 2 rfl) ?_
                refine va_get (D := D) (ci := 5) (C := "StackRoomModel") (T := T_R) (N := 25) (v := .ref (adr 9)) hx hb ht in_R hown hK.1 (hP.one hM22.1) 0 rfl rfl 9 (by decide) (ht _ fl_R_R_senders) (fun _ h9 => h9) rfl d_R_look_172 ?_
                refine lv_iload_n hx hb d_R_look_175 rfl (lv_at hl 0 rfl) ?_
                refine va_iald hx hb hK.1 (hP.one hM22.a9) 0 2 rfl ht2 (vp_in_nI hs (by decide)) d_R_look_176 ?_
                rw [nI_clamp (by omega)]
                refine W.eq (g2 := F0 m 177 ls [.int (m_val sl ((s_sn σ i).map .inr)), .ref x]) (by rw [hkp2 9 (by decide) (by decide), hfx.1]) ?_
                have hv1 : ∀ j, ((s_sn σ i).map .inr : sV) = some (.inr j) → s_rch σ j := fun j e => s_rch_edge hri ⟨hc, Or.inl (sn_inr e)⟩
                refine g_callv hP hS hA (r_V (rest := []) C0 [.int (m_val sl ((s_sn σ i).map .inr))] (k_R_see l hM22 hQ2 hp2 hO hn4 hsl hinj ht2 ht3 ht4 (u := (s_sn σ i).map .inr) hv1 (fun a e => (sn_no e).elim)) ml_R_R_see im_R_see se_R_R_see_R ini_R co_R_see ⟨rfl, hd_R_see⟩ (g_preV (ci := 5) hK hP rfl hM22.1) hl.1 d_R_look_177 rfl rfl (Nat.le_of_ble_eq_true rfl) ⟨rfl, rfl⟩ ⟨Nat.le_of_ble_eq_true rfl, Nat.le_of_ble_eq_true rfl⟩ ⟨Nat.le_of_ble_eq_true rfl, Nat.le_of_ble_eq_true rfl⟩) (fun G204 H locs hq204 hP hS hz9 hk9 => ?_)
                clear hz9 hk9
                obtain ⟨ar204, hM204, hQ204, hkp204⟩ := hq204
                have hp3 := s_part_add hp2 hv1
                refine lv_aload_n hx hb d_R_look_180 rfl (lv_at hl 2 rfl) ?_
                refine lv_iconst (v := 2) hx hb d_R_look_181 (by decide) ?_
                refine lv_aload_n hx hb d_R_look_182 rfl (lv_at hl 2 rfl) ?_
                refine va_get (D := D) (ci := 5) (C := "StackRoomModel") (T := T_R) (N := 25) (v := .ref (adr 12)) hx hb ht in_R hown hK.1 (hP.one hM204.1) 0 rfl rfl 12 (by decide) (ht _ fl_R_R_links) (fun _ h9 => h9) rfl d_R_look_183 ?_
                refine lv_iload_n hx hb d_R_look_186 rfl (lv_at hl 0 rfl) ?_
                refine va_iald hx hb hK.1 (hP.one hM204.a12) 0 2 rfl ht2 (vp_in_nI hs (by decide)) d_R_look_187 ?_
                rw [nI_clamp (by omega)]
                rw [hkp204 12 (by decide) (by decide), hkp2 12 (by decide) (by decide), hfx.2.2.2.1]
                refine lv_imul hx hb d_R_look_188 ?_
                refine lv_iconst (v := 2) hx hb d_R_look_189 (by decide) ?_
                refine lv_iadd hx hb d_R_look_190 ?_
                refine W.eq (g2 := F0 m 191 ls [.int (m_val sl (some (.inr (s_og σ i)))), .ref x]) (by rw [m_lnk]; rfl) ?_
                have hv2 : ∀ j, (some (.inr (s_og σ i)) : sV) = some (.inr j) → s_rch σ j := fun j e => by cases e; exact s_rch_edge hri ⟨hc, Or.inr (Or.inl rfl)⟩
                refine g_callv hP hS hA (r_V (rest := []) C0 [.int (m_val sl (some (.inr (s_og σ i))))] (k_R_see l hM204 hQ204 hp3 hO hn4 hsl hinj ht2 ht3 ht4 (u := some (.inr (s_og σ i))) hv2 (fun a e => by cases e)) ml_R_R_see im_R_see se_R_R_see_R ini_R co_R_see ⟨rfl, hd_R_see⟩ (g_preV (ci := 5) hK hP rfl hM204.1) hl.1 d_R_look_191 rfl rfl (Nat.le_of_ble_eq_true rfl) ⟨rfl, rfl⟩ ⟨Nat.le_of_ble_eq_true rfl, Nat.le_of_ble_eq_true rfl⟩ ⟨Nat.le_of_ble_eq_true rfl, Nat.le_of_ble_eq_true rfl⟩) (fun G205 H locs hq205 hP hS hz9 hk9 => ?_)
                clear hz9 hk9
                obtain ⟨ar205, hM205, hQ205, hkp205⟩ := hq205
                refine lv_iconst (v := 0) hx hb d_R_look_194 (by decide) ?_
                refine lv_istore_n (lv' := [(3, .int 0), (2, .int (nI (sl i))), (1, .int (nI p3)), (0, .ref x)]) hx hb d_R_look_195 rfl hl (by decide) rfl (fun ls hl => ?_)
                obtain ⟨L2, eL2⟩ : ∃ z, z = s_add (s_add L ((s_sn σ i).map .inr)) (some (.inr (s_og σ i))) := ⟨_, rfl⟩
                obtain ⟨G4, eG4⟩ : ∃ z : gw_G, z = G205 := ⟨_, rfl⟩
                obtain ⟨ar4, ear4⟩ : ∃ z : Nat → Nat → Int32, z = ar205 := ⟨_, rfl⟩
                obtain ⟨b, eb⟩ : ∃ z : Nat, z = 0 := ⟨_, rfl⟩
                obtain ⟨f4, ef4⟩ : ∃ z : Nat, z = s_rm σ i := ⟨_, rfl⟩
                have inv4 : s_rm σ i ≤ b + f4 ∧ b ≤ s_rm σ i ∧ lv_has ls 4 [(3, .int (nI b)), (2, .int (nI (sl i))), (1, .int (nI p3)), (0, .ref x)] ∧ gw_P D vwCl (gw_A G s.heap.size) G4 H ∧ va_S (gw_A G s.heap.size) s.heap H locs ∧ m_Arr cI cB cZ x w n md adr us (nI L2.length) (o1 + 1) (o2 + (10 + nI (s_rm σ i))) (o3 + 1) ar4 G4 ∧ m_Q sl L2 ar4 ∧ s_part σ L2 ∧ (∃ M, L2 = L ++ M) ∧ (∀ k, s_sn σ i = some k → k ∈ L2) ∧ s_og σ i ∈ L2 ∧ (∀ k, k < b → ∀ a, s_fl σ i k = some (.inr a) → a ∈ L2) ∧ (∀ k, k ≠ 19 → k ≠ 20 → ar4 k = ar k) := by
                  refine ⟨by omega, by omega, by rw [eb]; exact lv_sub hl [0, 1, 2, 3] rfl, by rw [eG4]; exact hP, hS, by rw [eG4, ear4, eL2]; exact hM205, by rw [ear4, eL2]; exact hQ205, by rw [eL2]; exact s_part_add hp3 hv2, ?_, fun k hk => ?_, by rw [eL2]; exact s_add_in, fun k hk => absurd hk (by omega), fun k h1 h2 => by rw [ear4, hkp205 k h1 h2, hkp204 k h1 h2]; exact hkp2 k h1 h2⟩
                  · obtain ⟨M1, e1⟩ := s_add_pre L ((s_sn σ i).map .inr)
                    obtain ⟨M2, e2⟩ := s_add_pre (s_add L ((s_sn σ i).map .inr)) (some (.inr (s_og σ i)))
                    exact ⟨M1 ++ M2, by rw [eL2, e2, e1, List.append_assoc]⟩
                  · rw [eL2]
                    refine s_add_sub ?_
                    rw [hk]
                    exact s_add_in
                clear hl hP hS eL2 eG4 ear4 eb ef4
                induction f4 generalizing b ls H locs G4 ar4 L2
                case zero =>
                  obtain ⟨hf4, hbm, hl, hP, hS, hM4, hQ4, hp4, hpre, hsn4, hog4, hfl4, hkp4⟩ := inv4
                  refine lv_iload_n hx hb d_R_look_196 rfl (lv_at hl 0 rfl) ?_
                  refine lv_aload_n hx hb d_R_look_197 rfl (lv_at hl 3 rfl) ?_
                  refine va_get (D := D) (ci := 5) (C := "StackRoomModel") (T := T_R) (N := 25) (v := .ref (adr 15)) hx hb ht in_R hown hK.1 (hP.one hM4.1) 0 rfl rfl 15 (by decide) (ht _ fl_R_R_rooms) (fun _ h9 => h9) rfl d_R_look_198 ?_
                  refine lv_iload_n hx hb d_R_look_201 rfl (lv_at hl 1 rfl) ?_
                  refine va_iald hx hb hK.1 (hP.one hM4.a15) 0 2 rfl ht2 (vp_in_nI hs (by decide)) d_R_look_202 ?_
                  rw [nI_clamp (by omega)]
                  rw [hkp4 15 (by decide) (by decide), hfx.2.2.2.2.2.1]
                  refine lv_icmp_ge (tgt := 229) hx hb d_R_look_203 (by decide) (fun cb => ?_) (fun cb => ?_)
                  · have hgeb := (nI_leI (by omega) (by omega)).mp cb
                    refine lv_iinc (v := nI (p3 + 1)) (lv' := [(1, .int (nI (p3 + 1))), (3, .int (nI b)), (2, .int (nI (sl i))), (0, .ref x)]) hx hb d_R_look_229 hl (k := 2) rfl (by rw [← nI_1]; rfl) (by decide) rfl (fun ls hl => ?_)
                    refine lv_goto (tgt := 68) hx hb d_R_look_232 (by decide) ?_
                    obtain ⟨M, eM⟩ := hpre
                    have sub : ∀ a, a ∈ L → a ∈ L2 := fun a ha => by rw [eM]; exact List.mem_append_left _ ha
                    refine ih3 _ _ _ _ _ _ _ _ _ _ ⟨by omega, by rw [eM, List.length_append]; omega, lv_sub hl [0, 3] rfl, hP, hS, hM4, hQ4, hp4, fun k hk a ha => sub a (hroot k hk a ha), ?_, ?_, ?_, fun k c hk hc2 a ha => ?_, hkp4⟩
                    · rw [eM, s_sum_take hi, he1, show s_en σ i = 1 from s_enC hc, ← nI_add]; rfl
                    · rw [eM, s_sum_take hi, he2, s_wd4 hj, ← nI_add, ← nI_add]; rfl
                    · rw [eM, s_sum_take hi, he3, show s_cn σ i = 1 from if_neg (by omega), ← nI_add]; rfl
                    · have hk2 : k < L.length := by omega
                      rw [eM, List.getElem?_append_left hk2] at hc2
                      by_cases e : k = p3
                      · subst e
                        rw [hi] at hc2
                        cases hc2
                        rcases ha.2 with e | e | ⟨b9, hb1, e⟩
                        · exact hsn4 a e
                        · exact e ▸ hog4
                        · exact hfl4 b9 (by omega) a e
                      · exact sub a (hed k c (by omega) hc2 a ha)
                  · have hltb : b < s_rm σ i := Nat.not_le.mp (fun t => cb ((nI_leI (by omega) (by omega)).mpr t))
                    omega
                case succ f4 ih =>
                  obtain ⟨hf4, hbm, hl, hP, hS, hM4, hQ4, hp4, hpre, hsn4, hog4, hfl4, hkp4⟩ := inv4
                  refine lv_iload_n hx hb d_R_look_196 rfl (lv_at hl 0 rfl) ?_
                  refine lv_aload_n hx hb d_R_look_197 rfl (lv_at hl 3 rfl) ?_
                  refine va_get (D := D) (ci := 5) (C := "StackRoomModel") (T := T_R) (N := 25) (v := .ref (adr 15)) hx hb ht in_R hown hK.1 (hP.one hM4.1) 0 rfl rfl 15 (by decide) (ht _ fl_R_R_rooms) (fun _ h9 => h9) rfl d_R_look_198 ?_
                  refine lv_iload_n hx hb d_R_look_201 rfl (lv_at hl 1 rfl) ?_
                  refine va_iald hx hb hK.1 (hP.one hM4.a15) 0 2 rfl ht2 (vp_in_nI hs (by decide)) d_R_look_202 ?_
                  rw [nI_clamp (by omega)]
                  rw [hkp4 15 (by decide) (by decide), hfx.2.2.2.2.2.1]
                  refine lv_icmp_ge (tgt := 229) hx hb d_R_look_203 (by decide) (fun cb => ?_) (fun cb => ?_)
                  · have hgeb := (nI_leI (by omega) (by omega)).mp cb
                    refine lv_iinc (v := nI (p3 + 1)) (lv' := [(1, .int (nI (p3 + 1))), (3, .int (nI b)), (2, .int (nI (sl i))), (0, .ref x)]) hx hb d_R_look_229 hl (k := 2) rfl (by rw [← nI_1]; rfl) (by decide) rfl (fun ls hl => ?_)
                    refine lv_goto (tgt := 68) hx hb d_R_look_232 (by decide) ?_
                    obtain ⟨M, eM⟩ := hpre
                    have sub : ∀ a, a ∈ L → a ∈ L2 := fun a ha => by rw [eM]; exact List.mem_append_left _ ha
                    refine ih3 _ _ _ _ _ _ _ _ _ _ ⟨by omega, by rw [eM, List.length_append]; omega, lv_sub hl [0, 3] rfl, hP, hS, hM4, hQ4, hp4, fun k hk a ha => sub a (hroot k hk a ha), ?_, ?_, ?_, fun k c hk hc2 a ha => ?_, hkp4⟩
                    · rw [eM, s_sum_take hi, he1, show s_en σ i = 1 from s_enC hc, ← nI_add]; rfl
                    · rw [eM, s_sum_take hi, he2, s_wd4 hj, ← nI_add, ← nI_add]; rfl
                    · rw [eM, s_sum_take hi, he3, show s_cn σ i = 1 from if_neg (by omega), ← nI_add]; rfl
                    · have hk2 : k < L.length := by omega
                      rw [eM, List.getElem?_append_left hk2] at hc2
                      by_cases e : k = p3
                      · subst e
                        rw [hi] at hc2
                        cases hc2
                        rcases ha.2 with e | e | ⟨b9, hb1, e⟩
                        · exact hsn4 a e
                        · exact e ▸ hog4
                        · exact hfl4 b9 (by omega) a e
                      · exact sub a (hed k c (by omega) hc2 a ha)
                  · have hltb : b < s_rm σ i := Nat.not_le.mp (fun t => cb ((nI_leI (by omega) (by omega)).mpr t))
                    refine lv_aload_n hx hb d_R_look_206 rfl (lv_at hl 3 rfl) ?_
                    refine lv_aload_n hx hb d_R_look_207 rfl (lv_at hl 3 rfl) ?_
                    refine va_get (D := D) (ci := 5) (C := "StackRoomModel") (T := T_R) (N := 25) (v := .ref (adr 16)) hx hb ht in_R hown hK.1 (hP.one hM4.1) 0 rfl rfl 16 (by decide) (ht _ fl_R_R_fields) (fun _ h9 => h9) rfl d_R_look_208 ?_
                    refine lv_aload_n hx hb d_R_look_211 rfl (lv_at hl 3 rfl) ?_
                    refine va_get (D := D) (ci := 5) (C := "StackRoomModel") (T := T_R) (N := 25) (v := .ref (adr 14)) hx hb ht in_R hown hK.1 (hP.one hM4.1) 0 rfl rfl 14 (by decide) (ht _ fl_R_R_begins) (fun _ h9 => h9) rfl d_R_look_212 ?_
                    refine lv_iload_n hx hb d_R_look_215 rfl (lv_at hl 1 rfl) ?_
                    refine va_iald hx hb hK.1 (hP.one hM4.a14) 0 2 rfl ht2 (vp_in_nI hs (by decide)) d_R_look_216 ?_
                    rw [nI_clamp (by omega), hkp4 14 (by decide) (by decide), hfx.2.2.2.2.1]
                    refine lv_iload_n hx hb d_R_look_217 rfl (lv_at hl 0 rfl) ?_
                    refine lv_iadd hx hb d_R_look_218 ?_
                    refine W.eq (g2 := F0 m 219 ls [.int (nI (bg i + b)), .ref (adr 16), .ref x]) (by rw [← nI_add]) ?_
                    refine va_iald hx hb hK.1 (hP.one hM4.a16) 0 2 rfl ht2 (vp_in_nI (by omega) (by decide)) d_R_look_219 ?_
                    rw [nI_clamp (by omega), hkp4 16 (by decide) (by decide), hE.2.2.2.2.2.1 i hri hc b hltb]
                    have hv3 : ∀ a, s_fl σ i b = some (.inr a) → s_rch σ a := fun a e => s_rch_edge hri ⟨hc, Or.inr (Or.inr ⟨b, hltb, e⟩)⟩
                    refine g_callv hP hS hA (r_V (rest := []) C0 [.int (m_val sl (s_fl σ i b))] (k_R_see l hM4 hQ4 hp4 hO hn4 hsl hinj ht2 ht3 ht4 (u := s_fl σ i b) hv3 (fun a e => hV.2 i hc b hltb a e)) ml_R_R_see im_R_see se_R_R_see_R ini_R co_R_see ⟨rfl, hd_R_see⟩ (g_preV (ci := 5) hK hP rfl hM4.1) hl.1 d_R_look_220 rfl rfl (Nat.le_of_ble_eq_true rfl) ⟨rfl, rfl⟩ ⟨Nat.le_of_ble_eq_true rfl, Nat.le_of_ble_eq_true rfl⟩ ⟨Nat.le_of_ble_eq_true rfl, Nat.le_of_ble_eq_true rfl⟩) (fun G206 H locs hq206 hP hS hz9 hk9 => ?_)
                    clear hz9 hk9
                    obtain ⟨ar206, hM206, hQ206, hkp206⟩ := hq206
                    refine lv_iinc (v := nI (b + 1)) (lv' := [(3, .int (nI (b + 1))), (2, .int (nI (sl i))), (1, .int (nI p3)), (0, .ref x)]) hx hb d_R_look_223 hl (k := 0) rfl (by rw [← nI_1]; rfl) (by decide) rfl (fun ls hl => ?_)
                    refine lv_goto (tgt := 196) hx hb d_R_look_226 (by decide) ?_
                    refine ih _ _ _ _ _ _ _ ⟨by omega, by omega, lv_sub hl [0, 1, 2, 3] rfl, hP, hS, hM206, hQ206, s_part_add hp4 hv3, ?_, fun k hk => s_add_sub (hsn4 k hk), s_add_sub hog4, fun k hk a ha => ?_, fun k h1 h2 => by rw [hkp206 k h1 h2]; exact hkp4 k h1 h2⟩
                    · obtain ⟨M1, e1⟩ := hpre
                      obtain ⟨M2, e2⟩ := s_add_pre L2 (s_fl σ i b)
                      exact ⟨M1 ++ M2, by rw [e2, e1, List.append_assoc]⟩
                    · by_cases e : k = b
                      · subst e
                        rw [ha]
                        exact s_add_in
                      · exact s_add_sub (hfl4 k (by omega) a ha)
        · have hlt : q < 16 := Nat.not_le.mp (fun t => cq (show nI 16 ≤ nI q from (nI_leI (by omega) (by omega)).mpr t))
          omega
      case succ g ih2 =>
        obtain ⟨hg, hq, hl, hP, hS, hM2, hQ2, hp2, hrg, hkp2⟩ := inv
        refine lv_iload_n hx hb d_R_look_44 rfl (lv_at hl 0 rfl) ?_
        refine lv_bipush (v := 16) hx hb d_R_look_45 (by decide) ?_
        refine lv_icmp_ge (tgt := 66) hx hb d_R_look_47 (by decide) (fun cq => ?_) (fun cq => ?_)
        · have hge2 : 16 ≤ q := (nI_leI (by omega) (by omega)).mp (show nI 16 ≤ nI q from cq)
          refine lv_iconst (v := 0) hx hb d_R_look_66 (by decide) ?_
          refine lv_istore_n (lv' := [(1, .int 0), (0, .ref x)]) hx hb d_R_look_67 rfl hl (by decide) rfl (fun ls hl => ?_)
          have hroot : ∀ k, k < 16 → ∀ a, s_rg σ k = some (.inr a) → a ∈ L := fun k hk => hrg k (by omega)
          obtain ⟨o1, eo1⟩ : ∃ z : Int32, z = 0 := ⟨_, rfl⟩
          obtain ⟨o2, eo2⟩ : ∃ z : Int32, z = 0 := ⟨_, rfl⟩
          obtain ⟨o3, eo3⟩ : ∃ z : Int32, z = 0 := ⟨_, rfl⟩
          obtain ⟨p3, ep3⟩ : ∃ z : Nat, z = 0 := ⟨_, rfl⟩
          obtain ⟨g3, eg3⟩ : ∃ z : Nat, z = n := ⟨_, rfl⟩
          have inv : n ≤ p3 + g3 ∧ p3 ≤ L.length ∧ lv_has ls 4 [(1, .int (nI p3)), (0, .ref x)] ∧ gw_P D vwCl (gw_A G s.heap.size) G2 H ∧ va_S (gw_A G s.heap.size) s.heap H locs ∧ m_Arr cI cB cZ x w n md adr us (nI L.length) (o1) (o2) (o3) ar2 G2 ∧ m_Q sl L ar2 ∧ s_part σ L ∧ (∀ k, k < 16 → ∀ a, s_rg σ k = some (.inr a) → a ∈ L) ∧ o1 = nI (s_sum (s_en σ) (L.take p3)) ∧ o2 = nI (s_sum (s_wd σ) (L.take p3)) ∧ o3 = nI (s_sum (s_cn σ) (L.take p3)) ∧ (∀ k i, k < p3 → L[k]? = some i → ∀ a, s_edge σ i a → a ∈ L) ∧ (∀ k, k ≠ 19 → k ≠ 20 → ar2 k = ar k) := by
            refine ⟨by omega, by omega, by rw [ep3]; exact lv_sub hl [0, 1] rfl, hP, hS, by rw [eo1, eo2, eo3]; exact hM2, hQ2, hp2, hroot, by rw [ep3, eo1]; rfl, by rw [ep3, eo2]; rfl, by rw [ep3, eo3]; rfl, fun k i hk => absurd hk (by omega), hkp2⟩
          clear hl hP hS hM2 hQ2 hp2 hrg hroot eo1 eo2 eo3 ep3 eg3 hkp2 hge2 cq
          induction g3 generalizing p3 ls H locs G2 ar2 L o1 o2 o3
          case zero =>
            obtain ⟨hg3, hqL, hl, hP, hS, hM2, hQ2, hp2, hroot, he1, he2, he3, hed, hkp2⟩ := inv
            have hle := s_part_len hp2 hO
            refine lv_iload_n hx hb d_R_look_68 rfl (lv_at hl 0 rfl) ?_
            refine lv_aload_n hx hb d_R_look_69 rfl (lv_at hl 1 rfl) ?_
            refine va_get (D := D) (ci := 5) (C := "StackRoomModel") (T := T_R) (N := 25) (v := .int (nI L.length)) hx hb ht in_R hown hK.1 (hP.one hM2.1) 0 rfl rfl 21 (by decide) (ht _ fl_R_R_reached) (fun _ h9 => h9) rfl d_R_look_70 ?_
            refine lv_icmp_ge (tgt := 235) hx hb d_R_look_73 (by decide) (fun cp => ?_) (fun cp => ?_)
            · have hq2 : L.length ≤ p3 := (nI_leI (by omega) (by omega)).mp cp
              have henum : s_enum σ L := s_part_enum hp2 hroot (fun j hj k hk => by
                obtain ⟨a, ha⟩ := List.getElem?_of_mem hj
                exact hed a j (by have := (List.getElem?_eq_some_iff.mp ha).1; omega) ha k hk)
              rw [List.take_of_length_le hq2] at he1 he2 he3
              have e1 : s_sum (s_en σ) L = s_N σ := s_N_enum hO.1 henum
              have e2 : s_sum (s_wd σ) L = s_W σ := s_W_enum hO.1 henum
              have e3 : s_sum (s_cn σ) L = s_K σ := s_K_enum hO.1 henum
              rw [e1] at he1
              rw [e2] at he2
              rw [e3] at he3
              rw [he1, he2, he3] at hM2
              exact W.vret hx hb hr (fun t ht hW => ⟨⟨G2, rfl, ⟨ar2, _, hM2, fun i hi => hQ2.1 i ((henum.2 i).mpr hi), fun o ho hno => hQ2.2.1 o ho (fun i hi => hno i ((henum.2 i).mp hi)), hkp2⟩, g_fin ht hP⟩, hS.F ht⟩) hS.2.2 d_R_look_235
            · have hlt : p3 < L.length := Nat.not_le.mp (fun z => cp ((nI_leI (by omega) (by omega)).mpr z))
              omega
          case succ g3 ih3 =>
            obtain ⟨hg3, hqL, hl, hP, hS, hM2, hQ2, hp2, hroot, he1, he2, he3, hed, hkp2⟩ := inv
            have hle := s_part_len hp2 hO
            refine lv_iload_n hx hb d_R_look_68 rfl (lv_at hl 0 rfl) ?_
            refine lv_aload_n hx hb d_R_look_69 rfl (lv_at hl 1 rfl) ?_
            refine va_get (D := D) (ci := 5) (C := "StackRoomModel") (T := T_R) (N := 25) (v := .int (nI L.length)) hx hb ht in_R hown hK.1 (hP.one hM2.1) 0 rfl rfl 21 (by decide) (ht _ fl_R_R_reached) (fun _ h9 => h9) rfl d_R_look_70 ?_
            refine lv_icmp_ge (tgt := 235) hx hb d_R_look_73 (by decide) (fun cp => ?_) (fun cp => ?_)
            · have hq2 : L.length ≤ p3 := (nI_leI (by omega) (by omega)).mp cp
              have henum : s_enum σ L := s_part_enum hp2 hroot (fun j hj k hk => by
                obtain ⟨a, ha⟩ := List.getElem?_of_mem hj
                exact hed a j (by have := (List.getElem?_eq_some_iff.mp ha).1; omega) ha k hk)
              rw [List.take_of_length_le hq2] at he1 he2 he3
              have e1 : s_sum (s_en σ) L = s_N σ := s_N_enum hO.1 henum
              have e2 : s_sum (s_wd σ) L = s_W σ := s_W_enum hO.1 henum
              have e3 : s_sum (s_cn σ) L = s_K σ := s_K_enum hO.1 henum
              rw [e1] at he1
              rw [e2] at he2
              rw [e3] at he3
              rw [he1, he2, he3] at hM2
              exact W.vret hx hb hr (fun t ht hW => ⟨⟨G2, rfl, ⟨ar2, _, hM2, fun i hi => hQ2.1 i ((henum.2 i).mpr hi), fun o ho hno => hQ2.2.1 o ho (fun i hi => hno i ((henum.2 i).mp hi)), hkp2⟩, g_fin ht hP⟩, hS.F ht⟩) hS.2.2 d_R_look_235
            · have hlt : p3 < L.length := Nat.not_le.mp (fun z => cp ((nI_leI (by omega) (by omega)).mpr z))
              obtain ⟨i, hi⟩ : ∃ i, L[p3]? = some i := ⟨_, List.getElem?_eq_getElem hlt⟩
              have hri := hp2.2 i (List.mem_of_getElem? hi)
              have hi0 := s_rch_kd hO.1 hri
              have hs := hsl i hri
              have hki := (hE.2.1 i hri).2.1
              refine lv_aload_n hx hb d_R_look_76 rfl (lv_at hl 1 rfl) ?_
              refine va_get (D := D) (ci := 5) (C := "StackRoomModel") (T := T_R) (N := 25) (v := .ref (adr 20)) hx hb ht in_R hown hK.1 (hP.one hM2.1) 0 rfl rfl 20 (by decide) (ht _ fl_R_R_todo) (fun _ h9 => h9) rfl d_R_look_77 ?_
              refine lv_iload_n hx hb d_R_look_80 rfl (lv_at hl 0 rfl) ?_
              refine va_iald hx hb hK.1 (hP.one hM2.a20) 0 2 rfl ht2 (vp_in_nI (by omega) (by decide)) d_R_look_81 ?_
              rw [nI_clamp (by omega)]
              rw [hQ2.2.2 p3 i hi]
              refine lv_istore_n (lv' := [(2, .int (nI (sl i))), (1, .int (nI p3)), (0, .ref x)]) hx hb d_R_look_82 rfl hl (by decide) rfl (fun ls hl => ?_)
              refine lv_aload_n hx hb d_R_look_83 rfl (lv_at hl 2 rfl) ?_
              refine va_get (D := D) (ci := 5) (C := "StackRoomModel") (T := T_R) (N := 25) (v := .ref (adr 4)) hx hb ht in_R hown hK.1 (hP.one hM2.1) 0 rfl rfl 4 (by decide) (ht _ fl_R_R_kinds) (fun _ h9 => h9) rfl d_R_look_84 ?_
              refine lv_iload_n hx hb d_R_look_87 rfl (lv_at hl 0 rfl) ?_
              refine va_bald hx hb hK.1 (hP.one hM2.a4) 0 3 rfl ht3 (vp_in_nI hs (by decide)) d_R_look_88 ?_
              rw [nI_clamp (by omega)]
              rw [hkp2 4 (by decide) (by decide), hki]
              rcases (hO.1.2.1 i hi0).2.2 with hj | hj | hj
              · rw [hj]
                refine lv_iconst (v := 2) hx hb d_R_look_89 (by decide) ?_
                refine lv_icmp_ne (tgt := 117) hx hb d_R_look_90 (by decide) (fun z => absurd rfl z) (fun _ => ?_)
                refine lv_aload_n hx hb d_R_look_93 rfl (lv_at hl 2 rfl) ?_
                refine lv_dup hx hb d_R_look_94 rfl ?_
                refine va_get (D := D) (ci := 5) (C := "StackRoomModel") (T := T_R) (N := 25) (v := .int o1) hx hb ht in_R hown hK.1 (hP.one hM2.1) 0 rfl rfl 22 (by decide) (ht _ fl_R_R_reachedObjects) (fun _ h9 => h9) rfl d_R_look_95 ?_
                refine lv_iconst (v := 2) hx hb d_R_look_98 (by decide) ?_
                refine lv_iadd hx hb d_R_look_99 ?_
                refine gw_put (D := D) (cl := vwCl) (ci := 5) (C := "StackRoomModel") (T := T_R) (N := 25) (v := .int (o1 + 2)) (ty := .int) hx hb ht in_R ty_R tk_R nm_R hown hK.1 hP hS hM2.1 rfl 22 (by decide) (ht _ fl_R_R_reachedObjects) (fun _ h9 => h9) rfl (by decide +kernel) rfl rfl (Nat.le_of_ble_eq_true rfl) d_R_look_100 (fun H locs hP hS => ?_)
                obtain ⟨G23, eG23⟩ : ∃ z : gw_G, z = va_up G2 x (some (.inr (5, [.int (nI w), .int (nI n), .int (nI md), .ref (adr 3), .ref (adr 4), .ref (adr 5), .ref (adr 6), .ref (adr 7), .ref (adr 8), .ref (adr 9), .ref (adr 10), .ref (adr 11), .ref (adr 12), .ref (adr 13), .ref (adr 14), .ref (adr 15), .ref (adr 16), .ref (adr 17), .int us, .ref (adr 19), .ref (adr 20), .int (nI L.length), .int (o1 + 2), .int o2, .int o3]))) := ⟨_, rfl⟩
                replace hP : gw_P D vwCl (gw_A G s.heap.size) G23 H := by rw [eG23]; exact hP
                have hM23 : m_Arr cI cB cZ x w n md adr (us) (nI L.length) (o1 + 2) (o2) (o3) ar2 G23 := by rw [eG23]; exact hM2.own md (us) (nI L.length) (o1 + 2) (o2) (o3)
                refine lv_aload_n hx hb d_R_look_103 rfl (lv_at hl 2 rfl) ?_
                refine lv_dup hx hb d_R_look_104 rfl ?_
                refine va_get (D := D) (ci := 5) (C := "StackRoomModel") (T := T_R) (N := 25) (v := .int o2) hx hb ht in_R hown hK.1 (hP.one hM23.1) 0 rfl rfl 23 (by decide) (ht _ fl_R_R_reachedWords) (fun _ h9 => h9) rfl d_R_look_105 ?_
                refine lv_bipush (v := 10) hx hb d_R_look_108 (by decide) ?_
                refine lv_iadd hx hb d_R_look_110 ?_
                refine gw_put (D := D) (cl := vwCl) (ci := 5) (C := "StackRoomModel") (T := T_R) (N := 25) (v := .int (o2 + 10)) (ty := .int) hx hb ht in_R ty_R tk_R nm_R hown hK.1 hP hS hM23.1 rfl 23 (by decide) (ht _ fl_R_R_reachedWords) (fun _ h9 => h9) rfl (by decide +kernel) rfl rfl (Nat.le_of_ble_eq_true rfl) d_R_look_111 (fun H locs hP hS => ?_)
                obtain ⟨G24, eG24⟩ : ∃ z : gw_G, z = va_up G23 x (some (.inr (5, [.int (nI w), .int (nI n), .int (nI md), .ref (adr 3), .ref (adr 4), .ref (adr 5), .ref (adr 6), .ref (adr 7), .ref (adr 8), .ref (adr 9), .ref (adr 10), .ref (adr 11), .ref (adr 12), .ref (adr 13), .ref (adr 14), .ref (adr 15), .ref (adr 16), .ref (adr 17), .int us, .ref (adr 19), .ref (adr 20), .int (nI L.length), .int (o1 + 2), .int (o2 + 10), .int o3]))) := ⟨_, rfl⟩
                replace hP : gw_P D vwCl (gw_A G s.heap.size) G24 H := by rw [eG24]; exact hP
                have hM24 : m_Arr cI cB cZ x w n md adr (us) (nI L.length) (o1 + 2) (o2 + 10) (o3) ar2 G24 := by rw [eG24]; exact hM23.own md (us) (nI L.length) (o1 + 2) (o2 + 10) (o3)
                refine lv_goto (tgt := 229) hx hb d_R_look_114 (by decide) ?_
                refine lv_iinc (v := nI (p3 + 1)) (lv' := [(1, .int (nI (p3 + 1))), (2, .int (nI (sl i))), (0, .ref x)]) hx hb d_R_look_229 hl (k := 1) rfl (by rw [← nI_1]; rfl) (by decide) rfl (fun ls hl => ?_)
                refine lv_goto (tgt := 68) hx hb d_R_look_232 (by decide) ?_
                have e7 : ∀ f : Nat → Nat, s_sum f (L.take (p3 + 1)) = s_sum f (L.take p3) + f i := fun f => by
                  have := s_sum_take (f := f) (M := []) hi
                  rwa [List.append_nil] at this
                refine ih3 _ _ _ _ _ _ _ _ _ _ ⟨by omega, by omega, lv_sub hl [0, 2] rfl, hP, hS, hM24, hQ2, hp2, hroot, ?_, ?_, ?_, fun k b hk hb a ha => ?_, hkp2⟩
                · rw [e7, he1, show s_en σ i = 2 from s_en2 hj, ← nI_add]; rfl
                · rw [e7, he2, show s_wd σ i = 10 from s_wd2 hj, ← nI_add]; rfl
                · rw [e7, he3, show s_cn σ i = 0 from if_pos hj, Nat.add_zero]
                · by_cases e : k = p3
                  · subst e
                    rw [hi] at hb
                    cases hb
                    exact absurd ha.1 (fun z => by rcases z with z | z <;> omega)
                  · exact hed k b (by omega) hb a ha
              · have hc : s_isC σ i := Or.inl hj
                have hfx := hE.2.2.2.1 i hri hc
                have hb94 := (hO.1.2.2.2.2.2.2 i hc).2.2.1
                have hU := hE.2.2.2.2.2.2.2.2
                rw [hj]
                refine lv_iconst (v := 2) hx hb d_R_look_89 (by decide) ?_
                refine lv_icmp_ne (tgt := 117) hx hb d_R_look_90 (by decide) (fun _ => ?_) (fun z => absurd z (by decide))
                refine lv_aload_n hx hb d_R_look_117 rfl (lv_at hl 2 rfl) ?_
                refine lv_dup hx hb d_R_look_118 rfl ?_
                refine va_get (D := D) (ci := 5) (C := "StackRoomModel") (T := T_R) (N := 25) (v := .int o1) hx hb ht in_R hown hK.1 (hP.one hM2.1) 0 rfl rfl 22 (by decide) (ht _ fl_R_R_reachedObjects) (fun _ h9 => h9) rfl d_R_look_119 ?_
                refine lv_iconst (v := 1) hx hb d_R_look_122 (by decide) ?_
                refine lv_iadd hx hb d_R_look_123 ?_
                refine gw_put (D := D) (cl := vwCl) (ci := 5) (C := "StackRoomModel") (T := T_R) (N := 25) (v := .int (o1 + 1)) (ty := .int) hx hb ht in_R ty_R tk_R nm_R hown hK.1 hP hS hM2.1 rfl 22 (by decide) (ht _ fl_R_R_reachedObjects) (fun _ h9 => h9) rfl (by decide +kernel) rfl rfl (Nat.le_of_ble_eq_true rfl) d_R_look_124 (fun H locs hP hS => ?_)
                obtain ⟨G25, eG25⟩ : ∃ z : gw_G, z = va_up G2 x (some (.inr (5, [.int (nI w), .int (nI n), .int (nI md), .ref (adr 3), .ref (adr 4), .ref (adr 5), .ref (adr 6), .ref (adr 7), .ref (adr 8), .ref (adr 9), .ref (adr 10), .ref (adr 11), .ref (adr 12), .ref (adr 13), .ref (adr 14), .ref (adr 15), .ref (adr 16), .ref (adr 17), .int us, .ref (adr 19), .ref (adr 20), .int (nI L.length), .int (o1 + 1), .int o2, .int o3]))) := ⟨_, rfl⟩
                replace hP : gw_P D vwCl (gw_A G s.heap.size) G25 H := by rw [eG25]; exact hP
                have hM25 : m_Arr cI cB cZ x w n md adr (us) (nI L.length) (o1 + 1) (o2) (o3) ar2 G25 := by rw [eG25]; exact hM2.own md (us) (nI L.length) (o1 + 1) (o2) (o3)
                refine lv_aload_n hx hb d_R_look_127 rfl (lv_at hl 2 rfl) ?_
                refine lv_dup hx hb d_R_look_128 rfl ?_
                refine va_get (D := D) (ci := 5) (C := "StackRoomModel") (T := T_R) (N := 25) (v := .int o3) hx hb ht in_R hown hK.1 (hP.one hM25.1) 0 rfl rfl 24 (by decide) (ht _ fl_R_R_reachedContexts) (fun _ h9 => h9) rfl d_R_look_129 ?_
                refine lv_iconst (v := 1) hx hb d_R_look_132 (by decide) ?_
                refine lv_iadd hx hb d_R_look_133 ?_
                refine gw_put (D := D) (cl := vwCl) (ci := 5) (C := "StackRoomModel") (T := T_R) (N := 25) (v := .int (o3 + 1)) (ty := .int) hx hb ht in_R ty_R tk_R nm_R hown hK.1 hP hS hM25.1 rfl 24 (by decide) (ht _ fl_R_R_reachedContexts) (fun _ h9 => h9) rfl (by decide +kernel) rfl rfl (Nat.le_of_ble_eq_true rfl) d_R_look_134 (fun H locs hP hS => ?_)
                obtain ⟨G26, eG26⟩ : ∃ z : gw_G, z = va_up G25 x (some (.inr (5, [.int (nI w), .int (nI n), .int (nI md), .ref (adr 3), .ref (adr 4), .ref (adr 5), .ref (adr 6), .ref (adr 7), .ref (adr 8), .ref (adr 9), .ref (adr 10), .ref (adr 11), .ref (adr 12), .ref (adr 13), .ref (adr 14), .ref (adr 15), .ref (adr 16), .ref (adr 17), .int us, .ref (adr 19), .ref (adr 20), .int (nI L.length), .int (o1 + 1), .int o2, .int (o3 + 1)]))) := ⟨_, rfl⟩
                replace hP : gw_P D vwCl (gw_A G s.heap.size) G26 H := by rw [eG26]; exact hP
                have hM26 : m_Arr cI cB cZ x w n md adr (us) (nI L.length) (o1 + 1) (o2) (o3 + 1) ar2 G26 := by rw [eG26]; exact hM25.own md (us) (nI L.length) (o1 + 1) (o2) (o3 + 1)
                refine lv_aload_n hx hb d_R_look_137 rfl (lv_at hl 2 rfl) ?_
                refine lv_dup hx hb d_R_look_138 rfl ?_
                refine va_get (D := D) (ci := 5) (C := "StackRoomModel") (T := T_R) (N := 25) (v := .int o2) hx hb ht in_R hown hK.1 (hP.one hM26.1) 0 rfl rfl 23 (by decide) (ht _ fl_R_R_reachedWords) (fun _ h9 => h9) rfl d_R_look_139 ?_
                refine lv_aload_n hx hb d_R_look_142 rfl (lv_at hl 2 rfl) ?_
                refine va_get (D := D) (ci := 5) (C := "StackRoomModel") (T := T_R) (N := 25) (v := .ref (adr 4)) hx hb ht in_R hown hK.1 (hP.one hM26.1) 0 rfl rfl 4 (by decide) (ht _ fl_R_R_kinds) (fun _ h9 => h9) rfl d_R_look_143 ?_
                refine lv_iload_n hx hb d_R_look_146 rfl (lv_at hl 0 rfl) ?_
                refine va_bald hx hb hK.1 (hP.one hM26.a4) 0 3 rfl ht3 (vp_in_nI hs (by decide)) d_R_look_147 ?_
                rw [nI_clamp (by omega)]
                rw [hkp2 4 (by decide) (by decide), hki, hj]
                refine lv_iconst (v := 3) hx hb d_R_look_148 (by decide) ?_
                refine lv_icmp_ne (tgt := 157) hx hb d_R_look_149 (by decide) (fun z => absurd rfl z) (fun _ => ?_)
                refine lv_bipush (v := 9) hx hb d_R_look_152 (by decide) ?_
                refine lv_goto (tgt := 159) hx hb d_R_look_154 (by decide) ?_
                refine lv_aload_n hx hb d_R_look_159 rfl (lv_at hl 2 rfl) ?_
                refine va_get (D := D) (ci := 5) (C := "StackRoomModel") (T := T_R) (N := 25) (v := .ref (adr 15)) hx hb ht in_R hown hK.1 (hP.one hM26.1) 0 rfl rfl 15 (by decide) (ht _ fl_R_R_rooms) (fun _ h9 => h9) rfl d_R_look_160 ?_
                refine lv_iload_n hx hb d_R_look_163 rfl (lv_at hl 0 rfl) ?_
                refine va_iald hx hb hK.1 (hP.one hM26.a15) 0 2 rfl ht2 (vp_in_nI hs (by decide)) d_R_look_164 ?_
                rw [nI_clamp (by omega)]
                rw [hkp2 15 (by decide) (by decide), hfx.2.2.2.2.2.1]
                refine lv_iadd hx hb d_R_look_165 ?_
                refine lv_iadd hx hb d_R_look_166 ?_
                refine gw_put (D := D) (cl := vwCl) (ci := 5) (C := "StackRoomModel") (T := T_R) (N := 25) (v := .int (o2 + (9 + (nI (s_rm σ i))))) (ty := .int) hx hb ht in_R ty_R tk_R nm_R hown hK.1 hP hS hM26.1 rfl 23 (by decide) (ht _ fl_R_R_reachedWords) (fun _ h9 => h9) rfl (by decide +kernel) rfl rfl (Nat.le_of_ble_eq_true rfl) d_R_look_167 (fun H locs hP hS => ?_)
                obtain ⟨G27, eG27⟩ : ∃ z : gw_G, z = va_up G26 x (some (.inr (5, [.int (nI w), .int (nI n), .int (nI md), .ref (adr 3), .ref (adr 4), .ref (adr 5), .ref (adr 6), .ref (adr 7), .ref (adr 8), .ref (adr 9), .ref (adr 10), .ref (adr 11), .ref (adr 12), .ref (adr 13), .ref (adr 14), .ref (adr 15), .ref (adr 16), .ref (adr 17), .int us, .ref (adr 19), .ref (adr 20), .int (nI L.length), .int (o1 + 1), .int (o2 + (9 + nI (s_rm σ i))), .int (o3 + 1)]))) := ⟨_, rfl⟩
                replace hP : gw_P D vwCl (gw_A G s.heap.size) G27 H := by rw [eG27]; exact hP
                have hM27 : m_Arr cI cB cZ x w n md adr (us) (nI L.length) (o1 + 1) (o2 + (9 + nI (s_rm σ i))) (o3 + 1) ar2 G27 := by rw [eG27]; exact hM26.own md (us) (nI L.length) (o1 + 1) (o2 + (9 + nI (s_rm σ i))) (o3 + 1)
                refine lv_aload_n hx hb d_R_look_170 rfl (lv_at hl 2 rfl) ?_
                refine lv_aload_n hx hb d_R_look_171 rfl (lv_at hl 2 rfl) ?_
                refine va_get (D := D) (ci := 5) (C := "StackRoomModel") (T := T_R) (N := 25) (v := .ref (adr 9)) hx hb ht in_R hown hK.1 (hP.one hM27.1) 0 rfl rfl 9 (by decide) (ht _ fl_R_R_senders) (fun _ h9 => h9) rfl d_R_look_172 ?_
                refine lv_iload_n hx hb d_R_look_175 rfl (lv_at hl 0 rfl) ?_
                refine va_iald hx hb hK.1 (hP.one hM27.a9) 0 2 rfl ht2 (vp_in_nI hs (by decide)) d_R_look_176 ?_
                rw [nI_clamp (by omega)]
                refine W.eq (g2 := F0 m 177 ls [.int (m_val sl ((s_sn σ i).map .inr)), .ref x]) (by rw [hkp2 9 (by decide) (by decide), hfx.1]) ?_
                have hv1 : ∀ j, ((s_sn σ i).map .inr : sV) = some (.inr j) → s_rch σ j := fun j e => s_rch_edge hri ⟨hc, Or.inl (sn_inr e)⟩
                refine g_callv hP hS hA (r_V (rest := []) C0 [.int (m_val sl ((s_sn σ i).map .inr))] (k_R_see l hM27 hQ2 hp2 hO hn4 hsl hinj ht2 ht3 ht4 (u := (s_sn σ i).map .inr) hv1 (fun a e => (sn_no e).elim)) ml_R_R_see im_R_see se_R_R_see_R ini_R co_R_see ⟨rfl, hd_R_see⟩ (g_preV (ci := 5) hK hP rfl hM27.1) hl.1 d_R_look_177 rfl rfl (Nat.le_of_ble_eq_true rfl) ⟨rfl, rfl⟩ ⟨Nat.le_of_ble_eq_true rfl, Nat.le_of_ble_eq_true rfl⟩ ⟨Nat.le_of_ble_eq_true rfl, Nat.le_of_ble_eq_true rfl⟩) (fun G207 H locs hq207 hP hS hz9 hk9 => ?_)
                clear hz9 hk9
                obtain ⟨ar207, hM207, hQ207, hkp207⟩ := hq207
                have hp3 := s_part_add hp2 hv1
                refine lv_aload_n hx hb d_R_look_180 rfl (lv_at hl 2 rfl) ?_
                refine lv_iconst (v := 2) hx hb d_R_look_181 (by decide) ?_
                refine lv_aload_n hx hb d_R_look_182 rfl (lv_at hl 2 rfl) ?_
                refine va_get (D := D) (ci := 5) (C := "StackRoomModel") (T := T_R) (N := 25) (v := .ref (adr 12)) hx hb ht in_R hown hK.1 (hP.one hM207.1) 0 rfl rfl 12 (by decide) (ht _ fl_R_R_links) (fun _ h9 => h9) rfl d_R_look_183 ?_
                refine lv_iload_n hx hb d_R_look_186 rfl (lv_at hl 0 rfl) ?_
                refine va_iald hx hb hK.1 (hP.one hM207.a12) 0 2 rfl ht2 (vp_in_nI hs (by decide)) d_R_look_187 ?_
                rw [nI_clamp (by omega)]
                rw [hkp207 12 (by decide) (by decide), hkp2 12 (by decide) (by decide), hfx.2.2.2.1]
                refine lv_imul hx hb d_R_look_188 ?_
                refine lv_iconst (v := 2) hx hb d_R_look_189 (by decide) ?_
                refine lv_iadd hx hb d_R_look_190 ?_
                refine W.eq (g2 := F0 m 191 ls [.int (m_val sl (some (.inr (s_og σ i)))), .ref x]) (by rw [m_lnk]; rfl) ?_
                have hv2 : ∀ j, (some (.inr (s_og σ i)) : sV) = some (.inr j) → s_rch σ j := fun j e => by cases e; exact s_rch_edge hri ⟨hc, Or.inr (Or.inl rfl)⟩
                refine g_callv hP hS hA (r_V (rest := []) C0 [.int (m_val sl (some (.inr (s_og σ i))))] (k_R_see l hM207 hQ207 hp3 hO hn4 hsl hinj ht2 ht3 ht4 (u := some (.inr (s_og σ i))) hv2 (fun a e => by cases e)) ml_R_R_see im_R_see se_R_R_see_R ini_R co_R_see ⟨rfl, hd_R_see⟩ (g_preV (ci := 5) hK hP rfl hM207.1) hl.1 d_R_look_191 rfl rfl (Nat.le_of_ble_eq_true rfl) ⟨rfl, rfl⟩ ⟨Nat.le_of_ble_eq_true rfl, Nat.le_of_ble_eq_true rfl⟩ ⟨Nat.le_of_ble_eq_true rfl, Nat.le_of_ble_eq_true rfl⟩) (fun G208 H locs hq208 hP hS hz9 hk9 => ?_)
                clear hz9 hk9
                obtain ⟨ar208, hM208, hQ208, hkp208⟩ := hq208
                refine lv_iconst (v := 0) hx hb d_R_look_194 (by decide) ?_
                refine lv_istore_n (lv' := [(3, .int 0), (2, .int (nI (sl i))), (1, .int (nI p3)), (0, .ref x)]) hx hb d_R_look_195 rfl hl (by decide) rfl (fun ls hl => ?_)
                obtain ⟨L2, eL2⟩ : ∃ z, z = s_add (s_add L ((s_sn σ i).map .inr)) (some (.inr (s_og σ i))) := ⟨_, rfl⟩
                obtain ⟨G4, eG4⟩ : ∃ z : gw_G, z = G208 := ⟨_, rfl⟩
                obtain ⟨ar4, ear4⟩ : ∃ z : Nat → Nat → Int32, z = ar208 := ⟨_, rfl⟩
                obtain ⟨b, eb⟩ : ∃ z : Nat, z = 0 := ⟨_, rfl⟩
                obtain ⟨f4, ef4⟩ : ∃ z : Nat, z = s_rm σ i := ⟨_, rfl⟩
                have inv4 : s_rm σ i ≤ b + f4 ∧ b ≤ s_rm σ i ∧ lv_has ls 4 [(3, .int (nI b)), (2, .int (nI (sl i))), (1, .int (nI p3)), (0, .ref x)] ∧ gw_P D vwCl (gw_A G s.heap.size) G4 H ∧ va_S (gw_A G s.heap.size) s.heap H locs ∧ m_Arr cI cB cZ x w n md adr us (nI L2.length) (o1 + 1) (o2 + (9 + nI (s_rm σ i))) (o3 + 1) ar4 G4 ∧ m_Q sl L2 ar4 ∧ s_part σ L2 ∧ (∃ M, L2 = L ++ M) ∧ (∀ k, s_sn σ i = some k → k ∈ L2) ∧ s_og σ i ∈ L2 ∧ (∀ k, k < b → ∀ a, s_fl σ i k = some (.inr a) → a ∈ L2) ∧ (∀ k, k ≠ 19 → k ≠ 20 → ar4 k = ar k) := by
                  refine ⟨by omega, by omega, by rw [eb]; exact lv_sub hl [0, 1, 2, 3] rfl, by rw [eG4]; exact hP, hS, by rw [eG4, ear4, eL2]; exact hM208, by rw [ear4, eL2]; exact hQ208, by rw [eL2]; exact s_part_add hp3 hv2, ?_, fun k hk => ?_, by rw [eL2]; exact s_add_in, fun k hk => absurd hk (by omega), fun k h1 h2 => by rw [ear4, hkp208 k h1 h2, hkp207 k h1 h2]; exact hkp2 k h1 h2⟩
                  · obtain ⟨M1, e1⟩ := s_add_pre L ((s_sn σ i).map .inr)
                    obtain ⟨M2, e2⟩ := s_add_pre (s_add L ((s_sn σ i).map .inr)) (some (.inr (s_og σ i)))
                    exact ⟨M1 ++ M2, by rw [eL2, e2, e1, List.append_assoc]⟩
                  · rw [eL2]
                    refine s_add_sub ?_
                    rw [hk]
                    exact s_add_in
                clear hl hP hS eL2 eG4 ear4 eb ef4
                induction f4 generalizing b ls H locs G4 ar4 L2
                case zero =>
                  obtain ⟨hf4, hbm, hl, hP, hS, hM4, hQ4, hp4, hpre, hsn4, hog4, hfl4, hkp4⟩ := inv4
                  refine lv_iload_n hx hb d_R_look_196 rfl (lv_at hl 0 rfl) ?_
                  refine lv_aload_n hx hb d_R_look_197 rfl (lv_at hl 3 rfl) ?_
                  refine va_get (D := D) (ci := 5) (C := "StackRoomModel") (T := T_R) (N := 25) (v := .ref (adr 15)) hx hb ht in_R hown hK.1 (hP.one hM4.1) 0 rfl rfl 15 (by decide) (ht _ fl_R_R_rooms) (fun _ h9 => h9) rfl d_R_look_198 ?_
                  refine lv_iload_n hx hb d_R_look_201 rfl (lv_at hl 1 rfl) ?_
                  refine va_iald hx hb hK.1 (hP.one hM4.a15) 0 2 rfl ht2 (vp_in_nI hs (by decide)) d_R_look_202 ?_
                  rw [nI_clamp (by omega)]
                  rw [hkp4 15 (by decide) (by decide), hfx.2.2.2.2.2.1]
                  refine lv_icmp_ge (tgt := 229) hx hb d_R_look_203 (by decide) (fun cb => ?_) (fun cb => ?_)
                  · have hgeb := (nI_leI (by omega) (by omega)).mp cb
                    refine lv_iinc (v := nI (p3 + 1)) (lv' := [(1, .int (nI (p3 + 1))), (3, .int (nI b)), (2, .int (nI (sl i))), (0, .ref x)]) hx hb d_R_look_229 hl (k := 2) rfl (by rw [← nI_1]; rfl) (by decide) rfl (fun ls hl => ?_)
                    refine lv_goto (tgt := 68) hx hb d_R_look_232 (by decide) ?_
                    obtain ⟨M, eM⟩ := hpre
                    have sub : ∀ a, a ∈ L → a ∈ L2 := fun a ha => by rw [eM]; exact List.mem_append_left _ ha
                    refine ih3 _ _ _ _ _ _ _ _ _ _ ⟨by omega, by rw [eM, List.length_append]; omega, lv_sub hl [0, 3] rfl, hP, hS, hM4, hQ4, hp4, fun k hk a ha => sub a (hroot k hk a ha), ?_, ?_, ?_, fun k c hk hc2 a ha => ?_, hkp4⟩
                    · rw [eM, s_sum_take hi, he1, show s_en σ i = 1 from s_enC hc, ← nI_add]; rfl
                    · rw [eM, s_sum_take hi, he2, s_wd3 hj, ← nI_add, ← nI_add]; rfl
                    · rw [eM, s_sum_take hi, he3, show s_cn σ i = 1 from if_neg (by omega), ← nI_add]; rfl
                    · have hk2 : k < L.length := by omega
                      rw [eM, List.getElem?_append_left hk2] at hc2
                      by_cases e : k = p3
                      · subst e
                        rw [hi] at hc2
                        cases hc2
                        rcases ha.2 with e | e | ⟨b9, hb1, e⟩
                        · exact hsn4 a e
                        · exact e ▸ hog4
                        · exact hfl4 b9 (by omega) a e
                      · exact sub a (hed k c (by omega) hc2 a ha)
                  · have hltb : b < s_rm σ i := Nat.not_le.mp (fun t => cb ((nI_leI (by omega) (by omega)).mpr t))
                    omega
                case succ f4 ih =>
                  obtain ⟨hf4, hbm, hl, hP, hS, hM4, hQ4, hp4, hpre, hsn4, hog4, hfl4, hkp4⟩ := inv4
                  refine lv_iload_n hx hb d_R_look_196 rfl (lv_at hl 0 rfl) ?_
                  refine lv_aload_n hx hb d_R_look_197 rfl (lv_at hl 3 rfl) ?_
                  refine va_get (D := D) (ci := 5) (C := "StackRoomModel") (T := T_R) (N := 25) (v := .ref (adr 15)) hx hb ht in_R hown hK.1 (hP.one hM4.1) 0 rfl rfl 15 (by decide) (ht _ fl_R_R_rooms) (fun _ h9 => h9) rfl d_R_look_198 ?_
                  refine lv_iload_n hx hb d_R_look_201 rfl (lv_at hl 1 rfl) ?_
                  refine va_iald hx hb hK.1 (hP.one hM4.a15) 0 2 rfl ht2 (vp_in_nI hs (by decide)) d_R_look_202 ?_
                  rw [nI_clamp (by omega)]
                  rw [hkp4 15 (by decide) (by decide), hfx.2.2.2.2.2.1]
                  refine lv_icmp_ge (tgt := 229) hx hb d_R_look_203 (by decide) (fun cb => ?_) (fun cb => ?_)
                  · have hgeb := (nI_leI (by omega) (by omega)).mp cb
                    refine lv_iinc (v := nI (p3 + 1)) (lv' := [(1, .int (nI (p3 + 1))), (3, .int (nI b)), (2, .int (nI (sl i))), (0, .ref x)]) hx hb d_R_look_229 hl (k := 2) rfl (by rw [← nI_1]; rfl) (by decide) rfl (fun ls hl => ?_)
                    refine lv_goto (tgt := 68) hx hb d_R_look_232 (by decide) ?_
                    obtain ⟨M, eM⟩ := hpre
                    have sub : ∀ a, a ∈ L → a ∈ L2 := fun a ha => by rw [eM]; exact List.mem_append_left _ ha
                    refine ih3 _ _ _ _ _ _ _ _ _ _ ⟨by omega, by rw [eM, List.length_append]; omega, lv_sub hl [0, 3] rfl, hP, hS, hM4, hQ4, hp4, fun k hk a ha => sub a (hroot k hk a ha), ?_, ?_, ?_, fun k c hk hc2 a ha => ?_, hkp4⟩
                    · rw [eM, s_sum_take hi, he1, show s_en σ i = 1 from s_enC hc, ← nI_add]; rfl
                    · rw [eM, s_sum_take hi, he2, s_wd3 hj, ← nI_add, ← nI_add]; rfl
                    · rw [eM, s_sum_take hi, he3, show s_cn σ i = 1 from if_neg (by omega), ← nI_add]; rfl
                    · have hk2 : k < L.length := by omega
                      rw [eM, List.getElem?_append_left hk2] at hc2
                      by_cases e : k = p3
                      · subst e
                        rw [hi] at hc2
                        cases hc2
                        rcases ha.2 with e | e | ⟨b9, hb1, e⟩
                        · exact hsn4 a e
                        · exact e ▸ hog4
                        · exact hfl4 b9 (by omega) a e
                      · exact sub a (hed k c (by omega) hc2 a ha)
                  · have hltb : b < s_rm σ i := Nat.not_le.mp (fun t => cb ((nI_leI (by omega) (by omega)).mpr t))
                    refine lv_aload_n hx hb d_R_look_206 rfl (lv_at hl 3 rfl) ?_
                    refine lv_aload_n hx hb d_R_look_207 rfl (lv_at hl 3 rfl) ?_
                    refine va_get (D := D) (ci := 5) (C := "StackRoomModel") (T := T_R) (N := 25) (v := .ref (adr 16)) hx hb ht in_R hown hK.1 (hP.one hM4.1) 0 rfl rfl 16 (by decide) (ht _ fl_R_R_fields) (fun _ h9 => h9) rfl d_R_look_208 ?_
                    refine lv_aload_n hx hb d_R_look_211 rfl (lv_at hl 3 rfl) ?_
                    refine va_get (D := D) (ci := 5) (C := "StackRoomModel") (T := T_R) (N := 25) (v := .ref (adr 14)) hx hb ht in_R hown hK.1 (hP.one hM4.1) 0 rfl rfl 14 (by decide) (ht _ fl_R_R_begins) (fun _ h9 => h9) rfl d_R_look_212 ?_
                    refine lv_iload_n hx hb d_R_look_215 rfl (lv_at hl 1 rfl) ?_
                    refine va_iald hx hb hK.1 (hP.one hM4.a14) 0 2 rfl ht2 (vp_in_nI hs (by decide)) d_R_look_216 ?_
                    rw [nI_clamp (by omega), hkp4 14 (by decide) (by decide), hfx.2.2.2.2.1]
                    refine lv_iload_n hx hb d_R_look_217 rfl (lv_at hl 0 rfl) ?_
                    refine lv_iadd hx hb d_R_look_218 ?_
                    refine W.eq (g2 := F0 m 219 ls [.int (nI (bg i + b)), .ref (adr 16), .ref x]) (by rw [← nI_add]) ?_
                    refine va_iald hx hb hK.1 (hP.one hM4.a16) 0 2 rfl ht2 (vp_in_nI (by omega) (by decide)) d_R_look_219 ?_
                    rw [nI_clamp (by omega), hkp4 16 (by decide) (by decide), hE.2.2.2.2.2.1 i hri hc b hltb]
                    have hv3 : ∀ a, s_fl σ i b = some (.inr a) → s_rch σ a := fun a e => s_rch_edge hri ⟨hc, Or.inr (Or.inr ⟨b, hltb, e⟩)⟩
                    refine g_callv hP hS hA (r_V (rest := []) C0 [.int (m_val sl (s_fl σ i b))] (k_R_see l hM4 hQ4 hp4 hO hn4 hsl hinj ht2 ht3 ht4 (u := s_fl σ i b) hv3 (fun a e => hV.2 i hc b hltb a e)) ml_R_R_see im_R_see se_R_R_see_R ini_R co_R_see ⟨rfl, hd_R_see⟩ (g_preV (ci := 5) hK hP rfl hM4.1) hl.1 d_R_look_220 rfl rfl (Nat.le_of_ble_eq_true rfl) ⟨rfl, rfl⟩ ⟨Nat.le_of_ble_eq_true rfl, Nat.le_of_ble_eq_true rfl⟩ ⟨Nat.le_of_ble_eq_true rfl, Nat.le_of_ble_eq_true rfl⟩) (fun G209 H locs hq209 hP hS hz9 hk9 => ?_)
                    clear hz9 hk9
                    obtain ⟨ar209, hM209, hQ209, hkp209⟩ := hq209
                    refine lv_iinc (v := nI (b + 1)) (lv' := [(3, .int (nI (b + 1))), (2, .int (nI (sl i))), (1, .int (nI p3)), (0, .ref x)]) hx hb d_R_look_223 hl (k := 0) rfl (by rw [← nI_1]; rfl) (by decide) rfl (fun ls hl => ?_)
                    refine lv_goto (tgt := 196) hx hb d_R_look_226 (by decide) ?_
                    refine ih _ _ _ _ _ _ _ ⟨by omega, by omega, lv_sub hl [0, 1, 2, 3] rfl, hP, hS, hM209, hQ209, s_part_add hp4 hv3, ?_, fun k hk => s_add_sub (hsn4 k hk), s_add_sub hog4, fun k hk a ha => ?_, fun k h1 h2 => by rw [hkp209 k h1 h2]; exact hkp4 k h1 h2⟩
                    · obtain ⟨M1, e1⟩ := hpre
                      obtain ⟨M2, e2⟩ := s_add_pre L2 (s_fl σ i b)
                      exact ⟨M1 ++ M2, by rw [e2, e1, List.append_assoc]⟩
                    · by_cases e : k = b
                      · subst e
                        rw [ha]
                        exact s_add_in
                      · exact s_add_sub (hfl4 k (by omega) a ha)
              · have hc : s_isC σ i := Or.inr hj
                have hfx := hE.2.2.2.1 i hri hc
                have hb94 := (hO.1.2.2.2.2.2.2 i hc).2.2.1
                have hU := hE.2.2.2.2.2.2.2.2
                rw [hj]
                refine lv_iconst (v := 2) hx hb d_R_look_89 (by decide) ?_
                refine lv_icmp_ne (tgt := 117) hx hb d_R_look_90 (by decide) (fun _ => ?_) (fun z => absurd z (by decide))
                refine lv_aload_n hx hb d_R_look_117 rfl (lv_at hl 2 rfl) ?_
                refine lv_dup hx hb d_R_look_118 rfl ?_
                refine va_get (D := D) (ci := 5) (C := "StackRoomModel") (T := T_R) (N := 25) (v := .int o1) hx hb ht in_R hown hK.1 (hP.one hM2.1) 0 rfl rfl 22 (by decide) (ht _ fl_R_R_reachedObjects) (fun _ h9 => h9) rfl d_R_look_119 ?_
                refine lv_iconst (v := 1) hx hb d_R_look_122 (by decide) ?_
                refine lv_iadd hx hb d_R_look_123 ?_
                refine gw_put (D := D) (cl := vwCl) (ci := 5) (C := "StackRoomModel") (T := T_R) (N := 25) (v := .int (o1 + 1)) (ty := .int) hx hb ht in_R ty_R tk_R nm_R hown hK.1 hP hS hM2.1 rfl 22 (by decide) (ht _ fl_R_R_reachedObjects) (fun _ h9 => h9) rfl (by decide +kernel) rfl rfl (Nat.le_of_ble_eq_true rfl) d_R_look_124 (fun H locs hP hS => ?_)
                obtain ⟨G28, eG28⟩ : ∃ z : gw_G, z = va_up G2 x (some (.inr (5, [.int (nI w), .int (nI n), .int (nI md), .ref (adr 3), .ref (adr 4), .ref (adr 5), .ref (adr 6), .ref (adr 7), .ref (adr 8), .ref (adr 9), .ref (adr 10), .ref (adr 11), .ref (adr 12), .ref (adr 13), .ref (adr 14), .ref (adr 15), .ref (adr 16), .ref (adr 17), .int us, .ref (adr 19), .ref (adr 20), .int (nI L.length), .int (o1 + 1), .int o2, .int o3]))) := ⟨_, rfl⟩
                replace hP : gw_P D vwCl (gw_A G s.heap.size) G28 H := by rw [eG28]; exact hP
                have hM28 : m_Arr cI cB cZ x w n md adr (us) (nI L.length) (o1 + 1) (o2) (o3) ar2 G28 := by rw [eG28]; exact hM2.own md (us) (nI L.length) (o1 + 1) (o2) (o3)
                refine lv_aload_n hx hb d_R_look_127 rfl (lv_at hl 2 rfl) ?_
                refine lv_dup hx hb d_R_look_128 rfl ?_
                refine va_get (D := D) (ci := 5) (C := "StackRoomModel") (T := T_R) (N := 25) (v := .int o3) hx hb ht in_R hown hK.1 (hP.one hM28.1) 0 rfl rfl 24 (by decide) (ht _ fl_R_R_reachedContexts) (fun _ h9 => h9) rfl d_R_look_129 ?_
                refine lv_iconst (v := 1) hx hb d_R_look_132 (by decide) ?_
                refine lv_iadd hx hb d_R_look_133 ?_
                refine gw_put (D := D) (cl := vwCl) (ci := 5) (C := "StackRoomModel") (T := T_R) (N := 25) (v := .int (o3 + 1)) (ty := .int) hx hb ht in_R ty_R tk_R nm_R hown hK.1 hP hS hM28.1 rfl 24 (by decide) (ht _ fl_R_R_reachedContexts) (fun _ h9 => h9) rfl (by decide +kernel) rfl rfl (Nat.le_of_ble_eq_true rfl) d_R_look_134 (fun H locs hP hS => ?_)
                obtain ⟨G29, eG29⟩ : ∃ z : gw_G, z = va_up G28 x (some (.inr (5, [.int (nI w), .int (nI n), .int (nI md), .ref (adr 3), .ref (adr 4), .ref (adr 5), .ref (adr 6), .ref (adr 7), .ref (adr 8), .ref (adr 9), .ref (adr 10), .ref (adr 11), .ref (adr 12), .ref (adr 13), .ref (adr 14), .ref (adr 15), .ref (adr 16), .ref (adr 17), .int us, .ref (adr 19), .ref (adr 20), .int (nI L.length), .int (o1 + 1), .int o2, .int (o3 + 1)]))) := ⟨_, rfl⟩
                replace hP : gw_P D vwCl (gw_A G s.heap.size) G29 H := by rw [eG29]; exact hP
                have hM29 : m_Arr cI cB cZ x w n md adr (us) (nI L.length) (o1 + 1) (o2) (o3 + 1) ar2 G29 := by rw [eG29]; exact hM28.own md (us) (nI L.length) (o1 + 1) (o2) (o3 + 1)
                refine lv_aload_n hx hb d_R_look_137 rfl (lv_at hl 2 rfl) ?_
                refine lv_dup hx hb d_R_look_138 rfl ?_
                refine va_get (D := D) (ci := 5) (C := "StackRoomModel") (T := T_R) (N := 25) (v := .int o2) hx hb ht in_R hown hK.1 (hP.one hM29.1) 0 rfl rfl 23 (by decide) (ht _ fl_R_R_reachedWords) (fun _ h9 => h9) rfl d_R_look_139 ?_
                refine lv_aload_n hx hb d_R_look_142 rfl (lv_at hl 2 rfl) ?_
                refine va_get (D := D) (ci := 5) (C := "StackRoomModel") (T := T_R) (N := 25) (v := .ref (adr 4)) hx hb ht in_R hown hK.1 (hP.one hM29.1) 0 rfl rfl 4 (by decide) (ht _ fl_R_R_kinds) (fun _ h9 => h9) rfl d_R_look_143 ?_
                refine lv_iload_n hx hb d_R_look_146 rfl (lv_at hl 0 rfl) ?_
                refine va_bald hx hb hK.1 (hP.one hM29.a4) 0 3 rfl ht3 (vp_in_nI hs (by decide)) d_R_look_147 ?_
                rw [nI_clamp (by omega)]
                rw [hkp2 4 (by decide) (by decide), hki, hj]
                refine lv_iconst (v := 3) hx hb d_R_look_148 (by decide) ?_
                refine lv_icmp_ne (tgt := 157) hx hb d_R_look_149 (by decide) (fun _ => ?_) (fun z => absurd z (by decide))
                refine lv_bipush (v := 10) hx hb d_R_look_157 (by decide) ?_
                refine lv_aload_n hx hb d_R_look_159 rfl (lv_at hl 2 rfl) ?_
                refine va_get (D := D) (ci := 5) (C := "StackRoomModel") (T := T_R) (N := 25) (v := .ref (adr 15)) hx hb ht in_R hown hK.1 (hP.one hM29.1) 0 rfl rfl 15 (by decide) (ht _ fl_R_R_rooms) (fun _ h9 => h9) rfl d_R_look_160 ?_
                refine lv_iload_n hx hb d_R_look_163 rfl (lv_at hl 0 rfl) ?_
                refine va_iald hx hb hK.1 (hP.one hM29.a15) 0 2 rfl ht2 (vp_in_nI hs (by decide)) d_R_look_164 ?_
                rw [nI_clamp (by omega)]
                rw [hkp2 15 (by decide) (by decide), hfx.2.2.2.2.2.1]
                refine lv_iadd hx hb d_R_look_165 ?_
                refine lv_iadd hx hb d_R_look_166 ?_
                refine gw_put (D := D) (cl := vwCl) (ci := 5) (C := "StackRoomModel") (T := T_R) (N := 25) (v := .int (o2 + (10 + (nI (s_rm σ i))))) (ty := .int) hx hb ht in_R ty_R tk_R nm_R hown hK.1 hP hS hM29.1 rfl 23 (by decide) (ht _ fl_R_R_reachedWords) (fun _ h9 => h9) rfl (by decide +kernel) rfl rfl (Nat.le_of_ble_eq_true rfl) d_R_look_167 (fun H locs hP hS => ?_)
                obtain ⟨G30, eG30⟩ : ∃ z : gw_G, z = va_up G29 x (some (.inr (5, [.int (nI w), .int (nI n), .int (nI md), .ref (adr 3), .ref (adr 4), .ref (adr 5), .ref (adr 6), .ref (adr 7), .ref (adr 8), .ref (adr 9), .ref (adr 10), .ref (adr 11), .ref (adr 12), .ref (adr 13), .ref (adr 14), .ref (adr 15), .ref (adr 16), .ref (adr 17), .int us, .ref (adr 19), .ref (adr 20), .int (nI L.length), .int (o1 + 1), .int (o2 + (10 + nI (s_rm σ i))), .int (o3 + 1)]))) := ⟨_, rfl⟩
                replace hP : gw_P D vwCl (gw_A G s.heap.size) G30 H := by rw [eG30]; exact hP
                have hM30 : m_Arr cI cB cZ x w n md adr (us) (nI L.length) (o1 + 1) (o2 + (10 + nI (s_rm σ i))) (o3 + 1) ar2 G30 := by rw [eG30]; exact hM29.own md (us) (nI L.length) (o1 + 1) (o2 + (10 + nI (s_rm σ i))) (o3 + 1)
                refine lv_aload_n hx hb d_R_look_170 rfl (lv_at hl 2 rfl) ?_
                refine lv_aload_n hx hb d_R_look_171 rfl (lv_at hl 2 rfl) ?_
                refine va_get (D := D) (ci := 5) (C := "StackRoomModel") (T := T_R) (N := 25) (v := .ref (adr 9)) hx hb ht in_R hown hK.1 (hP.one hM30.1) 0 rfl rfl 9 (by decide) (ht _ fl_R_R_senders) (fun _ h9 => h9) rfl d_R_look_172 ?_
                refine lv_iload_n hx hb d_R_look_175 rfl (lv_at hl 0 rfl) ?_
                refine va_iald hx hb hK.1 (hP.one hM30.a9) 0 2 rfl ht2 (vp_in_nI hs (by decide)) d_R_look_176 ?_
                rw [nI_clamp (by omega)]
                refine W.eq (g2 := F0 m 177 ls [.int (m_val sl ((s_sn σ i).map .inr)), .ref x]) (by rw [hkp2 9 (by decide) (by decide), hfx.1]) ?_
                have hv1 : ∀ j, ((s_sn σ i).map .inr : sV) = some (.inr j) → s_rch σ j := fun j e => s_rch_edge hri ⟨hc, Or.inl (sn_inr e)⟩
                refine g_callv hP hS hA (r_V (rest := []) C0 [.int (m_val sl ((s_sn σ i).map .inr))] (k_R_see l hM30 hQ2 hp2 hO hn4 hsl hinj ht2 ht3 ht4 (u := (s_sn σ i).map .inr) hv1 (fun a e => (sn_no e).elim)) ml_R_R_see im_R_see se_R_R_see_R ini_R co_R_see ⟨rfl, hd_R_see⟩ (g_preV (ci := 5) hK hP rfl hM30.1) hl.1 d_R_look_177 rfl rfl (Nat.le_of_ble_eq_true rfl) ⟨rfl, rfl⟩ ⟨Nat.le_of_ble_eq_true rfl, Nat.le_of_ble_eq_true rfl⟩ ⟨Nat.le_of_ble_eq_true rfl, Nat.le_of_ble_eq_true rfl⟩) (fun G210 H locs hq210 hP hS hz9 hk9 => ?_)
                clear hz9 hk9
                obtain ⟨ar210, hM210, hQ210, hkp210⟩ := hq210
                have hp3 := s_part_add hp2 hv1
                refine lv_aload_n hx hb d_R_look_180 rfl (lv_at hl 2 rfl) ?_
                refine lv_iconst (v := 2) hx hb d_R_look_181 (by decide) ?_
                refine lv_aload_n hx hb d_R_look_182 rfl (lv_at hl 2 rfl) ?_
                refine va_get (D := D) (ci := 5) (C := "StackRoomModel") (T := T_R) (N := 25) (v := .ref (adr 12)) hx hb ht in_R hown hK.1 (hP.one hM210.1) 0 rfl rfl 12 (by decide) (ht _ fl_R_R_links) (fun _ h9 => h9) rfl d_R_look_183 ?_
                refine lv_iload_n hx hb d_R_look_186 rfl (lv_at hl 0 rfl) ?_
                refine va_iald hx hb hK.1 (hP.one hM210.a12) 0 2 rfl ht2 (vp_in_nI hs (by decide)) d_R_look_187 ?_
                rw [nI_clamp (by omega)]
                rw [hkp210 12 (by decide) (by decide), hkp2 12 (by decide) (by decide), hfx.2.2.2.1]
                refine lv_imul hx hb d_R_look_188 ?_
                refine lv_iconst (v := 2) hx hb d_R_look_189 (by decide) ?_
                refine lv_iadd hx hb d_R_look_190 ?_
                refine W.eq (g2 := F0 m 191 ls [.int (m_val sl (some (.inr (s_og σ i)))), .ref x]) (by rw [m_lnk]; rfl) ?_
                have hv2 : ∀ j, (some (.inr (s_og σ i)) : sV) = some (.inr j) → s_rch σ j := fun j e => by cases e; exact s_rch_edge hri ⟨hc, Or.inr (Or.inl rfl)⟩
                refine g_callv hP hS hA (r_V (rest := []) C0 [.int (m_val sl (some (.inr (s_og σ i))))] (k_R_see l hM210 hQ210 hp3 hO hn4 hsl hinj ht2 ht3 ht4 (u := some (.inr (s_og σ i))) hv2 (fun a e => by cases e)) ml_R_R_see im_R_see se_R_R_see_R ini_R co_R_see ⟨rfl, hd_R_see⟩ (g_preV (ci := 5) hK hP rfl hM210.1) hl.1 d_R_look_191 rfl rfl (Nat.le_of_ble_eq_true rfl) ⟨rfl, rfl⟩ ⟨Nat.le_of_ble_eq_true rfl, Nat.le_of_ble_eq_true rfl⟩ ⟨Nat.le_of_ble_eq_true rfl, Nat.le_of_ble_eq_true rfl⟩) (fun G211 H locs hq211 hP hS hz9 hk9 => ?_)
                clear hz9 hk9
                obtain ⟨ar211, hM211, hQ211, hkp211⟩ := hq211
                refine lv_iconst (v := 0) hx hb d_R_look_194 (by decide) ?_
                refine lv_istore_n (lv' := [(3, .int 0), (2, .int (nI (sl i))), (1, .int (nI p3)), (0, .ref x)]) hx hb d_R_look_195 rfl hl (by decide) rfl (fun ls hl => ?_)
                obtain ⟨L2, eL2⟩ : ∃ z, z = s_add (s_add L ((s_sn σ i).map .inr)) (some (.inr (s_og σ i))) := ⟨_, rfl⟩
                obtain ⟨G4, eG4⟩ : ∃ z : gw_G, z = G211 := ⟨_, rfl⟩
                obtain ⟨ar4, ear4⟩ : ∃ z : Nat → Nat → Int32, z = ar211 := ⟨_, rfl⟩
                obtain ⟨b, eb⟩ : ∃ z : Nat, z = 0 := ⟨_, rfl⟩
                obtain ⟨f4, ef4⟩ : ∃ z : Nat, z = s_rm σ i := ⟨_, rfl⟩
                have inv4 : s_rm σ i ≤ b + f4 ∧ b ≤ s_rm σ i ∧ lv_has ls 4 [(3, .int (nI b)), (2, .int (nI (sl i))), (1, .int (nI p3)), (0, .ref x)] ∧ gw_P D vwCl (gw_A G s.heap.size) G4 H ∧ va_S (gw_A G s.heap.size) s.heap H locs ∧ m_Arr cI cB cZ x w n md adr us (nI L2.length) (o1 + 1) (o2 + (10 + nI (s_rm σ i))) (o3 + 1) ar4 G4 ∧ m_Q sl L2 ar4 ∧ s_part σ L2 ∧ (∃ M, L2 = L ++ M) ∧ (∀ k, s_sn σ i = some k → k ∈ L2) ∧ s_og σ i ∈ L2 ∧ (∀ k, k < b → ∀ a, s_fl σ i k = some (.inr a) → a ∈ L2) ∧ (∀ k, k ≠ 19 → k ≠ 20 → ar4 k = ar k) := by
                  refine ⟨by omega, by omega, by rw [eb]; exact lv_sub hl [0, 1, 2, 3] rfl, by rw [eG4]; exact hP, hS, by rw [eG4, ear4, eL2]; exact hM211, by rw [ear4, eL2]; exact hQ211, by rw [eL2]; exact s_part_add hp3 hv2, ?_, fun k hk => ?_, by rw [eL2]; exact s_add_in, fun k hk => absurd hk (by omega), fun k h1 h2 => by rw [ear4, hkp211 k h1 h2, hkp210 k h1 h2]; exact hkp2 k h1 h2⟩
                  · obtain ⟨M1, e1⟩ := s_add_pre L ((s_sn σ i).map .inr)
                    obtain ⟨M2, e2⟩ := s_add_pre (s_add L ((s_sn σ i).map .inr)) (some (.inr (s_og σ i)))
                    exact ⟨M1 ++ M2, by rw [eL2, e2, e1, List.append_assoc]⟩
                  · rw [eL2]
                    refine s_add_sub ?_
                    rw [hk]
                    exact s_add_in
                clear hl hP hS eL2 eG4 ear4 eb ef4
                induction f4 generalizing b ls H locs G4 ar4 L2
                case zero =>
                  obtain ⟨hf4, hbm, hl, hP, hS, hM4, hQ4, hp4, hpre, hsn4, hog4, hfl4, hkp4⟩ := inv4
                  refine lv_iload_n hx hb d_R_look_196 rfl (lv_at hl 0 rfl) ?_
                  refine lv_aload_n hx hb d_R_look_197 rfl (lv_at hl 3 rfl) ?_
                  refine va_get (D := D) (ci := 5) (C := "StackRoomModel") (T := T_R) (N := 25) (v := .ref (adr 15)) hx hb ht in_R hown hK.1 (hP.one hM4.1) 0 rfl rfl 15 (by decide) (ht _ fl_R_R_rooms) (fun _ h9 => h9) rfl d_R_look_198 ?_
                  refine lv_iload_n hx hb d_R_look_201 rfl (lv_at hl 1 rfl) ?_
                  refine va_iald hx hb hK.1 (hP.one hM4.a15) 0 2 rfl ht2 (vp_in_nI hs (by decide)) d_R_look_202 ?_
                  rw [nI_clamp (by omega)]
                  rw [hkp4 15 (by decide) (by decide), hfx.2.2.2.2.2.1]
                  refine lv_icmp_ge (tgt := 229) hx hb d_R_look_203 (by decide) (fun cb => ?_) (fun cb => ?_)
                  · have hgeb := (nI_leI (by omega) (by omega)).mp cb
                    refine lv_iinc (v := nI (p3 + 1)) (lv' := [(1, .int (nI (p3 + 1))), (3, .int (nI b)), (2, .int (nI (sl i))), (0, .ref x)]) hx hb d_R_look_229 hl (k := 2) rfl (by rw [← nI_1]; rfl) (by decide) rfl (fun ls hl => ?_)
                    refine lv_goto (tgt := 68) hx hb d_R_look_232 (by decide) ?_
                    obtain ⟨M, eM⟩ := hpre
                    have sub : ∀ a, a ∈ L → a ∈ L2 := fun a ha => by rw [eM]; exact List.mem_append_left _ ha
                    refine ih3 _ _ _ _ _ _ _ _ _ _ ⟨by omega, by rw [eM, List.length_append]; omega, lv_sub hl [0, 3] rfl, hP, hS, hM4, hQ4, hp4, fun k hk a ha => sub a (hroot k hk a ha), ?_, ?_, ?_, fun k c hk hc2 a ha => ?_, hkp4⟩
                    · rw [eM, s_sum_take hi, he1, show s_en σ i = 1 from s_enC hc, ← nI_add]; rfl
                    · rw [eM, s_sum_take hi, he2, s_wd4 hj, ← nI_add, ← nI_add]; rfl
                    · rw [eM, s_sum_take hi, he3, show s_cn σ i = 1 from if_neg (by omega), ← nI_add]; rfl
                    · have hk2 : k < L.length := by omega
                      rw [eM, List.getElem?_append_left hk2] at hc2
                      by_cases e : k = p3
                      · subst e
                        rw [hi] at hc2
                        cases hc2
                        rcases ha.2 with e | e | ⟨b9, hb1, e⟩
                        · exact hsn4 a e
                        · exact e ▸ hog4
                        · exact hfl4 b9 (by omega) a e
                      · exact sub a (hed k c (by omega) hc2 a ha)
                  · have hltb : b < s_rm σ i := Nat.not_le.mp (fun t => cb ((nI_leI (by omega) (by omega)).mpr t))
                    omega
                case succ f4 ih =>
                  obtain ⟨hf4, hbm, hl, hP, hS, hM4, hQ4, hp4, hpre, hsn4, hog4, hfl4, hkp4⟩ := inv4
                  refine lv_iload_n hx hb d_R_look_196 rfl (lv_at hl 0 rfl) ?_
                  refine lv_aload_n hx hb d_R_look_197 rfl (lv_at hl 3 rfl) ?_
                  refine va_get (D := D) (ci := 5) (C := "StackRoomModel") (T := T_R) (N := 25) (v := .ref (adr 15)) hx hb ht in_R hown hK.1 (hP.one hM4.1) 0 rfl rfl 15 (by decide) (ht _ fl_R_R_rooms) (fun _ h9 => h9) rfl d_R_look_198 ?_
                  refine lv_iload_n hx hb d_R_look_201 rfl (lv_at hl 1 rfl) ?_
                  refine va_iald hx hb hK.1 (hP.one hM4.a15) 0 2 rfl ht2 (vp_in_nI hs (by decide)) d_R_look_202 ?_
                  rw [nI_clamp (by omega)]
                  rw [hkp4 15 (by decide) (by decide), hfx.2.2.2.2.2.1]
                  refine lv_icmp_ge (tgt := 229) hx hb d_R_look_203 (by decide) (fun cb => ?_) (fun cb => ?_)
                  · have hgeb := (nI_leI (by omega) (by omega)).mp cb
                    refine lv_iinc (v := nI (p3 + 1)) (lv' := [(1, .int (nI (p3 + 1))), (3, .int (nI b)), (2, .int (nI (sl i))), (0, .ref x)]) hx hb d_R_look_229 hl (k := 2) rfl (by rw [← nI_1]; rfl) (by decide) rfl (fun ls hl => ?_)
                    refine lv_goto (tgt := 68) hx hb d_R_look_232 (by decide) ?_
                    obtain ⟨M, eM⟩ := hpre
                    have sub : ∀ a, a ∈ L → a ∈ L2 := fun a ha => by rw [eM]; exact List.mem_append_left _ ha
                    refine ih3 _ _ _ _ _ _ _ _ _ _ ⟨by omega, by rw [eM, List.length_append]; omega, lv_sub hl [0, 3] rfl, hP, hS, hM4, hQ4, hp4, fun k hk a ha => sub a (hroot k hk a ha), ?_, ?_, ?_, fun k c hk hc2 a ha => ?_, hkp4⟩
                    · rw [eM, s_sum_take hi, he1, show s_en σ i = 1 from s_enC hc, ← nI_add]; rfl
                    · rw [eM, s_sum_take hi, he2, s_wd4 hj, ← nI_add, ← nI_add]; rfl
                    · rw [eM, s_sum_take hi, he3, show s_cn σ i = 1 from if_neg (by omega), ← nI_add]; rfl
                    · have hk2 : k < L.length := by omega
                      rw [eM, List.getElem?_append_left hk2] at hc2
                      by_cases e : k = p3
                      · subst e
                        rw [hi] at hc2
                        cases hc2
                        rcases ha.2 with e | e | ⟨b9, hb1, e⟩
                        · exact hsn4 a e
                        · exact e ▸ hog4
                        · exact hfl4 b9 (by omega) a e
                      · exact sub a (hed k c (by omega) hc2 a ha)
                  · have hltb : b < s_rm σ i := Nat.not_le.mp (fun t => cb ((nI_leI (by omega) (by omega)).mpr t))
                    refine lv_aload_n hx hb d_R_look_206 rfl (lv_at hl 3 rfl) ?_
                    refine lv_aload_n hx hb d_R_look_207 rfl (lv_at hl 3 rfl) ?_
                    refine va_get (D := D) (ci := 5) (C := "StackRoomModel") (T := T_R) (N := 25) (v := .ref (adr 16)) hx hb ht in_R hown hK.1 (hP.one hM4.1) 0 rfl rfl 16 (by decide) (ht _ fl_R_R_fields) (fun _ h9 => h9) rfl d_R_look_208 ?_
                    refine lv_aload_n hx hb d_R_look_211 rfl (lv_at hl 3 rfl) ?_
                    refine va_get (D := D) (ci := 5) (C := "StackRoomModel") (T := T_R) (N := 25) (v := .ref (adr 14)) hx hb ht in_R hown hK.1 (hP.one hM4.1) 0 rfl rfl 14 (by decide) (ht _ fl_R_R_begins) (fun _ h9 => h9) rfl d_R_look_212 ?_
                    refine lv_iload_n hx hb d_R_look_215 rfl (lv_at hl 1 rfl) ?_
                    refine va_iald hx hb hK.1 (hP.one hM4.a14) 0 2 rfl ht2 (vp_in_nI hs (by decide)) d_R_look_216 ?_
                    rw [nI_clamp (by omega), hkp4 14 (by decide) (by decide), hfx.2.2.2.2.1]
                    refine lv_iload_n hx hb d_R_look_217 rfl (lv_at hl 0 rfl) ?_
                    refine lv_iadd hx hb d_R_look_218 ?_
                    refine W.eq (g2 := F0 m 219 ls [.int (nI (bg i + b)), .ref (adr 16), .ref x]) (by rw [← nI_add]) ?_
                    refine va_iald hx hb hK.1 (hP.one hM4.a16) 0 2 rfl ht2 (vp_in_nI (by omega) (by decide)) d_R_look_219 ?_
                    rw [nI_clamp (by omega), hkp4 16 (by decide) (by decide), hE.2.2.2.2.2.1 i hri hc b hltb]
                    have hv3 : ∀ a, s_fl σ i b = some (.inr a) → s_rch σ a := fun a e => s_rch_edge hri ⟨hc, Or.inr (Or.inr ⟨b, hltb, e⟩)⟩
                    refine g_callv hP hS hA (r_V (rest := []) C0 [.int (m_val sl (s_fl σ i b))] (k_R_see l hM4 hQ4 hp4 hO hn4 hsl hinj ht2 ht3 ht4 (u := s_fl σ i b) hv3 (fun a e => hV.2 i hc b hltb a e)) ml_R_R_see im_R_see se_R_R_see_R ini_R co_R_see ⟨rfl, hd_R_see⟩ (g_preV (ci := 5) hK hP rfl hM4.1) hl.1 d_R_look_220 rfl rfl (Nat.le_of_ble_eq_true rfl) ⟨rfl, rfl⟩ ⟨Nat.le_of_ble_eq_true rfl, Nat.le_of_ble_eq_true rfl⟩ ⟨Nat.le_of_ble_eq_true rfl, Nat.le_of_ble_eq_true rfl⟩) (fun G212 H locs hq212 hP hS hz9 hk9 => ?_)
                    clear hz9 hk9
                    obtain ⟨ar212, hM212, hQ212, hkp212⟩ := hq212
                    refine lv_iinc (v := nI (b + 1)) (lv' := [(3, .int (nI (b + 1))), (2, .int (nI (sl i))), (1, .int (nI p3)), (0, .ref x)]) hx hb d_R_look_223 hl (k := 0) rfl (by rw [← nI_1]; rfl) (by decide) rfl (fun ls hl => ?_)
                    refine lv_goto (tgt := 196) hx hb d_R_look_226 (by decide) ?_
                    refine ih _ _ _ _ _ _ _ ⟨by omega, by omega, lv_sub hl [0, 1, 2, 3] rfl, hP, hS, hM212, hQ212, s_part_add hp4 hv3, ?_, fun k hk => s_add_sub (hsn4 k hk), s_add_sub hog4, fun k hk a ha => ?_, fun k h1 h2 => by rw [hkp212 k h1 h2]; exact hkp4 k h1 h2⟩
                    · obtain ⟨M1, e1⟩ := hpre
                      obtain ⟨M2, e2⟩ := s_add_pre L2 (s_fl σ i b)
                      exact ⟨M1 ++ M2, by rw [e2, e1, List.append_assoc]⟩
                    · by_cases e : k = b
                      · subst e
                        rw [ha]
                        exact s_add_in
                      · exact s_add_sub (hfl4 k (by omega) a ha)
        · have hlt : q < 16 := Nat.not_le.mp (fun t => cq (show nI 16 ≤ nI q from (nI_leI (by omega) (by omega)).mpr t))
          refine lv_aload_n hx hb d_R_look_50 rfl (lv_at hl 1 rfl) ?_
          refine lv_aload_n hx hb d_R_look_51 rfl (lv_at hl 1 rfl) ?_
          refine va_get (D := D) (ci := 5) (C := "StackRoomModel") (T := T_R) (N := 25) (v := .ref (adr 3)) hx hb ht in_R hown hK.1 (hP.one hM2.1) 0 rfl rfl 3 (by decide) (ht _ fl_R_R_registers) (fun _ h9 => h9) rfl d_R_look_52 ?_
          refine lv_iload_n hx hb d_R_look_55 rfl (lv_at hl 0 rfl) ?_
          refine va_iald hx hb hK.1 (hP.one hM2.a3) 0 2 rfl ht2 (vp_in_nI hlt (by decide)) d_R_look_56 ?_
          rw [nI_clamp (by omega)]
          refine W.eq (g2 := F0 m 57 ls [.int (m_val sl (s_rg σ q)), .ref x]) (by rw [hkp2 3 (by decide) (by decide), hE.1 q hlt]) ?_
          refine g_callv hP hS hA (r_V (rest := []) C0 [.int (m_val sl (s_rg σ q))] (k_R_see l hM2 hQ2 hp2 hO hn4 hsl hinj ht2 ht3 ht4 (u := s_rg σ q) (fun i e => s_rch_root hlt e) (s_hu hV hlt)) ml_R_R_see im_R_see se_R_R_see_R ini_R co_R_see ⟨rfl, hd_R_see⟩ (g_preV (ci := 5) hK hP rfl hM2.1) hl.1 d_R_look_57 rfl rfl (Nat.le_of_ble_eq_true rfl) ⟨rfl, rfl⟩ ⟨Nat.le_of_ble_eq_true rfl, Nat.le_of_ble_eq_true rfl⟩ ⟨Nat.le_of_ble_eq_true rfl, Nat.le_of_ble_eq_true rfl⟩) (fun G213 H locs hq213 hP hS hz9 hk9 => ?_)
          clear hz9 hk9
          obtain ⟨ar213, hM213, hQ213, hkp213⟩ := hq213
          refine lv_iinc (v := nI (q + 1)) (lv' := [(1, .int (nI (q + 1))), (0, .ref x)]) hx hb d_R_look_60 hl (k := 0) rfl (by rw [← nI_1]; rfl) (by decide) rfl (fun ls hl => ?_)
          refine lv_goto (tgt := 44) hx hb d_R_look_63 (by decide) ?_
          refine ih2 _ _ _ _ _ _ _ ⟨by omega, by omega, lv_sub hl [0, 1] rfl, hP, hS, hM213, hQ213, s_part_add hp2 (fun i e => s_rch_root hlt e), fun t ht9 a ha => ?_, fun t h1 h2 => by rw [hkp213 t h1 h2]; exact hkp2 t h1 h2⟩
          by_cases e : t = q
          · subst e
            rw [ha]
            exact s_add_in
          · exact s_add_sub (hrg t (by omega) a ha)
    · have hlt : j < 4096 := Nat.not_le.mp (fun q => cj (show nI 4096 ≤ nI j from (nI_leI (by omega) (by omega)).mpr q))
      omega
  case succ f ih =>
    obtain ⟨hf, hj, hl, hP, hS, hM1, h19, hkp⟩ := inv
    refine lv_iload_n hx hb d_R_look_2 rfl (lv_at hl 0 rfl) ?_
    refine lv_sipush (v := 4096) hx hb d_R_look_3 (by decide) ?_
    refine lv_icmp_ge (tgt := 22) hx hb d_R_look_6 (by decide) (fun cj => ?_) (fun cj => ?_)
    · have hge : 4096 ≤ j := (nI_leI (by omega) (by omega)).mp (show nI 4096 ≤ nI j from cj)
      refine lv_aload_n hx hb d_R_look_22 rfl (lv_at hl 1 rfl) ?_
      refine lv_iconst (v := 0) hx hb d_R_look_23 (by decide) ?_
      refine gw_put (D := D) (cl := vwCl) (ci := 5) (C := "StackRoomModel") (T := T_R) (N := 25) (v := .int 0) (ty := .int) hx hb ht in_R ty_R tk_R nm_R hown hK.1 hP hS hM1.1 rfl 21 (by decide) (ht _ fl_R_R_reached) (fun _ h9 => h9) rfl (by decide +kernel) rfl rfl (Nat.le_of_ble_eq_true rfl) d_R_look_24 (fun H locs hP hS => ?_)
      obtain ⟨G41, eG41⟩ : ∃ z : gw_G, z = va_up G1 x (some (.inr (5, [.int (nI w), .int (nI n), .int (nI md), .ref (adr 3), .ref (adr 4), .ref (adr 5), .ref (adr 6), .ref (adr 7), .ref (adr 8), .ref (adr 9), .ref (adr 10), .ref (adr 11), .ref (adr 12), .ref (adr 13), .ref (adr 14), .ref (adr 15), .ref (adr 16), .ref (adr 17), .int us, .ref (adr 19), .ref (adr 20), .int 0, .int r1, .int r2, .int r3]))) := ⟨_, rfl⟩
      replace hP : gw_P D vwCl (gw_A G s.heap.size) G41 H := by rw [eG41]; exact hP
      have hM41 : m_Arr cI cB cZ x w n md adr (us) (0) (r1) (r2) (r3) ar1 G41 := by rw [eG41]; exact hM1.own md (us) (0) (r1) (r2) (r3)
      refine lv_aload_n hx hb d_R_look_27 rfl (lv_at hl 1 rfl) ?_
      refine lv_iconst (v := 0) hx hb d_R_look_28 (by decide) ?_
      refine gw_put (D := D) (cl := vwCl) (ci := 5) (C := "StackRoomModel") (T := T_R) (N := 25) (v := .int 0) (ty := .int) hx hb ht in_R ty_R tk_R nm_R hown hK.1 hP hS hM41.1 rfl 22 (by decide) (ht _ fl_R_R_reachedObjects) (fun _ h9 => h9) rfl (by decide +kernel) rfl rfl (Nat.le_of_ble_eq_true rfl) d_R_look_29 (fun H locs hP hS => ?_)
      obtain ⟨G42, eG42⟩ : ∃ z : gw_G, z = va_up G41 x (some (.inr (5, [.int (nI w), .int (nI n), .int (nI md), .ref (adr 3), .ref (adr 4), .ref (adr 5), .ref (adr 6), .ref (adr 7), .ref (adr 8), .ref (adr 9), .ref (adr 10), .ref (adr 11), .ref (adr 12), .ref (adr 13), .ref (adr 14), .ref (adr 15), .ref (adr 16), .ref (adr 17), .int us, .ref (adr 19), .ref (adr 20), .int 0, .int 0, .int r2, .int r3]))) := ⟨_, rfl⟩
      replace hP : gw_P D vwCl (gw_A G s.heap.size) G42 H := by rw [eG42]; exact hP
      have hM42 : m_Arr cI cB cZ x w n md adr (us) (0) (0) (r2) (r3) ar1 G42 := by rw [eG42]; exact hM41.own md (us) (0) (0) (r2) (r3)
      refine lv_aload_n hx hb d_R_look_32 rfl (lv_at hl 1 rfl) ?_
      refine lv_iconst (v := 0) hx hb d_R_look_33 (by decide) ?_
      refine gw_put (D := D) (cl := vwCl) (ci := 5) (C := "StackRoomModel") (T := T_R) (N := 25) (v := .int 0) (ty := .int) hx hb ht in_R ty_R tk_R nm_R hown hK.1 hP hS hM42.1 rfl 23 (by decide) (ht _ fl_R_R_reachedWords) (fun _ h9 => h9) rfl (by decide +kernel) rfl rfl (Nat.le_of_ble_eq_true rfl) d_R_look_34 (fun H locs hP hS => ?_)
      obtain ⟨G43, eG43⟩ : ∃ z : gw_G, z = va_up G42 x (some (.inr (5, [.int (nI w), .int (nI n), .int (nI md), .ref (adr 3), .ref (adr 4), .ref (adr 5), .ref (adr 6), .ref (adr 7), .ref (adr 8), .ref (adr 9), .ref (adr 10), .ref (adr 11), .ref (adr 12), .ref (adr 13), .ref (adr 14), .ref (adr 15), .ref (adr 16), .ref (adr 17), .int us, .ref (adr 19), .ref (adr 20), .int 0, .int 0, .int 0, .int r3]))) := ⟨_, rfl⟩
      replace hP : gw_P D vwCl (gw_A G s.heap.size) G43 H := by rw [eG43]; exact hP
      have hM43 : m_Arr cI cB cZ x w n md adr (us) (0) (0) (0) (r3) ar1 G43 := by rw [eG43]; exact hM42.own md (us) (0) (0) (0) (r3)
      refine lv_aload_n hx hb d_R_look_37 rfl (lv_at hl 1 rfl) ?_
      refine lv_iconst (v := 0) hx hb d_R_look_38 (by decide) ?_
      refine gw_put (D := D) (cl := vwCl) (ci := 5) (C := "StackRoomModel") (T := T_R) (N := 25) (v := .int 0) (ty := .int) hx hb ht in_R ty_R tk_R nm_R hown hK.1 hP hS hM43.1 rfl 24 (by decide) (ht _ fl_R_R_reachedContexts) (fun _ h9 => h9) rfl (by decide +kernel) rfl rfl (Nat.le_of_ble_eq_true rfl) d_R_look_39 (fun H locs hP hS => ?_)
      obtain ⟨G44, eG44⟩ : ∃ z : gw_G, z = va_up G43 x (some (.inr (5, [.int (nI w), .int (nI n), .int (nI md), .ref (adr 3), .ref (adr 4), .ref (adr 5), .ref (adr 6), .ref (adr 7), .ref (adr 8), .ref (adr 9), .ref (adr 10), .ref (adr 11), .ref (adr 12), .ref (adr 13), .ref (adr 14), .ref (adr 15), .ref (adr 16), .ref (adr 17), .int us, .ref (adr 19), .ref (adr 20), .int 0, .int 0, .int 0, .int 0]))) := ⟨_, rfl⟩
      replace hP : gw_P D vwCl (gw_A G s.heap.size) G44 H := by rw [eG44]; exact hP
      have hM44 : m_Arr cI cB cZ x w n md adr (us) (0) (0) (0) (0) ar1 G44 := by rw [eG44]; exact hM43.own md (us) (0) (0) (0) (0)
      refine lv_iconst (v := 0) hx hb d_R_look_42 (by decide) ?_
      refine lv_istore_n (lv' := [(1, .int 0), (0, .ref x)]) hx hb d_R_look_43 rfl hl (by decide) rfl (fun ls hl => ?_)
      have hM2 : m_Arr cI cB cZ x w n md adr us (nI ([] : List Nat).length) (0) (0) (0) ar1 G44 := by rw [nI_0s]; exact hM44
      have hQ2 : m_Q sl [] ar1 := ⟨fun i hi => (by cases hi), fun o ho _ => h19 o (by omega), fun k i hk => (by simp at hk)⟩
      obtain ⟨G2, eG2⟩ : ∃ z : gw_G, z = G44 := ⟨_, rfl⟩
      obtain ⟨ar2, ear2⟩ : ∃ z : Nat → Nat → Int32, z = ar1 := ⟨_, rfl⟩
      obtain ⟨L, eL⟩ : ∃ z : List Nat, z = [] := ⟨_, rfl⟩
      obtain ⟨q, eq⟩ : ∃ z : Nat, z = 0 := ⟨_, rfl⟩
      obtain ⟨g, eg⟩ : ∃ z : Nat, z = 16 := ⟨_, rfl⟩
      have inv : 16 ≤ q + g ∧ q ≤ 16 ∧ lv_has ls 4 [(1, .int (nI q)), (0, .ref x)] ∧ gw_P D vwCl (gw_A G s.heap.size) G2 H ∧ va_S (gw_A G s.heap.size) s.heap H locs ∧ m_Arr cI cB cZ x w n md adr us (nI L.length) (0) (0) (0) ar2 G2 ∧ m_Q sl L ar2 ∧ s_part σ L ∧ (∀ k, k < q → ∀ a, s_rg σ k = some (.inr a) → a ∈ L) ∧ (∀ k, k ≠ 19 → k ≠ 20 → ar2 k = ar k) := by
        refine ⟨by omega, by omega, by rw [eq]; exact hl, by rw [eG2]; exact hP, hS, by rw [eL, ear2, eG2]; exact hM2, by rw [eL, ear2]; exact hQ2, by rw [eL]; exact s_part_nil, fun k hk => absurd hk (by omega), fun k h1 h2 => by rw [ear2]; exact hkp k h1 h2⟩
      clear hl hP hS hM2 hQ2 eG2 ear2 eL eq eg hM44
      induction g generalizing q ls H locs G2 ar2 L
      case zero =>
        obtain ⟨hg, hq, hl, hP, hS, hM2, hQ2, hp2, hrg, hkp2⟩ := inv
        refine lv_iload_n hx hb d_R_look_44 rfl (lv_at hl 0 rfl) ?_
        refine lv_bipush (v := 16) hx hb d_R_look_45 (by decide) ?_
        refine lv_icmp_ge (tgt := 66) hx hb d_R_look_47 (by decide) (fun cq => ?_) (fun cq => ?_)
        · have hge2 : 16 ≤ q := (nI_leI (by omega) (by omega)).mp (show nI 16 ≤ nI q from cq)
          refine lv_iconst (v := 0) hx hb d_R_look_66 (by decide) ?_
          refine lv_istore_n (lv' := [(1, .int 0), (0, .ref x)]) hx hb d_R_look_67 rfl hl (by decide) rfl (fun ls hl => ?_)
          have hroot : ∀ k, k < 16 → ∀ a, s_rg σ k = some (.inr a) → a ∈ L := fun k hk => hrg k (by omega)
          obtain ⟨o1, eo1⟩ : ∃ z : Int32, z = 0 := ⟨_, rfl⟩
          obtain ⟨o2, eo2⟩ : ∃ z : Int32, z = 0 := ⟨_, rfl⟩
          obtain ⟨o3, eo3⟩ : ∃ z : Int32, z = 0 := ⟨_, rfl⟩
          obtain ⟨p3, ep3⟩ : ∃ z : Nat, z = 0 := ⟨_, rfl⟩
          obtain ⟨g3, eg3⟩ : ∃ z : Nat, z = n := ⟨_, rfl⟩
          have inv : n ≤ p3 + g3 ∧ p3 ≤ L.length ∧ lv_has ls 4 [(1, .int (nI p3)), (0, .ref x)] ∧ gw_P D vwCl (gw_A G s.heap.size) G2 H ∧ va_S (gw_A G s.heap.size) s.heap H locs ∧ m_Arr cI cB cZ x w n md adr us (nI L.length) (o1) (o2) (o3) ar2 G2 ∧ m_Q sl L ar2 ∧ s_part σ L ∧ (∀ k, k < 16 → ∀ a, s_rg σ k = some (.inr a) → a ∈ L) ∧ o1 = nI (s_sum (s_en σ) (L.take p3)) ∧ o2 = nI (s_sum (s_wd σ) (L.take p3)) ∧ o3 = nI (s_sum (s_cn σ) (L.take p3)) ∧ (∀ k i, k < p3 → L[k]? = some i → ∀ a, s_edge σ i a → a ∈ L) ∧ (∀ k, k ≠ 19 → k ≠ 20 → ar2 k = ar k) := by
            refine ⟨by omega, by omega, by rw [ep3]; exact lv_sub hl [0, 1] rfl, hP, hS, by rw [eo1, eo2, eo3]; exact hM2, hQ2, hp2, hroot, by rw [ep3, eo1]; rfl, by rw [ep3, eo2]; rfl, by rw [ep3, eo3]; rfl, fun k i hk => absurd hk (by omega), hkp2⟩
          clear hl hP hS hM2 hQ2 hp2 hrg hroot eo1 eo2 eo3 ep3 eg3 hkp2 hge2 cq
          induction g3 generalizing p3 ls H locs G2 ar2 L o1 o2 o3
          case zero =>
            obtain ⟨hg3, hqL, hl, hP, hS, hM2, hQ2, hp2, hroot, he1, he2, he3, hed, hkp2⟩ := inv
            have hle := s_part_len hp2 hO
            refine lv_iload_n hx hb d_R_look_68 rfl (lv_at hl 0 rfl) ?_
            refine lv_aload_n hx hb d_R_look_69 rfl (lv_at hl 1 rfl) ?_
            refine va_get (D := D) (ci := 5) (C := "StackRoomModel") (T := T_R) (N := 25) (v := .int (nI L.length)) hx hb ht in_R hown hK.1 (hP.one hM2.1) 0 rfl rfl 21 (by decide) (ht _ fl_R_R_reached) (fun _ h9 => h9) rfl d_R_look_70 ?_
            refine lv_icmp_ge (tgt := 235) hx hb d_R_look_73 (by decide) (fun cp => ?_) (fun cp => ?_)
            · have hq2 : L.length ≤ p3 := (nI_leI (by omega) (by omega)).mp cp
              have henum : s_enum σ L := s_part_enum hp2 hroot (fun j hj k hk => by
                obtain ⟨a, ha⟩ := List.getElem?_of_mem hj
                exact hed a j (by have := (List.getElem?_eq_some_iff.mp ha).1; omega) ha k hk)
              rw [List.take_of_length_le hq2] at he1 he2 he3
              have e1 : s_sum (s_en σ) L = s_N σ := s_N_enum hO.1 henum
              have e2 : s_sum (s_wd σ) L = s_W σ := s_W_enum hO.1 henum
              have e3 : s_sum (s_cn σ) L = s_K σ := s_K_enum hO.1 henum
              rw [e1] at he1
              rw [e2] at he2
              rw [e3] at he3
              rw [he1, he2, he3] at hM2
              exact W.vret hx hb hr (fun t ht hW => ⟨⟨G2, rfl, ⟨ar2, _, hM2, fun i hi => hQ2.1 i ((henum.2 i).mpr hi), fun o ho hno => hQ2.2.1 o ho (fun i hi => hno i ((henum.2 i).mp hi)), hkp2⟩, g_fin ht hP⟩, hS.F ht⟩) hS.2.2 d_R_look_235
            · have hlt : p3 < L.length := Nat.not_le.mp (fun z => cp ((nI_leI (by omega) (by omega)).mpr z))
              omega
          case succ g3 ih3 =>
            obtain ⟨hg3, hqL, hl, hP, hS, hM2, hQ2, hp2, hroot, he1, he2, he3, hed, hkp2⟩ := inv
            have hle := s_part_len hp2 hO
            refine lv_iload_n hx hb d_R_look_68 rfl (lv_at hl 0 rfl) ?_
            refine lv_aload_n hx hb d_R_look_69 rfl (lv_at hl 1 rfl) ?_
            refine va_get (D := D) (ci := 5) (C := "StackRoomModel") (T := T_R) (N := 25) (v := .int (nI L.length)) hx hb ht in_R hown hK.1 (hP.one hM2.1) 0 rfl rfl 21 (by decide) (ht _ fl_R_R_reached) (fun _ h9 => h9) rfl d_R_look_70 ?_
            refine lv_icmp_ge (tgt := 235) hx hb d_R_look_73 (by decide) (fun cp => ?_) (fun cp => ?_)
            · have hq2 : L.length ≤ p3 := (nI_leI (by omega) (by omega)).mp cp
              have henum : s_enum σ L := s_part_enum hp2 hroot (fun j hj k hk => by
                obtain ⟨a, ha⟩ := List.getElem?_of_mem hj
                exact hed a j (by have := (List.getElem?_eq_some_iff.mp ha).1; omega) ha k hk)
              rw [List.take_of_length_le hq2] at he1 he2 he3
              have e1 : s_sum (s_en σ) L = s_N σ := s_N_enum hO.1 henum
              have e2 : s_sum (s_wd σ) L = s_W σ := s_W_enum hO.1 henum
              have e3 : s_sum (s_cn σ) L = s_K σ := s_K_enum hO.1 henum
              rw [e1] at he1
              rw [e2] at he2
              rw [e3] at he3
              rw [he1, he2, he3] at hM2
              exact W.vret hx hb hr (fun t ht hW => ⟨⟨G2, rfl, ⟨ar2, _, hM2, fun i hi => hQ2.1 i ((henum.2 i).mpr hi), fun o ho hno => hQ2.2.1 o ho (fun i hi => hno i ((henum.2 i).mp hi)), hkp2⟩, g_fin ht hP⟩, hS.F ht⟩) hS.2.2 d_R_look_235
            · have hlt : p3 < L.length := Nat.not_le.mp (fun z => cp ((nI_leI (by omega) (by omega)).mpr z))
              obtain ⟨i, hi⟩ : ∃ i, L[p3]? = some i := ⟨_, List.getElem?_eq_getElem hlt⟩
              have hri := hp2.2 i (List.mem_of_getElem? hi)
              have hi0 := s_rch_kd hO.1 hri
              have hs := hsl i hri
              have hki := (hE.2.1 i hri).2.1
              refine lv_aload_n hx hb d_R_look_76 rfl (lv_at hl 1 rfl) ?_
              refine va_get (D := D) (ci := 5) (C := "StackRoomModel") (T := T_R) (N := 25) (v := .ref (adr 20)) hx hb ht in_R hown hK.1 (hP.one hM2.1) 0 rfl rfl 20 (by decide) (ht _ fl_R_R_todo) (fun _ h9 => h9) rfl d_R_look_77 ?_
              refine lv_iload_n hx hb d_R_look_80 rfl (lv_at hl 0 rfl) ?_
              refine va_iald hx hb hK.1 (hP.one hM2.a20) 0 2 rfl ht2 (vp_in_nI (by omega) (by decide)) d_R_look_81 ?_
              rw [nI_clamp (by omega)]
              rw [hQ2.2.2 p3 i hi]
              refine lv_istore_n (lv' := [(2, .int (nI (sl i))), (1, .int (nI p3)), (0, .ref x)]) hx hb d_R_look_82 rfl hl (by decide) rfl (fun ls hl => ?_)
              refine lv_aload_n hx hb d_R_look_83 rfl (lv_at hl 2 rfl) ?_
              refine va_get (D := D) (ci := 5) (C := "StackRoomModel") (T := T_R) (N := 25) (v := .ref (adr 4)) hx hb ht in_R hown hK.1 (hP.one hM2.1) 0 rfl rfl 4 (by decide) (ht _ fl_R_R_kinds) (fun _ h9 => h9) rfl d_R_look_84 ?_
              refine lv_iload_n hx hb d_R_look_87 rfl (lv_at hl 0 rfl) ?_
              refine va_bald hx hb hK.1 (hP.one hM2.a4) 0 3 rfl ht3 (vp_in_nI hs (by decide)) d_R_look_88 ?_
              rw [nI_clamp (by omega)]
              rw [hkp2 4 (by decide) (by decide), hki]
              rcases (hO.1.2.1 i hi0).2.2 with hj | hj | hj
              · rw [hj]
                refine lv_iconst (v := 2) hx hb d_R_look_89 (by decide) ?_
                refine lv_icmp_ne (tgt := 117) hx hb d_R_look_90 (by decide) (fun z => absurd rfl z) (fun _ => ?_)
                refine lv_aload_n hx hb d_R_look_93 rfl (lv_at hl 2 rfl) ?_
                refine lv_dup hx hb d_R_look_94 rfl ?_
                refine va_get (D := D) (ci := 5) (C := "StackRoomModel") (T := T_R) (N := 25) (v := .int o1) hx hb ht in_R hown hK.1 (hP.one hM2.1) 0 rfl rfl 22 (by decide) (ht _ fl_R_R_reachedObjects) (fun _ h9 => h9) rfl d_R_look_95 ?_
                refine lv_iconst (v := 2) hx hb d_R_look_98 (by decide) ?_
                refine lv_iadd hx hb d_R_look_99 ?_
                refine gw_put (D := D) (cl := vwCl) (ci := 5) (C := "StackRoomModel") (T := T_R) (N := 25) (v := .int (o1 + 2)) (ty := .int) hx hb ht in_R ty_R tk_R nm_R hown hK.1 hP hS hM2.1 rfl 22 (by decide) (ht _ fl_R_R_reachedObjects) (fun _ h9 => h9) rfl (by decide +kernel) rfl rfl (Nat.le_of_ble_eq_true rfl) d_R_look_100 (fun H locs hP hS => ?_)
                obtain ⟨G45, eG45⟩ : ∃ z : gw_G, z = va_up G2 x (some (.inr (5, [.int (nI w), .int (nI n), .int (nI md), .ref (adr 3), .ref (adr 4), .ref (adr 5), .ref (adr 6), .ref (adr 7), .ref (adr 8), .ref (adr 9), .ref (adr 10), .ref (adr 11), .ref (adr 12), .ref (adr 13), .ref (adr 14), .ref (adr 15), .ref (adr 16), .ref (adr 17), .int us, .ref (adr 19), .ref (adr 20), .int (nI L.length), .int (o1 + 2), .int o2, .int o3]))) := ⟨_, rfl⟩
                replace hP : gw_P D vwCl (gw_A G s.heap.size) G45 H := by rw [eG45]; exact hP
                have hM45 : m_Arr cI cB cZ x w n md adr (us) (nI L.length) (o1 + 2) (o2) (o3) ar2 G45 := by rw [eG45]; exact hM2.own md (us) (nI L.length) (o1 + 2) (o2) (o3)
                refine lv_aload_n hx hb d_R_look_103 rfl (lv_at hl 2 rfl) ?_
                refine lv_dup hx hb d_R_look_104 rfl ?_
                refine va_get (D := D) (ci := 5) (C := "StackRoomModel") (T := T_R) (N := 25) (v := .int o2) hx hb ht in_R hown hK.1 (hP.one hM45.1) 0 rfl rfl 23 (by decide) (ht _ fl_R_R_reachedWords) (fun _ h9 => h9) rfl d_R_look_105 ?_
                refine lv_bipush (v := 10) hx hb d_R_look_108 (by decide) ?_
                refine lv_iadd hx hb d_R_look_110 ?_
                refine gw_put (D := D) (cl := vwCl) (ci := 5) (C := "StackRoomModel") (T := T_R) (N := 25) (v := .int (o2 + 10)) (ty := .int) hx hb ht in_R ty_R tk_R nm_R hown hK.1 hP hS hM45.1 rfl 23 (by decide) (ht _ fl_R_R_reachedWords) (fun _ h9 => h9) rfl (by decide +kernel) rfl rfl (Nat.le_of_ble_eq_true rfl) d_R_look_111 (fun H locs hP hS => ?_)
                obtain ⟨G46, eG46⟩ : ∃ z : gw_G, z = va_up G45 x (some (.inr (5, [.int (nI w), .int (nI n), .int (nI md), .ref (adr 3), .ref (adr 4), .ref (adr 5), .ref (adr 6), .ref (adr 7), .ref (adr 8), .ref (adr 9), .ref (adr 10), .ref (adr 11), .ref (adr 12), .ref (adr 13), .ref (adr 14), .ref (adr 15), .ref (adr 16), .ref (adr 17), .int us, .ref (adr 19), .ref (adr 20), .int (nI L.length), .int (o1 + 2), .int (o2 + 10), .int o3]))) := ⟨_, rfl⟩
                replace hP : gw_P D vwCl (gw_A G s.heap.size) G46 H := by rw [eG46]; exact hP
                have hM46 : m_Arr cI cB cZ x w n md adr (us) (nI L.length) (o1 + 2) (o2 + 10) (o3) ar2 G46 := by rw [eG46]; exact hM45.own md (us) (nI L.length) (o1 + 2) (o2 + 10) (o3)
                refine lv_goto (tgt := 229) hx hb d_R_look_114 (by decide) ?_
                refine lv_iinc (v := nI (p3 + 1)) (lv' := [(1, .int (nI (p3 + 1))), (2, .int (nI (sl i))), (0, .ref x)]) hx hb d_R_look_229 hl (k := 1) rfl (by rw [← nI_1]; rfl) (by decide) rfl (fun ls hl => ?_)
                refine lv_goto (tgt := 68) hx hb d_R_look_232 (by decide) ?_
                have e7 : ∀ f : Nat → Nat, s_sum f (L.take (p3 + 1)) = s_sum f (L.take p3) + f i := fun f => by
                  have := s_sum_take (f := f) (M := []) hi
                  rwa [List.append_nil] at this
                refine ih3 _ _ _ _ _ _ _ _ _ _ ⟨by omega, by omega, lv_sub hl [0, 2] rfl, hP, hS, hM46, hQ2, hp2, hroot, ?_, ?_, ?_, fun k b hk hb a ha => ?_, hkp2⟩
                · rw [e7, he1, show s_en σ i = 2 from s_en2 hj, ← nI_add]; rfl
                · rw [e7, he2, show s_wd σ i = 10 from s_wd2 hj, ← nI_add]; rfl
                · rw [e7, he3, show s_cn σ i = 0 from if_pos hj, Nat.add_zero]
                · by_cases e : k = p3
                  · subst e
                    rw [hi] at hb
                    cases hb
                    exact absurd ha.1 (fun z => by rcases z with z | z <;> omega)
                  · exact hed k b (by omega) hb a ha
              · have hc : s_isC σ i := Or.inl hj
                have hfx := hE.2.2.2.1 i hri hc
                have hb94 := (hO.1.2.2.2.2.2.2 i hc).2.2.1
                have hU := hE.2.2.2.2.2.2.2.2
                rw [hj]
                refine lv_iconst (v := 2) hx hb d_R_look_89 (by decide) ?_
                refine lv_icmp_ne (tgt := 117) hx hb d_R_look_90 (by decide) (fun _ => ?_) (fun z => absurd z (by decide))
                refine lv_aload_n hx hb d_R_look_117 rfl (lv_at hl 2 rfl) ?_
                refine lv_dup hx hb d_R_look_118 rfl ?_
                refine va_get (D := D) (ci := 5) (C := "StackRoomModel") (T := T_R) (N := 25) (v := .int o1) hx hb ht in_R hown hK.1 (hP.one hM2.1) 0 rfl rfl 22 (by decide) (ht _ fl_R_R_reachedObjects) (fun _ h9 => h9) rfl d_R_look_119 ?_
                refine lv_iconst (v := 1) hx hb d_R_look_122 (by decide) ?_
                refine lv_iadd hx hb d_R_look_123 ?_
                refine gw_put (D := D) (cl := vwCl) (ci := 5) (C := "StackRoomModel") (T := T_R) (N := 25) (v := .int (o1 + 1)) (ty := .int) hx hb ht in_R ty_R tk_R nm_R hown hK.1 hP hS hM2.1 rfl 22 (by decide) (ht _ fl_R_R_reachedObjects) (fun _ h9 => h9) rfl (by decide +kernel) rfl rfl (Nat.le_of_ble_eq_true rfl) d_R_look_124 (fun H locs hP hS => ?_)
                obtain ⟨G47, eG47⟩ : ∃ z : gw_G, z = va_up G2 x (some (.inr (5, [.int (nI w), .int (nI n), .int (nI md), .ref (adr 3), .ref (adr 4), .ref (adr 5), .ref (adr 6), .ref (adr 7), .ref (adr 8), .ref (adr 9), .ref (adr 10), .ref (adr 11), .ref (adr 12), .ref (adr 13), .ref (adr 14), .ref (adr 15), .ref (adr 16), .ref (adr 17), .int us, .ref (adr 19), .ref (adr 20), .int (nI L.length), .int (o1 + 1), .int o2, .int o3]))) := ⟨_, rfl⟩
                replace hP : gw_P D vwCl (gw_A G s.heap.size) G47 H := by rw [eG47]; exact hP
                have hM47 : m_Arr cI cB cZ x w n md adr (us) (nI L.length) (o1 + 1) (o2) (o3) ar2 G47 := by rw [eG47]; exact hM2.own md (us) (nI L.length) (o1 + 1) (o2) (o3)
                refine lv_aload_n hx hb d_R_look_127 rfl (lv_at hl 2 rfl) ?_
                refine lv_dup hx hb d_R_look_128 rfl ?_
                refine va_get (D := D) (ci := 5) (C := "StackRoomModel") (T := T_R) (N := 25) (v := .int o3) hx hb ht in_R hown hK.1 (hP.one hM47.1) 0 rfl rfl 24 (by decide) (ht _ fl_R_R_reachedContexts) (fun _ h9 => h9) rfl d_R_look_129 ?_
                refine lv_iconst (v := 1) hx hb d_R_look_132 (by decide) ?_
                refine lv_iadd hx hb d_R_look_133 ?_
                refine gw_put (D := D) (cl := vwCl) (ci := 5) (C := "StackRoomModel") (T := T_R) (N := 25) (v := .int (o3 + 1)) (ty := .int) hx hb ht in_R ty_R tk_R nm_R hown hK.1 hP hS hM47.1 rfl 24 (by decide) (ht _ fl_R_R_reachedContexts) (fun _ h9 => h9) rfl (by decide +kernel) rfl rfl (Nat.le_of_ble_eq_true rfl) d_R_look_134 (fun H locs hP hS => ?_)
                obtain ⟨G48, eG48⟩ : ∃ z : gw_G, z = va_up G47 x (some (.inr (5, [.int (nI w), .int (nI n), .int (nI md), .ref (adr 3), .ref (adr 4), .ref (adr 5), .ref (adr 6), .ref (adr 7), .ref (adr 8), .ref (adr 9), .ref (adr 10), .ref (adr 11), .ref (adr 12), .ref (adr 13), .ref (adr 14), .ref (adr 15), .ref (adr 16), .ref (adr 17), .int us, .ref (adr 19), .ref (adr 20), .int (nI L.length), .int (o1 + 1), .int o2, .int (o3 + 1)]))) := ⟨_, rfl⟩
                replace hP : gw_P D vwCl (gw_A G s.heap.size) G48 H := by rw [eG48]; exact hP
                have hM48 : m_Arr cI cB cZ x w n md adr (us) (nI L.length) (o1 + 1) (o2) (o3 + 1) ar2 G48 := by rw [eG48]; exact hM47.own md (us) (nI L.length) (o1 + 1) (o2) (o3 + 1)
                refine lv_aload_n hx hb d_R_look_137 rfl (lv_at hl 2 rfl) ?_
                refine lv_dup hx hb d_R_look_138 rfl ?_
                refine va_get (D := D) (ci := 5) (C := "StackRoomModel") (T := T_R) (N := 25) (v := .int o2) hx hb ht in_R hown hK.1 (hP.one hM48.1) 0 rfl rfl 23 (by decide) (ht _ fl_R_R_reachedWords) (fun _ h9 => h9) rfl d_R_look_139 ?_
                refine lv_aload_n hx hb d_R_look_142 rfl (lv_at hl 2 rfl) ?_
                refine va_get (D := D) (ci := 5) (C := "StackRoomModel") (T := T_R) (N := 25) (v := .ref (adr 4)) hx hb ht in_R hown hK.1 (hP.one hM48.1) 0 rfl rfl 4 (by decide) (ht _ fl_R_R_kinds) (fun _ h9 => h9) rfl d_R_look_143 ?_
                refine lv_iload_n hx hb d_R_look_146 rfl (lv_at hl 0 rfl) ?_
                refine va_bald hx hb hK.1 (hP.one hM48.a4) 0 3 rfl ht3 (vp_in_nI hs (by decide)) d_R_look_147 ?_
                rw [nI_clamp (by omega)]
                rw [hkp2 4 (by decide) (by decide), hki, hj]
                refine lv_iconst (v := 3) hx hb d_R_look_148 (by decide) ?_
                refine lv_icmp_ne (tgt := 157) hx hb d_R_look_149 (by decide) (fun z => absurd rfl z) (fun _ => ?_)
                refine lv_bipush (v := 9) hx hb d_R_look_152 (by decide) ?_
                refine lv_goto (tgt := 159) hx hb d_R_look_154 (by decide) ?_
                refine lv_aload_n hx hb d_R_look_159 rfl (lv_at hl 2 rfl) ?_
                refine va_get (D := D) (ci := 5) (C := "StackRoomModel") (T := T_R) (N := 25) (v := .ref (adr 15)) hx hb ht in_R hown hK.1 (hP.one hM48.1) 0 rfl rfl 15 (by decide) (ht _ fl_R_R_rooms) (fun _ h9 => h9) rfl d_R_look_160 ?_
                refine lv_iload_n hx hb d_R_look_163 rfl (lv_at hl 0 rfl) ?_
                refine va_iald hx hb hK.1 (hP.one hM48.a15) 0 2 rfl ht2 (vp_in_nI hs (by decide)) d_R_look_164 ?_
                rw [nI_clamp (by omega)]
                rw [hkp2 15 (by decide) (by decide), hfx.2.2.2.2.2.1]
                refine lv_iadd hx hb d_R_look_165 ?_
                refine lv_iadd hx hb d_R_look_166 ?_
                refine gw_put (D := D) (cl := vwCl) (ci := 5) (C := "StackRoomModel") (T := T_R) (N := 25) (v := .int (o2 + (9 + (nI (s_rm σ i))))) (ty := .int) hx hb ht in_R ty_R tk_R nm_R hown hK.1 hP hS hM48.1 rfl 23 (by decide) (ht _ fl_R_R_reachedWords) (fun _ h9 => h9) rfl (by decide +kernel) rfl rfl (Nat.le_of_ble_eq_true rfl) d_R_look_167 (fun H locs hP hS => ?_)
                obtain ⟨G49, eG49⟩ : ∃ z : gw_G, z = va_up G48 x (some (.inr (5, [.int (nI w), .int (nI n), .int (nI md), .ref (adr 3), .ref (adr 4), .ref (adr 5), .ref (adr 6), .ref (adr 7), .ref (adr 8), .ref (adr 9), .ref (adr 10), .ref (adr 11), .ref (adr 12), .ref (adr 13), .ref (adr 14), .ref (adr 15), .ref (adr 16), .ref (adr 17), .int us, .ref (adr 19), .ref (adr 20), .int (nI L.length), .int (o1 + 1), .int (o2 + (9 + nI (s_rm σ i))), .int (o3 + 1)]))) := ⟨_, rfl⟩
                replace hP : gw_P D vwCl (gw_A G s.heap.size) G49 H := by rw [eG49]; exact hP
                have hM49 : m_Arr cI cB cZ x w n md adr (us) (nI L.length) (o1 + 1) (o2 + (9 + nI (s_rm σ i))) (o3 + 1) ar2 G49 := by rw [eG49]; exact hM48.own md (us) (nI L.length) (o1 + 1) (o2 + (9 + nI (s_rm σ i))) (o3 + 1)
                refine lv_aload_n hx hb d_R_look_170 rfl (lv_at hl 2 rfl) ?_
                refine lv_aload_n hx hb d_R_look_171 rfl (lv_at hl 2 rfl) ?_
                refine va_get (D := D) (ci := 5) (C := "StackRoomModel") (T := T_R) (N := 25) (v := .ref (adr 9)) hx hb ht in_R hown hK.1 (hP.one hM49.1) 0 rfl rfl 9 (by decide) (ht _ fl_R_R_senders) (fun _ h9 => h9) rfl d_R_look_172 ?_
                refine lv_iload_n hx hb d_R_look_175 rfl (lv_at hl 0 rfl) ?_
                refine va_iald hx hb hK.1 (hP.one hM49.a9) 0 2 rfl ht2 (vp_in_nI hs (by decide)) d_R_look_176 ?_
                rw [nI_clamp (by omega)]
                refine W.eq (g2 := F0 m 177 ls [.int (m_val sl ((s_sn σ i).map .inr)), .ref x]) (by rw [hkp2 9 (by decide) (by decide), hfx.1]) ?_
                have hv1 : ∀ j, ((s_sn σ i).map .inr : sV) = some (.inr j) → s_rch σ j := fun j e => s_rch_edge hri ⟨hc, Or.inl (sn_inr e)⟩
                refine g_callv hP hS hA (r_V (rest := []) C0 [.int (m_val sl ((s_sn σ i).map .inr))] (k_R_see l hM49 hQ2 hp2 hO hn4 hsl hinj ht2 ht3 ht4 (u := (s_sn σ i).map .inr) hv1 (fun a e => (sn_no e).elim)) ml_R_R_see im_R_see se_R_R_see_R ini_R co_R_see ⟨rfl, hd_R_see⟩ (g_preV (ci := 5) hK hP rfl hM49.1) hl.1 d_R_look_177 rfl rfl (Nat.le_of_ble_eq_true rfl) ⟨rfl, rfl⟩ ⟨Nat.le_of_ble_eq_true rfl, Nat.le_of_ble_eq_true rfl⟩ ⟨Nat.le_of_ble_eq_true rfl, Nat.le_of_ble_eq_true rfl⟩) (fun G214 H locs hq214 hP hS hz9 hk9 => ?_)
                clear hz9 hk9
                obtain ⟨ar214, hM214, hQ214, hkp214⟩ := hq214
                have hp3 := s_part_add hp2 hv1
                refine lv_aload_n hx hb d_R_look_180 rfl (lv_at hl 2 rfl) ?_
                refine lv_iconst (v := 2) hx hb d_R_look_181 (by decide) ?_
                refine lv_aload_n hx hb d_R_look_182 rfl (lv_at hl 2 rfl) ?_
                refine va_get (D := D) (ci := 5) (C := "StackRoomModel") (T := T_R) (N := 25) (v := .ref (adr 12)) hx hb ht in_R hown hK.1 (hP.one hM214.1) 0 rfl rfl 12 (by decide) (ht _ fl_R_R_links) (fun _ h9 => h9) rfl d_R_look_183 ?_
                refine lv_iload_n hx hb d_R_look_186 rfl (lv_at hl 0 rfl) ?_
                refine va_iald hx hb hK.1 (hP.one hM214.a12) 0 2 rfl ht2 (vp_in_nI hs (by decide)) d_R_look_187 ?_
                rw [nI_clamp (by omega)]
                rw [hkp214 12 (by decide) (by decide), hkp2 12 (by decide) (by decide), hfx.2.2.2.1]
                refine lv_imul hx hb d_R_look_188 ?_
                refine lv_iconst (v := 2) hx hb d_R_look_189 (by decide) ?_
                refine lv_iadd hx hb d_R_look_190 ?_
                refine W.eq (g2 := F0 m 191 ls [.int (m_val sl (some (.inr (s_og σ i)))), .ref x]) (by rw [m_lnk]; rfl) ?_
                have hv2 : ∀ j, (some (.inr (s_og σ i)) : sV) = some (.inr j) → s_rch σ j := fun j e => by cases e; exact s_rch_edge hri ⟨hc, Or.inr (Or.inl rfl)⟩
                refine g_callv hP hS hA (r_V (rest := []) C0 [.int (m_val sl (some (.inr (s_og σ i))))] (k_R_see l hM214 hQ214 hp3 hO hn4 hsl hinj ht2 ht3 ht4 (u := some (.inr (s_og σ i))) hv2 (fun a e => by cases e)) ml_R_R_see im_R_see se_R_R_see_R ini_R co_R_see ⟨rfl, hd_R_see⟩ (g_preV (ci := 5) hK hP rfl hM214.1) hl.1 d_R_look_191 rfl rfl (Nat.le_of_ble_eq_true rfl) ⟨rfl, rfl⟩ ⟨Nat.le_of_ble_eq_true rfl, Nat.le_of_ble_eq_true rfl⟩ ⟨Nat.le_of_ble_eq_true rfl, Nat.le_of_ble_eq_true rfl⟩) (fun G215 H locs hq215 hP hS hz9 hk9 => ?_)
                clear hz9 hk9
                obtain ⟨ar215, hM215, hQ215, hkp215⟩ := hq215
                refine lv_iconst (v := 0) hx hb d_R_look_194 (by decide) ?_
                refine lv_istore_n (lv' := [(3, .int 0), (2, .int (nI (sl i))), (1, .int (nI p3)), (0, .ref x)]) hx hb d_R_look_195 rfl hl (by decide) rfl (fun ls hl => ?_)
                obtain ⟨L2, eL2⟩ : ∃ z, z = s_add (s_add L ((s_sn σ i).map .inr)) (some (.inr (s_og σ i))) := ⟨_, rfl⟩
                obtain ⟨G4, eG4⟩ : ∃ z : gw_G, z = G215 := ⟨_, rfl⟩
                obtain ⟨ar4, ear4⟩ : ∃ z : Nat → Nat → Int32, z = ar215 := ⟨_, rfl⟩
                obtain ⟨b, eb⟩ : ∃ z : Nat, z = 0 := ⟨_, rfl⟩
                obtain ⟨f4, ef4⟩ : ∃ z : Nat, z = s_rm σ i := ⟨_, rfl⟩
                have inv4 : s_rm σ i ≤ b + f4 ∧ b ≤ s_rm σ i ∧ lv_has ls 4 [(3, .int (nI b)), (2, .int (nI (sl i))), (1, .int (nI p3)), (0, .ref x)] ∧ gw_P D vwCl (gw_A G s.heap.size) G4 H ∧ va_S (gw_A G s.heap.size) s.heap H locs ∧ m_Arr cI cB cZ x w n md adr us (nI L2.length) (o1 + 1) (o2 + (9 + nI (s_rm σ i))) (o3 + 1) ar4 G4 ∧ m_Q sl L2 ar4 ∧ s_part σ L2 ∧ (∃ M, L2 = L ++ M) ∧ (∀ k, s_sn σ i = some k → k ∈ L2) ∧ s_og σ i ∈ L2 ∧ (∀ k, k < b → ∀ a, s_fl σ i k = some (.inr a) → a ∈ L2) ∧ (∀ k, k ≠ 19 → k ≠ 20 → ar4 k = ar k) := by
                  refine ⟨by omega, by omega, by rw [eb]; exact lv_sub hl [0, 1, 2, 3] rfl, by rw [eG4]; exact hP, hS, by rw [eG4, ear4, eL2]; exact hM215, by rw [ear4, eL2]; exact hQ215, by rw [eL2]; exact s_part_add hp3 hv2, ?_, fun k hk => ?_, by rw [eL2]; exact s_add_in, fun k hk => absurd hk (by omega), fun k h1 h2 => by rw [ear4, hkp215 k h1 h2, hkp214 k h1 h2]; exact hkp2 k h1 h2⟩
                  · obtain ⟨M1, e1⟩ := s_add_pre L ((s_sn σ i).map .inr)
                    obtain ⟨M2, e2⟩ := s_add_pre (s_add L ((s_sn σ i).map .inr)) (some (.inr (s_og σ i)))
                    exact ⟨M1 ++ M2, by rw [eL2, e2, e1, List.append_assoc]⟩
                  · rw [eL2]
                    refine s_add_sub ?_
                    rw [hk]
                    exact s_add_in
                clear hl hP hS eL2 eG4 ear4 eb ef4
                induction f4 generalizing b ls H locs G4 ar4 L2
                case zero =>
                  obtain ⟨hf4, hbm, hl, hP, hS, hM4, hQ4, hp4, hpre, hsn4, hog4, hfl4, hkp4⟩ := inv4
                  refine lv_iload_n hx hb d_R_look_196 rfl (lv_at hl 0 rfl) ?_
                  refine lv_aload_n hx hb d_R_look_197 rfl (lv_at hl 3 rfl) ?_
                  refine va_get (D := D) (ci := 5) (C := "StackRoomModel") (T := T_R) (N := 25) (v := .ref (adr 15)) hx hb ht in_R hown hK.1 (hP.one hM4.1) 0 rfl rfl 15 (by decide) (ht _ fl_R_R_rooms) (fun _ h9 => h9) rfl d_R_look_198 ?_
                  refine lv_iload_n hx hb d_R_look_201 rfl (lv_at hl 1 rfl) ?_
                  refine va_iald hx hb hK.1 (hP.one hM4.a15) 0 2 rfl ht2 (vp_in_nI hs (by decide)) d_R_look_202 ?_
                  rw [nI_clamp (by omega)]
                  rw [hkp4 15 (by decide) (by decide), hfx.2.2.2.2.2.1]
                  refine lv_icmp_ge (tgt := 229) hx hb d_R_look_203 (by decide) (fun cb => ?_) (fun cb => ?_)
                  · have hgeb := (nI_leI (by omega) (by omega)).mp cb
                    refine lv_iinc (v := nI (p3 + 1)) (lv' := [(1, .int (nI (p3 + 1))), (3, .int (nI b)), (2, .int (nI (sl i))), (0, .ref x)]) hx hb d_R_look_229 hl (k := 2) rfl (by rw [← nI_1]; rfl) (by decide) rfl (fun ls hl => ?_)
                    refine lv_goto (tgt := 68) hx hb d_R_look_232 (by decide) ?_
                    obtain ⟨M, eM⟩ := hpre
                    have sub : ∀ a, a ∈ L → a ∈ L2 := fun a ha => by rw [eM]; exact List.mem_append_left _ ha
                    refine ih3 _ _ _ _ _ _ _ _ _ _ ⟨by omega, by rw [eM, List.length_append]; omega, lv_sub hl [0, 3] rfl, hP, hS, hM4, hQ4, hp4, fun k hk a ha => sub a (hroot k hk a ha), ?_, ?_, ?_, fun k c hk hc2 a ha => ?_, hkp4⟩
                    · rw [eM, s_sum_take hi, he1, show s_en σ i = 1 from s_enC hc, ← nI_add]; rfl
                    · rw [eM, s_sum_take hi, he2, s_wd3 hj, ← nI_add, ← nI_add]; rfl
                    · rw [eM, s_sum_take hi, he3, show s_cn σ i = 1 from if_neg (by omega), ← nI_add]; rfl
                    · have hk2 : k < L.length := by omega
                      rw [eM, List.getElem?_append_left hk2] at hc2
                      by_cases e : k = p3
                      · subst e
                        rw [hi] at hc2
                        cases hc2
                        rcases ha.2 with e | e | ⟨b9, hb1, e⟩
                        · exact hsn4 a e
                        · exact e ▸ hog4
                        · exact hfl4 b9 (by omega) a e
                      · exact sub a (hed k c (by omega) hc2 a ha)
                  · have hltb : b < s_rm σ i := Nat.not_le.mp (fun t => cb ((nI_leI (by omega) (by omega)).mpr t))
                    omega
                case succ f4 ih =>
                  obtain ⟨hf4, hbm, hl, hP, hS, hM4, hQ4, hp4, hpre, hsn4, hog4, hfl4, hkp4⟩ := inv4
                  refine lv_iload_n hx hb d_R_look_196 rfl (lv_at hl 0 rfl) ?_
                  refine lv_aload_n hx hb d_R_look_197 rfl (lv_at hl 3 rfl) ?_
                  refine va_get (D := D) (ci := 5) (C := "StackRoomModel") (T := T_R) (N := 25) (v := .ref (adr 15)) hx hb ht in_R hown hK.1 (hP.one hM4.1) 0 rfl rfl 15 (by decide) (ht _ fl_R_R_rooms) (fun _ h9 => h9) rfl d_R_look_198 ?_
                  refine lv_iload_n hx hb d_R_look_201 rfl (lv_at hl 1 rfl) ?_
                  refine va_iald hx hb hK.1 (hP.one hM4.a15) 0 2 rfl ht2 (vp_in_nI hs (by decide)) d_R_look_202 ?_
                  rw [nI_clamp (by omega)]
                  rw [hkp4 15 (by decide) (by decide), hfx.2.2.2.2.2.1]
                  refine lv_icmp_ge (tgt := 229) hx hb d_R_look_203 (by decide) (fun cb => ?_) (fun cb => ?_)
                  · have hgeb := (nI_leI (by omega) (by omega)).mp cb
                    refine lv_iinc (v := nI (p3 + 1)) (lv' := [(1, .int (nI (p3 + 1))), (3, .int (nI b)), (2, .int (nI (sl i))), (0, .ref x)]) hx hb d_R_look_229 hl (k := 2) rfl (by rw [← nI_1]; rfl) (by decide) rfl (fun ls hl => ?_)
                    refine lv_goto (tgt := 68) hx hb d_R_look_232 (by decide) ?_
                    obtain ⟨M, eM⟩ := hpre
                    have sub : ∀ a, a ∈ L → a ∈ L2 := fun a ha => by rw [eM]; exact List.mem_append_left _ ha
                    refine ih3 _ _ _ _ _ _ _ _ _ _ ⟨by omega, by rw [eM, List.length_append]; omega, lv_sub hl [0, 3] rfl, hP, hS, hM4, hQ4, hp4, fun k hk a ha => sub a (hroot k hk a ha), ?_, ?_, ?_, fun k c hk hc2 a ha => ?_, hkp4⟩
                    · rw [eM, s_sum_take hi, he1, show s_en σ i = 1 from s_enC hc, ← nI_add]; rfl
                    · rw [eM, s_sum_take hi, he2, s_wd3 hj, ← nI_add, ← nI_add]; rfl
                    · rw [eM, s_sum_take hi, he3, show s_cn σ i = 1 from if_neg (by omega), ← nI_add]; rfl
                    · have hk2 : k < L.length := by omega
                      rw [eM, List.getElem?_append_left hk2] at hc2
                      by_cases e : k = p3
                      · subst e
                        rw [hi] at hc2
                        cases hc2
                        rcases ha.2 with e | e | ⟨b9, hb1, e⟩
                        · exact hsn4 a e
                        · exact e ▸ hog4
                        · exact hfl4 b9 (by omega) a e
                      · exact sub a (hed k c (by omega) hc2 a ha)
                  · have hltb : b < s_rm σ i := Nat.not_le.mp (fun t => cb ((nI_leI (by omega) (by omega)).mpr t))
                    refine lv_aload_n hx hb d_R_look_206 rfl (lv_at hl 3 rfl) ?_
                    refine lv_aload_n hx hb d_R_look_207 rfl (lv_at hl 3 rfl) ?_
                    refine va_get (D := D) (ci := 5) (C := "StackRoomModel") (T := T_R) (N := 25) (v := .ref (adr 16)) hx hb ht in_R hown hK.1 (hP.one hM4.1) 0 rfl rfl 16 (by decide) (ht _ fl_R_R_fields) (fun _ h9 => h9) rfl d_R_look_208 ?_
                    refine lv_aload_n hx hb d_R_look_211 rfl (lv_at hl 3 rfl) ?_
                    refine va_get (D := D) (ci := 5) (C := "StackRoomModel") (T := T_R) (N := 25) (v := .ref (adr 14)) hx hb ht in_R hown hK.1 (hP.one hM4.1) 0 rfl rfl 14 (by decide) (ht _ fl_R_R_begins) (fun _ h9 => h9) rfl d_R_look_212 ?_
                    refine lv_iload_n hx hb d_R_look_215 rfl (lv_at hl 1 rfl) ?_
                    refine va_iald hx hb hK.1 (hP.one hM4.a14) 0 2 rfl ht2 (vp_in_nI hs (by decide)) d_R_look_216 ?_
                    rw [nI_clamp (by omega), hkp4 14 (by decide) (by decide), hfx.2.2.2.2.1]
                    refine lv_iload_n hx hb d_R_look_217 rfl (lv_at hl 0 rfl) ?_
                    refine lv_iadd hx hb d_R_look_218 ?_
                    refine W.eq (g2 := F0 m 219 ls [.int (nI (bg i + b)), .ref (adr 16), .ref x]) (by rw [← nI_add]) ?_
                    refine va_iald hx hb hK.1 (hP.one hM4.a16) 0 2 rfl ht2 (vp_in_nI (by omega) (by decide)) d_R_look_219 ?_
                    rw [nI_clamp (by omega), hkp4 16 (by decide) (by decide), hE.2.2.2.2.2.1 i hri hc b hltb]
                    have hv3 : ∀ a, s_fl σ i b = some (.inr a) → s_rch σ a := fun a e => s_rch_edge hri ⟨hc, Or.inr (Or.inr ⟨b, hltb, e⟩)⟩
                    refine g_callv hP hS hA (r_V (rest := []) C0 [.int (m_val sl (s_fl σ i b))] (k_R_see l hM4 hQ4 hp4 hO hn4 hsl hinj ht2 ht3 ht4 (u := s_fl σ i b) hv3 (fun a e => hV.2 i hc b hltb a e)) ml_R_R_see im_R_see se_R_R_see_R ini_R co_R_see ⟨rfl, hd_R_see⟩ (g_preV (ci := 5) hK hP rfl hM4.1) hl.1 d_R_look_220 rfl rfl (Nat.le_of_ble_eq_true rfl) ⟨rfl, rfl⟩ ⟨Nat.le_of_ble_eq_true rfl, Nat.le_of_ble_eq_true rfl⟩ ⟨Nat.le_of_ble_eq_true rfl, Nat.le_of_ble_eq_true rfl⟩) (fun G216 H locs hq216 hP hS hz9 hk9 => ?_)
                    clear hz9 hk9
                    obtain ⟨ar216, hM216, hQ216, hkp216⟩ := hq216
                    refine lv_iinc (v := nI (b + 1)) (lv' := [(3, .int (nI (b + 1))), (2, .int (nI (sl i))), (1, .int (nI p3)), (0, .ref x)]) hx hb d_R_look_223 hl (k := 0) rfl (by rw [← nI_1]; rfl) (by decide) rfl (fun ls hl => ?_)
                    refine lv_goto (tgt := 196) hx hb d_R_look_226 (by decide) ?_
                    refine ih _ _ _ _ _ _ _ ⟨by omega, by omega, lv_sub hl [0, 1, 2, 3] rfl, hP, hS, hM216, hQ216, s_part_add hp4 hv3, ?_, fun k hk => s_add_sub (hsn4 k hk), s_add_sub hog4, fun k hk a ha => ?_, fun k h1 h2 => by rw [hkp216 k h1 h2]; exact hkp4 k h1 h2⟩
                    · obtain ⟨M1, e1⟩ := hpre
                      obtain ⟨M2, e2⟩ := s_add_pre L2 (s_fl σ i b)
                      exact ⟨M1 ++ M2, by rw [e2, e1, List.append_assoc]⟩
                    · by_cases e : k = b
                      · subst e
                        rw [ha]
                        exact s_add_in
                      · exact s_add_sub (hfl4 k (by omega) a ha)
              · have hc : s_isC σ i := Or.inr hj
                have hfx := hE.2.2.2.1 i hri hc
                have hb94 := (hO.1.2.2.2.2.2.2 i hc).2.2.1
                have hU := hE.2.2.2.2.2.2.2.2
                rw [hj]
                refine lv_iconst (v := 2) hx hb d_R_look_89 (by decide) ?_
                refine lv_icmp_ne (tgt := 117) hx hb d_R_look_90 (by decide) (fun _ => ?_) (fun z => absurd z (by decide))
                refine lv_aload_n hx hb d_R_look_117 rfl (lv_at hl 2 rfl) ?_
                refine lv_dup hx hb d_R_look_118 rfl ?_
                refine va_get (D := D) (ci := 5) (C := "StackRoomModel") (T := T_R) (N := 25) (v := .int o1) hx hb ht in_R hown hK.1 (hP.one hM2.1) 0 rfl rfl 22 (by decide) (ht _ fl_R_R_reachedObjects) (fun _ h9 => h9) rfl d_R_look_119 ?_
                refine lv_iconst (v := 1) hx hb d_R_look_122 (by decide) ?_
                refine lv_iadd hx hb d_R_look_123 ?_
                refine gw_put (D := D) (cl := vwCl) (ci := 5) (C := "StackRoomModel") (T := T_R) (N := 25) (v := .int (o1 + 1)) (ty := .int) hx hb ht in_R ty_R tk_R nm_R hown hK.1 hP hS hM2.1 rfl 22 (by decide) (ht _ fl_R_R_reachedObjects) (fun _ h9 => h9) rfl (by decide +kernel) rfl rfl (Nat.le_of_ble_eq_true rfl) d_R_look_124 (fun H locs hP hS => ?_)
                obtain ⟨G50, eG50⟩ : ∃ z : gw_G, z = va_up G2 x (some (.inr (5, [.int (nI w), .int (nI n), .int (nI md), .ref (adr 3), .ref (adr 4), .ref (adr 5), .ref (adr 6), .ref (adr 7), .ref (adr 8), .ref (adr 9), .ref (adr 10), .ref (adr 11), .ref (adr 12), .ref (adr 13), .ref (adr 14), .ref (adr 15), .ref (adr 16), .ref (adr 17), .int us, .ref (adr 19), .ref (adr 20), .int (nI L.length), .int (o1 + 1), .int o2, .int o3]))) := ⟨_, rfl⟩
                replace hP : gw_P D vwCl (gw_A G s.heap.size) G50 H := by rw [eG50]; exact hP
                have hM50 : m_Arr cI cB cZ x w n md adr (us) (nI L.length) (o1 + 1) (o2) (o3) ar2 G50 := by rw [eG50]; exact hM2.own md (us) (nI L.length) (o1 + 1) (o2) (o3)
                refine lv_aload_n hx hb d_R_look_127 rfl (lv_at hl 2 rfl) ?_
                refine lv_dup hx hb d_R_look_128 rfl ?_
                refine va_get (D := D) (ci := 5) (C := "StackRoomModel") (T := T_R) (N := 25) (v := .int o3) hx hb ht in_R hown hK.1 (hP.one hM50.1) 0 rfl rfl 24 (by decide) (ht _ fl_R_R_reachedContexts) (fun _ h9 => h9) rfl d_R_look_129 ?_
                refine lv_iconst (v := 1) hx hb d_R_look_132 (by decide) ?_
                refine lv_iadd hx hb d_R_look_133 ?_
                refine gw_put (D := D) (cl := vwCl) (ci := 5) (C := "StackRoomModel") (T := T_R) (N := 25) (v := .int (o3 + 1)) (ty := .int) hx hb ht in_R ty_R tk_R nm_R hown hK.1 hP hS hM50.1 rfl 24 (by decide) (ht _ fl_R_R_reachedContexts) (fun _ h9 => h9) rfl (by decide +kernel) rfl rfl (Nat.le_of_ble_eq_true rfl) d_R_look_134 (fun H locs hP hS => ?_)
                obtain ⟨G51, eG51⟩ : ∃ z : gw_G, z = va_up G50 x (some (.inr (5, [.int (nI w), .int (nI n), .int (nI md), .ref (adr 3), .ref (adr 4), .ref (adr 5), .ref (adr 6), .ref (adr 7), .ref (adr 8), .ref (adr 9), .ref (adr 10), .ref (adr 11), .ref (adr 12), .ref (adr 13), .ref (adr 14), .ref (adr 15), .ref (adr 16), .ref (adr 17), .int us, .ref (adr 19), .ref (adr 20), .int (nI L.length), .int (o1 + 1), .int o2, .int (o3 + 1)]))) := ⟨_, rfl⟩
                replace hP : gw_P D vwCl (gw_A G s.heap.size) G51 H := by rw [eG51]; exact hP
                have hM51 : m_Arr cI cB cZ x w n md adr (us) (nI L.length) (o1 + 1) (o2) (o3 + 1) ar2 G51 := by rw [eG51]; exact hM50.own md (us) (nI L.length) (o1 + 1) (o2) (o3 + 1)
                refine lv_aload_n hx hb d_R_look_137 rfl (lv_at hl 2 rfl) ?_
                refine lv_dup hx hb d_R_look_138 rfl ?_
                refine va_get (D := D) (ci := 5) (C := "StackRoomModel") (T := T_R) (N := 25) (v := .int o2) hx hb ht in_R hown hK.1 (hP.one hM51.1) 0 rfl rfl 23 (by decide) (ht _ fl_R_R_reachedWords) (fun _ h9 => h9) rfl d_R_look_139 ?_
                refine lv_aload_n hx hb d_R_look_142 rfl (lv_at hl 2 rfl) ?_
                refine va_get (D := D) (ci := 5) (C := "StackRoomModel") (T := T_R) (N := 25) (v := .ref (adr 4)) hx hb ht in_R hown hK.1 (hP.one hM51.1) 0 rfl rfl 4 (by decide) (ht _ fl_R_R_kinds) (fun _ h9 => h9) rfl d_R_look_143 ?_
                refine lv_iload_n hx hb d_R_look_146 rfl (lv_at hl 0 rfl) ?_
                refine va_bald hx hb hK.1 (hP.one hM51.a4) 0 3 rfl ht3 (vp_in_nI hs (by decide)) d_R_look_147 ?_
                rw [nI_clamp (by omega)]
                rw [hkp2 4 (by decide) (by decide), hki, hj]
                refine lv_iconst (v := 3) hx hb d_R_look_148 (by decide) ?_
                refine lv_icmp_ne (tgt := 157) hx hb d_R_look_149 (by decide) (fun _ => ?_) (fun z => absurd z (by decide))
                refine lv_bipush (v := 10) hx hb d_R_look_157 (by decide) ?_
                refine lv_aload_n hx hb d_R_look_159 rfl (lv_at hl 2 rfl) ?_
                refine va_get (D := D) (ci := 5) (C := "StackRoomModel") (T := T_R) (N := 25) (v := .ref (adr 15)) hx hb ht in_R hown hK.1 (hP.one hM51.1) 0 rfl rfl 15 (by decide) (ht _ fl_R_R_rooms) (fun _ h9 => h9) rfl d_R_look_160 ?_
                refine lv_iload_n hx hb d_R_look_163 rfl (lv_at hl 0 rfl) ?_
                refine va_iald hx hb hK.1 (hP.one hM51.a15) 0 2 rfl ht2 (vp_in_nI hs (by decide)) d_R_look_164 ?_
                rw [nI_clamp (by omega)]
                rw [hkp2 15 (by decide) (by decide), hfx.2.2.2.2.2.1]
                refine lv_iadd hx hb d_R_look_165 ?_
                refine lv_iadd hx hb d_R_look_166 ?_
                refine gw_put (D := D) (cl := vwCl) (ci := 5) (C := "StackRoomModel") (T := T_R) (N := 25) (v := .int (o2 + (10 + (nI (s_rm σ i))))) (ty := .int) hx hb ht in_R ty_R tk_R nm_R hown hK.1 hP hS hM51.1 rfl 23 (by decide) (ht _ fl_R_R_reachedWords) (fun _ h9 => h9) rfl (by decide +kernel) rfl rfl (Nat.le_of_ble_eq_true rfl) d_R_look_167 (fun H locs hP hS => ?_)
                obtain ⟨G52, eG52⟩ : ∃ z : gw_G, z = va_up G51 x (some (.inr (5, [.int (nI w), .int (nI n), .int (nI md), .ref (adr 3), .ref (adr 4), .ref (adr 5), .ref (adr 6), .ref (adr 7), .ref (adr 8), .ref (adr 9), .ref (adr 10), .ref (adr 11), .ref (adr 12), .ref (adr 13), .ref (adr 14), .ref (adr 15), .ref (adr 16), .ref (adr 17), .int us, .ref (adr 19), .ref (adr 20), .int (nI L.length), .int (o1 + 1), .int (o2 + (10 + nI (s_rm σ i))), .int (o3 + 1)]))) := ⟨_, rfl⟩
                replace hP : gw_P D vwCl (gw_A G s.heap.size) G52 H := by rw [eG52]; exact hP
                have hM52 : m_Arr cI cB cZ x w n md adr (us) (nI L.length) (o1 + 1) (o2 + (10 + nI (s_rm σ i))) (o3 + 1) ar2 G52 := by rw [eG52]; exact hM51.own md (us) (nI L.length) (o1 + 1) (o2 + (10 + nI (s_rm σ i))) (o3 + 1)
                refine lv_aload_n hx hb d_R_look_170 rfl (lv_at hl 2 rfl) ?_
                refine lv_aload_n hx hb d_R_look_171 rfl (lv_at hl 2 rfl) ?_
                refine va_get (D := D) (ci := 5) (C := "StackRoomModel") (T := T_R) (N := 25) (v := .ref (adr 9)) hx hb ht in_R hown hK.1 (hP.one hM52.1) 0 rfl rfl 9 (by decide) (ht _ fl_R_R_senders) (fun _ h9 => h9) rfl d_R_look_172 ?_
                refine lv_iload_n hx hb d_R_look_175 rfl (lv_at hl 0 rfl) ?_
                refine va_iald hx hb hK.1 (hP.one hM52.a9) 0 2 rfl ht2 (vp_in_nI hs (by decide)) d_R_look_176 ?_
                rw [nI_clamp (by omega)]
                refine W.eq (g2 := F0 m 177 ls [.int (m_val sl ((s_sn σ i).map .inr)), .ref x]) (by rw [hkp2 9 (by decide) (by decide), hfx.1]) ?_
                have hv1 : ∀ j, ((s_sn σ i).map .inr : sV) = some (.inr j) → s_rch σ j := fun j e => s_rch_edge hri ⟨hc, Or.inl (sn_inr e)⟩
                refine g_callv hP hS hA (r_V (rest := []) C0 [.int (m_val sl ((s_sn σ i).map .inr))] (k_R_see l hM52 hQ2 hp2 hO hn4 hsl hinj ht2 ht3 ht4 (u := (s_sn σ i).map .inr) hv1 (fun a e => (sn_no e).elim)) ml_R_R_see im_R_see se_R_R_see_R ini_R co_R_see ⟨rfl, hd_R_see⟩ (g_preV (ci := 5) hK hP rfl hM52.1) hl.1 d_R_look_177 rfl rfl (Nat.le_of_ble_eq_true rfl) ⟨rfl, rfl⟩ ⟨Nat.le_of_ble_eq_true rfl, Nat.le_of_ble_eq_true rfl⟩ ⟨Nat.le_of_ble_eq_true rfl, Nat.le_of_ble_eq_true rfl⟩) (fun G217 H locs hq217 hP hS hz9 hk9 => ?_)
                clear hz9 hk9
                obtain ⟨ar217, hM217, hQ217, hkp217⟩ := hq217
                have hp3 := s_part_add hp2 hv1
                refine lv_aload_n hx hb d_R_look_180 rfl (lv_at hl 2 rfl) ?_
                refine lv_iconst (v := 2) hx hb d_R_look_181 (by decide) ?_
                refine lv_aload_n hx hb d_R_look_182 rfl (lv_at hl 2 rfl) ?_
                refine va_get (D := D) (ci := 5) (C := "StackRoomModel") (T := T_R) (N := 25) (v := .ref (adr 12)) hx hb ht in_R hown hK.1 (hP.one hM217.1) 0 rfl rfl 12 (by decide) (ht _ fl_R_R_links) (fun _ h9 => h9) rfl d_R_look_183 ?_
                refine lv_iload_n hx hb d_R_look_186 rfl (lv_at hl 0 rfl) ?_
                refine va_iald hx hb hK.1 (hP.one hM217.a12) 0 2 rfl ht2 (vp_in_nI hs (by decide)) d_R_look_187 ?_
                rw [nI_clamp (by omega)]
                rw [hkp217 12 (by decide) (by decide), hkp2 12 (by decide) (by decide), hfx.2.2.2.1]
                refine lv_imul hx hb d_R_look_188 ?_
                refine lv_iconst (v := 2) hx hb d_R_look_189 (by decide) ?_
                refine lv_iadd hx hb d_R_look_190 ?_
                refine W.eq (g2 := F0 m 191 ls [.int (m_val sl (some (.inr (s_og σ i)))), .ref x]) (by rw [m_lnk]; rfl) ?_
                have hv2 : ∀ j, (some (.inr (s_og σ i)) : sV) = some (.inr j) → s_rch σ j := fun j e => by cases e; exact s_rch_edge hri ⟨hc, Or.inr (Or.inl rfl)⟩
                refine g_callv hP hS hA (r_V (rest := []) C0 [.int (m_val sl (some (.inr (s_og σ i))))] (k_R_see l hM217 hQ217 hp3 hO hn4 hsl hinj ht2 ht3 ht4 (u := some (.inr (s_og σ i))) hv2 (fun a e => by cases e)) ml_R_R_see im_R_see se_R_R_see_R ini_R co_R_see ⟨rfl, hd_R_see⟩ (g_preV (ci := 5) hK hP rfl hM217.1) hl.1 d_R_look_191 rfl rfl (Nat.le_of_ble_eq_true rfl) ⟨rfl, rfl⟩ ⟨Nat.le_of_ble_eq_true rfl, Nat.le_of_ble_eq_true rfl⟩ ⟨Nat.le_of_ble_eq_true rfl, Nat.le_of_ble_eq_true rfl⟩) (fun G218 H locs hq218 hP hS hz9 hk9 => ?_)
                clear hz9 hk9
                obtain ⟨ar218, hM218, hQ218, hkp218⟩ := hq218
                refine lv_iconst (v := 0) hx hb d_R_look_194 (by decide) ?_
                refine lv_istore_n (lv' := [(3, .int 0), (2, .int (nI (sl i))), (1, .int (nI p3)), (0, .ref x)]) hx hb d_R_look_195 rfl hl (by decide) rfl (fun ls hl => ?_)
                obtain ⟨L2, eL2⟩ : ∃ z, z = s_add (s_add L ((s_sn σ i).map .inr)) (some (.inr (s_og σ i))) := ⟨_, rfl⟩
                obtain ⟨G4, eG4⟩ : ∃ z : gw_G, z = G218 := ⟨_, rfl⟩
                obtain ⟨ar4, ear4⟩ : ∃ z : Nat → Nat → Int32, z = ar218 := ⟨_, rfl⟩
                obtain ⟨b, eb⟩ : ∃ z : Nat, z = 0 := ⟨_, rfl⟩
                obtain ⟨f4, ef4⟩ : ∃ z : Nat, z = s_rm σ i := ⟨_, rfl⟩
                have inv4 : s_rm σ i ≤ b + f4 ∧ b ≤ s_rm σ i ∧ lv_has ls 4 [(3, .int (nI b)), (2, .int (nI (sl i))), (1, .int (nI p3)), (0, .ref x)] ∧ gw_P D vwCl (gw_A G s.heap.size) G4 H ∧ va_S (gw_A G s.heap.size) s.heap H locs ∧ m_Arr cI cB cZ x w n md adr us (nI L2.length) (o1 + 1) (o2 + (10 + nI (s_rm σ i))) (o3 + 1) ar4 G4 ∧ m_Q sl L2 ar4 ∧ s_part σ L2 ∧ (∃ M, L2 = L ++ M) ∧ (∀ k, s_sn σ i = some k → k ∈ L2) ∧ s_og σ i ∈ L2 ∧ (∀ k, k < b → ∀ a, s_fl σ i k = some (.inr a) → a ∈ L2) ∧ (∀ k, k ≠ 19 → k ≠ 20 → ar4 k = ar k) := by
                  refine ⟨by omega, by omega, by rw [eb]; exact lv_sub hl [0, 1, 2, 3] rfl, by rw [eG4]; exact hP, hS, by rw [eG4, ear4, eL2]; exact hM218, by rw [ear4, eL2]; exact hQ218, by rw [eL2]; exact s_part_add hp3 hv2, ?_, fun k hk => ?_, by rw [eL2]; exact s_add_in, fun k hk => absurd hk (by omega), fun k h1 h2 => by rw [ear4, hkp218 k h1 h2, hkp217 k h1 h2]; exact hkp2 k h1 h2⟩
                  · obtain ⟨M1, e1⟩ := s_add_pre L ((s_sn σ i).map .inr)
                    obtain ⟨M2, e2⟩ := s_add_pre (s_add L ((s_sn σ i).map .inr)) (some (.inr (s_og σ i)))
                    exact ⟨M1 ++ M2, by rw [eL2, e2, e1, List.append_assoc]⟩
                  · rw [eL2]
                    refine s_add_sub ?_
                    rw [hk]
                    exact s_add_in
                clear hl hP hS eL2 eG4 ear4 eb ef4
                induction f4 generalizing b ls H locs G4 ar4 L2
                case zero =>
                  obtain ⟨hf4, hbm, hl, hP, hS, hM4, hQ4, hp4, hpre, hsn4, hog4, hfl4, hkp4⟩ := inv4
                  refine lv_iload_n hx hb d_R_look_196 rfl (lv_at hl 0 rfl) ?_
                  refine lv_aload_n hx hb d_R_look_197 rfl (lv_at hl 3 rfl) ?_
                  refine va_get (D := D) (ci := 5) (C := "StackRoomModel") (T := T_R) (N := 25) (v := .ref (adr 15)) hx hb ht in_R hown hK.1 (hP.one hM4.1) 0 rfl rfl 15 (by decide) (ht _ fl_R_R_rooms) (fun _ h9 => h9) rfl d_R_look_198 ?_
                  refine lv_iload_n hx hb d_R_look_201 rfl (lv_at hl 1 rfl) ?_
                  refine va_iald hx hb hK.1 (hP.one hM4.a15) 0 2 rfl ht2 (vp_in_nI hs (by decide)) d_R_look_202 ?_
                  rw [nI_clamp (by omega)]
                  rw [hkp4 15 (by decide) (by decide), hfx.2.2.2.2.2.1]
                  refine lv_icmp_ge (tgt := 229) hx hb d_R_look_203 (by decide) (fun cb => ?_) (fun cb => ?_)
                  · have hgeb := (nI_leI (by omega) (by omega)).mp cb
                    refine lv_iinc (v := nI (p3 + 1)) (lv' := [(1, .int (nI (p3 + 1))), (3, .int (nI b)), (2, .int (nI (sl i))), (0, .ref x)]) hx hb d_R_look_229 hl (k := 2) rfl (by rw [← nI_1]; rfl) (by decide) rfl (fun ls hl => ?_)
                    refine lv_goto (tgt := 68) hx hb d_R_look_232 (by decide) ?_
                    obtain ⟨M, eM⟩ := hpre
                    have sub : ∀ a, a ∈ L → a ∈ L2 := fun a ha => by rw [eM]; exact List.mem_append_left _ ha
                    refine ih3 _ _ _ _ _ _ _ _ _ _ ⟨by omega, by rw [eM, List.length_append]; omega, lv_sub hl [0, 3] rfl, hP, hS, hM4, hQ4, hp4, fun k hk a ha => sub a (hroot k hk a ha), ?_, ?_, ?_, fun k c hk hc2 a ha => ?_, hkp4⟩
                    · rw [eM, s_sum_take hi, he1, show s_en σ i = 1 from s_enC hc, ← nI_add]; rfl
                    · rw [eM, s_sum_take hi, he2, s_wd4 hj, ← nI_add, ← nI_add]; rfl
                    · rw [eM, s_sum_take hi, he3, show s_cn σ i = 1 from if_neg (by omega), ← nI_add]; rfl
                    · have hk2 : k < L.length := by omega
                      rw [eM, List.getElem?_append_left hk2] at hc2
                      by_cases e : k = p3
                      · subst e
                        rw [hi] at hc2
                        cases hc2
                        rcases ha.2 with e | e | ⟨b9, hb1, e⟩
                        · exact hsn4 a e
                        · exact e ▸ hog4
                        · exact hfl4 b9 (by omega) a e
                      · exact sub a (hed k c (by omega) hc2 a ha)
                  · have hltb : b < s_rm σ i := Nat.not_le.mp (fun t => cb ((nI_leI (by omega) (by omega)).mpr t))
                    omega
                case succ f4 ih =>
                  obtain ⟨hf4, hbm, hl, hP, hS, hM4, hQ4, hp4, hpre, hsn4, hog4, hfl4, hkp4⟩ := inv4
                  refine lv_iload_n hx hb d_R_look_196 rfl (lv_at hl 0 rfl) ?_
                  refine lv_aload_n hx hb d_R_look_197 rfl (lv_at hl 3 rfl) ?_
                  refine va_get (D := D) (ci := 5) (C := "StackRoomModel") (T := T_R) (N := 25) (v := .ref (adr 15)) hx hb ht in_R hown hK.1 (hP.one hM4.1) 0 rfl rfl 15 (by decide) (ht _ fl_R_R_rooms) (fun _ h9 => h9) rfl d_R_look_198 ?_
                  refine lv_iload_n hx hb d_R_look_201 rfl (lv_at hl 1 rfl) ?_
                  refine va_iald hx hb hK.1 (hP.one hM4.a15) 0 2 rfl ht2 (vp_in_nI hs (by decide)) d_R_look_202 ?_
                  rw [nI_clamp (by omega)]
                  rw [hkp4 15 (by decide) (by decide), hfx.2.2.2.2.2.1]
                  refine lv_icmp_ge (tgt := 229) hx hb d_R_look_203 (by decide) (fun cb => ?_) (fun cb => ?_)
                  · have hgeb := (nI_leI (by omega) (by omega)).mp cb
                    refine lv_iinc (v := nI (p3 + 1)) (lv' := [(1, .int (nI (p3 + 1))), (3, .int (nI b)), (2, .int (nI (sl i))), (0, .ref x)]) hx hb d_R_look_229 hl (k := 2) rfl (by rw [← nI_1]; rfl) (by decide) rfl (fun ls hl => ?_)
                    refine lv_goto (tgt := 68) hx hb d_R_look_232 (by decide) ?_
                    obtain ⟨M, eM⟩ := hpre
                    have sub : ∀ a, a ∈ L → a ∈ L2 := fun a ha => by rw [eM]; exact List.mem_append_left _ ha
                    refine ih3 _ _ _ _ _ _ _ _ _ _ ⟨by omega, by rw [eM, List.length_append]; omega, lv_sub hl [0, 3] rfl, hP, hS, hM4, hQ4, hp4, fun k hk a ha => sub a (hroot k hk a ha), ?_, ?_, ?_, fun k c hk hc2 a ha => ?_, hkp4⟩
                    · rw [eM, s_sum_take hi, he1, show s_en σ i = 1 from s_enC hc, ← nI_add]; rfl
                    · rw [eM, s_sum_take hi, he2, s_wd4 hj, ← nI_add, ← nI_add]; rfl
                    · rw [eM, s_sum_take hi, he3, show s_cn σ i = 1 from if_neg (by omega), ← nI_add]; rfl
                    · have hk2 : k < L.length := by omega
                      rw [eM, List.getElem?_append_left hk2] at hc2
                      by_cases e : k = p3
                      · subst e
                        rw [hi] at hc2
                        cases hc2
                        rcases ha.2 with e | e | ⟨b9, hb1, e⟩
                        · exact hsn4 a e
                        · exact e ▸ hog4
                        · exact hfl4 b9 (by omega) a e
                      · exact sub a (hed k c (by omega) hc2 a ha)
                  · have hltb : b < s_rm σ i := Nat.not_le.mp (fun t => cb ((nI_leI (by omega) (by omega)).mpr t))
                    refine lv_aload_n hx hb d_R_look_206 rfl (lv_at hl 3 rfl) ?_
                    refine lv_aload_n hx hb d_R_look_207 rfl (lv_at hl 3 rfl) ?_
                    refine va_get (D := D) (ci := 5) (C := "StackRoomModel") (T := T_R) (N := 25) (v := .ref (adr 16)) hx hb ht in_R hown hK.1 (hP.one hM4.1) 0 rfl rfl 16 (by decide) (ht _ fl_R_R_fields) (fun _ h9 => h9) rfl d_R_look_208 ?_
                    refine lv_aload_n hx hb d_R_look_211 rfl (lv_at hl 3 rfl) ?_
                    refine va_get (D := D) (ci := 5) (C := "StackRoomModel") (T := T_R) (N := 25) (v := .ref (adr 14)) hx hb ht in_R hown hK.1 (hP.one hM4.1) 0 rfl rfl 14 (by decide) (ht _ fl_R_R_begins) (fun _ h9 => h9) rfl d_R_look_212 ?_
                    refine lv_iload_n hx hb d_R_look_215 rfl (lv_at hl 1 rfl) ?_
                    refine va_iald hx hb hK.1 (hP.one hM4.a14) 0 2 rfl ht2 (vp_in_nI hs (by decide)) d_R_look_216 ?_
                    rw [nI_clamp (by omega), hkp4 14 (by decide) (by decide), hfx.2.2.2.2.1]
                    refine lv_iload_n hx hb d_R_look_217 rfl (lv_at hl 0 rfl) ?_
                    refine lv_iadd hx hb d_R_look_218 ?_
                    refine W.eq (g2 := F0 m 219 ls [.int (nI (bg i + b)), .ref (adr 16), .ref x]) (by rw [← nI_add]) ?_
                    refine va_iald hx hb hK.1 (hP.one hM4.a16) 0 2 rfl ht2 (vp_in_nI (by omega) (by decide)) d_R_look_219 ?_
                    rw [nI_clamp (by omega), hkp4 16 (by decide) (by decide), hE.2.2.2.2.2.1 i hri hc b hltb]
                    have hv3 : ∀ a, s_fl σ i b = some (.inr a) → s_rch σ a := fun a e => s_rch_edge hri ⟨hc, Or.inr (Or.inr ⟨b, hltb, e⟩)⟩
                    refine g_callv hP hS hA (r_V (rest := []) C0 [.int (m_val sl (s_fl σ i b))] (k_R_see l hM4 hQ4 hp4 hO hn4 hsl hinj ht2 ht3 ht4 (u := s_fl σ i b) hv3 (fun a e => hV.2 i hc b hltb a e)) ml_R_R_see im_R_see se_R_R_see_R ini_R co_R_see ⟨rfl, hd_R_see⟩ (g_preV (ci := 5) hK hP rfl hM4.1) hl.1 d_R_look_220 rfl rfl (Nat.le_of_ble_eq_true rfl) ⟨rfl, rfl⟩ ⟨Nat.le_of_ble_eq_true rfl, Nat.le_of_ble_eq_true rfl⟩ ⟨Nat.le_of_ble_eq_true rfl, Nat.le_of_ble_eq_true rfl⟩) (fun G219 H locs hq219 hP hS hz9 hk9 => ?_)
                    clear hz9 hk9
                    obtain ⟨ar219, hM219, hQ219, hkp219⟩ := hq219
                    refine lv_iinc (v := nI (b + 1)) (lv' := [(3, .int (nI (b + 1))), (2, .int (nI (sl i))), (1, .int (nI p3)), (0, .ref x)]) hx hb d_R_look_223 hl (k := 0) rfl (by rw [← nI_1]; rfl) (by decide) rfl (fun ls hl => ?_)
                    refine lv_goto (tgt := 196) hx hb d_R_look_226 (by decide) ?_
                    refine ih _ _ _ _ _ _ _ ⟨by omega, by omega, lv_sub hl [0, 1, 2, 3] rfl, hP, hS, hM219, hQ219, s_part_add hp4 hv3, ?_, fun k hk => s_add_sub (hsn4 k hk), s_add_sub hog4, fun k hk a ha => ?_, fun k h1 h2 => by rw [hkp219 k h1 h2]; exact hkp4 k h1 h2⟩
                    · obtain ⟨M1, e1⟩ := hpre
                      obtain ⟨M2, e2⟩ := s_add_pre L2 (s_fl σ i b)
                      exact ⟨M1 ++ M2, by rw [e2, e1, List.append_assoc]⟩
                    · by_cases e : k = b
                      · subst e
                        rw [ha]
                        exact s_add_in
                      · exact s_add_sub (hfl4 k (by omega) a ha)
        · have hlt : q < 16 := Nat.not_le.mp (fun t => cq (show nI 16 ≤ nI q from (nI_leI (by omega) (by omega)).mpr t))
          omega
      case succ g ih2 =>
        obtain ⟨hg, hq, hl, hP, hS, hM2, hQ2, hp2, hrg, hkp2⟩ := inv
        refine lv_iload_n hx hb d_R_look_44 rfl (lv_at hl 0 rfl) ?_
        refine lv_bipush (v := 16) hx hb d_R_look_45 (by decide) ?_
        refine lv_icmp_ge (tgt := 66) hx hb d_R_look_47 (by decide) (fun cq => ?_) (fun cq => ?_)
        · have hge2 : 16 ≤ q := (nI_leI (by omega) (by omega)).mp (show nI 16 ≤ nI q from cq)
          refine lv_iconst (v := 0) hx hb d_R_look_66 (by decide) ?_
          refine lv_istore_n (lv' := [(1, .int 0), (0, .ref x)]) hx hb d_R_look_67 rfl hl (by decide) rfl (fun ls hl => ?_)
          have hroot : ∀ k, k < 16 → ∀ a, s_rg σ k = some (.inr a) → a ∈ L := fun k hk => hrg k (by omega)
          obtain ⟨o1, eo1⟩ : ∃ z : Int32, z = 0 := ⟨_, rfl⟩
          obtain ⟨o2, eo2⟩ : ∃ z : Int32, z = 0 := ⟨_, rfl⟩
          obtain ⟨o3, eo3⟩ : ∃ z : Int32, z = 0 := ⟨_, rfl⟩
          obtain ⟨p3, ep3⟩ : ∃ z : Nat, z = 0 := ⟨_, rfl⟩
          obtain ⟨g3, eg3⟩ : ∃ z : Nat, z = n := ⟨_, rfl⟩
          have inv : n ≤ p3 + g3 ∧ p3 ≤ L.length ∧ lv_has ls 4 [(1, .int (nI p3)), (0, .ref x)] ∧ gw_P D vwCl (gw_A G s.heap.size) G2 H ∧ va_S (gw_A G s.heap.size) s.heap H locs ∧ m_Arr cI cB cZ x w n md adr us (nI L.length) (o1) (o2) (o3) ar2 G2 ∧ m_Q sl L ar2 ∧ s_part σ L ∧ (∀ k, k < 16 → ∀ a, s_rg σ k = some (.inr a) → a ∈ L) ∧ o1 = nI (s_sum (s_en σ) (L.take p3)) ∧ o2 = nI (s_sum (s_wd σ) (L.take p3)) ∧ o3 = nI (s_sum (s_cn σ) (L.take p3)) ∧ (∀ k i, k < p3 → L[k]? = some i → ∀ a, s_edge σ i a → a ∈ L) ∧ (∀ k, k ≠ 19 → k ≠ 20 → ar2 k = ar k) := by
            refine ⟨by omega, by omega, by rw [ep3]; exact lv_sub hl [0, 1] rfl, hP, hS, by rw [eo1, eo2, eo3]; exact hM2, hQ2, hp2, hroot, by rw [ep3, eo1]; rfl, by rw [ep3, eo2]; rfl, by rw [ep3, eo3]; rfl, fun k i hk => absurd hk (by omega), hkp2⟩
          clear hl hP hS hM2 hQ2 hp2 hrg hroot eo1 eo2 eo3 ep3 eg3 hkp2 hge2 cq
          induction g3 generalizing p3 ls H locs G2 ar2 L o1 o2 o3
          case zero =>
            obtain ⟨hg3, hqL, hl, hP, hS, hM2, hQ2, hp2, hroot, he1, he2, he3, hed, hkp2⟩ := inv
            have hle := s_part_len hp2 hO
            refine lv_iload_n hx hb d_R_look_68 rfl (lv_at hl 0 rfl) ?_
            refine lv_aload_n hx hb d_R_look_69 rfl (lv_at hl 1 rfl) ?_
            refine va_get (D := D) (ci := 5) (C := "StackRoomModel") (T := T_R) (N := 25) (v := .int (nI L.length)) hx hb ht in_R hown hK.1 (hP.one hM2.1) 0 rfl rfl 21 (by decide) (ht _ fl_R_R_reached) (fun _ h9 => h9) rfl d_R_look_70 ?_
            refine lv_icmp_ge (tgt := 235) hx hb d_R_look_73 (by decide) (fun cp => ?_) (fun cp => ?_)
            · have hq2 : L.length ≤ p3 := (nI_leI (by omega) (by omega)).mp cp
              have henum : s_enum σ L := s_part_enum hp2 hroot (fun j hj k hk => by
                obtain ⟨a, ha⟩ := List.getElem?_of_mem hj
                exact hed a j (by have := (List.getElem?_eq_some_iff.mp ha).1; omega) ha k hk)
              rw [List.take_of_length_le hq2] at he1 he2 he3
              have e1 : s_sum (s_en σ) L = s_N σ := s_N_enum hO.1 henum
              have e2 : s_sum (s_wd σ) L = s_W σ := s_W_enum hO.1 henum
              have e3 : s_sum (s_cn σ) L = s_K σ := s_K_enum hO.1 henum
              rw [e1] at he1
              rw [e2] at he2
              rw [e3] at he3
              rw [he1, he2, he3] at hM2
              exact W.vret hx hb hr (fun t ht hW => ⟨⟨G2, rfl, ⟨ar2, _, hM2, fun i hi => hQ2.1 i ((henum.2 i).mpr hi), fun o ho hno => hQ2.2.1 o ho (fun i hi => hno i ((henum.2 i).mp hi)), hkp2⟩, g_fin ht hP⟩, hS.F ht⟩) hS.2.2 d_R_look_235
            · have hlt : p3 < L.length := Nat.not_le.mp (fun z => cp ((nI_leI (by omega) (by omega)).mpr z))
              omega
          case succ g3 ih3 =>
            obtain ⟨hg3, hqL, hl, hP, hS, hM2, hQ2, hp2, hroot, he1, he2, he3, hed, hkp2⟩ := inv
            have hle := s_part_len hp2 hO
            refine lv_iload_n hx hb d_R_look_68 rfl (lv_at hl 0 rfl) ?_
            refine lv_aload_n hx hb d_R_look_69 rfl (lv_at hl 1 rfl) ?_
            refine va_get (D := D) (ci := 5) (C := "StackRoomModel") (T := T_R) (N := 25) (v := .int (nI L.length)) hx hb ht in_R hown hK.1 (hP.one hM2.1) 0 rfl rfl 21 (by decide) (ht _ fl_R_R_reached) (fun _ h9 => h9) rfl d_R_look_70 ?_
            refine lv_icmp_ge (tgt := 235) hx hb d_R_look_73 (by decide) (fun cp => ?_) (fun cp => ?_)
            · have hq2 : L.length ≤ p3 := (nI_leI (by omega) (by omega)).mp cp
              have henum : s_enum σ L := s_part_enum hp2 hroot (fun j hj k hk => by
                obtain ⟨a, ha⟩ := List.getElem?_of_mem hj
                exact hed a j (by have := (List.getElem?_eq_some_iff.mp ha).1; omega) ha k hk)
              rw [List.take_of_length_le hq2] at he1 he2 he3
              have e1 : s_sum (s_en σ) L = s_N σ := s_N_enum hO.1 henum
              have e2 : s_sum (s_wd σ) L = s_W σ := s_W_enum hO.1 henum
              have e3 : s_sum (s_cn σ) L = s_K σ := s_K_enum hO.1 henum
              rw [e1] at he1
              rw [e2] at he2
              rw [e3] at he3
              rw [he1, he2, he3] at hM2
              exact W.vret hx hb hr (fun t ht hW => ⟨⟨G2, rfl, ⟨ar2, _, hM2, fun i hi => hQ2.1 i ((henum.2 i).mpr hi), fun o ho hno => hQ2.2.1 o ho (fun i hi => hno i ((henum.2 i).mp hi)), hkp2⟩, g_fin ht hP⟩, hS.F ht⟩) hS.2.2 d_R_look_235
            · have hlt : p3 < L.length := Nat.not_le.mp (fun z => cp ((nI_leI (by omega) (by omega)).mpr z))
              obtain ⟨i, hi⟩ : ∃ i, L[p3]? = some i := ⟨_, List.getElem?_eq_getElem hlt⟩
              have hri := hp2.2 i (List.mem_of_getElem? hi)
              have hi0 := s_rch_kd hO.1 hri
              have hs := hsl i hri
              have hki := (hE.2.1 i hri).2.1
              refine lv_aload_n hx hb d_R_look_76 rfl (lv_at hl 1 rfl) ?_
              refine va_get (D := D) (ci := 5) (C := "StackRoomModel") (T := T_R) (N := 25) (v := .ref (adr 20)) hx hb ht in_R hown hK.1 (hP.one hM2.1) 0 rfl rfl 20 (by decide) (ht _ fl_R_R_todo) (fun _ h9 => h9) rfl d_R_look_77 ?_
              refine lv_iload_n hx hb d_R_look_80 rfl (lv_at hl 0 rfl) ?_
              refine va_iald hx hb hK.1 (hP.one hM2.a20) 0 2 rfl ht2 (vp_in_nI (by omega) (by decide)) d_R_look_81 ?_
              rw [nI_clamp (by omega)]
              rw [hQ2.2.2 p3 i hi]
              refine lv_istore_n (lv' := [(2, .int (nI (sl i))), (1, .int (nI p3)), (0, .ref x)]) hx hb d_R_look_82 rfl hl (by decide) rfl (fun ls hl => ?_)
              refine lv_aload_n hx hb d_R_look_83 rfl (lv_at hl 2 rfl) ?_
              refine va_get (D := D) (ci := 5) (C := "StackRoomModel") (T := T_R) (N := 25) (v := .ref (adr 4)) hx hb ht in_R hown hK.1 (hP.one hM2.1) 0 rfl rfl 4 (by decide) (ht _ fl_R_R_kinds) (fun _ h9 => h9) rfl d_R_look_84 ?_
              refine lv_iload_n hx hb d_R_look_87 rfl (lv_at hl 0 rfl) ?_
              refine va_bald hx hb hK.1 (hP.one hM2.a4) 0 3 rfl ht3 (vp_in_nI hs (by decide)) d_R_look_88 ?_
              rw [nI_clamp (by omega)]
              rw [hkp2 4 (by decide) (by decide), hki]
              rcases (hO.1.2.1 i hi0).2.2 with hj | hj | hj
              · rw [hj]
                refine lv_iconst (v := 2) hx hb d_R_look_89 (by decide) ?_
                refine lv_icmp_ne (tgt := 117) hx hb d_R_look_90 (by decide) (fun z => absurd rfl z) (fun _ => ?_)
                refine lv_aload_n hx hb d_R_look_93 rfl (lv_at hl 2 rfl) ?_
                refine lv_dup hx hb d_R_look_94 rfl ?_
                refine va_get (D := D) (ci := 5) (C := "StackRoomModel") (T := T_R) (N := 25) (v := .int o1) hx hb ht in_R hown hK.1 (hP.one hM2.1) 0 rfl rfl 22 (by decide) (ht _ fl_R_R_reachedObjects) (fun _ h9 => h9) rfl d_R_look_95 ?_
                refine lv_iconst (v := 2) hx hb d_R_look_98 (by decide) ?_
                refine lv_iadd hx hb d_R_look_99 ?_
                refine gw_put (D := D) (cl := vwCl) (ci := 5) (C := "StackRoomModel") (T := T_R) (N := 25) (v := .int (o1 + 2)) (ty := .int) hx hb ht in_R ty_R tk_R nm_R hown hK.1 hP hS hM2.1 rfl 22 (by decide) (ht _ fl_R_R_reachedObjects) (fun _ h9 => h9) rfl (by decide +kernel) rfl rfl (Nat.le_of_ble_eq_true rfl) d_R_look_100 (fun H locs hP hS => ?_)
                obtain ⟨G53, eG53⟩ : ∃ z : gw_G, z = va_up G2 x (some (.inr (5, [.int (nI w), .int (nI n), .int (nI md), .ref (adr 3), .ref (adr 4), .ref (adr 5), .ref (adr 6), .ref (adr 7), .ref (adr 8), .ref (adr 9), .ref (adr 10), .ref (adr 11), .ref (adr 12), .ref (adr 13), .ref (adr 14), .ref (adr 15), .ref (adr 16), .ref (adr 17), .int us, .ref (adr 19), .ref (adr 20), .int (nI L.length), .int (o1 + 2), .int o2, .int o3]))) := ⟨_, rfl⟩
                replace hP : gw_P D vwCl (gw_A G s.heap.size) G53 H := by rw [eG53]; exact hP
                have hM53 : m_Arr cI cB cZ x w n md adr (us) (nI L.length) (o1 + 2) (o2) (o3) ar2 G53 := by rw [eG53]; exact hM2.own md (us) (nI L.length) (o1 + 2) (o2) (o3)
                refine lv_aload_n hx hb d_R_look_103 rfl (lv_at hl 2 rfl) ?_
                refine lv_dup hx hb d_R_look_104 rfl ?_
                refine va_get (D := D) (ci := 5) (C := "StackRoomModel") (T := T_R) (N := 25) (v := .int o2) hx hb ht in_R hown hK.1 (hP.one hM53.1) 0 rfl rfl 23 (by decide) (ht _ fl_R_R_reachedWords) (fun _ h9 => h9) rfl d_R_look_105 ?_
                refine lv_bipush (v := 10) hx hb d_R_look_108 (by decide) ?_
                refine lv_iadd hx hb d_R_look_110 ?_
                refine gw_put (D := D) (cl := vwCl) (ci := 5) (C := "StackRoomModel") (T := T_R) (N := 25) (v := .int (o2 + 10)) (ty := .int) hx hb ht in_R ty_R tk_R nm_R hown hK.1 hP hS hM53.1 rfl 23 (by decide) (ht _ fl_R_R_reachedWords) (fun _ h9 => h9) rfl (by decide +kernel) rfl rfl (Nat.le_of_ble_eq_true rfl) d_R_look_111 (fun H locs hP hS => ?_)
                obtain ⟨G54, eG54⟩ : ∃ z : gw_G, z = va_up G53 x (some (.inr (5, [.int (nI w), .int (nI n), .int (nI md), .ref (adr 3), .ref (adr 4), .ref (adr 5), .ref (adr 6), .ref (adr 7), .ref (adr 8), .ref (adr 9), .ref (adr 10), .ref (adr 11), .ref (adr 12), .ref (adr 13), .ref (adr 14), .ref (adr 15), .ref (adr 16), .ref (adr 17), .int us, .ref (adr 19), .ref (adr 20), .int (nI L.length), .int (o1 + 2), .int (o2 + 10), .int o3]))) := ⟨_, rfl⟩
                replace hP : gw_P D vwCl (gw_A G s.heap.size) G54 H := by rw [eG54]; exact hP
                have hM54 : m_Arr cI cB cZ x w n md adr (us) (nI L.length) (o1 + 2) (o2 + 10) (o3) ar2 G54 := by rw [eG54]; exact hM53.own md (us) (nI L.length) (o1 + 2) (o2 + 10) (o3)
                refine lv_goto (tgt := 229) hx hb d_R_look_114 (by decide) ?_
                refine lv_iinc (v := nI (p3 + 1)) (lv' := [(1, .int (nI (p3 + 1))), (2, .int (nI (sl i))), (0, .ref x)]) hx hb d_R_look_229 hl (k := 1) rfl (by rw [← nI_1]; rfl) (by decide) rfl (fun ls hl => ?_)
                refine lv_goto (tgt := 68) hx hb d_R_look_232 (by decide) ?_
                have e7 : ∀ f : Nat → Nat, s_sum f (L.take (p3 + 1)) = s_sum f (L.take p3) + f i := fun f => by
                  have := s_sum_take (f := f) (M := []) hi
                  rwa [List.append_nil] at this
                refine ih3 _ _ _ _ _ _ _ _ _ _ ⟨by omega, by omega, lv_sub hl [0, 2] rfl, hP, hS, hM54, hQ2, hp2, hroot, ?_, ?_, ?_, fun k b hk hb a ha => ?_, hkp2⟩
                · rw [e7, he1, show s_en σ i = 2 from s_en2 hj, ← nI_add]; rfl
                · rw [e7, he2, show s_wd σ i = 10 from s_wd2 hj, ← nI_add]; rfl
                · rw [e7, he3, show s_cn σ i = 0 from if_pos hj, Nat.add_zero]
                · by_cases e : k = p3
                  · subst e
                    rw [hi] at hb
                    cases hb
                    exact absurd ha.1 (fun z => by rcases z with z | z <;> omega)
                  · exact hed k b (by omega) hb a ha
              · have hc : s_isC σ i := Or.inl hj
                have hfx := hE.2.2.2.1 i hri hc
                have hb94 := (hO.1.2.2.2.2.2.2 i hc).2.2.1
                have hU := hE.2.2.2.2.2.2.2.2
                rw [hj]
                refine lv_iconst (v := 2) hx hb d_R_look_89 (by decide) ?_
                refine lv_icmp_ne (tgt := 117) hx hb d_R_look_90 (by decide) (fun _ => ?_) (fun z => absurd z (by decide))
                refine lv_aload_n hx hb d_R_look_117 rfl (lv_at hl 2 rfl) ?_
                refine lv_dup hx hb d_R_look_118 rfl ?_
                refine va_get (D := D) (ci := 5) (C := "StackRoomModel") (T := T_R) (N := 25) (v := .int o1) hx hb ht in_R hown hK.1 (hP.one hM2.1) 0 rfl rfl 22 (by decide) (ht _ fl_R_R_reachedObjects) (fun _ h9 => h9) rfl d_R_look_119 ?_
                refine lv_iconst (v := 1) hx hb d_R_look_122 (by decide) ?_
                refine lv_iadd hx hb d_R_look_123 ?_
                refine gw_put (D := D) (cl := vwCl) (ci := 5) (C := "StackRoomModel") (T := T_R) (N := 25) (v := .int (o1 + 1)) (ty := .int) hx hb ht in_R ty_R tk_R nm_R hown hK.1 hP hS hM2.1 rfl 22 (by decide) (ht _ fl_R_R_reachedObjects) (fun _ h9 => h9) rfl (by decide +kernel) rfl rfl (Nat.le_of_ble_eq_true rfl) d_R_look_124 (fun H locs hP hS => ?_)
                obtain ⟨G55, eG55⟩ : ∃ z : gw_G, z = va_up G2 x (some (.inr (5, [.int (nI w), .int (nI n), .int (nI md), .ref (adr 3), .ref (adr 4), .ref (adr 5), .ref (adr 6), .ref (adr 7), .ref (adr 8), .ref (adr 9), .ref (adr 10), .ref (adr 11), .ref (adr 12), .ref (adr 13), .ref (adr 14), .ref (adr 15), .ref (adr 16), .ref (adr 17), .int us, .ref (adr 19), .ref (adr 20), .int (nI L.length), .int (o1 + 1), .int o2, .int o3]))) := ⟨_, rfl⟩
                replace hP : gw_P D vwCl (gw_A G s.heap.size) G55 H := by rw [eG55]; exact hP
                have hM55 : m_Arr cI cB cZ x w n md adr (us) (nI L.length) (o1 + 1) (o2) (o3) ar2 G55 := by rw [eG55]; exact hM2.own md (us) (nI L.length) (o1 + 1) (o2) (o3)
                refine lv_aload_n hx hb d_R_look_127 rfl (lv_at hl 2 rfl) ?_
                refine lv_dup hx hb d_R_look_128 rfl ?_
                refine va_get (D := D) (ci := 5) (C := "StackRoomModel") (T := T_R) (N := 25) (v := .int o3) hx hb ht in_R hown hK.1 (hP.one hM55.1) 0 rfl rfl 24 (by decide) (ht _ fl_R_R_reachedContexts) (fun _ h9 => h9) rfl d_R_look_129 ?_
                refine lv_iconst (v := 1) hx hb d_R_look_132 (by decide) ?_
                refine lv_iadd hx hb d_R_look_133 ?_
                refine gw_put (D := D) (cl := vwCl) (ci := 5) (C := "StackRoomModel") (T := T_R) (N := 25) (v := .int (o3 + 1)) (ty := .int) hx hb ht in_R ty_R tk_R nm_R hown hK.1 hP hS hM55.1 rfl 24 (by decide) (ht _ fl_R_R_reachedContexts) (fun _ h9 => h9) rfl (by decide +kernel) rfl rfl (Nat.le_of_ble_eq_true rfl) d_R_look_134 (fun H locs hP hS => ?_)
                obtain ⟨G56, eG56⟩ : ∃ z : gw_G, z = va_up G55 x (some (.inr (5, [.int (nI w), .int (nI n), .int (nI md), .ref (adr 3), .ref (adr 4), .ref (adr 5), .ref (adr 6), .ref (adr 7), .ref (adr 8), .ref (adr 9), .ref (adr 10), .ref (adr 11), .ref (adr 12), .ref (adr 13), .ref (adr 14), .ref (adr 15), .ref (adr 16), .ref (adr 17), .int us, .ref (adr 19), .ref (adr 20), .int (nI L.length), .int (o1 + 1), .int o2, .int (o3 + 1)]))) := ⟨_, rfl⟩
                replace hP : gw_P D vwCl (gw_A G s.heap.size) G56 H := by rw [eG56]; exact hP
                have hM56 : m_Arr cI cB cZ x w n md adr (us) (nI L.length) (o1 + 1) (o2) (o3 + 1) ar2 G56 := by rw [eG56]; exact hM55.own md (us) (nI L.length) (o1 + 1) (o2) (o3 + 1)
                refine lv_aload_n hx hb d_R_look_137 rfl (lv_at hl 2 rfl) ?_
                refine lv_dup hx hb d_R_look_138 rfl ?_
                refine va_get (D := D) (ci := 5) (C := "StackRoomModel") (T := T_R) (N := 25) (v := .int o2) hx hb ht in_R hown hK.1 (hP.one hM56.1) 0 rfl rfl 23 (by decide) (ht _ fl_R_R_reachedWords) (fun _ h9 => h9) rfl d_R_look_139 ?_
                refine lv_aload_n hx hb d_R_look_142 rfl (lv_at hl 2 rfl) ?_
                refine va_get (D := D) (ci := 5) (C := "StackRoomModel") (T := T_R) (N := 25) (v := .ref (adr 4)) hx hb ht in_R hown hK.1 (hP.one hM56.1) 0 rfl rfl 4 (by decide) (ht _ fl_R_R_kinds) (fun _ h9 => h9) rfl d_R_look_143 ?_
                refine lv_iload_n hx hb d_R_look_146 rfl (lv_at hl 0 rfl) ?_
                refine va_bald hx hb hK.1 (hP.one hM56.a4) 0 3 rfl ht3 (vp_in_nI hs (by decide)) d_R_look_147 ?_
                rw [nI_clamp (by omega)]
                rw [hkp2 4 (by decide) (by decide), hki, hj]
                refine lv_iconst (v := 3) hx hb d_R_look_148 (by decide) ?_
                refine lv_icmp_ne (tgt := 157) hx hb d_R_look_149 (by decide) (fun z => absurd rfl z) (fun _ => ?_)
                refine lv_bipush (v := 9) hx hb d_R_look_152 (by decide) ?_
                refine lv_goto (tgt := 159) hx hb d_R_look_154 (by decide) ?_
                refine lv_aload_n hx hb d_R_look_159 rfl (lv_at hl 2 rfl) ?_
                refine va_get (D := D) (ci := 5) (C := "StackRoomModel") (T := T_R) (N := 25) (v := .ref (adr 15)) hx hb ht in_R hown hK.1 (hP.one hM56.1) 0 rfl rfl 15 (by decide) (ht _ fl_R_R_rooms) (fun _ h9 => h9) rfl d_R_look_160 ?_
                refine lv_iload_n hx hb d_R_look_163 rfl (lv_at hl 0 rfl) ?_
                refine va_iald hx hb hK.1 (hP.one hM56.a15) 0 2 rfl ht2 (vp_in_nI hs (by decide)) d_R_look_164 ?_
                rw [nI_clamp (by omega)]
                rw [hkp2 15 (by decide) (by decide), hfx.2.2.2.2.2.1]
                refine lv_iadd hx hb d_R_look_165 ?_
                refine lv_iadd hx hb d_R_look_166 ?_
                refine gw_put (D := D) (cl := vwCl) (ci := 5) (C := "StackRoomModel") (T := T_R) (N := 25) (v := .int (o2 + (9 + (nI (s_rm σ i))))) (ty := .int) hx hb ht in_R ty_R tk_R nm_R hown hK.1 hP hS hM56.1 rfl 23 (by decide) (ht _ fl_R_R_reachedWords) (fun _ h9 => h9) rfl (by decide +kernel) rfl rfl (Nat.le_of_ble_eq_true rfl) d_R_look_167 (fun H locs hP hS => ?_)
                obtain ⟨G57, eG57⟩ : ∃ z : gw_G, z = va_up G56 x (some (.inr (5, [.int (nI w), .int (nI n), .int (nI md), .ref (adr 3), .ref (adr 4), .ref (adr 5), .ref (adr 6), .ref (adr 7), .ref (adr 8), .ref (adr 9), .ref (adr 10), .ref (adr 11), .ref (adr 12), .ref (adr 13), .ref (adr 14), .ref (adr 15), .ref (adr 16), .ref (adr 17), .int us, .ref (adr 19), .ref (adr 20), .int (nI L.length), .int (o1 + 1), .int (o2 + (9 + nI (s_rm σ i))), .int (o3 + 1)]))) := ⟨_, rfl⟩
                replace hP : gw_P D vwCl (gw_A G s.heap.size) G57 H := by rw [eG57]; exact hP
                have hM57 : m_Arr cI cB cZ x w n md adr (us) (nI L.length) (o1 + 1) (o2 + (9 + nI (s_rm σ i))) (o3 + 1) ar2 G57 := by rw [eG57]; exact hM56.own md (us) (nI L.length) (o1 + 1) (o2 + (9 + nI (s_rm σ i))) (o3 + 1)
                refine lv_aload_n hx hb d_R_look_170 rfl (lv_at hl 2 rfl) ?_
                refine lv_aload_n hx hb d_R_look_171 rfl (lv_at hl 2 rfl) ?_
                refine va_get (D := D) (ci := 5) (C := "StackRoomModel") (T := T_R) (N := 25) (v := .ref (adr 9)) hx hb ht in_R hown hK.1 (hP.one hM57.1) 0 rfl rfl 9 (by decide) (ht _ fl_R_R_senders) (fun _ h9 => h9) rfl d_R_look_172 ?_
                refine lv_iload_n hx hb d_R_look_175 rfl (lv_at hl 0 rfl) ?_
                refine va_iald hx hb hK.1 (hP.one hM57.a9) 0 2 rfl ht2 (vp_in_nI hs (by decide)) d_R_look_176 ?_
                rw [nI_clamp (by omega)]
                refine W.eq (g2 := F0 m 177 ls [.int (m_val sl ((s_sn σ i).map .inr)), .ref x]) (by rw [hkp2 9 (by decide) (by decide), hfx.1]) ?_
                have hv1 : ∀ j, ((s_sn σ i).map .inr : sV) = some (.inr j) → s_rch σ j := fun j e => s_rch_edge hri ⟨hc, Or.inl (sn_inr e)⟩
                refine g_callv hP hS hA (r_V (rest := []) C0 [.int (m_val sl ((s_sn σ i).map .inr))] (k_R_see l hM57 hQ2 hp2 hO hn4 hsl hinj ht2 ht3 ht4 (u := (s_sn σ i).map .inr) hv1 (fun a e => (sn_no e).elim)) ml_R_R_see im_R_see se_R_R_see_R ini_R co_R_see ⟨rfl, hd_R_see⟩ (g_preV (ci := 5) hK hP rfl hM57.1) hl.1 d_R_look_177 rfl rfl (Nat.le_of_ble_eq_true rfl) ⟨rfl, rfl⟩ ⟨Nat.le_of_ble_eq_true rfl, Nat.le_of_ble_eq_true rfl⟩ ⟨Nat.le_of_ble_eq_true rfl, Nat.le_of_ble_eq_true rfl⟩) (fun G220 H locs hq220 hP hS hz9 hk9 => ?_)
                clear hz9 hk9
                obtain ⟨ar220, hM220, hQ220, hkp220⟩ := hq220
                have hp3 := s_part_add hp2 hv1
                refine lv_aload_n hx hb d_R_look_180 rfl (lv_at hl 2 rfl) ?_
                refine lv_iconst (v := 2) hx hb d_R_look_181 (by decide) ?_
                refine lv_aload_n hx hb d_R_look_182 rfl (lv_at hl 2 rfl) ?_
                refine va_get (D := D) (ci := 5) (C := "StackRoomModel") (T := T_R) (N := 25) (v := .ref (adr 12)) hx hb ht in_R hown hK.1 (hP.one hM220.1) 0 rfl rfl 12 (by decide) (ht _ fl_R_R_links) (fun _ h9 => h9) rfl d_R_look_183 ?_
                refine lv_iload_n hx hb d_R_look_186 rfl (lv_at hl 0 rfl) ?_
                refine va_iald hx hb hK.1 (hP.one hM220.a12) 0 2 rfl ht2 (vp_in_nI hs (by decide)) d_R_look_187 ?_
                rw [nI_clamp (by omega)]
                rw [hkp220 12 (by decide) (by decide), hkp2 12 (by decide) (by decide), hfx.2.2.2.1]
                refine lv_imul hx hb d_R_look_188 ?_
                refine lv_iconst (v := 2) hx hb d_R_look_189 (by decide) ?_
                refine lv_iadd hx hb d_R_look_190 ?_
                refine W.eq (g2 := F0 m 191 ls [.int (m_val sl (some (.inr (s_og σ i)))), .ref x]) (by rw [m_lnk]; rfl) ?_
                have hv2 : ∀ j, (some (.inr (s_og σ i)) : sV) = some (.inr j) → s_rch σ j := fun j e => by cases e; exact s_rch_edge hri ⟨hc, Or.inr (Or.inl rfl)⟩
                refine g_callv hP hS hA (r_V (rest := []) C0 [.int (m_val sl (some (.inr (s_og σ i))))] (k_R_see l hM220 hQ220 hp3 hO hn4 hsl hinj ht2 ht3 ht4 (u := some (.inr (s_og σ i))) hv2 (fun a e => by cases e)) ml_R_R_see im_R_see se_R_R_see_R ini_R co_R_see ⟨rfl, hd_R_see⟩ (g_preV (ci := 5) hK hP rfl hM220.1) hl.1 d_R_look_191 rfl rfl (Nat.le_of_ble_eq_true rfl) ⟨rfl, rfl⟩ ⟨Nat.le_of_ble_eq_true rfl, Nat.le_of_ble_eq_true rfl⟩ ⟨Nat.le_of_ble_eq_true rfl, Nat.le_of_ble_eq_true rfl⟩) (fun G221 H locs hq221 hP hS hz9 hk9 => ?_)
                clear hz9 hk9
                obtain ⟨ar221, hM221, hQ221, hkp221⟩ := hq221
                refine lv_iconst (v := 0) hx hb d_R_look_194 (by decide) ?_
                refine lv_istore_n (lv' := [(3, .int 0), (2, .int (nI (sl i))), (1, .int (nI p3)), (0, .ref x)]) hx hb d_R_look_195 rfl hl (by decide) rfl (fun ls hl => ?_)
                obtain ⟨L2, eL2⟩ : ∃ z, z = s_add (s_add L ((s_sn σ i).map .inr)) (some (.inr (s_og σ i))) := ⟨_, rfl⟩
                obtain ⟨G4, eG4⟩ : ∃ z : gw_G, z = G221 := ⟨_, rfl⟩
                obtain ⟨ar4, ear4⟩ : ∃ z : Nat → Nat → Int32, z = ar221 := ⟨_, rfl⟩
                obtain ⟨b, eb⟩ : ∃ z : Nat, z = 0 := ⟨_, rfl⟩
                obtain ⟨f4, ef4⟩ : ∃ z : Nat, z = s_rm σ i := ⟨_, rfl⟩
                have inv4 : s_rm σ i ≤ b + f4 ∧ b ≤ s_rm σ i ∧ lv_has ls 4 [(3, .int (nI b)), (2, .int (nI (sl i))), (1, .int (nI p3)), (0, .ref x)] ∧ gw_P D vwCl (gw_A G s.heap.size) G4 H ∧ va_S (gw_A G s.heap.size) s.heap H locs ∧ m_Arr cI cB cZ x w n md adr us (nI L2.length) (o1 + 1) (o2 + (9 + nI (s_rm σ i))) (o3 + 1) ar4 G4 ∧ m_Q sl L2 ar4 ∧ s_part σ L2 ∧ (∃ M, L2 = L ++ M) ∧ (∀ k, s_sn σ i = some k → k ∈ L2) ∧ s_og σ i ∈ L2 ∧ (∀ k, k < b → ∀ a, s_fl σ i k = some (.inr a) → a ∈ L2) ∧ (∀ k, k ≠ 19 → k ≠ 20 → ar4 k = ar k) := by
                  refine ⟨by omega, by omega, by rw [eb]; exact lv_sub hl [0, 1, 2, 3] rfl, by rw [eG4]; exact hP, hS, by rw [eG4, ear4, eL2]; exact hM221, by rw [ear4, eL2]; exact hQ221, by rw [eL2]; exact s_part_add hp3 hv2, ?_, fun k hk => ?_, by rw [eL2]; exact s_add_in, fun k hk => absurd hk (by omega), fun k h1 h2 => by rw [ear4, hkp221 k h1 h2, hkp220 k h1 h2]; exact hkp2 k h1 h2⟩
                  · obtain ⟨M1, e1⟩ := s_add_pre L ((s_sn σ i).map .inr)
                    obtain ⟨M2, e2⟩ := s_add_pre (s_add L ((s_sn σ i).map .inr)) (some (.inr (s_og σ i)))
                    exact ⟨M1 ++ M2, by rw [eL2, e2, e1, List.append_assoc]⟩
                  · rw [eL2]
                    refine s_add_sub ?_
                    rw [hk]
                    exact s_add_in
                clear hl hP hS eL2 eG4 ear4 eb ef4
                induction f4 generalizing b ls H locs G4 ar4 L2
                case zero =>
                  obtain ⟨hf4, hbm, hl, hP, hS, hM4, hQ4, hp4, hpre, hsn4, hog4, hfl4, hkp4⟩ := inv4
                  refine lv_iload_n hx hb d_R_look_196 rfl (lv_at hl 0 rfl) ?_
                  refine lv_aload_n hx hb d_R_look_197 rfl (lv_at hl 3 rfl) ?_
                  refine va_get (D := D) (ci := 5) (C := "StackRoomModel") (T := T_R) (N := 25) (v := .ref (adr 15)) hx hb ht in_R hown hK.1 (hP.one hM4.1) 0 rfl rfl 15 (by decide) (ht _ fl_R_R_rooms) (fun _ h9 => h9) rfl d_R_look_198 ?_
                  refine lv_iload_n hx hb d_R_look_201 rfl (lv_at hl 1 rfl) ?_
                  refine va_iald hx hb hK.1 (hP.one hM4.a15) 0 2 rfl ht2 (vp_in_nI hs (by decide)) d_R_look_202 ?_
                  rw [nI_clamp (by omega)]
                  rw [hkp4 15 (by decide) (by decide), hfx.2.2.2.2.2.1]
                  refine lv_icmp_ge (tgt := 229) hx hb d_R_look_203 (by decide) (fun cb => ?_) (fun cb => ?_)
                  · have hgeb := (nI_leI (by omega) (by omega)).mp cb
                    refine lv_iinc (v := nI (p3 + 1)) (lv' := [(1, .int (nI (p3 + 1))), (3, .int (nI b)), (2, .int (nI (sl i))), (0, .ref x)]) hx hb d_R_look_229 hl (k := 2) rfl (by rw [← nI_1]; rfl) (by decide) rfl (fun ls hl => ?_)
                    refine lv_goto (tgt := 68) hx hb d_R_look_232 (by decide) ?_
                    obtain ⟨M, eM⟩ := hpre
                    have sub : ∀ a, a ∈ L → a ∈ L2 := fun a ha => by rw [eM]; exact List.mem_append_left _ ha
                    refine ih3 _ _ _ _ _ _ _ _ _ _ ⟨by omega, by rw [eM, List.length_append]; omega, lv_sub hl [0, 3] rfl, hP, hS, hM4, hQ4, hp4, fun k hk a ha => sub a (hroot k hk a ha), ?_, ?_, ?_, fun k c hk hc2 a ha => ?_, hkp4⟩
                    · rw [eM, s_sum_take hi, he1, show s_en σ i = 1 from s_enC hc, ← nI_add]; rfl
                    · rw [eM, s_sum_take hi, he2, s_wd3 hj, ← nI_add, ← nI_add]; rfl
                    · rw [eM, s_sum_take hi, he3, show s_cn σ i = 1 from if_neg (by omega), ← nI_add]; rfl
                    · have hk2 : k < L.length := by omega
                      rw [eM, List.getElem?_append_left hk2] at hc2
                      by_cases e : k = p3
                      · subst e
                        rw [hi] at hc2
                        cases hc2
                        rcases ha.2 with e | e | ⟨b9, hb1, e⟩
                        · exact hsn4 a e
                        · exact e ▸ hog4
                        · exact hfl4 b9 (by omega) a e
                      · exact sub a (hed k c (by omega) hc2 a ha)
                  · have hltb : b < s_rm σ i := Nat.not_le.mp (fun t => cb ((nI_leI (by omega) (by omega)).mpr t))
                    omega
                case succ f4 ih =>
                  obtain ⟨hf4, hbm, hl, hP, hS, hM4, hQ4, hp4, hpre, hsn4, hog4, hfl4, hkp4⟩ := inv4
                  refine lv_iload_n hx hb d_R_look_196 rfl (lv_at hl 0 rfl) ?_
                  refine lv_aload_n hx hb d_R_look_197 rfl (lv_at hl 3 rfl) ?_
                  refine va_get (D := D) (ci := 5) (C := "StackRoomModel") (T := T_R) (N := 25) (v := .ref (adr 15)) hx hb ht in_R hown hK.1 (hP.one hM4.1) 0 rfl rfl 15 (by decide) (ht _ fl_R_R_rooms) (fun _ h9 => h9) rfl d_R_look_198 ?_
                  refine lv_iload_n hx hb d_R_look_201 rfl (lv_at hl 1 rfl) ?_
                  refine va_iald hx hb hK.1 (hP.one hM4.a15) 0 2 rfl ht2 (vp_in_nI hs (by decide)) d_R_look_202 ?_
                  rw [nI_clamp (by omega)]
                  rw [hkp4 15 (by decide) (by decide), hfx.2.2.2.2.2.1]
                  refine lv_icmp_ge (tgt := 229) hx hb d_R_look_203 (by decide) (fun cb => ?_) (fun cb => ?_)
                  · have hgeb := (nI_leI (by omega) (by omega)).mp cb
                    refine lv_iinc (v := nI (p3 + 1)) (lv' := [(1, .int (nI (p3 + 1))), (3, .int (nI b)), (2, .int (nI (sl i))), (0, .ref x)]) hx hb d_R_look_229 hl (k := 2) rfl (by rw [← nI_1]; rfl) (by decide) rfl (fun ls hl => ?_)
                    refine lv_goto (tgt := 68) hx hb d_R_look_232 (by decide) ?_
                    obtain ⟨M, eM⟩ := hpre
                    have sub : ∀ a, a ∈ L → a ∈ L2 := fun a ha => by rw [eM]; exact List.mem_append_left _ ha
                    refine ih3 _ _ _ _ _ _ _ _ _ _ ⟨by omega, by rw [eM, List.length_append]; omega, lv_sub hl [0, 3] rfl, hP, hS, hM4, hQ4, hp4, fun k hk a ha => sub a (hroot k hk a ha), ?_, ?_, ?_, fun k c hk hc2 a ha => ?_, hkp4⟩
                    · rw [eM, s_sum_take hi, he1, show s_en σ i = 1 from s_enC hc, ← nI_add]; rfl
                    · rw [eM, s_sum_take hi, he2, s_wd3 hj, ← nI_add, ← nI_add]; rfl
                    · rw [eM, s_sum_take hi, he3, show s_cn σ i = 1 from if_neg (by omega), ← nI_add]; rfl
                    · have hk2 : k < L.length := by omega
                      rw [eM, List.getElem?_append_left hk2] at hc2
                      by_cases e : k = p3
                      · subst e
                        rw [hi] at hc2
                        cases hc2
                        rcases ha.2 with e | e | ⟨b9, hb1, e⟩
                        · exact hsn4 a e
                        · exact e ▸ hog4
                        · exact hfl4 b9 (by omega) a e
                      · exact sub a (hed k c (by omega) hc2 a ha)
                  · have hltb : b < s_rm σ i := Nat.not_le.mp (fun t => cb ((nI_leI (by omega) (by omega)).mpr t))
                    refine lv_aload_n hx hb d_R_look_206 rfl (lv_at hl 3 rfl) ?_
                    refine lv_aload_n hx hb d_R_look_207 rfl (lv_at hl 3 rfl) ?_
                    refine va_get (D := D) (ci := 5) (C := "StackRoomModel") (T := T_R) (N := 25) (v := .ref (adr 16)) hx hb ht in_R hown hK.1 (hP.one hM4.1) 0 rfl rfl 16 (by decide) (ht _ fl_R_R_fields) (fun _ h9 => h9) rfl d_R_look_208 ?_
                    refine lv_aload_n hx hb d_R_look_211 rfl (lv_at hl 3 rfl) ?_
                    refine va_get (D := D) (ci := 5) (C := "StackRoomModel") (T := T_R) (N := 25) (v := .ref (adr 14)) hx hb ht in_R hown hK.1 (hP.one hM4.1) 0 rfl rfl 14 (by decide) (ht _ fl_R_R_begins) (fun _ h9 => h9) rfl d_R_look_212 ?_
                    refine lv_iload_n hx hb d_R_look_215 rfl (lv_at hl 1 rfl) ?_
                    refine va_iald hx hb hK.1 (hP.one hM4.a14) 0 2 rfl ht2 (vp_in_nI hs (by decide)) d_R_look_216 ?_
                    rw [nI_clamp (by omega), hkp4 14 (by decide) (by decide), hfx.2.2.2.2.1]
                    refine lv_iload_n hx hb d_R_look_217 rfl (lv_at hl 0 rfl) ?_
                    refine lv_iadd hx hb d_R_look_218 ?_
                    refine W.eq (g2 := F0 m 219 ls [.int (nI (bg i + b)), .ref (adr 16), .ref x]) (by rw [← nI_add]) ?_
                    refine va_iald hx hb hK.1 (hP.one hM4.a16) 0 2 rfl ht2 (vp_in_nI (by omega) (by decide)) d_R_look_219 ?_
                    rw [nI_clamp (by omega), hkp4 16 (by decide) (by decide), hE.2.2.2.2.2.1 i hri hc b hltb]
                    have hv3 : ∀ a, s_fl σ i b = some (.inr a) → s_rch σ a := fun a e => s_rch_edge hri ⟨hc, Or.inr (Or.inr ⟨b, hltb, e⟩)⟩
                    refine g_callv hP hS hA (r_V (rest := []) C0 [.int (m_val sl (s_fl σ i b))] (k_R_see l hM4 hQ4 hp4 hO hn4 hsl hinj ht2 ht3 ht4 (u := s_fl σ i b) hv3 (fun a e => hV.2 i hc b hltb a e)) ml_R_R_see im_R_see se_R_R_see_R ini_R co_R_see ⟨rfl, hd_R_see⟩ (g_preV (ci := 5) hK hP rfl hM4.1) hl.1 d_R_look_220 rfl rfl (Nat.le_of_ble_eq_true rfl) ⟨rfl, rfl⟩ ⟨Nat.le_of_ble_eq_true rfl, Nat.le_of_ble_eq_true rfl⟩ ⟨Nat.le_of_ble_eq_true rfl, Nat.le_of_ble_eq_true rfl⟩) (fun G222 H locs hq222 hP hS hz9 hk9 => ?_)
                    clear hz9 hk9
                    obtain ⟨ar222, hM222, hQ222, hkp222⟩ := hq222
                    refine lv_iinc (v := nI (b + 1)) (lv' := [(3, .int (nI (b + 1))), (2, .int (nI (sl i))), (1, .int (nI p3)), (0, .ref x)]) hx hb d_R_look_223 hl (k := 0) rfl (by rw [← nI_1]; rfl) (by decide) rfl (fun ls hl => ?_)
                    refine lv_goto (tgt := 196) hx hb d_R_look_226 (by decide) ?_
                    refine ih _ _ _ _ _ _ _ ⟨by omega, by omega, lv_sub hl [0, 1, 2, 3] rfl, hP, hS, hM222, hQ222, s_part_add hp4 hv3, ?_, fun k hk => s_add_sub (hsn4 k hk), s_add_sub hog4, fun k hk a ha => ?_, fun k h1 h2 => by rw [hkp222 k h1 h2]; exact hkp4 k h1 h2⟩
                    · obtain ⟨M1, e1⟩ := hpre
                      obtain ⟨M2, e2⟩ := s_add_pre L2 (s_fl σ i b)
                      exact ⟨M1 ++ M2, by rw [e2, e1, List.append_assoc]⟩
                    · by_cases e : k = b
                      · subst e
                        rw [ha]
                        exact s_add_in
                      · exact s_add_sub (hfl4 k (by omega) a ha)
              · have hc : s_isC σ i := Or.inr hj
                have hfx := hE.2.2.2.1 i hri hc
                have hb94 := (hO.1.2.2.2.2.2.2 i hc).2.2.1
                have hU := hE.2.2.2.2.2.2.2.2
                rw [hj]
                refine lv_iconst (v := 2) hx hb d_R_look_89 (by decide) ?_
                refine lv_icmp_ne (tgt := 117) hx hb d_R_look_90 (by decide) (fun _ => ?_) (fun z => absurd z (by decide))
                refine lv_aload_n hx hb d_R_look_117 rfl (lv_at hl 2 rfl) ?_
                refine lv_dup hx hb d_R_look_118 rfl ?_
                refine va_get (D := D) (ci := 5) (C := "StackRoomModel") (T := T_R) (N := 25) (v := .int o1) hx hb ht in_R hown hK.1 (hP.one hM2.1) 0 rfl rfl 22 (by decide) (ht _ fl_R_R_reachedObjects) (fun _ h9 => h9) rfl d_R_look_119 ?_
                refine lv_iconst (v := 1) hx hb d_R_look_122 (by decide) ?_
                refine lv_iadd hx hb d_R_look_123 ?_
                refine gw_put (D := D) (cl := vwCl) (ci := 5) (C := "StackRoomModel") (T := T_R) (N := 25) (v := .int (o1 + 1)) (ty := .int) hx hb ht in_R ty_R tk_R nm_R hown hK.1 hP hS hM2.1 rfl 22 (by decide) (ht _ fl_R_R_reachedObjects) (fun _ h9 => h9) rfl (by decide +kernel) rfl rfl (Nat.le_of_ble_eq_true rfl) d_R_look_124 (fun H locs hP hS => ?_)
                obtain ⟨G58, eG58⟩ : ∃ z : gw_G, z = va_up G2 x (some (.inr (5, [.int (nI w), .int (nI n), .int (nI md), .ref (adr 3), .ref (adr 4), .ref (adr 5), .ref (adr 6), .ref (adr 7), .ref (adr 8), .ref (adr 9), .ref (adr 10), .ref (adr 11), .ref (adr 12), .ref (adr 13), .ref (adr 14), .ref (adr 15), .ref (adr 16), .ref (adr 17), .int us, .ref (adr 19), .ref (adr 20), .int (nI L.length), .int (o1 + 1), .int o2, .int o3]))) := ⟨_, rfl⟩
                replace hP : gw_P D vwCl (gw_A G s.heap.size) G58 H := by rw [eG58]; exact hP
                have hM58 : m_Arr cI cB cZ x w n md adr (us) (nI L.length) (o1 + 1) (o2) (o3) ar2 G58 := by rw [eG58]; exact hM2.own md (us) (nI L.length) (o1 + 1) (o2) (o3)
                refine lv_aload_n hx hb d_R_look_127 rfl (lv_at hl 2 rfl) ?_
                refine lv_dup hx hb d_R_look_128 rfl ?_
                refine va_get (D := D) (ci := 5) (C := "StackRoomModel") (T := T_R) (N := 25) (v := .int o3) hx hb ht in_R hown hK.1 (hP.one hM58.1) 0 rfl rfl 24 (by decide) (ht _ fl_R_R_reachedContexts) (fun _ h9 => h9) rfl d_R_look_129 ?_
                refine lv_iconst (v := 1) hx hb d_R_look_132 (by decide) ?_
                refine lv_iadd hx hb d_R_look_133 ?_
                refine gw_put (D := D) (cl := vwCl) (ci := 5) (C := "StackRoomModel") (T := T_R) (N := 25) (v := .int (o3 + 1)) (ty := .int) hx hb ht in_R ty_R tk_R nm_R hown hK.1 hP hS hM58.1 rfl 24 (by decide) (ht _ fl_R_R_reachedContexts) (fun _ h9 => h9) rfl (by decide +kernel) rfl rfl (Nat.le_of_ble_eq_true rfl) d_R_look_134 (fun H locs hP hS => ?_)
                obtain ⟨G59, eG59⟩ : ∃ z : gw_G, z = va_up G58 x (some (.inr (5, [.int (nI w), .int (nI n), .int (nI md), .ref (adr 3), .ref (adr 4), .ref (adr 5), .ref (adr 6), .ref (adr 7), .ref (adr 8), .ref (adr 9), .ref (adr 10), .ref (adr 11), .ref (adr 12), .ref (adr 13), .ref (adr 14), .ref (adr 15), .ref (adr 16), .ref (adr 17), .int us, .ref (adr 19), .ref (adr 20), .int (nI L.length), .int (o1 + 1), .int o2, .int (o3 + 1)]))) := ⟨_, rfl⟩
                replace hP : gw_P D vwCl (gw_A G s.heap.size) G59 H := by rw [eG59]; exact hP
                have hM59 : m_Arr cI cB cZ x w n md adr (us) (nI L.length) (o1 + 1) (o2) (o3 + 1) ar2 G59 := by rw [eG59]; exact hM58.own md (us) (nI L.length) (o1 + 1) (o2) (o3 + 1)
                refine lv_aload_n hx hb d_R_look_137 rfl (lv_at hl 2 rfl) ?_
                refine lv_dup hx hb d_R_look_138 rfl ?_
                refine va_get (D := D) (ci := 5) (C := "StackRoomModel") (T := T_R) (N := 25) (v := .int o2) hx hb ht in_R hown hK.1 (hP.one hM59.1) 0 rfl rfl 23 (by decide) (ht _ fl_R_R_reachedWords) (fun _ h9 => h9) rfl d_R_look_139 ?_
                refine lv_aload_n hx hb d_R_look_142 rfl (lv_at hl 2 rfl) ?_
                refine va_get (D := D) (ci := 5) (C := "StackRoomModel") (T := T_R) (N := 25) (v := .ref (adr 4)) hx hb ht in_R hown hK.1 (hP.one hM59.1) 0 rfl rfl 4 (by decide) (ht _ fl_R_R_kinds) (fun _ h9 => h9) rfl d_R_look_143 ?_
                refine lv_iload_n hx hb d_R_look_146 rfl (lv_at hl 0 rfl) ?_
                refine va_bald hx hb hK.1 (hP.one hM59.a4) 0 3 rfl ht3 (vp_in_nI hs (by decide)) d_R_look_147 ?_
                rw [nI_clamp (by omega)]
                rw [hkp2 4 (by decide) (by decide), hki, hj]
                refine lv_iconst (v := 3) hx hb d_R_look_148 (by decide) ?_
                refine lv_icmp_ne (tgt := 157) hx hb d_R_look_149 (by decide) (fun _ => ?_) (fun z => absurd z (by decide))
                refine lv_bipush (v := 10) hx hb d_R_look_157 (by decide) ?_
                refine lv_aload_n hx hb d_R_look_159 rfl (lv_at hl 2 rfl) ?_
                refine va_get (D := D) (ci := 5) (C := "StackRoomModel") (T := T_R) (N := 25) (v := .ref (adr 15)) hx hb ht in_R hown hK.1 (hP.one hM59.1) 0 rfl rfl 15 (by decide) (ht _ fl_R_R_rooms) (fun _ h9 => h9) rfl d_R_look_160 ?_
                refine lv_iload_n hx hb d_R_look_163 rfl (lv_at hl 0 rfl) ?_
                refine va_iald hx hb hK.1 (hP.one hM59.a15) 0 2 rfl ht2 (vp_in_nI hs (by decide)) d_R_look_164 ?_
                rw [nI_clamp (by omega)]
                rw [hkp2 15 (by decide) (by decide), hfx.2.2.2.2.2.1]
                refine lv_iadd hx hb d_R_look_165 ?_
                refine lv_iadd hx hb d_R_look_166 ?_
                refine gw_put (D := D) (cl := vwCl) (ci := 5) (C := "StackRoomModel") (T := T_R) (N := 25) (v := .int (o2 + (10 + (nI (s_rm σ i))))) (ty := .int) hx hb ht in_R ty_R tk_R nm_R hown hK.1 hP hS hM59.1 rfl 23 (by decide) (ht _ fl_R_R_reachedWords) (fun _ h9 => h9) rfl (by decide +kernel) rfl rfl (Nat.le_of_ble_eq_true rfl) d_R_look_167 (fun H locs hP hS => ?_)
                obtain ⟨G60, eG60⟩ : ∃ z : gw_G, z = va_up G59 x (some (.inr (5, [.int (nI w), .int (nI n), .int (nI md), .ref (adr 3), .ref (adr 4), .ref (adr 5), .ref (adr 6), .ref (adr 7), .ref (adr 8), .ref (adr 9), .ref (adr 10), .ref (adr 11), .ref (adr 12), .ref (adr 13), .ref (adr 14), .ref (adr 15), .ref (adr 16), .ref (adr 17), .int us, .ref (adr 19), .ref (adr 20), .int (nI L.length), .int (o1 + 1), .int (o2 + (10 + nI (s_rm σ i))), .int (o3 + 1)]))) := ⟨_, rfl⟩
                replace hP : gw_P D vwCl (gw_A G s.heap.size) G60 H := by rw [eG60]; exact hP
                have hM60 : m_Arr cI cB cZ x w n md adr (us) (nI L.length) (o1 + 1) (o2 + (10 + nI (s_rm σ i))) (o3 + 1) ar2 G60 := by rw [eG60]; exact hM59.own md (us) (nI L.length) (o1 + 1) (o2 + (10 + nI (s_rm σ i))) (o3 + 1)
                refine lv_aload_n hx hb d_R_look_170 rfl (lv_at hl 2 rfl) ?_
                refine lv_aload_n hx hb d_R_look_171 rfl (lv_at hl 2 rfl) ?_
                refine va_get (D := D) (ci := 5) (C := "StackRoomModel") (T := T_R) (N := 25) (v := .ref (adr 9)) hx hb ht in_R hown hK.1 (hP.one hM60.1) 0 rfl rfl 9 (by decide) (ht _ fl_R_R_senders) (fun _ h9 => h9) rfl d_R_look_172 ?_
                refine lv_iload_n hx hb d_R_look_175 rfl (lv_at hl 0 rfl) ?_
                refine va_iald hx hb hK.1 (hP.one hM60.a9) 0 2 rfl ht2 (vp_in_nI hs (by decide)) d_R_look_176 ?_
                rw [nI_clamp (by omega)]
                refine W.eq (g2 := F0 m 177 ls [.int (m_val sl ((s_sn σ i).map .inr)), .ref x]) (by rw [hkp2 9 (by decide) (by decide), hfx.1]) ?_
                have hv1 : ∀ j, ((s_sn σ i).map .inr : sV) = some (.inr j) → s_rch σ j := fun j e => s_rch_edge hri ⟨hc, Or.inl (sn_inr e)⟩
                refine g_callv hP hS hA (r_V (rest := []) C0 [.int (m_val sl ((s_sn σ i).map .inr))] (k_R_see l hM60 hQ2 hp2 hO hn4 hsl hinj ht2 ht3 ht4 (u := (s_sn σ i).map .inr) hv1 (fun a e => (sn_no e).elim)) ml_R_R_see im_R_see se_R_R_see_R ini_R co_R_see ⟨rfl, hd_R_see⟩ (g_preV (ci := 5) hK hP rfl hM60.1) hl.1 d_R_look_177 rfl rfl (Nat.le_of_ble_eq_true rfl) ⟨rfl, rfl⟩ ⟨Nat.le_of_ble_eq_true rfl, Nat.le_of_ble_eq_true rfl⟩ ⟨Nat.le_of_ble_eq_true rfl, Nat.le_of_ble_eq_true rfl⟩) (fun G223 H locs hq223 hP hS hz9 hk9 => ?_)
                clear hz9 hk9
                obtain ⟨ar223, hM223, hQ223, hkp223⟩ := hq223
                have hp3 := s_part_add hp2 hv1
                refine lv_aload_n hx hb d_R_look_180 rfl (lv_at hl 2 rfl) ?_
                refine lv_iconst (v := 2) hx hb d_R_look_181 (by decide) ?_
                refine lv_aload_n hx hb d_R_look_182 rfl (lv_at hl 2 rfl) ?_
                refine va_get (D := D) (ci := 5) (C := "StackRoomModel") (T := T_R) (N := 25) (v := .ref (adr 12)) hx hb ht in_R hown hK.1 (hP.one hM223.1) 0 rfl rfl 12 (by decide) (ht _ fl_R_R_links) (fun _ h9 => h9) rfl d_R_look_183 ?_
                refine lv_iload_n hx hb d_R_look_186 rfl (lv_at hl 0 rfl) ?_
                refine va_iald hx hb hK.1 (hP.one hM223.a12) 0 2 rfl ht2 (vp_in_nI hs (by decide)) d_R_look_187 ?_
                rw [nI_clamp (by omega)]
                rw [hkp223 12 (by decide) (by decide), hkp2 12 (by decide) (by decide), hfx.2.2.2.1]
                refine lv_imul hx hb d_R_look_188 ?_
                refine lv_iconst (v := 2) hx hb d_R_look_189 (by decide) ?_
                refine lv_iadd hx hb d_R_look_190 ?_
                refine W.eq (g2 := F0 m 191 ls [.int (m_val sl (some (.inr (s_og σ i)))), .ref x]) (by rw [m_lnk]; rfl) ?_
                have hv2 : ∀ j, (some (.inr (s_og σ i)) : sV) = some (.inr j) → s_rch σ j := fun j e => by cases e; exact s_rch_edge hri ⟨hc, Or.inr (Or.inl rfl)⟩
                refine g_callv hP hS hA (r_V (rest := []) C0 [.int (m_val sl (some (.inr (s_og σ i))))] (k_R_see l hM223 hQ223 hp3 hO hn4 hsl hinj ht2 ht3 ht4 (u := some (.inr (s_og σ i))) hv2 (fun a e => by cases e)) ml_R_R_see im_R_see se_R_R_see_R ini_R co_R_see ⟨rfl, hd_R_see⟩ (g_preV (ci := 5) hK hP rfl hM223.1) hl.1 d_R_look_191 rfl rfl (Nat.le_of_ble_eq_true rfl) ⟨rfl, rfl⟩ ⟨Nat.le_of_ble_eq_true rfl, Nat.le_of_ble_eq_true rfl⟩ ⟨Nat.le_of_ble_eq_true rfl, Nat.le_of_ble_eq_true rfl⟩) (fun G224 H locs hq224 hP hS hz9 hk9 => ?_)
                clear hz9 hk9
                obtain ⟨ar224, hM224, hQ224, hkp224⟩ := hq224
                refine lv_iconst (v := 0) hx hb d_R_look_194 (by decide) ?_
                refine lv_istore_n (lv' := [(3, .int 0), (2, .int (nI (sl i))), (1, .int (nI p3)), (0, .ref x)]) hx hb d_R_look_195 rfl hl (by decide) rfl (fun ls hl => ?_)
                obtain ⟨L2, eL2⟩ : ∃ z, z = s_add (s_add L ((s_sn σ i).map .inr)) (some (.inr (s_og σ i))) := ⟨_, rfl⟩
                obtain ⟨G4, eG4⟩ : ∃ z : gw_G, z = G224 := ⟨_, rfl⟩
                obtain ⟨ar4, ear4⟩ : ∃ z : Nat → Nat → Int32, z = ar224 := ⟨_, rfl⟩
                obtain ⟨b, eb⟩ : ∃ z : Nat, z = 0 := ⟨_, rfl⟩
                obtain ⟨f4, ef4⟩ : ∃ z : Nat, z = s_rm σ i := ⟨_, rfl⟩
                have inv4 : s_rm σ i ≤ b + f4 ∧ b ≤ s_rm σ i ∧ lv_has ls 4 [(3, .int (nI b)), (2, .int (nI (sl i))), (1, .int (nI p3)), (0, .ref x)] ∧ gw_P D vwCl (gw_A G s.heap.size) G4 H ∧ va_S (gw_A G s.heap.size) s.heap H locs ∧ m_Arr cI cB cZ x w n md adr us (nI L2.length) (o1 + 1) (o2 + (10 + nI (s_rm σ i))) (o3 + 1) ar4 G4 ∧ m_Q sl L2 ar4 ∧ s_part σ L2 ∧ (∃ M, L2 = L ++ M) ∧ (∀ k, s_sn σ i = some k → k ∈ L2) ∧ s_og σ i ∈ L2 ∧ (∀ k, k < b → ∀ a, s_fl σ i k = some (.inr a) → a ∈ L2) ∧ (∀ k, k ≠ 19 → k ≠ 20 → ar4 k = ar k) := by
                  refine ⟨by omega, by omega, by rw [eb]; exact lv_sub hl [0, 1, 2, 3] rfl, by rw [eG4]; exact hP, hS, by rw [eG4, ear4, eL2]; exact hM224, by rw [ear4, eL2]; exact hQ224, by rw [eL2]; exact s_part_add hp3 hv2, ?_, fun k hk => ?_, by rw [eL2]; exact s_add_in, fun k hk => absurd hk (by omega), fun k h1 h2 => by rw [ear4, hkp224 k h1 h2, hkp223 k h1 h2]; exact hkp2 k h1 h2⟩
                  · obtain ⟨M1, e1⟩ := s_add_pre L ((s_sn σ i).map .inr)
                    obtain ⟨M2, e2⟩ := s_add_pre (s_add L ((s_sn σ i).map .inr)) (some (.inr (s_og σ i)))
                    exact ⟨M1 ++ M2, by rw [eL2, e2, e1, List.append_assoc]⟩
                  · rw [eL2]
                    refine s_add_sub ?_
                    rw [hk]
                    exact s_add_in
                clear hl hP hS eL2 eG4 ear4 eb ef4
                induction f4 generalizing b ls H locs G4 ar4 L2
                case zero =>
                  obtain ⟨hf4, hbm, hl, hP, hS, hM4, hQ4, hp4, hpre, hsn4, hog4, hfl4, hkp4⟩ := inv4
                  refine lv_iload_n hx hb d_R_look_196 rfl (lv_at hl 0 rfl) ?_
                  refine lv_aload_n hx hb d_R_look_197 rfl (lv_at hl 3 rfl) ?_
                  refine va_get (D := D) (ci := 5) (C := "StackRoomModel") (T := T_R) (N := 25) (v := .ref (adr 15)) hx hb ht in_R hown hK.1 (hP.one hM4.1) 0 rfl rfl 15 (by decide) (ht _ fl_R_R_rooms) (fun _ h9 => h9) rfl d_R_look_198 ?_
                  refine lv_iload_n hx hb d_R_look_201 rfl (lv_at hl 1 rfl) ?_
                  refine va_iald hx hb hK.1 (hP.one hM4.a15) 0 2 rfl ht2 (vp_in_nI hs (by decide)) d_R_look_202 ?_
                  rw [nI_clamp (by omega)]
                  rw [hkp4 15 (by decide) (by decide), hfx.2.2.2.2.2.1]
                  refine lv_icmp_ge (tgt := 229) hx hb d_R_look_203 (by decide) (fun cb => ?_) (fun cb => ?_)
                  · have hgeb := (nI_leI (by omega) (by omega)).mp cb
                    refine lv_iinc (v := nI (p3 + 1)) (lv' := [(1, .int (nI (p3 + 1))), (3, .int (nI b)), (2, .int (nI (sl i))), (0, .ref x)]) hx hb d_R_look_229 hl (k := 2) rfl (by rw [← nI_1]; rfl) (by decide) rfl (fun ls hl => ?_)
                    refine lv_goto (tgt := 68) hx hb d_R_look_232 (by decide) ?_
                    obtain ⟨M, eM⟩ := hpre
                    have sub : ∀ a, a ∈ L → a ∈ L2 := fun a ha => by rw [eM]; exact List.mem_append_left _ ha
                    refine ih3 _ _ _ _ _ _ _ _ _ _ ⟨by omega, by rw [eM, List.length_append]; omega, lv_sub hl [0, 3] rfl, hP, hS, hM4, hQ4, hp4, fun k hk a ha => sub a (hroot k hk a ha), ?_, ?_, ?_, fun k c hk hc2 a ha => ?_, hkp4⟩
                    · rw [eM, s_sum_take hi, he1, show s_en σ i = 1 from s_enC hc, ← nI_add]; rfl
                    · rw [eM, s_sum_take hi, he2, s_wd4 hj, ← nI_add, ← nI_add]; rfl
                    · rw [eM, s_sum_take hi, he3, show s_cn σ i = 1 from if_neg (by omega), ← nI_add]; rfl
                    · have hk2 : k < L.length := by omega
                      rw [eM, List.getElem?_append_left hk2] at hc2
                      by_cases e : k = p3
                      · subst e
                        rw [hi] at hc2
                        cases hc2
                        rcases ha.2 with e | e | ⟨b9, hb1, e⟩
                        · exact hsn4 a e
                        · exact e ▸ hog4
                        · exact hfl4 b9 (by omega) a e
                      · exact sub a (hed k c (by omega) hc2 a ha)
                  · have hltb : b < s_rm σ i := Nat.not_le.mp (fun t => cb ((nI_leI (by omega) (by omega)).mpr t))
                    omega
                case succ f4 ih =>
                  obtain ⟨hf4, hbm, hl, hP, hS, hM4, hQ4, hp4, hpre, hsn4, hog4, hfl4, hkp4⟩ := inv4
                  refine lv_iload_n hx hb d_R_look_196 rfl (lv_at hl 0 rfl) ?_
                  refine lv_aload_n hx hb d_R_look_197 rfl (lv_at hl 3 rfl) ?_
                  refine va_get (D := D) (ci := 5) (C := "StackRoomModel") (T := T_R) (N := 25) (v := .ref (adr 15)) hx hb ht in_R hown hK.1 (hP.one hM4.1) 0 rfl rfl 15 (by decide) (ht _ fl_R_R_rooms) (fun _ h9 => h9) rfl d_R_look_198 ?_
                  refine lv_iload_n hx hb d_R_look_201 rfl (lv_at hl 1 rfl) ?_
                  refine va_iald hx hb hK.1 (hP.one hM4.a15) 0 2 rfl ht2 (vp_in_nI hs (by decide)) d_R_look_202 ?_
                  rw [nI_clamp (by omega)]
                  rw [hkp4 15 (by decide) (by decide), hfx.2.2.2.2.2.1]
                  refine lv_icmp_ge (tgt := 229) hx hb d_R_look_203 (by decide) (fun cb => ?_) (fun cb => ?_)
                  · have hgeb := (nI_leI (by omega) (by omega)).mp cb
                    refine lv_iinc (v := nI (p3 + 1)) (lv' := [(1, .int (nI (p3 + 1))), (3, .int (nI b)), (2, .int (nI (sl i))), (0, .ref x)]) hx hb d_R_look_229 hl (k := 2) rfl (by rw [← nI_1]; rfl) (by decide) rfl (fun ls hl => ?_)
                    refine lv_goto (tgt := 68) hx hb d_R_look_232 (by decide) ?_
                    obtain ⟨M, eM⟩ := hpre
                    have sub : ∀ a, a ∈ L → a ∈ L2 := fun a ha => by rw [eM]; exact List.mem_append_left _ ha
                    refine ih3 _ _ _ _ _ _ _ _ _ _ ⟨by omega, by rw [eM, List.length_append]; omega, lv_sub hl [0, 3] rfl, hP, hS, hM4, hQ4, hp4, fun k hk a ha => sub a (hroot k hk a ha), ?_, ?_, ?_, fun k c hk hc2 a ha => ?_, hkp4⟩
                    · rw [eM, s_sum_take hi, he1, show s_en σ i = 1 from s_enC hc, ← nI_add]; rfl
                    · rw [eM, s_sum_take hi, he2, s_wd4 hj, ← nI_add, ← nI_add]; rfl
                    · rw [eM, s_sum_take hi, he3, show s_cn σ i = 1 from if_neg (by omega), ← nI_add]; rfl
                    · have hk2 : k < L.length := by omega
                      rw [eM, List.getElem?_append_left hk2] at hc2
                      by_cases e : k = p3
                      · subst e
                        rw [hi] at hc2
                        cases hc2
                        rcases ha.2 with e | e | ⟨b9, hb1, e⟩
                        · exact hsn4 a e
                        · exact e ▸ hog4
                        · exact hfl4 b9 (by omega) a e
                      · exact sub a (hed k c (by omega) hc2 a ha)
                  · have hltb : b < s_rm σ i := Nat.not_le.mp (fun t => cb ((nI_leI (by omega) (by omega)).mpr t))
                    refine lv_aload_n hx hb d_R_look_206 rfl (lv_at hl 3 rfl) ?_
                    refine lv_aload_n hx hb d_R_look_207 rfl (lv_at hl 3 rfl) ?_
                    refine va_get (D := D) (ci := 5) (C := "StackRoomModel") (T := T_R) (N := 25) (v := .ref (adr 16)) hx hb ht in_R hown hK.1 (hP.one hM4.1) 0 rfl rfl 16 (by decide) (ht _ fl_R_R_fields) (fun _ h9 => h9) rfl d_R_look_208 ?_
                    refine lv_aload_n hx hb d_R_look_211 rfl (lv_at hl 3 rfl) ?_
                    refine va_get (D := D) (ci := 5) (C := "StackRoomModel") (T := T_R) (N := 25) (v := .ref (adr 14)) hx hb ht in_R hown hK.1 (hP.one hM4.1) 0 rfl rfl 14 (by decide) (ht _ fl_R_R_begins) (fun _ h9 => h9) rfl d_R_look_212 ?_
                    refine lv_iload_n hx hb d_R_look_215 rfl (lv_at hl 1 rfl) ?_
                    refine va_iald hx hb hK.1 (hP.one hM4.a14) 0 2 rfl ht2 (vp_in_nI hs (by decide)) d_R_look_216 ?_
                    rw [nI_clamp (by omega), hkp4 14 (by decide) (by decide), hfx.2.2.2.2.1]
                    refine lv_iload_n hx hb d_R_look_217 rfl (lv_at hl 0 rfl) ?_
                    refine lv_iadd hx hb d_R_look_218 ?_
                    refine W.eq (g2 := F0 m 219 ls [.int (nI (bg i + b)), .ref (adr 16), .ref x]) (by rw [← nI_add]) ?_
                    refine va_iald hx hb hK.1 (hP.one hM4.a16) 0 2 rfl ht2 (vp_in_nI (by omega) (by decide)) d_R_look_219 ?_
                    rw [nI_clamp (by omega), hkp4 16 (by decide) (by decide), hE.2.2.2.2.2.1 i hri hc b hltb]
                    have hv3 : ∀ a, s_fl σ i b = some (.inr a) → s_rch σ a := fun a e => s_rch_edge hri ⟨hc, Or.inr (Or.inr ⟨b, hltb, e⟩)⟩
                    refine g_callv hP hS hA (r_V (rest := []) C0 [.int (m_val sl (s_fl σ i b))] (k_R_see l hM4 hQ4 hp4 hO hn4 hsl hinj ht2 ht3 ht4 (u := s_fl σ i b) hv3 (fun a e => hV.2 i hc b hltb a e)) ml_R_R_see im_R_see se_R_R_see_R ini_R co_R_see ⟨rfl, hd_R_see⟩ (g_preV (ci := 5) hK hP rfl hM4.1) hl.1 d_R_look_220 rfl rfl (Nat.le_of_ble_eq_true rfl) ⟨rfl, rfl⟩ ⟨Nat.le_of_ble_eq_true rfl, Nat.le_of_ble_eq_true rfl⟩ ⟨Nat.le_of_ble_eq_true rfl, Nat.le_of_ble_eq_true rfl⟩) (fun G225 H locs hq225 hP hS hz9 hk9 => ?_)
                    clear hz9 hk9
                    obtain ⟨ar225, hM225, hQ225, hkp225⟩ := hq225
                    refine lv_iinc (v := nI (b + 1)) (lv' := [(3, .int (nI (b + 1))), (2, .int (nI (sl i))), (1, .int (nI p3)), (0, .ref x)]) hx hb d_R_look_223 hl (k := 0) rfl (by rw [← nI_1]; rfl) (by decide) rfl (fun ls hl => ?_)
                    refine lv_goto (tgt := 196) hx hb d_R_look_226 (by decide) ?_
                    refine ih _ _ _ _ _ _ _ ⟨by omega, by omega, lv_sub hl [0, 1, 2, 3] rfl, hP, hS, hM225, hQ225, s_part_add hp4 hv3, ?_, fun k hk => s_add_sub (hsn4 k hk), s_add_sub hog4, fun k hk a ha => ?_, fun k h1 h2 => by rw [hkp225 k h1 h2]; exact hkp4 k h1 h2⟩
                    · obtain ⟨M1, e1⟩ := hpre
                      obtain ⟨M2, e2⟩ := s_add_pre L2 (s_fl σ i b)
                      exact ⟨M1 ++ M2, by rw [e2, e1, List.append_assoc]⟩
                    · by_cases e : k = b
                      · subst e
                        rw [ha]
                        exact s_add_in
                      · exact s_add_sub (hfl4 k (by omega) a ha)
        · have hlt : q < 16 := Nat.not_le.mp (fun t => cq (show nI 16 ≤ nI q from (nI_leI (by omega) (by omega)).mpr t))
          refine lv_aload_n hx hb d_R_look_50 rfl (lv_at hl 1 rfl) ?_
          refine lv_aload_n hx hb d_R_look_51 rfl (lv_at hl 1 rfl) ?_
          refine va_get (D := D) (ci := 5) (C := "StackRoomModel") (T := T_R) (N := 25) (v := .ref (adr 3)) hx hb ht in_R hown hK.1 (hP.one hM2.1) 0 rfl rfl 3 (by decide) (ht _ fl_R_R_registers) (fun _ h9 => h9) rfl d_R_look_52 ?_
          refine lv_iload_n hx hb d_R_look_55 rfl (lv_at hl 0 rfl) ?_
          refine va_iald hx hb hK.1 (hP.one hM2.a3) 0 2 rfl ht2 (vp_in_nI hlt (by decide)) d_R_look_56 ?_
          rw [nI_clamp (by omega)]
          refine W.eq (g2 := F0 m 57 ls [.int (m_val sl (s_rg σ q)), .ref x]) (by rw [hkp2 3 (by decide) (by decide), hE.1 q hlt]) ?_
          refine g_callv hP hS hA (r_V (rest := []) C0 [.int (m_val sl (s_rg σ q))] (k_R_see l hM2 hQ2 hp2 hO hn4 hsl hinj ht2 ht3 ht4 (u := s_rg σ q) (fun i e => s_rch_root hlt e) (s_hu hV hlt)) ml_R_R_see im_R_see se_R_R_see_R ini_R co_R_see ⟨rfl, hd_R_see⟩ (g_preV (ci := 5) hK hP rfl hM2.1) hl.1 d_R_look_57 rfl rfl (Nat.le_of_ble_eq_true rfl) ⟨rfl, rfl⟩ ⟨Nat.le_of_ble_eq_true rfl, Nat.le_of_ble_eq_true rfl⟩ ⟨Nat.le_of_ble_eq_true rfl, Nat.le_of_ble_eq_true rfl⟩) (fun G226 H locs hq226 hP hS hz9 hk9 => ?_)
          clear hz9 hk9
          obtain ⟨ar226, hM226, hQ226, hkp226⟩ := hq226
          refine lv_iinc (v := nI (q + 1)) (lv' := [(1, .int (nI (q + 1))), (0, .ref x)]) hx hb d_R_look_60 hl (k := 0) rfl (by rw [← nI_1]; rfl) (by decide) rfl (fun ls hl => ?_)
          refine lv_goto (tgt := 44) hx hb d_R_look_63 (by decide) ?_
          refine ih2 _ _ _ _ _ _ _ ⟨by omega, by omega, lv_sub hl [0, 1] rfl, hP, hS, hM226, hQ226, s_part_add hp2 (fun i e => s_rch_root hlt e), fun t ht9 a ha => ?_, fun t h1 h2 => by rw [hkp226 t h1 h2]; exact hkp2 t h1 h2⟩
          by_cases e : t = q
          · subst e
            rw [ha]
            exact s_add_in
          · exact s_add_sub (hrg t (by omega) a ha)
    · have hlt : j < 4096 := Nat.not_le.mp (fun q => cj (show nI 4096 ≤ nI j from (nI_leI (by omega) (by omega)).mpr q))
      refine lv_aload_n hx hb d_R_look_9 rfl (lv_at hl 1 rfl) ?_
      refine va_get (D := D) (ci := 5) (C := "StackRoomModel") (T := T_R) (N := 25) (v := .ref (adr 19)) hx hb ht in_R hown hK.1 (hP.one hM1.1) 0 rfl rfl 19 (by decide) (ht _ fl_R_R_seen) (fun _ h9 => h9) rfl d_R_look_10 ?_
      refine lv_iload_n hx hb d_R_look_13 rfl (lv_at hl 0 rfl) ?_
      refine lv_iconst (v := 0) hx hb d_R_look_14 (by decide) ?_
      refine gw_zast hx hb hK.1 hP hS 4 hM1.a19 ht4 (vp_in_nI hlt (by decide)) d_R_look_15 (fun H locs hP hS => ?_)
      rw [nI_clamp (by omega), z_0] at hP
      obtain ⟨G61, eG61⟩ : ∃ z : gw_G, z = va_up G1 (adr 19) (some (.inl (cZ, 4096, .inl (upd (ar1 19) (j) (0))))) := ⟨_, rfl⟩
      replace hP : gw_P D vwCl (gw_A G s.heap.size) G61 H := by rw [eG61]; exact hP
      obtain ⟨ar61, ear61⟩ : ∃ z : Nat → Nat → Int32, z = va_up ar1 19 (upd (ar1 19) (j) (0)) := ⟨_, rfl⟩
      have hM61 : m_Arr cI cB cZ x w n md adr (us) (r0) (r1) (r2) (r3) ar61 G61 := by rw [eG61, ear61]; exact hM1.put (k := 19) (by decide) _
      refine lv_iinc (v := nI (j + 1)) (lv' := [(1, .int (nI (j + 1))), (0, .ref x)]) hx hb d_R_look_16 hl (k := 0) rfl (by rw [← nI_1]; rfl) (by decide) rfl (fun ls hl => ?_)
      refine lv_goto (tgt := 2) hx hb d_R_look_19 (by decide) ?_
      refine ih _ _ _ _ _ _ ⟨by omega, by omega, lv_sub hl [0, 1] rfl, hP, hS, hM61, fun o ho => ?_, fun k h1 h2 => by rw [ear61, va_up_ne _ _ h1]; exact hkp k h1 h2⟩
      rw [ear61, va_up_self]
      by_cases e : o = j
      · rw [e, upd_self]
      · rw [upd_ne _ _ e]; exact h19 o (by omega)
end K33
