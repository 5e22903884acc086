section K16
theorem c_val_sn {G : gw_G} {ad : Nat → Nat} (o : Option Nat) : c_val G ad (o.map .inr) (o.map ad) := by
  cases o <;> rfl
theorem sn_inr {o : Option Nat} {j : Nat} (h : (o.map .inr : sV) = some (.inr j)) : o = some j := by
  cases o with
  | none => cases h
  | some k => cases h; rfl
variable {w n rd md : Nat} {cV cT : ClassId} {σ : sS} {x ra rt : Nat} {ad fa : Nat → Nat} {ρ : Nat → Int32} {fr : Nat → Nat → Option Nat} {rr rf : Nat → Option Nat} {rc wl el cr : Int32} {G : gw_G} {D : va_G} {tys : List (ClassId × FieldType)} {sz : Nat} {L : List Nat}
set_option maxHeartbeats 4000000 in
set_option maxRecDepth 100000 in
theorem k_S_reachPartsOf (l : Launch) (hS0 : c_Srv w n rd md cV cT σ x ra rt ad fa fr rr L cr G) (hp : s_part σ L) (hO : s_OK w n σ) (hn4 : n ≤ 4096) (hm : s_md σ < 2 ^ 31) (ht0 : tys[0]? = some (cV, .object "StackRoom$Value")) (ht1 : tys[1]? = some (cT, .object "StackRoom$Thing")) {i : Nat} (hi : s_rch σ i) (hc : s_isC σ i) : Met l y_S_reachPartsOf w_S_reachPartsOf ({ frames := 3, cells := 0, slots := 0, locals := 62 }) (g_pre D tys G sz [.ref x, .ref (ad i)]) (va_Qv (fun G1 : gw_G => ∃ L2, (∃ M, L2 = L ++ M) ∧ s_part σ L2 ∧ (∀ k, s_edge σ i k → k ∈ L2) ∧ c_Srv w n rd md cV cT σ x ra rt ad fa fr rr L2 cr G1) (g_end D G sz) (gw_A G sz)) 0 0 (gw_A G sz) := by
  refine Met.ofW (cc := b_S_reachPartsOf) (maxL := 3) (ret := none) (by decide) rfl ?_
  intro p e s m args below meth c s₁ B hml hv
  obtain ⟨rfl, hsz, hP, hK⟩ := hv
  have hx := B.exec
  have hb := B.bytes
  have hr := B.returns
  have ht := fun w (hw : w ∈ gt) => atoms_spec (ws := w_S_reachPartsOf) B.pre w (List.mem_cons_of_mem _ hw)
  have hown : s.vm.findClass "StackRoom" = some m.cls := findClass_of_methodNamed B.named
  have hlocks := B.notSynchronized
  have C0 : CallFix p m c b_S_reachPartsOf 3 s [.ref x, .ref (ad i)].toArray gt "StackRoom" := ⟨hx, hb, hml, hown, ht⟩
  subst hsz
  have hP := hP.self (sz := s.heap.size)
  have hA : ∀ q : Nat, s.heap.size ≤ q → gw_A G s.heap.size q := fun q h => Or.inr h
  have hS : va_S (gw_A G s.heap.size) s.heap s.heap [] := va_S.rf
  have hl := lv_entry ([.ref x, .ref (ad i)]) (n := 3) (Nat.le_of_ble_eq_true rfl)
  rw [lg_entry_eq]
  generalize (lg_sl ([.ref x, .ref (ad i)]) ++ List.replicate (3 - (lg_sl ([.ref x, .ref (ad i)])).length) Slot.unset).toArray = ls at hl ⊢
  have hl : lv_has ls 3 [(0, .ref x), (1, .ref (ad i))] := hl
  have hb9 := (hO.1.2.2.2.2.2.2 i hc).2.2.1
  rcases id hc with h3 | h4
  · obtain ⟨ρ, rf, hR, -, -⟩ := id hS0
    refine lv_aload_n hx hb d_S_reachPartsOf_0 rfl (lv_at hl 0 rfl) ?_
    refine lv_aload_n hx hb d_S_reachPartsOf_1 rfl (lv_at hl 1 rfl) ?_
    refine va_getN (D := D) (ci := 3) (C := "StackRoom$MethodContext") (T := T_X) (N := 7) (v := va_rf ((s_sn σ i).map ad)) hx hb ht in_X hown hK.1 (hP.one (hR.c3 h3)) 0 rfl rfl 2 (by decide) (va_Nw.use rfl (hK.2.1 _ fn_S_C_sender)) (fun _ h9 => h9) rfl d_S_reachPartsOf_2 ?_
    have hv1 : ∀ j, ((s_sn σ i).map .inr : sV) = some (.inr j) → s_rch σ j := fun j e => s_rch_edge hi ⟨hc, Or.inl (sn_inr e)⟩
    refine g_callv hP hS hA (r_V (rest := []) C0 [va_rf ((s_sn σ i).map ad)] (k_S_reach l hS0 hp hO hn4 hm ht0 ht1 (v := (s_sn σ i).map .inr) hv1 (c_val_sn (s_sn σ i))) ml_S_S_reach im_S_reach se_S_S_reach_S ini_S co_S_reach ⟨rfl, hd_S_reach⟩ (g_preV (ci := 0) hK hP rfl hR.1) hl.1 d_S_reachPartsOf_5 rfl rfl (Nat.le_of_ble_eq_true rfl) ⟨rfl, rfl⟩ ⟨Nat.le_of_ble_eq_true rfl, Nat.le_of_ble_eq_true rfl⟩ ⟨Nat.le_of_ble_eq_true rfl, Nat.le_of_ble_eq_true rfl⟩) (fun G1 H locs hS1 hP hS hz9 hk9 => ?_)
    clear hz9 hk9
    obtain ⟨ρ1, rf1, hR1, -, -⟩ := id hS1
    refine lv_aload_n hx hb d_S_reachPartsOf_8 rfl (lv_at hl 0 rfl) ?_
    refine lv_aload_n hx hb d_S_reachPartsOf_9 rfl (lv_at hl 1 rfl) ?_
    refine va_csq (va_Run.run (r_A (owner := "StackRoom$Context") (n := 0) (rest := [.ref x]) C0 [] (k_X_origin l hR1 (i := i) h3) ml_S_C_origin sm_C_C_origin se_X_C_origin_X im_X_origin ini_X co_X_origin (hK.2.1 _ dc_C_origin) (by decide +kernel) (g_preV (ci := 3) hK hP rfl (hR1.c3 h3)) hl.1 d_S_reachPartsOf_10 rfl rfl (Nat.le_of_ble_eq_true rfl) ⟨rfl, rfl⟩ ⟨Nat.le_of_ble_eq_true rfl, Nat.le_of_ble_eq_true rfl⟩ ⟨Nat.le_of_ble_eq_true rfl, Nat.le_of_ble_eq_true rfl⟩)) (fun q eq => ?_)
    subst eq
    have hp1 := s_part_add hp hv1
    have hv2 : ∀ j, (some (.inr (s_og σ i)) : sV) = some (.inr j) → s_rch σ j := fun j e => by cases e; exact s_rch_edge hi ⟨hc, Or.inr (Or.inl rfl)⟩
    refine g_callv hP hS hA (r_V (rest := []) C0 [va_rf (some (ad (s_og σ i)))] (k_S_reach l hS1 hp1 hO hn4 hm ht0 ht1 (v := some (.inr (s_og σ i))) hv2 (r := some (ad (s_og σ i))) rfl) ml_S_S_reach im_S_reach se_S_S_reach_S ini_S co_S_reach ⟨rfl, hd_S_reach⟩ (g_preV (ci := 0) hK hP rfl hR1.1) hl.1 d_S_reachPartsOf_13 rfl rfl (Nat.le_of_ble_eq_true rfl) ⟨rfl, rfl⟩ ⟨Nat.le_of_ble_eq_true rfl, Nat.le_of_ble_eq_true rfl⟩ ⟨Nat.le_of_ble_eq_true rfl, Nat.le_of_ble_eq_true rfl⟩) (fun G2 H locs hS2 hP hS hz9 hk9 => ?_)
    clear hz9 hk9
    refine lv_iconst (v := 0) hx hb d_S_reachPartsOf_16 (by decide) ?_
    refine lv_istore_n (lv' := [(2, .int 0), (0, .ref x), (1, .ref (ad i))]) hx hb d_S_reachPartsOf_17 rfl hl (by decide) rfl (fun ls hl => ?_)
    obtain ⟨L2, eL2⟩ : ∃ z, z = s_add (s_add L ((s_sn σ i).map .inr)) (some (.inr (s_og σ i))) := ⟨_, rfl⟩
    rw [← eL2] at hS2
    obtain ⟨j, ej⟩ : ∃ z : Nat, z = 0 := ⟨_, rfl⟩
    obtain ⟨f, ef⟩ : ∃ z : Nat, z = s_rm σ i := ⟨_, rfl⟩
    have inv : s_rm σ i ≤ j + f ∧ j ≤ s_rm σ i ∧ lv_has ls 3 [(2, .int (nI j)), (0, .ref x), (1, .ref (ad i))] ∧ gw_P D vwCl (gw_A G s.heap.size) G2 H ∧ va_S (gw_A G s.heap.size) s.heap H locs ∧ c_Srv w n rd md cV cT σ x ra rt ad fa fr rr L2 cr G2 ∧ (∃ M, L2 = L ++ M) ∧ s_part σ L2 ∧ (∀ k, s_sn σ i = some k → k ∈ L2) ∧ s_og σ i ∈ L2 ∧ (∀ k, k < j → ∀ a, s_fl σ i k = some (.inr a) → a ∈ L2) := by
      refine ⟨by omega, by omega, by rw [ej]; exact hl, hP, hS, hS2, ?_, ?_, fun k hk => ?_, ?_, fun k hk => absurd hk (by omega)⟩
      · obtain ⟨M1, e1⟩ := s_add_pre L ((s_sn σ i).map .inr)
        obtain ⟨M2, e2⟩ := s_add_pre (s_add L ((s_sn σ i).map .inr)) (some (.inr (s_og σ i)))
        exact ⟨M1 ++ M2, by rw [eL2, e2, e1, List.append_assoc]⟩
      · rw [eL2]; exact s_part_add hp1 hv2
      · rw [eL2]
        refine s_add_sub ?_
        rw [hk]
        exact s_add_in
      · rw [eL2]; exact s_add_in
    clear hl hP hS hS2 eL2 ej ef
    induction f generalizing j ls H locs G2 L2
    case zero =>
      obtain ⟨hf, hjm, hl, hP, hS, hS2, hpre, hp2, hsn, hog, hfl⟩ := inv
      obtain ⟨ρ2, rf2, hR2, -, -⟩ := id hS2
      refine lv_iload_n hx hb d_S_reachPartsOf_18 rfl (lv_at hl 0 rfl) ?_
      refine lv_aload_n hx hb d_S_reachPartsOf_19 rfl (lv_at hl 2 rfl) ?_
      refine va_getN (D := D) (ci := 3) (C := "StackRoom$MethodContext") (T := T_X) (N := 7) (v := .ref (fa i)) hx hb ht in_X hown hK.1 (hP.one (hR2.c3 h3)) 0 rfl rfl 5 (by decide) (va_Nw.use rfl (hK.2.1 _ fn_S_C_fields)) (fun _ h9 => h9) rfl d_S_reachPartsOf_20 ?_
      refine va_alen (v := nI (s_rm σ i)) hx hb hK.1 (hP.one (hR2.ca hc)) 0 0 rfl ht0 rfl d_S_reachPartsOf_23 ?_
      refine lv_icmp_ge (tgt := 43) hx hb d_S_reachPartsOf_24 (by decide) (fun cj => ?_) (fun cj => ?_)
      · have hge := (nI_leI (by omega) (by omega)).mp cj
        exact W.vret hx hb hr (fun t ht hW => ⟨⟨G2, rfl, ⟨L2, hpre, hp2, fun k hk => by
            rcases hk.2 with e | e | ⟨b, hb1, e⟩
            · exact hsn k e
            · exact e ▸ hog
            · exact hfl b (by omega) k e, hS2⟩, g_fin ht hP⟩, hS.F ht⟩) hS.2.2 d_S_reachPartsOf_43
      · have hlt : j < s_rm σ i := Nat.not_le.mp (fun q => cj ((nI_leI (by omega) (by omega)).mpr q))
        omega
    case succ f ih =>
      obtain ⟨hf, hjm, hl, hP, hS, hS2, hpre, hp2, hsn, hog, hfl⟩ := inv
      obtain ⟨ρ2, rf2, hR2, -, -⟩ := id hS2
      refine lv_iload_n hx hb d_S_reachPartsOf_18 rfl (lv_at hl 0 rfl) ?_
      refine lv_aload_n hx hb d_S_reachPartsOf_19 rfl (lv_at hl 2 rfl) ?_
      refine va_getN (D := D) (ci := 3) (C := "StackRoom$MethodContext") (T := T_X) (N := 7) (v := .ref (fa i)) hx hb ht in_X hown hK.1 (hP.one (hR2.c3 h3)) 0 rfl rfl 5 (by decide) (va_Nw.use rfl (hK.2.1 _ fn_S_C_fields)) (fun _ h9 => h9) rfl d_S_reachPartsOf_20 ?_
      refine va_alen (v := nI (s_rm σ i)) hx hb hK.1 (hP.one (hR2.ca hc)) 0 0 rfl ht0 rfl d_S_reachPartsOf_23 ?_
      refine lv_icmp_ge (tgt := 43) hx hb d_S_reachPartsOf_24 (by decide) (fun cj => ?_) (fun cj => ?_)
      · have hge := (nI_leI (by omega) (by omega)).mp cj
        exact W.vret hx hb hr (fun t ht hW => ⟨⟨G2, rfl, ⟨L2, hpre, hp2, fun k hk => by
            rcases hk.2 with e | e | ⟨b, hb1, e⟩
            · exact hsn k e
            · exact e ▸ hog
            · exact hfl b (by omega) k e, hS2⟩, g_fin ht hP⟩, hS.F ht⟩) hS.2.2 d_S_reachPartsOf_43
      · have hlt : j < s_rm σ i := Nat.not_le.mp (fun q => cj ((nI_leI (by omega) (by omega)).mpr q))
        refine lv_aload_n hx hb d_S_reachPartsOf_27 rfl (lv_at hl 1 rfl) ?_
        refine lv_aload_n hx hb d_S_reachPartsOf_28 rfl (lv_at hl 2 rfl) ?_
        refine va_getN (D := D) (ci := 3) (C := "StackRoom$MethodContext") (T := T_X) (N := 7) (v := .ref (fa i)) hx hb ht in_X hown hK.1 (hP.one (hR2.c3 h3)) 0 rfl rfl 5 (by decide) (va_Nw.use rfl (hK.2.1 _ fn_S_C_fields)) (fun _ h9 => h9) rfl d_S_reachPartsOf_29 ?_
        refine lv_iload_n hx hb d_S_reachPartsOf_32 rfl (lv_at hl 0 rfl) ?_
        refine va_aldq (C := "StackRoom$Value") hx hb hK.1 (hP.one (hR2.ca hc)) 0 0 rfl ht0 (vp_in_nI hlt (by omega)) d_S_reachPartsOf_33 ?_
        rw [nI_clamp (by omega)]
        have hv3 : ∀ a, s_fl σ i j = some (.inr a) → s_rch σ a := fun a e => s_rch_edge hi ⟨hc, Or.inr (Or.inr ⟨j, hlt, e⟩)⟩
        refine g_callv hP hS hA (r_V (rest := []) C0 [va_rf (fr i j)] (k_S_reach l hS2 hp2 hO hn4 hm ht0 ht1 (v := s_fl σ i j) hv3 (hR2.2.2.2.2.2.2.2.1 i hc j hlt)) ml_S_S_reach im_S_reach se_S_S_reach_S ini_S co_S_reach ⟨rfl, hd_S_reach⟩ (g_preV (ci := 0) hK hP rfl hR2.1) hl.1 d_S_reachPartsOf_34 rfl rfl (Nat.le_of_ble_eq_true rfl) ⟨rfl, rfl⟩ ⟨Nat.le_of_ble_eq_true rfl, Nat.le_of_ble_eq_true rfl⟩ ⟨Nat.le_of_ble_eq_true rfl, Nat.le_of_ble_eq_true rfl⟩) (fun G3 H locs hS3 hP hS hz9 hk9 => ?_)
        refine lv_iinc (v := nI (j + 1)) (lv' := [(2, .int (nI (j + 1))), (0, .ref x), (1, .ref (ad i))]) hx hb d_S_reachPartsOf_37 hl (k := 0) rfl (by rw [← nI_1]; rfl) (by decide) rfl (fun ls hl => ?_)
        refine lv_goto (tgt := 18) hx hb d_S_reachPartsOf_40 (by decide) ?_
        refine ih _ _ _ _ _ _ ⟨?_, ?_, lv_sub hl [0, 1, 2] rfl, hP, hS, hS3, ?_, s_part_add hp2 hv3, fun k hk => s_add_sub (hsn k hk), s_add_sub hog, fun k hk a ha => ?_⟩
        · omega
        · omega
        · obtain ⟨M1, e1⟩ := hpre
          obtain ⟨M2, e2⟩ := s_add_pre L2 (s_fl σ i j)
          exact ⟨M1 ++ M2, by rw [e2, e1, List.append_assoc]⟩
        · by_cases e : k = j
          · subst e
            rw [ha]
            exact s_add_in
          · exact s_add_sub (hfl k (by omega) a ha)
  · obtain ⟨ρ, rf, hR, -, -⟩ := id hS0
    refine lv_aload_n hx hb d_S_reachPartsOf_0 rfl (lv_at hl 0 rfl) ?_
    refine lv_aload_n hx hb d_S_reachPartsOf_1 rfl (lv_at hl 1 rfl) ?_
    refine va_getN (D := D) (ci := 4) (C := "StackRoom$BlockContext") (T := T_B) (N := 8) (v := va_rf ((s_sn σ i).map ad)) hx hb ht in_B hown hK.1 (hP.one (hR.c4 h4)) 0 rfl rfl 2 (by decide) (va_Nw.use rfl (hK.2.1 _ fn_S_C_sender)) (fun _ h9 => h9) rfl d_S_reachPartsOf_2 ?_
    have hv1 : ∀ j, ((s_sn σ i).map .inr : sV) = some (.inr j) → s_rch σ j := fun j e => s_rch_edge hi ⟨hc, Or.inl (sn_inr e)⟩
    refine g_callv hP hS hA (r_V (rest := []) C0 [va_rf ((s_sn σ i).map ad)] (k_S_reach l hS0 hp hO hn4 hm ht0 ht1 (v := (s_sn σ i).map .inr) hv1 (c_val_sn (s_sn σ i))) ml_S_S_reach im_S_reach se_S_S_reach_S ini_S co_S_reach ⟨rfl, hd_S_reach⟩ (g_preV (ci := 0) hK hP rfl hR.1) hl.1 d_S_reachPartsOf_5 rfl rfl (Nat.le_of_ble_eq_true rfl) ⟨rfl, rfl⟩ ⟨Nat.le_of_ble_eq_true rfl, Nat.le_of_ble_eq_true rfl⟩ ⟨Nat.le_of_ble_eq_true rfl, Nat.le_of_ble_eq_true rfl⟩) (fun G1 H locs hS1 hP hS hz9 hk9 => ?_)
    clear hz9 hk9
    obtain ⟨ρ1, rf1, hR1, -, -⟩ := id hS1
    refine lv_aload_n hx hb d_S_reachPartsOf_8 rfl (lv_at hl 0 rfl) ?_
    refine lv_aload_n hx hb d_S_reachPartsOf_9 rfl (lv_at hl 1 rfl) ?_
    refine va_csq (va_Run.run (r_A (owner := "StackRoom$Context") (n := 0) (rest := [.ref x]) C0 [] (k_B_origin l hR1 (i := i) h4) ml_S_C_origin sm_C_C_origin se_B_C_origin_B im_B_origin ini_B co_B_origin (hK.2.1 _ dc_C_origin) (by decide +kernel) (g_preV (ci := 4) hK hP rfl (hR1.c4 h4)) hl.1 d_S_reachPartsOf_10 rfl rfl (Nat.le_of_ble_eq_true rfl) ⟨rfl, rfl⟩ ⟨Nat.le_of_ble_eq_true rfl, Nat.le_of_ble_eq_true rfl⟩ ⟨Nat.le_of_ble_eq_true rfl, Nat.le_of_ble_eq_true rfl⟩)) (fun q eq => ?_)
    subst eq
    have hp1 := s_part_add hp hv1
    have hv2 : ∀ j, (some (.inr (s_og σ i)) : sV) = some (.inr j) → s_rch σ j := fun j e => by cases e; exact s_rch_edge hi ⟨hc, Or.inr (Or.inl rfl)⟩
    refine g_callv hP hS hA (r_V (rest := []) C0 [va_rf (some (ad (s_og σ i)))] (k_S_reach l hS1 hp1 hO hn4 hm ht0 ht1 (v := some (.inr (s_og σ i))) hv2 (r := some (ad (s_og σ i))) rfl) ml_S_S_reach im_S_reach se_S_S_reach_S ini_S co_S_reach ⟨rfl, hd_S_reach⟩ (g_preV (ci := 0) hK hP rfl hR1.1) hl.1 d_S_reachPartsOf_13 rfl rfl (Nat.le_of_ble_eq_true rfl) ⟨rfl, rfl⟩ ⟨Nat.le_of_ble_eq_true rfl, Nat.le_of_ble_eq_true rfl⟩ ⟨Nat.le_of_ble_eq_true rfl, Nat.le_of_ble_eq_true rfl⟩) (fun G2 H locs hS2 hP hS hz9 hk9 => ?_)
    clear hz9 hk9
    refine lv_iconst (v := 0) hx hb d_S_reachPartsOf_16 (by decide) ?_
    refine lv_istore_n (lv' := [(2, .int 0), (0, .ref x), (1, .ref (ad i))]) hx hb d_S_reachPartsOf_17 rfl hl (by decide) rfl (fun ls hl => ?_)
    obtain ⟨L2, eL2⟩ : ∃ z, z = s_add (s_add L ((s_sn σ i).map .inr)) (some (.inr (s_og σ i))) := ⟨_, rfl⟩
    rw [← eL2] at hS2
    obtain ⟨j, ej⟩ : ∃ z : Nat, z = 0 := ⟨_, rfl⟩
    obtain ⟨f, ef⟩ : ∃ z : Nat, z = s_rm σ i := ⟨_, rfl⟩
    have inv : s_rm σ i ≤ j + f ∧ j ≤ s_rm σ i ∧ lv_has ls 3 [(2, .int (nI j)), (0, .ref x), (1, .ref (ad i))] ∧ gw_P D vwCl (gw_A G s.heap.size) G2 H ∧ va_S (gw_A G s.heap.size) s.heap H locs ∧ c_Srv w n rd md cV cT σ x ra rt ad fa fr rr L2 cr G2 ∧ (∃ M, L2 = L ++ M) ∧ s_part σ L2 ∧ (∀ k, s_sn σ i = some k → k ∈ L2) ∧ s_og σ i ∈ L2 ∧ (∀ k, k < j → ∀ a, s_fl σ i k = some (.inr a) → a ∈ L2) := by
      refine ⟨by omega, by omega, by rw [ej]; exact hl, hP, hS, hS2, ?_, ?_, fun k hk => ?_, ?_, fun k hk => absurd hk (by omega)⟩
      · obtain ⟨M1, e1⟩ := s_add_pre L ((s_sn σ i).map .inr)
        obtain ⟨M2, e2⟩ := s_add_pre (s_add L ((s_sn σ i).map .inr)) (some (.inr (s_og σ i)))
        exact ⟨M1 ++ M2, by rw [eL2, e2, e1, List.append_assoc]⟩
      · rw [eL2]; exact s_part_add hp1 hv2
      · rw [eL2]
        refine s_add_sub ?_
        rw [hk]
        exact s_add_in
      · rw [eL2]; exact s_add_in
    clear hl hP hS hS2 eL2 ej ef
    induction f generalizing j ls H locs G2 L2
    case zero =>
      obtain ⟨hf, hjm, hl, hP, hS, hS2, hpre, hp2, hsn, hog, hfl⟩ := inv
      obtain ⟨ρ2, rf2, hR2, -, -⟩ := id hS2
      refine lv_iload_n hx hb d_S_reachPartsOf_18 rfl (lv_at hl 0 rfl) ?_
      refine lv_aload_n hx hb d_S_reachPartsOf_19 rfl (lv_at hl 2 rfl) ?_
      refine va_getN (D := D) (ci := 4) (C := "StackRoom$BlockContext") (T := T_B) (N := 8) (v := .ref (fa i)) hx hb ht in_B hown hK.1 (hP.one (hR2.c4 h4)) 0 rfl rfl 5 (by decide) (va_Nw.use rfl (hK.2.1 _ fn_S_C_fields)) (fun _ h9 => h9) rfl d_S_reachPartsOf_20 ?_
      refine va_alen (v := nI (s_rm σ i)) hx hb hK.1 (hP.one (hR2.ca hc)) 0 0 rfl ht0 rfl d_S_reachPartsOf_23 ?_
      refine lv_icmp_ge (tgt := 43) hx hb d_S_reachPartsOf_24 (by decide) (fun cj => ?_) (fun cj => ?_)
      · have hge := (nI_leI (by omega) (by omega)).mp cj
        exact W.vret hx hb hr (fun t ht hW => ⟨⟨G2, rfl, ⟨L2, hpre, hp2, fun k hk => by
            rcases hk.2 with e | e | ⟨b, hb1, e⟩
            · exact hsn k e
            · exact e ▸ hog
            · exact hfl b (by omega) k e, hS2⟩, g_fin ht hP⟩, hS.F ht⟩) hS.2.2 d_S_reachPartsOf_43
      · have hlt : j < s_rm σ i := Nat.not_le.mp (fun q => cj ((nI_leI (by omega) (by omega)).mpr q))
        omega
    case succ f ih =>
      obtain ⟨hf, hjm, hl, hP, hS, hS2, hpre, hp2, hsn, hog, hfl⟩ := inv
      obtain ⟨ρ2, rf2, hR2, -, -⟩ := id hS2
      refine lv_iload_n hx hb d_S_reachPartsOf_18 rfl (lv_at hl 0 rfl) ?_
      refine lv_aload_n hx hb d_S_reachPartsOf_19 rfl (lv_at hl 2 rfl) ?_
      refine va_getN (D := D) (ci := 4) (C := "StackRoom$BlockContext") (T := T_B) (N := 8) (v := .ref (fa i)) hx hb ht in_B hown hK.1 (hP.one (hR2.c4 h4)) 0 rfl rfl 5 (by decide) (va_Nw.use rfl (hK.2.1 _ fn_S_C_fields)) (fun _ h9 => h9) rfl d_S_reachPartsOf_20 ?_
      refine va_alen (v := nI (s_rm σ i)) hx hb hK.1 (hP.one (hR2.ca hc)) 0 0 rfl ht0 rfl d_S_reachPartsOf_23 ?_
      refine lv_icmp_ge (tgt := 43) hx hb d_S_reachPartsOf_24 (by decide) (fun cj => ?_) (fun cj => ?_)
      · have hge := (nI_leI (by omega) (by omega)).mp cj
        exact W.vret hx hb hr (fun t ht hW => ⟨⟨G2, rfl, ⟨L2, hpre, hp2, fun k hk => by
            rcases hk.2 with e | e | ⟨b, hb1, e⟩
            · exact hsn k e
            · exact e ▸ hog
            · exact hfl b (by omega) k e, hS2⟩, g_fin ht hP⟩, hS.F ht⟩) hS.2.2 d_S_reachPartsOf_43
      · have hlt : j < s_rm σ i := Nat.not_le.mp (fun q => cj ((nI_leI (by omega) (by omega)).mpr q))
        refine lv_aload_n hx hb d_S_reachPartsOf_27 rfl (lv_at hl 1 rfl) ?_
        refine lv_aload_n hx hb d_S_reachPartsOf_28 rfl (lv_at hl 2 rfl) ?_
        refine va_getN (D := D) (ci := 4) (C := "StackRoom$BlockContext") (T := T_B) (N := 8) (v := .ref (fa i)) hx hb ht in_B hown hK.1 (hP.one (hR2.c4 h4)) 0 rfl rfl 5 (by decide) (va_Nw.use rfl (hK.2.1 _ fn_S_C_fields)) (fun _ h9 => h9) rfl d_S_reachPartsOf_29 ?_
        refine lv_iload_n hx hb d_S_reachPartsOf_32 rfl (lv_at hl 0 rfl) ?_
        refine va_aldq (C := "StackRoom$Value") hx hb hK.1 (hP.one (hR2.ca hc)) 0 0 rfl ht0 (vp_in_nI hlt (by omega)) d_S_reachPartsOf_33 ?_
        rw [nI_clamp (by omega)]
        have hv3 : ∀ a, s_fl σ i j = some (.inr a) → s_rch σ a := fun a e => s_rch_edge hi ⟨hc, Or.inr (Or.inr ⟨j, hlt, e⟩)⟩
        refine g_callv hP hS hA (r_V (rest := []) C0 [va_rf (fr i j)] (k_S_reach l hS2 hp2 hO hn4 hm ht0 ht1 (v := s_fl σ i j) hv3 (hR2.2.2.2.2.2.2.2.1 i hc j hlt)) ml_S_S_reach im_S_reach se_S_S_reach_S ini_S co_S_reach ⟨rfl, hd_S_reach⟩ (g_preV (ci := 0) hK hP rfl hR2.1) hl.1 d_S_reachPartsOf_34 rfl rfl (Nat.le_of_ble_eq_true rfl) ⟨rfl, rfl⟩ ⟨Nat.le_of_ble_eq_true rfl, Nat.le_of_ble_eq_true rfl⟩ ⟨Nat.le_of_ble_eq_true rfl, Nat.le_of_ble_eq_true rfl⟩) (fun G3 H locs hS3 hP hS hz9 hk9 => ?_)
        refine lv_iinc (v := nI (j + 1)) (lv' := [(2, .int (nI (j + 1))), (0, .ref x), (1, .ref (ad i))]) hx hb d_S_reachPartsOf_37 hl (k := 0) rfl (by rw [← nI_1]; rfl) (by decide) rfl (fun ls hl => ?_)
        refine lv_goto (tgt := 18) hx hb d_S_reachPartsOf_40 (by decide) ?_
        refine ih _ _ _ _ _ _ ⟨?_, ?_, lv_sub hl [0, 1, 2] rfl, hP, hS, hS3, ?_, s_part_add hp2 hv3, fun k hk => s_add_sub (hsn k hk), s_add_sub hog, fun k hk a ha => ?_⟩
        · omega
        · omega
        · obtain ⟨M1, e1⟩ := hpre
          obtain ⟨M2, e2⟩ := s_add_pre L2 (s_fl σ i j)
          exact ⟨M1 ++ M2, by rw [e2, e1, List.append_assoc]⟩
        · by_cases e : k = j
          · subst e
            rw [ha]
            exact s_add_in
          · exact s_add_sub (hfl k (by omega) a ha)
end K16
