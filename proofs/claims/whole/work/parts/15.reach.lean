/-- in the middle of a survey: L has been reached, in this order; the marks say so -/
def c_Srv (w n rd md : Nat) (cV cT : ClassId) (σ : sS) (x ra rt : Nat) (ad fa : Nat → Nat) (fr : Nat → Nat → Option Nat) (rr : Nat → Option Nat) (L : List Nat) (cr : Int32) (G : gw_G) : Prop :=
  ∃ (ρ : Nat → Int32) (rf : Nat → Option Nat), c_Rep w n rd md cV cT σ x ra rt ad fa ρ fr rr rf (nI L.length) (nI (w - 8 - s_sum (s_wd σ) L)) (nI (n - 2 - s_sum (s_en σ) L)) cr G ∧ (∀ k i, L[k]? = some i → rf k = some (ad i)) ∧ (∀ i, s_kd σ i ≠ 0 → (ρ i = nI rd ↔ i ∈ L))
theorem t_any {A : Nat → Prop} {D : va_G} {tys : List (ClassId × FieldType)} {G : gw_G} {s : State} {H : Heap} {a ci : Nat} {fs : List Value} (hK : kK D tys s) (hP : gw_P D vwCl A G H) (he : G a = some (.inr (ci, fs))) (hc : ci = kM ∨ ci = kC ∨ ci = kB) : va_Any "StackRoom$Thing" s H a := by
  rcases hc with rfl | rfl | rfl
  · exact gw_any hK.1 hP he rfl (ca_asg (hK.2.1 _ ca_M_T))
  · exact gw_any hK.1 hP he rfl (ca_asg (hK.2.1 _ ca_X_T))
  · exact gw_any hK.1 hP he rfl (ca_asg (hK.2.1 _ ca_B_T))
theorem s_add_o {L : List Nat} {i : Nat} (h : i ∉ L) : s_add L (some (.inr i)) = L ++ [i] := if_neg h
theorem s_add_y {L : List Nat} {i : Nat} (h : i ∈ L) : s_add L (some (.inr i)) = L := if_pos h
section K15
variable {w n rd md : Nat} {cV cT : ClassId} {σ : sS} {x ra rt : Nat} {ad fa : Nat → Nat} {ρ : Nat → Int32} {fr : Nat → Nat → Option Nat} {rr rf : Nat → Option Nat} {rc wl el cr : Int32} {G : gw_G} {D : va_G} {tys : List (ClassId × FieldType)} {sz : Nat} {L : List Nat}
/-- one more is reached: the room's numbers behind it -/
theorem c_Srv.add {i : Nat} {ρ : Nat → Int32} {rf : Nat → Option Nat} {G1 : gw_G} (hO : s_OK w n σ) (hp : s_part σ L) (hi : s_rch σ i) (hn : i ∉ L) (hrf : ∀ k j, L[k]? = some j → rf k = some (ad j)) (hmk : ∀ j, s_kd σ j ≠ 0 → (ρ j = nI rd ↔ j ∈ L))
    (hR : c_Rep w n rd md cV cT σ x ra rt ad fa (va_up ρ i (nI rd)) fr rr (va_up rf L.length (some (ad i))) (nI L.length + 1) (nI (w - 8 - s_sum (s_wd σ) L) - nI (s_wd σ i)) (nI (n - 2 - s_sum (s_en σ) L) - nI (s_en σ i)) cr G1) : c_Srv w n rd md cV cT σ x ra rt ad fa fr rr (L ++ [i]) cr G1 := by
  have hp2 := s_part_push hp hi hn
  have h1 := s_part_W hp2 hO.1
  have h2 := s_part_N hp2 hO.1
  rw [s_sum_push] at h1 h2
  have h3 := hO.2.1
  have h4 := hO.2.2
  refine ⟨va_up ρ i (nI rd), va_up rf L.length (some (ad i)), ?_, fun k j hk => ?_, fun j hj => ?_⟩
  · rw [s_sum_push, s_sum_push, List.length_append, List.length_singleton, ← nI_1, show w - 8 - (s_sum (s_wd σ) L + s_wd σ i) = w - 8 - s_sum (s_wd σ) L - s_wd σ i by omega, show n - 2 - (s_sum (s_en σ) L + s_en σ i) = n - 2 - s_sum (s_en σ) L - s_en σ i by omega, ← pk_sub (a := w - 8 - s_sum (s_wd σ) L) (by omega), ← pk_sub (a := n - 2 - s_sum (s_en σ) L) (by omega)]
    exact hR
  · by_cases e : k = L.length
    · subst e
      rw [List.getElem?_append_right (Nat.le_refl _), Nat.sub_self] at hk
      cases hk
      exact va_up_self _ _ _
    · rw [va_up_ne _ _ e]
      have hl : k < L.length := by
        have := (List.getElem?_eq_some_iff.mp hk).1
        rw [List.length_append, List.length_singleton] at this
        omega
      rw [List.getElem?_append_left hl] at hk
      exact hrf k j hk
  · by_cases e : j = i
    · subst e
      rw [va_up_self]
      exact ⟨fun _ => List.mem_append_right _ List.mem_cons_self, fun _ => rfl⟩
    · rw [va_up_ne _ _ e, hmk j hj]
      constructor
      · intro h
        exact List.mem_append_left _ h
      · intro h
        rcases List.mem_append.mp h with h | h
        · exact h
        · exact absurd (List.mem_singleton.mp h) e
set_option maxHeartbeats 4000000 in
set_option maxRecDepth 100000 in
theorem k_S_reach_N (l : Launch) (hS0 : c_Srv w n rd md cV cT σ x ra rt ad fa fr rr L cr G) (hp : s_part σ L) (hO : s_OK w n σ) (hn4 : n ≤ 4096) (hm : s_md σ < 2 ^ 31) : Met l y_S_reach w_S_reach ({ frames := 2, cells := 0, slots := 0, locals := 40 }) (g_pre D tys G sz [.ref x, .null]) (va_Qv (fun G1 : gw_G => c_Srv w n rd md cV cT σ x ra rt ad fa fr rr L cr G1) (g_end D G sz) (gw_A G sz)) 0 0 (gw_A G sz) := by
  refine Met.ofW (cc := b_S_reach) (maxL := 3) (ret := none) (by decide) rfl ?_
  intro p e s m args below meth c s₁ B hml hv
  obtain ⟨rfl, hsz, hP, hK⟩ := hv
  have hx := B.exec
  have hb := B.bytes
  have hr := B.returns
  have ht := fun w (hw : w ∈ gt) => atoms_spec (ws := w_S_reach) B.pre w (List.mem_cons_of_mem _ hw)
  have hown : s.vm.findClass "StackRoom" = some m.cls := findClass_of_methodNamed B.named
  have hlocks := B.notSynchronized
  have C0 : CallFix p m c b_S_reach 3 s [.ref x, .null].toArray gt "StackRoom" := ⟨hx, hb, hml, hown, ht⟩
  subst hsz
  have hP := hP.self (sz := s.heap.size)
  have hA : ∀ q : Nat, s.heap.size ≤ q → gw_A G s.heap.size q := fun q h => Or.inr h
  have hS : va_S (gw_A G s.heap.size) s.heap s.heap [] := va_S.rf
  have hl := lv_entry ([.ref x, .null]) (n := 3) (Nat.le_of_ble_eq_true rfl)
  rw [lg_entry_eq]
  generalize (lg_sl ([.ref x, .null]) ++ List.replicate (3 - (lg_sl ([.ref x, .null])).length) Slot.unset).toArray = ls at hl ⊢
  have hl : lv_has ls 3 [(0, .ref x), (1, .null)] := hl
  refine lv_aload_nN hx hb d_S_reach_0 rfl (lv_at hl 1 rfl) ?_
  refine lv_instN hx hb d_S_reach_1 ?_
  refine lv_if_eq (tgt := 89) hx hb d_S_reach_4 (by decide) (fun _ => ?_) (fun h => absurd h (by decide))
  exact W.vret hx hb hr (fun t ht hW => ⟨⟨G, rfl, hS0, g_fin ht hP⟩, hS.F ht⟩) hS.2.2 d_S_reach_89
set_option maxHeartbeats 4000000 in
set_option maxRecDepth 100000 in
theorem k_S_reach_W (l : Launch) (hS0 : c_Srv w n rd md cV cT σ x ra rt ad fa fr rr L cr G) (hp : s_part σ L) (hO : s_OK w n σ) (hn4 : n ≤ 4096) (hm : s_md σ < 2 ^ 31) {a : Nat} {nv : Int32} (ha : G a = some (.inr (kW, [.int nv]))) : Met l y_S_reach w_S_reach ({ frames := 2, cells := 0, slots := 0, locals := 40 }) (g_pre D tys G sz [.ref x, .ref a]) (va_Qv (fun G1 : gw_G => c_Srv w n rd md cV cT σ x ra rt ad fa fr rr L cr G1) (g_end D G sz) (gw_A G sz)) 0 0 (gw_A G sz) := by
  refine Met.ofW (cc := b_S_reach) (maxL := 3) (ret := none) (by decide) rfl ?_
  intro p e s m args below meth c s₁ B hml hv
  obtain ⟨rfl, hsz, hP, hK⟩ := hv
  have hx := B.exec
  have hb := B.bytes
  have hr := B.returns
  have ht := fun w (hw : w ∈ gt) => atoms_spec (ws := w_S_reach) B.pre w (List.mem_cons_of_mem _ hw)
  have hown : s.vm.findClass "StackRoom" = some m.cls := findClass_of_methodNamed B.named
  have hlocks := B.notSynchronized
  have C0 : CallFix p m c b_S_reach 3 s [.ref x, .ref a].toArray gt "StackRoom" := ⟨hx, hb, hml, hown, ht⟩
  subst hsz
  have hP := hP.self (sz := s.heap.size)
  have hA : ∀ q : Nat, s.heap.size ≤ q → gw_A G s.heap.size q := fun q h => Or.inr h
  have hS : va_S (gw_A G s.heap.size) s.heap s.heap [] := va_S.rf
  have hl := lv_entry ([.ref x, .ref a]) (n := 3) (Nat.le_of_ble_eq_true rfl)
  rw [lg_entry_eq]
  generalize (lg_sl ([.ref x, .ref a]) ++ List.replicate (3 - (lg_sl ([.ref x, .ref a])).length) Slot.unset).toArray = ls at hl ⊢
  have hl : lv_has ls 3 [(0, .ref x), (1, .ref a)] := hl
  refine lv_aload_n hx hb d_S_reach_0 rfl (lv_at hl 1 rfl) ?_
  refine va_instNo hx hb hown (ht _ cl_S_T) hK.2.nWT (gw_recv hK.1 hP rfl ha) d_S_reach_1 ?_
  refine lv_if_eq (tgt := 89) hx hb d_S_reach_4 (by decide) (fun _ => ?_) (fun h => absurd h (by decide))
  exact W.vret hx hb hr (fun t ht hW => ⟨⟨G, rfl, hS0, g_fin ht hP⟩, hS.F ht⟩) hS.2.2 d_S_reach_89
set_option maxHeartbeats 4000000 in
set_option maxRecDepth 100000 in
theorem k_S_reach_O (l : Launch) (hS0 : c_Srv w n rd md cV cT σ x ra rt ad fa fr rr L cr G) (hp : s_part σ L) (hO : s_OK w n σ) (hn4 : n ≤ 4096) (hm : s_md σ < 2 ^ 31) (ht0 : tys[0]? = some (cV, .object "StackRoom$Value")) (ht1 : tys[1]? = some (cT, .object "StackRoom$Thing")) {i : Nat} (hi : s_rch σ i) : Met l y_S_reach w_S_reach ({ frames := 2, cells := 0, slots := 0, locals := 40 }) (g_pre D tys G sz [.ref x, .ref (ad i)]) (va_Qv (fun G1 : gw_G => c_Srv w n rd md cV cT σ x ra rt ad fa fr rr (s_add L (some (.inr i))) cr G1) (g_end D G sz) (gw_A G sz)) 0 0 (gw_A G sz) := by
  refine Met.ofW (cc := b_S_reach) (maxL := 3) (ret := none) (by decide) rfl ?_
  intro p e s m args below meth c s₁ B hml hv
  obtain ⟨rfl, hsz, hP, hK⟩ := hv
  have hx := B.exec
  have hb := B.bytes
  have hr := B.returns
  have ht := fun w (hw : w ∈ gt) => atoms_spec (ws := w_S_reach) B.pre w (List.mem_cons_of_mem _ hw)
  have hown : s.vm.findClass "StackRoom" = some m.cls := findClass_of_methodNamed B.named
  have hlocks := B.notSynchronized
  have C0 : CallFix p m c b_S_reach 3 s [.ref x, .ref (ad i)].toArray gt "StackRoom" := ⟨hx, hb, hml, hown, ht⟩
  subst hsz
  have hP := hP.self (sz := s.heap.size)
  have hA : ∀ q : Nat, s.heap.size ≤ q → gw_A G s.heap.size q := fun q h => Or.inr h
  have hS : va_S (gw_A G s.heap.size) s.heap s.heap [] := va_S.rf
  have hl := lv_entry ([.ref x, .ref (ad i)]) (n := 3) (Nat.le_of_ble_eq_true rfl)
  rw [lg_entry_eq]
  generalize (lg_sl ([.ref x, .ref (ad i)]) ++ List.replicate (3 - (lg_sl ([.ref x, .ref (ad i)])).length) Slot.unset).toArray = ls at hl ⊢
  have hl : lv_has ls 3 [(0, .ref x), (1, .ref (ad i))] := hl
  obtain ⟨ρ, rf, hR, hrf, hmk⟩ := id hS0
  have hi0 := s_rch_kd hO.1 hi
  have hle := s_part_len hp hO
  rcases (hO.1.2.1 i hi0).2.2 with hj | hj | hj
  · refine lv_aload_n hx hb d_S_reach_0 rfl (lv_at hl 1 rfl) ?_
    refine va_instY hx hb hown (ht _ cl_S_T) (hK.2.1 _ ca_M_T) (gw_recv hK.1 hP rfl (hR.c2 hj)) d_S_reach_1 ?_
    refine lv_if_eq (tgt := 89) hx hb d_S_reach_4 (by decide) (fun h => absurd h (by decide)) (fun _ => ?_)
    refine lv_aload_n hx hb d_S_reach_7 rfl (lv_at hl 1 rfl) ?_
    refine va_castY hx hb hown (ht _ cl_S_T) (hK.2.1 _ ca_M_T) (gw_recv hK.1 hP rfl (hR.c2 hj)) d_S_reach_8 ?_
    refine lv_astore_n (lv' := [(2, .ref (ad i)), (0, .ref x), (1, .ref (ad i))]) hx hb d_S_reach_11 rfl hl (by decide) rfl (fun ls hl => ?_)
    refine lv_aload_n hx hb d_S_reach_12 rfl (lv_at hl 0 rfl) ?_
    refine va_getN (D := D) (ci := 2) (C := "StackRoom$Method") (T := T_M) (N := 4) (v := .int (ρ i)) hx hb ht in_M hown hK.1 (hP.one (hR.c2 hj)) 0 rfl rfl 1 (by decide) (va_Nw.use rfl (hK.2.1 _ fn_S_T_round)) (fun _ h9 => h9) rfl d_S_reach_13 ?_
    refine lv_aload_n hx hb d_S_reach_16 rfl (lv_at hl 1 rfl) ?_
    refine va_get (D := D) (ci := 0) (C := "StackRoom") (T := T_S) (N := 10) (v := .int (nI rd)) hx hb ht in_S hown hK.1 (hP.one hR.1) 0 rfl rfl 6 (by decide) (ht _ fl_S_S_round) (fun _ h9 => h9) rfl d_S_reach_17 ?_
    refine lv_icmp_eq (tgt := 89) hx hb d_S_reach_20 (by decide) (fun c20 => ?_) (fun c20 => ?_)
    · exact W.vret hx hb hr (fun t ht hW => ⟨⟨G, rfl, (by rw [s_add_y ((hmk i hi0).mp c20)]; exact hS0), g_fin ht hP⟩, hS.F ht⟩) hS.2.2 d_S_reach_89
    · have hni : i ∉ L := fun h => c20 ((hmk i hi0).mpr h)
      refine lv_aload_n hx hb d_S_reach_23 rfl (lv_at hl 1 rfl) ?_
      refine va_get (D := D) (ci := 0) (C := "StackRoom") (T := T_S) (N := 10) (v := .int (nI L.length)) hx hb ht in_S hown hK.1 (hP.one hR.1) 0 rfl rfl 5 (by decide) (ht _ fl_S_S_reachedCount) (fun _ h9 => h9) rfl d_S_reach_24 ?_
      refine lv_aload_n hx hb d_S_reach_27 rfl (lv_at hl 1 rfl) ?_
      refine va_get (D := D) (ci := 0) (C := "StackRoom") (T := T_S) (N := 10) (v := .ref rt) hx hb ht in_S hown hK.1 (hP.one hR.1) 0 rfl rfl 4 (by decide) (ht _ fl_S_S_reached) (fun _ h9 => h9) rfl d_S_reach_28 ?_
      refine va_alen (v := nI n) hx hb hK.1 (hP.one hR.2.2.1) 0 1 rfl ht1 rfl d_S_reach_31 ?_
      refine lv_icmp_ge (tgt := 89) hx hb d_S_reach_32 (by decide) (fun c32 => ?_) (fun c32 => ?_)
      · exact absurd ((nI_leI (by omega) (by omega)).mp c32) (by omega)
      · refine lv_aload_n hx hb d_S_reach_35 rfl (lv_at hl 0 rfl) ?_
        refine lv_aload_n hx hb d_S_reach_36 rfl (lv_at hl 1 rfl) ?_
        refine va_get (D := D) (ci := 0) (C := "StackRoom") (T := T_S) (N := 10) (v := .int (nI rd)) hx hb ht in_S hown hK.1 (hP.one hR.1) 0 rfl rfl 6 (by decide) (ht _ fl_S_S_round) (fun _ h9 => h9) rfl d_S_reach_37 ?_
        refine gw_putN (D := D) (cl := vwCl) (ci := 2) (C := "StackRoom$Method") (T := T_M) (N := 4) (v := .int (nI rd)) (ty := .int) hx hb ht in_M ty_M tk_M nm_M hown hK.1 hP hS (hR.c2 hj) rfl 1 (by decide) (va_Nw.use rfl (hK.2.1 _ fn_S_T_round)) (fun _ h9 => h9) rfl (by decide +kernel) rfl rfl (Nat.le_of_ble_eq_true rfl) d_S_reach_40 (fun H locs hP hS => ?_)
        obtain ⟨G1, eG1⟩ : ∃ z : gw_G, z = va_up G (ad i) (some (.inr (2, [.int (nI i), .int (nI rd), .int (nI (s_tt σ i)), .int (nI (s_dd σ i))]))) := ⟨_, rfl⟩
        have hP : gw_P D vwCl (gw_A G s.heap.size) G1 H := by rw [eG1]; exact hP
        have f1 : G1 (ad i) = some (.inr (2, [.int (nI i), .int (nI rd), .int (nI (s_tt σ i)), .int (nI (s_dd σ i))])) := by rw [eG1]; exact va_up_self _ _ _
        have hR1 := hR.obj (i := i) (τ := σ) (ρ' := va_up ρ i (nI rd)) hO.1 hm hi0 rfl rfl rfl rfl (fun j hj9 => by unfold c_cell; rw [va_up_ne _ _ hj9]) (fun j hj9 => by
            by_cases e : j = i
            · exact ⟨rd, Nat.le_refl _, by rw [e, va_up_self]⟩
            · rw [va_up_ne _ _ e]; exact hR.2.2.2.2.2.2.2.2.2 j hj9)
        have e8 : c_cell σ ad fa (va_up ρ i (nI rd)) i = .inr (2, [.int (nI i), .int (nI rd), .int (nI (s_tt σ i)), .int (nI (s_dd σ i))]) := by unfold c_cell; rw [hj, va_up_self]; rfl
        rw [e8, ← eG1] at hR1
        refine lv_aload_n hx hb d_S_reach_43 rfl (lv_at hl 1 rfl) ?_
        refine va_get (D := D) (ci := 0) (C := "StackRoom") (T := T_S) (N := 10) (v := .ref rt) hx hb ht in_S hown hK.1 (hP.one hR1.1) 0 rfl rfl 4 (by decide) (ht _ fl_S_S_reached) (fun _ h9 => h9) rfl d_S_reach_44 ?_
        refine lv_aload_n hx hb d_S_reach_47 rfl (lv_at hl 1 rfl) ?_
        refine va_get (D := D) (ci := 0) (C := "StackRoom") (T := T_S) (N := 10) (v := .int (nI L.length)) hx hb ht in_S hown hK.1 (hP.one hR1.1) 0 rfl rfl 5 (by decide) (ht _ fl_S_S_reachedCount) (fun _ h9 => h9) rfl d_S_reach_48 ?_
        refine lv_aload_n hx hb d_S_reach_51 rfl (lv_at hl 0 rfl) ?_
        refine gw_astqM hx hb hK.1 hP hS 1 hR1.2.2.1 ht1 (t_any hK hP f1 (Or.inl rfl)) (vp_in_nI (by omega) (by omega)) d_S_reach_52 (fun H locs hP hS => ?_)
        rw [nI_clamp (by omega)] at hP
        obtain ⟨G2, eG2⟩ : ∃ z : gw_G, z = va_up G1 rt (some (.inl (cT, n, qv (va_up rf L.length (some (ad i)))))) := ⟨_, rfl⟩
        have hP : gw_P D vwCl (gw_A G s.heap.size) G2 H := by rw [eG2]; exact hP
        have hR2 := hR1.row (rf' := va_up rf L.length (some (ad i)))
        rw [← eG2] at hR2
        refine lv_aload_n hx hb d_S_reach_53 rfl (lv_at hl 1 rfl) ?_
        refine lv_dup hx hb d_S_reach_54 rfl ?_
        refine va_get (D := D) (ci := 0) (C := "StackRoom") (T := T_S) (N := 10) (v := .int (nI L.length)) hx hb ht in_S hown hK.1 (hP.one hR2.1) 0 rfl rfl 5 (by decide) (ht _ fl_S_S_reachedCount) (fun _ h9 => h9) rfl d_S_reach_55 ?_
        refine lv_iconst (v := 1) hx hb d_S_reach_58 (by decide) ?_
        refine lv_iadd hx hb d_S_reach_59 ?_
        refine gw_put (D := D) (cl := vwCl) (ci := 0) (C := "StackRoom") (T := T_S) (N := 10) (v := .int ((nI L.length) + 1)) (ty := .int) hx hb ht in_S ty_S tk_S nm_S hown hK.1 hP hS hR2.1 rfl 5 (by decide) (ht _ fl_S_S_reachedCount) (fun _ h9 => h9) rfl (by decide +kernel) rfl rfl (Nat.le_of_ble_eq_true rfl) d_S_reach_60 (fun H locs hP hS => ?_)
        obtain ⟨G3, eG3⟩ : ∃ z : gw_G, z = va_up G2 x (some (.inr (0, [.int (nI w), .int (nI n), .ref ra, .int (nI md), .ref rt, .int ((nI L.length) + 1), .int (nI rd), .int (nI (w - 8 - s_sum (s_wd σ) L)), .int (nI (n - 2 - s_sum (s_en σ) L)), .int cr]))) := ⟨_, rfl⟩
        have hP : gw_P D vwCl (gw_A G s.heap.size) G3 H := by rw [eG3]; exact hP
        have f3 : G3 x = some (.inr (0, [.int (nI w), .int (nI n), .ref ra, .int (nI md), .ref rt, .int ((nI L.length) + 1), .int (nI rd), .int (nI (w - 8 - s_sum (s_wd σ) L)), .int (nI (n - 2 - s_sum (s_en σ) L)), .int cr])) := by rw [eG3]; exact va_up_self _ _ _
        have hR3 := hR2.own (rd' := rd) (md' := md) (rc' := nI L.length + 1) (wl' := nI (w - 8 - s_sum (s_wd σ) L)) (el' := nI (n - 2 - s_sum (s_en σ) L)) (cr' := cr) (Nat.le_refl _)
        rw [← eG3] at hR3
        refine lv_aload_n hx hb d_S_reach_63 rfl (lv_at hl 1 rfl) ?_
        refine lv_dup hx hb d_S_reach_64 rfl ?_
        refine va_get (D := D) (ci := 0) (C := "StackRoom") (T := T_S) (N := 10) (v := .int (nI (w - 8 - s_sum (s_wd σ) L))) hx hb ht in_S hown hK.1 (hP.one hR3.1) 0 rfl rfl 7 (by decide) (ht _ fl_S_S_wordsLeft) (fun _ h9 => h9) rfl d_S_reach_65 ?_
        refine lv_aload_n hx hb d_S_reach_68 rfl (lv_at hl 0 rfl) ?_
        refine vp_callSi (va_Run.run (r_A (owner := "StackRoom$Thing") (n := 0) (rest := [.int (nI (w - 8 - s_sum (s_wd σ) L)), .ref x]) C0 [] (k_M_wordsTaken l hR3 (i := i) hj) ml_S_T_wordsTaken sm_T_T_wordsTaken se_M_T_wordsTaken_M im_M_wordsTaken ini_M co_M_wordsTaken (hK.2.1 _ dc_T_wordsTaken) (by decide +kernel) (g_preV (ci := 2) hK hP rfl (hR3.c2 hj)) hl.1 d_S_reach_69 rfl rfl (Nat.le_of_ble_eq_true rfl) ⟨rfl, rfl⟩ ⟨Nat.le_of_ble_eq_true rfl, Nat.le_of_ble_eq_true rfl⟩ ⟨Nat.le_of_ble_eq_true rfl, Nat.le_of_ble_eq_true rfl⟩)) (fun qw ew => ?_)
        subst ew
        refine lv_isub hx hb d_S_reach_72 ?_
        refine gw_put (D := D) (cl := vwCl) (ci := 0) (C := "StackRoom") (T := T_S) (N := 10) (v := .int ((nI (w - 8 - s_sum (s_wd σ) L)) - (nI (s_wd σ i)))) (ty := .int) hx hb ht in_S ty_S tk_S nm_S hown hK.1 hP hS hR3.1 rfl 7 (by decide) (ht _ fl_S_S_wordsLeft) (fun _ h9 => h9) rfl (by decide +kernel) rfl rfl (Nat.le_of_ble_eq_true rfl) d_S_reach_73 (fun H locs hP hS => ?_)
        obtain ⟨G4, eG4⟩ : ∃ z : gw_G, z = va_up G3 x (some (.inr (0, [.int (nI w), .int (nI n), .ref ra, .int (nI md), .ref rt, .int (nI L.length + 1), .int (nI rd), .int ((nI (w - 8 - s_sum (s_wd σ) L)) - (nI (s_wd σ i))), .int (nI (n - 2 - s_sum (s_en σ) L)), .int cr]))) := ⟨_, rfl⟩
        have hP : gw_P D vwCl (gw_A G s.heap.size) G4 H := by rw [eG4]; exact hP
        have f4 : G4 x = some (.inr (0, [.int (nI w), .int (nI n), .ref ra, .int (nI md), .ref rt, .int (nI L.length + 1), .int (nI rd), .int ((nI (w - 8 - s_sum (s_wd σ) L)) - (nI (s_wd σ i))), .int (nI (n - 2 - s_sum (s_en σ) L)), .int cr])) := by rw [eG4]; exact va_up_self _ _ _
        have hR4 := hR3.own (rd' := rd) (md' := md) (rc' := nI L.length + 1) (wl' := nI (w - 8 - s_sum (s_wd σ) L) - nI (s_wd σ i)) (el' := nI (n - 2 - s_sum (s_en σ) L)) (cr' := cr) (Nat.le_refl _)
        rw [← eG4] at hR4
        refine lv_aload_n hx hb d_S_reach_76 rfl (lv_at hl 1 rfl) ?_
        refine lv_dup hx hb d_S_reach_77 rfl ?_
        refine va_get (D := D) (ci := 0) (C := "StackRoom") (T := T_S) (N := 10) (v := .int (nI (n - 2 - s_sum (s_en σ) L))) hx hb ht in_S hown hK.1 (hP.one hR4.1) 0 rfl rfl 8 (by decide) (ht _ fl_S_S_entriesLeft) (fun _ h9 => h9) rfl d_S_reach_78 ?_
        refine lv_aload_n hx hb d_S_reach_81 rfl (lv_at hl 0 rfl) ?_
        refine vp_callSi (va_Run.run (r_A (owner := "StackRoom$Thing") (n := 0) (rest := [.int (nI (n - 2 - s_sum (s_en σ) L)), .ref x]) C0 [] (k_M_entriesTaken l hR4 (i := i) hj) ml_S_T_entriesTaken sm_T_T_entriesTaken se_M_T_entriesTaken_M im_M_entriesTaken ini_M co_M_entriesTaken (hK.2.1 _ dc_T_entriesTaken) (by decide +kernel) (g_preV (ci := 2) hK hP rfl (hR4.c2 hj)) hl.1 d_S_reach_82 rfl rfl (Nat.le_of_ble_eq_true rfl) ⟨rfl, rfl⟩ ⟨Nat.le_of_ble_eq_true rfl, Nat.le_of_ble_eq_true rfl⟩ ⟨Nat.le_of_ble_eq_true rfl, Nat.le_of_ble_eq_true rfl⟩)) (fun qe ee => ?_)
        subst ee
        refine lv_isub hx hb d_S_reach_85 ?_
        refine gw_put (D := D) (cl := vwCl) (ci := 0) (C := "StackRoom") (T := T_S) (N := 10) (v := .int ((nI (n - 2 - s_sum (s_en σ) L)) - (nI (s_en σ i)))) (ty := .int) hx hb ht in_S ty_S tk_S nm_S hown hK.1 hP hS hR4.1 rfl 8 (by decide) (ht _ fl_S_S_entriesLeft) (fun _ h9 => h9) rfl (by decide +kernel) rfl rfl (Nat.le_of_ble_eq_true rfl) d_S_reach_86 (fun H locs hP hS => ?_)
        obtain ⟨G5, eG5⟩ : ∃ z : gw_G, z = va_up G4 x (some (.inr (0, [.int (nI w), .int (nI n), .ref ra, .int (nI md), .ref rt, .int (nI L.length + 1), .int (nI rd), .int (nI (w - 8 - s_sum (s_wd σ) L) - nI (s_wd σ i)), .int ((nI (n - 2 - s_sum (s_en σ) L)) - (nI (s_en σ i))), .int cr]))) := ⟨_, rfl⟩
        have hP : gw_P D vwCl (gw_A G s.heap.size) G5 H := by rw [eG5]; exact hP
        have f5 : G5 x = some (.inr (0, [.int (nI w), .int (nI n), .ref ra, .int (nI md), .ref rt, .int (nI L.length + 1), .int (nI rd), .int (nI (w - 8 - s_sum (s_wd σ) L) - nI (s_wd σ i)), .int ((nI (n - 2 - s_sum (s_en σ) L)) - (nI (s_en σ i))), .int cr])) := by rw [eG5]; exact va_up_self _ _ _
        have hR5 := hR4.own (rd' := rd) (md' := md) (rc' := nI L.length + 1) (wl' := nI (w - 8 - s_sum (s_wd σ) L) - nI (s_wd σ i)) (el' := nI (n - 2 - s_sum (s_en σ) L) - nI (s_en σ i)) (cr' := cr) (Nat.le_refl _)
        rw [← eG5] at hR5
        exact W.vret hx hb hr (fun t ht hW => ⟨⟨G5, rfl, (by rw [s_add_o hni]; exact c_Srv.add hO hp hi hni hrf hmk hR5), g_fin ht hP⟩, hS.F ht⟩) hS.2.2 d_S_reach_89
  · refine lv_aload_n hx hb d_S_reach_0 rfl (lv_at hl 1 rfl) ?_
    refine va_instY hx hb hown (ht _ cl_S_T) (hK.2.1 _ ca_X_T) (gw_recv hK.1 hP rfl (hR.c3 hj)) d_S_reach_1 ?_
    refine lv_if_eq (tgt := 89) hx hb d_S_reach_4 (by decide) (fun h => absurd h (by decide)) (fun _ => ?_)
    refine lv_aload_n hx hb d_S_reach_7 rfl (lv_at hl 1 rfl) ?_
    refine va_castY hx hb hown (ht _ cl_S_T) (hK.2.1 _ ca_X_T) (gw_recv hK.1 hP rfl (hR.c3 hj)) d_S_reach_8 ?_
    refine lv_astore_n (lv' := [(2, .ref (ad i)), (0, .ref x), (1, .ref (ad i))]) hx hb d_S_reach_11 rfl hl (by decide) rfl (fun ls hl => ?_)
    refine lv_aload_n hx hb d_S_reach_12 rfl (lv_at hl 0 rfl) ?_
    refine va_getN (D := D) (ci := 3) (C := "StackRoom$MethodContext") (T := T_X) (N := 7) (v := .int (ρ i)) hx hb ht in_X hown hK.1 (hP.one (hR.c3 hj)) 0 rfl rfl 1 (by decide) (va_Nw.use rfl (hK.2.1 _ fn_S_T_round)) (fun _ h9 => h9) rfl d_S_reach_13 ?_
    refine lv_aload_n hx hb d_S_reach_16 rfl (lv_at hl 1 rfl) ?_
    refine va_get (D := D) (ci := 0) (C := "StackRoom") (T := T_S) (N := 10) (v := .int (nI rd)) hx hb ht in_S hown hK.1 (hP.one hR.1) 0 rfl rfl 6 (by decide) (ht _ fl_S_S_round) (fun _ h9 => h9) rfl d_S_reach_17 ?_
    refine lv_icmp_eq (tgt := 89) hx hb d_S_reach_20 (by decide) (fun c20 => ?_) (fun c20 => ?_)
    · exact W.vret hx hb hr (fun t ht hW => ⟨⟨G, rfl, (by rw [s_add_y ((hmk i hi0).mp c20)]; exact hS0), g_fin ht hP⟩, hS.F ht⟩) hS.2.2 d_S_reach_89
    · have hni : i ∉ L := fun h => c20 ((hmk i hi0).mpr h)
      refine lv_aload_n hx hb d_S_reach_23 rfl (lv_at hl 1 rfl) ?_
      refine va_get (D := D) (ci := 0) (C := "StackRoom") (T := T_S) (N := 10) (v := .int (nI L.length)) hx hb ht in_S hown hK.1 (hP.one hR.1) 0 rfl rfl 5 (by decide) (ht _ fl_S_S_reachedCount) (fun _ h9 => h9) rfl d_S_reach_24 ?_
      refine lv_aload_n hx hb d_S_reach_27 rfl (lv_at hl 1 rfl) ?_
      refine va_get (D := D) (ci := 0) (C := "StackRoom") (T := T_S) (N := 10) (v := .ref rt) hx hb ht in_S hown hK.1 (hP.one hR.1) 0 rfl rfl 4 (by decide) (ht _ fl_S_S_reached) (fun _ h9 => h9) rfl d_S_reach_28 ?_
      refine va_alen (v := nI n) hx hb hK.1 (hP.one hR.2.2.1) 0 1 rfl ht1 rfl d_S_reach_31 ?_
      refine lv_icmp_ge (tgt := 89) hx hb d_S_reach_32 (by decide) (fun c32 => ?_) (fun c32 => ?_)
      · exact absurd ((nI_leI (by omega) (by omega)).mp c32) (by omega)
      · refine lv_aload_n hx hb d_S_reach_35 rfl (lv_at hl 0 rfl) ?_
        refine lv_aload_n hx hb d_S_reach_36 rfl (lv_at hl 1 rfl) ?_
        refine va_get (D := D) (ci := 0) (C := "StackRoom") (T := T_S) (N := 10) (v := .int (nI rd)) hx hb ht in_S hown hK.1 (hP.one hR.1) 0 rfl rfl 6 (by decide) (ht _ fl_S_S_round) (fun _ h9 => h9) rfl d_S_reach_37 ?_
        refine gw_putN (D := D) (cl := vwCl) (ci := 3) (C := "StackRoom$MethodContext") (T := T_X) (N := 7) (v := .int (nI rd)) (ty := .int) hx hb ht in_X ty_X tk_X nm_X hown hK.1 hP hS (hR.c3 hj) rfl 1 (by decide) (va_Nw.use rfl (hK.2.1 _ fn_S_T_round)) (fun _ h9 => h9) rfl (by decide +kernel) rfl rfl (Nat.le_of_ble_eq_true rfl) d_S_reach_40 (fun H locs hP hS => ?_)
        obtain ⟨G6, eG6⟩ : ∃ z : gw_G, z = va_up G (ad i) (some (.inr (3, [.int (nI i), .int (nI rd), va_rf ((s_sn σ i).map ad), .int (s_de σ i), .int (nI (s_ht σ i)), .ref (fa i), .ref (ad (s_og σ i))]))) := ⟨_, rfl⟩
        have hP : gw_P D vwCl (gw_A G s.heap.size) G6 H := by rw [eG6]; exact hP
        have f6 : G6 (ad i) = some (.inr (3, [.int (nI i), .int (nI rd), va_rf ((s_sn σ i).map ad), .int (s_de σ i), .int (nI (s_ht σ i)), .ref (fa i), .ref (ad (s_og σ i))])) := by rw [eG6]; exact va_up_self _ _ _
        have hR1 := hR.obj (i := i) (τ := σ) (ρ' := va_up ρ i (nI rd)) hO.1 hm hi0 rfl rfl rfl rfl (fun j hj9 => by unfold c_cell; rw [va_up_ne _ _ hj9]) (fun j hj9 => by
            by_cases e : j = i
            · exact ⟨rd, Nat.le_refl _, by rw [e, va_up_self]⟩
            · rw [va_up_ne _ _ e]; exact hR.2.2.2.2.2.2.2.2.2 j hj9)
        have e8 : c_cell σ ad fa (va_up ρ i (nI rd)) i = .inr (3, [.int (nI i), .int (nI rd), va_rf ((s_sn σ i).map ad), .int (s_de σ i), .int (nI (s_ht σ i)), .ref (fa i), .ref (ad (s_og σ i))]) := by unfold c_cell; rw [hj, va_up_self]; rfl
        rw [e8, ← eG6] at hR1
        refine lv_aload_n hx hb d_S_reach_43 rfl (lv_at hl 1 rfl) ?_
        refine va_get (D := D) (ci := 0) (C := "StackRoom") (T := T_S) (N := 10) (v := .ref rt) hx hb ht in_S hown hK.1 (hP.one hR1.1) 0 rfl rfl 4 (by decide) (ht _ fl_S_S_reached) (fun _ h9 => h9) rfl d_S_reach_44 ?_
        refine lv_aload_n hx hb d_S_reach_47 rfl (lv_at hl 1 rfl) ?_
        refine va_get (D := D) (ci := 0) (C := "StackRoom") (T := T_S) (N := 10) (v := .int (nI L.length)) hx hb ht in_S hown hK.1 (hP.one hR1.1) 0 rfl rfl 5 (by decide) (ht _ fl_S_S_reachedCount) (fun _ h9 => h9) rfl d_S_reach_48 ?_
        refine lv_aload_n hx hb d_S_reach_51 rfl (lv_at hl 0 rfl) ?_
        refine gw_astqM hx hb hK.1 hP hS 1 hR1.2.2.1 ht1 (t_any hK hP f6 (Or.inr (Or.inl rfl))) (vp_in_nI (by omega) (by omega)) d_S_reach_52 (fun H locs hP hS => ?_)
        rw [nI_clamp (by omega)] at hP
        obtain ⟨G7, eG7⟩ : ∃ z : gw_G, z = va_up G6 rt (some (.inl (cT, n, qv (va_up rf L.length (some (ad i)))))) := ⟨_, rfl⟩
        have hP : gw_P D vwCl (gw_A G s.heap.size) G7 H := by rw [eG7]; exact hP
        have hR2 := hR1.row (rf' := va_up rf L.length (some (ad i)))
        rw [← eG7] at hR2
        refine lv_aload_n hx hb d_S_reach_53 rfl (lv_at hl 1 rfl) ?_
        refine lv_dup hx hb d_S_reach_54 rfl ?_
        refine va_get (D := D) (ci := 0) (C := "StackRoom") (T := T_S) (N := 10) (v := .int (nI L.length)) hx hb ht in_S hown hK.1 (hP.one hR2.1) 0 rfl rfl 5 (by decide) (ht _ fl_S_S_reachedCount) (fun _ h9 => h9) rfl d_S_reach_55 ?_
        refine lv_iconst (v := 1) hx hb d_S_reach_58 (by decide) ?_
        refine lv_iadd hx hb d_S_reach_59 ?_
        refine gw_put (D := D) (cl := vwCl) (ci := 0) (C := "StackRoom") (T := T_S) (N := 10) (v := .int ((nI L.length) + 1)) (ty := .int) hx hb ht in_S ty_S tk_S nm_S hown hK.1 hP hS hR2.1 rfl 5 (by decide) (ht _ fl_S_S_reachedCount) (fun _ h9 => h9) rfl (by decide +kernel) rfl rfl (Nat.le_of_ble_eq_true rfl) d_S_reach_60 (fun H locs hP hS => ?_)
        obtain ⟨G8, eG8⟩ : ∃ z : gw_G, z = va_up G7 x (some (.inr (0, [.int (nI w), .int (nI n), .ref ra, .int (nI md), .ref rt, .int ((nI L.length) + 1), .int (nI rd), .int (nI (w - 8 - s_sum (s_wd σ) L)), .int (nI (n - 2 - s_sum (s_en σ) L)), .int cr]))) := ⟨_, rfl⟩
        have hP : gw_P D vwCl (gw_A G s.heap.size) G8 H := by rw [eG8]; exact hP
        have f8 : G8 x = some (.inr (0, [.int (nI w), .int (nI n), .ref ra, .int (nI md), .ref rt, .int ((nI L.length) + 1), .int (nI rd), .int (nI (w - 8 - s_sum (s_wd σ) L)), .int (nI (n - 2 - s_sum (s_en σ) L)), .int cr])) := by rw [eG8]; exact va_up_self _ _ _
        have hR3 := hR2.own (rd' := rd) (md' := md) (rc' := nI L.length + 1) (wl' := nI (w - 8 - s_sum (s_wd σ) L)) (el' := nI (n - 2 - s_sum (s_en σ) L)) (cr' := cr) (Nat.le_refl _)
        rw [← eG8] at hR3
        refine lv_aload_n hx hb d_S_reach_63 rfl (lv_at hl 1 rfl) ?_
        refine lv_dup hx hb d_S_reach_64 rfl ?_
        refine va_get (D := D) (ci := 0) (C := "StackRoom") (T := T_S) (N := 10) (v := .int (nI (w - 8 - s_sum (s_wd σ) L))) hx hb ht in_S hown hK.1 (hP.one hR3.1) 0 rfl rfl 7 (by decide) (ht _ fl_S_S_wordsLeft) (fun _ h9 => h9) rfl d_S_reach_65 ?_
        refine lv_aload_n hx hb d_S_reach_68 rfl (lv_at hl 0 rfl) ?_
        refine vp_callSi (va_Run.run (r_A (owner := "StackRoom$Thing") (n := 0) (rest := [.int (nI (w - 8 - s_sum (s_wd σ) L)), .ref x]) C0 [] (k_C_wordsTaken l hR3 (i := i) (Or.inl hj) ht0) ml_S_T_wordsTaken sm_T_T_wordsTaken se_X_T_wordsTaken_C im_C_wordsTaken ini_C co_C_wordsTaken (hK.2.1 _ dc_T_wordsTaken) (by decide +kernel) (g_preV (ci := 3) hK hP rfl (hR3.c3 hj)) hl.1 d_S_reach_69 rfl rfl (Nat.le_of_ble_eq_true rfl) ⟨rfl, rfl⟩ ⟨Nat.le_of_ble_eq_true rfl, Nat.le_of_ble_eq_true rfl⟩ ⟨Nat.le_of_ble_eq_true rfl, Nat.le_of_ble_eq_true rfl⟩)) (fun qw ew => ?_)
        subst ew
        refine lv_isub hx hb d_S_reach_72 ?_
        refine gw_put (D := D) (cl := vwCl) (ci := 0) (C := "StackRoom") (T := T_S) (N := 10) (v := .int ((nI (w - 8 - s_sum (s_wd σ) L)) - (nI (s_wd σ i)))) (ty := .int) hx hb ht in_S ty_S tk_S nm_S hown hK.1 hP hS hR3.1 rfl 7 (by decide) (ht _ fl_S_S_wordsLeft) (fun _ h9 => h9) rfl (by decide +kernel) rfl rfl (Nat.le_of_ble_eq_true rfl) d_S_reach_73 (fun H locs hP hS => ?_)
        obtain ⟨G9, eG9⟩ : ∃ z : gw_G, z = va_up G8 x (some (.inr (0, [.int (nI w), .int (nI n), .ref ra, .int (nI md), .ref rt, .int (nI L.length + 1), .int (nI rd), .int ((nI (w - 8 - s_sum (s_wd σ) L)) - (nI (s_wd σ i))), .int (nI (n - 2 - s_sum (s_en σ) L)), .int cr]))) := ⟨_, rfl⟩
        have hP : gw_P D vwCl (gw_A G s.heap.size) G9 H := by rw [eG9]; exact hP
        have f9 : G9 x = some (.inr (0, [.int (nI w), .int (nI n), .ref ra, .int (nI md), .ref rt, .int (nI L.length + 1), .int (nI rd), .int ((nI (w - 8 - s_sum (s_wd σ) L)) - (nI (s_wd σ i))), .int (nI (n - 2 - s_sum (s_en σ) L)), .int cr])) := by rw [eG9]; exact va_up_self _ _ _
        have hR4 := hR3.own (rd' := rd) (md' := md) (rc' := nI L.length + 1) (wl' := nI (w - 8 - s_sum (s_wd σ) L) - nI (s_wd σ i)) (el' := nI (n - 2 - s_sum (s_en σ) L)) (cr' := cr) (Nat.le_refl _)
        rw [← eG9] at hR4
        refine lv_aload_n hx hb d_S_reach_76 rfl (lv_at hl 1 rfl) ?_
        refine lv_dup hx hb d_S_reach_77 rfl ?_
        refine va_get (D := D) (ci := 0) (C := "StackRoom") (T := T_S) (N := 10) (v := .int (nI (n - 2 - s_sum (s_en σ) L))) hx hb ht in_S hown hK.1 (hP.one hR4.1) 0 rfl rfl 8 (by decide) (ht _ fl_S_S_entriesLeft) (fun _ h9 => h9) rfl d_S_reach_78 ?_
        refine lv_aload_n hx hb d_S_reach_81 rfl (lv_at hl 0 rfl) ?_
        refine vp_callSi (va_Run.run (r_A (owner := "StackRoom$Thing") (n := 0) (rest := [.int (nI (n - 2 - s_sum (s_en σ) L)), .ref x]) C0 [] (k_C_entriesTaken l hR4 (i := i) (Or.inl hj)) ml_S_T_entriesTaken sm_T_T_entriesTaken se_X_T_entriesTaken_C im_C_entriesTaken ini_C co_C_entriesTaken (hK.2.1 _ dc_T_entriesTaken) (by decide +kernel) (g_preV (ci := 3) hK hP rfl (hR4.c3 hj)) hl.1 d_S_reach_82 rfl rfl (Nat.le_of_ble_eq_true rfl) ⟨rfl, rfl⟩ ⟨Nat.le_of_ble_eq_true rfl, Nat.le_of_ble_eq_true rfl⟩ ⟨Nat.le_of_ble_eq_true rfl, Nat.le_of_ble_eq_true rfl⟩)) (fun qe ee => ?_)
        subst ee
        refine lv_isub hx hb d_S_reach_85 ?_
        refine gw_put (D := D) (cl := vwCl) (ci := 0) (C := "StackRoom") (T := T_S) (N := 10) (v := .int ((nI (n - 2 - s_sum (s_en σ) L)) - (nI (s_en σ i)))) (ty := .int) hx hb ht in_S ty_S tk_S nm_S hown hK.1 hP hS hR4.1 rfl 8 (by decide) (ht _ fl_S_S_entriesLeft) (fun _ h9 => h9) rfl (by decide +kernel) rfl rfl (Nat.le_of_ble_eq_true rfl) d_S_reach_86 (fun H locs hP hS => ?_)
        obtain ⟨G10, eG10⟩ : ∃ z : gw_G, z = va_up G9 x (some (.inr (0, [.int (nI w), .int (nI n), .ref ra, .int (nI md), .ref rt, .int (nI L.length + 1), .int (nI rd), .int (nI (w - 8 - s_sum (s_wd σ) L) - nI (s_wd σ i)), .int ((nI (n - 2 - s_sum (s_en σ) L)) - (nI (s_en σ i))), .int cr]))) := ⟨_, rfl⟩
        have hP : gw_P D vwCl (gw_A G s.heap.size) G10 H := by rw [eG10]; exact hP
        have f10 : G10 x = some (.inr (0, [.int (nI w), .int (nI n), .ref ra, .int (nI md), .ref rt, .int (nI L.length + 1), .int (nI rd), .int (nI (w - 8 - s_sum (s_wd σ) L) - nI (s_wd σ i)), .int ((nI (n - 2 - s_sum (s_en σ) L)) - (nI (s_en σ i))), .int cr])) := by rw [eG10]; exact va_up_self _ _ _
        have hR5 := hR4.own (rd' := rd) (md' := md) (rc' := nI L.length + 1) (wl' := nI (w - 8 - s_sum (s_wd σ) L) - nI (s_wd σ i)) (el' := nI (n - 2 - s_sum (s_en σ) L) - nI (s_en σ i)) (cr' := cr) (Nat.le_refl _)
        rw [← eG10] at hR5
        exact W.vret hx hb hr (fun t ht hW => ⟨⟨G10, rfl, (by rw [s_add_o hni]; exact c_Srv.add hO hp hi hni hrf hmk hR5), g_fin ht hP⟩, hS.F ht⟩) hS.2.2 d_S_reach_89
  · refine lv_aload_n hx hb d_S_reach_0 rfl (lv_at hl 1 rfl) ?_
    refine va_instY hx hb hown (ht _ cl_S_T) (hK.2.1 _ ca_B_T) (gw_recv hK.1 hP rfl (hR.c4 hj)) d_S_reach_1 ?_
    refine lv_if_eq (tgt := 89) hx hb d_S_reach_4 (by decide) (fun h => absurd h (by decide)) (fun _ => ?_)
    refine lv_aload_n hx hb d_S_reach_7 rfl (lv_at hl 1 rfl) ?_
    refine va_castY hx hb hown (ht _ cl_S_T) (hK.2.1 _ ca_B_T) (gw_recv hK.1 hP rfl (hR.c4 hj)) d_S_reach_8 ?_
    refine lv_astore_n (lv' := [(2, .ref (ad i)), (0, .ref x), (1, .ref (ad i))]) hx hb d_S_reach_11 rfl hl (by decide) rfl (fun ls hl => ?_)
    refine lv_aload_n hx hb d_S_reach_12 rfl (lv_at hl 0 rfl) ?_
    refine va_getN (D := D) (ci := 4) (C := "StackRoom$BlockContext") (T := T_B) (N := 8) (v := .int (ρ i)) hx hb ht in_B hown hK.1 (hP.one (hR.c4 hj)) 0 rfl rfl 1 (by decide) (va_Nw.use rfl (hK.2.1 _ fn_S_T_round)) (fun _ h9 => h9) rfl d_S_reach_13 ?_
    refine lv_aload_n hx hb d_S_reach_16 rfl (lv_at hl 1 rfl) ?_
    refine va_get (D := D) (ci := 0) (C := "StackRoom") (T := T_S) (N := 10) (v := .int (nI rd)) hx hb ht in_S hown hK.1 (hP.one hR.1) 0 rfl rfl 6 (by decide) (ht _ fl_S_S_round) (fun _ h9 => h9) rfl d_S_reach_17 ?_
    refine lv_icmp_eq (tgt := 89) hx hb d_S_reach_20 (by decide) (fun c20 => ?_) (fun c20 => ?_)
    · exact W.vret hx hb hr (fun t ht hW => ⟨⟨G, rfl, (by rw [s_add_y ((hmk i hi0).mp c20)]; exact hS0), g_fin ht hP⟩, hS.F ht⟩) hS.2.2 d_S_reach_89
    · have hni : i ∉ L := fun h => c20 ((hmk i hi0).mpr h)
      refine lv_aload_n hx hb d_S_reach_23 rfl (lv_at hl 1 rfl) ?_
      refine va_get (D := D) (ci := 0) (C := "StackRoom") (T := T_S) (N := 10) (v := .int (nI L.length)) hx hb ht in_S hown hK.1 (hP.one hR.1) 0 rfl rfl 5 (by decide) (ht _ fl_S_S_reachedCount) (fun _ h9 => h9) rfl d_S_reach_24 ?_
      refine lv_aload_n hx hb d_S_reach_27 rfl (lv_at hl 1 rfl) ?_
      refine va_get (D := D) (ci := 0) (C := "StackRoom") (T := T_S) (N := 10) (v := .ref rt) hx hb ht in_S hown hK.1 (hP.one hR.1) 0 rfl rfl 4 (by decide) (ht _ fl_S_S_reached) (fun _ h9 => h9) rfl d_S_reach_28 ?_
      refine va_alen (v := nI n) hx hb hK.1 (hP.one hR.2.2.1) 0 1 rfl ht1 rfl d_S_reach_31 ?_
      refine lv_icmp_ge (tgt := 89) hx hb d_S_reach_32 (by decide) (fun c32 => ?_) (fun c32 => ?_)
      · exact absurd ((nI_leI (by omega) (by omega)).mp c32) (by omega)
      · refine lv_aload_n hx hb d_S_reach_35 rfl (lv_at hl 0 rfl) ?_
        refine lv_aload_n hx hb d_S_reach_36 rfl (lv_at hl 1 rfl) ?_
        refine va_get (D := D) (ci := 0) (C := "StackRoom") (T := T_S) (N := 10) (v := .int (nI rd)) hx hb ht in_S hown hK.1 (hP.one hR.1) 0 rfl rfl 6 (by decide) (ht _ fl_S_S_round) (fun _ h9 => h9) rfl d_S_reach_37 ?_
        refine gw_putN (D := D) (cl := vwCl) (ci := 4) (C := "StackRoom$BlockContext") (T := T_B) (N := 8) (v := .int (nI rd)) (ty := .int) hx hb ht in_B ty_B tk_B nm_B hown hK.1 hP hS (hR.c4 hj) rfl 1 (by decide) (va_Nw.use rfl (hK.2.1 _ fn_S_T_round)) (fun _ h9 => h9) rfl (by decide +kernel) rfl rfl (Nat.le_of_ble_eq_true rfl) d_S_reach_40 (fun H locs hP hS => ?_)
        obtain ⟨G11, eG11⟩ : ∃ z : gw_G, z = va_up G (ad i) (some (.inr (4, [.int (nI i), .int (nI rd), va_rf ((s_sn σ i).map ad), .int (s_de σ i), .int (nI (s_ht σ i)), .ref (fa i), .ref (ad (s_og σ i)), .int (s_ct σ i)]))) := ⟨_, rfl⟩
        have hP : gw_P D vwCl (gw_A G s.heap.size) G11 H := by rw [eG11]; exact hP
        have f11 : G11 (ad i) = some (.inr (4, [.int (nI i), .int (nI rd), va_rf ((s_sn σ i).map ad), .int (s_de σ i), .int (nI (s_ht σ i)), .ref (fa i), .ref (ad (s_og σ i)), .int (s_ct σ i)])) := by rw [eG11]; exact va_up_self _ _ _
        have hR1 := hR.obj (i := i) (τ := σ) (ρ' := va_up ρ i (nI rd)) hO.1 hm hi0 rfl rfl rfl rfl (fun j hj9 => by unfold c_cell; rw [va_up_ne _ _ hj9]) (fun j hj9 => by
            by_cases e : j = i
            · exact ⟨rd, Nat.le_refl _, by rw [e, va_up_self]⟩
            · rw [va_up_ne _ _ e]; exact hR.2.2.2.2.2.2.2.2.2 j hj9)
        have e8 : c_cell σ ad fa (va_up ρ i (nI rd)) i = .inr (4, [.int (nI i), .int (nI rd), va_rf ((s_sn σ i).map ad), .int (s_de σ i), .int (nI (s_ht σ i)), .ref (fa i), .ref (ad (s_og σ i)), .int (s_ct σ i)]) := by unfold c_cell; rw [hj, va_up_self]; rfl
        rw [e8, ← eG11] at hR1
        refine lv_aload_n hx hb d_S_reach_43 rfl (lv_at hl 1 rfl) ?_
        refine va_get (D := D) (ci := 0) (C := "StackRoom") (T := T_S) (N := 10) (v := .ref rt) hx hb ht in_S hown hK.1 (hP.one hR1.1) 0 rfl rfl 4 (by decide) (ht _ fl_S_S_reached) (fun _ h9 => h9) rfl d_S_reach_44 ?_
        refine lv_aload_n hx hb d_S_reach_47 rfl (lv_at hl 1 rfl) ?_
        refine va_get (D := D) (ci := 0) (C := "StackRoom") (T := T_S) (N := 10) (v := .int (nI L.length)) hx hb ht in_S hown hK.1 (hP.one hR1.1) 0 rfl rfl 5 (by decide) (ht _ fl_S_S_reachedCount) (fun _ h9 => h9) rfl d_S_reach_48 ?_
        refine lv_aload_n hx hb d_S_reach_51 rfl (lv_at hl 0 rfl) ?_
        refine gw_astqM hx hb hK.1 hP hS 1 hR1.2.2.1 ht1 (t_any hK hP f11 (Or.inr (Or.inr rfl))) (vp_in_nI (by omega) (by omega)) d_S_reach_52 (fun H locs hP hS => ?_)
        rw [nI_clamp (by omega)] at hP
        obtain ⟨G12, eG12⟩ : ∃ z : gw_G, z = va_up G11 rt (some (.inl (cT, n, qv (va_up rf L.length (some (ad i)))))) := ⟨_, rfl⟩
        have hP : gw_P D vwCl (gw_A G s.heap.size) G12 H := by rw [eG12]; exact hP
        have hR2 := hR1.row (rf' := va_up rf L.length (some (ad i)))
        rw [← eG12] at hR2
        refine lv_aload_n hx hb d_S_reach_53 rfl (lv_at hl 1 rfl) ?_
        refine lv_dup hx hb d_S_reach_54 rfl ?_
        refine va_get (D := D) (ci := 0) (C := "StackRoom") (T := T_S) (N := 10) (v := .int (nI L.length)) hx hb ht in_S hown hK.1 (hP.one hR2.1) 0 rfl rfl 5 (by decide) (ht _ fl_S_S_reachedCount) (fun _ h9 => h9) rfl d_S_reach_55 ?_
        refine lv_iconst (v := 1) hx hb d_S_reach_58 (by decide) ?_
        refine lv_iadd hx hb d_S_reach_59 ?_
        refine gw_put (D := D) (cl := vwCl) (ci := 0) (C := "StackRoom") (T := T_S) (N := 10) (v := .int ((nI L.length) + 1)) (ty := .int) hx hb ht in_S ty_S tk_S nm_S hown hK.1 hP hS hR2.1 rfl 5 (by decide) (ht _ fl_S_S_reachedCount) (fun _ h9 => h9) rfl (by decide +kernel) rfl rfl (Nat.le_of_ble_eq_true rfl) d_S_reach_60 (fun H locs hP hS => ?_)
        obtain ⟨G13, eG13⟩ : ∃ z : gw_G, z = va_up G12 x (some (.inr (0, [.int (nI w), .int (nI n), .ref ra, .int (nI md), .ref rt, .int ((nI L.length) + 1), .int (nI rd), .int (nI (w - 8 - s_sum (s_wd σ) L)), .int (nI (n - 2 - s_sum (s_en σ) L)), .int cr]))) := ⟨_, rfl⟩
        have hP : gw_P D vwCl (gw_A G s.heap.size) G13 H := by rw [eG13]; exact hP
        have f13 : G13 x = some (.inr (0, [.int (nI w), .int (nI n), .ref ra, .int (nI md), .ref rt, .int ((nI L.length) + 1), .int (nI rd), .int (nI (w - 8 - s_sum (s_wd σ) L)), .int (nI (n - 2 - s_sum (s_en σ) L)), .int cr])) := by rw [eG13]; exact va_up_self _ _ _
        have hR3 := hR2.own (rd' := rd) (md' := md) (rc' := nI L.length + 1) (wl' := nI (w - 8 - s_sum (s_wd σ) L)) (el' := nI (n - 2 - s_sum (s_en σ) L)) (cr' := cr) (Nat.le_refl _)
        rw [← eG13] at hR3
        refine lv_aload_n hx hb d_S_reach_63 rfl (lv_at hl 1 rfl) ?_
        refine lv_dup hx hb d_S_reach_64 rfl ?_
        refine va_get (D := D) (ci := 0) (C := "StackRoom") (T := T_S) (N := 10) (v := .int (nI (w - 8 - s_sum (s_wd σ) L))) hx hb ht in_S hown hK.1 (hP.one hR3.1) 0 rfl rfl 7 (by decide) (ht _ fl_S_S_wordsLeft) (fun _ h9 => h9) rfl d_S_reach_65 ?_
        refine lv_aload_n hx hb d_S_reach_68 rfl (lv_at hl 0 rfl) ?_
        refine vp_callSi (va_Run.run (r_A (owner := "StackRoom$Thing") (n := 0) (rest := [.int (nI (w - 8 - s_sum (s_wd σ) L)), .ref x]) C0 [] (k_C_wordsTaken l hR3 (i := i) (Or.inr hj) ht0) ml_S_T_wordsTaken sm_T_T_wordsTaken se_B_T_wordsTaken_C im_C_wordsTaken ini_C co_C_wordsTaken (hK.2.1 _ dc_T_wordsTaken) (by decide +kernel) (g_preV (ci := 4) hK hP rfl (hR3.c4 hj)) hl.1 d_S_reach_69 rfl rfl (Nat.le_of_ble_eq_true rfl) ⟨rfl, rfl⟩ ⟨Nat.le_of_ble_eq_true rfl, Nat.le_of_ble_eq_true rfl⟩ ⟨Nat.le_of_ble_eq_true rfl, Nat.le_of_ble_eq_true rfl⟩)) (fun qw ew => ?_)
        subst ew
        refine lv_isub hx hb d_S_reach_72 ?_
        refine gw_put (D := D) (cl := vwCl) (ci := 0) (C := "StackRoom") (T := T_S) (N := 10) (v := .int ((nI (w - 8 - s_sum (s_wd σ) L)) - (nI (s_wd σ i)))) (ty := .int) hx hb ht in_S ty_S tk_S nm_S hown hK.1 hP hS hR3.1 rfl 7 (by decide) (ht _ fl_S_S_wordsLeft) (fun _ h9 => h9) rfl (by decide +kernel) rfl rfl (Nat.le_of_ble_eq_true rfl) d_S_reach_73 (fun H locs hP hS => ?_)
        obtain ⟨G14, eG14⟩ : ∃ z : gw_G, z = va_up G13 x (some (.inr (0, [.int (nI w), .int (nI n), .ref ra, .int (nI md), .ref rt, .int (nI L.length + 1), .int (nI rd), .int ((nI (w - 8 - s_sum (s_wd σ) L)) - (nI (s_wd σ i))), .int (nI (n - 2 - s_sum (s_en σ) L)), .int cr]))) := ⟨_, rfl⟩
        have hP : gw_P D vwCl (gw_A G s.heap.size) G14 H := by rw [eG14]; exact hP
        have f14 : G14 x = some (.inr (0, [.int (nI w), .int (nI n), .ref ra, .int (nI md), .ref rt, .int (nI L.length + 1), .int (nI rd), .int ((nI (w - 8 - s_sum (s_wd σ) L)) - (nI (s_wd σ i))), .int (nI (n - 2 - s_sum (s_en σ) L)), .int cr])) := by rw [eG14]; exact va_up_self _ _ _
        have hR4 := hR3.own (rd' := rd) (md' := md) (rc' := nI L.length + 1) (wl' := nI (w - 8 - s_sum (s_wd σ) L) - nI (s_wd σ i)) (el' := nI (n - 2 - s_sum (s_en σ) L)) (cr' := cr) (Nat.le_refl _)
        rw [← eG14] at hR4
        refine lv_aload_n hx hb d_S_reach_76 rfl (lv_at hl 1 rfl) ?_
        refine lv_dup hx hb d_S_reach_77 rfl ?_
        refine va_get (D := D) (ci := 0) (C := "StackRoom") (T := T_S) (N := 10) (v := .int (nI (n - 2 - s_sum (s_en σ) L))) hx hb ht in_S hown hK.1 (hP.one hR4.1) 0 rfl rfl 8 (by decide) (ht _ fl_S_S_entriesLeft) (fun _ h9 => h9) rfl d_S_reach_78 ?_
        refine lv_aload_n hx hb d_S_reach_81 rfl (lv_at hl 0 rfl) ?_
        refine vp_callSi (va_Run.run (r_A (owner := "StackRoom$Thing") (n := 0) (rest := [.int (nI (n - 2 - s_sum (s_en σ) L)), .ref x]) C0 [] (k_C_entriesTaken l hR4 (i := i) (Or.inr hj)) ml_S_T_entriesTaken sm_T_T_entriesTaken se_B_T_entriesTaken_C im_C_entriesTaken ini_C co_C_entriesTaken (hK.2.1 _ dc_T_entriesTaken) (by decide +kernel) (g_preV (ci := 4) hK hP rfl (hR4.c4 hj)) hl.1 d_S_reach_82 rfl rfl (Nat.le_of_ble_eq_true rfl) ⟨rfl, rfl⟩ ⟨Nat.le_of_ble_eq_true rfl, Nat.le_of_ble_eq_true rfl⟩ ⟨Nat.le_of_ble_eq_true rfl, Nat.le_of_ble_eq_true rfl⟩)) (fun qe ee => ?_)
        subst ee
        refine lv_isub hx hb d_S_reach_85 ?_
        refine gw_put (D := D) (cl := vwCl) (ci := 0) (C := "StackRoom") (T := T_S) (N := 10) (v := .int ((nI (n - 2 - s_sum (s_en σ) L)) - (nI (s_en σ i)))) (ty := .int) hx hb ht in_S ty_S tk_S nm_S hown hK.1 hP hS hR4.1 rfl 8 (by decide) (ht _ fl_S_S_entriesLeft) (fun _ h9 => h9) rfl (by decide +kernel) rfl rfl (Nat.le_of_ble_eq_true rfl) d_S_reach_86 (fun H locs hP hS => ?_)
        obtain ⟨G15, eG15⟩ : ∃ z : gw_G, z = va_up G14 x (some (.inr (0, [.int (nI w), .int (nI n), .ref ra, .int (nI md), .ref rt, .int (nI L.length + 1), .int (nI rd), .int (nI (w - 8 - s_sum (s_wd σ) L) - nI (s_wd σ i)), .int ((nI (n - 2 - s_sum (s_en σ) L)) - (nI (s_en σ i))), .int cr]))) := ⟨_, rfl⟩
        have hP : gw_P D vwCl (gw_A G s.heap.size) G15 H := by rw [eG15]; exact hP
        have f15 : G15 x = some (.inr (0, [.int (nI w), .int (nI n), .ref ra, .int (nI md), .ref rt, .int (nI L.length + 1), .int (nI rd), .int (nI (w - 8 - s_sum (s_wd σ) L) - nI (s_wd σ i)), .int ((nI (n - 2 - s_sum (s_en σ) L)) - (nI (s_en σ i))), .int cr])) := by rw [eG15]; exact va_up_self _ _ _
        have hR5 := hR4.own (rd' := rd) (md' := md) (rc' := nI L.length + 1) (wl' := nI (w - 8 - s_sum (s_wd σ) L) - nI (s_wd σ i)) (el' := nI (n - 2 - s_sum (s_en σ) L) - nI (s_en σ i)) (cr' := cr) (Nat.le_refl _)
        rw [← eG15] at hR5
        exact W.vret hx hb hr (fun t ht hW => ⟨⟨G15, rfl, (by rw [s_add_o hni]; exact c_Srv.add hO hp hi hni hrf hmk hR5), g_fin ht hP⟩, hS.F ht⟩) hS.2.2 d_S_reach_89
theorem k_S_reach (l : Launch) (hS0 : c_Srv w n rd md cV cT σ x ra rt ad fa fr rr L cr G) (hp : s_part σ L) (hO : s_OK w n σ) (hn4 : n ≤ 4096) (hm : s_md σ < 2 ^ 31) (ht0 : tys[0]? = some (cV, .object "StackRoom$Value")) (ht1 : tys[1]? = some (cT, .object "StackRoom$Thing")) {v : sV} (hv : ∀ i, v = some (.inr i) → s_rch σ i) {r : Option Nat} (hcv : c_val G ad v r) : Met l y_S_reach w_S_reach ({ frames := 2, cells := 0, slots := 0, locals := 40 }) (g_pre D tys G sz [.ref x, va_rf r]) (va_Qv (fun G1 : gw_G => c_Srv w n rd md cV cT σ x ra rt ad fa fr rr (s_add L v) cr G1) (g_end D G sz) (gw_A G sz)) 0 0 (gw_A G sz) := by
  rcases v with _ | (nv | i)
  · have e : r = none := hcv
    subst e
    exact k_S_reach_N l hS0 hp hO hn4 hm
  · obtain ⟨a, e, h2⟩ := hcv
    subst e
    exact k_S_reach_W l hS0 hp hO hn4 hm h2
  · have e : r = some (ad i) := hcv
    subst e
    exact k_S_reach_O l hS0 hp hO hn4 hm ht0 ht1 (hv i rfl)
end K15
