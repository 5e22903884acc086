theorem lw_J.skip {D : va_G} {cV cT cI cB cZ : ClassId} {s : State} {w n x y k cells slots : Nat} {σ : sS} {Gx Gm : gw_G} {H : Heap} {locs : List Loc} (J : lw_J D cV cT cI cB cZ s w n x y k σ Gx Gm H locs cells slots) : lw_J D cV cT cI cB cZ s w n x y (k + 1) σ Gx Gm H locs cells slots := by
  obtain ⟨hP, hPm, hd, hS, hR0, hM0, hO, hV, hmd, hcl, hsl⟩ := J
  exact ⟨hP, hPm, hd, hS, hR0.up, hM0, hO, hV, by omega, by omega, by omega⟩
set_option maxHeartbeats 4000000 in
set_option maxRecDepth 100000 in
theorem law_loop (l : Launch) {p : Program} {e : Env} {s : State} {m : MethodId} {below : List Frame} {meth : Method} {c : Code} {b L : Nat} {xs : Nat → Int32} {D : va_G} {cV cT cI cB cZ : ClassId} {w n x y : Nat} (C : lw_At p s m meth c b L xs) (hK : kK D (lw_tys cV cT cI cB cZ) s) (hL : L ≤ 2562) (hw : 128 ≤ w ∧ w ≤ 32768) (hn : 16 ≤ n ∧ n ≤ 4096) (f : Nat) : ∀ {k i cells slots : Nat} {σ : sS} {Gx Gm : gw_G} {H : Heap} {locs : List Loc} {ls : Array Slot}, i = 2 + 5 * k → L ≤ i + 4 + 5 * f → i ≤ L + 7 → lv_has ls 4 [(3, .int (nI i)), (2, .ref y), (1, .ref x), (0, .ref b)] → lw_J D cV cT cI cB cZ s w n x y k σ Gx Gm H locs cells slots → W p l e room_1 s m #[Value.ref b] below meth c H locs cells slots (lw_Z below #[Value.ref b] s) (F0 m 38 ls []) := by
  have C1 := C
  obtain ⟨hx, hb, hr, hml, hown, hts, hX, hbl, hlocks, hgv⟩ := C
  have hbA : ¬ lw_A s b := Nat.not_le.mpr hbl
  induction f with
  | zero =>
    intro k i cells slots σ Gx Gm H locs ls hik hLi hiL hl J
    have hS : va_S (lw_A s) s.heap H locs := J.2.2.2.1
    have hcl := J.2.2.2.2.2.2.2.2.2.1
    have hsl := J.2.2.2.2.2.2.2.2.2.2
    refine lv_iload_n hx hb d_L_law_38 rfl (lv_at hl 0 rfl) ?_
    refine lv_aload_n hx hb d_L_law_39 rfl (lv_at hl 3 rfl) ?_
    refine va_slen hx hb hX hbl hbA hS d_L_law_40 ?_
    refine lv_iconst (v := 5) hx hb d_L_law_41 (by decide) ?_
    refine lv_isub hx hb d_L_law_42 ?_
    refine W.eq (g2 := F0 m 43 ls [.int (nI L - 5), .int (nI i)]) rfl ?_
    refine lv_icmp_gt (tgt := 1059) hx hb d_L_law_43 (by decide) (fun cg => ?_) (fun cg => ?_)
    · refine lv_iconst (v := 1) hx hb d_L_law_1059 (by decide) ?_
      refine W.widen (k := 600000) (n := 7302250) (by omega) (by omega) ?_
      refine va_forget (fun q hq => hS.2.2 q hq) ?_
      exact lw_ret hx hb hr hlocks d_L_law_1060
    · have hi : i + 5 ≤ L := Nat.not_lt.mp (fun q => cg ((lw_lt hL (by omega)).mpr q))
      omega
  | succ f ih =>
    intro k i cells slots σ Gx Gm H locs ls hik hLi hiL hl J
    have hS : va_S (lw_A s) s.heap H locs := J.2.2.2.1
    have hcl := J.2.2.2.2.2.2.2.2.2.1
    have hsl := J.2.2.2.2.2.2.2.2.2.2
    refine lv_iload_n hx hb d_L_law_38 rfl (lv_at hl 0 rfl) ?_
    refine lv_aload_n hx hb d_L_law_39 rfl (lv_at hl 3 rfl) ?_
    refine va_slen hx hb hX hbl hbA hS d_L_law_40 ?_
    refine lv_iconst (v := 5) hx hb d_L_law_41 (by decide) ?_
    refine lv_isub hx hb d_L_law_42 ?_
    refine W.eq (g2 := F0 m 43 ls [.int (nI L - 5), .int (nI i)]) rfl ?_
    refine lv_icmp_gt (tgt := 1059) hx hb d_L_law_43 (by decide) (fun cg => ?_) (fun cg => ?_)
    · refine lv_iconst (v := 1) hx hb d_L_law_1059 (by decide) ?_
      refine W.widen (k := 600000) (n := 7302250) (by omega) (by omega) ?_
      refine va_forget (fun q hq => hS.2.2 q hq) ?_
      exact lw_ret hx hb hr hlocks d_L_law_1060
    · have hi : i + 5 ≤ L := Nat.not_lt.mp (fun q => cg ((lw_lt hL (by omega)).mpr q))
      have nxt : ∀ (σ : sS) (Gx Gm : gw_G) (H : Heap) (locs : List Loc) (cells slots : Nat), lw_J D cV cT cI cB cZ s w n x y (k + 1) σ Gx Gm H locs cells slots → W p l e room_1 s m #[Value.ref b] below meth c H locs cells slots (lw_Z below #[Value.ref b] s) (F0 m 1053 ls []) := by
        intro σ Gx Gm H locs cells slots J
        refine lv_iinc (v := nI (i + 5)) (lv' := [(3, .int (nI (i + 5))), (2, .ref y), (1, .ref x), (0, .ref b)]) hx hb d_L_law_1053 hl (k := 0) rfl (by rw [← nI_add]; rfl) (by decide) rfl (fun ls hl => ?_)
        refine lv_goto (tgt := 38) hx hb d_L_law_1056 (by decide) ?_
        exact ih (k := k + 1) (i := i + 5) (by omega) (by omega) (by omega) (lv_sub hl [0, 1, 2, 3] rfl) J
      refine lv_aload_n hx hb d_L_law_46 rfl (lv_at hl 3 rfl) ?_
      refine lv_iload_n hx hb d_L_law_47 rfl (lv_at hl 0 rfl) ?_
      refine va_sld hx hb hX hbl hbA hS (vp_in_nI (by omega) (by omega)) d_L_law_48 ?_
      rw [nI_clamp (by omega)]
      refine lv_bipush (v := 31) hx hb d_L_law_49 (by decide) ?_
      refine lv_iand hx hb d_L_law_51 ?_
      obtain ⟨j, hj, ej⟩ := pk_andE (xs i) (m := 31) 5 (by decide)
      have ez : (xs i &&& 31).toInt = j := by rw [ej]; exact nI_toInt (by omega)
      by_cases hjj : 26 < j
      · exact lv_tableOut (tgt := 1053) hx hb d_L_law_52 (Or.inr (by rw [ez]; omega)) (by decide) (nxt _ _ _ _ _ _ _ J.skip)
      · rcases (show j = 0 ∨ j = 1 ∨ j = 2 ∨ j = 3 ∨ j = 4 ∨ j = 5 ∨ j = 6 ∨ j = 7 ∨ j = 8 ∨ j = 9 ∨ j = 10 ∨ j = 11 ∨ j = 12 ∨ j = 13 ∨ j = 14 ∨ j = 15 ∨ j = 16 ∨ j = 17 ∨ j = 18 ∨ j = 19 ∨ j = 20 ∨ j = 21 ∨ j = 22 ∨ j = 23 ∨ j = 24 ∨ j = 25 ∨ j = 26 by omega) with rfl | rfl | rfl | rfl | rfl | rfl | rfl | rfl | rfl | rfl | rfl | rfl | rfl | rfl | rfl | rfl | rfl | rfl | rfl | rfl | rfl | rfl | rfl | rfl | rfl | rfl | rfl
        · exact lv_tableIn (off := 124) (tgt := 176) hx hb d_L_law_52 (by rw [ez]; decide) (by rw [ez]; decide) (by rw [ez]; rfl) (by decide) (law_0 l C1 hK hL hw hn (by omega) hi hl J nxt)
        · exact lv_tableIn (off := 157) (tgt := 209) hx hb d_L_law_52 (by rw [ez]; decide) (by rw [ez]; decide) (by rw [ez]; rfl) (by decide) (law_1 l C1 hK hL hw hn (by omega) hi hl J nxt)
        · exact lv_tableIn (off := 190) (tgt := 242) hx hb d_L_law_52 (by rw [ez]; decide) (by rw [ez]; decide) (by rw [ez]; rfl) (by decide) (law_2 l C1 hK hL hw hn (by omega) hi hl J nxt)
        · exact lv_tableIn (off := 213) (tgt := 265) hx hb d_L_law_52 (by rw [ez]; decide) (by rw [ez]; decide) (by rw [ez]; rfl) (by decide) (law_3 l C1 hK hL hw hn (by omega) hi hl J nxt)
        · exact lv_tableIn (off := 236) (tgt := 288) hx hb d_L_law_52 (by rw [ez]; decide) (by rw [ez]; decide) (by rw [ez]; rfl) (by decide) (law_4 l C1 hK hL hw hn (by omega) hi hl J nxt)
        · exact lv_tableIn (off := 259) (tgt := 311) hx hb d_L_law_52 (by rw [ez]; decide) (by rw [ez]; decide) (by rw [ez]; rfl) (by decide) (law_5 l C1 hK hL hw hn (by omega) hi hl J nxt)
        · exact lv_tableIn (off := 312) (tgt := 364) hx hb d_L_law_52 (by rw [ez]; decide) (by rw [ez]; decide) (by rw [ez]; rfl) (by decide) (law_6 l C1 hK hL hw hn (by omega) hi hl J nxt)
        · exact lv_tableIn (off := 365) (tgt := 417) hx hb d_L_law_52 (by rw [ez]; decide) (by rw [ez]; decide) (by rw [ez]; rfl) (by decide) (law_7 l C1 hK hL hw hn (by omega) hi hl J nxt)
        · exact lv_tableIn (off := 408) (tgt := 460) hx hb d_L_law_52 (by rw [ez]; decide) (by rw [ez]; decide) (by rw [ez]; rfl) (by decide) (law_8 l C1 hK hL hw hn (by omega) hi hl J nxt)
        · exact lv_tableIn (off := 451) (tgt := 503) hx hb d_L_law_52 (by rw [ez]; decide) (by rw [ez]; decide) (by rw [ez]; rfl) (by decide) (law_9 l C1 hK hL hw hn (by omega) hi hl J nxt)
        · exact lv_tableIn (off := 484) (tgt := 536) hx hb d_L_law_52 (by rw [ez]; decide) (by rw [ez]; decide) (by rw [ez]; rfl) (by decide) (law_10 l C1 hK hL hw hn (by omega) hi hl J nxt)
        · exact lv_tableIn (off := 527) (tgt := 579) hx hb d_L_law_52 (by rw [ez]; decide) (by rw [ez]; decide) (by rw [ez]; rfl) (by decide) (law_11 l C1 hK hL hw hn (by omega) hi hl J nxt)
        · exact lv_tableIn (off := 560) (tgt := 612) hx hb d_L_law_52 (by rw [ez]; decide) (by rw [ez]; decide) (by rw [ez]; rfl) (by decide) (law_12 l C1 hK hL hw hn (by omega) hi hl J nxt)
        · exact lv_tableIn (off := 603) (tgt := 655) hx hb d_L_law_52 (by rw [ez]; decide) (by rw [ez]; decide) (by rw [ez]; rfl) (by decide) (law_13 l C1 hK hL hw hn (by omega) hi hl J nxt)
        · exact lv_tableIn (off := 636) (tgt := 688) hx hb d_L_law_52 (by rw [ez]; decide) (by rw [ez]; decide) (by rw [ez]; rfl) (by decide) (law_14 l C1 hK hL hw hn (by omega) hi hl J nxt)
        · exact lv_tableIn (off := 659) (tgt := 711) hx hb d_L_law_52 (by rw [ez]; decide) (by rw [ez]; decide) (by rw [ez]; rfl) (by decide) (law_15 l C1 hK hL hw hn (by omega) hi hl J nxt)
        · exact lv_tableIn (off := 682) (tgt := 734) hx hb d_L_law_52 (by rw [ez]; decide) (by rw [ez]; decide) (by rw [ez]; rfl) (by decide) (law_16 l C1 hK hL hw hn (by omega) hi hl J nxt)
        · exact lv_tableIn (off := 705) (tgt := 757) hx hb d_L_law_52 (by rw [ez]; decide) (by rw [ez]; decide) (by rw [ez]; rfl) (by decide) (law_17 l C1 hK hL hw hn (by omega) hi hl J nxt)
        · exact lv_tableIn (off := 728) (tgt := 780) hx hb d_L_law_52 (by rw [ez]; decide) (by rw [ez]; decide) (by rw [ez]; rfl) (by decide) (law_18 l C1 hK hL hw hn (by omega) hi hl J nxt)
        · exact lv_tableIn (off := 761) (tgt := 813) hx hb d_L_law_52 (by rw [ez]; decide) (by rw [ez]; decide) (by rw [ez]; rfl) (by decide) (law_19 l C1 hK hL hw hn (by omega) hi hl J nxt)
        · exact lv_tableIn (off := 794) (tgt := 846) hx hb d_L_law_52 (by rw [ez]; decide) (by rw [ez]; decide) (by rw [ez]; rfl) (by decide) (law_20 l C1 hK hL hw hn (by omega) hi hl J nxt)
        · exact lv_tableIn (off := 827) (tgt := 879) hx hb d_L_law_52 (by rw [ez]; decide) (by rw [ez]; decide) (by rw [ez]; rfl) (by decide) (law_21 l C1 hK hL hw hn (by omega) hi hl J nxt)
        · exact lv_tableIn (off := 876) (tgt := 928) hx hb d_L_law_52 (by rw [ez]; decide) (by rw [ez]; decide) (by rw [ez]; rfl) (by decide) (law_22 l C1 hK hL hw hn (by omega) hi hl J nxt)
        · exact lv_tableIn (off := 919) (tgt := 971) hx hb d_L_law_52 (by rw [ez]; decide) (by rw [ez]; decide) (by rw [ez]; rfl) (by decide) (law_23 l C1 hK hL hw hn (by omega) hi hl J nxt)
        · exact lv_tableIn (off := 962) (tgt := 1014) hx hb d_L_law_52 (by rw [ez]; decide) (by rw [ez]; decide) (by rw [ez]; rfl) (by decide) (law_24 l C1 hK hL hw hn (by omega) hi hl J nxt)
        · exact lv_tableIn (off := 975) (tgt := 1027) hx hb d_L_law_52 (by rw [ez]; decide) (by rw [ez]; decide) (by rw [ez]; rfl) (by decide) (law_25 l C1 hK hL hw hn (by omega) hi hl J nxt)
        · exact lv_tableIn (off := 988) (tgt := 1040) hx hb d_L_law_52 (by rw [ez]; decide) (by rw [ez]; decide) (by rw [ez]; rfl) (by decide) (law_26 l C1 hK hL hw hn (by omega) hi hl J nxt)
set_option maxHeartbeats 4000000 in
set_option maxRecDepth 100000 in
theorem whole_start {p : Program} {e : Env} {s : State} {m : MethodId} {below : List Frame} {meth : Method} {c : Code} (l : Launch) {b L : Nat} {xs : Nat → Int32} (hL : L ≤ 2562) (C0 : lw_At p s m meth c b L xs) : W p l e room_1 s m #[Value.ref b] below meth c s.heap [] 0 0 (lw_Z below #[Value.ref b] s) (entryFrame m ([Value.ref b] : List Value).toArray 4) := by
  have C1 := C0
  obtain ⟨hx, hb, hr, hml, hown, hts, hX, hbl, hlocks, hgv⟩ := C0
  obtain ⟨D, cV, cT, cI, cB, cZ, hK⟩ := lw_K hts hgv
  have ht := fun w (hw : w ∈ gt) => hts w (List.mem_filter.mp hw).1
  have C0 : CallFix p m c code 4 s #[Value.ref b] gt "StackRoomLaw" := ⟨hx, hb, hml, hown, ht⟩
  have hbA : ¬ lw_A s b := Nat.not_le.mpr hbl
  have hA : ∀ q, s.heap.size ≤ q → lw_A s q := fun q h => h
  have hS : va_S (lw_A s) s.heap s.heap [] := va_S.rf
  have hP0 : gw_P D vwCl (lw_A s) gw_N s.heap := gw_P.nil
  have hl := lv_entry ([.ref b]) (n := 4) (Nat.le_of_ble_eq_true rfl)
  rw [lg_entry_eq]
  generalize (lg_sl ([.ref b]) ++ List.replicate (4 - (lg_sl ([.ref b])).length) Slot.unset).toArray = ls at hl ⊢
  have hl : lv_has ls 4 [(0, .ref b)] := hl
  refine h_new (D := D) (ci := 0) (fs := [.int 0, .int 0, .null, .int 0, .null, .int 0, .int 0, .int 0, .int 0, .int 0]) (C := "StackRoom") (T := T_S) (N := 10) hx hb ht in_S ty_S tk_S hown (ht _ cl_L_S) (ht _ is_S) (ht _ ini_S) hK.1 hP0 hS hA rfl (fun j hj => by rcases (show j = 0 ∨ j = 1 ∨ j = 2 ∨ j = 3 ∨ j = 4 ∨ j = 5 ∨ j = 6 ∨ j = 7 ∨ j = 8 ∨ j = 9 by omega) with rfl | rfl | rfl | rfl | rfl | rfl | rfl | rfl | rfl | rfl <;> rfl) (Nat.le_of_ble_eq_true rfl) (Nat.le_of_ble_eq_true rfl) d_L_law_0 (fun x H hP hP0 hd0 hS => ?_)
  have hX1 : va_X b L xs s H := hX.kept (hS.2.1 b hbl hbA)
  refine lv_dup hx hb d_L_law_3 rfl ?_
  refine lv_aload_n hx hb d_L_law_4 rfl (lv_at hl 0 rfl) ?_
  refine lv_iconst (v := 0) hx hb d_L_law_5 (by decide) ?_
  refine W.eq (g2 := F0 m 6 ls [.int (nI 0), .ref b, .ref x, .ref x]) (rfl) ?_
  refine vp_callSi (va_Run.run (r_S (rest := [.ref x, .ref x]) C0 [.ref b, .int (nI 0)] (k_L_cell l (xs := xs) hL (j := 0) (by decide)) ml_L_L_cell st_L_cell ini_L co_L_cell hd_L_cell (lw_xpre hX1) hl.1 d_L_law_6 rfl rfl (Nat.le_of_ble_eq_true rfl) ⟨rfl, rfl⟩ ⟨Nat.le_of_ble_eq_true rfl, Nat.le_of_ble_eq_true rfl⟩ ⟨Nat.le_of_ble_eq_true rfl, Nat.le_of_ble_eq_true rfl⟩)) (fun v0 ev0 => ?_)
  subst ev0
  refine lv_aload_n hx hb d_L_law_9 rfl (lv_at hl 0 rfl) ?_
  refine lv_iconst (v := 1) hx hb d_L_law_10 (by decide) ?_
  refine W.eq (g2 := F0 m 11 ls [.int (nI 1), .ref b, .int (lw_c L xs 0), .ref x, .ref x]) (rfl) ?_
  refine vp_callSi (va_Run.run (r_S (rest := [.int (lw_c L xs 0), .ref x, .ref x]) C0 [.ref b, .int (nI 1)] (k_L_cell l (xs := xs) hL (j := 1) (by decide)) ml_L_L_cell st_L_cell ini_L co_L_cell hd_L_cell (lw_xpre hX1) hl.1 d_L_law_11 rfl rfl (Nat.le_of_ble_eq_true rfl) ⟨rfl, rfl⟩ ⟨Nat.le_of_ble_eq_true rfl, Nat.le_of_ble_eq_true rfl⟩ ⟨Nat.le_of_ble_eq_true rfl, Nat.le_of_ble_eq_true rfl⟩)) (fun v1 ev1 => ?_)
  subst ev1
  refine h_callv hP hS hA hP0 hd0 (r_I (rest := [.ref x]) C0 [.int (lw_c L xs 0), .int (lw_c L xs 1)] (k_S_init l (va_up_self _ _ _) rfl rfl (lw_c L xs 0) (lw_c L xs 1)) ml_L_S_init im_S_init ini_S co_S_init rfl hd_S_init (g_preS hK hP) hl.1 d_L_law_14 rfl rfl (Nat.le_of_ble_eq_true rfl) ⟨rfl, rfl⟩ ⟨Nat.le_of_ble_eq_true rfl, Nat.le_of_ble_eq_true rfl⟩ ⟨Nat.le_of_ble_eq_true rfl, Nat.le_of_ble_eq_true rfl⟩) (fun Gx H locs hR0 hP hS hP0 hd0 => ?_)
  clear hX1 hP0 hd0
  refine lv_astore_n (lv' := [(1, .ref x), (0, .ref b)]) hx hb d_L_law_17 rfl hl (by decide) rfl (fun ls hl => ?_)
  refine h_new (D := D) (ci := 5) (fs := [.int 0, .int 0, .int 0, .null, .null, .null, .null, .null, .null, .null, .null, .null, .null, .null, .null, .null, .null, .null, .int 0, .null, .null, .int 0, .int 0, .int 0, .int 0]) (C := "StackRoomModel") (T := T_R) (N := 25) hx hb ht in_R ty_R tk_R hown (ht _ cl_L_R) (ht _ is_R) (ht _ ini_R) hK.1 hP hS hA rfl (fun j hj => by rcases (show j = 0 ∨ j = 1 ∨ j = 2 ∨ j = 3 ∨ j = 4 ∨ j = 5 ∨ j = 6 ∨ j = 7 ∨ j = 8 ∨ j = 9 ∨ j = 10 ∨ j = 11 ∨ j = 12 ∨ j = 13 ∨ j = 14 ∨ j = 15 ∨ j = 16 ∨ j = 17 ∨ j = 18 ∨ j = 19 ∨ j = 20 ∨ j = 21 ∨ j = 22 ∨ j = 23 ∨ j = 24 by omega) with rfl | rfl | rfl | rfl | rfl | rfl | rfl | rfl | rfl | rfl | rfl | rfl | rfl | rfl | rfl | rfl | rfl | rfl | rfl | rfl | rfl | rfl | rfl | rfl | rfl <;> rfl) (Nat.le_of_ble_eq_true rfl) (Nat.le_of_ble_eq_true rfl) d_L_law_18 (fun y H hPm hP hd hS => ?_)
  have hX1 : va_X b L xs s H := hX.kept (hS.2.1 b hbl hbA)
  refine lv_dup hx hb d_L_law_21 rfl ?_
  refine lv_aload_n hx hb d_L_law_22 rfl (lv_at hl 1 rfl) ?_
  refine lv_iconst (v := 0) hx hb d_L_law_23 (by decide) ?_
  refine W.eq (g2 := F0 m 24 ls [.int (nI 0), .ref b, .ref y, .ref y]) (rfl) ?_
  refine vp_callSi (va_Run.run (r_S (rest := [.ref y, .ref y]) C0 [.ref b, .int (nI 0)] (k_L_cell l (xs := xs) hL (j := 0) (by decide)) ml_L_L_cell st_L_cell ini_L co_L_cell hd_L_cell (lw_xpre hX1) hl.1 d_L_law_24 rfl rfl (Nat.le_of_ble_eq_true rfl) ⟨rfl, rfl⟩ ⟨Nat.le_of_ble_eq_true rfl, Nat.le_of_ble_eq_true rfl⟩ ⟨Nat.le_of_ble_eq_true rfl, Nat.le_of_ble_eq_true rfl⟩)) (fun v0 ev0 => ?_)
  subst ev0
  refine lv_aload_n hx hb d_L_law_27 rfl (lv_at hl 1 rfl) ?_
  refine lv_iconst (v := 1) hx hb d_L_law_28 (by decide) ?_
  refine W.eq (g2 := F0 m 29 ls [.int (nI 1), .ref b, .int (lw_c L xs 0), .ref y, .ref y]) (rfl) ?_
  refine vp_callSi (va_Run.run (r_S (rest := [.int (lw_c L xs 0), .ref y, .ref y]) C0 [.ref b, .int (nI 1)] (k_L_cell l (xs := xs) hL (j := 1) (by decide)) ml_L_L_cell st_L_cell ini_L co_L_cell hd_L_cell (lw_xpre hX1) hl.1 d_L_law_29 rfl rfl (Nat.le_of_ble_eq_true rfl) ⟨rfl, rfl⟩ ⟨Nat.le_of_ble_eq_true rfl, Nat.le_of_ble_eq_true rfl⟩ ⟨Nat.le_of_ble_eq_true rfl, Nat.le_of_ble_eq_true rfl⟩)) (fun v1 ev1 => ?_)
  subst ev1
  refine h_callv hPm hS hA hP hd (r_I (rest := [.ref y]) C0 [.int (lw_c L xs 0), .int (lw_c L xs 1)] (k_R_init l (va_up_self _ _ _) rfl rfl rfl (lw_c L xs 0) (lw_c L xs 1)) ml_L_R_init im_R_init ini_R co_R_init rfl hd_R_init (g_preS hK hPm) hl.1 d_L_law_32 rfl rfl (Nat.le_of_ble_eq_true rfl) ⟨rfl, rfl⟩ ⟨Nat.le_of_ble_eq_true rfl, Nat.le_of_ble_eq_true rfl⟩ ⟨Nat.le_of_ble_eq_true rfl, Nat.le_of_ble_eq_true rfl⟩) (fun Gm H locs hM0 hPm hS hP hd => ?_)
  refine lv_astore_n (lv' := [(2, .ref y), (1, .ref x), (0, .ref b)]) hx hb d_L_law_35 rfl hl (by decide) rfl (fun ls hl => ?_)
  refine lv_iconst (v := 2) hx hb d_L_law_36 (by decide) ?_
  refine lv_istore_n (lv' := [(3, .int 2), (2, .ref y), (1, .ref x), (0, .ref b)]) hx hb d_L_law_37 rfl hl (by decide) rfl (fun ls hl => ?_)
  exact law_loop l C1 hK hL (c_w_in _) (c_n_in _) 512 (k := 0) (i := 2) rfl (by omega) (by omega) (lv_sub hl [0, 1, 2, 3] rfl) ⟨hP, hPm, gw_sym hd, hS, hR0, hM0, s_new_OK _ _, s_new_NV, Nat.le_refl _, Nat.le_of_ble_eq_true rfl, Nat.le_of_ble_eq_true rfl⟩
