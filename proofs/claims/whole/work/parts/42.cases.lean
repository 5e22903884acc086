section K42
variable {p : Program} {e : Env} {s : State} {m : MethodId} {below : List Frame} {meth : Method} {c : Code} {b L : Nat} {xs : Nat → Int32} {Q : State → Prop} {D : va_G} {cV cT cI cB cZ : ClassId} {w n x y k i cells slots : Nat} {σ : sS} {Gx Gm : gw_G} {H : Heap} {locs : List Loc} {ls : Array Slot}
set_option maxHeartbeats 4000000 in
set_option maxRecDepth 100000 in
theorem law_0 (l : Launch) (C : lw_At p s m meth c b L xs) (hK : kK D (lw_tys cV cT cI cB cZ) s) (hL : L ≤ 2562) (hw : 128 ≤ w ∧ w ≤ 32768) (hn : 16 ≤ n ∧ n ≤ 4096) (hk : k < 512) (hi : i + 5 ≤ L) (hl : lv_has ls 4 [(3, .int (nI i)), (2, .ref y), (1, .ref x), (0, .ref b)]) (J : lw_J D cV cT cI cB cZ s w n x y k σ Gx Gm H locs cells slots) (kk : ∀ (σ : sS) (Gx Gm : gw_G) (H : Heap) (locs : List Loc) (cells slots : Nat), lw_J D cV cT cI cB cZ s w n x y (k + 1) σ Gx Gm H locs cells slots → W p l e room_1 s m #[Value.ref b] below meth c H locs cells slots Q (F0 m 1053 ls [])) : W p l e room_1 s m #[Value.ref b] below meth c H locs cells slots Q (F0 m 176 ls []) := by
  obtain ⟨hx, hb, hr, hml, hown, hts, hX, hbl, hlocks, hgv⟩ := C
  have ht := fun w (hw : w ∈ gt) => hts w (List.mem_filter.mp hw).1
  have C0 : CallFix p m c code 4 s #[Value.ref b] gt "StackRoomLaw" := ⟨hx, hb, hml, hown, ht⟩
  obtain ⟨hP, hPm, hd, hS, hR0, hM0, hO, hV, hmd, hcl, hsl⟩ := J
  have hbA : ¬ lw_A s b := Nat.not_le.mpr hbl
  have hA : ∀ q, s.heap.size ≤ q → lw_A s q := fun q h => h
  have hm : s_md σ + 2 < 2 ^ 31 := by omega
  obtain ⟨rd, ra, rt, ad, fa, ρ, fr, rr, rf, rc, wl, el, cr, hrd, hR⟩ := id hR0
  obtain ⟨adr, ar, sl, bg, U, r0, r1, r2, r3, hM, hE⟩ := id hM0
  refine lv_aload_n hx hb d_L_law_176 rfl (lv_at hl 2 rfl) ?_
  refine lv_aload_n hx hb d_L_law_177 rfl (lv_at hl 3 rfl) ?_
  refine lv_iload_n hx hb d_L_law_178 rfl (lv_at hl 0 rfl) ?_
  refine lv_iconst (v := 1) hx hb d_L_law_179 (by decide) ?_
  refine lv_iadd hx hb d_L_law_180 ?_
  refine W.eq (g2 := F0 m 181 ls [.int (nI (i + 1)), .ref b, .ref x]) (by rw [show nI i + 1 = nI (i + 1) from nI_add i 1]) ?_
  refine va_sld hx hb hX hbl hbA hS (vp_in_nI (by omega) (by omega)) d_L_law_181 ?_
  rw [nI_clamp (by omega)]
  refine lv_aload_n hx hb d_L_law_182 rfl (lv_at hl 3 rfl) ?_
  refine lv_iload_n hx hb d_L_law_183 rfl (lv_at hl 0 rfl) ?_
  refine lv_iconst (v := 2) hx hb d_L_law_184 (by decide) ?_
  refine lv_iadd hx hb d_L_law_185 ?_
  refine W.eq (g2 := F0 m 186 ls [.int (nI (i + 2)), .ref b, .int (xs (i + 1)), .ref x]) (by rw [show nI i + 2 = nI (i + 2) from nI_add i 2]) ?_
  refine va_sld hx hb hX hbl hbA hS (vp_in_nI (by omega) (by omega)) d_L_law_186 ?_
  rw [nI_clamp (by omega)]
  refine h_calli hP hS hA hPm hd (r_V (rest := []) C0 [.int (xs (i + 1)), .int (xs (i + 2))] (k_S_number l hR0 hO hw hn hm (by omega) rfl rfl (xs (i + 1)) (xs (i + 2))) ml_L_S_number im_S_number se_S_S_number_S ini_S co_S_number ⟨rfl, hd_S_number⟩ (g_preV (ci := 0) hK hP rfl hR.1) hl.1 d_L_law_187 rfl rfl (Nat.le_of_ble_eq_true rfl) ⟨rfl, rfl⟩ ⟨Nat.le_of_ble_eq_true rfl, Nat.le_of_ble_eq_true rfl⟩ ⟨show cells + 1 ≤ 600000 by omega, show slots + 1 ≤ 7302250 by omega⟩) (fun q1 Gx1 H locs hq1 hP hS hPm hd => ?_)
  obtain ⟨e1, hR1⟩ := hq1
  refine lv_aload_n hx hb d_L_law_190 rfl (lv_at hl 1 rfl) ?_
  refine lv_aload_n hx hb d_L_law_191 rfl (lv_at hl 3 rfl) ?_
  refine lv_iload_n hx hb d_L_law_192 rfl (lv_at hl 0 rfl) ?_
  refine lv_iconst (v := 1) hx hb d_L_law_193 (by decide) ?_
  refine lv_iadd hx hb d_L_law_194 ?_
  refine W.eq (g2 := F0 m 195 ls [.int (nI (i + 1)), .ref b, .ref y, .int q1]) (by rw [show nI i + 1 = nI (i + 1) from nI_add i 1]) ?_
  refine va_sld hx hb hX hbl hbA hS (vp_in_nI (by omega) (by omega)) d_L_law_195 ?_
  rw [nI_clamp (by omega)]
  refine lv_aload_n hx hb d_L_law_196 rfl (lv_at hl 3 rfl) ?_
  refine lv_iload_n hx hb d_L_law_197 rfl (lv_at hl 0 rfl) ?_
  refine lv_iconst (v := 2) hx hb d_L_law_198 (by decide) ?_
  refine lv_iadd hx hb d_L_law_199 ?_
  refine W.eq (g2 := F0 m 200 ls [.int (nI (i + 2)), .ref b, .int (xs (i + 1)), .ref y, .int q1]) (by rw [show nI i + 2 = nI (i + 2) from nI_add i 2]) ?_
  refine va_sld hx hb hX hbl hbA hS (vp_in_nI (by omega) (by omega)) d_L_law_200 ?_
  rw [nI_clamp (by omega)]
  refine h_calli hPm hS hA hP (gw_sym hd) (r_V (rest := [.int q1]) C0 [.int (xs (i + 1)), .int (xs (i + 2))] (k_R_number l hM0 hO hV hw hn hm rfl rfl rfl (xs (i + 1)) (xs (i + 2))) ml_L_R_number im_R_number se_R_R_number_R ini_R co_R_number ⟨rfl, hd_R_number⟩ (g_preV (ci := 5) hK hPm rfl hM.1) hl.1 d_L_law_201 rfl rfl (Nat.le_of_ble_eq_true rfl) ⟨rfl, rfl⟩ ⟨Nat.le_of_ble_eq_true rfl, Nat.le_of_ble_eq_true rfl⟩ ⟨show cells + 1 + 0 ≤ 600000 by omega, show slots + 1 + 0 ≤ 7302250 by omega⟩) (fun q2 Gm1 H locs hq2 hPm hS hP hd2 => ?_)
  obtain ⟨e2, hM1⟩ := hq2
  have hd := gw_sym hd2
  refine lv_icmp_eq (tgt := 1053) hx hb d_L_law_204 (by decide) (fun _ => ?_) (fun z => absurd (e1.trans e2.symm) z)
  have hOK := p_number_OK hO (xs (i + 1)) (xs (i + 2))
  exact kk _ _ _ _ _ _ _ ⟨hP, hPm, hd, hS, hR1, hM1, hOK.1, p_number_NV hV (xs (i + 1)) (xs (i + 2)), by have := hOK.2; omega, by omega, by omega⟩
set_option maxHeartbeats 4000000 in
set_option maxRecDepth 100000 in
theorem law_1 (l : Launch) (C : lw_At p s m meth c b L xs) (hK : kK D (lw_tys cV cT cI cB cZ) s) (hL : L ≤ 2562) (hw : 128 ≤ w ∧ w ≤ 32768) (hn : 16 ≤ n ∧ n ≤ 4096) (hk : k < 512) (hi : i + 5 ≤ L) (hl : lv_has ls 4 [(3, .int (nI i)), (2, .ref y), (1, .ref x), (0, .ref b)]) (J : lw_J D cV cT cI cB cZ s w n x y k σ Gx Gm H locs cells slots) (kk : ∀ (σ : sS) (Gx Gm : gw_G) (H : Heap) (locs : List Loc) (cells slots : Nat), lw_J D cV cT cI cB cZ s w n x y (k + 1) σ Gx Gm H locs cells slots → W p l e room_1 s m #[Value.ref b] below meth c H locs cells slots Q (F0 m 1053 ls [])) : W p l e room_1 s m #[Value.ref b] below meth c H locs cells slots Q (F0 m 209 ls []) := by
  obtain ⟨hx, hb, hr, hml, hown, hts, hX, hbl, hlocks, hgv⟩ := C
  have ht := fun w (hw : w ∈ gt) => hts w (List.mem_filter.mp hw).1
  have C0 : CallFix p m c code 4 s #[Value.ref b] gt "StackRoomLaw" := ⟨hx, hb, hml, hown, ht⟩
  obtain ⟨hP, hPm, hd, hS, hR0, hM0, hO, hV, hmd, hcl, hsl⟩ := J
  have hbA : ¬ lw_A s b := Nat.not_le.mpr hbl
  have hA : ∀ q, s.heap.size ≤ q → lw_A s q := fun q h => h
  have hm : s_md σ + 2 < 2 ^ 31 := by omega
  obtain ⟨rd, ra, rt, ad, fa, ρ, fr, rr, rf, rc, wl, el, cr, hrd, hR⟩ := id hR0
  obtain ⟨adr, ar, sl, bg, U, r0, r1, r2, r3, hM, hE⟩ := id hM0
  refine lv_aload_n hx hb d_L_law_209 rfl (lv_at hl 2 rfl) ?_
  refine lv_aload_n hx hb d_L_law_210 rfl (lv_at hl 3 rfl) ?_
  refine lv_iload_n hx hb d_L_law_211 rfl (lv_at hl 0 rfl) ?_
  refine lv_iconst (v := 1) hx hb d_L_law_212 (by decide) ?_
  refine lv_iadd hx hb d_L_law_213 ?_
  refine W.eq (g2 := F0 m 214 ls [.int (nI (i + 1)), .ref b, .ref x]) (by rw [show nI i + 1 = nI (i + 1) from nI_add i 1]) ?_
  refine va_sld hx hb hX hbl hbA hS (vp_in_nI (by omega) (by omega)) d_L_law_214 ?_
  rw [nI_clamp (by omega)]
  refine lv_aload_n hx hb d_L_law_215 rfl (lv_at hl 3 rfl) ?_
  refine lv_iload_n hx hb d_L_law_216 rfl (lv_at hl 0 rfl) ?_
  refine lv_iconst (v := 2) hx hb d_L_law_217 (by decide) ?_
  refine lv_iadd hx hb d_L_law_218 ?_
  refine W.eq (g2 := F0 m 219 ls [.int (nI (i + 2)), .ref b, .int (xs (i + 1)), .ref x]) (by rw [show nI i + 2 = nI (i + 2) from nI_add i 2]) ?_
  refine va_sld hx hb hX hbl hbA hS (vp_in_nI (by omega) (by omega)) d_L_law_219 ?_
  rw [nI_clamp (by omega)]
  refine h_calli hP hS hA hPm hd (r_V (rest := []) C0 [.int (xs (i + 1)), .int (xs (i + 2))] (k_S_move l hR0 hO hw hn hm (by omega) rfl rfl (xs (i + 1)) (xs (i + 2))) ml_L_S_move im_S_move se_S_S_move_S ini_S co_S_move ⟨rfl, hd_S_move⟩ (g_preV (ci := 0) hK hP rfl hR.1) hl.1 d_L_law_220 rfl rfl (Nat.le_of_ble_eq_true rfl) ⟨rfl, rfl⟩ ⟨Nat.le_of_ble_eq_true rfl, Nat.le_of_ble_eq_true rfl⟩ ⟨show cells + 0 ≤ 600000 by omega, show slots + 0 ≤ 7302250 by omega⟩) (fun q1 Gx1 H locs hq1 hP hS hPm hd => ?_)
  obtain ⟨e1, hR1⟩ := hq1
  refine lv_aload_n hx hb d_L_law_223 rfl (lv_at hl 1 rfl) ?_
  refine lv_aload_n hx hb d_L_law_224 rfl (lv_at hl 3 rfl) ?_
  refine lv_iload_n hx hb d_L_law_225 rfl (lv_at hl 0 rfl) ?_
  refine lv_iconst (v := 1) hx hb d_L_law_226 (by decide) ?_
  refine lv_iadd hx hb d_L_law_227 ?_
  refine W.eq (g2 := F0 m 228 ls [.int (nI (i + 1)), .ref b, .ref y, .int q1]) (by rw [show nI i + 1 = nI (i + 1) from nI_add i 1]) ?_
  refine va_sld hx hb hX hbl hbA hS (vp_in_nI (by omega) (by omega)) d_L_law_228 ?_
  rw [nI_clamp (by omega)]
  refine lv_aload_n hx hb d_L_law_229 rfl (lv_at hl 3 rfl) ?_
  refine lv_iload_n hx hb d_L_law_230 rfl (lv_at hl 0 rfl) ?_
  refine lv_iconst (v := 2) hx hb d_L_law_231 (by decide) ?_
  refine lv_iadd hx hb d_L_law_232 ?_
  refine W.eq (g2 := F0 m 233 ls [.int (nI (i + 2)), .ref b, .int (xs (i + 1)), .ref y, .int q1]) (by rw [show nI i + 2 = nI (i + 2) from nI_add i 2]) ?_
  refine va_sld hx hb hX hbl hbA hS (vp_in_nI (by omega) (by omega)) d_L_law_233 ?_
  rw [nI_clamp (by omega)]
  refine h_calli hPm hS hA hP (gw_sym hd) (r_V (rest := [.int q1]) C0 [.int (xs (i + 1)), .int (xs (i + 2))] (k_R_move l hM0 hO hV hw hn hm rfl rfl rfl (xs (i + 1)) (xs (i + 2))) ml_L_R_move im_R_move se_R_R_move_R ini_R co_R_move ⟨rfl, hd_R_move⟩ (g_preV (ci := 5) hK hPm rfl hM.1) hl.1 d_L_law_234 rfl rfl (Nat.le_of_ble_eq_true rfl) ⟨rfl, rfl⟩ ⟨Nat.le_of_ble_eq_true rfl, Nat.le_of_ble_eq_true rfl⟩ ⟨show cells + 0 + 0 ≤ 600000 by omega, show slots + 0 + 0 ≤ 7302250 by omega⟩) (fun q2 Gm1 H locs hq2 hPm hS hP hd2 => ?_)
  obtain ⟨e2, hM1⟩ := hq2
  have hd := gw_sym hd2
  refine lv_icmp_eq (tgt := 1053) hx hb d_L_law_237 (by decide) (fun _ => ?_) (fun z => absurd (e1.trans e2.symm) z)
  have hOK := p_move_OK hO (xs (i + 1)) (xs (i + 2))
  exact kk _ _ _ _ _ _ _ ⟨hP, hPm, hd, hS, hR1, hM1, hOK.1, p_move_NV hV (xs (i + 1)) (xs (i + 2)), by have := hOK.2; omega, by omega, by omega⟩
set_option maxHeartbeats 4000000 in
set_option maxRecDepth 100000 in
theorem law_2 (l : Launch) (C : lw_At p s m meth c b L xs) (hK : kK D (lw_tys cV cT cI cB cZ) s) (hL : L ≤ 2562) (hw : 128 ≤ w ∧ w ≤ 32768) (hn : 16 ≤ n ∧ n ≤ 4096) (hk : k < 512) (hi : i + 5 ≤ L) (hl : lv_has ls 4 [(3, .int (nI i)), (2, .ref y), (1, .ref x), (0, .ref b)]) (J : lw_J D cV cT cI cB cZ s w n x y k σ Gx Gm H locs cells slots) (kk : ∀ (σ : sS) (Gx Gm : gw_G) (H : Heap) (locs : List Loc) (cells slots : Nat), lw_J D cV cT cI cB cZ s w n x y (k + 1) σ Gx Gm H locs cells slots → W p l e room_1 s m #[Value.ref b] below meth c H locs cells slots Q (F0 m 1053 ls [])) : W p l e room_1 s m #[Value.ref b] below meth c H locs cells slots Q (F0 m 242 ls []) := by
  obtain ⟨hx, hb, hr, hml, hown, hts, hX, hbl, hlocks, hgv⟩ := C
  have ht := fun w (hw : w ∈ gt) => hts w (List.mem_filter.mp hw).1
  have C0 : CallFix p m c code 4 s #[Value.ref b] gt "StackRoomLaw" := ⟨hx, hb, hml, hown, ht⟩
  obtain ⟨hP, hPm, hd, hS, hR0, hM0, hO, hV, hmd, hcl, hsl⟩ := J
  have hbA : ¬ lw_A s b := Nat.not_le.mpr hbl
  have hA : ∀ q, s.heap.size ≤ q → lw_A s q := fun q h => h
  have hm : s_md σ + 2 < 2 ^ 31 := by omega
  obtain ⟨rd, ra, rt, ad, fa, ρ, fr, rr, rf, rc, wl, el, cr, hrd, hR⟩ := id hR0
  obtain ⟨adr, ar, sl, bg, U, r0, r1, r2, r3, hM, hE⟩ := id hM0
  refine lv_aload_n hx hb d_L_law_242 rfl (lv_at hl 2 rfl) ?_
  refine lv_aload_n hx hb d_L_law_243 rfl (lv_at hl 3 rfl) ?_
  refine lv_iload_n hx hb d_L_law_244 rfl (lv_at hl 0 rfl) ?_
  refine lv_iconst (v := 1) hx hb d_L_law_245 (by decide) ?_
  refine lv_iadd hx hb d_L_law_246 ?_
  refine W.eq (g2 := F0 m 247 ls [.int (nI (i + 1)), .ref b, .ref x]) (by rw [show nI i + 1 = nI (i + 1) from nI_add i 1]) ?_
  refine va_sld hx hb hX hbl hbA hS (vp_in_nI (by omega) (by omega)) d_L_law_247 ?_
  rw [nI_clamp (by omega)]
  refine h_calli hP hS hA hPm hd (r_V (rest := []) C0 [.int (xs (i + 1))] (k_S_clear l hR0 hO hw hn hm (by omega) rfl rfl (xs (i + 1))) ml_L_S_clear im_S_clear se_S_S_clear_S ini_S co_S_clear ⟨rfl, hd_S_clear⟩ (g_preV (ci := 0) hK hP rfl hR.1) hl.1 d_L_law_248 rfl rfl (Nat.le_of_ble_eq_true rfl) ⟨rfl, rfl⟩ ⟨Nat.le_of_ble_eq_true rfl, Nat.le_of_ble_eq_true rfl⟩ ⟨show cells + 0 ≤ 600000 by omega, show slots + 0 ≤ 7302250 by omega⟩) (fun q1 Gx1 H locs hq1 hP hS hPm hd => ?_)
  obtain ⟨e1, hR1⟩ := hq1
  refine lv_aload_n hx hb d_L_law_251 rfl (lv_at hl 1 rfl) ?_
  refine lv_aload_n hx hb d_L_law_252 rfl (lv_at hl 3 rfl) ?_
  refine lv_iload_n hx hb d_L_law_253 rfl (lv_at hl 0 rfl) ?_
  refine lv_iconst (v := 1) hx hb d_L_law_254 (by decide) ?_
  refine lv_iadd hx hb d_L_law_255 ?_
  refine W.eq (g2 := F0 m 256 ls [.int (nI (i + 1)), .ref b, .ref y, .int q1]) (by rw [show nI i + 1 = nI (i + 1) from nI_add i 1]) ?_
  refine va_sld hx hb hX hbl hbA hS (vp_in_nI (by omega) (by omega)) d_L_law_256 ?_
  rw [nI_clamp (by omega)]
  refine h_calli hPm hS hA hP (gw_sym hd) (r_V (rest := [.int q1]) C0 [.int (xs (i + 1))] (k_R_clear l hM0 hO hV hw hn hm rfl rfl rfl (xs (i + 1))) ml_L_R_clear im_R_clear se_R_R_clear_R ini_R co_R_clear ⟨rfl, hd_R_clear⟩ (g_preV (ci := 5) hK hPm rfl hM.1) hl.1 d_L_law_257 rfl rfl (Nat.le_of_ble_eq_true rfl) ⟨rfl, rfl⟩ ⟨Nat.le_of_ble_eq_true rfl, Nat.le_of_ble_eq_true rfl⟩ ⟨show cells + 0 + 0 ≤ 600000 by omega, show slots + 0 + 0 ≤ 7302250 by omega⟩) (fun q2 Gm1 H locs hq2 hPm hS hP hd2 => ?_)
  obtain ⟨e2, hM1⟩ := hq2
  have hd := gw_sym hd2
  refine lv_icmp_eq (tgt := 1053) hx hb d_L_law_260 (by decide) (fun _ => ?_) (fun z => absurd (e1.trans e2.symm) z)
  have hOK := p_clear_OK hO (xs (i + 1))
  exact kk _ _ _ _ _ _ _ ⟨hP, hPm, hd, hS, hR1, hM1, hOK.1, p_clear_NV hV (xs (i + 1)), by have := hOK.2; omega, by omega, by omega⟩
set_option maxHeartbeats 4000000 in
set_option maxRecDepth 100000 in
theorem law_3 (l : Launch) (C : lw_At p s m meth c b L xs) (hK : kK D (lw_tys cV cT cI cB cZ) s) (hL : L ≤ 2562) (hw : 128 ≤ w ∧ w ≤ 32768) (hn : 16 ≤ n ∧ n ≤ 4096) (hk : k < 512) (hi : i + 5 ≤ L) (hl : lv_has ls 4 [(3, .int (nI i)), (2, .ref y), (1, .ref x), (0, .ref b)]) (J : lw_J D cV cT cI cB cZ s w n x y k σ Gx Gm H locs cells slots) (kk : ∀ (σ : sS) (Gx Gm : gw_G) (H : Heap) (locs : List Loc) (cells slots : Nat), lw_J D cV cT cI cB cZ s w n x y (k + 1) σ Gx Gm H locs cells slots → W p l e room_1 s m #[Value.ref b] below meth c H locs cells slots Q (F0 m 1053 ls [])) : W p l e room_1 s m #[Value.ref b] below meth c H locs cells slots Q (F0 m 265 ls []) := by
  obtain ⟨hx, hb, hr, hml, hown, hts, hX, hbl, hlocks, hgv⟩ := C
  have ht := fun w (hw : w ∈ gt) => hts w (List.mem_filter.mp hw).1
  have C0 : CallFix p m c code 4 s #[Value.ref b] gt "StackRoomLaw" := ⟨hx, hb, hml, hown, ht⟩
  obtain ⟨hP, hPm, hd, hS, hR0, hM0, hO, hV, hmd, hcl, hsl⟩ := J
  have hbA : ¬ lw_A s b := Nat.not_le.mpr hbl
  have hA : ∀ q, s.heap.size ≤ q → lw_A s q := fun q h => h
  have hm : s_md σ + 2 < 2 ^ 31 := by omega
  obtain ⟨rd, ra, rt, ad, fa, ρ, fr, rr, rf, rc, wl, el, cr, hrd, hR⟩ := id hR0
  obtain ⟨adr, ar, sl, bg, U, r0, r1, r2, r3, hM, hE⟩ := id hM0
  refine lv_aload_n hx hb d_L_law_265 rfl (lv_at hl 2 rfl) ?_
  refine lv_aload_n hx hb d_L_law_266 rfl (lv_at hl 3 rfl) ?_
  refine lv_iload_n hx hb d_L_law_267 rfl (lv_at hl 0 rfl) ?_
  refine lv_iconst (v := 1) hx hb d_L_law_268 (by decide) ?_
  refine lv_iadd hx hb d_L_law_269 ?_
  refine W.eq (g2 := F0 m 270 ls [.int (nI (i + 1)), .ref b, .ref x]) (by rw [show nI i + 1 = nI (i + 1) from nI_add i 1]) ?_
  refine va_sld hx hb hX hbl hbA hS (vp_in_nI (by omega) (by omega)) d_L_law_270 ?_
  rw [nI_clamp (by omega)]
  refine vp_callSi (va_Run.run (r_V (rest := []) C0 [.int (xs (i + 1))] (k_S_kind l hR hO.1 rfl (xs (i + 1))) ml_L_S_kind im_S_kind se_S_S_kind_S ini_S co_S_kind ⟨rfl, hd_S_kind⟩ (g_preV (ci := 0) hK hP rfl hR.1) hl.1 d_L_law_271 rfl rfl (Nat.le_of_ble_eq_true rfl) ⟨rfl, rfl⟩ ⟨Nat.le_of_ble_eq_true rfl, Nat.le_of_ble_eq_true rfl⟩ ⟨show cells + 0 ≤ 600000 by omega, show slots + 0 ≤ 7302250 by omega⟩)) (fun q1 e1 => ?_)
  refine lv_aload_n hx hb d_L_law_274 rfl (lv_at hl 1 rfl) ?_
  refine lv_aload_n hx hb d_L_law_275 rfl (lv_at hl 3 rfl) ?_
  refine lv_iload_n hx hb d_L_law_276 rfl (lv_at hl 0 rfl) ?_
  refine lv_iconst (v := 1) hx hb d_L_law_277 (by decide) ?_
  refine lv_iadd hx hb d_L_law_278 ?_
  refine W.eq (g2 := F0 m 279 ls [.int (nI (i + 1)), .ref b, .ref y, .int q1]) (by rw [show nI i + 1 = nI (i + 1) from nI_add i 1]) ?_
  refine va_sld hx hb hX hbl hbA hS (vp_in_nI (by omega) (by omega)) d_L_law_279 ?_
  rw [nI_clamp (by omega)]
  refine vp_callSi (va_Run.run (r_V (rest := [.int q1]) C0 [.int (xs (i + 1))] (k_R_kind l hM0 hO hV hw hn hm rfl rfl rfl (xs (i + 1))) ml_L_R_kind im_R_kind se_R_R_kind_R ini_R co_R_kind ⟨rfl, hd_R_kind⟩ (g_preV (ci := 5) hK hPm rfl hM.1) hl.1 d_L_law_280 rfl rfl (Nat.le_of_ble_eq_true rfl) ⟨rfl, rfl⟩ ⟨Nat.le_of_ble_eq_true rfl, Nat.le_of_ble_eq_true rfl⟩ ⟨show cells + 0 ≤ 600000 by omega, show slots + 0 ≤ 7302250 by omega⟩)) (fun q2 e2 => ?_)
  refine lv_icmp_eq (tgt := 1053) hx hb d_L_law_283 (by decide) (fun _ => ?_) (fun z => absurd (e1.trans e2.symm) z)
  exact kk _ _ _ _ _ _ _ ⟨hP, hPm, hd, hS, hR0.up, hM0, hO, hV, by omega, by omega, by omega⟩
set_option maxHeartbeats 4000000 in
set_option maxRecDepth 100000 in
theorem law_4 (l : Launch) (C : lw_At p s m meth c b L xs) (hK : kK D (lw_tys cV cT cI cB cZ) s) (hL : L ≤ 2562) (hw : 128 ≤ w ∧ w ≤ 32768) (hn : 16 ≤ n ∧ n ≤ 4096) (hk : k < 512) (hi : i + 5 ≤ L) (hl : lv_has ls 4 [(3, .int (nI i)), (2, .ref y), (1, .ref x), (0, .ref b)]) (J : lw_J D cV cT cI cB cZ s w n x y k σ Gx Gm H locs cells slots) (kk : ∀ (σ : sS) (Gx Gm : gw_G) (H : Heap) (locs : List Loc) (cells slots : Nat), lw_J D cV cT cI cB cZ s w n x y (k + 1) σ Gx Gm H locs cells slots → W p l e room_1 s m #[Value.ref b] below meth c H locs cells slots Q (F0 m 1053 ls [])) : W p l e room_1 s m #[Value.ref b] below meth c H locs cells slots Q (F0 m 288 ls []) := by
  obtain ⟨hx, hb, hr, hml, hown, hts, hX, hbl, hlocks, hgv⟩ := C
  have ht := fun w (hw : w ∈ gt) => hts w (List.mem_filter.mp hw).1
  have C0 : CallFix p m c code 4 s #[Value.ref b] gt "StackRoomLaw" := ⟨hx, hb, hml, hown, ht⟩
  obtain ⟨hP, hPm, hd, hS, hR0, hM0, hO, hV, hmd, hcl, hsl⟩ := J
  have hbA : ¬ lw_A s b := Nat.not_le.mpr hbl
  have hA : ∀ q, s.heap.size ≤ q → lw_A s q := fun q h => h
  have hm : s_md σ + 2 < 2 ^ 31 := by omega
  obtain ⟨rd, ra, rt, ad, fa, ρ, fr, rr, rf, rc, wl, el, cr, hrd, hR⟩ := id hR0
  obtain ⟨adr, ar, sl, bg, U, r0, r1, r2, r3, hM, hE⟩ := id hM0
  refine lv_aload_n hx hb d_L_law_288 rfl (lv_at hl 2 rfl) ?_
  refine lv_aload_n hx hb d_L_law_289 rfl (lv_at hl 3 rfl) ?_
  refine lv_iload_n hx hb d_L_law_290 rfl (lv_at hl 0 rfl) ?_
  refine lv_iconst (v := 1) hx hb d_L_law_291 (by decide) ?_
  refine lv_iadd hx hb d_L_law_292 ?_
  refine W.eq (g2 := F0 m 293 ls [.int (nI (i + 1)), .ref b, .ref x]) (by rw [show nI i + 1 = nI (i + 1) from nI_add i 1]) ?_
  refine va_sld hx hb hX hbl hbA hS (vp_in_nI (by omega) (by omega)) d_L_law_293 ?_
  rw [nI_clamp (by omega)]
  refine vp_callSi (va_Run.run (r_V (rest := []) C0 [.int (xs (i + 1))] (k_S_value l hR hO.1 rfl (xs (i + 1))) ml_L_S_value im_S_value se_S_S_value_S ini_S co_S_value ⟨rfl, hd_S_value⟩ (g_preV (ci := 0) hK hP rfl hR.1) hl.1 d_L_law_294 rfl rfl (Nat.le_of_ble_eq_true rfl) ⟨rfl, rfl⟩ ⟨Nat.le_of_ble_eq_true rfl, Nat.le_of_ble_eq_true rfl⟩ ⟨show cells + 0 ≤ 600000 by omega, show slots + 0 ≤ 7302250 by omega⟩)) (fun q1 e1 => ?_)
  refine lv_aload_n hx hb d_L_law_297 rfl (lv_at hl 1 rfl) ?_
  refine lv_aload_n hx hb d_L_law_298 rfl (lv_at hl 3 rfl) ?_
  refine lv_iload_n hx hb d_L_law_299 rfl (lv_at hl 0 rfl) ?_
  refine lv_iconst (v := 1) hx hb d_L_law_300 (by decide) ?_
  refine lv_iadd hx hb d_L_law_301 ?_
  refine W.eq (g2 := F0 m 302 ls [.int (nI (i + 1)), .ref b, .ref y, .int q1]) (by rw [show nI i + 1 = nI (i + 1) from nI_add i 1]) ?_
  refine va_sld hx hb hX hbl hbA hS (vp_in_nI (by omega) (by omega)) d_L_law_302 ?_
  rw [nI_clamp (by omega)]
  refine vp_callSi (va_Run.run (r_V (rest := [.int q1]) C0 [.int (xs (i + 1))] (k_R_value l hM0 hO hV hw hn hm rfl rfl rfl (xs (i + 1))) ml_L_R_value im_R_value se_R_R_value_R ini_R co_R_value ⟨rfl, hd_R_value⟩ (g_preV (ci := 5) hK hPm rfl hM.1) hl.1 d_L_law_303 rfl rfl (Nat.le_of_ble_eq_true rfl) ⟨rfl, rfl⟩ ⟨Nat.le_of_ble_eq_true rfl, Nat.le_of_ble_eq_true rfl⟩ ⟨show cells + 0 ≤ 600000 by omega, show slots + 0 ≤ 7302250 by omega⟩)) (fun q2 e2 => ?_)
  refine lv_icmp_eq (tgt := 1053) hx hb d_L_law_306 (by decide) (fun _ => ?_) (fun z => absurd (e1.trans e2.symm) z)
  exact kk _ _ _ _ _ _ _ ⟨hP, hPm, hd, hS, hR0.up, hM0, hO, hV, by omega, by omega, by omega⟩
set_option maxHeartbeats 4000000 in
set_option maxRecDepth 100000 in
theorem law_5 (l : Launch) (C : lw_At p s m meth c b L xs) (hK : kK D (lw_tys cV cT cI cB cZ) s) (hL : L ≤ 2562) (hw : 128 ≤ w ∧ w ≤ 32768) (hn : 16 ≤ n ∧ n ≤ 4096) (hk : k < 512) (hi : i + 5 ≤ L) (hl : lv_has ls 4 [(3, .int (nI i)), (2, .ref y), (1, .ref x), (0, .ref b)]) (J : lw_J D cV cT cI cB cZ s w n x y k σ Gx Gm H locs cells slots) (kk : ∀ (σ : sS) (Gx Gm : gw_G) (H : Heap) (locs : List Loc) (cells slots : Nat), lw_J D cV cT cI cB cZ s w n x y (k + 1) σ Gx Gm H locs cells slots → W p l e room_1 s m #[Value.ref b] below meth c H locs cells slots Q (F0 m 1053 ls [])) : W p l e room_1 s m #[Value.ref b] below meth c H locs cells slots Q (F0 m 311 ls []) := by
  obtain ⟨hx, hb, hr, hml, hown, hts, hX, hbl, hlocks, hgv⟩ := C
  have ht := fun w (hw : w ∈ gt) => hts w (List.mem_filter.mp hw).1
  have C0 : CallFix p m c code 4 s #[Value.ref b] gt "StackRoomLaw" := ⟨hx, hb, hml, hown, ht⟩
  obtain ⟨hP, hPm, hd, hS, hR0, hM0, hO, hV, hmd, hcl, hsl⟩ := J
  have hbA : ¬ lw_A s b := Nat.not_le.mpr hbl
  have hA : ∀ q, s.heap.size ≤ q → lw_A s q := fun q h => h
  have hm : s_md σ + 2 < 2 ^ 31 := by omega
  obtain ⟨rd, ra, rt, ad, fa, ρ, fr, rr, rf, rc, wl, el, cr, hrd, hR⟩ := id hR0
  obtain ⟨adr, ar, sl, bg, U, r0, r1, r2, r3, hM, hE⟩ := id hM0
  refine lv_aload_n hx hb d_L_law_311 rfl (lv_at hl 2 rfl) ?_
  refine lv_aload_n hx hb d_L_law_312 rfl (lv_at hl 3 rfl) ?_
  refine lv_iload_n hx hb d_L_law_313 rfl (lv_at hl 0 rfl) ?_
  refine lv_iconst (v := 1) hx hb d_L_law_314 (by decide) ?_
  refine lv_iadd hx hb d_L_law_315 ?_
  refine W.eq (g2 := F0 m 316 ls [.int (nI (i + 1)), .ref b, .ref x]) (by rw [show nI i + 1 = nI (i + 1) from nI_add i 1]) ?_
  refine va_sld hx hb hX hbl hbA hS (vp_in_nI (by omega) (by omega)) d_L_law_316 ?_
  rw [nI_clamp (by omega)]
  refine lv_aload_n hx hb d_L_law_317 rfl (lv_at hl 3 rfl) ?_
  refine lv_iload_n hx hb d_L_law_318 rfl (lv_at hl 0 rfl) ?_
  refine lv_iconst (v := 2) hx hb d_L_law_319 (by decide) ?_
  refine lv_iadd hx hb d_L_law_320 ?_
  refine W.eq (g2 := F0 m 321 ls [.int (nI (i + 2)), .ref b, .int (xs (i + 1)), .ref x]) (by rw [show nI i + 2 = nI (i + 2) from nI_add i 2]) ?_
  refine va_sld hx hb hX hbl hbA hS (vp_in_nI (by omega) (by omega)) d_L_law_321 ?_
  rw [nI_clamp (by omega)]
  refine lv_aload_n hx hb d_L_law_322 rfl (lv_at hl 3 rfl) ?_
  refine lv_iload_n hx hb d_L_law_323 rfl (lv_at hl 0 rfl) ?_
  refine lv_iconst (v := 3) hx hb d_L_law_324 (by decide) ?_
  refine lv_iadd hx hb d_L_law_325 ?_
  refine W.eq (g2 := F0 m 326 ls [.int (nI (i + 3)), .ref b, .int (xs (i + 2)), .int (xs (i + 1)), .ref x]) (by rw [show nI i + 3 = nI (i + 3) from nI_add i 3]) ?_
  refine va_sld hx hb hX hbl hbA hS (vp_in_nI (by omega) (by omega)) d_L_law_326 ?_
  rw [nI_clamp (by omega)]
  refine lv_aload_n hx hb d_L_law_327 rfl (lv_at hl 3 rfl) ?_
  refine lv_iload_n hx hb d_L_law_328 rfl (lv_at hl 0 rfl) ?_
  refine lv_iconst (v := 4) hx hb d_L_law_329 (by decide) ?_
  refine lv_iadd hx hb d_L_law_330 ?_
  refine W.eq (g2 := F0 m 331 ls [.int (nI (i + 4)), .ref b, .int (xs (i + 3)), .int (xs (i + 2)), .int (xs (i + 1)), .ref x]) (by rw [show nI i + 4 = nI (i + 4) from nI_add i 4]) ?_
  refine va_sld hx hb hX hbl hbA hS (vp_in_nI (by omega) (by omega)) d_L_law_331 ?_
  rw [nI_clamp (by omega)]
  refine h_calli hP hS hA hPm hd (r_V (rest := []) C0 [.int (xs (i + 1)), .int (xs (i + 2)), .int (xs (i + 3)), .int (xs (i + 4))] (k_S_method l hR0 hO hw hn hm (by omega) rfl rfl (xs (i + 1)) (xs (i + 2)) (xs (i + 3)) (xs (i + 4))) ml_L_S_method im_S_method se_S_S_method_S ini_S co_S_method ⟨rfl, hd_S_method⟩ (g_preV (ci := 0) hK hP rfl hR.1) hl.1 d_L_law_332 rfl rfl (Nat.le_of_ble_eq_true rfl) ⟨rfl, rfl⟩ ⟨Nat.le_of_ble_eq_true rfl, Nat.le_of_ble_eq_true rfl⟩ ⟨show cells + 1 ≤ 600000 by omega, show slots + 4 ≤ 7302250 by omega⟩) (fun q1 Gx1 H locs hq1 hP hS hPm hd => ?_)
  obtain ⟨e1, hR1⟩ := hq1
  refine lv_aload_n hx hb d_L_law_335 rfl (lv_at hl 1 rfl) ?_
  refine lv_aload_n hx hb d_L_law_336 rfl (lv_at hl 3 rfl) ?_
  refine lv_iload_n hx hb d_L_law_337 rfl (lv_at hl 0 rfl) ?_
  refine lv_iconst (v := 1) hx hb d_L_law_338 (by decide) ?_
  refine lv_iadd hx hb d_L_law_339 ?_
  refine W.eq (g2 := F0 m 340 ls [.int (nI (i + 1)), .ref b, .ref y, .int q1]) (by rw [show nI i + 1 = nI (i + 1) from nI_add i 1]) ?_
  refine va_sld hx hb hX hbl hbA hS (vp_in_nI (by omega) (by omega)) d_L_law_340 ?_
  rw [nI_clamp (by omega)]
  refine lv_aload_n hx hb d_L_law_341 rfl (lv_at hl 3 rfl) ?_
  refine lv_iload_n hx hb d_L_law_342 rfl (lv_at hl 0 rfl) ?_
  refine lv_iconst (v := 2) hx hb d_L_law_343 (by decide) ?_
  refine lv_iadd hx hb d_L_law_344 ?_
  refine W.eq (g2 := F0 m 345 ls [.int (nI (i + 2)), .ref b, .int (xs (i + 1)), .ref y, .int q1]) (by rw [show nI i + 2 = nI (i + 2) from nI_add i 2]) ?_
  refine va_sld hx hb hX hbl hbA hS (vp_in_nI (by omega) (by omega)) d_L_law_345 ?_
  rw [nI_clamp (by omega)]
  refine lv_aload_n hx hb d_L_law_346 rfl (lv_at hl 3 rfl) ?_
  refine lv_iload_n hx hb d_L_law_347 rfl (lv_at hl 0 rfl) ?_
  refine lv_iconst (v := 3) hx hb d_L_law_348 (by decide) ?_
  refine lv_iadd hx hb d_L_law_349 ?_
  refine W.eq (g2 := F0 m 350 ls [.int (nI (i + 3)), .ref b, .int (xs (i + 2)), .int (xs (i + 1)), .ref y, .int q1]) (by rw [show nI i + 3 = nI (i + 3) from nI_add i 3]) ?_
  refine va_sld hx hb hX hbl hbA hS (vp_in_nI (by omega) (by omega)) d_L_law_350 ?_
  rw [nI_clamp (by omega)]
  refine lv_aload_n hx hb d_L_law_351 rfl (lv_at hl 3 rfl) ?_
  refine lv_iload_n hx hb d_L_law_352 rfl (lv_at hl 0 rfl) ?_
  refine lv_iconst (v := 4) hx hb d_L_law_353 (by decide) ?_
  refine lv_iadd hx hb d_L_law_354 ?_
  refine W.eq (g2 := F0 m 355 ls [.int (nI (i + 4)), .ref b, .int (xs (i + 3)), .int (xs (i + 2)), .int (xs (i + 1)), .ref y, .int q1]) (by rw [show nI i + 4 = nI (i + 4) from nI_add i 4]) ?_
  refine va_sld hx hb hX hbl hbA hS (vp_in_nI (by omega) (by omega)) d_L_law_355 ?_
  rw [nI_clamp (by omega)]
  refine h_calli hPm hS hA hP (gw_sym hd) (r_V (rest := [.int q1]) C0 [.int (xs (i + 1)), .int (xs (i + 2)), .int (xs (i + 3)), .int (xs (i + 4))] (k_R_method l hM0 hO hV hw hn hm rfl rfl rfl (xs (i + 1)) (xs (i + 2)) (xs (i + 3)) (xs (i + 4))) ml_L_R_method im_R_method se_R_R_method_R ini_R co_R_method ⟨rfl, hd_R_method⟩ (g_preV (ci := 5) hK hPm rfl hM.1) hl.1 d_L_law_356 rfl rfl (Nat.le_of_ble_eq_true rfl) ⟨rfl, rfl⟩ ⟨Nat.le_of_ble_eq_true rfl, Nat.le_of_ble_eq_true rfl⟩ ⟨show cells + 1 + 0 ≤ 600000 by omega, show slots + 4 + 0 ≤ 7302250 by omega⟩) (fun q2 Gm1 H locs hq2 hPm hS hP hd2 => ?_)
  obtain ⟨e2, hM1⟩ := hq2
  have hd := gw_sym hd2
  refine lv_icmp_eq (tgt := 1053) hx hb d_L_law_359 (by decide) (fun _ => ?_) (fun z => absurd (e1.trans e2.symm) z)
  have hOK := p_method_OK hO (xs (i + 1)) (xs (i + 2)) (xs (i + 3)) (xs (i + 4))
  exact kk _ _ _ _ _ _ _ ⟨hP, hPm, hd, hS, hR1, hM1, hOK.1, p_method_NV hV (xs (i + 1)) (xs (i + 2)) (xs (i + 3)) (xs (i + 4)), by have := hOK.2; omega, by omega, by omega⟩
set_option maxHeartbeats 4000000 in
set_option maxRecDepth 100000 in
theorem law_6 (l : Launch) (C : lw_At p s m meth c b L xs) (hK : kK D (lw_tys cV cT cI cB cZ) s) (hL : L ≤ 2562) (hw : 128 ≤ w ∧ w ≤ 32768) (hn : 16 ≤ n ∧ n ≤ 4096) (hk : k < 512) (hi : i + 5 ≤ L) (hl : lv_has ls 4 [(3, .int (nI i)), (2, .ref y), (1, .ref x), (0, .ref b)]) (J : lw_J D cV cT cI cB cZ s w n x y k σ Gx Gm H locs cells slots) (kk : ∀ (σ : sS) (Gx Gm : gw_G) (H : Heap) (locs : List Loc) (cells slots : Nat), lw_J D cV cT cI cB cZ s w n x y (k + 1) σ Gx Gm H locs cells slots → W p l e room_1 s m #[Value.ref b] below meth c H locs cells slots Q (F0 m 1053 ls [])) : W p l e room_1 s m #[Value.ref b] below meth c H locs cells slots Q (F0 m 364 ls []) := by
  obtain ⟨hx, hb, hr, hml, hown, hts, hX, hbl, hlocks, hgv⟩ := C
  have ht := fun w (hw : w ∈ gt) => hts w (List.mem_filter.mp hw).1
  have C0 : CallFix p m c code 4 s #[Value.ref b] gt "StackRoomLaw" := ⟨hx, hb, hml, hown, ht⟩
  obtain ⟨hP, hPm, hd, hS, hR0, hM0, hO, hV, hmd, hcl, hsl⟩ := J
  have hbA : ¬ lw_A s b := Nat.not_le.mpr hbl
  have hA : ∀ q, s.heap.size ≤ q → lw_A s q := fun q h => h
  have hm : s_md σ + 2 < 2 ^ 31 := by omega
  obtain ⟨rd, ra, rt, ad, fa, ρ, fr, rr, rf, rc, wl, el, cr, hrd, hR⟩ := id hR0
  obtain ⟨adr, ar, sl, bg, U, r0, r1, r2, r3, hM, hE⟩ := id hM0
  refine lv_aload_n hx hb d_L_law_364 rfl (lv_at hl 2 rfl) ?_
  refine lv_aload_n hx hb d_L_law_365 rfl (lv_at hl 3 rfl) ?_
  refine lv_iload_n hx hb d_L_law_366 rfl (lv_at hl 0 rfl) ?_
  refine lv_iconst (v := 1) hx hb d_L_law_367 (by decide) ?_
  refine lv_iadd hx hb d_L_law_368 ?_
  refine W.eq (g2 := F0 m 369 ls [.int (nI (i + 1)), .ref b, .ref x]) (by rw [show nI i + 1 = nI (i + 1) from nI_add i 1]) ?_
  refine va_sld hx hb hX hbl hbA hS (vp_in_nI (by omega) (by omega)) d_L_law_369 ?_
  rw [nI_clamp (by omega)]
  refine lv_aload_n hx hb d_L_law_370 rfl (lv_at hl 3 rfl) ?_
  refine lv_iload_n hx hb d_L_law_371 rfl (lv_at hl 0 rfl) ?_
  refine lv_iconst (v := 2) hx hb d_L_law_372 (by decide) ?_
  refine lv_iadd hx hb d_L_law_373 ?_
  refine W.eq (g2 := F0 m 374 ls [.int (nI (i + 2)), .ref b, .int (xs (i + 1)), .ref x]) (by rw [show nI i + 2 = nI (i + 2) from nI_add i 2]) ?_
  refine va_sld hx hb hX hbl hbA hS (vp_in_nI (by omega) (by omega)) d_L_law_374 ?_
  rw [nI_clamp (by omega)]
  refine lv_aload_n hx hb d_L_law_375 rfl (lv_at hl 3 rfl) ?_
  refine lv_iload_n hx hb d_L_law_376 rfl (lv_at hl 0 rfl) ?_
  refine lv_iconst (v := 3) hx hb d_L_law_377 (by decide) ?_
  refine lv_iadd hx hb d_L_law_378 ?_
  refine W.eq (g2 := F0 m 379 ls [.int (nI (i + 3)), .ref b, .int (xs (i + 2)), .int (xs (i + 1)), .ref x]) (by rw [show nI i + 3 = nI (i + 3) from nI_add i 3]) ?_
  refine va_sld hx hb hX hbl hbA hS (vp_in_nI (by omega) (by omega)) d_L_law_379 ?_
  rw [nI_clamp (by omega)]
  refine lv_aload_n hx hb d_L_law_380 rfl (lv_at hl 3 rfl) ?_
  refine lv_iload_n hx hb d_L_law_381 rfl (lv_at hl 0 rfl) ?_
  refine lv_iconst (v := 4) hx hb d_L_law_382 (by decide) ?_
  refine lv_iadd hx hb d_L_law_383 ?_
  refine W.eq (g2 := F0 m 384 ls [.int (nI (i + 4)), .ref b, .int (xs (i + 3)), .int (xs (i + 2)), .int (xs (i + 1)), .ref x]) (by rw [show nI i + 4 = nI (i + 4) from nI_add i 4]) ?_
  refine va_sld hx hb hX hbl hbA hS (vp_in_nI (by omega) (by omega)) d_L_law_384 ?_
  rw [nI_clamp (by omega)]
  refine h_calli hP hS hA hPm hd (r_V (rest := []) C0 [.int (xs (i + 1)), .int (xs (i + 2)), .int (xs (i + 3)), .int (xs (i + 4))] (k_S_change l hR0 hO hw hn hm (by omega) rfl rfl (xs (i + 1)) (xs (i + 2)) (xs (i + 3)) (xs (i + 4))) ml_L_S_change im_S_change se_S_S_change_S ini_S co_S_change ⟨rfl, hd_S_change⟩ (g_preV (ci := 0) hK hP rfl hR.1) hl.1 d_L_law_385 rfl rfl (Nat.le_of_ble_eq_true rfl) ⟨rfl, rfl⟩ ⟨Nat.le_of_ble_eq_true rfl, Nat.le_of_ble_eq_true rfl⟩ ⟨show cells + 0 ≤ 600000 by omega, show slots + 0 ≤ 7302250 by omega⟩) (fun q1 Gx1 H locs hq1 hP hS hPm hd => ?_)
  obtain ⟨e1, hR1⟩ := hq1
  refine lv_aload_n hx hb d_L_law_388 rfl (lv_at hl 1 rfl) ?_
  refine lv_aload_n hx hb d_L_law_389 rfl (lv_at hl 3 rfl) ?_
  refine lv_iload_n hx hb d_L_law_390 rfl (lv_at hl 0 rfl) ?_
  refine lv_iconst (v := 1) hx hb d_L_law_391 (by decide) ?_
  refine lv_iadd hx hb d_L_law_392 ?_
  refine W.eq (g2 := F0 m 393 ls [.int (nI (i + 1)), .ref b, .ref y, .int q1]) (by rw [show nI i + 1 = nI (i + 1) from nI_add i 1]) ?_
  refine va_sld hx hb hX hbl hbA hS (vp_in_nI (by omega) (by omega)) d_L_law_393 ?_
  rw [nI_clamp (by omega)]
  refine lv_aload_n hx hb d_L_law_394 rfl (lv_at hl 3 rfl) ?_
  refine lv_iload_n hx hb d_L_law_395 rfl (lv_at hl 0 rfl) ?_
  refine lv_iconst (v := 2) hx hb d_L_law_396 (by decide) ?_
  refine lv_iadd hx hb d_L_law_397 ?_
  refine W.eq (g2 := F0 m 398 ls [.int (nI (i + 2)), .ref b, .int (xs (i + 1)), .ref y, .int q1]) (by rw [show nI i + 2 = nI (i + 2) from nI_add i 2]) ?_
  refine va_sld hx hb hX hbl hbA hS (vp_in_nI (by omega) (by omega)) d_L_law_398 ?_
  rw [nI_clamp (by omega)]
  refine lv_aload_n hx hb d_L_law_399 rfl (lv_at hl 3 rfl) ?_
  refine lv_iload_n hx hb d_L_law_400 rfl (lv_at hl 0 rfl) ?_
  refine lv_iconst (v := 3) hx hb d_L_law_401 (by decide) ?_
  refine lv_iadd hx hb d_L_law_402 ?_
  refine W.eq (g2 := F0 m 403 ls [.int (nI (i + 3)), .ref b, .int (xs (i + 2)), .int (xs (i + 1)), .ref y, .int q1]) (by rw [show nI i + 3 = nI (i + 3) from nI_add i 3]) ?_
  refine va_sld hx hb hX hbl hbA hS (vp_in_nI (by omega) (by omega)) d_L_law_403 ?_
  rw [nI_clamp (by omega)]
  refine lv_aload_n hx hb d_L_law_404 rfl (lv_at hl 3 rfl) ?_
  refine lv_iload_n hx hb d_L_law_405 rfl (lv_at hl 0 rfl) ?_
  refine lv_iconst (v := 4) hx hb d_L_law_406 (by decide) ?_
  refine lv_iadd hx hb d_L_law_407 ?_
  refine W.eq (g2 := F0 m 408 ls [.int (nI (i + 4)), .ref b, .int (xs (i + 3)), .int (xs (i + 2)), .int (xs (i + 1)), .ref y, .int q1]) (by rw [show nI i + 4 = nI (i + 4) from nI_add i 4]) ?_
  refine va_sld hx hb hX hbl hbA hS (vp_in_nI (by omega) (by omega)) d_L_law_408 ?_
  rw [nI_clamp (by omega)]
  refine h_calli hPm hS hA hP (gw_sym hd) (r_V (rest := [.int q1]) C0 [.int (xs (i + 1)), .int (xs (i + 2)), .int (xs (i + 3)), .int (xs (i + 4))] (k_R_change l hM0 hO hV hw hn hm rfl rfl rfl (xs (i + 1)) (xs (i + 2)) (xs (i + 3)) (xs (i + 4))) ml_L_R_change im_R_change se_R_R_change_R ini_R co_R_change ⟨rfl, hd_R_change⟩ (g_preV (ci := 5) hK hPm rfl hM.1) hl.1 d_L_law_409 rfl rfl (Nat.le_of_ble_eq_true rfl) ⟨rfl, rfl⟩ ⟨Nat.le_of_ble_eq_true rfl, Nat.le_of_ble_eq_true rfl⟩ ⟨show cells + 0 + 0 ≤ 600000 by omega, show slots + 0 + 0 ≤ 7302250 by omega⟩) (fun q2 Gm1 H locs hq2 hPm hS hP hd2 => ?_)
  obtain ⟨e2, hM1⟩ := hq2
  have hd := gw_sym hd2
  refine lv_icmp_eq (tgt := 1053) hx hb d_L_law_412 (by decide) (fun _ => ?_) (fun z => absurd (e1.trans e2.symm) z)
  have hOK := p_change_OK hO (xs (i + 1)) (xs (i + 2)) (xs (i + 3)) (xs (i + 4))
  exact kk _ _ _ _ _ _ _ ⟨hP, hPm, hd, hS, hR1, hM1, hOK.1, p_change_NV hV (xs (i + 1)) (xs (i + 2)) (xs (i + 3)) (xs (i + 4)), by have := hOK.2; omega, by omega, by omega⟩
set_option maxHeartbeats 4000000 in
set_option maxRecDepth 100000 in
theorem law_7 (l : Launch) (C : lw_At p s m meth c b L xs) (hK : kK D (lw_tys cV cT cI cB cZ) s) (hL : L ≤ 2562) (hw : 128 ≤ w ∧ w ≤ 32768) (hn : 16 ≤ n ∧ n ≤ 4096) (hk : k < 512) (hi : i + 5 ≤ L) (hl : lv_has ls 4 [(3, .int (nI i)), (2, .ref y), (1, .ref x), (0, .ref b)]) (J : lw_J D cV cT cI cB cZ s w n x y k σ Gx Gm H locs cells slots) (kk : ∀ (σ : sS) (Gx Gm : gw_G) (H : Heap) (locs : List Loc) (cells slots : Nat), lw_J D cV cT cI cB cZ s w n x y (k + 1) σ Gx Gm H locs cells slots → W p l e room_1 s m #[Value.ref b] below meth c H locs cells slots Q (F0 m 1053 ls [])) : W p l e room_1 s m #[Value.ref b] below meth c H locs cells slots Q (F0 m 417 ls []) := by
  obtain ⟨hx, hb, hr, hml, hown, hts, hX, hbl, hlocks, hgv⟩ := C
  have ht := fun w (hw : w ∈ gt) => hts w (List.mem_filter.mp hw).1
  have C0 : CallFix p m c code 4 s #[Value.ref b] gt "StackRoomLaw" := ⟨hx, hb, hml, hown, ht⟩
  obtain ⟨hP, hPm, hd, hS, hR0, hM0, hO, hV, hmd, hcl, hsl⟩ := J
  have hbA : ¬ lw_A s b := Nat.not_le.mpr hbl
  have hA : ∀ q, s.heap.size ≤ q → lw_A s q := fun q h => h
  have hm : s_md σ + 2 < 2 ^ 31 := by omega
  obtain ⟨rd, ra, rt, ad, fa, ρ, fr, rr, rf, rc, wl, el, cr, hrd, hR⟩ := id hR0
  obtain ⟨adr, ar, sl, bg, U, r0, r1, r2, r3, hM, hE⟩ := id hM0
  refine lv_aload_n hx hb d_L_law_417 rfl (lv_at hl 2 rfl) ?_
  refine lv_aload_n hx hb d_L_law_418 rfl (lv_at hl 3 rfl) ?_
  refine lv_iload_n hx hb d_L_law_419 rfl (lv_at hl 0 rfl) ?_
  refine lv_iconst (v := 1) hx hb d_L_law_420 (by decide) ?_
  refine lv_iadd hx hb d_L_law_421 ?_
  refine W.eq (g2 := F0 m 422 ls [.int (nI (i + 1)), .ref b, .ref x]) (by rw [show nI i + 1 = nI (i + 1) from nI_add i 1]) ?_
  refine va_sld hx hb hX hbl hbA hS (vp_in_nI (by omega) (by omega)) d_L_law_422 ?_
  rw [nI_clamp (by omega)]
  refine lv_aload_n hx hb d_L_law_423 rfl (lv_at hl 3 rfl) ?_
  refine lv_iload_n hx hb d_L_law_424 rfl (lv_at hl 0 rfl) ?_
  refine lv_iconst (v := 2) hx hb d_L_law_425 (by decide) ?_
  refine lv_iadd hx hb d_L_law_426 ?_
  refine W.eq (g2 := F0 m 427 ls [.int (nI (i + 2)), .ref b, .int (xs (i + 1)), .ref x]) (by rw [show nI i + 2 = nI (i + 2) from nI_add i 2]) ?_
  refine va_sld hx hb hX hbl hbA hS (vp_in_nI (by omega) (by omega)) d_L_law_427 ?_
  rw [nI_clamp (by omega)]
  refine lv_aload_n hx hb d_L_law_428 rfl (lv_at hl 3 rfl) ?_
  refine lv_iload_n hx hb d_L_law_429 rfl (lv_at hl 0 rfl) ?_
  refine lv_iconst (v := 3) hx hb d_L_law_430 (by decide) ?_
  refine lv_iadd hx hb d_L_law_431 ?_
  refine W.eq (g2 := F0 m 432 ls [.int (nI (i + 3)), .ref b, .int (xs (i + 2)), .int (xs (i + 1)), .ref x]) (by rw [show nI i + 3 = nI (i + 3) from nI_add i 3]) ?_
  refine va_sld hx hb hX hbl hbA hS (vp_in_nI (by omega) (by omega)) d_L_law_432 ?_
  rw [nI_clamp (by omega)]
  refine h_calli hP hS hA hPm hd (r_V (rest := []) C0 [.int (xs (i + 1)), .int (xs (i + 2)), .int (xs (i + 3))] (k_S_context l hR0 hO hw hn hm (by omega) rfl rfl (xs (i + 1)) (xs (i + 2)) (xs (i + 3))) ml_L_S_context im_S_context se_S_S_context_S ini_S co_S_context ⟨rfl, hd_S_context⟩ (g_preV (ci := 0) hK hP rfl hR.1) hl.1 d_L_law_433 rfl rfl (Nat.le_of_ble_eq_true rfl) ⟨rfl, rfl⟩ ⟨Nat.le_of_ble_eq_true rfl, Nat.le_of_ble_eq_true rfl⟩ ⟨show cells + 2 ≤ 600000 by omega, show slots + 101 ≤ 7302250 by omega⟩) (fun q1 Gx1 H locs hq1 hP hS hPm hd => ?_)
  obtain ⟨e1, hR1⟩ := hq1
  refine lv_aload_n hx hb d_L_law_436 rfl (lv_at hl 1 rfl) ?_
  refine lv_aload_n hx hb d_L_law_437 rfl (lv_at hl 3 rfl) ?_
  refine lv_iload_n hx hb d_L_law_438 rfl (lv_at hl 0 rfl) ?_
  refine lv_iconst (v := 1) hx hb d_L_law_439 (by decide) ?_
  refine lv_iadd hx hb d_L_law_440 ?_
  refine W.eq (g2 := F0 m 441 ls [.int (nI (i + 1)), .ref b, .ref y, .int q1]) (by rw [show nI i + 1 = nI (i + 1) from nI_add i 1]) ?_
  refine va_sld hx hb hX hbl hbA hS (vp_in_nI (by omega) (by omega)) d_L_law_441 ?_
  rw [nI_clamp (by omega)]
  refine lv_aload_n hx hb d_L_law_442 rfl (lv_at hl 3 rfl) ?_
  refine lv_iload_n hx hb d_L_law_443 rfl (lv_at hl 0 rfl) ?_
  refine lv_iconst (v := 2) hx hb d_L_law_444 (by decide) ?_
  refine lv_iadd hx hb d_L_law_445 ?_
  refine W.eq (g2 := F0 m 446 ls [.int (nI (i + 2)), .ref b, .int (xs (i + 1)), .ref y, .int q1]) (by rw [show nI i + 2 = nI (i + 2) from nI_add i 2]) ?_
  refine va_sld hx hb hX hbl hbA hS (vp_in_nI (by omega) (by omega)) d_L_law_446 ?_
  rw [nI_clamp (by omega)]
  refine lv_aload_n hx hb d_L_law_447 rfl (lv_at hl 3 rfl) ?_
  refine lv_iload_n hx hb d_L_law_448 rfl (lv_at hl 0 rfl) ?_
  refine lv_iconst (v := 3) hx hb d_L_law_449 (by decide) ?_
  refine lv_iadd hx hb d_L_law_450 ?_
  refine W.eq (g2 := F0 m 451 ls [.int (nI (i + 3)), .ref b, .int (xs (i + 2)), .int (xs (i + 1)), .ref y, .int q1]) (by rw [show nI i + 3 = nI (i + 3) from nI_add i 3]) ?_
  refine va_sld hx hb hX hbl hbA hS (vp_in_nI (by omega) (by omega)) d_L_law_451 ?_
  rw [nI_clamp (by omega)]
  refine h_calli hPm hS hA hP (gw_sym hd) (r_V (rest := [.int q1]) C0 [.int (xs (i + 1)), .int (xs (i + 2)), .int (xs (i + 3))] (k_R_context l hM0 hO hV hw hn hm rfl rfl rfl (xs (i + 1)) (xs (i + 2)) (xs (i + 3))) ml_L_R_context im_R_context se_R_R_context_R ini_R co_R_context ⟨rfl, hd_R_context⟩ (g_preV (ci := 5) hK hPm rfl hM.1) hl.1 d_L_law_452 rfl rfl (Nat.le_of_ble_eq_true rfl) ⟨rfl, rfl⟩ ⟨Nat.le_of_ble_eq_true rfl, Nat.le_of_ble_eq_true rfl⟩ ⟨show cells + 2 + 0 ≤ 600000 by omega, show slots + 101 + 0 ≤ 7302250 by omega⟩) (fun q2 Gm1 H locs hq2 hPm hS hP hd2 => ?_)
  obtain ⟨e2, hM1⟩ := hq2
  have hd := gw_sym hd2
  refine lv_icmp_eq (tgt := 1053) hx hb d_L_law_455 (by decide) (fun _ => ?_) (fun z => absurd (e1.trans e2.symm) z)
  have hOK := p_context_OK hO (xs (i + 1)) (xs (i + 2)) (xs (i + 3))
  exact kk _ _ _ _ _ _ _ ⟨hP, hPm, hd, hS, hR1, hM1, hOK.1, p_context_NV hV (xs (i + 1)) (xs (i + 2)) (xs (i + 3)), by have := hOK.2; omega, by omega, by omega⟩
set_option maxHeartbeats 4000000 in
set_option maxRecDepth 100000 in
theorem law_8 (l : Launch) (C : lw_At p s m meth c b L xs) (hK : kK D (lw_tys cV cT cI cB cZ) s) (hL : L ≤ 2562) (hw : 128 ≤ w ∧ w ≤ 32768) (hn : 16 ≤ n ∧ n ≤ 4096) (hk : k < 512) (hi : i + 5 ≤ L) (hl : lv_has ls 4 [(3, .int (nI i)), (2, .ref y), (1, .ref x), (0, .ref b)]) (J : lw_J D cV cT cI cB cZ s w n x y k σ Gx Gm H locs cells slots) (kk : ∀ (σ : sS) (Gx Gm : gw_G) (H : Heap) (locs : List Loc) (cells slots : Nat), lw_J D cV cT cI cB cZ s w n x y (k + 1) σ Gx Gm H locs cells slots → W p l e room_1 s m #[Value.ref b] below meth c H locs cells slots Q (F0 m 1053 ls [])) : W p l e room_1 s m #[Value.ref b] below meth c H locs cells slots Q (F0 m 460 ls []) := by
  obtain ⟨hx, hb, hr, hml, hown, hts, hX, hbl, hlocks, hgv⟩ := C
  have ht := fun w (hw : w ∈ gt) => hts w (List.mem_filter.mp hw).1
  have C0 : CallFix p m c code 4 s #[Value.ref b] gt "StackRoomLaw" := ⟨hx, hb, hml, hown, ht⟩
  obtain ⟨hP, hPm, hd, hS, hR0, hM0, hO, hV, hmd, hcl, hsl⟩ := J
  have hbA : ¬ lw_A s b := Nat.not_le.mpr hbl
  have hA : ∀ q, s.heap.size ≤ q → lw_A s q := fun q h => h
  have hm : s_md σ + 2 < 2 ^ 31 := by omega
  obtain ⟨rd, ra, rt, ad, fa, ρ, fr, rr, rf, rc, wl, el, cr, hrd, hR⟩ := id hR0
  obtain ⟨adr, ar, sl, bg, U, r0, r1, r2, r3, hM, hE⟩ := id hM0
  refine lv_aload_n hx hb d_L_law_460 rfl (lv_at hl 2 rfl) ?_
  refine lv_aload_n hx hb d_L_law_461 rfl (lv_at hl 3 rfl) ?_
  refine lv_iload_n hx hb d_L_law_462 rfl (lv_at hl 0 rfl) ?_
  refine lv_iconst (v := 1) hx hb d_L_law_463 (by decide) ?_
  refine lv_iadd hx hb d_L_law_464 ?_
  refine W.eq (g2 := F0 m 465 ls [.int (nI (i + 1)), .ref b, .ref x]) (by rw [show nI i + 1 = nI (i + 1) from nI_add i 1]) ?_
  refine va_sld hx hb hX hbl hbA hS (vp_in_nI (by omega) (by omega)) d_L_law_465 ?_
  rw [nI_clamp (by omega)]
  refine lv_aload_n hx hb d_L_law_466 rfl (lv_at hl 3 rfl) ?_
  refine lv_iload_n hx hb d_L_law_467 rfl (lv_at hl 0 rfl) ?_
  refine lv_iconst (v := 2) hx hb d_L_law_468 (by decide) ?_
  refine lv_iadd hx hb d_L_law_469 ?_
  refine W.eq (g2 := F0 m 470 ls [.int (nI (i + 2)), .ref b, .int (xs (i + 1)), .ref x]) (by rw [show nI i + 2 = nI (i + 2) from nI_add i 2]) ?_
  refine va_sld hx hb hX hbl hbA hS (vp_in_nI (by omega) (by omega)) d_L_law_470 ?_
  rw [nI_clamp (by omega)]
  refine lv_aload_n hx hb d_L_law_471 rfl (lv_at hl 3 rfl) ?_
  refine lv_iload_n hx hb d_L_law_472 rfl (lv_at hl 0 rfl) ?_
  refine lv_iconst (v := 3) hx hb d_L_law_473 (by decide) ?_
  refine lv_iadd hx hb d_L_law_474 ?_
  refine W.eq (g2 := F0 m 475 ls [.int (nI (i + 3)), .ref b, .int (xs (i + 2)), .int (xs (i + 1)), .ref x]) (by rw [show nI i + 3 = nI (i + 3) from nI_add i 3]) ?_
  refine va_sld hx hb hX hbl hbA hS (vp_in_nI (by omega) (by omega)) d_L_law_475 ?_
  rw [nI_clamp (by omega)]
  refine h_calli hP hS hA hPm hd (r_V (rest := []) C0 [.int (xs (i + 1)), .int (xs (i + 2)), .int (xs (i + 3))] (k_S_block l hR0 hO hw hn hm (by omega) rfl rfl (xs (i + 1)) (xs (i + 2)) (xs (i + 3))) ml_L_S_block im_S_block se_S_S_block_S ini_S co_S_block ⟨rfl, hd_S_block⟩ (g_preV (ci := 0) hK hP rfl hR.1) hl.1 d_L_law_476 rfl rfl (Nat.le_of_ble_eq_true rfl) ⟨rfl, rfl⟩ ⟨Nat.le_of_ble_eq_true rfl, Nat.le_of_ble_eq_true rfl⟩ ⟨show cells + 2 ≤ 600000 by omega, show slots + 102 ≤ 7302250 by omega⟩) (fun q1 Gx1 H locs hq1 hP hS hPm hd => ?_)
  obtain ⟨e1, hR1⟩ := hq1
  refine lv_aload_n hx hb d_L_law_479 rfl (lv_at hl 1 rfl) ?_
  refine lv_aload_n hx hb d_L_law_480 rfl (lv_at hl 3 rfl) ?_
  refine lv_iload_n hx hb d_L_law_481 rfl (lv_at hl 0 rfl) ?_
  refine lv_iconst (v := 1) hx hb d_L_law_482 (by decide) ?_
  refine lv_iadd hx hb d_L_law_483 ?_
  refine W.eq (g2 := F0 m 484 ls [.int (nI (i + 1)), .ref b, .ref y, .int q1]) (by rw [show nI i + 1 = nI (i + 1) from nI_add i 1]) ?_
  refine va_sld hx hb hX hbl hbA hS (vp_in_nI (by omega) (by omega)) d_L_law_484 ?_
  rw [nI_clamp (by omega)]
  refine lv_aload_n hx hb d_L_law_485 rfl (lv_at hl 3 rfl) ?_
  refine lv_iload_n hx hb d_L_law_486 rfl (lv_at hl 0 rfl) ?_
  refine lv_iconst (v := 2) hx hb d_L_law_487 (by decide) ?_
  refine lv_iadd hx hb d_L_law_488 ?_
  refine W.eq (g2 := F0 m 489 ls [.int (nI (i + 2)), .ref b, .int (xs (i + 1)), .ref y, .int q1]) (by rw [show nI i + 2 = nI (i + 2) from nI_add i 2]) ?_
  refine va_sld hx hb hX hbl hbA hS (vp_in_nI (by omega) (by omega)) d_L_law_489 ?_
  rw [nI_clamp (by omega)]
  refine lv_aload_n hx hb d_L_law_490 rfl (lv_at hl 3 rfl) ?_
  refine lv_iload_n hx hb d_L_law_491 rfl (lv_at hl 0 rfl) ?_
  refine lv_iconst (v := 3) hx hb d_L_law_492 (by decide) ?_
  refine lv_iadd hx hb d_L_law_493 ?_
  refine W.eq (g2 := F0 m 494 ls [.int (nI (i + 3)), .ref b, .int (xs (i + 2)), .int (xs (i + 1)), .ref y, .int q1]) (by rw [show nI i + 3 = nI (i + 3) from nI_add i 3]) ?_
  refine va_sld hx hb hX hbl hbA hS (vp_in_nI (by omega) (by omega)) d_L_law_494 ?_
  rw [nI_clamp (by omega)]
  refine h_calli hPm hS hA hP (gw_sym hd) (r_V (rest := [.int q1]) C0 [.int (xs (i + 1)), .int (xs (i + 2)), .int (xs (i + 3))] (k_R_block l hM0 hO hV hw hn hm rfl rfl rfl (xs (i + 1)) (xs (i + 2)) (xs (i + 3))) ml_L_R_block im_R_block se_R_R_block_R ini_R co_R_block ⟨rfl, hd_R_block⟩ (g_preV (ci := 5) hK hPm rfl hM.1) hl.1 d_L_law_495 rfl rfl (Nat.le_of_ble_eq_true rfl) ⟨rfl, rfl⟩ ⟨Nat.le_of_ble_eq_true rfl, Nat.le_of_ble_eq_true rfl⟩ ⟨show cells + 2 + 0 ≤ 600000 by omega, show slots + 102 + 0 ≤ 7302250 by omega⟩) (fun q2 Gm1 H locs hq2 hPm hS hP hd2 => ?_)
  obtain ⟨e2, hM1⟩ := hq2
  have hd := gw_sym hd2
  refine lv_icmp_eq (tgt := 1053) hx hb d_L_law_498 (by decide) (fun _ => ?_) (fun z => absurd (e1.trans e2.symm) z)
  have hOK := p_block_OK hO (xs (i + 1)) (xs (i + 2)) (xs (i + 3))
  exact kk _ _ _ _ _ _ _ ⟨hP, hPm, hd, hS, hR1, hM1, hOK.1, p_block_NV hV (xs (i + 1)) (xs (i + 2)) (xs (i + 3)), by have := hOK.2; omega, by omega, by omega⟩
set_option maxHeartbeats 4000000 in
set_option maxRecDepth 100000 in
theorem law_9 (l : Launch) (C : lw_At p s m meth c b L xs) (hK : kK D (lw_tys cV cT cI cB cZ) s) (hL : L ≤ 2562) (hw : 128 ≤ w ∧ w ≤ 32768) (hn : 16 ≤ n ∧ n ≤ 4096) (hk : k < 512) (hi : i + 5 ≤ L) (hl : lv_has ls 4 [(3, .int (nI i)), (2, .ref y), (1, .ref x), (0, .ref b)]) (J : lw_J D cV cT cI cB cZ s w n x y k σ Gx Gm H locs cells slots) (kk : ∀ (σ : sS) (Gx Gm : gw_G) (H : Heap) (locs : List Loc) (cells slots : Nat), lw_J D cV cT cI cB cZ s w n x y (k + 1) σ Gx Gm H locs cells slots → W p l e room_1 s m #[Value.ref b] below meth c H locs cells slots Q (F0 m 1053 ls [])) : W p l e room_1 s m #[Value.ref b] below meth c H locs cells slots Q (F0 m 503 ls []) := by
  obtain ⟨hx, hb, hr, hml, hown, hts, hX, hbl, hlocks, hgv⟩ := C
  have ht := fun w (hw : w ∈ gt) => hts w (List.mem_filter.mp hw).1
  have C0 : CallFix p m c code 4 s #[Value.ref b] gt "StackRoomLaw" := ⟨hx, hb, hml, hown, ht⟩
  obtain ⟨hP, hPm, hd, hS, hR0, hM0, hO, hV, hmd, hcl, hsl⟩ := J
  have hbA : ¬ lw_A s b := Nat.not_le.mpr hbl
  have hA : ∀ q, s.heap.size ≤ q → lw_A s q := fun q h => h
  have hm : s_md σ + 2 < 2 ^ 31 := by omega
  obtain ⟨rd, ra, rt, ad, fa, ρ, fr, rr, rf, rc, wl, el, cr, hrd, hR⟩ := id hR0
  obtain ⟨adr, ar, sl, bg, U, r0, r1, r2, r3, hM, hE⟩ := id hM0
  refine lv_aload_n hx hb d_L_law_503 rfl (lv_at hl 2 rfl) ?_
  refine lv_aload_n hx hb d_L_law_504 rfl (lv_at hl 3 rfl) ?_
  refine lv_iload_n hx hb d_L_law_505 rfl (lv_at hl 0 rfl) ?_
  refine lv_iconst (v := 1) hx hb d_L_law_506 (by decide) ?_
  refine lv_iadd hx hb d_L_law_507 ?_
  refine W.eq (g2 := F0 m 508 ls [.int (nI (i + 1)), .ref b, .ref x]) (by rw [show nI i + 1 = nI (i + 1) from nI_add i 1]) ?_
  refine va_sld hx hb hX hbl hbA hS (vp_in_nI (by omega) (by omega)) d_L_law_508 ?_
  rw [nI_clamp (by omega)]
  refine lv_aload_n hx hb d_L_law_509 rfl (lv_at hl 3 rfl) ?_
  refine lv_iload_n hx hb d_L_law_510 rfl (lv_at hl 0 rfl) ?_
  refine lv_iconst (v := 2) hx hb d_L_law_511 (by decide) ?_
  refine lv_iadd hx hb d_L_law_512 ?_
  refine W.eq (g2 := F0 m 513 ls [.int (nI (i + 2)), .ref b, .int (xs (i + 1)), .ref x]) (by rw [show nI i + 2 = nI (i + 2) from nI_add i 2]) ?_
  refine va_sld hx hb hX hbl hbA hS (vp_in_nI (by omega) (by omega)) d_L_law_513 ?_
  rw [nI_clamp (by omega)]
  refine h_calli hP hS hA hPm hd (r_V (rest := []) C0 [.int (xs (i + 1)), .int (xs (i + 2))] (k_S_push l hR0 hO hw hn hm (by omega) rfl rfl (xs (i + 1)) (xs (i + 2))) ml_L_S_push im_S_push se_S_S_push_S ini_S co_S_push ⟨rfl, hd_S_push⟩ (g_preV (ci := 0) hK hP rfl hR.1) hl.1 d_L_law_514 rfl rfl (Nat.le_of_ble_eq_true rfl) ⟨rfl, rfl⟩ ⟨Nat.le_of_ble_eq_true rfl, Nat.le_of_ble_eq_true rfl⟩ ⟨show cells + 0 ≤ 600000 by omega, show slots + 0 ≤ 7302250 by omega⟩) (fun q1 Gx1 H locs hq1 hP hS hPm hd => ?_)
  obtain ⟨e1, hR1⟩ := hq1
  refine lv_aload_n hx hb d_L_law_517 rfl (lv_at hl 1 rfl) ?_
  refine lv_aload_n hx hb d_L_law_518 rfl (lv_at hl 3 rfl) ?_
  refine lv_iload_n hx hb d_L_law_519 rfl (lv_at hl 0 rfl) ?_
  refine lv_iconst (v := 1) hx hb d_L_law_520 (by decide) ?_
  refine lv_iadd hx hb d_L_law_521 ?_
  refine W.eq (g2 := F0 m 522 ls [.int (nI (i + 1)), .ref b, .ref y, .int q1]) (by rw [show nI i + 1 = nI (i + 1) from nI_add i 1]) ?_
  refine va_sld hx hb hX hbl hbA hS (vp_in_nI (by omega) (by omega)) d_L_law_522 ?_
  rw [nI_clamp (by omega)]
  refine lv_aload_n hx hb d_L_law_523 rfl (lv_at hl 3 rfl) ?_
  refine lv_iload_n hx hb d_L_law_524 rfl (lv_at hl 0 rfl) ?_
  refine lv_iconst (v := 2) hx hb d_L_law_525 (by decide) ?_
  refine lv_iadd hx hb d_L_law_526 ?_
  refine W.eq (g2 := F0 m 527 ls [.int (nI (i + 2)), .ref b, .int (xs (i + 1)), .ref y, .int q1]) (by rw [show nI i + 2 = nI (i + 2) from nI_add i 2]) ?_
  refine va_sld hx hb hX hbl hbA hS (vp_in_nI (by omega) (by omega)) d_L_law_527 ?_
  rw [nI_clamp (by omega)]
  refine h_calli hPm hS hA hP (gw_sym hd) (r_V (rest := [.int q1]) C0 [.int (xs (i + 1)), .int (xs (i + 2))] (k_R_push l hM0 hO hV hw hn hm rfl rfl rfl (xs (i + 1)) (xs (i + 2))) ml_L_R_push im_R_push se_R_R_push_R ini_R co_R_push ⟨rfl, hd_R_push⟩ (g_preV (ci := 5) hK hPm rfl hM.1) hl.1 d_L_law_528 rfl rfl (Nat.le_of_ble_eq_true rfl) ⟨rfl, rfl⟩ ⟨Nat.le_of_ble_eq_true rfl, Nat.le_of_ble_eq_true rfl⟩ ⟨show cells + 0 + 0 ≤ 600000 by omega, show slots + 0 + 0 ≤ 7302250 by omega⟩) (fun q2 Gm1 H locs hq2 hPm hS hP hd2 => ?_)
  obtain ⟨e2, hM1⟩ := hq2
  have hd := gw_sym hd2
  refine lv_icmp_eq (tgt := 1053) hx hb d_L_law_531 (by decide) (fun _ => ?_) (fun z => absurd (e1.trans e2.symm) z)
  have hOK := p_push_OK hO (xs (i + 1)) (xs (i + 2))
  exact kk _ _ _ _ _ _ _ ⟨hP, hPm, hd, hS, hR1, hM1, hOK.1, p_push_NV hV (xs (i + 1)) (xs (i + 2)), by have := hOK.2; omega, by omega, by omega⟩
set_option maxHeartbeats 4000000 in
set_option maxRecDepth 100000 in
theorem law_10 (l : Launch) (C : lw_At p s m meth c b L xs) (hK : kK D (lw_tys cV cT cI cB cZ) s) (hL : L ≤ 2562) (hw : 128 ≤ w ∧ w ≤ 32768) (hn : 16 ≤ n ∧ n ≤ 4096) (hk : k < 512) (hi : i + 5 ≤ L) (hl : lv_has ls 4 [(3, .int (nI i)), (2, .ref y), (1, .ref x), (0, .ref b)]) (J : lw_J D cV cT cI cB cZ s w n x y k σ Gx Gm H locs cells slots) (kk : ∀ (σ : sS) (Gx Gm : gw_G) (H : Heap) (locs : List Loc) (cells slots : Nat), lw_J D cV cT cI cB cZ s w n x y (k + 1) σ Gx Gm H locs cells slots → W p l e room_1 s m #[Value.ref b] below meth c H locs cells slots Q (F0 m 1053 ls [])) : W p l e room_1 s m #[Value.ref b] below meth c H locs cells slots Q (F0 m 536 ls []) := by
  obtain ⟨hx, hb, hr, hml, hown, hts, hX, hbl, hlocks, hgv⟩ := C
  have ht := fun w (hw : w ∈ gt) => hts w (List.mem_filter.mp hw).1
  have C0 : CallFix p m c code 4 s #[Value.ref b] gt "StackRoomLaw" := ⟨hx, hb, hml, hown, ht⟩
  obtain ⟨hP, hPm, hd, hS, hR0, hM0, hO, hV, hmd, hcl, hsl⟩ := J
  have hbA : ¬ lw_A s b := Nat.not_le.mpr hbl
  have hA : ∀ q, s.heap.size ≤ q → lw_A s q := fun q h => h
  have hm : s_md σ + 2 < 2 ^ 31 := by omega
  obtain ⟨rd, ra, rt, ad, fa, ρ, fr, rr, rf, rc, wl, el, cr, hrd, hR⟩ := id hR0
  obtain ⟨adr, ar, sl, bg, U, r0, r1, r2, r3, hM, hE⟩ := id hM0
  refine lv_aload_n hx hb d_L_law_536 rfl (lv_at hl 2 rfl) ?_
  refine lv_aload_n hx hb d_L_law_537 rfl (lv_at hl 3 rfl) ?_
  refine lv_iload_n hx hb d_L_law_538 rfl (lv_at hl 0 rfl) ?_
  refine lv_iconst (v := 1) hx hb d_L_law_539 (by decide) ?_
  refine lv_iadd hx hb d_L_law_540 ?_
  refine W.eq (g2 := F0 m 541 ls [.int (nI (i + 1)), .ref b, .ref x]) (by rw [show nI i + 1 = nI (i + 1) from nI_add i 1]) ?_
  refine va_sld hx hb hX hbl hbA hS (vp_in_nI (by omega) (by omega)) d_L_law_541 ?_
  rw [nI_clamp (by omega)]
  refine lv_aload_n hx hb d_L_law_542 rfl (lv_at hl 3 rfl) ?_
  refine lv_iload_n hx hb d_L_law_543 rfl (lv_at hl 0 rfl) ?_
  refine lv_iconst (v := 2) hx hb d_L_law_544 (by decide) ?_
  refine lv_iadd hx hb d_L_law_545 ?_
  refine W.eq (g2 := F0 m 546 ls [.int (nI (i + 2)), .ref b, .int (xs (i + 1)), .ref x]) (by rw [show nI i + 2 = nI (i + 2) from nI_add i 2]) ?_
  refine va_sld hx hb hX hbl hbA hS (vp_in_nI (by omega) (by omega)) d_L_law_546 ?_
  rw [nI_clamp (by omega)]
  refine lv_aload_n hx hb d_L_law_547 rfl (lv_at hl 3 rfl) ?_
  refine lv_iload_n hx hb d_L_law_548 rfl (lv_at hl 0 rfl) ?_
  refine lv_iconst (v := 3) hx hb d_L_law_549 (by decide) ?_
  refine lv_iadd hx hb d_L_law_550 ?_
  refine W.eq (g2 := F0 m 551 ls [.int (nI (i + 3)), .ref b, .int (xs (i + 2)), .int (xs (i + 1)), .ref x]) (by rw [show nI i + 3 = nI (i + 3) from nI_add i 3]) ?_
  refine va_sld hx hb hX hbl hbA hS (vp_in_nI (by omega) (by omega)) d_L_law_551 ?_
  rw [nI_clamp (by omega)]
  refine h_calli hP hS hA hPm hd (r_V (rest := []) C0 [.int (xs (i + 1)), .int (xs (i + 2)), .int (xs (i + 3))] (k_S_fill l hR0 hO hw hn hm (by omega) rfl rfl (xs (i + 1)) (xs (i + 2)) (xs (i + 3))) ml_L_S_fill im_S_fill se_S_S_fill_S ini_S co_S_fill ⟨rfl, hd_S_fill⟩ (g_preV (ci := 0) hK hP rfl hR.1) hl.1 d_L_law_552 rfl rfl (Nat.le_of_ble_eq_true rfl) ⟨rfl, rfl⟩ ⟨Nat.le_of_ble_eq_true rfl, Nat.le_of_ble_eq_true rfl⟩ ⟨show cells + 100 ≤ 600000 by omega, show slots + 100 ≤ 7302250 by omega⟩) (fun q1 Gx1 H locs hq1 hP hS hPm hd => ?_)
  obtain ⟨e1, hR1⟩ := hq1
  refine lv_aload_n hx hb d_L_law_555 rfl (lv_at hl 1 rfl) ?_
  refine lv_aload_n hx hb d_L_law_556 rfl (lv_at hl 3 rfl) ?_
  refine lv_iload_n hx hb d_L_law_557 rfl (lv_at hl 0 rfl) ?_
  refine lv_iconst (v := 1) hx hb d_L_law_558 (by decide) ?_
  refine lv_iadd hx hb d_L_law_559 ?_
  refine W.eq (g2 := F0 m 560 ls [.int (nI (i + 1)), .ref b, .ref y, .int q1]) (by rw [show nI i + 1 = nI (i + 1) from nI_add i 1]) ?_
  refine va_sld hx hb hX hbl hbA hS (vp_in_nI (by omega) (by omega)) d_L_law_560 ?_
  rw [nI_clamp (by omega)]
  refine lv_aload_n hx hb d_L_law_561 rfl (lv_at hl 3 rfl) ?_
  refine lv_iload_n hx hb d_L_law_562 rfl (lv_at hl 0 rfl) ?_
  refine lv_iconst (v := 2) hx hb d_L_law_563 (by decide) ?_
  refine lv_iadd hx hb d_L_law_564 ?_
  refine W.eq (g2 := F0 m 565 ls [.int (nI (i + 2)), .ref b, .int (xs (i + 1)), .ref y, .int q1]) (by rw [show nI i + 2 = nI (i + 2) from nI_add i 2]) ?_
  refine va_sld hx hb hX hbl hbA hS (vp_in_nI (by omega) (by omega)) d_L_law_565 ?_
  rw [nI_clamp (by omega)]
  refine lv_aload_n hx hb d_L_law_566 rfl (lv_at hl 3 rfl) ?_
  refine lv_iload_n hx hb d_L_law_567 rfl (lv_at hl 0 rfl) ?_
  refine lv_iconst (v := 3) hx hb d_L_law_568 (by decide) ?_
  refine lv_iadd hx hb d_L_law_569 ?_
  refine W.eq (g2 := F0 m 570 ls [.int (nI (i + 3)), .ref b, .int (xs (i + 2)), .int (xs (i + 1)), .ref y, .int q1]) (by rw [show nI i + 3 = nI (i + 3) from nI_add i 3]) ?_
  refine va_sld hx hb hX hbl hbA hS (vp_in_nI (by omega) (by omega)) d_L_law_570 ?_
  rw [nI_clamp (by omega)]
  refine h_calli hPm hS hA hP (gw_sym hd) (r_V (rest := [.int q1]) C0 [.int (xs (i + 1)), .int (xs (i + 2)), .int (xs (i + 3))] (k_R_fill l hM0 hO hV hw hn hm rfl rfl rfl (xs (i + 1)) (xs (i + 2)) (xs (i + 3))) ml_L_R_fill im_R_fill se_R_R_fill_R ini_R co_R_fill ⟨rfl, hd_R_fill⟩ (g_preV (ci := 5) hK hPm rfl hM.1) hl.1 d_L_law_571 rfl rfl (Nat.le_of_ble_eq_true rfl) ⟨rfl, rfl⟩ ⟨Nat.le_of_ble_eq_true rfl, Nat.le_of_ble_eq_true rfl⟩ ⟨show cells + 100 + 0 ≤ 600000 by omega, show slots + 100 + 0 ≤ 7302250 by omega⟩) (fun q2 Gm1 H locs hq2 hPm hS hP hd2 => ?_)
  obtain ⟨e2, hM1⟩ := hq2
  have hd := gw_sym hd2
  refine lv_icmp_eq (tgt := 1053) hx hb d_L_law_574 (by decide) (fun _ => ?_) (fun z => absurd (e1.trans e2.symm) z)
  have hOK := p_fill_OK hO (xs (i + 1)) (xs (i + 2)) (xs (i + 3))
  exact kk _ _ _ _ _ _ _ ⟨hP, hPm, hd, hS, hR1, hM1, hOK.1, p_fill_NV hV (xs (i + 1)) (xs (i + 2)) (xs (i + 3)), by have := hOK.2; omega, by omega, by omega⟩
set_option maxHeartbeats 4000000 in
set_option maxRecDepth 100000 in
theorem law_11 (l : Launch) (C : lw_At p s m meth c b L xs) (hK : kK D (lw_tys cV cT cI cB cZ) s) (hL : L ≤ 2562) (hw : 128 ≤ w ∧ w ≤ 32768) (hn : 16 ≤ n ∧ n ≤ 4096) (hk : k < 512) (hi : i + 5 ≤ L) (hl : lv_has ls 4 [(3, .int (nI i)), (2, .ref y), (1, .ref x), (0, .ref b)]) (J : lw_J D cV cT cI cB cZ s w n x y k σ Gx Gm H locs cells slots) (kk : ∀ (σ : sS) (Gx Gm : gw_G) (H : Heap) (locs : List Loc) (cells slots : Nat), lw_J D cV cT cI cB cZ s w n x y (k + 1) σ Gx Gm H locs cells slots → W p l e room_1 s m #[Value.ref b] below meth c H locs cells slots Q (F0 m 1053 ls [])) : W p l e room_1 s m #[Value.ref b] below meth c H locs cells slots Q (F0 m 579 ls []) := by
  obtain ⟨hx, hb, hr, hml, hown, hts, hX, hbl, hlocks, hgv⟩ := C
  have ht := fun w (hw : w ∈ gt) => hts w (List.mem_filter.mp hw).1
  have C0 : CallFix p m c code 4 s #[Value.ref b] gt "StackRoomLaw" := ⟨hx, hb, hml, hown, ht⟩
  obtain ⟨hP, hPm, hd, hS, hR0, hM0, hO, hV, hmd, hcl, hsl⟩ := J
  have hbA : ¬ lw_A s b := Nat.not_le.mpr hbl
  have hA : ∀ q, s.heap.size ≤ q → lw_A s q := fun q h => h
  have hm : s_md σ + 2 < 2 ^ 31 := by omega
  obtain ⟨rd, ra, rt, ad, fa, ρ, fr, rr, rf, rc, wl, el, cr, hrd, hR⟩ := id hR0
  obtain ⟨adr, ar, sl, bg, U, r0, r1, r2, r3, hM, hE⟩ := id hM0
  refine lv_aload_n hx hb d_L_law_579 rfl (lv_at hl 2 rfl) ?_
  refine lv_aload_n hx hb d_L_law_580 rfl (lv_at hl 3 rfl) ?_
  refine lv_iload_n hx hb d_L_law_581 rfl (lv_at hl 0 rfl) ?_
  refine lv_iconst (v := 1) hx hb d_L_law_582 (by decide) ?_
  refine lv_iadd hx hb d_L_law_583 ?_
  refine W.eq (g2 := F0 m 584 ls [.int (nI (i + 1)), .ref b, .ref x]) (by rw [show nI i + 1 = nI (i + 1) from nI_add i 1]) ?_
  refine va_sld hx hb hX hbl hbA hS (vp_in_nI (by omega) (by omega)) d_L_law_584 ?_
  rw [nI_clamp (by omega)]
  refine lv_aload_n hx hb d_L_law_585 rfl (lv_at hl 3 rfl) ?_
  refine lv_iload_n hx hb d_L_law_586 rfl (lv_at hl 0 rfl) ?_
  refine lv_iconst (v := 2) hx hb d_L_law_587 (by decide) ?_
  refine lv_iadd hx hb d_L_law_588 ?_
  refine W.eq (g2 := F0 m 589 ls [.int (nI (i + 2)), .ref b, .int (xs (i + 1)), .ref x]) (by rw [show nI i + 2 = nI (i + 2) from nI_add i 2]) ?_
  refine va_sld hx hb hX hbl hbA hS (vp_in_nI (by omega) (by omega)) d_L_law_589 ?_
  rw [nI_clamp (by omega)]
  refine h_calli hP hS hA hPm hd (r_V (rest := []) C0 [.int (xs (i + 1)), .int (xs (i + 2))] (k_S_pop l hR0 hO hw hn hm (by omega) rfl rfl (xs (i + 1)) (xs (i + 2))) ml_L_S_pop im_S_pop se_S_S_pop_S ini_S co_S_pop ⟨rfl, hd_S_pop⟩ (g_preV (ci := 0) hK hP rfl hR.1) hl.1 d_L_law_590 rfl rfl (Nat.le_of_ble_eq_true rfl) ⟨rfl, rfl⟩ ⟨Nat.le_of_ble_eq_true rfl, Nat.le_of_ble_eq_true rfl⟩ ⟨show cells + 0 ≤ 600000 by omega, show slots + 0 ≤ 7302250 by omega⟩) (fun q1 Gx1 H locs hq1 hP hS hPm hd => ?_)
  obtain ⟨e1, hR1⟩ := hq1
  refine lv_aload_n hx hb d_L_law_593 rfl (lv_at hl 1 rfl) ?_
  refine lv_aload_n hx hb d_L_law_594 rfl (lv_at hl 3 rfl) ?_
  refine lv_iload_n hx hb d_L_law_595 rfl (lv_at hl 0 rfl) ?_
  refine lv_iconst (v := 1) hx hb d_L_law_596 (by decide) ?_
  refine lv_iadd hx hb d_L_law_597 ?_
  refine W.eq (g2 := F0 m 598 ls [.int (nI (i + 1)), .ref b, .ref y, .int q1]) (by rw [show nI i + 1 = nI (i + 1) from nI_add i 1]) ?_
  refine va_sld hx hb hX hbl hbA hS (vp_in_nI (by omega) (by omega)) d_L_law_598 ?_
  rw [nI_clamp (by omega)]
  refine lv_aload_n hx hb d_L_law_599 rfl (lv_at hl 3 rfl) ?_
  refine lv_iload_n hx hb d_L_law_600 rfl (lv_at hl 0 rfl) ?_
  refine lv_iconst (v := 2) hx hb d_L_law_601 (by decide) ?_
  refine lv_iadd hx hb d_L_law_602 ?_
  refine W.eq (g2 := F0 m 603 ls [.int (nI (i + 2)), .ref b, .int (xs (i + 1)), .ref y, .int q1]) (by rw [show nI i + 2 = nI (i + 2) from nI_add i 2]) ?_
  refine va_sld hx hb hX hbl hbA hS (vp_in_nI (by omega) (by omega)) d_L_law_603 ?_
  rw [nI_clamp (by omega)]
  refine h_calli hPm hS hA hP (gw_sym hd) (r_V (rest := [.int q1]) C0 [.int (xs (i + 1)), .int (xs (i + 2))] (k_R_pop l hM0 hO hV hw hn hm rfl rfl rfl (xs (i + 1)) (xs (i + 2))) ml_L_R_pop im_R_pop se_R_R_pop_R ini_R co_R_pop ⟨rfl, hd_R_pop⟩ (g_preV (ci := 5) hK hPm rfl hM.1) hl.1 d_L_law_604 rfl rfl (Nat.le_of_ble_eq_true rfl) ⟨rfl, rfl⟩ ⟨Nat.le_of_ble_eq_true rfl, Nat.le_of_ble_eq_true rfl⟩ ⟨show cells + 0 + 0 ≤ 600000 by omega, show slots + 0 + 0 ≤ 7302250 by omega⟩) (fun q2 Gm1 H locs hq2 hPm hS hP hd2 => ?_)
  obtain ⟨e2, hM1⟩ := hq2
  have hd := gw_sym hd2
  refine lv_icmp_eq (tgt := 1053) hx hb d_L_law_607 (by decide) (fun _ => ?_) (fun z => absurd (e1.trans e2.symm) z)
  have hOK := p_pop_OK hO (xs (i + 1)) (xs (i + 2))
  exact kk _ _ _ _ _ _ _ ⟨hP, hPm, hd, hS, hR1, hM1, hOK.1, p_pop_NV hO hV (xs (i + 1)) (xs (i + 2)), by have := hOK.2; omega, by omega, by omega⟩
set_option maxHeartbeats 4000000 in
set_option maxRecDepth 100000 in
theorem law_12 (l : Launch) (C : lw_At p s m meth c b L xs) (hK : kK D (lw_tys cV cT cI cB cZ) s) (hL : L ≤ 2562) (hw : 128 ≤ w ∧ w ≤ 32768) (hn : 16 ≤ n ∧ n ≤ 4096) (hk : k < 512) (hi : i + 5 ≤ L) (hl : lv_has ls 4 [(3, .int (nI i)), (2, .ref y), (1, .ref x), (0, .ref b)]) (J : lw_J D cV cT cI cB cZ s w n x y k σ Gx Gm H locs cells slots) (kk : ∀ (σ : sS) (Gx Gm : gw_G) (H : Heap) (locs : List Loc) (cells slots : Nat), lw_J D cV cT cI cB cZ s w n x y (k + 1) σ Gx Gm H locs cells slots → W p l e room_1 s m #[Value.ref b] below meth c H locs cells slots Q (F0 m 1053 ls [])) : W p l e room_1 s m #[Value.ref b] below meth c H locs cells slots Q (F0 m 612 ls []) := by
  obtain ⟨hx, hb, hr, hml, hown, hts, hX, hbl, hlocks, hgv⟩ := C
  have ht := fun w (hw : w ∈ gt) => hts w (List.mem_filter.mp hw).1
  have C0 : CallFix p m c code 4 s #[Value.ref b] gt "StackRoomLaw" := ⟨hx, hb, hml, hown, ht⟩
  obtain ⟨hP, hPm, hd, hS, hR0, hM0, hO, hV, hmd, hcl, hsl⟩ := J
  have hbA : ¬ lw_A s b := Nat.not_le.mpr hbl
  have hA : ∀ q, s.heap.size ≤ q → lw_A s q := fun q h => h
  have hm : s_md σ + 2 < 2 ^ 31 := by omega
  obtain ⟨rd, ra, rt, ad, fa, ρ, fr, rr, rf, rc, wl, el, cr, hrd, hR⟩ := id hR0
  obtain ⟨adr, ar, sl, bg, U, r0, r1, r2, r3, hM, hE⟩ := id hM0
  refine lv_aload_n hx hb d_L_law_612 rfl (lv_at hl 2 rfl) ?_
  refine lv_aload_n hx hb d_L_law_613 rfl (lv_at hl 3 rfl) ?_
  refine lv_iload_n hx hb d_L_law_614 rfl (lv_at hl 0 rfl) ?_
  refine lv_iconst (v := 1) hx hb d_L_law_615 (by decide) ?_
  refine lv_iadd hx hb d_L_law_616 ?_
  refine W.eq (g2 := F0 m 617 ls [.int (nI (i + 1)), .ref b, .ref x]) (by rw [show nI i + 1 = nI (i + 1) from nI_add i 1]) ?_
  refine va_sld hx hb hX hbl hbA hS (vp_in_nI (by omega) (by omega)) d_L_law_617 ?_
  rw [nI_clamp (by omega)]
  refine lv_aload_n hx hb d_L_law_618 rfl (lv_at hl 3 rfl) ?_
  refine lv_iload_n hx hb d_L_law_619 rfl (lv_at hl 0 rfl) ?_
  refine lv_iconst (v := 2) hx hb d_L_law_620 (by decide) ?_
  refine lv_iadd hx hb d_L_law_621 ?_
  refine W.eq (g2 := F0 m 622 ls [.int (nI (i + 2)), .ref b, .int (xs (i + 1)), .ref x]) (by rw [show nI i + 2 = nI (i + 2) from nI_add i 2]) ?_
  refine va_sld hx hb hX hbl hbA hS (vp_in_nI (by omega) (by omega)) d_L_law_622 ?_
  rw [nI_clamp (by omega)]
  refine lv_aload_n hx hb d_L_law_623 rfl (lv_at hl 3 rfl) ?_
  refine lv_iload_n hx hb d_L_law_624 rfl (lv_at hl 0 rfl) ?_
  refine lv_iconst (v := 3) hx hb d_L_law_625 (by decide) ?_
  refine lv_iadd hx hb d_L_law_626 ?_
  refine W.eq (g2 := F0 m 627 ls [.int (nI (i + 3)), .ref b, .int (xs (i + 2)), .int (xs (i + 1)), .ref x]) (by rw [show nI i + 3 = nI (i + 3) from nI_add i 3]) ?_
  refine va_sld hx hb hX hbl hbA hS (vp_in_nI (by omega) (by omega)) d_L_law_627 ?_
  rw [nI_clamp (by omega)]
  refine h_calli hP hS hA hPm hd (r_V (rest := []) C0 [.int (xs (i + 1)), .int (xs (i + 2)), .int (xs (i + 3))] (k_S_peek l hR0 hO hw hn hm (by omega) rfl rfl (xs (i + 1)) (xs (i + 2)) (xs (i + 3))) ml_L_S_peek im_S_peek se_S_S_peek_S ini_S co_S_peek ⟨rfl, hd_S_peek⟩ (g_preV (ci := 0) hK hP rfl hR.1) hl.1 d_L_law_628 rfl rfl (Nat.le_of_ble_eq_true rfl) ⟨rfl, rfl⟩ ⟨Nat.le_of_ble_eq_true rfl, Nat.le_of_ble_eq_true rfl⟩ ⟨show cells + 0 ≤ 600000 by omega, show slots + 0 ≤ 7302250 by omega⟩) (fun q1 Gx1 H locs hq1 hP hS hPm hd => ?_)
  obtain ⟨e1, hR1⟩ := hq1
  refine lv_aload_n hx hb d_L_law_631 rfl (lv_at hl 1 rfl) ?_
  refine lv_aload_n hx hb d_L_law_632 rfl (lv_at hl 3 rfl) ?_
  refine lv_iload_n hx hb d_L_law_633 rfl (lv_at hl 0 rfl) ?_
  refine lv_iconst (v := 1) hx hb d_L_law_634 (by decide) ?_
  refine lv_iadd hx hb d_L_law_635 ?_
  refine W.eq (g2 := F0 m 636 ls [.int (nI (i + 1)), .ref b, .ref y, .int q1]) (by rw [show nI i + 1 = nI (i + 1) from nI_add i 1]) ?_
  refine va_sld hx hb hX hbl hbA hS (vp_in_nI (by omega) (by omega)) d_L_law_636 ?_
  rw [nI_clamp (by omega)]
  refine lv_aload_n hx hb d_L_law_637 rfl (lv_at hl 3 rfl) ?_
  refine lv_iload_n hx hb d_L_law_638 rfl (lv_at hl 0 rfl) ?_
  refine lv_iconst (v := 2) hx hb d_L_law_639 (by decide) ?_
  refine lv_iadd hx hb d_L_law_640 ?_
  refine W.eq (g2 := F0 m 641 ls [.int (nI (i + 2)), .ref b, .int (xs (i + 1)), .ref y, .int q1]) (by rw [show nI i + 2 = nI (i + 2) from nI_add i 2]) ?_
  refine va_sld hx hb hX hbl hbA hS (vp_in_nI (by omega) (by omega)) d_L_law_641 ?_
  rw [nI_clamp (by omega)]
  refine lv_aload_n hx hb d_L_law_642 rfl (lv_at hl 3 rfl) ?_
  refine lv_iload_n hx hb d_L_law_643 rfl (lv_at hl 0 rfl) ?_
  refine lv_iconst (v := 3) hx hb d_L_law_644 (by decide) ?_
  refine lv_iadd hx hb d_L_law_645 ?_
  refine W.eq (g2 := F0 m 646 ls [.int (nI (i + 3)), .ref b, .int (xs (i + 2)), .int (xs (i + 1)), .ref y, .int q1]) (by rw [show nI i + 3 = nI (i + 3) from nI_add i 3]) ?_
  refine va_sld hx hb hX hbl hbA hS (vp_in_nI (by omega) (by omega)) d_L_law_646 ?_
  rw [nI_clamp (by omega)]
  refine h_calli hPm hS hA hP (gw_sym hd) (r_V (rest := [.int q1]) C0 [.int (xs (i + 1)), .int (xs (i + 2)), .int (xs (i + 3))] (k_R_peek l hM0 hO hV hw hn hm rfl rfl rfl (xs (i + 1)) (xs (i + 2)) (xs (i + 3))) ml_L_R_peek im_R_peek se_R_R_peek_R ini_R co_R_peek ⟨rfl, hd_R_peek⟩ (g_preV (ci := 5) hK hPm rfl hM.1) hl.1 d_L_law_647 rfl rfl (Nat.le_of_ble_eq_true rfl) ⟨rfl, rfl⟩ ⟨Nat.le_of_ble_eq_true rfl, Nat.le_of_ble_eq_true rfl⟩ ⟨show cells + 0 + 0 ≤ 600000 by omega, show slots + 0 + 0 ≤ 7302250 by omega⟩) (fun q2 Gm1 H locs hq2 hPm hS hP hd2 => ?_)
  obtain ⟨e2, hM1⟩ := hq2
  have hd := gw_sym hd2
  refine lv_icmp_eq (tgt := 1053) hx hb d_L_law_650 (by decide) (fun _ => ?_) (fun z => absurd (e1.trans e2.symm) z)
  have hOK := p_peek_OK hO (xs (i + 1)) (xs (i + 2)) (xs (i + 3))
  exact kk _ _ _ _ _ _ _ ⟨hP, hPm, hd, hS, hR1, hM1, hOK.1, p_peek_NV hO hV (xs (i + 1)) (xs (i + 2)) (xs (i + 3)), by have := hOK.2; omega, by omega, by omega⟩
set_option maxHeartbeats 4000000 in
set_option maxRecDepth 100000 in
theorem law_13 (l : Launch) (C : lw_At p s m meth c b L xs) (hK : kK D (lw_tys cV cT cI cB cZ) s) (hL : L ≤ 2562) (hw : 128 ≤ w ∧ w ≤ 32768) (hn : 16 ≤ n ∧ n ≤ 4096) (hk : k < 512) (hi : i + 5 ≤ L) (hl : lv_has ls 4 [(3, .int (nI i)), (2, .ref y), (1, .ref x), (0, .ref b)]) (J : lw_J D cV cT cI cB cZ s w n x y k σ Gx Gm H locs cells slots) (kk : ∀ (σ : sS) (Gx Gm : gw_G) (H : Heap) (locs : List Loc) (cells slots : Nat), lw_J D cV cT cI cB cZ s w n x y (k + 1) σ Gx Gm H locs cells slots → W p l e room_1 s m #[Value.ref b] below meth c H locs cells slots Q (F0 m 1053 ls [])) : W p l e room_1 s m #[Value.ref b] below meth c H locs cells slots Q (F0 m 655 ls []) := by
  obtain ⟨hx, hb, hr, hml, hown, hts, hX, hbl, hlocks, hgv⟩ := C
  have ht := fun w (hw : w ∈ gt) => hts w (List.mem_filter.mp hw).1
  have C0 : CallFix p m c code 4 s #[Value.ref b] gt "StackRoomLaw" := ⟨hx, hb, hml, hown, ht⟩
  obtain ⟨hP, hPm, hd, hS, hR0, hM0, hO, hV, hmd, hcl, hsl⟩ := J
  have hbA : ¬ lw_A s b := Nat.not_le.mpr hbl
  have hA : ∀ q, s.heap.size ≤ q → lw_A s q := fun q h => h
  have hm : s_md σ + 2 < 2 ^ 31 := by omega
  obtain ⟨rd, ra, rt, ad, fa, ρ, fr, rr, rf, rc, wl, el, cr, hrd, hR⟩ := id hR0
  obtain ⟨adr, ar, sl, bg, U, r0, r1, r2, r3, hM, hE⟩ := id hM0
  refine lv_aload_n hx hb d_L_law_655 rfl (lv_at hl 2 rfl) ?_
  refine lv_aload_n hx hb d_L_law_656 rfl (lv_at hl 3 rfl) ?_
  refine lv_iload_n hx hb d_L_law_657 rfl (lv_at hl 0 rfl) ?_
  refine lv_iconst (v := 1) hx hb d_L_law_658 (by decide) ?_
  refine lv_iadd hx hb d_L_law_659 ?_
  refine W.eq (g2 := F0 m 660 ls [.int (nI (i + 1)), .ref b, .ref x]) (by rw [show nI i + 1 = nI (i + 1) from nI_add i 1]) ?_
  refine va_sld hx hb hX hbl hbA hS (vp_in_nI (by omega) (by omega)) d_L_law_660 ?_
  rw [nI_clamp (by omega)]
  refine lv_aload_n hx hb d_L_law_661 rfl (lv_at hl 3 rfl) ?_
  refine lv_iload_n hx hb d_L_law_662 rfl (lv_at hl 0 rfl) ?_
  refine lv_iconst (v := 2) hx hb d_L_law_663 (by decide) ?_
  refine lv_iadd hx hb d_L_law_664 ?_
  refine W.eq (g2 := F0 m 665 ls [.int (nI (i + 2)), .ref b, .int (xs (i + 1)), .ref x]) (by rw [show nI i + 2 = nI (i + 2) from nI_add i 2]) ?_
  refine va_sld hx hb hX hbl hbA hS (vp_in_nI (by omega) (by omega)) d_L_law_665 ?_
  rw [nI_clamp (by omega)]
  refine h_calli hP hS hA hPm hd (r_V (rest := []) C0 [.int (xs (i + 1)), .int (xs (i + 2))] (k_S_drop l hR0 hO hw hn hm (by omega) rfl rfl (xs (i + 1)) (xs (i + 2))) ml_L_S_drop im_S_drop se_S_S_drop_S ini_S co_S_drop ⟨rfl, hd_S_drop⟩ (g_preV (ci := 0) hK hP rfl hR.1) hl.1 d_L_law_666 rfl rfl (Nat.le_of_ble_eq_true rfl) ⟨rfl, rfl⟩ ⟨Nat.le_of_ble_eq_true rfl, Nat.le_of_ble_eq_true rfl⟩ ⟨show cells + 0 ≤ 600000 by omega, show slots + 0 ≤ 7302250 by omega⟩) (fun q1 Gx1 H locs hq1 hP hS hPm hd => ?_)
  obtain ⟨e1, hR1⟩ := hq1
  refine lv_aload_n hx hb d_L_law_669 rfl (lv_at hl 1 rfl) ?_
  refine lv_aload_n hx hb d_L_law_670 rfl (lv_at hl 3 rfl) ?_
  refine lv_iload_n hx hb d_L_law_671 rfl (lv_at hl 0 rfl) ?_
  refine lv_iconst (v := 1) hx hb d_L_law_672 (by decide) ?_
  refine lv_iadd hx hb d_L_law_673 ?_
  refine W.eq (g2 := F0 m 674 ls [.int (nI (i + 1)), .ref b, .ref y, .int q1]) (by rw [show nI i + 1 = nI (i + 1) from nI_add i 1]) ?_
  refine va_sld hx hb hX hbl hbA hS (vp_in_nI (by omega) (by omega)) d_L_law_674 ?_
  rw [nI_clamp (by omega)]
  refine lv_aload_n hx hb d_L_law_675 rfl (lv_at hl 3 rfl) ?_
  refine lv_iload_n hx hb d_L_law_676 rfl (lv_at hl 0 rfl) ?_
  refine lv_iconst (v := 2) hx hb d_L_law_677 (by decide) ?_
  refine lv_iadd hx hb d_L_law_678 ?_
  refine W.eq (g2 := F0 m 679 ls [.int (nI (i + 2)), .ref b, .int (xs (i + 1)), .ref y, .int q1]) (by rw [show nI i + 2 = nI (i + 2) from nI_add i 2]) ?_
  refine va_sld hx hb hX hbl hbA hS (vp_in_nI (by omega) (by omega)) d_L_law_679 ?_
  rw [nI_clamp (by omega)]
  refine h_calli hPm hS hA hP (gw_sym hd) (r_V (rest := [.int q1]) C0 [.int (xs (i + 1)), .int (xs (i + 2))] (k_R_drop l hM0 hO hV hw hn hm rfl rfl rfl (xs (i + 1)) (xs (i + 2))) ml_L_R_drop im_R_drop se_R_R_drop_R ini_R co_R_drop ⟨rfl, hd_R_drop⟩ (g_preV (ci := 5) hK hPm rfl hM.1) hl.1 d_L_law_680 rfl rfl (Nat.le_of_ble_eq_true rfl) ⟨rfl, rfl⟩ ⟨Nat.le_of_ble_eq_true rfl, Nat.le_of_ble_eq_true rfl⟩ ⟨show cells + 0 + 0 ≤ 600000 by omega, show slots + 0 + 0 ≤ 7302250 by omega⟩) (fun q2 Gm1 H locs hq2 hPm hS hP hd2 => ?_)
  obtain ⟨e2, hM1⟩ := hq2
  have hd := gw_sym hd2
  refine lv_icmp_eq (tgt := 1053) hx hb d_L_law_683 (by decide) (fun _ => ?_) (fun z => absurd (e1.trans e2.symm) z)
  have hOK := p_drop_OK hO (xs (i + 1)) (xs (i + 2))
  exact kk _ _ _ _ _ _ _ ⟨hP, hPm, hd, hS, hR1, hM1, hOK.1, p_drop_NV hV (xs (i + 1)) (xs (i + 2)), by have := hOK.2; omega, by omega, by omega⟩
set_option maxHeartbeats 4000000 in
set_option maxRecDepth 100000 in
theorem law_14 (l : Launch) (C : lw_At p s m meth c b L xs) (hK : kK D (lw_tys cV cT cI cB cZ) s) (hL : L ≤ 2562) (hw : 128 ≤ w ∧ w ≤ 32768) (hn : 16 ≤ n ∧ n ≤ 4096) (hk : k < 512) (hi : i + 5 ≤ L) (hl : lv_has ls 4 [(3, .int (nI i)), (2, .ref y), (1, .ref x), (0, .ref b)]) (J : lw_J D cV cT cI cB cZ s w n x y k σ Gx Gm H locs cells slots) (kk : ∀ (σ : sS) (Gx Gm : gw_G) (H : Heap) (locs : List Loc) (cells slots : Nat), lw_J D cV cT cI cB cZ s w n x y (k + 1) σ Gx Gm H locs cells slots → W p l e room_1 s m #[Value.ref b] below meth c H locs cells slots Q (F0 m 1053 ls [])) : W p l e room_1 s m #[Value.ref b] below meth c H locs cells slots Q (F0 m 688 ls []) := by
  obtain ⟨hx, hb, hr, hml, hown, hts, hX, hbl, hlocks, hgv⟩ := C
  have ht := fun w (hw : w ∈ gt) => hts w (List.mem_filter.mp hw).1
  have C0 : CallFix p m c code 4 s #[Value.ref b] gt "StackRoomLaw" := ⟨hx, hb, hml, hown, ht⟩
  obtain ⟨hP, hPm, hd, hS, hR0, hM0, hO, hV, hmd, hcl, hsl⟩ := J
  have hbA : ¬ lw_A s b := Nat.not_le.mpr hbl
  have hA : ∀ q, s.heap.size ≤ q → lw_A s q := fun q h => h
  have hm : s_md σ + 2 < 2 ^ 31 := by omega
  obtain ⟨rd, ra, rt, ad, fa, ρ, fr, rr, rf, rc, wl, el, cr, hrd, hR⟩ := id hR0
  obtain ⟨adr, ar, sl, bg, U, r0, r1, r2, r3, hM, hE⟩ := id hM0
  refine lv_aload_n hx hb d_L_law_688 rfl (lv_at hl 2 rfl) ?_
  refine lv_aload_n hx hb d_L_law_689 rfl (lv_at hl 3 rfl) ?_
  refine lv_iload_n hx hb d_L_law_690 rfl (lv_at hl 0 rfl) ?_
  refine lv_iconst (v := 1) hx hb d_L_law_691 (by decide) ?_
  refine lv_iadd hx hb d_L_law_692 ?_
  refine W.eq (g2 := F0 m 693 ls [.int (nI (i + 1)), .ref b, .ref x]) (by rw [show nI i + 1 = nI (i + 1) from nI_add i 1]) ?_
  refine va_sld hx hb hX hbl hbA hS (vp_in_nI (by omega) (by omega)) d_L_law_693 ?_
  rw [nI_clamp (by omega)]
  refine vp_callSi (va_Run.run (r_V (rest := []) C0 [.int (xs (i + 1))] (k_S_height l hR0 hO hw hn hm (by omega) rfl rfl (xs (i + 1))) ml_L_S_height im_S_height se_S_S_height_S ini_S co_S_height ⟨rfl, hd_S_height⟩ (g_preV (ci := 0) hK hP rfl hR.1) hl.1 d_L_law_694 rfl rfl (Nat.le_of_ble_eq_true rfl) ⟨rfl, rfl⟩ ⟨Nat.le_of_ble_eq_true rfl, Nat.le_of_ble_eq_true rfl⟩ ⟨show cells + 0 ≤ 600000 by omega, show slots + 0 ≤ 7302250 by omega⟩)) (fun q1 e1 => ?_)
  refine lv_aload_n hx hb d_L_law_697 rfl (lv_at hl 1 rfl) ?_
  refine lv_aload_n hx hb d_L_law_698 rfl (lv_at hl 3 rfl) ?_
  refine lv_iload_n hx hb d_L_law_699 rfl (lv_at hl 0 rfl) ?_
  refine lv_iconst (v := 1) hx hb d_L_law_700 (by decide) ?_
  refine lv_iadd hx hb d_L_law_701 ?_
  refine W.eq (g2 := F0 m 702 ls [.int (nI (i + 1)), .ref b, .ref y, .int q1]) (by rw [show nI i + 1 = nI (i + 1) from nI_add i 1]) ?_
  refine va_sld hx hb hX hbl hbA hS (vp_in_nI (by omega) (by omega)) d_L_law_702 ?_
  rw [nI_clamp (by omega)]
  refine vp_callSi (va_Run.run (r_V (rest := [.int q1]) C0 [.int (xs (i + 1))] (k_R_height l hM0 hO hV hw hn hm rfl rfl rfl (xs (i + 1))) ml_L_R_height im_R_height se_R_R_height_R ini_R co_R_height ⟨rfl, hd_R_height⟩ (g_preV (ci := 5) hK hPm rfl hM.1) hl.1 d_L_law_703 rfl rfl (Nat.le_of_ble_eq_true rfl) ⟨rfl, rfl⟩ ⟨Nat.le_of_ble_eq_true rfl, Nat.le_of_ble_eq_true rfl⟩ ⟨show cells + 0 ≤ 600000 by omega, show slots + 0 ≤ 7302250 by omega⟩)) (fun q2 e2 => ?_)
  refine lv_icmp_eq (tgt := 1053) hx hb d_L_law_706 (by decide) (fun _ => ?_) (fun z => absurd (e1.trans e2.symm) z)
  exact kk _ _ _ _ _ _ _ ⟨hP, hPm, hd, hS, hR0.up, hM0, hO, hV, by omega, by omega, by omega⟩
set_option maxHeartbeats 4000000 in
set_option maxRecDepth 100000 in
theorem law_15 (l : Launch) (C : lw_At p s m meth c b L xs) (hK : kK D (lw_tys cV cT cI cB cZ) s) (hL : L ≤ 2562) (hw : 128 ≤ w ∧ w ≤ 32768) (hn : 16 ≤ n ∧ n ≤ 4096) (hk : k < 512) (hi : i + 5 ≤ L) (hl : lv_has ls 4 [(3, .int (nI i)), (2, .ref y), (1, .ref x), (0, .ref b)]) (J : lw_J D cV cT cI cB cZ s w n x y k σ Gx Gm H locs cells slots) (kk : ∀ (σ : sS) (Gx Gm : gw_G) (H : Heap) (locs : List Loc) (cells slots : Nat), lw_J D cV cT cI cB cZ s w n x y (k + 1) σ Gx Gm H locs cells slots → W p l e room_1 s m #[Value.ref b] below meth c H locs cells slots Q (F0 m 1053 ls [])) : W p l e room_1 s m #[Value.ref b] below meth c H locs cells slots Q (F0 m 711 ls []) := by
  obtain ⟨hx, hb, hr, hml, hown, hts, hX, hbl, hlocks, hgv⟩ := C
  have ht := fun w (hw : w ∈ gt) => hts w (List.mem_filter.mp hw).1
  have C0 : CallFix p m c code 4 s #[Value.ref b] gt "StackRoomLaw" := ⟨hx, hb, hml, hown, ht⟩
  obtain ⟨hP, hPm, hd, hS, hR0, hM0, hO, hV, hmd, hcl, hsl⟩ := J
  have hbA : ¬ lw_A s b := Nat.not_le.mpr hbl
  have hA : ∀ q, s.heap.size ≤ q → lw_A s q := fun q h => h
  have hm : s_md σ + 2 < 2 ^ 31 := by omega
  obtain ⟨rd, ra, rt, ad, fa, ρ, fr, rr, rf, rc, wl, el, cr, hrd, hR⟩ := id hR0
  obtain ⟨adr, ar, sl, bg, U, r0, r1, r2, r3, hM, hE⟩ := id hM0
  refine lv_aload_n hx hb d_L_law_711 rfl (lv_at hl 2 rfl) ?_
  refine lv_aload_n hx hb d_L_law_712 rfl (lv_at hl 3 rfl) ?_
  refine lv_iload_n hx hb d_L_law_713 rfl (lv_at hl 0 rfl) ?_
  refine lv_iconst (v := 1) hx hb d_L_law_714 (by decide) ?_
  refine lv_iadd hx hb d_L_law_715 ?_
  refine W.eq (g2 := F0 m 716 ls [.int (nI (i + 1)), .ref b, .ref x]) (by rw [show nI i + 1 = nI (i + 1) from nI_add i 1]) ?_
  refine va_sld hx hb hX hbl hbA hS (vp_in_nI (by omega) (by omega)) d_L_law_716 ?_
  rw [nI_clamp (by omega)]
  refine vp_callSi (va_Run.run (r_V (rest := []) C0 [.int (xs (i + 1))] (k_S_room l hR0 hO hw hn hm (by omega) rfl rfl (xs (i + 1))) ml_L_S_room im_S_room se_S_S_room_S ini_S co_S_room ⟨rfl, hd_S_room⟩ (g_preV (ci := 0) hK hP rfl hR.1) hl.1 d_L_law_717 rfl rfl (Nat.le_of_ble_eq_true rfl) ⟨rfl, rfl⟩ ⟨Nat.le_of_ble_eq_true rfl, Nat.le_of_ble_eq_true rfl⟩ ⟨show cells + 0 ≤ 600000 by omega, show slots + 0 ≤ 7302250 by omega⟩)) (fun q1 e1 => ?_)
  refine lv_aload_n hx hb d_L_law_720 rfl (lv_at hl 1 rfl) ?_
  refine lv_aload_n hx hb d_L_law_721 rfl (lv_at hl 3 rfl) ?_
  refine lv_iload_n hx hb d_L_law_722 rfl (lv_at hl 0 rfl) ?_
  refine lv_iconst (v := 1) hx hb d_L_law_723 (by decide) ?_
  refine lv_iadd hx hb d_L_law_724 ?_
  refine W.eq (g2 := F0 m 725 ls [.int (nI (i + 1)), .ref b, .ref y, .int q1]) (by rw [show nI i + 1 = nI (i + 1) from nI_add i 1]) ?_
  refine va_sld hx hb hX hbl hbA hS (vp_in_nI (by omega) (by omega)) d_L_law_725 ?_
  rw [nI_clamp (by omega)]
  refine vp_callSi (va_Run.run (r_V (rest := [.int q1]) C0 [.int (xs (i + 1))] (k_R_room l hM0 hO hV hw hn hm rfl rfl rfl (xs (i + 1))) ml_L_R_room im_R_room se_R_R_room_R ini_R co_R_room ⟨rfl, hd_R_room⟩ (g_preV (ci := 5) hK hPm rfl hM.1) hl.1 d_L_law_726 rfl rfl (Nat.le_of_ble_eq_true rfl) ⟨rfl, rfl⟩ ⟨Nat.le_of_ble_eq_true rfl, Nat.le_of_ble_eq_true rfl⟩ ⟨show cells + 0 ≤ 600000 by omega, show slots + 0 ≤ 7302250 by omega⟩)) (fun q2 e2 => ?_)
  refine lv_icmp_eq (tgt := 1053) hx hb d_L_law_729 (by decide) (fun _ => ?_) (fun z => absurd (e1.trans e2.symm) z)
  exact kk _ _ _ _ _ _ _ ⟨hP, hPm, hd, hS, hR0.up, hM0, hO, hV, by omega, by omega, by omega⟩
set_option maxHeartbeats 4000000 in
set_option maxRecDepth 100000 in
theorem law_16 (l : Launch) (C : lw_At p s m meth c b L xs) (hK : kK D (lw_tys cV cT cI cB cZ) s) (hL : L ≤ 2562) (hw : 128 ≤ w ∧ w ≤ 32768) (hn : 16 ≤ n ∧ n ≤ 4096) (hk : k < 512) (hi : i + 5 ≤ L) (hl : lv_has ls 4 [(3, .int (nI i)), (2, .ref y), (1, .ref x), (0, .ref b)]) (J : lw_J D cV cT cI cB cZ s w n x y k σ Gx Gm H locs cells slots) (kk : ∀ (σ : sS) (Gx Gm : gw_G) (H : Heap) (locs : List Loc) (cells slots : Nat), lw_J D cV cT cI cB cZ s w n x y (k + 1) σ Gx Gm H locs cells slots → W p l e room_1 s m #[Value.ref b] below meth c H locs cells slots Q (F0 m 1053 ls [])) : W p l e room_1 s m #[Value.ref b] below meth c H locs cells slots Q (F0 m 734 ls []) := by
  obtain ⟨hx, hb, hr, hml, hown, hts, hX, hbl, hlocks, hgv⟩ := C
  have ht := fun w (hw : w ∈ gt) => hts w (List.mem_filter.mp hw).1
  have C0 : CallFix p m c code 4 s #[Value.ref b] gt "StackRoomLaw" := ⟨hx, hb, hml, hown, ht⟩
  obtain ⟨hP, hPm, hd, hS, hR0, hM0, hO, hV, hmd, hcl, hsl⟩ := J
  have hbA : ¬ lw_A s b := Nat.not_le.mpr hbl
  have hA : ∀ q, s.heap.size ≤ q → lw_A s q := fun q h => h
  have hm : s_md σ + 2 < 2 ^ 31 := by omega
  obtain ⟨rd, ra, rt, ad, fa, ρ, fr, rr, rf, rc, wl, el, cr, hrd, hR⟩ := id hR0
  obtain ⟨adr, ar, sl, bg, U, r0, r1, r2, r3, hM, hE⟩ := id hM0
  refine lv_aload_n hx hb d_L_law_734 rfl (lv_at hl 2 rfl) ?_
  refine lv_aload_n hx hb d_L_law_735 rfl (lv_at hl 3 rfl) ?_
  refine lv_iload_n hx hb d_L_law_736 rfl (lv_at hl 0 rfl) ?_
  refine lv_iconst (v := 1) hx hb d_L_law_737 (by decide) ?_
  refine lv_iadd hx hb d_L_law_738 ?_
  refine W.eq (g2 := F0 m 739 ls [.int (nI (i + 1)), .ref b, .ref x]) (by rw [show nI i + 1 = nI (i + 1) from nI_add i 1]) ?_
  refine va_sld hx hb hX hbl hbA hS (vp_in_nI (by omega) (by omega)) d_L_law_739 ?_
  rw [nI_clamp (by omega)]
  refine vp_callSi (va_Run.run (r_V (rest := []) C0 [.int (xs (i + 1))] (k_S_floor l hR0 hO hw hn hm (by omega) rfl rfl (xs (i + 1))) ml_L_S_floor im_S_floor se_S_S_floor_S ini_S co_S_floor ⟨rfl, hd_S_floor⟩ (g_preV (ci := 0) hK hP rfl hR.1) hl.1 d_L_law_740 rfl rfl (Nat.le_of_ble_eq_true rfl) ⟨rfl, rfl⟩ ⟨Nat.le_of_ble_eq_true rfl, Nat.le_of_ble_eq_true rfl⟩ ⟨show cells + 0 ≤ 600000 by omega, show slots + 0 ≤ 7302250 by omega⟩)) (fun q1 e1 => ?_)
  refine lv_aload_n hx hb d_L_law_743 rfl (lv_at hl 1 rfl) ?_
  refine lv_aload_n hx hb d_L_law_744 rfl (lv_at hl 3 rfl) ?_
  refine lv_iload_n hx hb d_L_law_745 rfl (lv_at hl 0 rfl) ?_
  refine lv_iconst (v := 1) hx hb d_L_law_746 (by decide) ?_
  refine lv_iadd hx hb d_L_law_747 ?_
  refine W.eq (g2 := F0 m 748 ls [.int (nI (i + 1)), .ref b, .ref y, .int q1]) (by rw [show nI i + 1 = nI (i + 1) from nI_add i 1]) ?_
  refine va_sld hx hb hX hbl hbA hS (vp_in_nI (by omega) (by omega)) d_L_law_748 ?_
  rw [nI_clamp (by omega)]
  refine vp_callSi (va_Run.run (r_V (rest := [.int q1]) C0 [.int (xs (i + 1))] (k_R_floor l hM0 hO hV hw hn hm rfl rfl rfl (xs (i + 1))) ml_L_R_floor im_R_floor se_R_R_floor_R ini_R co_R_floor ⟨rfl, hd_R_floor⟩ (g_preV (ci := 5) hK hPm rfl hM.1) hl.1 d_L_law_749 rfl rfl (Nat.le_of_ble_eq_true rfl) ⟨rfl, rfl⟩ ⟨Nat.le_of_ble_eq_true rfl, Nat.le_of_ble_eq_true rfl⟩ ⟨show cells + 0 ≤ 600000 by omega, show slots + 0 ≤ 7302250 by omega⟩)) (fun q2 e2 => ?_)
  refine lv_icmp_eq (tgt := 1053) hx hb d_L_law_752 (by decide) (fun _ => ?_) (fun z => absurd (e1.trans e2.symm) z)
  exact kk _ _ _ _ _ _ _ ⟨hP, hPm, hd, hS, hR0.up, hM0, hO, hV, by omega, by omega, by omega⟩
set_option maxHeartbeats 4000000 in
set_option maxRecDepth 100000 in
theorem law_17 (l : Launch) (C : lw_At p s m meth c b L xs) (hK : kK D (lw_tys cV cT cI cB cZ) s) (hL : L ≤ 2562) (hw : 128 ≤ w ∧ w ≤ 32768) (hn : 16 ≤ n ∧ n ≤ 4096) (hk : k < 512) (hi : i + 5 ≤ L) (hl : lv_has ls 4 [(3, .int (nI i)), (2, .ref y), (1, .ref x), (0, .ref b)]) (J : lw_J D cV cT cI cB cZ s w n x y k σ Gx Gm H locs cells slots) (kk : ∀ (σ : sS) (Gx Gm : gw_G) (H : Heap) (locs : List Loc) (cells slots : Nat), lw_J D cV cT cI cB cZ s w n x y (k + 1) σ Gx Gm H locs cells slots → W p l e room_1 s m #[Value.ref b] below meth c H locs cells slots Q (F0 m 1053 ls [])) : W p l e room_1 s m #[Value.ref b] below meth c H locs cells slots Q (F0 m 757 ls []) := by
  obtain ⟨hx, hb, hr, hml, hown, hts, hX, hbl, hlocks, hgv⟩ := C
  have ht := fun w (hw : w ∈ gt) => hts w (List.mem_filter.mp hw).1
  have C0 : CallFix p m c code 4 s #[Value.ref b] gt "StackRoomLaw" := ⟨hx, hb, hml, hown, ht⟩
  obtain ⟨hP, hPm, hd, hS, hR0, hM0, hO, hV, hmd, hcl, hsl⟩ := J
  have hbA : ¬ lw_A s b := Nat.not_le.mpr hbl
  have hA : ∀ q, s.heap.size ≤ q → lw_A s q := fun q h => h
  have hm : s_md σ + 2 < 2 ^ 31 := by omega
  obtain ⟨rd, ra, rt, ad, fa, ρ, fr, rr, rf, rc, wl, el, cr, hrd, hR⟩ := id hR0
  obtain ⟨adr, ar, sl, bg, U, r0, r1, r2, r3, hM, hE⟩ := id hM0
  refine lv_aload_n hx hb d_L_law_757 rfl (lv_at hl 2 rfl) ?_
  refine lv_aload_n hx hb d_L_law_758 rfl (lv_at hl 3 rfl) ?_
  refine lv_iload_n hx hb d_L_law_759 rfl (lv_at hl 0 rfl) ?_
  refine lv_iconst (v := 1) hx hb d_L_law_760 (by decide) ?_
  refine lv_iadd hx hb d_L_law_761 ?_
  refine W.eq (g2 := F0 m 762 ls [.int (nI (i + 1)), .ref b, .ref x]) (by rw [show nI i + 1 = nI (i + 1) from nI_add i 1]) ?_
  refine va_sld hx hb hX hbl hbA hS (vp_in_nI (by omega) (by omega)) d_L_law_762 ?_
  rw [nI_clamp (by omega)]
  refine vp_callSi (va_Run.run (r_V (rest := []) C0 [.int (xs (i + 1))] (k_S_count l hR0 hO hw hn hm (by omega) rfl rfl (xs (i + 1))) ml_L_S_count im_S_count se_S_S_count_S ini_S co_S_count ⟨rfl, hd_S_count⟩ (g_preV (ci := 0) hK hP rfl hR.1) hl.1 d_L_law_763 rfl rfl (Nat.le_of_ble_eq_true rfl) ⟨rfl, rfl⟩ ⟨Nat.le_of_ble_eq_true rfl, Nat.le_of_ble_eq_true rfl⟩ ⟨show cells + 0 ≤ 600000 by omega, show slots + 0 ≤ 7302250 by omega⟩)) (fun q1 e1 => ?_)
  refine lv_aload_n hx hb d_L_law_766 rfl (lv_at hl 1 rfl) ?_
  refine lv_aload_n hx hb d_L_law_767 rfl (lv_at hl 3 rfl) ?_
  refine lv_iload_n hx hb d_L_law_768 rfl (lv_at hl 0 rfl) ?_
  refine lv_iconst (v := 1) hx hb d_L_law_769 (by decide) ?_
  refine lv_iadd hx hb d_L_law_770 ?_
  refine W.eq (g2 := F0 m 771 ls [.int (nI (i + 1)), .ref b, .ref y, .int q1]) (by rw [show nI i + 1 = nI (i + 1) from nI_add i 1]) ?_
  refine va_sld hx hb hX hbl hbA hS (vp_in_nI (by omega) (by omega)) d_L_law_771 ?_
  rw [nI_clamp (by omega)]
  refine vp_callSi (va_Run.run (r_V (rest := [.int q1]) C0 [.int (xs (i + 1))] (k_R_count l hM0 hO hV hw hn hm rfl rfl rfl (xs (i + 1))) ml_L_R_count im_R_count se_R_R_count_R ini_R co_R_count ⟨rfl, hd_R_count⟩ (g_preV (ci := 5) hK hPm rfl hM.1) hl.1 d_L_law_772 rfl rfl (Nat.le_of_ble_eq_true rfl) ⟨rfl, rfl⟩ ⟨Nat.le_of_ble_eq_true rfl, Nat.le_of_ble_eq_true rfl⟩ ⟨show cells + 0 ≤ 600000 by omega, show slots + 0 ≤ 7302250 by omega⟩)) (fun q2 e2 => ?_)
  refine lv_icmp_eq (tgt := 1053) hx hb d_L_law_775 (by decide) (fun _ => ?_) (fun z => absurd (e1.trans e2.symm) z)
  exact kk _ _ _ _ _ _ _ ⟨hP, hPm, hd, hS, hR0.up, hM0, hO, hV, by omega, by omega, by omega⟩
set_option maxHeartbeats 4000000 in
set_option maxRecDepth 100000 in
theorem law_18 (l : Launch) (C : lw_At p s m meth c b L xs) (hK : kK D (lw_tys cV cT cI cB cZ) s) (hL : L ≤ 2562) (hw : 128 ≤ w ∧ w ≤ 32768) (hn : 16 ≤ n ∧ n ≤ 4096) (hk : k < 512) (hi : i + 5 ≤ L) (hl : lv_has ls 4 [(3, .int (nI i)), (2, .ref y), (1, .ref x), (0, .ref b)]) (J : lw_J D cV cT cI cB cZ s w n x y k σ Gx Gm H locs cells slots) (kk : ∀ (σ : sS) (Gx Gm : gw_G) (H : Heap) (locs : List Loc) (cells slots : Nat), lw_J D cV cT cI cB cZ s w n x y (k + 1) σ Gx Gm H locs cells slots → W p l e room_1 s m #[Value.ref b] below meth c H locs cells slots Q (F0 m 1053 ls [])) : W p l e room_1 s m #[Value.ref b] below meth c H locs cells slots Q (F0 m 780 ls []) := by
  obtain ⟨hx, hb, hr, hml, hown, hts, hX, hbl, hlocks, hgv⟩ := C
  have ht := fun w (hw : w ∈ gt) => hts w (List.mem_filter.mp hw).1
  have C0 : CallFix p m c code 4 s #[Value.ref b] gt "StackRoomLaw" := ⟨hx, hb, hml, hown, ht⟩
  obtain ⟨hP, hPm, hd, hS, hR0, hM0, hO, hV, hmd, hcl, hsl⟩ := J
  have hbA : ¬ lw_A s b := Nat.not_le.mpr hbl
  have hA : ∀ q, s.heap.size ≤ q → lw_A s q := fun q h => h
  have hm : s_md σ + 2 < 2 ^ 31 := by omega
  obtain ⟨rd, ra, rt, ad, fa, ρ, fr, rr, rf, rc, wl, el, cr, hrd, hR⟩ := id hR0
  obtain ⟨adr, ar, sl, bg, U, r0, r1, r2, r3, hM, hE⟩ := id hM0
  refine lv_aload_n hx hb d_L_law_780 rfl (lv_at hl 2 rfl) ?_
  refine lv_aload_n hx hb d_L_law_781 rfl (lv_at hl 3 rfl) ?_
  refine lv_iload_n hx hb d_L_law_782 rfl (lv_at hl 0 rfl) ?_
  refine lv_iconst (v := 1) hx hb d_L_law_783 (by decide) ?_
  refine lv_iadd hx hb d_L_law_784 ?_
  refine W.eq (g2 := F0 m 785 ls [.int (nI (i + 1)), .ref b, .ref x]) (by rw [show nI i + 1 = nI (i + 1) from nI_add i 1]) ?_
  refine va_sld hx hb hX hbl hbA hS (vp_in_nI (by omega) (by omega)) d_L_law_785 ?_
  rw [nI_clamp (by omega)]
  refine lv_aload_n hx hb d_L_law_786 rfl (lv_at hl 3 rfl) ?_
  refine lv_iload_n hx hb d_L_law_787 rfl (lv_at hl 0 rfl) ?_
  refine lv_iconst (v := 2) hx hb d_L_law_788 (by decide) ?_
  refine lv_iadd hx hb d_L_law_789 ?_
  refine W.eq (g2 := F0 m 790 ls [.int (nI (i + 2)), .ref b, .int (xs (i + 1)), .ref x]) (by rw [show nI i + 2 = nI (i + 2) from nI_add i 2]) ?_
  refine va_sld hx hb hX hbl hbA hS (vp_in_nI (by omega) (by omega)) d_L_law_790 ?_
  rw [nI_clamp (by omega)]
  refine h_calli hP hS hA hPm hd (r_V (rest := []) C0 [.int (xs (i + 1)), .int (xs (i + 2))] (k_S_home l hR0 hO hw hn hm (by omega) rfl rfl (xs (i + 1)) (xs (i + 2))) ml_L_S_home im_S_home se_S_S_home_S ini_S co_S_home ⟨rfl, hd_S_home⟩ (g_preV (ci := 0) hK hP rfl hR.1) hl.1 d_L_law_791 rfl rfl (Nat.le_of_ble_eq_true rfl) ⟨rfl, rfl⟩ ⟨Nat.le_of_ble_eq_true rfl, Nat.le_of_ble_eq_true rfl⟩ ⟨show cells + 0 ≤ 600000 by omega, show slots + 0 ≤ 7302250 by omega⟩) (fun q1 Gx1 H locs hq1 hP hS hPm hd => ?_)
  obtain ⟨e1, hR1⟩ := hq1
  refine lv_aload_n hx hb d_L_law_794 rfl (lv_at hl 1 rfl) ?_
  refine lv_aload_n hx hb d_L_law_795 rfl (lv_at hl 3 rfl) ?_
  refine lv_iload_n hx hb d_L_law_796 rfl (lv_at hl 0 rfl) ?_
  refine lv_iconst (v := 1) hx hb d_L_law_797 (by decide) ?_
  refine lv_iadd hx hb d_L_law_798 ?_
  refine W.eq (g2 := F0 m 799 ls [.int (nI (i + 1)), .ref b, .ref y, .int q1]) (by rw [show nI i + 1 = nI (i + 1) from nI_add i 1]) ?_
  refine va_sld hx hb hX hbl hbA hS (vp_in_nI (by omega) (by omega)) d_L_law_799 ?_
  rw [nI_clamp (by omega)]
  refine lv_aload_n hx hb d_L_law_800 rfl (lv_at hl 3 rfl) ?_
  refine lv_iload_n hx hb d_L_law_801 rfl (lv_at hl 0 rfl) ?_
  refine lv_iconst (v := 2) hx hb d_L_law_802 (by decide) ?_
  refine lv_iadd hx hb d_L_law_803 ?_
  refine W.eq (g2 := F0 m 804 ls [.int (nI (i + 2)), .ref b, .int (xs (i + 1)), .ref y, .int q1]) (by rw [show nI i + 2 = nI (i + 2) from nI_add i 2]) ?_
  refine va_sld hx hb hX hbl hbA hS (vp_in_nI (by omega) (by omega)) d_L_law_804 ?_
  rw [nI_clamp (by omega)]
  refine h_calli hPm hS hA hP (gw_sym hd) (r_V (rest := [.int q1]) C0 [.int (xs (i + 1)), .int (xs (i + 2))] (k_R_home l hM0 hO hV hw hn hm rfl rfl rfl (xs (i + 1)) (xs (i + 2))) ml_L_R_home im_R_home se_R_R_home_R ini_R co_R_home ⟨rfl, hd_R_home⟩ (g_preV (ci := 5) hK hPm rfl hM.1) hl.1 d_L_law_805 rfl rfl (Nat.le_of_ble_eq_true rfl) ⟨rfl, rfl⟩ ⟨Nat.le_of_ble_eq_true rfl, Nat.le_of_ble_eq_true rfl⟩ ⟨show cells + 0 + 0 ≤ 600000 by omega, show slots + 0 + 0 ≤ 7302250 by omega⟩) (fun q2 Gm1 H locs hq2 hPm hS hP hd2 => ?_)
  obtain ⟨e2, hM1⟩ := hq2
  have hd := gw_sym hd2
  refine lv_icmp_eq (tgt := 1053) hx hb d_L_law_808 (by decide) (fun _ => ?_) (fun z => absurd (e1.trans e2.symm) z)
  have hOK := p_home_OK hO (xs (i + 1)) (xs (i + 2))
  exact kk _ _ _ _ _ _ _ ⟨hP, hPm, hd, hS, hR1, hM1, hOK.1, p_home_NV hV (xs (i + 1)) (xs (i + 2)), by have := hOK.2; omega, by omega, by omega⟩
set_option maxHeartbeats 4000000 in
set_option maxRecDepth 100000 in
theorem law_19 (l : Launch) (C : lw_At p s m meth c b L xs) (hK : kK D (lw_tys cV cT cI cB cZ) s) (hL : L ≤ 2562) (hw : 128 ≤ w ∧ w ≤ 32768) (hn : 16 ≤ n ∧ n ≤ 4096) (hk : k < 512) (hi : i + 5 ≤ L) (hl : lv_has ls 4 [(3, .int (nI i)), (2, .ref y), (1, .ref x), (0, .ref b)]) (J : lw_J D cV cT cI cB cZ s w n x y k σ Gx Gm H locs cells slots) (kk : ∀ (σ : sS) (Gx Gm : gw_G) (H : Heap) (locs : List Loc) (cells slots : Nat), lw_J D cV cT cI cB cZ s w n x y (k + 1) σ Gx Gm H locs cells slots → W p l e room_1 s m #[Value.ref b] below meth c H locs cells slots Q (F0 m 1053 ls [])) : W p l e room_1 s m #[Value.ref b] below meth c H locs cells slots Q (F0 m 813 ls []) := by
  obtain ⟨hx, hb, hr, hml, hown, hts, hX, hbl, hlocks, hgv⟩ := C
  have ht := fun w (hw : w ∈ gt) => hts w (List.mem_filter.mp hw).1
  have C0 : CallFix p m c code 4 s #[Value.ref b] gt "StackRoomLaw" := ⟨hx, hb, hml, hown, ht⟩
  obtain ⟨hP, hPm, hd, hS, hR0, hM0, hO, hV, hmd, hcl, hsl⟩ := J
  have hbA : ¬ lw_A s b := Nat.not_le.mpr hbl
  have hA : ∀ q, s.heap.size ≤ q → lw_A s q := fun q h => h
  have hm : s_md σ + 2 < 2 ^ 31 := by omega
  obtain ⟨rd, ra, rt, ad, fa, ρ, fr, rr, rf, rc, wl, el, cr, hrd, hR⟩ := id hR0
  obtain ⟨adr, ar, sl, bg, U, r0, r1, r2, r3, hM, hE⟩ := id hM0
  refine lv_aload_n hx hb d_L_law_813 rfl (lv_at hl 2 rfl) ?_
  refine lv_aload_n hx hb d_L_law_814 rfl (lv_at hl 3 rfl) ?_
  refine lv_iload_n hx hb d_L_law_815 rfl (lv_at hl 0 rfl) ?_
  refine lv_iconst (v := 1) hx hb d_L_law_816 (by decide) ?_
  refine lv_iadd hx hb d_L_law_817 ?_
  refine W.eq (g2 := F0 m 818 ls [.int (nI (i + 1)), .ref b, .ref x]) (by rw [show nI i + 1 = nI (i + 1) from nI_add i 1]) ?_
  refine va_sld hx hb hX hbl hbA hS (vp_in_nI (by omega) (by omega)) d_L_law_818 ?_
  rw [nI_clamp (by omega)]
  refine lv_aload_n hx hb d_L_law_819 rfl (lv_at hl 3 rfl) ?_
  refine lv_iload_n hx hb d_L_law_820 rfl (lv_at hl 0 rfl) ?_
  refine lv_iconst (v := 2) hx hb d_L_law_821 (by decide) ?_
  refine lv_iadd hx hb d_L_law_822 ?_
  refine W.eq (g2 := F0 m 823 ls [.int (nI (i + 2)), .ref b, .int (xs (i + 1)), .ref x]) (by rw [show nI i + 2 = nI (i + 2) from nI_add i 2]) ?_
  refine va_sld hx hb hX hbl hbA hS (vp_in_nI (by omega) (by omega)) d_L_law_823 ?_
  rw [nI_clamp (by omega)]
  refine h_calli hP hS hA hPm hd (r_V (rest := []) C0 [.int (xs (i + 1)), .int (xs (i + 2))] (k_S_sender l hR0 hO hw hn hm (by omega) rfl rfl (xs (i + 1)) (xs (i + 2))) ml_L_S_sender im_S_sender se_S_S_sender_S ini_S co_S_sender ⟨rfl, hd_S_sender⟩ (g_preV (ci := 0) hK hP rfl hR.1) hl.1 d_L_law_824 rfl rfl (Nat.le_of_ble_eq_true rfl) ⟨rfl, rfl⟩ ⟨Nat.le_of_ble_eq_true rfl, Nat.le_of_ble_eq_true rfl⟩ ⟨show cells + 0 ≤ 600000 by omega, show slots + 0 ≤ 7302250 by omega⟩) (fun q1 Gx1 H locs hq1 hP hS hPm hd => ?_)
  obtain ⟨e1, hR1⟩ := hq1
  refine lv_aload_n hx hb d_L_law_827 rfl (lv_at hl 1 rfl) ?_
  refine lv_aload_n hx hb d_L_law_828 rfl (lv_at hl 3 rfl) ?_
  refine lv_iload_n hx hb d_L_law_829 rfl (lv_at hl 0 rfl) ?_
  refine lv_iconst (v := 1) hx hb d_L_law_830 (by decide) ?_
  refine lv_iadd hx hb d_L_law_831 ?_
  refine W.eq (g2 := F0 m 832 ls [.int (nI (i + 1)), .ref b, .ref y, .int q1]) (by rw [show nI i + 1 = nI (i + 1) from nI_add i 1]) ?_
  refine va_sld hx hb hX hbl hbA hS (vp_in_nI (by omega) (by omega)) d_L_law_832 ?_
  rw [nI_clamp (by omega)]
  refine lv_aload_n hx hb d_L_law_833 rfl (lv_at hl 3 rfl) ?_
  refine lv_iload_n hx hb d_L_law_834 rfl (lv_at hl 0 rfl) ?_
  refine lv_iconst (v := 2) hx hb d_L_law_835 (by decide) ?_
  refine lv_iadd hx hb d_L_law_836 ?_
  refine W.eq (g2 := F0 m 837 ls [.int (nI (i + 2)), .ref b, .int (xs (i + 1)), .ref y, .int q1]) (by rw [show nI i + 2 = nI (i + 2) from nI_add i 2]) ?_
  refine va_sld hx hb hX hbl hbA hS (vp_in_nI (by omega) (by omega)) d_L_law_837 ?_
  rw [nI_clamp (by omega)]
  refine h_calli hPm hS hA hP (gw_sym hd) (r_V (rest := [.int q1]) C0 [.int (xs (i + 1)), .int (xs (i + 2))] (k_R_sender l hM0 hO hV hw hn hm rfl rfl rfl (xs (i + 1)) (xs (i + 2))) ml_L_R_sender im_R_sender se_R_R_sender_R ini_R co_R_sender ⟨rfl, hd_R_sender⟩ (g_preV (ci := 5) hK hPm rfl hM.1) hl.1 d_L_law_838 rfl rfl (Nat.le_of_ble_eq_true rfl) ⟨rfl, rfl⟩ ⟨Nat.le_of_ble_eq_true rfl, Nat.le_of_ble_eq_true rfl⟩ ⟨show cells + 0 + 0 ≤ 600000 by omega, show slots + 0 + 0 ≤ 7302250 by omega⟩) (fun q2 Gm1 H locs hq2 hPm hS hP hd2 => ?_)
  obtain ⟨e2, hM1⟩ := hq2
  have hd := gw_sym hd2
  refine lv_icmp_eq (tgt := 1053) hx hb d_L_law_841 (by decide) (fun _ => ?_) (fun z => absurd (e1.trans e2.symm) z)
  have hOK := p_sender_OK hO (xs (i + 1)) (xs (i + 2))
  exact kk _ _ _ _ _ _ _ ⟨hP, hPm, hd, hS, hR1, hM1, hOK.1, p_sender_NV hV (xs (i + 1)) (xs (i + 2)), by have := hOK.2; omega, by omega, by omega⟩
set_option maxHeartbeats 4000000 in
set_option maxRecDepth 100000 in
theorem law_20 (l : Launch) (C : lw_At p s m meth c b L xs) (hK : kK D (lw_tys cV cT cI cB cZ) s) (hL : L ≤ 2562) (hw : 128 ≤ w ∧ w ≤ 32768) (hn : 16 ≤ n ∧ n ≤ 4096) (hk : k < 512) (hi : i + 5 ≤ L) (hl : lv_has ls 4 [(3, .int (nI i)), (2, .ref y), (1, .ref x), (0, .ref b)]) (J : lw_J D cV cT cI cB cZ s w n x y k σ Gx Gm H locs cells slots) (kk : ∀ (σ : sS) (Gx Gm : gw_G) (H : Heap) (locs : List Loc) (cells slots : Nat), lw_J D cV cT cI cB cZ s w n x y (k + 1) σ Gx Gm H locs cells slots → W p l e room_1 s m #[Value.ref b] below meth c H locs cells slots Q (F0 m 1053 ls [])) : W p l e room_1 s m #[Value.ref b] below meth c H locs cells slots Q (F0 m 846 ls []) := by
  obtain ⟨hx, hb, hr, hml, hown, hts, hX, hbl, hlocks, hgv⟩ := C
  have ht := fun w (hw : w ∈ gt) => hts w (List.mem_filter.mp hw).1
  have C0 : CallFix p m c code 4 s #[Value.ref b] gt "StackRoomLaw" := ⟨hx, hb, hml, hown, ht⟩
  obtain ⟨hP, hPm, hd, hS, hR0, hM0, hO, hV, hmd, hcl, hsl⟩ := J
  have hbA : ¬ lw_A s b := Nat.not_le.mpr hbl
  have hA : ∀ q, s.heap.size ≤ q → lw_A s q := fun q h => h
  have hm : s_md σ + 2 < 2 ^ 31 := by omega
  obtain ⟨rd, ra, rt, ad, fa, ρ, fr, rr, rf, rc, wl, el, cr, hrd, hR⟩ := id hR0
  obtain ⟨adr, ar, sl, bg, U, r0, r1, r2, r3, hM, hE⟩ := id hM0
  refine lv_aload_n hx hb d_L_law_846 rfl (lv_at hl 2 rfl) ?_
  refine lv_aload_n hx hb d_L_law_847 rfl (lv_at hl 3 rfl) ?_
  refine lv_iload_n hx hb d_L_law_848 rfl (lv_at hl 0 rfl) ?_
  refine lv_iconst (v := 1) hx hb d_L_law_849 (by decide) ?_
  refine lv_iadd hx hb d_L_law_850 ?_
  refine W.eq (g2 := F0 m 851 ls [.int (nI (i + 1)), .ref b, .ref x]) (by rw [show nI i + 1 = nI (i + 1) from nI_add i 1]) ?_
  refine va_sld hx hb hX hbl hbA hS (vp_in_nI (by omega) (by omega)) d_L_law_851 ?_
  rw [nI_clamp (by omega)]
  refine lv_aload_n hx hb d_L_law_852 rfl (lv_at hl 3 rfl) ?_
  refine lv_iload_n hx hb d_L_law_853 rfl (lv_at hl 0 rfl) ?_
  refine lv_iconst (v := 2) hx hb d_L_law_854 (by decide) ?_
  refine lv_iadd hx hb d_L_law_855 ?_
  refine W.eq (g2 := F0 m 856 ls [.int (nI (i + 2)), .ref b, .int (xs (i + 1)), .ref x]) (by rw [show nI i + 2 = nI (i + 2) from nI_add i 2]) ?_
  refine va_sld hx hb hX hbl hbA hS (vp_in_nI (by omega) (by omega)) d_L_law_856 ?_
  rw [nI_clamp (by omega)]
  refine h_calli hP hS hA hPm hd (r_V (rest := []) C0 [.int (xs (i + 1)), .int (xs (i + 2))] (k_S_send l hR0 hO hw hn hm (by omega) rfl rfl (xs (i + 1)) (xs (i + 2))) ml_L_S_send im_S_send se_S_S_send_S ini_S co_S_send ⟨rfl, hd_S_send⟩ (g_preV (ci := 0) hK hP rfl hR.1) hl.1 d_L_law_857 rfl rfl (Nat.le_of_ble_eq_true rfl) ⟨rfl, rfl⟩ ⟨Nat.le_of_ble_eq_true rfl, Nat.le_of_ble_eq_true rfl⟩ ⟨show cells + 0 ≤ 600000 by omega, show slots + 0 ≤ 7302250 by omega⟩) (fun q1 Gx1 H locs hq1 hP hS hPm hd => ?_)
  obtain ⟨e1, hR1⟩ := hq1
  refine lv_aload_n hx hb d_L_law_860 rfl (lv_at hl 1 rfl) ?_
  refine lv_aload_n hx hb d_L_law_861 rfl (lv_at hl 3 rfl) ?_
  refine lv_iload_n hx hb d_L_law_862 rfl (lv_at hl 0 rfl) ?_
  refine lv_iconst (v := 1) hx hb d_L_law_863 (by decide) ?_
  refine lv_iadd hx hb d_L_law_864 ?_
  refine W.eq (g2 := F0 m 865 ls [.int (nI (i + 1)), .ref b, .ref y, .int q1]) (by rw [show nI i + 1 = nI (i + 1) from nI_add i 1]) ?_
  refine va_sld hx hb hX hbl hbA hS (vp_in_nI (by omega) (by omega)) d_L_law_865 ?_
  rw [nI_clamp (by omega)]
  refine lv_aload_n hx hb d_L_law_866 rfl (lv_at hl 3 rfl) ?_
  refine lv_iload_n hx hb d_L_law_867 rfl (lv_at hl 0 rfl) ?_
  refine lv_iconst (v := 2) hx hb d_L_law_868 (by decide) ?_
  refine lv_iadd hx hb d_L_law_869 ?_
  refine W.eq (g2 := F0 m 870 ls [.int (nI (i + 2)), .ref b, .int (xs (i + 1)), .ref y, .int q1]) (by rw [show nI i + 2 = nI (i + 2) from nI_add i 2]) ?_
  refine va_sld hx hb hX hbl hbA hS (vp_in_nI (by omega) (by omega)) d_L_law_870 ?_
  rw [nI_clamp (by omega)]
  refine h_calli hPm hS hA hP (gw_sym hd) (r_V (rest := [.int q1]) C0 [.int (xs (i + 1)), .int (xs (i + 2))] (k_R_send l hM0 hO hV hw hn hm rfl rfl rfl (xs (i + 1)) (xs (i + 2))) ml_L_R_send im_R_send se_R_R_send_R ini_R co_R_send ⟨rfl, hd_R_send⟩ (g_preV (ci := 5) hK hPm rfl hM.1) hl.1 d_L_law_871 rfl rfl (Nat.le_of_ble_eq_true rfl) ⟨rfl, rfl⟩ ⟨Nat.le_of_ble_eq_true rfl, Nat.le_of_ble_eq_true rfl⟩ ⟨show cells + 0 + 0 ≤ 600000 by omega, show slots + 0 + 0 ≤ 7302250 by omega⟩) (fun q2 Gm1 H locs hq2 hPm hS hP hd2 => ?_)
  obtain ⟨e2, hM1⟩ := hq2
  have hd := gw_sym hd2
  refine lv_icmp_eq (tgt := 1053) hx hb d_L_law_874 (by decide) (fun _ => ?_) (fun z => absurd (e1.trans e2.symm) z)
  have hOK := p_send_OK hO (xs (i + 1)) (xs (i + 2))
  exact kk _ _ _ _ _ _ _ ⟨hP, hPm, hd, hS, hR1, hM1, hOK.1, p_send_NV hV (xs (i + 1)) (xs (i + 2)), by have := hOK.2; omega, by omega, by omega⟩
set_option maxHeartbeats 4000000 in
set_option maxRecDepth 100000 in
theorem law_21 (l : Launch) (C : lw_At p s m meth c b L xs) (hK : kK D (lw_tys cV cT cI cB cZ) s) (hL : L ≤ 2562) (hw : 128 ≤ w ∧ w ≤ 32768) (hn : 16 ≤ n ∧ n ≤ 4096) (hk : k < 512) (hi : i + 5 ≤ L) (hl : lv_has ls 4 [(3, .int (nI i)), (2, .ref y), (1, .ref x), (0, .ref b)]) (J : lw_J D cV cT cI cB cZ s w n x y k σ Gx Gm H locs cells slots) (kk : ∀ (σ : sS) (Gx Gm : gw_G) (H : Heap) (locs : List Loc) (cells slots : Nat), lw_J D cV cT cI cB cZ s w n x y (k + 1) σ Gx Gm H locs cells slots → W p l e room_1 s m #[Value.ref b] below meth c H locs cells slots Q (F0 m 1053 ls [])) : W p l e room_1 s m #[Value.ref b] below meth c H locs cells slots Q (F0 m 879 ls []) := by
  obtain ⟨hx, hb, hr, hml, hown, hts, hX, hbl, hlocks, hgv⟩ := C
  have ht := fun w (hw : w ∈ gt) => hts w (List.mem_filter.mp hw).1
  have C0 : CallFix p m c code 4 s #[Value.ref b] gt "StackRoomLaw" := ⟨hx, hb, hml, hown, ht⟩
  obtain ⟨hP, hPm, hd, hS, hR0, hM0, hO, hV, hmd, hcl, hsl⟩ := J
  have hbA : ¬ lw_A s b := Nat.not_le.mpr hbl
  have hA : ∀ q, s.heap.size ≤ q → lw_A s q := fun q h => h
  have hm : s_md σ + 2 < 2 ^ 31 := by omega
  obtain ⟨rd, ra, rt, ad, fa, ρ, fr, rr, rf, rc, wl, el, cr, hrd, hR⟩ := id hR0
  obtain ⟨adr, ar, sl, bg, U, r0, r1, r2, r3, hM, hE⟩ := id hM0
  by_cases hz : xs (i + 2) = 0
  · refine lv_aload_n hx hb d_L_law_879 rfl (lv_at hl 2 rfl) ?_
    refine lv_aload_n hx hb d_L_law_880 rfl (lv_at hl 3 rfl) ?_
    refine lv_iload_n hx hb d_L_law_881 rfl (lv_at hl 0 rfl) ?_
    refine lv_iconst (v := 1) hx hb d_L_law_882 (by decide) ?_
    refine lv_iadd hx hb d_L_law_883 ?_
    refine W.eq (g2 := F0 m 884 ls [.int (nI (i + 1)), .ref b, .ref x]) (by rw [show nI i + 1 = nI (i + 1) from nI_add i 1]) ?_
    refine va_sld hx hb hX hbl hbA hS (vp_in_nI (by omega) (by omega)) d_L_law_884 ?_
    rw [nI_clamp (by omega)]
    refine lv_aload_n hx hb d_L_law_885 rfl (lv_at hl 3 rfl) ?_
    refine lv_iload_n hx hb d_L_law_886 rfl (lv_at hl 0 rfl) ?_
    refine lv_iconst (v := 2) hx hb d_L_law_887 (by decide) ?_
    refine lv_iadd hx hb d_L_law_888 ?_
    refine W.eq (g2 := F0 m 889 ls [.int (nI (i + 2)), .ref b, .int (xs (i + 1)), .ref x]) (by rw [show nI i + 2 = nI (i + 2) from nI_add i 2]) ?_
    refine va_sld hx hb hX hbl hbA hS (vp_in_nI (by omega) (by omega)) d_L_law_889 ?_
    rw [nI_clamp (by omega)]
    refine lv_if_eq (tgt := 897) hx hb d_L_law_890 (by decide) (fun _ => ?_) (fun z => absurd hz z)
    refine lv_iconst (v := 0) hx hb d_L_law_897 (by decide) ?_
    refine h_calli hP hS hA hPm hd (r_V (rest := []) C0 [.int (xs (i + 1)), .int 0] (k_S_kill l hR0 hO hw hn hm (by omega) rfl rfl (xs (i + 1)) 0 (Or.inl rfl)) ml_L_S_kill im_S_kill se_S_S_kill_S ini_S co_S_kill ⟨rfl, hd_S_kill⟩ (g_preV (ci := 0) hK hP rfl hR.1) hl.1 d_L_law_898 rfl rfl (Nat.le_of_ble_eq_true rfl) ⟨rfl, rfl⟩ ⟨Nat.le_of_ble_eq_true rfl, Nat.le_of_ble_eq_true rfl⟩ ⟨show cells + 0 ≤ 600000 by omega, show slots + 0 ≤ 7302250 by omega⟩) (fun q1 Gx1 H locs hq1 hP hS hPm hd => ?_)
    obtain ⟨e1, hR1⟩ := hq1
    refine lv_aload_n hx hb d_L_law_901 rfl (lv_at hl 1 rfl) ?_
    refine lv_aload_n hx hb d_L_law_902 rfl (lv_at hl 3 rfl) ?_
    refine lv_iload_n hx hb d_L_law_903 rfl (lv_at hl 0 rfl) ?_
    refine lv_iconst (v := 1) hx hb d_L_law_904 (by decide) ?_
    refine lv_iadd hx hb d_L_law_905 ?_
    refine W.eq (g2 := F0 m 906 ls [.int (nI (i + 1)), .ref b, .ref y, .int q1]) (by rw [show nI i + 1 = nI (i + 1) from nI_add i 1]) ?_
    refine va_sld hx hb hX hbl hbA hS (vp_in_nI (by omega) (by omega)) d_L_law_906 ?_
    rw [nI_clamp (by omega)]
    refine lv_aload_n hx hb d_L_law_907 rfl (lv_at hl 3 rfl) ?_
    refine lv_iload_n hx hb d_L_law_908 rfl (lv_at hl 0 rfl) ?_
    refine lv_iconst (v := 2) hx hb d_L_law_909 (by decide) ?_
    refine lv_iadd hx hb d_L_law_910 ?_
    refine W.eq (g2 := F0 m 911 ls [.int (nI (i + 2)), .ref b, .int (xs (i + 1)), .ref y, .int q1]) (by rw [show nI i + 2 = nI (i + 2) from nI_add i 2]) ?_
    refine va_sld hx hb hX hbl hbA hS (vp_in_nI (by omega) (by omega)) d_L_law_911 ?_
    rw [nI_clamp (by omega)]
    refine lv_if_eq (tgt := 919) hx hb d_L_law_912 (by decide) (fun _ => ?_) (fun z => absurd hz z)
    refine lv_iconst (v := 0) hx hb d_L_law_919 (by decide) ?_
    refine h_calli hPm hS hA hP (gw_sym hd) (r_V (rest := [.int q1]) C0 [.int (xs (i + 1)), .int 0] (k_R_kill l hM0 hO hV hw hn hm rfl rfl rfl (xs (i + 1)) 0 (Or.inl rfl)) ml_L_R_kill im_R_kill se_R_R_kill_R ini_R co_R_kill ⟨rfl, hd_R_kill⟩ (g_preV (ci := 5) hK hPm rfl hM.1) hl.1 d_L_law_920 rfl rfl (Nat.le_of_ble_eq_true rfl) ⟨rfl, rfl⟩ ⟨Nat.le_of_ble_eq_true rfl, Nat.le_of_ble_eq_true rfl⟩ ⟨show cells + 0 + 0 ≤ 600000 by omega, show slots + 0 + 0 ≤ 7302250 by omega⟩) (fun q2 Gm1 H locs hq2 hPm hS hP hd2 => ?_)
    obtain ⟨e2, hM1⟩ := hq2
    have hd := gw_sym hd2
    refine lv_icmp_eq (tgt := 1053) hx hb d_L_law_923 (by decide) (fun _ => ?_) (fun z => absurd (e1.trans e2.symm) z)
    have hOK := p_kill_OK hO (xs (i + 1)) 0 (Or.inl rfl)
    exact kk _ _ _ _ _ _ _ ⟨hP, hPm, hd, hS, hR1, hM1, hOK.1, p_kill_NV hV (xs (i + 1)) 0, by have := hOK.2; omega, by omega, by omega⟩
  · refine lv_aload_n hx hb d_L_law_879 rfl (lv_at hl 2 rfl) ?_
    refine lv_aload_n hx hb d_L_law_880 rfl (lv_at hl 3 rfl) ?_
    refine lv_iload_n hx hb d_L_law_881 rfl (lv_at hl 0 rfl) ?_
    refine lv_iconst (v := 1) hx hb d_L_law_882 (by decide) ?_
    refine lv_iadd hx hb d_L_law_883 ?_
    refine W.eq (g2 := F0 m 884 ls [.int (nI (i + 1)), .ref b, .ref x]) (by rw [show nI i + 1 = nI (i + 1) from nI_add i 1]) ?_
    refine va_sld hx hb hX hbl hbA hS (vp_in_nI (by omega) (by omega)) d_L_law_884 ?_
    rw [nI_clamp (by omega)]
    refine lv_aload_n hx hb d_L_law_885 rfl (lv_at hl 3 rfl) ?_
    refine lv_iload_n hx hb d_L_law_886 rfl (lv_at hl 0 rfl) ?_
    refine lv_iconst (v := 2) hx hb d_L_law_887 (by decide) ?_
    refine lv_iadd hx hb d_L_law_888 ?_
    refine W.eq (g2 := F0 m 889 ls [.int (nI (i + 2)), .ref b, .int (xs (i + 1)), .ref x]) (by rw [show nI i + 2 = nI (i + 2) from nI_add i 2]) ?_
    refine va_sld hx hb hX hbl hbA hS (vp_in_nI (by omega) (by omega)) d_L_law_889 ?_
    rw [nI_clamp (by omega)]
    refine lv_if_eq (tgt := 897) hx hb d_L_law_890 (by decide) (fun z => absurd z hz) (fun _ => ?_)
    refine lv_iconst (v := 1) hx hb d_L_law_893 (by decide) ?_
    refine lv_goto (tgt := 898) hx hb d_L_law_894 (by decide) ?_
    refine h_calli hP hS hA hPm hd (r_V (rest := []) C0 [.int (xs (i + 1)), .int 1] (k_S_kill l hR0 hO hw hn hm (by omega) rfl rfl (xs (i + 1)) 1 (Or.inr rfl)) ml_L_S_kill im_S_kill se_S_S_kill_S ini_S co_S_kill ⟨rfl, hd_S_kill⟩ (g_preV (ci := 0) hK hP rfl hR.1) hl.1 d_L_law_898 rfl rfl (Nat.le_of_ble_eq_true rfl) ⟨rfl, rfl⟩ ⟨Nat.le_of_ble_eq_true rfl, Nat.le_of_ble_eq_true rfl⟩ ⟨show cells + 0 ≤ 600000 by omega, show slots + 0 ≤ 7302250 by omega⟩) (fun q1 Gx1 H locs hq1 hP hS hPm hd => ?_)
    obtain ⟨e1, hR1⟩ := hq1
    refine lv_aload_n hx hb d_L_law_901 rfl (lv_at hl 1 rfl) ?_
    refine lv_aload_n hx hb d_L_law_902 rfl (lv_at hl 3 rfl) ?_
    refine lv_iload_n hx hb d_L_law_903 rfl (lv_at hl 0 rfl) ?_
    refine lv_iconst (v := 1) hx hb d_L_law_904 (by decide) ?_
    refine lv_iadd hx hb d_L_law_905 ?_
    refine W.eq (g2 := F0 m 906 ls [.int (nI (i + 1)), .ref b, .ref y, .int q1]) (by rw [show nI i + 1 = nI (i + 1) from nI_add i 1]) ?_
    refine va_sld hx hb hX hbl hbA hS (vp_in_nI (by omega) (by omega)) d_L_law_906 ?_
    rw [nI_clamp (by omega)]
    refine lv_aload_n hx hb d_L_law_907 rfl (lv_at hl 3 rfl) ?_
    refine lv_iload_n hx hb d_L_law_908 rfl (lv_at hl 0 rfl) ?_
    refine lv_iconst (v := 2) hx hb d_L_law_909 (by decide) ?_
    refine lv_iadd hx hb d_L_law_910 ?_
    refine W.eq (g2 := F0 m 911 ls [.int (nI (i + 2)), .ref b, .int (xs (i + 1)), .ref y, .int q1]) (by rw [show nI i + 2 = nI (i + 2) from nI_add i 2]) ?_
    refine va_sld hx hb hX hbl hbA hS (vp_in_nI (by omega) (by omega)) d_L_law_911 ?_
    rw [nI_clamp (by omega)]
    refine lv_if_eq (tgt := 919) hx hb d_L_law_912 (by decide) (fun z => absurd z hz) (fun _ => ?_)
    refine lv_iconst (v := 1) hx hb d_L_law_915 (by decide) ?_
    refine lv_goto (tgt := 920) hx hb d_L_law_916 (by decide) ?_
    refine h_calli hPm hS hA hP (gw_sym hd) (r_V (rest := [.int q1]) C0 [.int (xs (i + 1)), .int 1] (k_R_kill l hM0 hO hV hw hn hm rfl rfl rfl (xs (i + 1)) 1 (Or.inr rfl)) ml_L_R_kill im_R_kill se_R_R_kill_R ini_R co_R_kill ⟨rfl, hd_R_kill⟩ (g_preV (ci := 5) hK hPm rfl hM.1) hl.1 d_L_law_920 rfl rfl (Nat.le_of_ble_eq_true rfl) ⟨rfl, rfl⟩ ⟨Nat.le_of_ble_eq_true rfl, Nat.le_of_ble_eq_true rfl⟩ ⟨show cells + 0 + 0 ≤ 600000 by omega, show slots + 0 + 0 ≤ 7302250 by omega⟩) (fun q2 Gm1 H locs hq2 hPm hS hP hd2 => ?_)
    obtain ⟨e2, hM1⟩ := hq2
    have hd := gw_sym hd2
    refine lv_icmp_eq (tgt := 1053) hx hb d_L_law_923 (by decide) (fun _ => ?_) (fun z => absurd (e1.trans e2.symm) z)
    have hOK := p_kill_OK hO (xs (i + 1)) 1 (Or.inr rfl)
    exact kk _ _ _ _ _ _ _ ⟨hP, hPm, hd, hS, hR1, hM1, hOK.1, p_kill_NV hV (xs (i + 1)) 1, by have := hOK.2; omega, by omega, by omega⟩
set_option maxHeartbeats 4000000 in
set_option maxRecDepth 100000 in
theorem law_22 (l : Launch) (C : lw_At p s m meth c b L xs) (hK : kK D (lw_tys cV cT cI cB cZ) s) (hL : L ≤ 2562) (hw : 128 ≤ w ∧ w ≤ 32768) (hn : 16 ≤ n ∧ n ≤ 4096) (hk : k < 512) (hi : i + 5 ≤ L) (hl : lv_has ls 4 [(3, .int (nI i)), (2, .ref y), (1, .ref x), (0, .ref b)]) (J : lw_J D cV cT cI cB cZ s w n x y k σ Gx Gm H locs cells slots) (kk : ∀ (σ : sS) (Gx Gm : gw_G) (H : Heap) (locs : List Loc) (cells slots : Nat), lw_J D cV cT cI cB cZ s w n x y (k + 1) σ Gx Gm H locs cells slots → W p l e room_1 s m #[Value.ref b] below meth c H locs cells slots Q (F0 m 1053 ls [])) : W p l e room_1 s m #[Value.ref b] below meth c H locs cells slots Q (F0 m 928 ls []) := by
  obtain ⟨hx, hb, hr, hml, hown, hts, hX, hbl, hlocks, hgv⟩ := C
  have ht := fun w (hw : w ∈ gt) => hts w (List.mem_filter.mp hw).1
  have C0 : CallFix p m c code 4 s #[Value.ref b] gt "StackRoomLaw" := ⟨hx, hb, hml, hown, ht⟩
  obtain ⟨hP, hPm, hd, hS, hR0, hM0, hO, hV, hmd, hcl, hsl⟩ := J
  have hbA : ¬ lw_A s b := Nat.not_le.mpr hbl
  have hA : ∀ q, s.heap.size ≤ q → lw_A s q := fun q h => h
  have hm : s_md σ + 2 < 2 ^ 31 := by omega
  obtain ⟨rd, ra, rt, ad, fa, ρ, fr, rr, rf, rc, wl, el, cr, hrd, hR⟩ := id hR0
  obtain ⟨adr, ar, sl, bg, U, r0, r1, r2, r3, hM, hE⟩ := id hM0
  refine lv_aload_n hx hb d_L_law_928 rfl (lv_at hl 2 rfl) ?_
  refine lv_aload_n hx hb d_L_law_929 rfl (lv_at hl 3 rfl) ?_
  refine lv_iload_n hx hb d_L_law_930 rfl (lv_at hl 0 rfl) ?_
  refine lv_iconst (v := 1) hx hb d_L_law_931 (by decide) ?_
  refine lv_iadd hx hb d_L_law_932 ?_
  refine W.eq (g2 := F0 m 933 ls [.int (nI (i + 1)), .ref b, .ref x]) (by rw [show nI i + 1 = nI (i + 1) from nI_add i 1]) ?_
  refine va_sld hx hb hX hbl hbA hS (vp_in_nI (by omega) (by omega)) d_L_law_933 ?_
  rw [nI_clamp (by omega)]
  refine lv_aload_n hx hb d_L_law_934 rfl (lv_at hl 3 rfl) ?_
  refine lv_iload_n hx hb d_L_law_935 rfl (lv_at hl 0 rfl) ?_
  refine lv_iconst (v := 2) hx hb d_L_law_936 (by decide) ?_
  refine lv_iadd hx hb d_L_law_937 ?_
  refine W.eq (g2 := F0 m 938 ls [.int (nI (i + 2)), .ref b, .int (xs (i + 1)), .ref x]) (by rw [show nI i + 2 = nI (i + 2) from nI_add i 2]) ?_
  refine va_sld hx hb hX hbl hbA hS (vp_in_nI (by omega) (by omega)) d_L_law_938 ?_
  rw [nI_clamp (by omega)]
  refine lv_aload_n hx hb d_L_law_939 rfl (lv_at hl 3 rfl) ?_
  refine lv_iload_n hx hb d_L_law_940 rfl (lv_at hl 0 rfl) ?_
  refine lv_iconst (v := 3) hx hb d_L_law_941 (by decide) ?_
  refine lv_iadd hx hb d_L_law_942 ?_
  refine W.eq (g2 := F0 m 943 ls [.int (nI (i + 3)), .ref b, .int (xs (i + 2)), .int (xs (i + 1)), .ref x]) (by rw [show nI i + 3 = nI (i + 3) from nI_add i 3]) ?_
  refine va_sld hx hb hX hbl hbA hS (vp_in_nI (by omega) (by omega)) d_L_law_943 ?_
  rw [nI_clamp (by omega)]
  refine h_calli hP hS hA hPm hd (r_V (rest := []) C0 [.int (xs (i + 1)), .int (xs (i + 2)), .int (xs (i + 3))] (k_S_temporary l hR0 hO hw hn hm (by omega) rfl rfl (xs (i + 1)) (xs (i + 2)) (xs (i + 3))) ml_L_S_temporary im_S_temporary se_S_S_temporary_S ini_S co_S_temporary ⟨rfl, hd_S_temporary⟩ (g_preV (ci := 0) hK hP rfl hR.1) hl.1 d_L_law_944 rfl rfl (Nat.le_of_ble_eq_true rfl) ⟨rfl, rfl⟩ ⟨Nat.le_of_ble_eq_true rfl, Nat.le_of_ble_eq_true rfl⟩ ⟨show cells + 0 ≤ 600000 by omega, show slots + 0 ≤ 7302250 by omega⟩) (fun q1 Gx1 H locs hq1 hP hS hPm hd => ?_)
  obtain ⟨e1, hR1⟩ := hq1
  refine lv_aload_n hx hb d_L_law_947 rfl (lv_at hl 1 rfl) ?_
  refine lv_aload_n hx hb d_L_law_948 rfl (lv_at hl 3 rfl) ?_
  refine lv_iload_n hx hb d_L_law_949 rfl (lv_at hl 0 rfl) ?_
  refine lv_iconst (v := 1) hx hb d_L_law_950 (by decide) ?_
  refine lv_iadd hx hb d_L_law_951 ?_
  refine W.eq (g2 := F0 m 952 ls [.int (nI (i + 1)), .ref b, .ref y, .int q1]) (by rw [show nI i + 1 = nI (i + 1) from nI_add i 1]) ?_
  refine va_sld hx hb hX hbl hbA hS (vp_in_nI (by omega) (by omega)) d_L_law_952 ?_
  rw [nI_clamp (by omega)]
  refine lv_aload_n hx hb d_L_law_953 rfl (lv_at hl 3 rfl) ?_
  refine lv_iload_n hx hb d_L_law_954 rfl (lv_at hl 0 rfl) ?_
  refine lv_iconst (v := 2) hx hb d_L_law_955 (by decide) ?_
  refine lv_iadd hx hb d_L_law_956 ?_
  refine W.eq (g2 := F0 m 957 ls [.int (nI (i + 2)), .ref b, .int (xs (i + 1)), .ref y, .int q1]) (by rw [show nI i + 2 = nI (i + 2) from nI_add i 2]) ?_
  refine va_sld hx hb hX hbl hbA hS (vp_in_nI (by omega) (by omega)) d_L_law_957 ?_
  rw [nI_clamp (by omega)]
  refine lv_aload_n hx hb d_L_law_958 rfl (lv_at hl 3 rfl) ?_
  refine lv_iload_n hx hb d_L_law_959 rfl (lv_at hl 0 rfl) ?_
  refine lv_iconst (v := 3) hx hb d_L_law_960 (by decide) ?_
  refine lv_iadd hx hb d_L_law_961 ?_
  refine W.eq (g2 := F0 m 962 ls [.int (nI (i + 3)), .ref b, .int (xs (i + 2)), .int (xs (i + 1)), .ref y, .int q1]) (by rw [show nI i + 3 = nI (i + 3) from nI_add i 3]) ?_
  refine va_sld hx hb hX hbl hbA hS (vp_in_nI (by omega) (by omega)) d_L_law_962 ?_
  rw [nI_clamp (by omega)]
  refine h_calli hPm hS hA hP (gw_sym hd) (r_V (rest := [.int q1]) C0 [.int (xs (i + 1)), .int (xs (i + 2)), .int (xs (i + 3))] (k_R_temporary l hM0 hO hV hw hn hm rfl rfl rfl (xs (i + 1)) (xs (i + 2)) (xs (i + 3))) ml_L_R_temporary im_R_temporary se_R_R_temporary_R ini_R co_R_temporary ⟨rfl, hd_R_temporary⟩ (g_preV (ci := 5) hK hPm rfl hM.1) hl.1 d_L_law_963 rfl rfl (Nat.le_of_ble_eq_true rfl) ⟨rfl, rfl⟩ ⟨Nat.le_of_ble_eq_true rfl, Nat.le_of_ble_eq_true rfl⟩ ⟨show cells + 0 + 0 ≤ 600000 by omega, show slots + 0 + 0 ≤ 7302250 by omega⟩) (fun q2 Gm1 H locs hq2 hPm hS hP hd2 => ?_)
  obtain ⟨e2, hM1⟩ := hq2
  have hd := gw_sym hd2
  refine lv_icmp_eq (tgt := 1053) hx hb d_L_law_966 (by decide) (fun _ => ?_) (fun z => absurd (e1.trans e2.symm) z)
  have hOK := p_temporary_OK hO (xs (i + 1)) (xs (i + 2)) (xs (i + 3))
  exact kk _ _ _ _ _ _ _ ⟨hP, hPm, hd, hS, hR1, hM1, hOK.1, p_temporary_NV hO hV (xs (i + 1)) (xs (i + 2)) (xs (i + 3)), by have := hOK.2; omega, by omega, by omega⟩
set_option maxHeartbeats 4000000 in
set_option maxRecDepth 100000 in
theorem law_23 (l : Launch) (C : lw_At p s m meth c b L xs) (hK : kK D (lw_tys cV cT cI cB cZ) s) (hL : L ≤ 2562) (hw : 128 ≤ w ∧ w ≤ 32768) (hn : 16 ≤ n ∧ n ≤ 4096) (hk : k < 512) (hi : i + 5 ≤ L) (hl : lv_has ls 4 [(3, .int (nI i)), (2, .ref y), (1, .ref x), (0, .ref b)]) (J : lw_J D cV cT cI cB cZ s w n x y k σ Gx Gm H locs cells slots) (kk : ∀ (σ : sS) (Gx Gm : gw_G) (H : Heap) (locs : List Loc) (cells slots : Nat), lw_J D cV cT cI cB cZ s w n x y (k + 1) σ Gx Gm H locs cells slots → W p l e room_1 s m #[Value.ref b] below meth c H locs cells slots Q (F0 m 1053 ls [])) : W p l e room_1 s m #[Value.ref b] below meth c H locs cells slots Q (F0 m 971 ls []) := by
  obtain ⟨hx, hb, hr, hml, hown, hts, hX, hbl, hlocks, hgv⟩ := C
  have ht := fun w (hw : w ∈ gt) => hts w (List.mem_filter.mp hw).1
  have C0 : CallFix p m c code 4 s #[Value.ref b] gt "StackRoomLaw" := ⟨hx, hb, hml, hown, ht⟩
  obtain ⟨hP, hPm, hd, hS, hR0, hM0, hO, hV, hmd, hcl, hsl⟩ := J
  have hbA : ¬ lw_A s b := Nat.not_le.mpr hbl
  have hA : ∀ q, s.heap.size ≤ q → lw_A s q := fun q h => h
  have hm : s_md σ + 2 < 2 ^ 31 := by omega
  obtain ⟨rd, ra, rt, ad, fa, ρ, fr, rr, rf, rc, wl, el, cr, hrd, hR⟩ := id hR0
  obtain ⟨adr, ar, sl, bg, U, r0, r1, r2, r3, hM, hE⟩ := id hM0
  refine lv_aload_n hx hb d_L_law_971 rfl (lv_at hl 2 rfl) ?_
  refine lv_aload_n hx hb d_L_law_972 rfl (lv_at hl 3 rfl) ?_
  refine lv_iload_n hx hb d_L_law_973 rfl (lv_at hl 0 rfl) ?_
  refine lv_iconst (v := 1) hx hb d_L_law_974 (by decide) ?_
  refine lv_iadd hx hb d_L_law_975 ?_
  refine W.eq (g2 := F0 m 976 ls [.int (nI (i + 1)), .ref b, .ref x]) (by rw [show nI i + 1 = nI (i + 1) from nI_add i 1]) ?_
  refine va_sld hx hb hX hbl hbA hS (vp_in_nI (by omega) (by omega)) d_L_law_976 ?_
  rw [nI_clamp (by omega)]
  refine lv_aload_n hx hb d_L_law_977 rfl (lv_at hl 3 rfl) ?_
  refine lv_iload_n hx hb d_L_law_978 rfl (lv_at hl 0 rfl) ?_
  refine lv_iconst (v := 2) hx hb d_L_law_979 (by decide) ?_
  refine lv_iadd hx hb d_L_law_980 ?_
  refine W.eq (g2 := F0 m 981 ls [.int (nI (i + 2)), .ref b, .int (xs (i + 1)), .ref x]) (by rw [show nI i + 2 = nI (i + 2) from nI_add i 2]) ?_
  refine va_sld hx hb hX hbl hbA hS (vp_in_nI (by omega) (by omega)) d_L_law_981 ?_
  rw [nI_clamp (by omega)]
  refine lv_aload_n hx hb d_L_law_982 rfl (lv_at hl 3 rfl) ?_
  refine lv_iload_n hx hb d_L_law_983 rfl (lv_at hl 0 rfl) ?_
  refine lv_iconst (v := 3) hx hb d_L_law_984 (by decide) ?_
  refine lv_iadd hx hb d_L_law_985 ?_
  refine W.eq (g2 := F0 m 986 ls [.int (nI (i + 3)), .ref b, .int (xs (i + 2)), .int (xs (i + 1)), .ref x]) (by rw [show nI i + 3 = nI (i + 3) from nI_add i 3]) ?_
  refine va_sld hx hb hX hbl hbA hS (vp_in_nI (by omega) (by omega)) d_L_law_986 ?_
  rw [nI_clamp (by omega)]
  refine h_calli hP hS hA hPm hd (r_V (rest := []) C0 [.int (xs (i + 1)), .int (xs (i + 2)), .int (xs (i + 3))] (k_S_keep l hR0 hO hw hn hm (by omega) rfl rfl (xs (i + 1)) (xs (i + 2)) (xs (i + 3))) ml_L_S_keep im_S_keep se_S_S_keep_S ini_S co_S_keep ⟨rfl, hd_S_keep⟩ (g_preV (ci := 0) hK hP rfl hR.1) hl.1 d_L_law_987 rfl rfl (Nat.le_of_ble_eq_true rfl) ⟨rfl, rfl⟩ ⟨Nat.le_of_ble_eq_true rfl, Nat.le_of_ble_eq_true rfl⟩ ⟨show cells + 0 ≤ 600000 by omega, show slots + 0 ≤ 7302250 by omega⟩) (fun q1 Gx1 H locs hq1 hP hS hPm hd => ?_)
  obtain ⟨e1, hR1⟩ := hq1
  refine lv_aload_n hx hb d_L_law_990 rfl (lv_at hl 1 rfl) ?_
  refine lv_aload_n hx hb d_L_law_991 rfl (lv_at hl 3 rfl) ?_
  refine lv_iload_n hx hb d_L_law_992 rfl (lv_at hl 0 rfl) ?_
  refine lv_iconst (v := 1) hx hb d_L_law_993 (by decide) ?_
  refine lv_iadd hx hb d_L_law_994 ?_
  refine W.eq (g2 := F0 m 995 ls [.int (nI (i + 1)), .ref b, .ref y, .int q1]) (by rw [show nI i + 1 = nI (i + 1) from nI_add i 1]) ?_
  refine va_sld hx hb hX hbl hbA hS (vp_in_nI (by omega) (by omega)) d_L_law_995 ?_
  rw [nI_clamp (by omega)]
  refine lv_aload_n hx hb d_L_law_996 rfl (lv_at hl 3 rfl) ?_
  refine lv_iload_n hx hb d_L_law_997 rfl (lv_at hl 0 rfl) ?_
  refine lv_iconst (v := 2) hx hb d_L_law_998 (by decide) ?_
  refine lv_iadd hx hb d_L_law_999 ?_
  refine W.eq (g2 := F0 m 1000 ls [.int (nI (i + 2)), .ref b, .int (xs (i + 1)), .ref y, .int q1]) (by rw [show nI i + 2 = nI (i + 2) from nI_add i 2]) ?_
  refine va_sld hx hb hX hbl hbA hS (vp_in_nI (by omega) (by omega)) d_L_law_1000 ?_
  rw [nI_clamp (by omega)]
  refine lv_aload_n hx hb d_L_law_1001 rfl (lv_at hl 3 rfl) ?_
  refine lv_iload_n hx hb d_L_law_1002 rfl (lv_at hl 0 rfl) ?_
  refine lv_iconst (v := 3) hx hb d_L_law_1003 (by decide) ?_
  refine lv_iadd hx hb d_L_law_1004 ?_
  refine W.eq (g2 := F0 m 1005 ls [.int (nI (i + 3)), .ref b, .int (xs (i + 2)), .int (xs (i + 1)), .ref y, .int q1]) (by rw [show nI i + 3 = nI (i + 3) from nI_add i 3]) ?_
  refine va_sld hx hb hX hbl hbA hS (vp_in_nI (by omega) (by omega)) d_L_law_1005 ?_
  rw [nI_clamp (by omega)]
  refine h_calli hPm hS hA hP (gw_sym hd) (r_V (rest := [.int q1]) C0 [.int (xs (i + 1)), .int (xs (i + 2)), .int (xs (i + 3))] (k_R_keep l hM0 hO hV hw hn hm rfl rfl rfl (xs (i + 1)) (xs (i + 2)) (xs (i + 3))) ml_L_R_keep im_R_keep se_R_R_keep_R ini_R co_R_keep ⟨rfl, hd_R_keep⟩ (g_preV (ci := 5) hK hPm rfl hM.1) hl.1 d_L_law_1006 rfl rfl (Nat.le_of_ble_eq_true rfl) ⟨rfl, rfl⟩ ⟨Nat.le_of_ble_eq_true rfl, Nat.le_of_ble_eq_true rfl⟩ ⟨show cells + 0 + 0 ≤ 600000 by omega, show slots + 0 + 0 ≤ 7302250 by omega⟩) (fun q2 Gm1 H locs hq2 hPm hS hP hd2 => ?_)
  obtain ⟨e2, hM1⟩ := hq2
  have hd := gw_sym hd2
  refine lv_icmp_eq (tgt := 1053) hx hb d_L_law_1009 (by decide) (fun _ => ?_) (fun z => absurd (e1.trans e2.symm) z)
  have hOK := p_keep_OK hO (xs (i + 1)) (xs (i + 2)) (xs (i + 3))
  exact kk _ _ _ _ _ _ _ ⟨hP, hPm, hd, hS, hR1, hM1, hOK.1, p_keep_NV hV (xs (i + 1)) (xs (i + 2)) (xs (i + 3)), by have := hOK.2; omega, by omega, by omega⟩
set_option maxHeartbeats 4000000 in
set_option maxRecDepth 100000 in
theorem law_24 (l : Launch) (C : lw_At p s m meth c b L xs) (hK : kK D (lw_tys cV cT cI cB cZ) s) (hL : L ≤ 2562) (hw : 128 ≤ w ∧ w ≤ 32768) (hn : 16 ≤ n ∧ n ≤ 4096) (hk : k < 512) (hi : i + 5 ≤ L) (hl : lv_has ls 4 [(3, .int (nI i)), (2, .ref y), (1, .ref x), (0, .ref b)]) (J : lw_J D cV cT cI cB cZ s w n x y k σ Gx Gm H locs cells slots) (kk : ∀ (σ : sS) (Gx Gm : gw_G) (H : Heap) (locs : List Loc) (cells slots : Nat), lw_J D cV cT cI cB cZ s w n x y (k + 1) σ Gx Gm H locs cells slots → W p l e room_1 s m #[Value.ref b] below meth c H locs cells slots Q (F0 m 1053 ls [])) : W p l e room_1 s m #[Value.ref b] below meth c H locs cells slots Q (F0 m 1014 ls []) := by
  obtain ⟨hx, hb, hr, hml, hown, hts, hX, hbl, hlocks, hgv⟩ := C
  have ht := fun w (hw : w ∈ gt) => hts w (List.mem_filter.mp hw).1
  have C0 : CallFix p m c code 4 s #[Value.ref b] gt "StackRoomLaw" := ⟨hx, hb, hml, hown, ht⟩
  obtain ⟨hP, hPm, hd, hS, hR0, hM0, hO, hV, hmd, hcl, hsl⟩ := J
  have hbA : ¬ lw_A s b := Nat.not_le.mpr hbl
  have hA : ∀ q, s.heap.size ≤ q → lw_A s q := fun q h => h
  have hm : s_md σ + 2 < 2 ^ 31 := by omega
  obtain ⟨rd, ra, rt, ad, fa, ρ, fr, rr, rf, rc, wl, el, cr, hrd, hR⟩ := id hR0
  obtain ⟨adr, ar, sl, bg, U, r0, r1, r2, r3, hM, hE⟩ := id hM0
  refine lv_aload_n hx hb d_L_law_1014 rfl (lv_at hl 2 rfl) ?_
  refine h_calli hP hS hA hPm hd (r_V (rest := []) C0 [] (k_S_words l hR hO hw hn (by omega) (by omega) rfl rfl) ml_L_S_words im_S_words se_S_S_words_S ini_S co_S_words ⟨rfl, hd_S_words⟩ (g_preV (ci := 0) hK hP rfl hR.1) hl.1 d_L_law_1015 rfl rfl (Nat.le_of_ble_eq_true rfl) ⟨rfl, rfl⟩ ⟨Nat.le_of_ble_eq_true rfl, Nat.le_of_ble_eq_true rfl⟩ ⟨show cells + 0 ≤ 600000 by omega, show slots + 0 ≤ 7302250 by omega⟩) (fun q1 Gx1 H locs hq1 hP hS hPm hd => ?_)
  obtain ⟨e1, ρ2, rf2, rc2, hR2⟩ := hq1
  refine lv_aload_n hx hb d_L_law_1018 rfl (lv_at hl 1 rfl) ?_
  refine h_calli hPm hS hA hP (gw_sym hd) (r_V (rest := [.int q1]) C0 [] (k_R_words l hM0 hO hV hw hn hm rfl rfl rfl ) ml_L_R_words im_R_words se_R_R_words_R ini_R co_R_words ⟨rfl, hd_R_words⟩ (g_preV (ci := 5) hK hPm rfl hM.1) hl.1 d_L_law_1019 rfl rfl (Nat.le_of_ble_eq_true rfl) ⟨rfl, rfl⟩ ⟨Nat.le_of_ble_eq_true rfl, Nat.le_of_ble_eq_true rfl⟩ ⟨show cells + 0 + 0 ≤ 600000 by omega, show slots + 0 + 0 ≤ 7302250 by omega⟩) (fun q2 Gm1 H locs hq2 hPm hS hP hd2 => ?_)
  obtain ⟨e2, hM1⟩ := hq2
  have hd := gw_sym hd2
  refine lv_icmp_eq (tgt := 1053) hx hb d_L_law_1022 (by decide) (fun _ => ?_) (fun z => absurd (e1.trans e2.symm) z)
  exact kk _ _ _ _ _ _ _ ⟨hP, hPm, hd, hS, ⟨rd + 1, ra, rt, ad, fa, ρ2, fr, rr, rf2, rc2, _, _, _, by omega, hR2⟩, hM1, hO, hV, by omega, by omega, by omega⟩
set_option maxHeartbeats 4000000 in
set_option maxRecDepth 100000 in
theorem law_25 (l : Launch) (C : lw_At p s m meth c b L xs) (hK : kK D (lw_tys cV cT cI cB cZ) s) (hL : L ≤ 2562) (hw : 128 ≤ w ∧ w ≤ 32768) (hn : 16 ≤ n ∧ n ≤ 4096) (hk : k < 512) (hi : i + 5 ≤ L) (hl : lv_has ls 4 [(3, .int (nI i)), (2, .ref y), (1, .ref x), (0, .ref b)]) (J : lw_J D cV cT cI cB cZ s w n x y k σ Gx Gm H locs cells slots) (kk : ∀ (σ : sS) (Gx Gm : gw_G) (H : Heap) (locs : List Loc) (cells slots : Nat), lw_J D cV cT cI cB cZ s w n x y (k + 1) σ Gx Gm H locs cells slots → W p l e room_1 s m #[Value.ref b] below meth c H locs cells slots Q (F0 m 1053 ls [])) : W p l e room_1 s m #[Value.ref b] below meth c H locs cells slots Q (F0 m 1027 ls []) := by
  obtain ⟨hx, hb, hr, hml, hown, hts, hX, hbl, hlocks, hgv⟩ := C
  have ht := fun w (hw : w ∈ gt) => hts w (List.mem_filter.mp hw).1
  have C0 : CallFix p m c code 4 s #[Value.ref b] gt "StackRoomLaw" := ⟨hx, hb, hml, hown, ht⟩
  obtain ⟨hP, hPm, hd, hS, hR0, hM0, hO, hV, hmd, hcl, hsl⟩ := J
  have hbA : ¬ lw_A s b := Nat.not_le.mpr hbl
  have hA : ∀ q, s.heap.size ≤ q → lw_A s q := fun q h => h
  have hm : s_md σ + 2 < 2 ^ 31 := by omega
  obtain ⟨rd, ra, rt, ad, fa, ρ, fr, rr, rf, rc, wl, el, cr, hrd, hR⟩ := id hR0
  obtain ⟨adr, ar, sl, bg, U, r0, r1, r2, r3, hM, hE⟩ := id hM0
  refine lv_aload_n hx hb d_L_law_1027 rfl (lv_at hl 2 rfl) ?_
  refine h_calli hP hS hA hPm hd (r_V (rest := []) C0 [] (k_S_entries l hR hO hw hn (by omega) (by omega) rfl rfl) ml_L_S_entries im_S_entries se_S_S_entries_S ini_S co_S_entries ⟨rfl, hd_S_entries⟩ (g_preV (ci := 0) hK hP rfl hR.1) hl.1 d_L_law_1028 rfl rfl (Nat.le_of_ble_eq_true rfl) ⟨rfl, rfl⟩ ⟨Nat.le_of_ble_eq_true rfl, Nat.le_of_ble_eq_true rfl⟩ ⟨show cells + 0 ≤ 600000 by omega, show slots + 0 ≤ 7302250 by omega⟩) (fun q1 Gx1 H locs hq1 hP hS hPm hd => ?_)
  obtain ⟨e1, ρ2, rf2, rc2, hR2⟩ := hq1
  refine lv_aload_n hx hb d_L_law_1031 rfl (lv_at hl 1 rfl) ?_
  refine h_calli hPm hS hA hP (gw_sym hd) (r_V (rest := [.int q1]) C0 [] (k_R_entries l hM0 hO hV hw hn hm rfl rfl rfl ) ml_L_R_entries im_R_entries se_R_R_entries_R ini_R co_R_entries ⟨rfl, hd_R_entries⟩ (g_preV (ci := 5) hK hPm rfl hM.1) hl.1 d_L_law_1032 rfl rfl (Nat.le_of_ble_eq_true rfl) ⟨rfl, rfl⟩ ⟨Nat.le_of_ble_eq_true rfl, Nat.le_of_ble_eq_true rfl⟩ ⟨show cells + 0 + 0 ≤ 600000 by omega, show slots + 0 + 0 ≤ 7302250 by omega⟩) (fun q2 Gm1 H locs hq2 hPm hS hP hd2 => ?_)
  obtain ⟨e2, hM1⟩ := hq2
  have hd := gw_sym hd2
  refine lv_icmp_eq (tgt := 1053) hx hb d_L_law_1035 (by decide) (fun _ => ?_) (fun z => absurd (e1.trans e2.symm) z)
  exact kk _ _ _ _ _ _ _ ⟨hP, hPm, hd, hS, ⟨rd + 1, ra, rt, ad, fa, ρ2, fr, rr, rf2, rc2, _, _, _, by omega, hR2⟩, hM1, hO, hV, by omega, by omega, by omega⟩
set_option maxHeartbeats 4000000 in
set_option maxRecDepth 100000 in
theorem law_26 (l : Launch) (C : lw_At p s m meth c b L xs) (hK : kK D (lw_tys cV cT cI cB cZ) s) (hL : L ≤ 2562) (hw : 128 ≤ w ∧ w ≤ 32768) (hn : 16 ≤ n ∧ n ≤ 4096) (hk : k < 512) (hi : i + 5 ≤ L) (hl : lv_has ls 4 [(3, .int (nI i)), (2, .ref y), (1, .ref x), (0, .ref b)]) (J : lw_J D cV cT cI cB cZ s w n x y k σ Gx Gm H locs cells slots) (kk : ∀ (σ : sS) (Gx Gm : gw_G) (H : Heap) (locs : List Loc) (cells slots : Nat), lw_J D cV cT cI cB cZ s w n x y (k + 1) σ Gx Gm H locs cells slots → W p l e room_1 s m #[Value.ref b] below meth c H locs cells slots Q (F0 m 1053 ls [])) : W p l e room_1 s m #[Value.ref b] below meth c H locs cells slots Q (F0 m 1040 ls []) := by
  obtain ⟨hx, hb, hr, hml, hown, hts, hX, hbl, hlocks, hgv⟩ := C
  have ht := fun w (hw : w ∈ gt) => hts w (List.mem_filter.mp hw).1
  have C0 : CallFix p m c code 4 s #[Value.ref b] gt "StackRoomLaw" := ⟨hx, hb, hml, hown, ht⟩
  obtain ⟨hP, hPm, hd, hS, hR0, hM0, hO, hV, hmd, hcl, hsl⟩ := J
  have hbA : ¬ lw_A s b := Nat.not_le.mpr hbl
  have hA : ∀ q, s.heap.size ≤ q → lw_A s q := fun q h => h
  have hm : s_md σ + 2 < 2 ^ 31 := by omega
  obtain ⟨rd, ra, rt, ad, fa, ρ, fr, rr, rf, rc, wl, el, cr, hrd, hR⟩ := id hR0
  obtain ⟨adr, ar, sl, bg, U, r0, r1, r2, r3, hM, hE⟩ := id hM0
  refine lv_aload_n hx hb d_L_law_1040 rfl (lv_at hl 2 rfl) ?_
  refine h_calli hP hS hA hPm hd (r_V (rest := []) C0 [] (k_S_contexts l hR hO hw hn (by omega) (by omega) rfl rfl) ml_L_S_contexts im_S_contexts se_S_S_contexts_S ini_S co_S_contexts ⟨rfl, hd_S_contexts⟩ (g_preV (ci := 0) hK hP rfl hR.1) hl.1 d_L_law_1041 rfl rfl (Nat.le_of_ble_eq_true rfl) ⟨rfl, rfl⟩ ⟨Nat.le_of_ble_eq_true rfl, Nat.le_of_ble_eq_true rfl⟩ ⟨show cells + 0 ≤ 600000 by omega, show slots + 0 ≤ 7302250 by omega⟩) (fun q1 Gx1 H locs hq1 hP hS hPm hd => ?_)
  obtain ⟨e1, ρ2, rf2, rc2, hR2⟩ := hq1
  refine lv_aload_n hx hb d_L_law_1044 rfl (lv_at hl 1 rfl) ?_
  refine h_calli hPm hS hA hP (gw_sym hd) (r_V (rest := [.int q1]) C0 [] (k_R_contexts l hM0 hO hV hw hn hm rfl rfl rfl ) ml_L_R_contexts im_R_contexts se_R_R_contexts_R ini_R co_R_contexts ⟨rfl, hd_R_contexts⟩ (g_preV (ci := 5) hK hPm rfl hM.1) hl.1 d_L_law_1045 rfl rfl (Nat.le_of_ble_eq_true rfl) ⟨rfl, rfl⟩ ⟨Nat.le_of_ble_eq_true rfl, Nat.le_of_ble_eq_true rfl⟩ ⟨show cells + 0 + 0 ≤ 600000 by omega, show slots + 0 + 0 ≤ 7302250 by omega⟩) (fun q2 Gm1 H locs hq2 hPm hS hP hd2 => ?_)
  obtain ⟨e2, hM1⟩ := hq2
  have hd := gw_sym hd2
  refine lv_icmp_eq (tgt := 1053) hx hb d_L_law_1048 (by decide) (fun _ => ?_) (fun z => absurd (e1.trans e2.symm) z)
  exact kk _ _ _ _ _ _ _ ⟨hP, hPm, hd, hS, ⟨rd + 1, ra, rt, ad, fa, ρ2, fr, rr, rf2, rc2, _, _, _, by omega, hR2⟩, hM1, hO, hV, by omega, by omega, by omega⟩
end K42
