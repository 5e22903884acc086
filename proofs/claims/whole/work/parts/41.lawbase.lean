/-! THE CLAIM OUT OF ONE WALK OF THE LAW'S BODY. Your part is whole_start (and what it stands on); all else here is the same for every law, but numbers. -/
def R_law : String := "StackRoomLaw"
def lw_P (b : Addr) (xs : List Int32) (args : Array Value) (s : State) : Prop := args = #[.ref b] ∧ s.IntsAt b xs ∧ xs.length ≤ 2562 ∧ (Jvm.Cond.and given_1 narrow_1).before args s = true
def lw_Q (_ : Array Value) (s : State) (o : Outcome) (t : State) : Prop := o = .returned (some (.int 1)) ∧ Framed s o t [] 600000 7302250
def lw_Z (below : List Frame) (a : Array Value) (s : State) : State → Prop := fun t => ∃ o, t.status = .running ∧ Ended t below o ∧ lw_Q a s o t
/-- the law's own end, with 1 on the stack, nothing written that was there before, its room as the claim has it -/
theorem lw_ret {p : Program} {l : Launch} {e : Env} {s : State} {m : MethodId} {below : List Frame} {meth : Method} {c : Code} {b : Nat} (hx : p.tables.exec = Jvm.exec) (hb : c.code = code) (hr : meth.sig.returnType = ret) (hlocks : meth.locks = false) {pc : Nat} {H : Heap} {ls : Array Slot} (hdg : decode code pc = .ok (.ireturn, 1)) : W p l e room_1 s m #[Value.ref b] below meth c H [] 600000 7302250 (lw_Z below #[Value.ref b] s) (F0 m pc ls [.int 1]) := by
  intro T hT X
  obtain ⟨fs, hret, hrun, hended, hW, hframe⟩ := X.leave (v := some (.int 1)) (hlocks := hlocks) (fun h => by rw [hr] at h; cases h)
  have hmeth' : T.vm.method? m = some meth := X.method'
  refine ⟨T.setFrames fs, ?_, .returned (some (.int 1)), hrun, hended, rfl, ⟨_, rfl⟩, hW, hframe⟩
  jvm_step X.here [X.here.top, hx, hb, hdg, hmeth', hr, ret, narrow_b1]
  (try refine ⟨rfl, ?_⟩); (try refine ⟨rfl, ?_⟩)
  first | (intro acts; rw [hret _ acts rfl rfl rfl]) | rw [hret _ _ rfl rfl rfl]
  exact Steps.refl _
/-- what holds at the law's entry: the machine, the code, the tables' words (any of lw_tbl by 'hts w (by decide +kernel)'), the script of L ints xs at the cell b, what the Statement gives of the start (any of its parts by flat_of_before) -/
def lw_At (p : Program) (s : State) (m : MethodId) (meth : Method) (c : Code) (b L : Nat) (xs : Nat → Int32) : Prop :=
  p.tables.exec = Jvm.exec ∧ c.code = code ∧ meth.sig.returnType = ret ∧ c.maxLocals = 4 ∧ s.vm.findClass R_law = some m.cls ∧ (∀ w ∈ lw_tbl, w.before #[Value.ref b] s = true) ∧ va_X b L xs s s.heap ∧ b < s.heap.size ∧ meth.locks = false ∧ (Jvm.Cond.and given_1 narrow_1).before #[Value.ref b] s = true
/-! WHAT THE TABLES SAY, AT THE LAW'S ENTRY. -/
abbrev lw_tys (cV cT cI cB cZ : ClassId) : List (ClassId × FieldType) := [(cV, .object "StackRoom$Value"), (cT, .object "StackRoom$Thing"), (cI, .int), (cB, .byte), (cZ, .boolean)]
theorem lw_arrO {C : String} {args : Array Value} {s : State} (h : (Cond.arrayOver (.object C)).before args s = true) : ∃ cA, ArrOfT s cA (.object C) ∧ va_RA s cA (.object C) := by
  obtain ⟨comp, cA, k, h1, h2, h3, h4, h5⟩ := Cond.arrayOver_spec h
  exact ⟨cA, fun n z => ⟨fun k h => (by cases h), k, h3, comp, h4⟩, k, comp, h3, h4, h1, h5⟩
theorem lw_arrC {ty : FieldType} {args : Array Value} {s : State} (h : (Cond.arrayClass ty).before args s = true) (hr : ∀ cA, s.vm.findClass ("[" ++ ty.toString) = some cA → va_RA s cA ty) : ∃ cA, ArrOfT s cA ty ∧ va_RA s cA ty := by
  obtain ⟨cA, k, comp, h1, h2, h3⟩ := Cond.arrayClass_spec h
  exact ⟨cA, fun n z => ⟨fun k h => (by cases h), k, h2, comp, h3⟩, hr cA h1⟩
def lw_D (c0 c1 c2 c3 c4 c5 : ClassId) (i0 i1 i2 i3 i4 i5 : Nat → Nat) : va_G := (fun c => match c with
  | 0 => c0
  | 1 => c1
  | 2 => c2
  | 3 => c3
  | 4 => c4
  | _ => c5, fun c => match c with
  | 0 => i0
  | 1 => i1
  | 2 => i2
  | 3 => i3
  | 4 => i4
  | _ => i5)
theorem lw_K {s : State} {b : Nat} (hts : ∀ w ∈ lw_tbl, w.before #[Value.ref b] s = true) (hgv : (Jvm.Cond.and given_1 narrow_1).before #[Value.ref b] s = true) : ∃ (D : va_G) (cV cT cI cB cZ : ClassId), kK D (lw_tys cV cT cI cB cZ) s := by
  have ht := fun w (hw : w ∈ gt) => hts w (List.mem_filter.mp hw).1
  have hs := flat_of_before _ hgv
  obtain ⟨c0, i0, k0⟩ := u_known ht in_S (ht _ is_S)
  obtain ⟨c1, i1, k1⟩ := u_known ht in_W (ht _ is_W)
  obtain ⟨c2, i2, k2⟩ := u_known ht in_M (ht _ is_M)
  obtain ⟨c3, i3, k3⟩ := u_known ht in_X (ht _ is_X)
  obtain ⟨c4, i4, k4⟩ := u_known ht in_B (ht _ is_B)
  obtain ⟨c5, i5, k5⟩ := u_known ht in_R (ht _ is_R)
  obtain ⟨cV, aV⟩ := lw_arrO (hts _ ao_V)
  obtain ⟨cT, aT⟩ := lw_arrO (hts _ ao_T)
  obtain ⟨cI, aI⟩ := lw_arrC (ht _ ac_int) (fun cA h => h)
  obtain ⟨cB, aB⟩ := lw_arrC (ht _ ac_byte) (fun cA h => h)
  obtain ⟨cZ, aZ⟩ := lw_arrC (ht _ ac_boolean) (fun cA h => h)
  refine ⟨lw_D c0 c1 c2 c3 c4 c5 i0 i1 i2 i3 i4 i5, cV, cT, cI, cB, cZ, ⟨fun c q hq => ?_, fun k q hk => ?_⟩, fun w hw => ?_, va_AO.of (hts _ ao_V), va_AO.of (hts _ ao_T), va_Nc.of (C := "StackRoom$Whole") (T := "StackRoom$Thing") (hs _ (by decide +kernel)), va_Nc.of (C := "StackRoom$Whole") (T := "StackRoom$Context") (hs _ (by decide +kernel)), va_Nc.of (C := "StackRoom$Method") (T := "StackRoom$Context") (hs _ (by decide +kernel)), va_Nc.of (C := "StackRoom$Whole") (T := "StackRoom$Method") (hs _ (by decide +kernel)), va_Nc.of (C := "StackRoom$MethodContext") (T := "StackRoom$Method") (hs _ (by decide +kernel)), va_Nc.of (C := "StackRoom$BlockContext") (T := "StackRoom$Method") (hs _ (by decide +kernel)), va_Nc.of (C := "StackRoom$Whole") (T := "StackRoom$BlockContext") (hs _ (by decide +kernel)), va_Nc.of (C := "StackRoom$Method") (T := "StackRoom$BlockContext") (hs _ (by decide +kernel)), va_Nc.of (C := "StackRoom$MethodContext") (T := "StackRoom$BlockContext") (hs _ (by decide +kernel))⟩
  · rcases c with _ | _ | _ | _ | _ | _ | c
    · cases hq; exact k0
    · cases hq; exact k1
    · cases hq; exact k2
    · cases hq; exact k3
    · cases hq; exact k4
    · cases hq; exact k5
    · exact absurd (show (none : Option vw_C) = some q from hq) (by intro z; cases z)
  · rcases k with _ | _ | _ | _ | _ | k
    · cases hk; exact aV
    · cases hk; exact aT
    · cases hk; exact aI
    · cases hk; exact aB
    · cases hk; exact aZ
    · exact absurd (show (none : Option (ClassId × FieldType)) = some q from hk) (by intro z; cases z)
  · have hm := (List.mem_filter.mp hw).2
    have hc : w.onTables = true := by cases w <;> first | rfl | cases hm
    exact va_tabs hc rfl (hts w (List.mem_filter.mp hw).1)
/-! TWO WORLDS, APART. -/
theorem gw_sym {K G : gw_G} (h : ∀ a e, K a = some e → G a = none) : ∀ a e, G a = some e → K a = none := fun a e he => by
  cases hk : K a with
  | none => rfl
  | some f => rw [h a f hk] at he; cases he
theorem gw_dis {D : va_G} {cl : List vw_C} {A : Nat → Prop} {G G1 K : gw_G} {H H1 : Heap} (hQ : gw_P D cl A K H) (hd : ∀ a e, K a = some e → G a = none) (hB : gw_P D cl (gw_A G H.size) G1 H1) : ∀ a e, K a = some e → G1 a = none := fun a e he => by
  cases h1 : G1 a with
  | none => rfl
  | some f =>
    rcases hB.inA h1 with ⟨g, hg⟩ | hz
    · rw [hd a e he] at hg; cases hg
    · have := hQ.lt he; omega
theorem gw_single {D : va_G} {cl : List vw_C} {A : Nat → Prop} {q : Nat} {e : va_E} {H : Heap} (h : va_at D cl (q, e) H) (hA : A q) : gw_P D cl A (va_up gw_N q (some e)) H := by
  refine ⟨[(q, e)], fun k r hk => ?_, ⟨fun i j p r hi hj _ => ?_, fun k r hk => ?_⟩, fun a f => ?_⟩
  · cases k with
    | zero => cases hk; exact h
    | succ k => simp at hk
  · have := (List.getElem?_eq_some_iff.mp hi).1
    have := (List.getElem?_eq_some_iff.mp hj).1
    simp only [List.length_singleton] at *
    omega
  · cases k with
    | zero => cases hk; exact hA
    | succ k => simp at hk
  · by_cases hq : a = q
    · subst hq
      rw [va_up_self]
      exact ⟨fun h => (by cases h; exact List.mem_cons_self), fun h => (by cases List.mem_singleton.mp h; rfl)⟩
    · rw [va_up_ne _ _ hq]
      exact ⟨fun h => (by cases h), fun h => (by cases List.mem_singleton.mp h; exact absurd rfl hq)⟩
section LRUN
variable {p : Program} {l : Launch} {e : Env} {R : Room} {s : State} {m : MethodId} {args : Array Value} {below : List Frame} {meth : Method} {c : Code} {H : Heap} {locs : List Loc} {cells slots : Nat} {Q : State → Prop}
variable {cc : ByteArray} {pc : Nat} {ls : Array Slot} {rest st0 : List Value} {mc ms : Nat} {D : va_G} {A : Nat → Prop} {G K : gw_G} {H0 : Heap} {a : Array Value}
theorem h_calli {post : Int32 → gw_G → Prop} (hP : gw_P D vwCl A G H) (hS : va_S A H0 H locs) (hA : ∀ q, H0.size ≤ q → A q) (hQ : gw_P D vwCl A K H) (hd : ∀ a e, K a = some e → G a = none) (hr : va_Run p l e R s m args below meth c H locs cells slots mc ms (F0 m pc ls st0) rest (va_Qi post (g_end D G H.size) (gw_A G H.size) a) (gw_A G H.size))
    (kk : ∀ (r : Int32) (G1 : gw_G) (H1 : Heap) (locs1 : List Loc), post r G1 → gw_P D vwCl A G1 H1 → va_S A H0 H1 locs1 → gw_P D vwCl A K H1 → (∀ a e, K a = some e → G1 a = none) → W p l e R s m args below meth c H1 locs1 (cells + mc) (slots + ms) Q (F0 m (pc + 3) ls (.int r :: rest))) : W p l e R s m args below meth c H locs cells slots Q (F0 m pc ls st0) :=
  va_calli hr hS (fun q _ h => gw_free hP hS hA q h) (gw_free hP hS hA) (fun r u t H1 locs1 ht _ hw hB hz hk hS1 => kk r u H1 locs1 hw (gw_join hP hS hA (ht ▸ hB)) hS1 (hQ.frame hk hd) (gw_dis (G1 := u) (H1 := H1) hQ hd (ht ▸ hB)))
theorem h_callv {post : gw_G → Prop} (hP : gw_P D vwCl A G H) (hS : va_S A H0 H locs) (hA : ∀ q, H0.size ≤ q → A q) (hQ : gw_P D vwCl A K H) (hd : ∀ a e, K a = some e → G a = none) (hr : va_Run p l e R s m args below meth c H locs cells slots mc ms (F0 m pc ls st0) rest (va_Qv post (g_end D G H.size) (gw_A G H.size) a) (gw_A G H.size))
    (kk : ∀ (G1 : gw_G) (H1 : Heap) (locs1 : List Loc), post G1 → gw_P D vwCl A G1 H1 → va_S A H0 H1 locs1 → gw_P D vwCl A K H1 → (∀ a e, K a = some e → G1 a = none) → W p l e R s m args below meth c H1 locs1 (cells + mc) (slots + ms) Q (F0 m (pc + 3) ls rest)) : W p l e R s m args below meth c H locs cells slots Q (F0 m pc ls st0) :=
  va_callv hr hS (fun q _ h => gw_free hP hS hA q h) (gw_free hP hS hA) (fun u t H1 locs1 ht _ hw hB hz hk hS1 => kk u H1 locs1 hw (gw_join hP hS hA (ht ▸ hB)) hS1 (hQ.frame hk hd) (gw_dis (G1 := u) (H1 := H1) hQ hd (ht ▸ hB)))
/-- a new object, in a world of its own -/
theorem h_new (hexec : p.tables.exec = Jvm.exec) (hb : c.code = cc) {own C : String} {T : u_T} {N ci index : Nat} {Ts : List Cond} {tys : List (ClassId × FieldType)} (hts : ∀ w ∈ Ts, w.before args s = true) (hin : ∀ w ∈ u_ws C T N, w ∈ Ts) (ty : Nat → FieldType) (hty : ∀ k, k < N → parseFieldDescriptor (T k).2.2.1 = some (ty k)) (hown : s.vm.findClass own = some m.cls) (hcl : (Cond.classLink own index C).before args s = true) (hinst : (Cond.instantiable C N).before args s = true) (hini : (Cond.initialized C).before args s = true)
    (hK : va_K D vwCl tys s) (hP : gw_P D vwCl A K H) (hS : va_S A H0 H locs) (hA : ∀ q, H0.size ≤ q → A q) (hc : vwCl[ci]? = some (C, T, N)) {fs : List Value} (hfs : ∀ j, j < N → defaultValue (ty j) = vp_V fs j) (hcells : cells + 1 ≤ R.cells) (hslots : slots + N ≤ R.slots) (hdg : decode cc pc = .ok (.new index, 3))
    (kk : ∀ (q : Nat) (H1 : Heap), gw_P D vwCl A (va_up gw_N q (some (.inr (ci, fs)))) H1 → gw_P D vwCl A K H1 → (∀ a e, K a = some e → va_up gw_N q (some (.inr (ci, fs))) a = none) → va_S A H0 H1 locs →
      W p l e R s m args below meth c H1 locs (cells + 1) (slots + N) Q (F0 m (pc + 3) ls (.ref q :: rest))) : W p l e R s m args below meth c H locs cells slots Q (F0 m pc ls rest) := by
  obtain ⟨ws, hP, hD, hw⟩ := hP
  refine va_new hexec hb hts hin ty hty hown hcl hinst hini hK hP hD hS hA hc hfs hcells hslots hdg (fun q H1 hP1 hD1 hS1 => kk q H1 ?_ ⟨ws, fun k r hk => ?_, ⟨fun i j p r hi hj => ?_, fun k r hk => ?_⟩, hw⟩ (fun a e he => ?_) hS1)
  · have h2 : (ws ++ [(q, (.inr (ci, fs) : va_E))])[ws.length]? = some (q, .inr (ci, fs)) := by rw [List.getElem?_append_right (Nat.le_refl _), Nat.sub_self]; rfl
    exact gw_single (hP1 _ _ h2) (hD1.2 _ _ h2)
  · exact hP1 k r (by rw [List.getElem?_append_left (List.getElem?_eq_some_iff.mp hk).1]; exact hk)
  · exact hD.1 i j p r hi hj
  · exact hD.2 k r hk
  · have hn := (gw_push hD1 hw).2
    rw [va_up_ne _ _ (fun z => by rw [z, hn] at he; cases he)]
    rfl
end LRUN
/-! THE SCRIPT'S CELL. -/
def lw_c (L : Nat) (xs : Nat → Int32) (j : Nat) : Int32 := if j < L then xs j else 0
def lw_xP (b L : Nat) (xs : Nat → Int32) (av : List Value) : Array Value → State → Prop := va_Pc av (fun U => va_X b L xs U U.heap)
theorem lw_xblind {b L : Nat} {xs : Nat → Int32} {av : List Value} : FrameBlind (lw_xP b L xs av) := fun a U g mk q => ⟨q.1, va_X.moved (u := U) (U := U.calling g mk a) (Vm.Alike.refl U.vm) q.2⟩
theorem lw_xpre {b L : Nat} {xs : Nat → Int32} {s : State} {H : Heap} {As : List Value} (hX : va_X b L xs s H) : PreS s H (lw_xP b L xs As) As := ⟨lw_xblind, fun U hU hW => ⟨rfl, by show va_X b L xs U U.heap; rw [hU]; exact hX.moved hW.alike⟩⟩
set_option maxHeartbeats 4000000 in
set_option maxRecDepth 100000 in
theorem k_L_cell (l : Launch) {b L : Nat} {xs : Nat → Int32} (hL : L ≤ 2562) {j : Nat} (hj : j < 2) : Met l y_L_cell w_L_cell ({ frames := 0, cells := 0, slots := 0, locals := 0 }) (lw_xP b L xs [.ref b, .int (nI j)]) (vp_Si (fun r => r = lw_c L xs j)) 0 0 (fun _ => False) := by
  refine Met.ofW (cc := b_L_cell) (maxL := 2) (ret := (some .int)) (by decide) rfl ?_
  intro p e s m args below meth c s₁ B hml hv
  obtain ⟨rfl, hX⟩ := hv
  have hx := B.exec
  have hb := B.bytes
  have hr := B.returns
  have ht := fun w (hw : w ∈ gt) => atoms_spec (ws := w_L_cell) B.pre w (List.mem_cons_of_mem _ hw)
  have hown : s.vm.findClass "StackRoomLaw" = some m.cls := findClass_of_methodNamed B.named
  have hlocks := B.notSynchronized
  have C0 : CallFix p m c b_L_cell 2 s [.ref b, .int (nI j)].toArray gt "StackRoomLaw" := ⟨hx, hb, hml, hown, ht⟩
  have hl := lv_entry ([.ref b, .int (nI j)]) (n := 2) (Nat.le_of_ble_eq_true rfl)
  rw [lg_entry_eq]
  generalize (lg_sl ([.ref b, .int (nI j)]) ++ List.replicate (2 - (lg_sl ([.ref b, .int (nI j)])).length) Slot.unset).toArray = ls at hl ⊢
  have hl : lv_has ls 2 [(0, .ref b), (1, .int (nI j))] := hl
  have hbl : b < s.heap.size := by obtain ⟨scr, h1, -⟩ := hX; exact (Array.getElem?_eq_some_iff.mp h1).1
  have hS : va_S (fun _ => False) s.heap s.heap [] := va_S.rf
  refine lv_iload_n hx hb d_L_cell_0 rfl (lv_at hl 1 rfl) ?_
  refine lv_aload_n hx hb d_L_cell_1 rfl (lv_at hl 0 rfl) ?_
  refine va_slen hx hb hX hbl (fun z => z) hS d_L_cell_2 ?_
  refine W.eq (g2 := F0 m 3 ls [.int (nI L), .int (nI j)]) rfl ?_
  refine lv_icmp_ge (tgt := 12) hx hb d_L_cell_3 (by decide) (fun cj => ?_) (fun cj => ?_)
  · refine lv_iconst (v := 0) hx hb d_L_cell_12 (by decide) ?_
    exact W.iret (v := 0) hx hb hr (fun t ht hW => ⟨_, rfl, by unfold lw_c; rw [if_neg (Nat.not_lt.mpr ((nI_leI (by omega) (by omega)).mp cj))], ht⟩) (fun _ h => by cases h) d_L_cell_13
  · have hlt : j < L := Nat.not_le.mp (fun z => cj ((nI_leI (by omega) (by omega)).mpr z))
    refine lv_aload_n hx hb d_L_cell_6 rfl (lv_at hl 0 rfl) ?_
    refine lv_iload_n hx hb d_L_cell_7 rfl (lv_at hl 1 rfl) ?_
    refine va_sld hx hb hX hbl (fun z => z) hS (vp_in_nI hlt (by omega)) d_L_cell_8 ?_
    rw [nI_clamp (by omega)]
    refine lv_goto (tgt := 13) hx hb d_L_cell_9 (by decide) ?_
    exact W.iret (v := xs j) hx hb hr (fun t ht hW => ⟨_, rfl, by unfold lw_c; rw [if_pos hlt], ht⟩) (fun _ h => by cases h) d_L_cell_13
/-! WHAT HOLDS AT THE LOOP'S HEAD. -/
def lw_A (s : State) : Nat → Prop := fun q => s.heap.size ≤ q
def lw_J (D : va_G) (cV cT cI cB cZ : ClassId) (s : State) (w n x y k : Nat) (σ : sS) (Gx Gm : gw_G) (H : Heap) (locs : List Loc) (cells slots : Nat) : Prop :=
  gw_P D vwCl (lw_A s) Gx H ∧ gw_P D vwCl (lw_A s) Gm H ∧ (∀ a e, Gm a = some e → Gx a = none) ∧ va_S (lw_A s) s.heap H locs ∧ c_R w n k cV cT σ x Gx ∧ m_R w n cI cB cZ σ y Gm ∧ s_OK w n σ ∧ s_NV σ ∧ s_md σ ≤ 2 + 2 * k ∧ cells ≤ 100 + 200 * k ∧ slots ≤ 200000 + 200 * k
theorem lw_lt {L i : Nat} (hL : L ≤ 2562) (hi : i ≤ 5000) : nI L - 5 < nI i ↔ L < i + 5 := by
  rw [Int32.lt_iff_toInt_lt, show (5 : Int32) = nI 5 from rfl, pk_sub_toInt (by omega) (by omega), nI_toInt (by omega)]
  omega
