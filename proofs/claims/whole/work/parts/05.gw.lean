/-! WORLDS TOLD BY A FUNCTION: G says what stands at an address. Behind it stands a list, for the kit's rows. -/
abbrev gw_G : Type := Nat → Option va_E
def gw_A (G : gw_G) (sz : Nat) : Nat → Prop := fun q => (∃ e, G q = some e) ∨ sz ≤ q
def gw_P (D : va_G) (cl : List vw_C) (A : Nat → Prop) (G : gw_G) (H : Heap) : Prop :=
  ∃ ws : va_W, va_P D cl ws H ∧ va_D A ws ∧ ∀ (a : Nat) (e : va_E), G a = some e ↔ (a, e) ∈ ws
def gw_N : gw_G := fun _ => none
theorem gw_P.nil {D : va_G} {cl : List vw_C} {A : Nat → Prop} {H : Heap} : gw_P D cl A gw_N H := ⟨[], fun k q h => by simp at h, ⟨fun i j p q h => by simp at h, fun k q h => by simp at h⟩, fun a e => ⟨fun h => (by cases h), fun h => (by cases h)⟩⟩
theorem gw_P.at {D : va_G} {cl : List vw_C} {A : Nat → Prop} {G : gw_G} {H : Heap} (h : gw_P D cl A G H) {a : Nat} {e : va_E} (ha : G a = some e) : va_at D cl (a, e) H := by
  obtain ⟨ws, hP, hD, hw⟩ := h
  obtain ⟨k, hk⟩ := List.getElem?_of_mem ((hw a e).mp ha)
  exact hP k _ hk
theorem gw_P.one {D : va_G} {cl : List vw_C} {A : Nat → Prop} {G : gw_G} {H : Heap} (h : gw_P D cl A G H) {a : Nat} {e : va_E} (ha : G a = some e) : va_P D cl [(a, e)] H := by
  intro k q hk
  cases k with
  | zero => cases hk; exact h.at ha
  | succ k => simp at hk
theorem gw_P.two {D : va_G} {cl : List vw_C} {A : Nat → Prop} {G : gw_G} {H : Heap} (h : gw_P D cl A G H) {a b : Nat} {e f : va_E} (ha : G a = some e) (hb : G b = some f) : va_P D cl [(a, e), (b, f)] H := va_P.app (w1 := [(a, e)]) (w2 := [(b, f)]) (h.one ha) (h.one hb)
theorem gw_P.lt {D : va_G} {cl : List vw_C} {A : Nat → Prop} {G : gw_G} {H : Heap} (h : gw_P D cl A G H) {a : Nat} {e : va_E} (ha : G a = some e) : a < H.size := (h.at ha).lt
theorem gw_P.inA {D : va_G} {cl : List vw_C} {A : Nat → Prop} {G : gw_G} {H : Heap} (h : gw_P D cl A G H) {a : Nat} {e : va_E} (ha : G a = some e) : A a := by
  obtain ⟨ws, hP, hD, hw⟩ := h
  obtain ⟨k, hk⟩ := List.getElem?_of_mem ((hw a e).mp ha)
  exact hD.2 k _ hk
theorem gw_P.weaken {D : va_G} {cl : List vw_C} {A B : Nat → Prop} {G : gw_G} {H : Heap} (h : gw_P D cl A G H) (hAB : ∀ a e, G a = some e → A a → B a) : gw_P D cl B G H := by
  obtain ⟨ws, hP, hD, hw⟩ := h
  exact ⟨ws, hP, hD.weaken (fun k q hk hq => hAB q.1 q.2 ((hw q.1 q.2).mpr (List.mem_of_getElem? hk)) hq), hw⟩
theorem gw_P.self {D : va_G} {cl : List vw_C} {A : Nat → Prop} {G : gw_G} {H : Heap} {sz : Nat} (h : gw_P D cl A G H) : gw_P D cl (gw_A G sz) G H := h.weaken (fun _ e he _ => Or.inl ⟨e, he⟩)
theorem gw_P.triv {D : va_G} {cl : List vw_C} {A : Nat → Prop} {G : gw_G} {H : Heap} (h : gw_P D cl A G H) : gw_P D cl (fun _ => True) G H := h.weaken (fun _ _ _ _ => trivial)
theorem gw_P.kept {D : va_G} {cl : List vw_C} {A : Nat → Prop} {G : gw_G} {H H1 : Heap} (h : gw_P D cl A G H) (hk : ∀ a e, G a = some e → H1[a]? = H[a]?) : gw_P D cl A G H1 := by
  obtain ⟨ws, hP, hD, hw⟩ := h
  exact ⟨ws, hP.kept (fun k q hq => hk q.1 q.2 ((hw q.1 q.2).mpr (List.mem_of_getElem? hq))), hD, hw⟩
/-- another world's cells stay, where a call changed only this one's -/
theorem gw_P.frame {D : va_G} {cl : List vw_C} {A : Nat → Prop} {G K : gw_G} {H H1 : Heap} (h : gw_P D cl A K H) (hk : ∀ q : Nat, q < H.size → ¬ gw_A G H.size q → H1[q]? = H[q]?) (hd : ∀ a e, K a = some e → G a = none) : gw_P D cl A K H1 := h.kept (fun a e he => hk a (h.lt he) (fun z => by
  rcases z with ⟨e2, h2⟩ | h2
  · rw [hd a e he] at h2; cases h2
  · exact absurd (h.lt he) (by omega)))
theorem gw_set {A : Nat → Prop} {ws : va_W} {G : gw_G} {k a : Nat} {e0 e : va_E} (hD : va_D A ws) (hw : ∀ (a : Nat) (e : va_E), G a = some e ↔ (a, e) ∈ ws) (hk : ws[k]? = some (a, e0)) : ∀ (b : Nat) (f : va_E), va_up G a (some e) b = some f ↔ (b, f) ∈ ws.set k (a, e) := by
  have hl := (List.getElem?_eq_some_iff.mp hk).1
  intro b f
  by_cases hb : b = a
  · subst hb
    rw [va_up_self]
    constructor
    · intro h
      cases h
      exact List.mem_of_getElem? (List.getElem?_set_self hl)
    · intro h
      obtain ⟨j, hj⟩ := List.getElem?_of_mem h
      by_cases hjk : j = k
      · subst hjk
        rw [List.getElem?_set_self hl] at hj
        cases hj; rfl
      · rw [List.getElem?_set_ne (Ne.symm hjk)] at hj
        exact absurd (hD.1 j k _ _ hj hk rfl) hjk
  · rw [va_up_ne _ _ hb, hw]
    constructor
    · intro h
      obtain ⟨j, hj⟩ := List.getElem?_of_mem h
      have hjk : j ≠ k := fun e => by
        subst e
        rw [hk] at hj
        cases hj
        exact hb rfl
      exact List.mem_of_getElem? (by rw [List.getElem?_set_ne (Ne.symm hjk)]; exact hj)
    · intro h
      obtain ⟨j, hj⟩ := List.getElem?_of_mem h
      by_cases hjk : j = k
      · subst hjk
        rw [List.getElem?_set_self hl] at hj
        cases hj
        exact absurd rfl hb
      · rw [List.getElem?_set_ne (Ne.symm hjk)] at hj
        exact List.mem_of_getElem? hj
theorem gw_push {A : Nat → Prop} {ws : va_W} {G : gw_G} {q : Nat} {e : va_E} (hD : va_D A (ws ++ [(q, e)])) (hw : ∀ (a : Nat) (e : va_E), G a = some e ↔ (a, e) ∈ ws) : (∀ (b : Nat) (f : va_E), va_up G q (some e) b = some f ↔ (b, f) ∈ ws ++ [(q, e)]) ∧ G q = none := by
  have hq : ∀ f, (q, f) ∉ ws := fun f hf => by
    obtain ⟨j, hj⟩ := List.getElem?_of_mem hf
    have hl := (List.getElem?_eq_some_iff.mp hj).1
    have h1 : (ws ++ [(q, e)])[j]? = some (q, f) := by rw [List.getElem?_append_left hl]; exact hj
    have h2 : (ws ++ [(q, e)])[ws.length]? = some (q, e) := by rw [List.getElem?_append_right (Nat.le_refl _), Nat.sub_self]; rfl
    have := hD.1 _ _ _ _ h1 h2 rfl
    omega
  refine ⟨fun b f => ?_, ?_⟩
  · by_cases hb : b = q
    · subst hb
      rw [va_up_self]
      constructor
      · intro h
        cases h
        exact List.mem_append_right _ List.mem_cons_self
      · intro h
        rcases List.mem_append.mp h with h | h
        · exact absurd h (hq f)
        · cases List.mem_singleton.mp h
          rfl
    · rw [va_up_ne _ _ hb, hw]
      constructor
      · intro h
        exact List.mem_append_left _ h
      · intro h
        rcases List.mem_append.mp h with h | h
        · exact h
        · cases List.mem_singleton.mp h
          exact absurd rfl hb
  · cases hg : G q with
    | none => rfl
    | some f => exact absurd ((hw q f).mp hg) (hq f)
/-- two addresses with different things differ -/
theorem gw_ne {G : gw_G} {a b : Nat} {e f : va_E} (ha : G a = some e) (hb : G b = some f) (h : e ≠ f) : a ≠ b := fun z => by
  subst z
  rw [ha] at hb
  exact h (Option.some.inj hb)
theorem gw_neN {G : gw_G} {a b : Nat} {e : va_E} (ha : G a = some e) (hb : G b = none) : a ≠ b := fun z => by
  subst z
  rw [ha] at hb
  cases hb
theorem gw_up {G : gw_G} {a b : Nat} {e : va_E} {v : Option va_E} (hb : G b = some e) (h : b ≠ a) : va_up G a v b = some e := by rw [va_up_ne _ _ h]; exact hb
theorem gw_join {D : va_G} {cl : List vw_C} {A : Nat → Prop} {G G1 : gw_G} {H0 H H1 : Heap} {locs : List Loc} (hP : gw_P D cl A G H) (hS : va_S A H0 H locs) (hA : ∀ q, H0.size ≤ q → A q) (h1 : gw_P D cl (gw_A G H.size) G1 H1) : gw_P D cl A G1 H1 := h1.weaken (fun a e _ h => by
  rcases h with ⟨f, hf⟩ | h
  · exact hP.inA hf
  · exact hA a (Nat.le_trans hS.1 h))
theorem gw_free {D : va_G} {cl : List vw_C} {A : Nat → Prop} {G : gw_G} {H0 H : Heap} {locs : List Loc} (hP : gw_P D cl A G H) (hS : va_S A H0 H locs) (hA : ∀ q, H0.size ≤ q → A q) : ∀ q, gw_A G H.size q → A q := fun q h => by
  rcases h with ⟨f, hf⟩ | h
  · exact hP.inA hf
  · exact hA q (Nat.le_trans hS.1 h)
section GWR
variable {p : Program} {l : Launch} {e : Env} {R : Room} {s : State} {m : MethodId} {args : Array Value} {below : List Frame} {meth : Method} {c : Code} {H : Heap} {locs : List Loc} {cells slots : Nat} {Q : State → Prop}
variable {cc : ByteArray} {pc : Nat} {ls : Array Slot} {rest : List Value} {D : va_G} {cl : List vw_C} {A : Nat → Prop} {a : Nat} {tys : List (ClassId × FieldType)} {G : gw_G} {H0 : Heap}
theorem gw_put (hexec : p.tables.exec = Jvm.exec) (hb : c.code = cc) {own ref C : String} {T : u_T} {N ci index : Nat} {Ts : List Cond} (hts : ∀ w ∈ Ts, w.before args s = true) (hin : ∀ w ∈ u_ws C T N, w ∈ Ts) (ty0 : Nat → FieldType) (hty : ∀ k, k < N → parseFieldDescriptor (T k).2.2.1 = some (ty0 k)) (hnm : ∀ a, a < N → ∀ b, b < N → a ≠ b → (T a).2.1 ≠ (T b).2.1) (hown : s.vm.findClass own = some m.cls) (hK : va_K D cl tys s) (hP : gw_P D cl A G H) (hS0 : va_S A H0 H locs) {fs : List Value} (he : G a = some (.inr (ci, fs))) (hc : cl[ci]? = some (C, T, N)) (k : Nat) (hk : k < N) (hlink : (Cond.fieldLink own index ref (T k).2.1 (T k).2.2.1).before args s = true) (hsame : ∀ x, s.fieldFound? (T k).1 (T k).2.1 (T k).2.2.1 = some x → s.fieldFound? ref (T k).2.1 (T k).2.2.1 = some x) (hfin : (T k).2.2.2 = false) {ty : FieldType} {v : Value} (hd : parseFieldDescriptor (T k).2.2.1 = some ty) (hn : narrow ty v = v) (hfit : fits ty v = true) (hl : k < fs.length)
    (hdg : decode cc pc = .ok (.putfield index, 3)) (kk : ∀ (H1 : Heap) (locs1 : List Loc), gw_P D cl A (va_up G a (some (.inr (ci, fs.set k v)))) H1 → va_S A H0 H1 locs1 → W p l e R s m args below meth c H1 locs1 cells slots Q (F0 m (pc + 3) ls rest)) : W p l e R s m args below meth c H locs cells slots Q (F0 m pc ls (v :: .ref a :: rest)) := by
  obtain ⟨ws, hP, hD, hw⟩ := hP
  obtain ⟨q0, hq0⟩ := List.getElem?_of_mem ((hw a _).mp he)
  exact va_put hexec hb hts hin ty0 hty hnm hown hK hP hD hS0 q0 hq0 hc k hk hlink hsame hfin hd hn hfit hl hdg (fun H1 locs1 hP1 hD1 hS1 => kk H1 locs1 ⟨_, hP1, hD1, gw_set hD hw hq0⟩ hS1)
theorem gw_putN (hexec : p.tables.exec = Jvm.exec) (hb : c.code = cc) {own ref C host : String} {T : u_T} {N ci index : Nat} {Ts : List Cond} (hts : ∀ w ∈ Ts, w.before args s = true) (hin : ∀ w ∈ u_ws C T N, w ∈ Ts) (ty0 : Nat → FieldType) (hty : ∀ k, k < N → parseFieldDescriptor (T k).2.2.1 = some (ty0 k)) (hnm : ∀ a, a < N → ∀ b, b < N → a ≠ b → (T a).2.1 ≠ (T b).2.1) (hown : s.vm.findClass own = some m.cls) (hK : va_K D cl tys s) (hP : gw_P D cl A G H) (hS0 : va_S A H0 H locs) {fs : List Value} (he : G a = some (.inr (ci, fs))) (hc : cl[ci]? = some (C, T, N)) (k : Nat) (hk : k < N) (hlink : (Cond.fieldLinkNest own index ref (T k).2.1 (T k).2.2.1 host).before args s = true) (hsame : ∀ x, s.fieldFound? (T k).1 (T k).2.1 (T k).2.2.1 = some x → s.fieldFound? ref (T k).2.1 (T k).2.2.1 = some x) (hfin : (T k).2.2.2 = false) {ty : FieldType} {v : Value} (hd : parseFieldDescriptor (T k).2.2.1 = some ty) (hn : narrow ty v = v) (hfit : fits ty v = true) (hl : k < fs.length)
    (hdg : decode cc pc = .ok (.putfield index, 3)) (kk : ∀ (H1 : Heap) (locs1 : List Loc), gw_P D cl A (va_up G a (some (.inr (ci, fs.set k v)))) H1 → va_S A H0 H1 locs1 → W p l e R s m args below meth c H1 locs1 cells slots Q (F0 m (pc + 3) ls rest)) : W p l e R s m args below meth c H locs cells slots Q (F0 m pc ls (v :: .ref a :: rest)) := by
  obtain ⟨ws, hP, hD, hw⟩ := hP
  obtain ⟨q0, hq0⟩ := List.getElem?_of_mem ((hw a _).mp he)
  exact va_putN hexec hb hts hin ty0 hty hnm hown hK hP hD hS0 q0 hq0 hc k hk hlink hsame hfin hd hn hfit hl hdg (fun H1 locs1 hP1 hD1 hS1 => kk H1 locs1 ⟨_, hP1, hD1, gw_set hD hw hq0⟩ hS1)
theorem gw_putF (hexec : p.tables.exec = Jvm.exec) (hb : c.code = cc) {own ref C : String} {T : u_T} {N ci index : Nat} {Ts : List Cond} (hts : ∀ w ∈ Ts, w.before args s = true) (hin : ∀ w ∈ u_ws C T N, w ∈ Ts) (ty0 : Nat → FieldType) (hty : ∀ k, k < N → parseFieldDescriptor (T k).2.2.1 = some (ty0 k)) (hnm : ∀ a, a < N → ∀ b, b < N → a ≠ b → (T a).2.1 ≠ (T b).2.1) (hown : s.vm.findClass own = some m.cls) (hK : va_K D cl tys s) (hP : gw_P D cl A G H) (hS0 : va_S A H0 H locs) {fs : List Value} (he : G a = some (.inr (ci, fs))) (hc : cl[ci]? = some (C, T, N)) (k : Nat) (hk : k < N) (hlink : (Cond.fieldLink own index ref (T k).2.1 (T k).2.2.1).before args s = true) (hsame : ∀ x, s.fieldFound? (T k).1 (T k).2.1 (T k).2.2.1 = some x → s.fieldFound? ref (T k).2.1 (T k).2.2.1 = some x) (hfin : (T k).2.2.2 = true) (hin2 : meth.name = "<init>") (hdecl : (T k).1 = own) {ty : FieldType} {v : Value} (hd : parseFieldDescriptor (T k).2.2.1 = some ty) (hn : narrow ty v = v) (hfit : fits ty v = true) (hl : k < fs.length)
    (hdg : decode cc pc = .ok (.putfield index, 3)) (kk : ∀ (H1 : Heap) (locs1 : List Loc), gw_P D cl A (va_up G a (some (.inr (ci, fs.set k v)))) H1 → va_S A H0 H1 locs1 → W p l e R s m args below meth c H1 locs1 cells slots Q (F0 m (pc + 3) ls rest)) : W p l e R s m args below meth c H locs cells slots Q (F0 m pc ls (v :: .ref a :: rest)) := by
  obtain ⟨ws, hP, hD, hw⟩ := hP
  obtain ⟨q0, hq0⟩ := List.getElem?_of_mem ((hw a _).mp he)
  exact va_putF hexec hb hts hin ty0 hty hnm hown hK hP hD hS0 q0 hq0 hc k hk hlink hsame hfin hin2 hdecl hd hn hfit hl hdg (fun H1 locs1 hP1 hD1 hS1 => kk H1 locs1 ⟨_, hP1, hD1, gw_set hD hw hq0⟩ hS1)
theorem gw_iast (hexec : p.tables.exec = Jvm.exec) (hb : c.code = cc) (hK : va_K D cl tys s) (hP : gw_P D cl A G H) (hS : va_S A H0 H locs) (t0 : Nat) {cA : ClassId} {n : Nat} {f : Nat → Int32} (ha : G a = some (.inl (cA, n, .inl f))) (ht : tys[t0]? = some (cA, .int)) {i : Int32} {x : Int32} (hin : vp_in i n) (hdg : decode cc pc = .ok (.iastore, 1))
    (kk : ∀ (H1 : Heap) (locs1 : List Loc), gw_P D cl A (va_up G a (some (.inl (cA, n, .inl (upd f i.toNatClampNeg x))))) H1 → va_S A H0 H1 locs1 → W p l e R s m args below meth c H1 locs1 cells slots Q (F0 m (pc + 1) ls rest)) : W p l e R s m args below meth c H locs cells slots Q (F0 m pc ls (.int x :: .int i :: .ref a :: rest)) := by
  obtain ⟨ws, hP, hD, hw⟩ := hP
  obtain ⟨q0, hq0⟩ := List.getElem?_of_mem ((hw a _).mp ha)
  exact va_iast hexec hb hK hP hD hS q0 t0 hq0 ht hin hdg (fun H1 locs1 hP1 hD1 hS1 => kk H1 locs1 ⟨_, hP1, hD1, gw_set hD hw hq0⟩ hS1)
theorem gw_astqM (hexec : p.tables.exec = Jvm.exec) (hb : c.code = cc) (hK : va_K D cl tys s) (hP : gw_P D cl A G H) (hS : va_S A H0 H locs) (t0 : Nat) {E : String} {cA : ClassId} {n v : Nat} {f : Nat → Option Nat} (ha : G a = some (.inl (cA, n, .inr (.inr (.inr (.inr f)))))) (ht : tys[t0]? = some (cA, .object E)) (hr : va_Any E s H v) {i : Int32} (hin : vp_in i n) (hdg : decode cc pc = .ok (.aastore, 1))
    (kk : ∀ (H1 : Heap) (locs1 : List Loc), gw_P D cl A (va_up G a (some (.inl (cA, n, .inr (.inr (.inr (.inr (va_up f i.toNatClampNeg (some v))))))))) H1 → va_S A H0 H1 locs1 → W p l e R s m args below meth c H1 locs1 cells slots Q (F0 m (pc + 1) ls rest)) : W p l e R s m args below meth c H locs cells slots Q (F0 m pc ls (.ref v :: .int i :: .ref a :: rest)) := by
  obtain ⟨ws, hP, hD, hw⟩ := hP
  obtain ⟨q0, hq0⟩ := List.getElem?_of_mem ((hw a _).mp ha)
  exact va_astqM hexec hb hK hP hD hS q0 t0 hq0 ht hr hin hdg (fun H1 locs1 hP1 hD1 hS1 => kk H1 locs1 ⟨_, hP1, hD1, gw_set hD hw hq0⟩ hS1)
theorem gw_astqN (hexec : p.tables.exec = Jvm.exec) (hb : c.code = cc) (hK : va_K D cl tys s) (hP : gw_P D cl A G H) (hS : va_S A H0 H locs) (t0 : Nat) {cA : ClassId} {C : String} {n : Nat} {f : Nat → Option Nat} (ha : G a = some (.inl (cA, n, .inr (.inr (.inr (.inr f)))))) (ht : tys[t0]? = some (cA, .object C)) {i : Int32} (hin : vp_in i n) (hdg : decode cc pc = .ok (.aastore, 1))
    (kk : ∀ (H1 : Heap) (locs1 : List Loc), gw_P D cl A (va_up G a (some (.inl (cA, n, .inr (.inr (.inr (.inr (va_up f i.toNatClampNeg none)))))))) H1 → va_S A H0 H1 locs1 → W p l e R s m args below meth c H1 locs1 cells slots Q (F0 m (pc + 1) ls rest)) : W p l e R s m args below meth c H locs cells slots Q (F0 m pc ls (.null :: .int i :: .ref a :: rest)) := by
  obtain ⟨ws, hP, hD, hw⟩ := hP
  obtain ⟨q0, hq0⟩ := List.getElem?_of_mem ((hw a _).mp ha)
  exact va_astqN hexec hb hK hP hD hS q0 t0 hq0 ht hin hdg (fun H1 locs1 hP1 hD1 hS1 => kk H1 locs1 ⟨_, hP1, hD1, gw_set hD hw hq0⟩ hS1)
theorem gw_new (hexec : p.tables.exec = Jvm.exec) (hb : c.code = cc) {own C : String} {T : u_T} {N ci index : Nat} {Ts : List Cond} (hts : ∀ w ∈ Ts, w.before args s = true) (hin : ∀ w ∈ u_ws C T N, w ∈ Ts) (ty : Nat → FieldType) (hty : ∀ k, k < N → parseFieldDescriptor (T k).2.2.1 = some (ty k)) (hown : s.vm.findClass own = some m.cls) (hcl : (Cond.classLink own index C).before args s = true) (hinst : (Cond.instantiable C N).before args s = true) (hini : (Cond.initialized C).before args s = true)
    (hK : va_K D cl tys s) (hP : gw_P D cl A G H) (hS : va_S A H0 H locs) (hA : ∀ q, H0.size ≤ q → A q) (hc : cl[ci]? = some (C, T, N)) {fs : List Value} (hfs : ∀ j, j < N → defaultValue (ty j) = vp_V fs j) (hcells : cells + 1 ≤ R.cells) (hslots : slots + N ≤ R.slots) (hdg : decode cc pc = .ok (.new index, 3))
    (kk : ∀ (q : Nat) (H1 : Heap), gw_P D cl A (va_up G q (some (.inr (ci, fs)))) H1 → G q = none → va_S A H0 H1 locs →
      W p l e R s m args below meth c H1 locs (cells + 1) (slots + N) Q (F0 m (pc + 3) ls (.ref q :: rest))) : W p l e R s m args below meth c H locs cells slots Q (F0 m pc ls rest) := by
  obtain ⟨ws, hP, hD, hw⟩ := hP
  exact va_new hexec hb hts hin ty hty hown hcl hinst hini hK hP hD hS hA hc hfs hcells hslots hdg (fun q H1 hP1 hD1 hS1 => kk q H1 ⟨_, hP1, hD1, (gw_push hD1 hw).1⟩ (gw_push hD1 hw).2 hS1)
theorem gw_newq (hexec : p.tables.exec = Jvm.exec) (hb : c.code = cc) {own C : String} {index : Nat} (hown : s.vm.findClass own = some m.cls) (hclink : (Cond.classLink own index C).before args s = true) (hover : va_AO C s) (hK : va_K D cl tys s) (hP : gw_P D cl A G H) (hS : va_S A H0 H locs) (hA : ∀ q, H0.size ≤ q → A q)
    {n : Int32} {N' : Nat} (hn : ¬ n < 0) (hN : n.toNatClampNeg = N') (hbytes : N' * 4 ≤ 536870912) (hcells : cells + 1 ≤ R.cells) (hslots : slots + N' ≤ R.slots) (hdg : decode cc pc = .ok (.anewarray index, 3))
    (kk : ∀ (q : Nat) (cA : ClassId) (H1 : Heap), va_K D cl (tys ++ [(cA, .object C)]) s → gw_P D cl A (va_up G q (some (.inl (cA, N', .inr (.inr (.inr (.inr (fun _ => none)))))))) H1 → G q = none → va_S A H0 H1 locs →
      W p l e R s m args below meth c H1 locs (cells + 1) (slots + N') Q (F0 m (pc + 3) ls (.ref q :: rest))) : W p l e R s m args below meth c H locs cells slots Q (F0 m pc ls (.int n :: rest)) := by
  obtain ⟨ws, hP, hD, hw⟩ := hP
  exact va_newq hexec hb hown hclink hover hK hP hD hS hA hn hN hbytes hcells hslots hdg (fun q cA H1 hK1 hP1 hD1 hS1 => kk q cA H1 hK1 ⟨_, hP1, hD1, (gw_push hD1 hw).1⟩ (gw_push hD1 hw).2 hS1)
theorem gw_newa (hexec : p.tables.exec = Jvm.exec) (hb : c.code = cc) {atype : ArrayType} (harr : (Cond.arrayClass (newarray.typeOf atype)).before args s = true) {ty : FieldType} (hty : newarray.typeOf atype = ty) (hK : va_K D cl tys s) (hP : gw_P D cl A G H) (hS : va_S A H0 H locs) (hA : ∀ q, H0.size ≤ q → A q)
    {n : Int32} {N' : Nat} {a0 : vp_A} (ha : ∀ cA : ClassId, vp_cell cA a0 = arrV cA N' (fun _ => defaultValue ty)) (hn : ¬ n < 0) (hN : n.toNatClampNeg = N') (hbytes : N' * componentBytes ty ≤ 536870912) (hcells : cells + 1 ≤ R.cells) (hslots : slots + N' ≤ R.slots) (hdg : decode cc pc = .ok (.newarray atype, 2))
    (kk : ∀ (q : Nat) (cA : ClassId) (H1 : Heap), va_K D cl (tys ++ [(cA, ty)]) s → gw_P D cl A (va_up G q (some (.inl (cA, a0)))) H1 → G q = none → va_S A H0 H1 locs →
      W p l e R s m args below meth c H1 locs (cells + 1) (slots + N') Q (F0 m (pc + 2) ls (.ref q :: rest))) : W p l e R s m args below meth c H locs cells slots Q (F0 m pc ls (.int n :: rest)) := by
  obtain ⟨ws, hP, hD, hw⟩ := hP
  exact va_newa hexec hb harr hty hK hP hD hS hA ha hn hN hbytes hcells hslots hdg (fun q cA H1 hK1 hP1 hD1 hS1 => kk q cA H1 hK1 ⟨_, hP1, hD1, (gw_push hD1 hw).1⟩ (gw_push hD1 hw).2 hS1)
theorem gw_recv {ci : Nat} {q : vw_C} {fs : List Value} (hK : va_K D cl tys s) (hP : gw_P D cl A G H) (hc : cl[ci]? = some q) (he : G a = some (.inr (ci, fs))) : ∃ cell : Cell, H[a]? = some cell ∧ cell.vm.isStatics = false ∧ s.vm.findClass q.1 = some cell.cls := va_recv (q0 := 0) hK (hP.one he) hc rfl
theorem gw_any {ci : Nat} {fs : List Value} {r : vw_C} {E : String} (hK : va_K D cl tys s) (hP : gw_P D cl A G H) (he : G a = some (.inr (ci, fs))) (hc : cl[ci]? = some r) (hasg : ∀ comp c0 : ClassId, s.vm.findClass E = some comp → s.vm.findClass r.1 = some c0 → s.vm.assignable c0 comp = true) : va_Any E s H a := va_rAny (q0 := 0) hK (hP.one he) rfl hc hasg
end GWR
/-- what a method is told beside its words: the nest's links, what is declared, castable, not castable -/
def nK (U : State) : Prop := (∀ w ∈ nt, va_Nw w U) ∧ va_AO "StackRoom$Value" U ∧ va_AO "StackRoom$Thing" U ∧ va_Nc "StackRoom$Whole" "StackRoom$Thing" U ∧ va_Nc "StackRoom$Whole" "StackRoom$Context" U ∧ va_Nc "StackRoom$Method" "StackRoom$Context" U ∧ va_Nc "StackRoom$Whole" "StackRoom$Method" U ∧ va_Nc "StackRoom$MethodContext" "StackRoom$Method" U ∧ va_Nc "StackRoom$BlockContext" "StackRoom$Method" U ∧ va_Nc "StackRoom$Whole" "StackRoom$BlockContext" U ∧ va_Nc "StackRoom$Method" "StackRoom$BlockContext" U ∧ va_Nc "StackRoom$MethodContext" "StackRoom$BlockContext" U
theorem nK.warm {s U : State} (hW : s.WarmedH U.vm) (h : nK s) : nK U := by
  obtain ⟨h0, ha, hb, h1, h2, h3, h4, h5, h6, h7, h8, h9⟩ := h
  refine ⟨fun w hw => ?_, ha.moved hW.alike, hb.moved hW.alike, h1.moved hW.alike, h2.moved hW.alike, h3.moved hW.alike, h4.moved hW.alike, h5.moved hW.alike, h6.moved hW.alike, h7.moved hW.alike, h8.moved hW.alike, h9.moved hW.alike⟩
  have hm := (List.mem_filter.mp hw).2
  have hs := h0 w hw
  cases w <;> first | exact va_Nw.warmF hW hs | exact va_Nw.warmM hW hs | exact va_Nw.warmD hW hs | exact va_Nw.warmC hW hs | cases hm
theorem nK.same {s U : State} (hv : s.vm = U.vm) (h : nK s) : nK U := by
  obtain ⟨h0, ha, hb, h1, h2, h3, h4, h5, h6, h7, h8, h9⟩ := h
  have al : s.vm.Alike U.vm := hv ▸ Vm.Alike.refl s.vm
  refine ⟨fun w hw => va_Nw.same ?_ hv (h0 w hw), ha.moved al, hb.moved al, h1.moved al, h2.moved al, h3.moved al, h4.moved al, h5.moved al, h6.moved al, h7.moved al, h8.moved al, h9.moved al⟩
  have hm := (List.mem_filter.mp hw).2
  cases w <;> first | rfl | cases hm
abbrev kK (D : va_G) (tys : List (ClassId × FieldType)) (U : State) : Prop := va_K D vwCl tys U ∧ nK U
/-- a method's start, with the world G; its end -/
def g_pre (D : va_G) (tys : List (ClassId × FieldType)) (G : gw_G) (sz : Nat) (av : List Value) : Array Value → State → Prop := va_Pc av (fun U => U.heap.size = sz ∧ gw_P D vwCl (fun _ => True) G U.heap ∧ kK D tys U)
abbrev g_end (D : va_G) (G : gw_G) (sz : Nat) : gw_G → State → Prop := fun G1 t => gw_P D vwCl (gw_A G sz) G1 t.heap
theorem g_blind {D : va_G} {tys : List (ClassId × FieldType)} {G : gw_G} {sz : Nat} {av : List Value} : FrameBlind (g_pre D tys G sz av) := fun a U g mk q => ⟨q.1, q.2.1, q.2.2.1, va_K.moved (u := U) (U := U.calling g mk a) (Vm.Alike.refl U.vm) q.2.2.2.1, nK.same (s := U) (U := U.calling g mk a) rfl q.2.2.2.2⟩
theorem g_preS {D : va_G} {tys : List (ClassId × FieldType)} {A : Nat → Prop} {G : gw_G} {s : State} {H : Heap} {As : List Value} (hK : kK D tys s) (hP : gw_P D vwCl A G H) : PreS s H (g_pre D tys G H.size As) As := ⟨g_blind, fun U hU hW => ⟨rfl, by rw [hU], by rw [hU]; exact hP.triv, va_K.moved hW.alike hK.1, hK.2.warm hW⟩⟩
theorem g_preV {D : va_G} {tys : List (ClassId × FieldType)} {A : Nat → Prop} {G : gw_G} {s : State} {H : Heap} {As : List Value} {b ci : Nat} {q : vw_C} {fs : List Value} (hK : kK D tys s) (hP : gw_P D vwCl A G H) (hc : vwCl[ci]? = some q) (he : G b = some (.inr (ci, fs))) : PreV s H q.1 b (g_pre D tys G H.size (.ref b :: As)) As := ⟨g_blind, gw_recv hK.1 hP hc he, fun U hU hW => ⟨rfl, by rw [hU], by rw [hU]; exact hP.triv, va_K.moved hW.alike hK.1, hK.2.warm hW⟩⟩
theorem v_blind {av : List Value} : FrameBlind (va_Pc av (fun _ => True)) := fun _ _ _ _ q => q
theorem v_preS {s : State} {H : Heap} {As : List Value} : PreS s H (va_Pc As (fun _ => True)) As := ⟨v_blind, fun _ _ _ => ⟨rfl, trivial⟩⟩
section LQ
variable {p : Program} {l : Launch} {e : Env} {R : Room} {s : State} {m : MethodId} {args : Array Value} {below : List Frame} {meth : Method} {c : Code} {H : Heap} {locs : List Loc} {cells slots : Nat} {Q : State → Prop}
variable {cc : ByteArray} {pc : Nat} {ls : Array Slot} {rest : List Value} {D : va_G} {cl : List vw_C} {A : Nat → Prop} {a : Nat} {tys : List (ClassId × FieldType)} {G : gw_G} {H0 : Heap}
theorem gw_astqO (hexec : p.tables.exec = Jvm.exec) (hb : c.code = cc) (hK : va_K D cl tys s) (hP : gw_P D cl A G H) (hS : va_S A H0 H locs) (t0 : Nat) {E : String} {cA : ClassId} {n : Nat} {v : Option Nat} {f : Nat → Option Nat} (ha : G a = some (.inl (cA, n, .inr (.inr (.inr (.inr f)))))) (ht : tys[t0]? = some (cA, .object E)) (hr : ∀ y, v = some y → va_Any E s H y) {i : Int32} (hin : vp_in i n) (hdg : decode cc pc = .ok (.aastore, 1))
    (kk : ∀ (H1 : Heap) (locs1 : List Loc), gw_P D cl A (va_up G a (some (.inl (cA, n, .inr (.inr (.inr (.inr (va_up f i.toNatClampNeg v)))))))) H1 → va_S A H0 H1 locs1 → W p l e R s m args below meth c H1 locs1 cells slots Q (F0 m (pc + 1) ls rest)) : W p l e R s m args below meth c H locs cells slots Q (F0 m pc ls (va_rf v :: .int i :: .ref a :: rest)) := by
  cases v with
  | none => exact gw_astqN hexec hb hK hP hS t0 ha ht hin hdg kk
  | some y => exact gw_astqM hexec hb hK hP hS t0 ha ht (hr y rfl) hin hdg kk
end LQ
