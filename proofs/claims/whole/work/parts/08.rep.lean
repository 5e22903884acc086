abbrev kS : Nat := 0
abbrev kW : Nat := 1
abbrev kM : Nat := 2
abbrev kC : Nat := 3
abbrev kB : Nat := 4
abbrev kR : Nat := 5
/-! THE CLASS'S CELLS, and the mathematical state that they hold. -/
abbrev qv (f : Nat → Option Nat) : (Nat → Int32) ⊕ (Nat → Int64) ⊕ (Nat → UInt32) ⊕ (Nat → UInt64) ⊕ (Nat → Option Nat) := .inr (.inr (.inr (.inr f)))
/-- the reference r is the value v -/
def c_val (G : gw_G) (ad : Nat → Nat) (v : sV) (r : Option Nat) : Prop := match v with
  | none => r = none
  | some (.inl n) => ∃ a, r = some a ∧ G a = some (.inr (kW, [.int n]))
  | some (.inr i) => r = some (ad i)
/-- the cell of the object i -/
def c_cell (σ : sS) (ad fa : Nat → Nat) (ρ : Nat → Int32) (i : Nat) : va_E :=
  if s_kd σ i = 2 then .inr (kM, [.int (nI i), .int (ρ i), .int (nI (s_tt σ i)), .int (nI (s_dd σ i))])
  else if s_kd σ i = 3 then .inr (kC, [.int (nI i), .int (ρ i), va_rf ((s_sn σ i).map ad), .int (s_de σ i), .int (nI (s_ht σ i)), .ref (fa i), .ref (ad (s_og σ i))])
  else .inr (kB, [.int (nI i), .int (ρ i), va_rf ((s_sn σ i).map ad), .int (s_de σ i), .int (nI (s_ht σ i)), .ref (fa i), .ref (ad (s_og σ i)), .int (s_ct σ i)])
def c_Rep (w n rd md : Nat) (cV cT : ClassId) (σ : sS) (x ra rt : Nat) (ad fa : Nat → Nat) (ρ : Nat → Int32) (fr : Nat → Nat → Option Nat) (rr rf : Nat → Option Nat) (rc wl el cr : Int32) (G : gw_G) : Prop :=
  G x = some (.inr (kS, [.int (nI w), .int (nI n), .ref ra, .int (nI md), .ref rt, .int rc, .int (nI rd), .int wl, .int el, .int cr])) ∧
  G ra = some (.inl (cV, 16, qv rr)) ∧
  G rt = some (.inl (cT, n, qv rf)) ∧
  ra ≠ rt ∧
  (∀ k, k < 16 → c_val G ad (s_rg σ k) (rr k)) ∧
  (∀ i, s_kd σ i ≠ 0 → G (ad i) = some (c_cell σ ad fa ρ i)) ∧
  (∀ i, s_isC σ i → G (fa i) = some (.inl (cV, s_rm σ i, qv (fr i))) ∧ fa i ≠ ra ∧ fa i ≠ rt) ∧
  (∀ i, s_isC σ i → ∀ k, k < s_rm σ i → c_val G ad (s_fl σ i k) (fr i k)) ∧
  (∀ i j, s_isC σ i → s_isC σ j → fa i = fa j → i = j) ∧
  (∀ i, s_kd σ i ≠ 0 → ∃ k, k ≤ rd ∧ ρ i = nI k)
theorem c_val_up {G : gw_G} {ad : Nat → Nat} {v : sV} {r : Option Nat} {q : Nat} {e : Option va_E} (h : c_val G ad v r) (hq : ∀ m, G q ≠ some (.inr (kW, [.int m]))) : c_val (va_up G q e) ad v r := by
  unfold c_val at h ⊢
  split
  · exact h
  · rename_i m
    obtain ⟨a, h1, h2⟩ := h
    refine ⟨a, h1, gw_up h2 (fun z => ?_)⟩
    subst z
    exact hq m h2
  · exact h
theorem c_val_ad {G : gw_G} {ad ad' : Nat → Nat} {v : sV} {r : Option Nat} (h : c_val G ad v r) (hv : ∀ i, v = some (.inr i) → ad' i = ad i) : c_val G ad' v r := by
  unfold c_val at h ⊢
  split
  · exact h
  · exact h
  · rename_i i
    rw [hv i rfl]
    exact h
theorem c_cell_id (σ : sS) (ad fa : Nat → Nat) (ρ : Nat → Int32) (i : Nat) : ∃ (ci : Nat) (fs : List Value), c_cell σ ad fa ρ i = .inr (ci, .int (nI i) :: fs) ∧ ci ≠ kW ∧ ci ≠ kS := by
  unfold c_cell
  split
  · exact ⟨kM, _, rfl, by decide, by decide⟩
  · split
    · exact ⟨kC, _, rfl, by decide, by decide⟩
    · exact ⟨kB, _, rfl, by decide, by decide⟩
theorem c_cell_ni {σ : sS} {ad fa : Nat → Nat} {ρ : Nat → Int32} {i : Nat} (z : ClassId × vp_A) : c_cell σ ad fa ρ i ≠ .inl z := by
  obtain ⟨ci, fs, h, -⟩ := c_cell_id σ ad fa ρ i
  rw [h]
  exact fun q => by cases q
theorem c_cell_nk {σ : sS} {ad fa : Nat → Nat} {ρ : Nat → Int32} {i k : Nat} (hk : k = kW ∨ k = kS) (fs : List Value) : c_cell σ ad fa ρ i ≠ .inr (k, fs) := by
  obtain ⟨ci, fs', h, h1, h2⟩ := c_cell_id σ ad fa ρ i
  rw [h]
  intro q
  cases q
  rcases hk with e | e
  · exact h1 e
  · exact h2 e
theorem c_cell_inj {σ τ : sS} {ad fa ad' fa' : Nat → Nat} {ρ ρ' : Nat → Int32} {i j : Nat} (hi : i < 2 ^ 31) (hj : j < 2 ^ 31) (h : c_cell σ ad fa ρ i = c_cell τ ad' fa' ρ' j) : i = j := by
  obtain ⟨ci, fs, h1, -⟩ := c_cell_id σ ad fa ρ i
  obtain ⟨cj, fs', h2, -⟩ := c_cell_id τ ad' fa' ρ' j
  rw [h1, h2] at h
  have h3 := Sum.inr.inj h
  have h4 : (Value.int (nI i) :: fs) = (Value.int (nI j) :: fs') := congrArg Prod.snd h3
  have h5 : Value.int (nI i) = Value.int (nI j) := (List.cons.inj h4).1
  exact (nI_eq hi hj).mp (Value.int.inj h5)
section CREP
variable {w n rd md : Nat} {cV cT : ClassId} {σ : sS} {x ra rt : Nat} {ad fa : Nat → Nat} {ρ : Nat → Int32} {fr : Nat → Nat → Option Nat} {rr rf : Nat → Option Nat} {rc wl el cr : Int32} {G : gw_G}
theorem c_Rep.inj (h : c_Rep w n rd md cV cT σ x ra rt ad fa ρ fr rr rf rc wl el cr G) (hI : s_I σ) (hm : s_md σ < 2 ^ 31) {i j : Nat} (hi : s_kd σ i ≠ 0) (hj : s_kd σ j ≠ 0) (e : ad i = ad j) : i = j := by
  obtain ⟨-, -, -, -, -, h6, -⟩ := h
  have a1 := h6 i hi
  rw [e, h6 j hj] at a1
  exact (c_cell_inj (by have := (hI.2.1 j hj).2.1; omega) (by have := (hI.2.1 i hi).2.1; omega) (Option.some.inj a1)).symm
/-- a new cell somewhere changes nothing -/
theorem c_Rep.fresh {q : Nat} {e : Option va_E} (h : c_Rep w n rd md cV cT σ x ra rt ad fa ρ fr rr rf rc wl el cr G) (hq : G q = none) : c_Rep w n rd md cV cT σ x ra rt ad fa ρ fr rr rf rc wl el cr (va_up G q e) := by
  obtain ⟨h1, h2, h3, h4, h5, h6, h7, h8, h9, h10⟩ := h
  have hv : ∀ m, G q ≠ some (.inr (kW, [.int m])) := fun m z => by rw [hq] at z; cases z
  exact ⟨gw_up h1 (gw_neN h1 hq), gw_up h2 (gw_neN h2 hq), gw_up h3 (gw_neN h3 hq), h4, fun k hk => c_val_up (h5 k hk) hv, fun i hi => gw_up (h6 i hi) (gw_neN (h6 i hi) hq), fun i hi => ⟨gw_up (h7 i hi).1 (gw_neN (h7 i hi).1 hq), (h7 i hi).2⟩, fun i hi k hk => c_val_up (h8 i hi k hk) hv, h9, h10⟩
/-- a register -/
theorem c_Rep.reg {k : Nat} {v : sV} {r : Option Nat} (h : c_Rep w n rd md cV cT σ x ra rt ad fa ρ fr rr rf rc wl el cr G) (hv : c_val G ad v r) : c_Rep w n rd md cV cT (s_setR σ k v) x ra rt ad fa ρ fr (va_up rr k r) rf rc wl el cr (va_up G ra (some (.inl (cV, 16, qv (va_up rr k r))))) := by
  obtain ⟨h1, h2, h3, h4, h5, h6, h7, h8, h9, h10⟩ := h
  have hw : ∀ m, G ra ≠ some (.inr (kW, [.int m])) := fun m z => by rw [h2] at z; cases z
  refine ⟨gw_up h1 (gw_ne h1 h2 (fun z => by cases z)), va_up_self _ _ _, gw_up h3 (Ne.symm h4), h4, fun j hj => ?_, fun i hi => gw_up (h6 i hi) (gw_ne (h6 i hi) h2 (c_cell_ni _)), fun i hi => ⟨gw_up (h7 i hi).1 (h7 i hi).2.1, (h7 i hi).2⟩, fun i hi k hk => c_val_up (h8 i hi k hk) hw, h9, h10⟩
  show c_val _ ad (va_up (s_rg σ) k v j) (va_up rr k r j)
  by_cases e : j = k
  · subst e
    rw [va_up_self, va_up_self]
    exact c_val_up hv hw
  · rw [va_up_ne _ _ e, va_up_ne _ _ e]
    exact c_val_up (h5 j hj) hw
/-- the room's own numbers -/
theorem c_Rep.own {rd' md' : Nat} {rc' wl' el' cr' : Int32} (h : c_Rep w n rd md cV cT σ x ra rt ad fa ρ fr rr rf rc wl el cr G) (hd : rd ≤ rd') : c_Rep w n rd' md' cV cT σ x ra rt ad fa ρ fr rr rf rc' wl' el' cr' (va_up G x (some (.inr (kS, [.int (nI w), .int (nI n), .ref ra, .int (nI md'), .ref rt, .int rc', .int (nI rd'), .int wl', .int el', .int cr'])))) := by
  obtain ⟨h1, h2, h3, h4, h5, h6, h7, h8, h9, h10⟩ := h
  have hw : ∀ m, G x ≠ some (.inr (kW, [.int m])) := fun m z => by rw [h1] at z; cases z
  refine ⟨va_up_self _ _ _, gw_up h2 (gw_ne h2 h1 (fun z => by cases z)), gw_up h3 (gw_ne h3 h1 (fun z => by cases z)), h4, fun k hk => c_val_up (h5 k hk) hw, fun i hi => gw_up (h6 i hi) (gw_ne (h6 i hi) h1 (c_cell_nk (Or.inr rfl) _)), fun i hi => ⟨gw_up (h7 i hi).1 (gw_ne (h7 i hi).1 h1 (fun z => by cases z)), (h7 i hi).2⟩, fun i hi k hk => c_val_up (h8 i hi k hk) hw, h9, fun i hi => ?_⟩
  obtain ⟨k, hk, e⟩ := h10 i hi
  exact ⟨k, Nat.le_trans hk hd, e⟩
/-- the row of what was reached -/
theorem c_Rep.row {rf' : Nat → Option Nat} (h : c_Rep w n rd md cV cT σ x ra rt ad fa ρ fr rr rf rc wl el cr G) : c_Rep w n rd md cV cT σ x ra rt ad fa ρ fr rr rf' rc wl el cr (va_up G rt (some (.inl (cT, n, qv rf')))) := by
  obtain ⟨h1, h2, h3, h4, h5, h6, h7, h8, h9, h10⟩ := h
  have hw : ∀ m, G rt ≠ some (.inr (kW, [.int m])) := fun m z => by rw [h3] at z; cases z
  exact ⟨gw_up h1 (gw_ne h1 h3 (fun z => by cases z)), gw_up h2 h4, va_up_self _ _ _, h4, fun k hk => c_val_up (h5 k hk) hw, fun i hi => gw_up (h6 i hi) (gw_ne (h6 i hi) h3 (c_cell_ni _)), fun i hi => ⟨gw_up (h7 i hi).1 (h7 i hi).2.2, (h7 i hi).2⟩, fun i hi k hk => c_val_up (h8 i hi k hk) hw, h9, h10⟩
/-- one object's own cell: its numbers, its sender, its mark -/
theorem c_Rep.obj {τ : sS} {ρ' : Nat → Int32} {i : Nat} (h : c_Rep w n rd md cV cT σ x ra rt ad fa ρ fr rr rf rc wl el cr G) (hI : s_I σ) (hm : s_md σ < 2 ^ 31) (hi : s_kd σ i ≠ 0) (e1 : s_rg τ = s_rg σ) (e3 : s_kd τ = s_kd σ) (e4 : s_rm τ = s_rm σ) (e5 : s_fl τ = s_fl σ) (hc : ∀ j, j ≠ i → c_cell τ ad fa ρ' j = c_cell σ ad fa ρ j) (hρ : ∀ j, s_kd σ j ≠ 0 → ∃ k, k ≤ rd ∧ ρ' j = nI k) : c_Rep w n rd md cV cT τ x ra rt ad fa ρ' fr rr rf rc wl el cr (va_up G (ad i) (some (c_cell τ ad fa ρ' i))) := by
  have hinj := fun {a b : Nat} => h.inj hI hm (i := a) (j := b)
  obtain ⟨h1, h2, h3, h4, h5, h6, h7, h8, h9, h10⟩ := h
  have ho := h6 i hi
  have hw : ∀ m, G (ad i) ≠ some (.inr (kW, [.int m])) := fun m z => by
    rw [ho] at z
    exact c_cell_nk (Or.inl rfl) _ (Option.some.inj z)
  unfold c_Rep s_isC
  rw [e1, e3, e4, e5]
  refine ⟨gw_up h1 (gw_ne h1 ho (fun z => c_cell_nk (Or.inr rfl) _ z.symm)), gw_up h2 (gw_ne h2 ho (fun z => c_cell_ni _ z.symm)), gw_up h3 (gw_ne h3 ho (fun z => c_cell_ni _ z.symm)), h4, fun k hk => c_val_up (h5 k hk) hw, fun j hj => ?_, fun j hj => ⟨gw_up (h7 j hj).1 (gw_ne (h7 j hj).1 ho (fun z => c_cell_ni _ z.symm)), (h7 j hj).2⟩, fun j hj k hk => c_val_up (h8 j hj k hk) hw, h9, hρ⟩
  by_cases e : j = i
  · subst e
    exact va_up_self _ _ _
  · rw [hc j e]
    exact gw_up (h6 j hj) (fun z => e (hinj hj hi z))
/-- one field of one context -/
theorem c_Rep.fld {i k : Nat} {v : sV} {r : Option Nat} (h : c_Rep w n rd md cV cT σ x ra rt ad fa ρ fr rr rf rc wl el cr G) (hi : s_isC σ i) (hv : c_val G ad v r) : c_Rep w n rd md cV cT (s_setF σ i k v) x ra rt ad fa ρ (va_up fr i (va_up (fr i) k r)) rr rf rc wl el cr (va_up G (fa i) (some (.inl (cV, s_rm σ i, qv (va_up (fr i) k r))))) := by
  obtain ⟨h1, h2, h3, h4, h5, h6, h7, h8, h9, h10⟩ := h
  obtain ⟨ho, n1, n2⟩ := h7 i hi
  have hw : ∀ m, G (fa i) ≠ some (.inr (kW, [.int m])) := fun m z => by rw [ho] at z; cases z
  refine ⟨gw_up h1 (gw_ne h1 ho (fun z => by cases z)), gw_up h2 (Ne.symm n1), gw_up h3 (Ne.symm n2), h4, fun k hk => c_val_up (h5 k hk) hw, fun j hj => gw_up (h6 j hj) (gw_ne (h6 j hj) ho (c_cell_ni _)), fun j hj => ⟨?_, (h7 j hj).2⟩, fun j hj q hq => ?_, h9, h10⟩
  · show va_up G (fa i) _ (fa j) = some (.inl (cV, s_rm σ j, qv (va_up fr i (va_up (fr i) k r) j)))
    by_cases e : j = i
    · subst e
      rw [va_up_self, va_up_self]
    · rw [va_up_ne _ _ (fun z => e (h9 j i hj hi z)), va_up_ne _ _ e]
      exact (h7 j hj).1
  · show c_val _ ad (s_upF (s_fl σ) i k v j q) (va_up fr i (va_up (fr i) k r) j q)
    have hq : q < s_rm σ j := hq
    unfold s_upF
    by_cases e : j = i
    · subst e
      rw [va_up_self, va_up_self]
      by_cases e2 : q = k
      · subst e2
        rw [va_up_self, va_up_self]
        exact c_val_up hv hw
      · rw [va_up_ne _ _ e2, va_up_ne _ _ e2]
        exact c_val_up (h8 j hj q hq) hw
    · rw [va_up_ne _ _ e, va_up_ne _ _ e]
      exact c_val_up (h8 j hj q hq) hw
/-- the cells of the others, with one more object named -/
theorem c_cell_old {τ : sS} {id q fq : Nat} {ρ0 : Int32} (hI : s_I σ) (hid : s_kd σ id = 0) {j : Nat} (hj : s_kd σ j ≠ 0) (e3 : s_kd τ j = s_kd σ j) (e4 : s_tt τ j = s_tt σ j) (e5 : s_dd τ j = s_dd σ j) (e6 : s_sn τ j = s_sn σ j) (e7 : s_de τ j = s_de σ j) (e8 : s_ht τ j = s_ht σ j) (e9 : s_og τ j = s_og σ j) (e10 : s_ct τ j = s_ct σ j) : c_cell τ (va_up ad id q) (va_up fa id fq) (va_up ρ id ρ0) j = c_cell σ ad fa ρ j := by
  have ne : ∀ a, s_kd σ a ≠ 0 → a ≠ id := fun a ha z => ha (z ▸ hid)
  unfold c_cell
  rw [e3, e4, e5, e6, e7, e8, e9, e10, va_up_ne _ _ (ne j hj), va_up_ne _ _ (ne j hj)]
  have hs : s_isC σ j → (s_sn σ j).map (va_up ad id q) = (s_sn σ j).map ad := fun hc => by
    cases hs : s_sn σ j with
    | none => rfl
    | some a =>
      have ha := (hI.2.2.2.2.2.2 j hc).1 a hs
      show some (va_up ad id q a) = some (ad a)
      rw [va_up_ne _ _ (ne a (by rcases ha with e | e <;> omega))]
  split
  · rfl
  · rename_i k2
    split
    · rename_i k3
      have ho := hI.2.2.2.2.1 j k3
      rw [hs (Or.inl k3), va_up_ne _ _ (ne _ (by omega))]
    · rename_i k3
      have k4 : s_kd σ j = 4 := by
        have := (hI.2.1 j hj).2.2
        omega
      have ho := hI.2.2.2.2.2.1 j k4
      rw [hs (Or.inr k4), va_up_ne _ _ (ne _ (by omega))]
theorem c_Rep.newM {q t d : Nat} (h : c_Rep w n rd md cV cT σ x ra rt ad fa ρ fr rr rf rc wl el cr G) (hI : s_I σ) (hq : G q = some (.inr (kM, [.int (nI (s_md σ + 2)), .int 0, .int (nI t), .int (nI d)]))) : c_Rep w n rd md cV cT (s_newM σ t d) x ra rt (va_up ad (s_md σ + 2) q) (va_up fa (s_md σ + 2) 0) (va_up ρ (s_md σ + 2) 0) fr rr rf rc wl el cr G := by
  obtain ⟨h1, h2, h3, h4, h5, h6, h7, h8, h9, h10⟩ := h
  have hid : s_kd σ (s_md σ + 2) = 0 := by
    cases hz : s_kd σ (s_md σ + 2) with
    | zero => rfl
    | succ a => have := (hI.2.1 (s_md σ + 2) (by omega)).2.1; omega
  have ne : ∀ a, s_kd σ a ≠ 0 → a ≠ s_md σ + 2 := fun a ha z => ha (z ▸ hid)
  have nc : ∀ a, s_isC σ a → a ≠ s_md σ + 2 := fun a ha => ne a (by rcases ha with e | e <;> omega)
  have c0 : ∀ i, s_isC (s_newM σ t d) i → s_isC σ i := fun i hi => by
    have hi : va_up (s_kd σ) (s_md σ + 2) 2 i = 3 ∨ va_up (s_kd σ) (s_md σ + 2) 2 i = 4 := hi
    by_cases e : i = s_md σ + 2
    · rw [e, va_up_self] at hi; omega
    · rw [va_up_ne _ _ e] at hi; exact hi
  refine ⟨h1, h2, h3, h4, fun k hk => c_val_ad (h5 k hk) (fun i e => va_up_ne _ _ (ne i (hI.2.2.1 k hk i e))), fun i hi => ?_, fun i hi => ?_, fun i hi k hk => ?_, fun i j hi hj e => ?_, fun i hi => ?_⟩
  · have hi : va_up (s_kd σ) (s_md σ + 2) 2 i ≠ 0 := hi
    by_cases e : i = s_md σ + 2
    · subst e
      rw [va_up_self]
      unfold c_cell
      rw [if_pos (show s_kd (s_newM σ t d) (s_md σ + 2) = 2 from va_up_self _ _ _), show s_tt (s_newM σ t d) (s_md σ + 2) = t from va_up_self _ _ _, show s_dd (s_newM σ t d) (s_md σ + 2) = d from va_up_self _ _ _, va_up_self]
      exact hq
    · rw [va_up_ne _ _ e] at hi ⊢
      rw [c_cell_old (τ := s_newM σ t d) hI hid hi (va_up_ne _ _ e) (va_up_ne _ _ e) (va_up_ne _ _ e) rfl rfl rfl rfl rfl]
      exact h6 i hi
  · have hc := c0 i hi
    rw [va_up_ne _ _ (nc i hc)]
    exact h7 i hc
  · have hc := c0 i hi
    exact c_val_ad (h8 i hc k hk) (fun j e => va_up_ne _ _ (ne j ((hI.2.2.2.2.2.2 i hc).2.2.2.2 k hk j e)))
  · have ci := c0 i hi
    have cj := c0 j hj
    rw [va_up_ne _ _ (nc i ci), va_up_ne _ _ (nc j cj)] at e
    exact h9 i j ci cj e
  · have hi : va_up (s_kd σ) (s_md σ + 2) 2 i ≠ 0 := hi
    by_cases e : i = s_md σ + 2
    · subst e
      exact ⟨0, Nat.zero_le _, va_up_self _ _ _⟩
    · rw [va_up_ne _ _ e] at hi
      rw [va_up_ne _ _ e]
      exact h10 i hi
theorem c_Rep.newX {q fq kk ht rm og : Nat} {sd : Option Nat} {de ct : Int32} (h : c_Rep w n rd md cV cT σ x ra rt ad fa ρ fr rr rf rc wl el cr G) (hI : s_I σ) (hkk : kk = 3 ∨ kk = 4) (hog : s_kd σ og ≠ 0) (hsd : ∀ j, sd = some j → s_kd σ j ≠ 0)
    (hq : G q = some (if kk = 3 then .inr (kC, [.int (nI (s_md σ + 1)), .int 0, va_rf (sd.map ad), .int de, .int (nI ht), .ref fq, .ref (ad og)]) else .inr (kB, [.int (nI (s_md σ + 1)), .int 0, va_rf (sd.map ad), .int de, .int (nI ht), .ref fq, .ref (ad og), .int ct])))
    (hf : G fq = some (.inl (cV, rm, qv (fun _ => none)))) (n1 : fq ≠ ra) (n2 : fq ≠ rt) (n3 : ∀ i, s_isC σ i → fa i ≠ fq) : c_Rep w n rd md cV cT (s_newX σ kk sd de ht rm og ct) x ra rt (va_up ad (s_md σ + 1) q) (va_up fa (s_md σ + 1) fq) (va_up ρ (s_md σ + 1) 0) (va_up fr (s_md σ + 1) (fun _ => none)) rr rf rc wl el cr G := by
  obtain ⟨h1, h2, h3, h4, h5, h6, h7, h8, h9, h10⟩ := h
  have hid : s_kd σ (s_md σ + 1) = 0 := by
    cases hz : s_kd σ (s_md σ + 1) with
    | zero => rfl
    | succ a => have := (hI.2.1 (s_md σ + 1) (by omega)).2.1; omega
  have ne : ∀ a, s_kd σ a ≠ 0 → a ≠ s_md σ + 1 := fun a ha z => ha (z ▸ hid)
  have nc : ∀ a, s_isC σ a → a ≠ s_md σ + 1 := fun a ha => ne a (by rcases ha with e | e <;> omega)
  have c0 : ∀ i, s_isC (s_newX σ kk sd de ht rm og ct) i → i ≠ s_md σ + 1 → s_isC σ i := fun i hi e => by
    have hi : va_up (s_kd σ) (s_md σ + 1) kk i = 3 ∨ va_up (s_kd σ) (s_md σ + 1) kk i = 4 := hi
    rw [va_up_ne _ _ e] at hi
    exact hi
  refine ⟨h1, h2, h3, h4, fun k hk => c_val_ad (h5 k hk) (fun i e => va_up_ne _ _ (ne i (hI.2.2.1 k hk i e))), fun i hi => ?_, fun i hi => ?_, fun i hi k hk => ?_, fun i j hi hj e => ?_, fun i hi => ?_⟩
  · have hi : va_up (s_kd σ) (s_md σ + 1) kk i ≠ 0 := hi
    by_cases e : i = s_md σ + 1
    · subst e
      rw [va_up_self, hq]
      unfold c_cell
      rw [show s_kd (s_newX σ kk sd de ht rm og ct) (s_md σ + 1) = kk from va_up_self _ _ _, show s_sn (s_newX σ kk sd de ht rm og ct) (s_md σ + 1) = sd from va_up_self _ _ _, show s_de (s_newX σ kk sd de ht rm og ct) (s_md σ + 1) = de from va_up_self _ _ _, show s_ht (s_newX σ kk sd de ht rm og ct) (s_md σ + 1) = ht from va_up_self _ _ _, show s_og (s_newX σ kk sd de ht rm og ct) (s_md σ + 1) = og from va_up_self _ _ _, show s_ct (s_newX σ kk sd de ht rm og ct) (s_md σ + 1) = ct from va_up_self _ _ _, va_up_self, va_up_self, va_up_ne _ _ (ne og hog)]
      have hs : sd.map (va_up ad (s_md σ + 1) q) = sd.map ad := by
        cases sd with
        | none => rfl
        | some a =>
          show some (va_up ad (s_md σ + 1) q a) = some (ad a)
          rw [va_up_ne _ _ (ne a (hsd a rfl))]
      rw [hs, if_neg (show ¬ kk = 2 by omega)]
    · rw [va_up_ne _ _ e] at hi ⊢
      rw [c_cell_old (τ := s_newX σ kk sd de ht rm og ct) hI hid hi (va_up_ne _ _ e) rfl rfl (va_up_ne _ _ e) (va_up_ne _ _ e) (va_up_ne _ _ e) (va_up_ne _ _ e) (va_up_ne _ _ e)]
      exact h6 i hi
  · show G (va_up fa (s_md σ + 1) fq i) = some (.inl (cV, va_up (s_rm σ) (s_md σ + 1) rm i, qv (va_up fr (s_md σ + 1) (fun _ => none) i))) ∧ va_up fa (s_md σ + 1) fq i ≠ ra ∧ va_up fa (s_md σ + 1) fq i ≠ rt
    by_cases e : i = s_md σ + 1
    · subst e
      rw [va_up_self, va_up_self, va_up_self]
      exact ⟨hf, n1, n2⟩
    · rw [va_up_ne _ _ e, va_up_ne _ _ e, va_up_ne _ _ e]
      exact h7 i (c0 i hi e)
  · show c_val G _ (va_up (s_fl σ) (s_md σ + 1) (fun _ => none) i k) (va_up fr (s_md σ + 1) (fun _ => none) i k)
    have hk : k < va_up (s_rm σ) (s_md σ + 1) rm i := hk
    by_cases e : i = s_md σ + 1
    · subst e
      rw [va_up_self, va_up_self]
      exact rfl
    · rw [va_up_ne _ _ e] at hk
      rw [va_up_ne _ _ e, va_up_ne _ _ e]
      have hc := c0 i hi e
      exact c_val_ad (h8 i hc k hk) (fun j z => va_up_ne _ _ (ne j ((hI.2.2.2.2.2.2 i hc).2.2.2.2 k hk j z)))
  · by_cases ei : i = s_md σ + 1 <;> by_cases ej : j = s_md σ + 1
    · rw [ei, ej]
    · rw [ei, va_up_self, va_up_ne _ _ ej] at e
      exact absurd e.symm (n3 j (c0 j hj ej))
    · rw [ej, va_up_self, va_up_ne _ _ ei] at e
      exact absurd e (n3 i (c0 i hi ei))
    · rw [va_up_ne _ _ ei, va_up_ne _ _ ej] at e
      exact h9 i j (c0 i hi ei) (c0 j hj ej) e
  · have hi : va_up (s_kd σ) (s_md σ + 1) kk i ≠ 0 := hi
    by_cases e : i = s_md σ + 1
    · subst e
      exact ⟨0, Nat.zero_le _, va_up_self _ _ _⟩
    · rw [va_up_ne _ _ e] at hi
      rw [va_up_ne _ _ e]
      exact h10 i hi
end CREP
/-! A SURVEY, as lists of identities -/
def s_add (L : List Nat) (v : sV) : List Nat := match v with
  | some (.inr i) => if i ∈ L then L else L ++ [i]
  | _ => L
def s_sum (f : Nat → Nat) (L : List Nat) : Nat := (L.map f).sum
theorem s_sum_push (f : Nat → Nat) (L : List Nat) (i : Nat) : s_sum f (L ++ [i]) = s_sum f L + f i := by
  unfold s_sum
  rw [List.map_append, List.sum_append]
  simp
theorem s_add_pre (L : List Nat) (v : sV) : ∃ M, s_add L v = L ++ M := by
  unfold s_add
  split
  · split
    · exact ⟨[], (List.append_nil L).symm⟩
    · exact ⟨_, rfl⟩
  · exact ⟨[], (List.append_nil L).symm⟩
theorem s_add_in {L : List Nat} {i : Nat} : i ∈ s_add L (some (.inr i)) := by
  show i ∈ if i ∈ L then L else L ++ [i]
  split
  · assumption
  · exact List.mem_append_right _ List.mem_cons_self
theorem s_add_sub {L : List Nat} {v : sV} {i : Nat} (h : i ∈ L) : i ∈ s_add L v := by
  obtain ⟨M, e⟩ := s_add_pre L v
  rw [e]
  exact List.mem_append_left _ h
/-- a list of reachable objects, each once -/
def s_part (σ : sS) (L : List Nat) : Prop := L.Nodup ∧ ∀ i, i ∈ L → s_rch σ i
theorem s_part_nil {σ : sS} : s_part σ [] := ⟨List.nodup_nil, fun i h => by cases h⟩
theorem s_part_push {σ : sS} {L : List Nat} {i : Nat} (h : s_part σ L) (hi : s_rch σ i) (hn : i ∉ L) : s_part σ (L ++ [i]) := by
  refine ⟨?_, fun j hj => ?_⟩
  · rw [List.nodup_append]
    refine ⟨h.1, by simp, fun a ha b hb e => ?_⟩
    rw [List.mem_singleton] at hb
    exact hn (hb ▸ e ▸ ha)
  · rcases List.mem_append.mp hj with q | q
    · exact h.2 j q
    · rw [List.mem_singleton.mp q]; exact hi
theorem s_part_add {σ : sS} {L : List Nat} {v : sV} (h : s_part σ L) (hv : ∀ i, v = some (.inr i) → s_rch σ i) : s_part σ (s_add L v) := by
  unfold s_add
  split
  · rename_i i
    split
    · exact h
    · exact s_part_push h (hv i rfl) (by assumption)
  · exact h
theorem s_part_W {σ : sS} {L : List Nat} (h : s_part σ L) (hI : s_I σ) : s_sum (s_wd σ) L ≤ s_W σ := sm_sub _ _ h.1 (fun i hi => ((s_all_enum hI).2 i).mpr (h.2 i hi))
theorem s_part_N {σ : sS} {L : List Nat} (h : s_part σ L) (hI : s_I σ) : s_sum (s_en σ) L ≤ s_N σ := sm_sub _ _ h.1 (fun i hi => ((s_all_enum hI).2 i).mpr (h.2 i hi))
theorem s_sum_len {f : Nat → Nat} (hf : ∀ i, 1 ≤ f i) : ∀ L : List Nat, L.length ≤ s_sum f L
  | [] => Nat.zero_le _
  | a :: L => by
    have := s_sum_len hf L
    have := hf a
    unfold s_sum at *
    simp only [List.map_cons, List.sum_cons, List.length_cons]
    omega
theorem s_en_pos (σ : sS) (i : Nat) : 1 ≤ s_en σ i := by
  unfold s_en
  split <;> omega
theorem s_part_len {w n : Nat} {σ : sS} {L : List Nat} (h : s_part σ L) (hO : s_OK w n σ) : L.length + 2 ≤ n := by
  have h1 := s_sum_len (s_en_pos σ) L
  have h2 := s_part_N h hO.1
  have h3 := hO.2.2
  omega
theorem s_part_enum {σ : sS} {L : List Nat} (h : s_part σ L) (hr : ∀ r, r < 16 → ∀ j, s_rg σ r = some (.inr j) → j ∈ L) (he : ∀ j, j ∈ L → ∀ k, s_edge σ j k → k ∈ L) : s_enum σ L := ⟨h.1, fun i => ⟨h.2 i, fun q => q (fun i => i ∈ L) hr (fun j k hj hjk => he j hj k hjk)⟩⟩
