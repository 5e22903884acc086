/-! THE STATE that the document speaks of, as a mathematical value; what is reachable, and what it takes. -/
/-- a value: nil, a number, an object by its identity -/
abbrev sV : Type := Option (Int32 ⊕ Nat)
/-- registers; how many were made; an object's kind (0 none, 2 a method, 3 a method context, 4 a block context); a method's T and D; a context's sender, dead, height, room, fields, origin (its method or home), count -/
abbrev sS : Type := (Nat → sV) × Nat × (Nat → Nat) × (Nat → Nat) × (Nat → Nat) × (Nat → Option Nat) × (Nat → Int32) × (Nat → Nat) × (Nat → Nat) × (Nat → Nat → sV) × (Nat → Nat) × (Nat → Int32)
def s_rg (σ : sS) : Nat → sV := σ.1
def s_md (σ : sS) : Nat := σ.2.1
def s_kd (σ : sS) : Nat → Nat := σ.2.2.1
def s_tt (σ : sS) : Nat → Nat := σ.2.2.2.1
def s_dd (σ : sS) : Nat → Nat := σ.2.2.2.2.1
def s_sn (σ : sS) : Nat → Option Nat := σ.2.2.2.2.2.1
def s_de (σ : sS) : Nat → Int32 := σ.2.2.2.2.2.2.1
def s_ht (σ : sS) : Nat → Nat := σ.2.2.2.2.2.2.2.1
def s_rm (σ : sS) : Nat → Nat := σ.2.2.2.2.2.2.2.2.1
def s_fl (σ : sS) : Nat → Nat → sV := σ.2.2.2.2.2.2.2.2.2.1
def s_og (σ : sS) : Nat → Nat := σ.2.2.2.2.2.2.2.2.2.2.1
def s_ct (σ : sS) : Nat → Int32 := σ.2.2.2.2.2.2.2.2.2.2.2
def s_mk (rg : Nat → sV) (md : Nat) (kd tt dd : Nat → Nat) (sn : Nat → Option Nat) (de : Nat → Int32) (ht rm : Nat → Nat) (fl : Nat → Nat → sV) (og : Nat → Nat) (ct : Nat → Int32) : sS := (rg, md, kd, tt, dd, sn, de, ht, rm, fl, og, ct)
/-- the fields of one object, one of them another -/
def s_upF (fl : Nat → Nat → sV) (i k : Nat) (v : sV) : Nat → Nat → sV := va_up fl i (va_up (fl i) k v)
-- the elementary changes
def s_setR (σ : sS) (k : Nat) (v : sV) : sS := s_mk (va_up (s_rg σ) k v) (s_md σ) (s_kd σ) (s_tt σ) (s_dd σ) (s_sn σ) (s_de σ) (s_ht σ) (s_rm σ) (s_fl σ) (s_og σ) (s_ct σ)
def s_setT (σ : sS) (i t d : Nat) : sS := s_mk (s_rg σ) (s_md σ) (s_kd σ) (va_up (s_tt σ) i t) (va_up (s_dd σ) i d) (s_sn σ) (s_de σ) (s_ht σ) (s_rm σ) (s_fl σ) (s_og σ) (s_ct σ)
def s_setS (σ : sS) (i : Nat) (v : Option Nat) : sS := s_mk (s_rg σ) (s_md σ) (s_kd σ) (s_tt σ) (s_dd σ) (va_up (s_sn σ) i v) (s_de σ) (s_ht σ) (s_rm σ) (s_fl σ) (s_og σ) (s_ct σ)
def s_setD (σ : sS) (i : Nat) (v : Int32) : sS := s_mk (s_rg σ) (s_md σ) (s_kd σ) (s_tt σ) (s_dd σ) (s_sn σ) (va_up (s_de σ) i v) (s_ht σ) (s_rm σ) (s_fl σ) (s_og σ) (s_ct σ)
def s_setF (σ : sS) (i k : Nat) (v : sV) : sS := s_mk (s_rg σ) (s_md σ) (s_kd σ) (s_tt σ) (s_dd σ) (s_sn σ) (s_de σ) (s_ht σ) (s_rm σ) (s_upF (s_fl σ) i k v) (s_og σ) (s_ct σ)
def s_setH (σ : sS) (i h : Nat) : sS := s_mk (s_rg σ) (s_md σ) (s_kd σ) (s_tt σ) (s_dd σ) (s_sn σ) (s_de σ) (va_up (s_ht σ) i h) (s_rm σ) (s_fl σ) (s_og σ) (s_ct σ)
def s_push (σ : sS) (i : Nat) (v : sV) : sS := s_setH (s_setF σ i (s_ht σ i) v) i (s_ht σ i + 1)
def s_pop (σ : sS) (i : Nat) : sS := s_setF (s_setH σ i (s_ht σ i - 1)) i (s_ht σ i - 1) none
def s_newM (σ : sS) (t d : Nat) : sS := s_mk (s_rg σ) (s_md σ + 2) (va_up (s_kd σ) (s_md σ + 2) 2) (va_up (s_tt σ) (s_md σ + 2) t) (va_up (s_dd σ) (s_md σ + 2) d) (s_sn σ) (s_de σ) (s_ht σ) (s_rm σ) (s_fl σ) (s_og σ) (s_ct σ)
-- what a register has
def s_okR (r : Int32) : Prop := 0 ≤ r ∧ r ≤ 15
def s_okV (v : Int32) : Prop := -1073741824 ≤ v ∧ v ≤ 1073741823
def s_okM (a t d : Int32) : Prop := (0 ≤ a ∧ a ≤ 15) ∧ (a ≤ t ∧ t ≤ 31) ∧ (0 ≤ d ∧ d ≤ 63)
def s_isC (σ : sS) (i : Nat) : Prop := s_kd σ i = 3 ∨ s_kd σ i = 4
/-- register r has the method i -/
def s_M (σ : sS) (r : Int32) (i : Nat) : Prop := s_okR r ∧ s_rg σ r.toNatClampNeg = some (.inr i) ∧ s_kd σ i = 2
/-- register r has the context i -/
def s_C (σ : sS) (r : Int32) (i : Nat) : Prop := s_okR r ∧ s_rg σ r.toNatClampNeg = some (.inr i) ∧ s_isC σ i
/-- register r is a sender: nil, or the context i -/
def s_S (σ : sS) (r : Int32) (o : Option Nat) : Prop := s_okR r ∧ ((o = none ∧ s_rg σ r.toNatClampNeg = none) ∨ ∃ i, o = some i ∧ s_rg σ r.toNatClampNeg = some (.inr i) ∧ s_isC σ i)
/-- a context's home -/
def s_hm (σ : sS) (i : Nat) : Nat := if s_kd σ i = 4 then s_og σ i else i
/-- a context's floor -/
def s_fr (σ : sS) (i : Nat) : Nat := if s_kd σ i = 4 then 0 else s_tt σ (s_og σ i)
-- what is reachable
def s_edge (σ : sS) (j i : Nat) : Prop := s_isC σ j ∧ (s_sn σ j = some i ∨ s_og σ j = i ∨ ∃ k, k < s_rm σ j ∧ s_fl σ j k = some (.inr i))
def s_rch (σ : sS) (i : Nat) : Prop := ∀ S : Nat → Prop, (∀ r, r < 16 → ∀ j, s_rg σ r = some (.inr j) → S j) → (∀ j k, S j → s_edge σ j k → S k) → S i
theorem s_rch_root {σ : sS} {r i : Nat} (hr : r < 16) (h : s_rg σ r = some (.inr i)) : s_rch σ i := fun _ h1 _ => h1 r hr i h
theorem s_rch_edge {σ : sS} {j i : Nat} (hj : s_rch σ j) (h : s_edge σ j i) : s_rch σ i := fun S h1 h2 => h2 j i (hj S h1 h2) h
/-- the words and the objects that an object takes -/
def s_wd (σ : sS) (i : Nat) : Nat := if s_kd σ i = 2 then 10 else if s_kd σ i = 3 then 9 + s_rm σ i else 10 + s_rm σ i
def s_en (σ : sS) (i : Nat) : Nat := if s_kd σ i = 2 then 2 else 1
def s_cn (σ : sS) (i : Nat) : Nat := if s_kd σ i = 2 then 0 else 1
/-- each reachable object once -/
def s_enum (σ : sS) (L : List Nat) : Prop := L.Nodup ∧ ∀ i, i ∈ L ↔ s_rch σ i
noncomputable def s_all (σ : sS) : List Nat := (List.range (s_md σ + 1)).filter (fun i => @decide (s_rch σ i) (Classical.propDecidable _))
noncomputable def s_W (σ : sS) : Nat := ((s_all σ).map (s_wd σ)).sum
noncomputable def s_N (σ : sS) : Nat := ((s_all σ).map (s_en σ)).sum
noncomputable def s_K (σ : sS) : Nat := ((s_all σ).map (s_cn σ)).sum
/-- what always holds -/
def s_I (σ : sS) : Prop :=
  2 ≤ s_md σ ∧
  (∀ i, s_kd σ i ≠ 0 → 2 < i ∧ i ≤ s_md σ ∧ (s_kd σ i = 2 ∨ s_kd σ i = 3 ∨ s_kd σ i = 4)) ∧
  (∀ r, r < 16 → ∀ i, s_rg σ r = some (.inr i) → s_kd σ i ≠ 0) ∧
  (∀ i, s_kd σ i = 2 → s_tt σ i ≤ 31 ∧ s_dd σ i ≤ 63) ∧
  (∀ i, s_kd σ i = 3 → s_kd σ (s_og σ i) = 2) ∧
  (∀ i, s_kd σ i = 4 → s_kd σ (s_og σ i) = 3) ∧
  (∀ i, s_isC σ i → (∀ j, s_sn σ i = some j → s_isC σ j) ∧ s_ht σ i ≤ s_rm σ i ∧ s_rm σ i ≤ 94 ∧ (s_de σ i = 0 ∨ s_de σ i = 1) ∧ ∀ k, k < s_rm σ i → ∀ j, s_fl σ i k = some (.inr j) → s_kd σ j ≠ 0)
def s_OK (w n : Nat) (σ : sS) : Prop := s_I σ ∧ s_W σ + 8 ≤ w ∧ s_N σ + 2 ≤ n
theorem sm_sub {f : Nat → Nat} : ∀ (L' L : List Nat), L'.Nodup → (∀ i, i ∈ L' → i ∈ L) → (L'.map f).sum ≤ (L.map f).sum
  | [], _, _, _ => by simp
  | a :: L', L, hn, hs => by
    have ha : a ∈ L := hs a List.mem_cons_self
    have e1 : (L.map f).sum = ((a :: L.erase a).map f).sum := ((List.perm_cons_erase ha).map f).sum_nat
    have hn' := List.nodup_cons.mp hn
    have ih := sm_sub (f := f) L' (L.erase a) hn'.2 (fun i hi => (List.mem_erase_of_ne (fun e : i = a => hn'.1 (e ▸ hi))).mpr (hs i (List.mem_cons_of_mem _ hi)))
    rw [e1]
    simp only [List.map_cons, List.sum_cons]
    omega
theorem s_rch_kd {σ : sS} (h : s_I σ) {i : Nat} (hr : s_rch σ i) : s_kd σ i ≠ 0 := by
  obtain ⟨-, -, h3, -, h5, h6, h7⟩ := h
  refine hr (fun i => s_kd σ i ≠ 0) (fun r hr j hj => h3 r hr j hj) (fun j k _ hjk => ?_)
  obtain ⟨hc, he⟩ := hjk
  rcases he with he | he | ⟨q, hq, he⟩
  · rcases (h7 j hc).1 k he with e | e <;> omega
  · subst he
    rcases hc with e | e
    · have := h5 j e; omega
    · have := h6 j e; omega
  · exact (h7 j hc).2.2.2.2 q hq k he
theorem s_rch_le {σ : sS} (h : s_I σ) {i : Nat} (hr : s_rch σ i) : 2 < i ∧ i ≤ s_md σ := ⟨(h.2.1 i (s_rch_kd h hr)).1, (h.2.1 i (s_rch_kd h hr)).2.1⟩
theorem s_all_enum {σ : sS} (h : s_I σ) : s_enum σ (s_all σ) := by
  refine ⟨List.Pairwise.filter _ List.nodup_range, fun i => ?_⟩
  unfold s_all
  rw [List.mem_filter, List.mem_range]
  constructor
  · intro q
    exact @of_decide_eq_true _ (Classical.propDecidable _) q.2
  · intro q
    exact ⟨by have := (s_rch_le h q).2; omega, @decide_eq_true _ (Classical.propDecidable _) q⟩
theorem s_enum_perm {σ : sS} {L L' : List Nat} (h : s_enum σ L) (h' : s_enum σ L') : L.Perm L' := (List.perm_ext_iff_of_nodup h.1 h'.1).mpr (fun i => (h.2 i).trans (h'.2 i).symm)
theorem s_W_enum {σ : sS} (h : s_I σ) {L : List Nat} (hL : s_enum σ L) : (L.map (s_wd σ)).sum = s_W σ := ((s_enum_perm hL (s_all_enum h)).map _).sum_nat
theorem s_N_enum {σ : sS} (h : s_I σ) {L : List Nat} (hL : s_enum σ L) : (L.map (s_en σ)).sum = s_N σ := ((s_enum_perm hL (s_all_enum h)).map _).sum_nat
theorem s_K_enum {σ : sS} (h : s_I σ) {L : List Nat} (hL : s_enum σ L) : (L.map (s_cn σ)).sum = s_K σ := ((s_enum_perm hL (s_all_enum h)).map _).sum_nat
theorem s_OK_of {w n : Nat} {σ σ' : sS} (h : s_OK w n σ) (hI : s_I σ') (hr : ∀ i, s_rch σ' i → s_rch σ i) (hw : ∀ i, s_rch σ i → s_wd σ' i = s_wd σ i ∧ s_en σ' i = s_en σ i) : s_OK w n σ' := by
  obtain ⟨h0, h1, h2⟩ := h
  have hs : ∀ i, i ∈ s_all σ' → i ∈ s_all σ := fun i hi => ((s_all_enum h0).2 i).mpr (hr i (((s_all_enum hI).2 i).mp hi))
  have k1 := sm_sub (f := s_wd σ') _ _ (s_all_enum hI).1 hs
  have k2 := sm_sub (f := s_en σ') _ _ (s_all_enum hI).1 hs
  have e1 : (s_all σ).map (s_wd σ') = (s_all σ).map (s_wd σ) := List.map_congr_left (fun i hi => (hw i (((s_all_enum h0).2 i).mp hi)).1)
  have e2 : (s_all σ).map (s_en σ') = (s_all σ).map (s_en σ) := List.map_congr_left (fun i hi => (hw i (((s_all_enum h0).2 i).mp hi)).2)
  rw [e1] at k1
  rw [e2] at k2
  unfold s_W at h1
  unfold s_N at h2
  refine ⟨hI, ?_, ?_⟩
  · unfold s_W; omega
  · unfold s_N; omega
theorem s_OK_new {w n q : Nat} {σ σ' : sS} (h : s_OK w n σ) (hI : s_I σ') (hr : ∀ i, s_rch σ' i → s_rch σ i ∨ i = q) (hw : ∀ i, s_rch σ i → s_wd σ' i = s_wd σ i ∧ s_en σ' i = s_en σ i) (f1 : s_wd σ' q + s_W σ + 8 ≤ w) (f2 : s_en σ' q + s_N σ + 2 ≤ n) : s_OK w n σ' := by
  obtain ⟨h0, h1, h2⟩ := h
  have hs : ∀ i, i ∈ s_all σ' → i ∈ q :: s_all σ := fun i hi => by
    rcases hr i (((s_all_enum hI).2 i).mp hi) with e | e
    · exact List.mem_cons_of_mem _ (((s_all_enum h0).2 i).mpr e)
    · rw [e]; exact List.mem_cons_self
  have k1 := sm_sub (f := s_wd σ') _ _ (s_all_enum hI).1 hs
  have k2 := sm_sub (f := s_en σ') _ _ (s_all_enum hI).1 hs
  have e1 : (s_all σ).map (s_wd σ') = (s_all σ).map (s_wd σ) := List.map_congr_left (fun i hi => (hw i (((s_all_enum h0).2 i).mp hi)).1)
  have e2 : (s_all σ).map (s_en σ') = (s_all σ).map (s_en σ) := List.map_congr_left (fun i hi => (hw i (((s_all_enum h0).2 i).mp hi)).2)
  rw [List.map_cons, List.sum_cons, e1] at k1
  rw [List.map_cons, List.sum_cons, e2] at k2
  unfold s_W at f1
  unfold s_N at f2
  refine ⟨hI, ?_, ?_⟩
  · unfold s_W; omega
  · unfold s_N; omega
-- the elementary changes keep it
theorem s_setR_OK {w n k : Nat} {σ : sS} {v : sV} (h : s_OK w n σ) (hv : ∀ i, v = some (.inr i) → s_rch σ i) : s_OK w n (s_setR σ k v) := by
  have h0 := h.1
  refine s_OK_of h ?_ ?_ (fun i _ => ⟨rfl, rfl⟩)
  · obtain ⟨h1, h2, h3, h4⟩ := h0
    refine ⟨h1, h2, fun r hr i hi => ?_, h4⟩
    have hi : va_up (s_rg σ) k v r = some (.inr i) := hi
    by_cases e : r = k
    · subst e
      rw [va_up_self] at hi
      exact s_rch_kd h.1 (hv i hi)
    · rw [va_up_ne _ _ e] at hi
      exact h3 r hr i hi
  · intro i hi
    refine hi (s_rch σ) (fun r hr j hj => ?_) (fun j k hj hjk => s_rch_edge hj hjk)
    have hj : va_up (s_rg σ) k v r = some (.inr j) := hj
    by_cases e : r = k
    · subst e
      rw [va_up_self] at hj
      exact hv j hj
    · rw [va_up_ne _ _ e] at hj
      exact s_rch_root hr hj
theorem s_setT_OK {w n i t d : Nat} {σ : sS} (h : s_OK w n σ) (ht : t ≤ 31) (hd : d ≤ 63) : s_OK w n (s_setT σ i t d) := by
  have h0 := h.1
  refine s_OK_of h ?_ (fun i hi => hi) (fun i _ => ⟨rfl, rfl⟩)
  obtain ⟨h1, h2, h3, h4, h5⟩ := h0
  refine ⟨h1, h2, h3, fun j hj => ?_, h5⟩
  show va_up (s_tt σ) i t j ≤ 31 ∧ va_up (s_dd σ) i d j ≤ 63
  by_cases e : j = i
  · subst e
    rw [va_up_self, va_up_self]
    exact ⟨ht, hd⟩
  · rw [va_up_ne _ _ e, va_up_ne _ _ e]
    exact h4 j hj
theorem s_setS_OK {w n i : Nat} {σ : sS} {v : Option Nat} (h : s_OK w n σ) (hv : ∀ j, v = some j → s_rch σ j ∧ s_isC σ j) : s_OK w n (s_setS σ i v) := by
  have h0 := h.1
  refine s_OK_of h ?_ ?_ (fun i _ => ⟨rfl, rfl⟩)
  · obtain ⟨h1, h2, h3, h4, h5, h6, h7⟩ := h0
    refine ⟨h1, h2, h3, h4, h5, h6, fun j hj => ⟨fun k hk => ?_, (h7 j hj).2⟩⟩
    have hk : va_up (s_sn σ) i v j = some k := hk
    by_cases e : j = i
    · subst e
      rw [va_up_self] at hk
      exact (hv k hk).2
    · rw [va_up_ne _ _ e] at hk
      exact (h7 j hj).1 k hk
  · intro q hq
    refine hq (s_rch σ) (fun r hr j hj => s_rch_root hr hj) (fun j k hj hjk => ?_)
    obtain ⟨hc, he⟩ := hjk
    rcases he with he | he
    · have he : va_up (s_sn σ) i v j = some k := he
      by_cases e : j = i
      · subst e
        rw [va_up_self] at he
        exact (hv k he).1
      · rw [va_up_ne _ _ e] at he
        exact s_rch_edge hj ⟨hc, Or.inl he⟩
    · exact s_rch_edge hj ⟨hc, Or.inr he⟩
theorem s_setD_OK {w n i : Nat} {σ : sS} {v : Int32} (h : s_OK w n σ) (hv : v = 0 ∨ v = 1) : s_OK w n (s_setD σ i v) := by
  have h0 := h.1
  refine s_OK_of h ?_ (fun i hi => hi) (fun i _ => ⟨rfl, rfl⟩)
  obtain ⟨h1, h2, h3, h4, h5, h6, h7⟩ := h0
  refine ⟨h1, h2, h3, h4, h5, h6, fun j hj => ⟨(h7 j hj).1, (h7 j hj).2.1, (h7 j hj).2.2.1, ?_, (h7 j hj).2.2.2.2⟩⟩
  show va_up (s_de σ) i v j = 0 ∨ va_up (s_de σ) i v j = 1
  by_cases e : j = i
  · subst e
    rw [va_up_self]
    exact hv
  · rw [va_up_ne _ _ e]
    exact (h7 j hj).2.2.2.1
theorem s_setH_OK {w n i q : Nat} {σ : sS} (h : s_OK w n σ) (hq : q ≤ s_rm σ i) : s_OK w n (s_setH σ i q) := by
  have h0 := h.1
  refine s_OK_of h ?_ (fun i hi => hi) (fun i _ => ⟨rfl, rfl⟩)
  obtain ⟨h1, h2, h3, h4, h5, h6, h7⟩ := h0
  refine ⟨h1, h2, h3, h4, h5, h6, fun j hj => ⟨(h7 j hj).1, ?_, (h7 j hj).2.2⟩⟩
  show va_up (s_ht σ) i q j ≤ s_rm σ j
  by_cases e : j = i
  · subst e
    rw [va_up_self]
    exact hq
  · rw [va_up_ne _ _ e]
    exact (h7 j hj).2.1
theorem s_upF_cases {fl : Nat → Nat → sV} {i k j q : Nat} {v : sV} {u : sV} (h : s_upF fl i k v j q = u) : (j = i ∧ q = k ∧ v = u) ∨ (fl j q = u) := by
  unfold s_upF at h
  by_cases e : j = i
  · subst e
    rw [va_up_self] at h
    by_cases e2 : q = k
    · subst e2
      rw [va_up_self] at h
      exact Or.inl ⟨rfl, rfl, h⟩
    · rw [va_up_ne _ _ e2] at h
      exact Or.inr h
  · rw [va_up_ne _ _ e] at h
    exact Or.inr h
theorem s_setF_OK {w n i k : Nat} {σ : sS} {v : sV} (h : s_OK w n σ) (hv : ∀ j, v = some (.inr j) → s_rch σ j) : s_OK w n (s_setF σ i k v) := by
  have h0 := h.1
  refine s_OK_of h ?_ ?_ (fun i _ => ⟨rfl, rfl⟩)
  · obtain ⟨h1, h2, h3, h4, h5, h6, h7⟩ := h0
    refine ⟨h1, h2, h3, h4, h5, h6, fun j hj => ⟨(h7 j hj).1, (h7 j hj).2.1, (h7 j hj).2.2.1, (h7 j hj).2.2.2.1, fun q hq a ha => ?_⟩⟩
    rcases s_upF_cases ha with ⟨-, -, e⟩ | e
    · exact s_rch_kd h.1 (hv a e)
    · exact (h7 j hj).2.2.2.2 q hq a e
  · intro q hq
    refine hq (s_rch σ) (fun r hr j hj => s_rch_root hr hj) (fun j a hj hjk => ?_)
    obtain ⟨hc, he⟩ := hjk
    rcases he with he | he | ⟨b, hb, he⟩
    · exact s_rch_edge hj ⟨hc, Or.inl he⟩
    · exact s_rch_edge hj ⟨hc, Or.inr (Or.inl he)⟩
    · rcases s_upF_cases he with ⟨-, -, e⟩ | e
      · exact hv a e
      · exact s_rch_edge hj ⟨hc, Or.inr (Or.inr ⟨b, hb, e⟩)⟩
theorem s_push_OK {w n i : Nat} {σ : sS} {v : sV} (h : s_OK w n σ) (hv : ∀ j, v = some (.inr j) → s_rch σ j) (hh : s_ht σ i < s_rm σ i) : s_OK w n (s_push σ i v) := s_setH_OK (s_setF_OK h hv) hh
theorem s_pop_OK {w n i : Nat} {σ : sS} (h : s_OK w n σ) (hi : s_isC σ i) : s_OK w n (s_pop σ i) := s_setF_OK (s_setH_OK h (by have := (h.1.2.2.2.2.2.2 i hi).2.1; omega)) (fun j e => by cases e)
theorem s_newM_OK {w n r t d : Nat} {σ : sS} (h : s_OK w n σ) (ht : t ≤ 31) (hd : d ≤ 63) (f1 : 10 + s_W σ + 8 ≤ w) (f2 : 2 + s_N σ + 2 ≤ n) : s_OK w n (s_setR (s_newM σ t d) r (some (.inr (s_md σ + 2)))) := by
  have h0 := h.1
  have ne : ∀ i, s_kd σ i ≠ 0 → i ≠ s_md σ + 2 := fun i hi e => by have := (h0.2.1 i hi).2.1; omega
  have kq : va_up (s_kd σ) (s_md σ + 2) 2 (s_md σ + 2) = 2 := va_up_self _ _ _
  have kn : ∀ i, i ≠ s_md σ + 2 → va_up (s_kd σ) (s_md σ + 2) 2 i = s_kd σ i := fun i e => va_up_ne _ _ e
  have k0 : ∀ i, s_kd σ i ≠ 0 → va_up (s_kd σ) (s_md σ + 2) 2 i = s_kd σ i := fun i e => kn i (ne i e)
  have c0 : ∀ i, s_isC (s_setR (s_newM σ t d) r (some (.inr (s_md σ + 2)))) i → s_isC σ i ∧ i ≠ s_md σ + 2 := fun i hi => by
    have hi : va_up (s_kd σ) (s_md σ + 2) 2 i = 3 ∨ va_up (s_kd σ) (s_md σ + 2) 2 i = 4 := hi
    by_cases e : i = s_md σ + 2
    · rw [e, kq] at hi
      omega
    · rw [kn i e] at hi
      exact ⟨hi, e⟩
  have hI : s_I (s_setR (s_newM σ t d) r (some (.inr (s_md σ + 2)))) := by
    obtain ⟨h1, h2, h3, h4, h5, h6, h7⟩ := h0
    refine ⟨Nat.le_trans h1 (Nat.le_add_right _ _), fun i hi => ?_, fun q hq i hi => ?_, fun i hi => ?_, fun i hi => ?_, fun i hi => ?_, fun i hi => ?_⟩
    · have hi : va_up (s_kd σ) (s_md σ + 2) 2 i ≠ 0 := hi
      show 2 < i ∧ i ≤ s_md σ + 2 ∧ (va_up (s_kd σ) (s_md σ + 2) 2 i = 2 ∨ va_up (s_kd σ) (s_md σ + 2) 2 i = 3 ∨ va_up (s_kd σ) (s_md σ + 2) 2 i = 4)
      by_cases e : i = s_md σ + 2
      · rw [e, kq]
        exact ⟨by omega, by omega, Or.inl rfl⟩
      · rw [kn i e] at hi ⊢
        have := h2 i hi
        exact ⟨this.1, by omega, this.2.2⟩
    · have hi : va_up (s_rg σ) r (some (.inr (s_md σ + 2))) q = some (.inr i) := hi
      show va_up (s_kd σ) (s_md σ + 2) 2 i ≠ 0
      by_cases e : q = r
      · rw [e, va_up_self] at hi
        cases hi
        rw [kq]; decide
      · rw [va_up_ne _ _ e] at hi
        have := h3 q hq i hi
        rw [k0 i this]; exact this
    · have hi : va_up (s_kd σ) (s_md σ + 2) 2 i = 2 := hi
      show va_up (s_tt σ) (s_md σ + 2) t i ≤ 31 ∧ va_up (s_dd σ) (s_md σ + 2) d i ≤ 63
      by_cases e : i = s_md σ + 2
      · rw [e, va_up_self, va_up_self]
        exact ⟨ht, hd⟩
      · rw [kn i e] at hi
        rw [va_up_ne _ _ e, va_up_ne _ _ e]
        exact h4 i hi
    · have hc := c0 i (Or.inl hi)
      have hi : va_up (s_kd σ) (s_md σ + 2) 2 i = 3 := hi
      rw [kn i hc.2] at hi
      show va_up (s_kd σ) (s_md σ + 2) 2 (s_og σ i) = 2
      have := h5 i hi
      rw [k0 _ (by omega)]; exact this
    · have hc := c0 i (Or.inr hi)
      have hi : va_up (s_kd σ) (s_md σ + 2) 2 i = 4 := hi
      rw [kn i hc.2] at hi
      show va_up (s_kd σ) (s_md σ + 2) 2 (s_og σ i) = 3
      have := h6 i hi
      rw [k0 _ (by omega)]; exact this
    · have hc := (c0 i hi).1
      obtain ⟨g1, g2, g3, g4, g5⟩ := h7 i hc
      refine ⟨fun j hj => ?_, g2, g3, g4, fun k hk j hj => ?_⟩
      · have := g1 j hj
        show va_up (s_kd σ) (s_md σ + 2) 2 j = 3 ∨ va_up (s_kd σ) (s_md σ + 2) 2 j = 4
        rw [k0 j (by rcases this with e | e <;> omega)]
        exact this
      · have := g5 k hk j hj
        show va_up (s_kd σ) (s_md σ + 2) 2 j ≠ 0
        rw [k0 j this]; exact this
  refine s_OK_new (q := s_md σ + 2) h hI (fun i hi => ?_) (fun i hi => ?_) ?_ ?_
  · refine hi (fun i => s_rch σ i ∨ i = s_md σ + 2) (fun q hq j hj => ?_) (fun j k hj hjk => ?_)
    · have hj : va_up (s_rg σ) r (some (.inr (s_md σ + 2))) q = some (.inr j) := hj
      by_cases e : q = r
      · rw [e, va_up_self] at hj
        cases hj
        exact Or.inr rfl
      · rw [va_up_ne _ _ e] at hj
        exact Or.inl (s_rch_root hq hj)
    · obtain ⟨hc, he⟩ := hjk
      have hc := c0 j hc
      rcases hj with hj | hj
      · exact Or.inl (s_rch_edge hj ⟨hc.1, he⟩)
      · exact absurd hj hc.2
  · have e := k0 i (s_rch_kd h0 hi)
    unfold s_wd s_en
    rw [show s_kd (s_setR (s_newM σ t d) r (some (.inr (s_md σ + 2)))) i = s_kd σ i from e]
    exact ⟨rfl, rfl⟩
  · unfold s_wd
    rw [if_pos (show s_kd (s_setR (s_newM σ t d) r (some (.inr (s_md σ + 2)))) (s_md σ + 2) = 2 from kq)]
    exact f1
  · unfold s_en
    rw [if_pos (show s_kd (s_setR (s_newM σ t d) r (some (.inr (s_md σ + 2)))) (s_md σ + 2) = 2 from kq)]
    exact f2
/-- a new context, of any kind -/
def s_newX (σ : sS) (kk : Nat) (s : Option Nat) (dd : Int32) (ht rm og : Nat) (ct : Int32) : sS := s_mk (s_rg σ) (s_md σ + 1) (va_up (s_kd σ) (s_md σ + 1) kk) (s_tt σ) (s_dd σ) (va_up (s_sn σ) (s_md σ + 1) s) (va_up (s_de σ) (s_md σ + 1) dd) (va_up (s_ht σ) (s_md σ + 1) ht) (va_up (s_rm σ) (s_md σ + 1) rm) (va_up (s_fl σ) (s_md σ + 1) (fun _ => none)) (va_up (s_og σ) (s_md σ + 1) og) (va_up (s_ct σ) (s_md σ + 1) ct)
theorem s_newX_OK {w n r kk ht rm og : Nat} {s : Option Nat} {de ct : Int32} {σ : sS} (h : s_OK w n σ) (hk : (kk = 3 ∧ s_kd σ og = 2) ∨ (kk = 4 ∧ s_kd σ og = 3)) (hs : ∀ j, s = some j → s_rch σ j ∧ s_isC σ j) (hde : de = 0 ∨ de = 1) (hht : ht ≤ rm) (hrm : rm ≤ 94) (hog : s_rch σ og) (f1 : (if kk = 3 then 9 + rm else 10 + rm) + s_W σ + 8 ≤ w) (f2 : 1 + s_N σ + 2 ≤ n) : s_OK w n (s_setR (s_newX σ kk s de ht rm og ct) r (some (.inr (s_md σ + 1)))) := by
  have h0 := h.1
  have ne : ∀ i, s_kd σ i ≠ 0 → i ≠ s_md σ + 1 := fun i hi e => by have := (h0.2.1 i hi).2.1; omega
  have kq : va_up (s_kd σ) (s_md σ + 1) kk (s_md σ + 1) = kk := va_up_self _ _ _
  have kn : ∀ i, i ≠ s_md σ + 1 → va_up (s_kd σ) (s_md σ + 1) kk i = s_kd σ i := fun i e => va_up_ne _ _ e
  have k0 : ∀ i, s_kd σ i ≠ 0 → va_up (s_kd σ) (s_md σ + 1) kk i = s_kd σ i := fun i e => kn i (ne i e)
  have kk34 : kk = 3 ∨ kk = 4 := by rcases hk with e | e <;> omega
  have c0 : ∀ i, s_isC (s_setR (s_newX σ kk s de ht rm og ct) r (some (.inr (s_md σ + 1)))) i → (s_isC σ i ∧ i ≠ s_md σ + 1) ∨ i = s_md σ + 1 := fun i hi => by
    have hi : va_up (s_kd σ) (s_md σ + 1) kk i = 3 ∨ va_up (s_kd σ) (s_md σ + 1) kk i = 4 := hi
    by_cases e : i = s_md σ + 1
    · exact Or.inr e
    · rw [kn i e] at hi
      exact Or.inl ⟨hi, e⟩
  have hI : s_I (s_setR (s_newX σ kk s de ht rm og ct) r (some (.inr (s_md σ + 1)))) := by
    obtain ⟨h1, h2, h3, h4, h5, h6, h7⟩ := h0
    refine ⟨Nat.le_trans h1 (Nat.le_add_right _ _), fun i hi => ?_, fun q hq i hi => ?_, fun i hi => ?_, fun i hi => ?_, fun i hi => ?_, fun i hi => ?_⟩
    · have hi : va_up (s_kd σ) (s_md σ + 1) kk i ≠ 0 := hi
      show 2 < i ∧ i ≤ s_md σ + 1 ∧ (va_up (s_kd σ) (s_md σ + 1) kk i = 2 ∨ va_up (s_kd σ) (s_md σ + 1) kk i = 3 ∨ va_up (s_kd σ) (s_md σ + 1) kk i = 4)
      by_cases e : i = s_md σ + 1
      · rw [e, kq]
        exact ⟨by omega, by omega, Or.inr kk34⟩
      · rw [kn i e] at hi ⊢
        have := h2 i hi
        exact ⟨this.1, by omega, this.2.2⟩
    · have hi : va_up (s_rg σ) r (some (.inr (s_md σ + 1))) q = some (.inr i) := hi
      show va_up (s_kd σ) (s_md σ + 1) kk i ≠ 0
      by_cases e : q = r
      · rw [e, va_up_self] at hi
        cases hi
        rw [kq]; omega
      · rw [va_up_ne _ _ e] at hi
        have := h3 q hq i hi
        rw [k0 i this]; exact this
    · have hi : va_up (s_kd σ) (s_md σ + 1) kk i = 2 := hi
      by_cases e : i = s_md σ + 1
      · rw [e, kq] at hi; omega
      · rw [kn i e] at hi
        exact h4 i hi
    · have hi : va_up (s_kd σ) (s_md σ + 1) kk i = 3 := hi
      show va_up (s_kd σ) (s_md σ + 1) kk (va_up (s_og σ) (s_md σ + 1) og i) = 2
      by_cases e : i = s_md σ + 1
      · rw [e, kq] at hi
        rw [e, va_up_self]
        have := hk.resolve_right (fun q => by omega)
        rw [k0 _ (by omega)]; exact this.2
      · rw [kn i e] at hi
        rw [va_up_ne _ _ e]
        have := h5 i hi
        rw [k0 _ (by omega)]; exact this
    · have hi : va_up (s_kd σ) (s_md σ + 1) kk i = 4 := hi
      show va_up (s_kd σ) (s_md σ + 1) kk (va_up (s_og σ) (s_md σ + 1) og i) = 3
      by_cases e : i = s_md σ + 1
      · rw [e, kq] at hi
        rw [e, va_up_self]
        have := hk.resolve_left (fun q => by omega)
        rw [k0 _ (by omega)]; exact this.2
      · rw [kn i e] at hi
        rw [va_up_ne _ _ e]
        have := h6 i hi
        rw [k0 _ (by omega)]; exact this
    · show (∀ j, va_up (s_sn σ) (s_md σ + 1) s i = some j → va_up (s_kd σ) (s_md σ + 1) kk j = 3 ∨ va_up (s_kd σ) (s_md σ + 1) kk j = 4) ∧ va_up (s_ht σ) (s_md σ + 1) ht i ≤ va_up (s_rm σ) (s_md σ + 1) rm i ∧ va_up (s_rm σ) (s_md σ + 1) rm i ≤ 94 ∧ (va_up (s_de σ) (s_md σ + 1) de i = 0 ∨ va_up (s_de σ) (s_md σ + 1) de i = 1) ∧ ∀ k, k < va_up (s_rm σ) (s_md σ + 1) rm i → ∀ j, va_up (s_fl σ) (s_md σ + 1) (fun _ => none) i k = some (.inr j) → va_up (s_kd σ) (s_md σ + 1) kk j ≠ 0
      rcases c0 i hi with ⟨hc, e⟩ | e
      · simp only [va_up_ne _ _ e]
        obtain ⟨g1, g2, g3, g4, g5⟩ := h7 i hc
        refine ⟨fun j hj => ?_, g2, g3, g4, fun k hk j hj => ?_⟩
        · have := g1 j hj
          rw [k0 j (by rcases this with e | e <;> omega)]
          exact this
        · have := g5 k hk j hj
          rw [k0 j this]; exact this
      · subst e
        simp only [va_up_self]
        refine ⟨fun j hj => ?_, hht, hrm, hde, fun k hk j hj => by cases hj⟩
        have := (hs j hj).2
        rw [k0 j (by rcases this with e | e <;> omega)]
        exact this
  refine s_OK_new (q := s_md σ + 1) h hI (fun i hi => ?_) (fun i hi => ?_) ?_ ?_
  · refine hi (fun i => s_rch σ i ∨ i = s_md σ + 1) (fun q hq j hj => ?_) (fun j k hj hjk => ?_)
    · have hj : va_up (s_rg σ) r (some (.inr (s_md σ + 1))) q = some (.inr j) := hj
      by_cases e : q = r
      · rw [e, va_up_self] at hj
        cases hj
        exact Or.inr rfl
      · rw [va_up_ne _ _ e] at hj
        exact Or.inl (s_rch_root hq hj)
    · obtain ⟨hc, he⟩ := hjk
      have he : va_up (s_sn σ) (s_md σ + 1) s j = some k ∨ va_up (s_og σ) (s_md σ + 1) og j = k ∨ ∃ b, b < va_up (s_rm σ) (s_md σ + 1) rm j ∧ va_up (s_fl σ) (s_md σ + 1) (fun _ => none) j b = some (.inr k) := he
      rcases c0 j hc with ⟨hc, e⟩ | e
      · simp only [va_up_ne _ _ e] at he
        exact Or.inl (s_rch_edge (hj.resolve_right e) ⟨hc, he⟩)
      · subst e
        simp only [va_up_self] at he
        rcases he with he | he | ⟨b, -, he⟩
        · exact Or.inl (hs k he).1
        · exact Or.inl (he ▸ hog)
        · cases he
  · have hn := ne i (s_rch_kd h0 hi)
    have e := kn i hn
    unfold s_wd s_en
    rw [show s_kd (s_setR (s_newX σ kk s de ht rm og ct) r (some (.inr (s_md σ + 1)))) i = s_kd σ i from e, show s_rm (s_setR (s_newX σ kk s de ht rm og ct) r (some (.inr (s_md σ + 1)))) i = s_rm σ i from va_up_ne _ _ hn]
    exact ⟨rfl, rfl⟩
  · unfold s_wd
    rw [show s_kd (s_setR (s_newX σ kk s de ht rm og ct) r (some (.inr (s_md σ + 1)))) (s_md σ + 1) = kk from kq, show s_rm (s_setR (s_newX σ kk s de ht rm og ct) r (some (.inr (s_md σ + 1)))) (s_md σ + 1) = rm from va_up_self _ _ _, if_neg (by omega)]
    exact f1
  · unfold s_en
    rw [show s_kd (s_setR (s_newX σ kk s de ht rm og ct) r (some (.inr (s_md σ + 1)))) (s_md σ + 1) = kk from kq, if_neg (by omega)]
    exact f2
