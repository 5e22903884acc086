/-! WHAT IS REACHABLE behind each change was reachable before. -/
theorem s_setR_rch {σ : sS} {k : Nat} {v : sV} (hv : ∀ i, v = some (.inr i) → s_rch σ i) {i : Nat} (h : s_rch (s_setR σ k v) i) : s_rch σ i := by
  refine h (s_rch σ) (fun r hr j hj => ?_) (fun j k hj hjk => s_rch_edge hj hjk)
  have hj : va_up (s_rg σ) k v r = some (.inr j) := hj
  by_cases e : r = k
  · subst e
    rw [va_up_self] at hj
    exact hv j hj
  · rw [va_up_ne _ _ e] at hj
    exact s_rch_root hr hj
theorem s_setS_rch {σ : sS} {i : Nat} {v : Option Nat} (hv : ∀ j, v = some j → s_rch σ j) {q : Nat} (h : s_rch (s_setS σ i v) q) : s_rch σ q := by
  refine h (s_rch σ) (fun r hr j hj => s_rch_root hr hj) (fun j k hj hjk => ?_)
  obtain ⟨hc, he⟩ := hjk
  rcases he with he | he
  · have he : va_up (s_sn σ) i v j = some k := he
    by_cases e : j = i
    · subst e
      rw [va_up_self] at he
      exact hv k he
    · rw [va_up_ne _ _ e] at he
      exact s_rch_edge hj ⟨hc, Or.inl he⟩
  · exact s_rch_edge hj ⟨hc, Or.inr he⟩
theorem s_setF_rch {σ : sS} {i k : Nat} {v : sV} (hv : ∀ j, v = some (.inr j) → s_rch σ j) {q : Nat} (h : s_rch (s_setF σ i k v) q) : s_rch σ q := by
  refine h (s_rch σ) (fun r hr j hj => s_rch_root hr hj) (fun j a hj hjk => ?_)
  obtain ⟨hc, he⟩ := hjk
  rcases he with he | he | ⟨b, hb, he⟩
  · exact s_rch_edge hj ⟨hc, Or.inl he⟩
  · exact s_rch_edge hj ⟨hc, Or.inr (Or.inl he)⟩
  · rcases s_upF_cases he with ⟨-, -, e⟩ | e
    · exact hv a e
    · exact s_rch_edge hj ⟨hc, Or.inr (Or.inr ⟨b, hb, e⟩)⟩
/-- the numbers are such -/
def s_NV (σ : sS) : Prop := (∀ r, r < 16 → ∀ v, s_rg σ r = some (.inl v) → -1073741824 ≤ v ∧ v ≤ 1073741823) ∧ ∀ i, s_isC σ i → ∀ k, k < s_rm σ i → ∀ v, s_fl σ i k = some (.inl v) → -1073741824 ≤ v ∧ v ≤ 1073741823
/-! THE REFERENCE'S CELLS. -/
abbrev m_isA (k : Nat) : Prop := 3 ≤ k ∧ k ≤ 20 ∧ k ≠ 18
def m_len (k : Nat) : Nat := if k = 3 then 16 else if k = 16 ∨ k = 17 then 32768 else 4096
def m_cl (cI cB cZ : ClassId) (k : Nat) : ClassId := if k = 4 then cB else if k = 10 ∨ k = 19 then cZ else cI
abbrev m_cell (w n md : Nat) (adr : Nat → Nat) (us r0 r1 r2 r3 : Int32) : va_E := .inr (kR, [.int (nI w), .int (nI n), .int (nI md), .ref (adr 3), .ref (adr 4), .ref (adr 5), .ref (adr 6), .ref (adr 7), .ref (adr 8), .ref (adr 9), .ref (adr 10), .ref (adr 11), .ref (adr 12), .ref (adr 13), .ref (adr 14), .ref (adr 15), .ref (adr 16), .ref (adr 17), .int us, .ref (adr 19), .ref (adr 20), .int r0, .int r1, .int r2, .int r3])
def m_Arr (cI cB cZ : ClassId) (x w n md : Nat) (adr : Nat → Nat) (us r0 r1 r2 r3 : Int32) (ar : Nat → Nat → Int32) (G : gw_G) : Prop :=
  G x = some (m_cell w n md adr us r0 r1 r2 r3) ∧ (∀ k, m_isA k → G (adr k) = some (.inl (m_cl cI cB cZ k, m_len k, .inl (ar k)))) ∧ (∀ j k, m_isA j → m_isA k → adr j = adr k → j = k)
section MARR
variable {cI cB cZ : ClassId} {x w n md : Nat} {adr : Nat → Nat} {us r0 r1 r2 r3 : Int32} {ar : Nat → Nat → Int32} {G : gw_G}
theorem m_Arr.put (h : m_Arr cI cB cZ x w n md adr us r0 r1 r2 r3 ar G) {k : Nat} (hk : m_isA k) (f : Nat → Int32) : m_Arr cI cB cZ x w n md adr us r0 r1 r2 r3 (va_up ar k f) (va_up G (adr k) (some (.inl (m_cl cI cB cZ k, m_len k, .inl f)))) := by
  obtain ⟨h1, h2, h3⟩ := h
  refine ⟨gw_up h1 (gw_ne h1 (h2 k hk) (fun z => by cases z)), fun j hj => ?_, h3⟩
  by_cases e : j = k
  · subst e
    rw [va_up_self, va_up_self]
  · rw [va_up_ne _ _ e]
    exact gw_up (h2 j hj) (fun z => e (h3 j k hj hk z))
theorem m_Arr.own (h : m_Arr cI cB cZ x w n md adr us r0 r1 r2 r3 ar G) (md' : Nat) (us' r0' r1' r2' r3' : Int32) : m_Arr cI cB cZ x w n md' adr us' r0' r1' r2' r3' ar (va_up G x (some (m_cell w n md' adr us' r0' r1' r2' r3'))) := by
  obtain ⟨h1, h2, h3⟩ := h
  exact ⟨va_up_self _ _ _, fun j hj => gw_up (h2 j hj) (gw_ne (h2 j hj) h1 (fun z => by cases z)), h3⟩
end MARR
/-- a value, as the reference writes it; sl: where an object stands -/
def m_val (sl : Nat → Nat) (v : sV) : Int32 := match v with
  | none => 0
  | some (.inl a) => 2 * a + 1
  | some (.inr i) => nI (2 * sl i + 2)
/-- what the arrays hold of the objects in R -/
def m_Sem (R : Nat → Prop) (σ : sS) (sl bg : Nat → Nat) (U : Nat) (ar : Nat → Nat → Int32) : Prop :=
  (∀ r, r < 16 → ar 3 r = m_val sl (s_rg σ r)) ∧
  (∀ i, R i → sl i < 4096 ∧ ar 4 (sl i) = nI (s_kd σ i) ∧ ar 5 (sl i) = nI i) ∧
  (∀ i, R i → s_kd σ i = 2 → ar 7 (sl i) = nI (s_tt σ i) ∧ ar 8 (sl i) = nI (s_dd σ i)) ∧
  (∀ i, R i → s_isC σ i → ar 9 (sl i) = m_val sl ((s_sn σ i).map .inr) ∧ ar 10 (sl i) = s_de σ i ∧ ar 11 (sl i) = nI (s_ht σ i) ∧ ar 12 (sl i) = nI (sl (s_og σ i)) ∧ ar 14 (sl i) = nI (bg i) ∧ ar 15 (sl i) = nI (s_rm σ i) ∧ bg i + s_rm σ i ≤ U) ∧
  (∀ i, R i → s_kd σ i = 4 → ar 13 (sl i) = s_ct σ i) ∧
  (∀ i, R i → s_isC σ i → ∀ k, k < s_rm σ i → ar 16 (bg i + k) = m_val sl (s_fl σ i k)) ∧
  (∀ i j, R i → R j → sl i = sl j → i = j) ∧
  (∀ i j k q, R i → R j → s_isC σ i → s_isC σ j → k < s_rm σ i → q < s_rm σ j → bg i + k = bg j + q → i = j) ∧
  U ≤ 32768
theorem m_Sem.mono {R R' : Nat → Prop} {σ : sS} {sl bg : Nat → Nat} {U : Nat} {ar : Nat → Nat → Int32} (h : m_Sem R σ sl bg U ar) (hr : ∀ i, R' i → R i) : m_Sem R' σ sl bg U ar := by
  obtain ⟨h1, h2, h3, h4, h5, h6, h7, h8, h9⟩ := h
  exact ⟨h1, fun i hi => h2 i (hr i hi), fun i hi => h3 i (hr i hi), fun i hi => h4 i (hr i hi), fun i hi => h5 i (hr i hi), fun i hi => h6 i (hr i hi), fun i j hi hj => h7 i j (hr i hi) (hr j hj), fun i j k q hi hj => h8 i j k q (hr i hi) (hr j hj), h9⟩
theorem upd_self (f : Nat → Int32) (k : Nat) (v : Int32) : upd f k v k = v := if_pos rfl
theorem upd_ne (f : Nat → Int32) {k j : Nat} (v : Int32) (h : j ≠ k) : upd f k v j = f j := if_neg h
section MSEM
variable {R : Nat → Prop} {σ : sS} {sl bg : Nat → Nat} {U : Nat} {ar : Nat → Nat → Int32}
theorem m_Sem.reg (h : m_Sem R σ sl bg U ar) (k : Nat) (v : sV) : m_Sem R (s_setR σ k v) sl bg U (va_up ar 3 (upd (ar 3) k (m_val sl v))) := by
  obtain ⟨h1, h2, h3, h4, h5, h6, h7, h8, h9⟩ := h
  refine ⟨fun r hr => ?_, h2, h3, h4, h5, h6, h7, h8, h9⟩
  show upd (ar 3) k (m_val sl v) r = m_val sl (va_up (s_rg σ) k v r)
  by_cases e : r = k
  · subst e
    rw [upd_self, va_up_self]
  · rw [upd_ne _ _ e, va_up_ne _ _ e]
    exact h1 r hr
theorem m_Sem.tmp (h : m_Sem R σ sl bg U ar) {i : Nat} (hi : R i) (a : Int32) (t d : Nat) : m_Sem R (s_setT σ i t d) sl bg U (va_up (va_up (va_up ar 6 (upd (ar 6) (sl i) a)) 7 (upd (ar 7) (sl i) (nI t))) 8 (upd (ar 8) (sl i) (nI d))) := by
  obtain ⟨h1, h2, h3, h4, h5, h6, h7, h8, h9⟩ := h
  refine ⟨h1, h2, fun j hj hk => ?_, h4, h5, h6, h7, h8, h9⟩
  show upd (ar 7) (sl i) (nI t) (sl j) = nI (va_up (s_tt σ) i t j) ∧ upd (ar 8) (sl i) (nI d) (sl j) = nI (va_up (s_dd σ) i d j)
  by_cases e : j = i
  · subst e
    rw [upd_self, upd_self, va_up_self, va_up_self]
    exact ⟨rfl, rfl⟩
  · have es : sl j ≠ sl i := fun z => e (h7 j i hj hi z)
    rw [upd_ne _ _ es, upd_ne _ _ es, va_up_ne _ _ e, va_up_ne _ _ e]
    exact h3 j hj hk
theorem m_Sem.snd (h : m_Sem R σ sl bg U ar) {i : Nat} (hi : R i) (v : Option Nat) : m_Sem R (s_setS σ i v) sl bg U (va_up ar 9 (upd (ar 9) (sl i) (m_val sl (v.map .inr)))) := by
  obtain ⟨h1, h2, h3, h4, h5, h6, h7, h8, h9⟩ := h
  refine ⟨h1, h2, h3, fun j hj hc => ⟨?_, (h4 j hj hc).2⟩, h5, h6, h7, h8, h9⟩
  show upd (ar 9) (sl i) (m_val sl (v.map .inr)) (sl j) = m_val sl ((va_up (s_sn σ) i v j).map .inr)
  by_cases e : j = i
  · subst e
    rw [upd_self, va_up_self]
  · rw [upd_ne _ _ (fun z => e (h7 j i hj hi z)), va_up_ne _ _ e]
    exact (h4 j hj hc).1
theorem m_Sem.ded (h : m_Sem R σ sl bg U ar) {i : Nat} (hi : R i) (v : Int32) : m_Sem R (s_setD σ i v) sl bg U (va_up ar 10 (upd (ar 10) (sl i) v)) := by
  obtain ⟨h1, h2, h3, h4, h5, h6, h7, h8, h9⟩ := h
  refine ⟨h1, h2, h3, fun j hj hc => ⟨(h4 j hj hc).1, ?_, (h4 j hj hc).2.2⟩, h5, h6, h7, h8, h9⟩
  show upd (ar 10) (sl i) v (sl j) = va_up (s_de σ) i v j
  by_cases e : j = i
  · subst e
    rw [upd_self, va_up_self]
  · rw [upd_ne _ _ (fun z => e (h7 j i hj hi z)), va_up_ne _ _ e]
    exact (h4 j hj hc).2.1
theorem m_Sem.hgt (h : m_Sem R σ sl bg U ar) {i : Nat} (hi : R i) (q : Nat) : m_Sem R (s_setH σ i q) sl bg U (va_up ar 11 (upd (ar 11) (sl i) (nI q))) := by
  obtain ⟨h1, h2, h3, h4, h5, h6, h7, h8, h9⟩ := h
  refine ⟨h1, h2, h3, fun j hj hc => ⟨(h4 j hj hc).1, (h4 j hj hc).2.1, ?_, (h4 j hj hc).2.2.2⟩, h5, h6, h7, h8, h9⟩
  show upd (ar 11) (sl i) (nI q) (sl j) = nI (va_up (s_ht σ) i q j)
  by_cases e : j = i
  · subst e
    rw [upd_self, va_up_self]
  · rw [upd_ne _ _ (fun z => e (h7 j i hj hi z)), va_up_ne _ _ e]
    exact (h4 j hj hc).2.2.1
theorem m_Sem.fld (h : m_Sem R σ sl bg U ar) {i k : Nat} (hi : R i) (hc : s_isC σ i) (hk : k < s_rm σ i) (v : sV) : m_Sem R (s_setF σ i k v) sl bg U (va_up ar 16 (upd (ar 16) (bg i + k) (m_val sl v))) := by
  obtain ⟨h1, h2, h3, h4, h5, h6, h7, h8, h9⟩ := h
  refine ⟨h1, h2, h3, h4, h5, fun j hj hcj q hq => ?_, h7, h8, h9⟩
  show upd (ar 16) (bg i + k) (m_val sl v) (bg j + q) = m_val sl (s_upF (s_fl σ) i k v j q)
  have hq : q < s_rm σ j := hq
  unfold s_upF
  by_cases e : j = i
  · subst e
    rw [va_up_self]
    by_cases e2 : q = k
    · subst e2
      rw [upd_self, va_up_self]
    · rw [upd_ne _ _ (by omega), va_up_ne _ _ e2]
      exact h6 j hj hcj q hq
  · rw [upd_ne _ _ (fun z => e (h8 j i q k hj hi hcj hc hq hk z)), va_up_ne _ _ e]
    exact h6 j hj hcj q hq
end MSEM
/-! how a value is told -/
theorem m_toI {v : Int32} (h : -1073741824 ≤ v ∧ v ≤ 1073741823) : -1073741824 ≤ v.toInt ∧ v.toInt ≤ 1073741823 := ⟨Int32.le_iff_toInt_le.mp h.1, Int32.le_iff_toInt_le.mp h.2⟩
theorem m_bm {a : Int} (h1 : -2147483648 ≤ a) (h2 : a < 2147483648) : a.bmod (2 ^ 32) = a := by
  rw [Int.bmod_def]
  split <;> omega
theorem m_num {v : Int32} (h : -1073741824 ≤ v ∧ v ≤ 1073741823) : (2 * v + 1).toInt = 2 * v.toInt + 1 := by
  have hv := m_toI h
  rw [Int32.toInt_add, Int32.toInt_mul]
  show (((2 : Int) * v.toInt).bmod (2 ^ 32) + 1).bmod (2 ^ 32) = 2 * v.toInt + 1
  rw [m_bm (a := 2 * v.toInt) (by omega) (by omega), m_bm (by omega) (by omega)]
theorem m_ob_num {v : Int32} (h : -1073741824 ≤ v ∧ v ≤ 1073741823) : ¬ (¬ (2 * v + 1 = 0) ∧ (2 * v + 1) - (2 * v + 1) / 2 * 2 = 0) := by
  intro hz
  have e1 := m_num h
  have hv := m_toI h
  generalize 2 * v + 1 = x at e1 hz
  have e2 : (x / 2).toInt = x.toInt.tdiv 2 := by
    rw [Int32.toInt_div]
    show (x.toInt.tdiv 2).bmod (2 ^ 32) = _
    have a1 := Int.tmod_add_mul_tdiv x.toInt 2
    have a2 := tmod_bounds (a := x.toInt) (M := 2) (by omega)
    exact m_bm (by omega) (by omega)
  have a1 := Int.tmod_add_mul_tdiv x.toInt 2
  have a2 := tmod_bounds (a := x.toInt) (M := 2) (by omega)
  have a3 : 0 ≤ x.toInt.tmod 2 ∨ x.toInt < 0 := by
    rcases Int.lt_or_le x.toInt 0 with z | z
    · exact Or.inr z
    · exact Or.inl (Int.tmod_nonneg _ z)
  have e3 : (x / 2 * 2).toInt = x.toInt.tdiv 2 * 2 := by
    rw [Int32.toInt_mul, e2]
    show (x.toInt.tdiv 2 * 2).bmod (2 ^ 32) = _
    exact m_bm (by omega) (by omega)
  have e4 : (x - x / 2 * 2).toInt = x.toInt - x.toInt.tdiv 2 * 2 := by
    rw [Int32.toInt_sub, e3]
    exact m_bm (by omega) (by omega)
  rw [hz.2] at e4
  have e5 : (0 : Int32).toInt = 0 := rfl
  omega
theorem m_ob_obj {k : Nat} (h : k < 4096) : ¬ (nI (2 * k + 2) = 0) ∧ nI (2 * k + 2) - nI (2 * k + 2) / 2 * 2 = 0 := by
  refine ⟨nI_ne0 (by omega) (by omega), ?_⟩
  have := pk_rem (a := 2 * k + 2) (d := 2) (by omega) (by omega) (by omega)
  rw [show (2 * k + 2) % 2 = 0 by omega] at this
  exact this
theorem m_slot {k : Nat} (h : k < 4096) : nI (2 * k + 2) / 2 - 1 = nI k := by
  have e := pk_div (a := 2 * k + 2) (d := 2) (by omega) (by omega) (by omega)
  rw [show (2 * k + 2) / 2 = k + 1 by omega] at e
  have e2 : nI (2 * k + 2) / 2 = nI (k + 1) := e
  rw [e2]
  exact nI_pred k
theorem m_shr {v : Int32} (h : -1073741824 ≤ v ∧ v ≤ 1073741823) : (2 * v + 1) >>> ((1 : Int32) &&& 31) = v := by
  have hv := m_toI h
  apply Int32.toInt_inj.mp
  rw [pk_shr (2 * v + 1) ((1 : Int32) &&& 31) 1 (by decide), m_num h, Int.shiftRight_eq_div_pow]
  omega
