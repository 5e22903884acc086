/-! THE NUMBERS STAY NUMBERS. -/
abbrev s_nvV (v : sV) : Prop := ∀ a, v = some (.inl a) → -1073741824 ≤ a ∧ a ≤ 1073741823
theorem s_setR_NV {σ : sS} {k : Nat} {v : sV} (h : s_NV σ) (hv : s_nvV v) : s_NV (s_setR σ k v) := by
  refine ⟨fun r hr a ha => ?_, h.2⟩
  have ha : va_up (s_rg σ) k v r = some (.inl a) := ha
  by_cases e : r = k
  · subst e
    rw [va_up_self] at ha
    exact hv a ha
  · rw [va_up_ne _ _ e] at ha
    exact h.1 r hr a ha
theorem s_setF_NV {σ : sS} {i k : Nat} {v : sV} (h : s_NV σ) (hv : s_nvV v) : s_NV (s_setF σ i k v) := by
  refine ⟨h.1, fun j hj q hq a ha => ?_⟩
  rcases s_upF_cases (show s_upF (s_fl σ) i k v j q = some (.inl a) from ha) with ⟨-, -, e⟩ | e
  · exact hv a e
  · exact h.2 j hj q hq a e
theorem s_push_NV {σ : sS} {i : Nat} {v : sV} (h : s_NV σ) (hv : s_nvV v) : s_NV (s_push σ i v) := s_setF_NV (i := i) (k := s_ht σ i) h hv
theorem s_pop_NV {σ : sS} {i : Nat} (h : s_NV σ) : s_NV (s_pop σ i) := s_setF_NV (i := i) (k := s_ht σ i - 1) (v := none) h (fun a e => by cases e)
theorem s_get_NV {σ : sS} {r : Int32} (h : s_NV σ) (hr : 0 ≤ r ∧ r ≤ 15) : s_nvV (s_get σ r) := fun a e => h.1 _ (s_reg hr) a e
theorem s_no_NV : s_nvV none := fun a e => by cases e
theorem s_ob_NV (i : Nat) : s_nvV (some (.inr i)) := fun a e => by cases e
theorem s_newM_NV {σ : sS} {t d : Nat} (h : s_NV σ) : s_NV (s_newM σ t d) := by
  refine ⟨h.1, fun i hi k hk a ha => ?_⟩
  have hi : va_up (s_kd σ) (s_md σ + 2) 2 i = 3 ∨ va_up (s_kd σ) (s_md σ + 2) 2 i = 4 := hi
  by_cases e : i = s_md σ + 2
  · rw [e, va_up_self] at hi
    omega
  · rw [va_up_ne _ _ e] at hi
    exact h.2 i hi k hk a ha
theorem s_newX_NV {σ : sS} {kk ht rm og : Nat} {s : Option Nat} {de ct : Int32} (h : s_NV σ) : s_NV (s_newX σ kk s de ht rm og ct) := by
  refine ⟨h.1, fun i hi k hk a ha => ?_⟩
  have hi : va_up (s_kd σ) (s_md σ + 1) kk i = 3 ∨ va_up (s_kd σ) (s_md σ + 1) kk i = 4 := hi
  have hk : k < va_up (s_rm σ) (s_md σ + 1) rm i := hk
  have ha : va_up (s_fl σ) (s_md σ + 1) (fun _ => none) i k = some (.inl a) := ha
  by_cases e : i = s_md σ + 1
  · rw [e, va_up_self] at ha
    cases ha
  · rw [va_up_ne _ _ e] at hi hk ha
    exact h.2 i hi k hk a ha
theorem s_drop_NV {σ : sS} {i : Nat} (h : s_NV σ) : ∀ k, s_NV (s_drop σ i k)
  | 0 => h
  | k + 1 => s_pop_NV (s_drop_NV h k)
theorem s_fill_NV {σ : sS} {i : Nat} {v : Int32} (h : s_NV σ) : ∀ k, (∀ q, q < k → -1073741824 ≤ v + nI q ∧ v + nI q ≤ 1073741823) → s_NV (s_fill σ i v k)
  | 0, _ => h
  | k + 1, hq => s_push_NV (s_fill_NV h k (fun q hk => hq q (by omega))) (fun a e => by cases e; exact hq k (by omega))
theorem s_fill_in {v nn : Int32} {q : Nat} (h0 : 0 ≤ nn ∧ nn ≤ 100) (hv : nn = 0 ∨ ((-1073741824 ≤ v ∧ v ≤ 1073741823) ∧ v ≤ 1073741823 - (nn - 1))) (hq : q < nn.toNatClampNeg) : -1073741824 ≤ v + nI q ∧ v + nI q ≤ 1073741823 := by
  rcases hv with e | ⟨hv, hl⟩
  · exact absurd e (m_f0 hq)
  · have h1 := m_fz h0.1 h0.2 hq hl
    have hq1 : q < 100 := by have := s_clampLe h0.1 (k := 100) (by decide) h0.2; omega
    rw [m_fM (by omega)] at h1
    have hv2 := m_toI hv
    have h2 := Int32.le_iff_toInt_le.mp h1
    rw [nI_toInt (by omega)] at h2
    have e : (v + nI q).toInt = v.toInt + q := by
      rw [Int32.toInt_add, nI_toInt (by omega)]
      exact m_bm (by omega) (by omega)
    constructor
    · rw [Int32.le_iff_toInt_le, e]
      show (-1073741824 : Int) ≤ v.toInt + q
      omega
    · rw [Int32.le_iff_toInt_le, e]
      show v.toInt + q ≤ (1073741823 : Int)
      omega
section PNV
variable {w n : Nat} {σ : sS}
theorem p_number_NV (h : s_NV σ) (r v : Int32) : s_NV (p_number σ r v).2 := by
  unfold p_number
  split
  · rename_i hr
    exact s_setR_NV h (fun a e => by cases e; exact hr.2)
  · exact h
theorem p_move_NV (h : s_NV σ) (r f : Int32) : s_NV (p_move σ r f).2 := by
  unfold p_move
  split
  · rename_i hr
    exact s_setR_NV h (s_get_NV h hr.2)
  · exact h
theorem p_clear_NV (h : s_NV σ) (r : Int32) : s_NV (p_clear σ r).2 := by
  unfold p_clear
  split
  · exact s_setR_NV h s_no_NV
  · exact h
theorem p_method_NV (h : s_NV σ) (r a t d : Int32) : s_NV (p_method w n σ r a t d).2 := by
  unfold p_method
  split
  · split
    · exact s_setR_NV (s_newM_NV h) (s_ob_NV _)
    · exact h
  · exact h
theorem p_change_NV (h : s_NV σ) (r a t d : Int32) : s_NV (p_change σ r a t d).2 := by
  unfold p_change
  split
  · split
    · exact h
    · exact h
  · exact h
theorem p_context_NV (h : s_NV σ) (r m s : Int32) : s_NV (p_context w n σ r m s).2 := by
  unfold p_context
  split
  · split
    · split
      · exact s_setR_NV (s_newX_NV h) (s_ob_NV _)
      · exact h
    · exact h
  · exact h
theorem p_block_NV (h : s_NV σ) (r c k : Int32) : s_NV (p_block w n σ r c k).2 := by
  unfold p_block
  split
  · split
    · split
      · exact s_setR_NV (s_newX_NV h) (s_ob_NV _)
      · exact h
    · exact h
  · exact h
theorem p_push_NV (h : s_NV σ) (c f : Int32) : s_NV (p_push σ c f).2 := by
  unfold p_push
  split
  · split
    · rename_i hr
      exact s_push_NV h (s_get_NV h hr.1)
    · exact h
  · exact h
theorem p_fill_NV (h : s_NV σ) (c v k : Int32) : s_NV (p_fill σ c v k).2 := by
  unfold p_fill
  split
  · split
    · rename_i hr
      exact s_fill_NV h _ (fun q hq => s_fill_in hr.1 hr.2 (by omega))
    · exact h
  · exact h
theorem s_fl_NV {i k : Nat} (h : s_NV σ) (hc : s_isC σ i) (hk : k < s_rm σ i) : s_nvV (s_fl σ i k) := fun a e => h.2 i hc k hk a e
theorem p_pop_NV (hO : s_OK w n σ) (h : s_NV σ) (r c : Int32) : s_NV (p_pop σ r c).2 := by
  unfold p_pop
  split
  · rename_i i hi
    split
    · rename_i hr
      have hc := (s_ci_some hi).2.2
      have hh := (hO.1.2.2.2.2.2.2 i hc).2.1
      exact s_setR_NV (s_pop_NV h) (s_fl_NV h hc (by omega))
    · exact h
  · exact h
theorem p_peek_NV (hO : s_OK w n σ) (h : s_NV σ) (r c u : Int32) : s_NV (p_peek σ r c u).2 := by
  unfold p_peek
  split
  · rename_i i hi
    split
    · rename_i hr
      have hc := (s_ci_some hi).2.2
      have hh := (hO.1.2.2.2.2.2.2 i hc).2.1
      exact s_setR_NV h (s_fl_NV h hc (by omega))
    · exact h
  · exact h
theorem p_drop_NV (h : s_NV σ) (c k : Int32) : s_NV (p_drop σ c k).2 := by
  unfold p_drop
  split
  · split
    · exact s_drop_NV h _
    · exact h
  · exact h
theorem p_home_NV (h : s_NV σ) (r c : Int32) : s_NV (p_home σ r c).2 := by
  unfold p_home
  split
  · split
    · exact s_setR_NV h (s_ob_NV _)
    · exact h
  · exact h
theorem p_sender_NV (h : s_NV σ) (r c : Int32) : s_NV (p_sender σ r c).2 := by
  unfold p_sender
  split
  · split
    · exact s_setR_NV h (fun a e => absurd (sn_no e) id)
    · exact h
  · exact h
theorem p_send_NV (h : s_NV σ) (c s : Int32) : s_NV (p_send σ c s).2 := by
  unfold p_send
  split
  · exact h
  · exact h
theorem p_kill_NV (h : s_NV σ) (c d : Int32) : s_NV (p_kill σ c d).2 := by
  unfold p_kill
  split
  · exact h
  · exact h
theorem p_temporary_NV (hO : s_OK w n σ) (h : s_NV σ) (r c i : Int32) : s_NV (p_temporary σ r c i).2 := by
  unfold p_temporary
  split
  · rename_i j hj
    split
    · rename_i hr
      exact s_setR_NV h (s_fl_NV h (Or.inl (s_hm_kd hO.1 (s_ci_some hj).2.2)) hr.2.2.2)
    · exact h
  · exact h
theorem p_keep_NV (h : s_NV σ) (c i f : Int32) : s_NV (p_keep σ c i f).2 := by
  unfold p_keep
  split
  · split
    · rename_i hr
      exact s_setF_NV h (s_get_NV h hr.1)
    · exact h
  · exact h
end PNV
