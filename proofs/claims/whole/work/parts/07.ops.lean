/-! THE CALLS, as the document says them, over the mathematical state: the answer, and the state behind. -/
def s_mi (σ : sS) (r : Int32) : Option Nat := if 0 ≤ r ∧ r ≤ 15 then (match s_rg σ r.toNatClampNeg with
  | some (.inr i) => if s_kd σ i = 2 then some i else none
  | _ => none) else none
def s_ci (σ : sS) (r : Int32) : Option Nat := if 0 ≤ r ∧ r ≤ 15 then (match s_rg σ r.toNatClampNeg with
  | some (.inr i) => if s_kd σ i = 3 ∨ s_kd σ i = 4 then some i else none
  | _ => none) else none
/-- a register that is nil or has a context: what it is as a sender -/
def s_si (σ : sS) (r : Int32) : Option (Option Nat) := if 0 ≤ r ∧ r ≤ 15 then (match s_rg σ r.toNatClampNeg with
  | none => some none
  | some (.inr i) => if s_kd σ i = 3 ∨ s_kd σ i = 4 then some (some i) else none
  | _ => none) else none
def s_get (σ : sS) (r : Int32) : sV := s_rg σ r.toNatClampNeg
def s_put (σ : sS) (r : Int32) (v : sV) : sS := s_setR σ r.toNatClampNeg v
def s_fill (σ : sS) (i : Nat) (v : Int32) : Nat → sS
  | 0 => σ
  | k + 1 => s_push (s_fill σ i v k) i (some (.inl (v + nI k)))
def s_drop (σ : sS) (i : Nat) : Nat → sS
  | 0 => σ
  | k + 1 => s_pop (s_drop σ i k) i
def p_number (σ : sS) (r v : Int32) : Int32 × sS := if (0 ≤ r ∧ r ≤ 15) ∧ (-1073741824 ≤ v ∧ v ≤ 1073741823) then (1, s_put σ r (some (.inl v))) else (0, σ)
def p_move (σ : sS) (r f : Int32) : Int32 × sS := if (0 ≤ r ∧ r ≤ 15) ∧ (0 ≤ f ∧ f ≤ 15) then (1, s_put σ r (s_get σ f)) else (0, σ)
def p_clear (σ : sS) (r : Int32) : Int32 × sS := if 0 ≤ r ∧ r ≤ 15 then (1, s_put σ r none) else (0, σ)
def p_kind (σ : sS) (r : Int32) : Int32 := if 0 ≤ r ∧ r ≤ 15 then (match s_get σ r with
  | none => 0
  | some (.inl _) => 1
  | some (.inr i) => nI (s_kd σ i)) else -1
def p_value (σ : sS) (r : Int32) : Int32 := if 0 ≤ r ∧ r ≤ 15 then (match s_get σ r with
  | none => 0
  | some (.inl v) => v
  | some (.inr i) => nI i) else 0
def s_fit (w n : Nat) (σ : sS) (a b : Nat) : Prop := a + s_W σ + 8 ≤ w ∧ b + s_N σ + 2 ≤ n
noncomputable def p_method (w n : Nat) (σ : sS) (r a t d : Int32) : Int32 × sS :=
  if (0 ≤ r ∧ r ≤ 15) ∧ (0 ≤ a ∧ a ≤ 15) ∧ (a ≤ t ∧ t ≤ 31) ∧ (0 ≤ d ∧ d ≤ 63) then
    (if 10 + s_W σ + 8 ≤ w ∧ 2 + s_N σ + 2 ≤ n then (nI (s_md σ + 2), s_put (s_newM σ t.toNatClampNeg d.toNatClampNeg) r (some (.inr (s_md σ + 2)))) else (-2, σ))
  else (-1, σ)
def p_change (σ : sS) (r a t d : Int32) : Int32 × sS := match s_mi σ r with
  | some i => if (0 ≤ a ∧ a ≤ 15) ∧ (a ≤ t ∧ t ≤ 31) ∧ (0 ≤ d ∧ d ≤ 63) then (1, s_setT σ i t.toNatClampNeg d.toNatClampNeg) else (0, σ)
  | none => (0, σ)
noncomputable def p_context (w n : Nat) (σ : sS) (r m s : Int32) : Int32 × sS := match s_mi σ m, s_si σ s with
  | some i, some o => if 0 ≤ r ∧ r ≤ 15 then
      (if 9 + (s_tt σ i + s_dd σ i) + s_W σ + 8 ≤ w ∧ 1 + s_N σ + 2 ≤ n then (nI (s_md σ + 1), s_put (s_newX σ 3 o 0 (s_tt σ i) (s_tt σ i + s_dd σ i) i 0) r (some (.inr (s_md σ + 1)))) else (-2, σ)) else (-1, σ)
  | _, _ => (-1, σ)
noncomputable def p_block (w n : Nat) (σ : sS) (r c k : Int32) : Int32 × sS := match s_ci σ c with
  | some i => if (0 ≤ r ∧ r ≤ 15) ∧ (0 ≤ k ∧ k ≤ 15) then
      (if 10 + s_dd σ (s_og σ (s_hm σ i)) + s_W σ + 8 ≤ w ∧ 1 + s_N σ + 2 ≤ n then (nI (s_md σ + 1), s_put (s_newX σ 4 none 1 0 (s_dd σ (s_og σ (s_hm σ i))) (s_hm σ i) k) r (some (.inr (s_md σ + 1)))) else (-2, σ)) else (-1, σ)
  | none => (-1, σ)
def p_push (σ : sS) (c f : Int32) : Int32 × sS := match s_ci σ c with
  | some i => if (0 ≤ f ∧ f ≤ 15) ∧ s_ht σ i < s_rm σ i then (1, s_push σ i (s_get σ f)) else (0, σ)
  | none => (0, σ)
def p_fill (σ : sS) (c v k : Int32) : Int32 × sS := match s_ci σ c with
  | some i => if (0 ≤ k ∧ k ≤ 100) ∧ (k = 0 ∨ ((-1073741824 ≤ v ∧ v ≤ 1073741823) ∧ v ≤ 1073741823 - (k - 1))) then (nI (min k.toNatClampNeg (s_rm σ i - s_ht σ i)), s_fill σ i v (min k.toNatClampNeg (s_rm σ i - s_ht σ i))) else (-1, σ)
  | none => (-1, σ)
def p_pop (σ : sS) (r c : Int32) : Int32 × sS := match s_ci σ c with
  | some i => if (0 ≤ r ∧ r ≤ 15) ∧ s_fr σ i < s_ht σ i then (1, s_put (s_pop σ i) r (s_fl σ i (s_ht σ i - 1))) else (0, σ)
  | none => (0, σ)
def p_peek (σ : sS) (r c u : Int32) : Int32 × sS := match s_ci σ c with
  | some i => if (0 ≤ r ∧ r ≤ 15) ∧ 0 ≤ u ∧ s_fr σ i + u.toNatClampNeg < s_ht σ i then (1, s_put σ r (s_fl σ i (s_ht σ i - 1 - u.toNatClampNeg))) else (0, σ)
  | none => (0, σ)
def p_drop (σ : sS) (c k : Int32) : Int32 × sS := match s_ci σ c with
  | some i => if 0 ≤ k ∧ (k = 0 ∨ s_fr σ i + k.toNatClampNeg ≤ s_ht σ i) then (1, s_drop σ i k.toNatClampNeg) else (0, σ)
  | none => (0, σ)
def p_height (σ : sS) (c : Int32) : Int32 := match s_ci σ c with
  | some i => nI (s_ht σ i)
  | none => -1
def p_room (σ : sS) (c : Int32) : Int32 := match s_ci σ c with
  | some i => nI (s_rm σ i)
  | none => -1
def p_floor (σ : sS) (c : Int32) : Int32 := match s_ci σ c with
  | some i => nI (s_fr σ i)
  | none => -1
def p_count (σ : sS) (c : Int32) : Int32 := match s_ci σ c with
  | some i => if s_kd σ i = 4 then s_ct σ i else -1
  | none => -1
def p_home (σ : sS) (r c : Int32) : Int32 × sS := match s_ci σ c with
  | some i => if 0 ≤ r ∧ r ≤ 15 then (1, s_put σ r (some (.inr (s_hm σ i)))) else (0, σ)
  | none => (0, σ)
def p_sender (σ : sS) (r c : Int32) : Int32 × sS := match s_ci σ c with
  | some i => if 0 ≤ r ∧ r ≤ 15 then (1, s_put σ r ((s_sn σ i).map .inr)) else (0, σ)
  | none => (0, σ)
def p_send (σ : sS) (c s : Int32) : Int32 × sS := match s_ci σ c, s_si σ s with
  | some i, some o => (1, s_setS σ i o)
  | _, _ => (0, σ)
def p_kill (σ : sS) (c d : Int32) : Int32 × sS := match s_ci σ c with
  | some i => (s_de σ i, s_setD σ i d)
  | none => (0, σ)
def p_temporary (σ : sS) (r c i : Int32) : Int32 × sS := match s_ci σ c with
  | some j => if (0 ≤ r ∧ r ≤ 15) ∧ 0 ≤ i ∧ i.toNatClampNeg < s_tt σ (s_og σ (s_hm σ j)) ∧ i.toNatClampNeg < s_rm σ (s_hm σ j) then (1, s_put σ r (s_fl σ (s_hm σ j) i.toNatClampNeg)) else (0, σ)
  | none => (0, σ)
def p_keep (σ : sS) (c i f : Int32) : Int32 × sS := match s_ci σ c with
  | some j => if (0 ≤ f ∧ f ≤ 15) ∧ 0 ≤ i ∧ i.toNatClampNeg < s_tt σ (s_og σ (s_hm σ j)) ∧ i.toNatClampNeg < s_rm σ (s_hm σ j) then (1, s_setF σ (s_hm σ j) i.toNatClampNeg (s_get σ f)) else (0, σ)
  | none => (0, σ)
noncomputable def p_words (w : Nat) (σ : sS) : Int32 := nI (w - 8 - s_W σ)
noncomputable def p_entries (n : Nat) (σ : sS) : Int32 := nI (n - 2 - s_N σ)
noncomputable def p_contexts (σ : sS) : Int32 := nI (s_K σ)
theorem s_mi_some {σ : sS} {r : Int32} {i : Nat} (h : s_mi σ r = some i) : (0 ≤ r ∧ r ≤ 15) ∧ s_get σ r = some (.inr i) ∧ s_kd σ i = 2 := by
  unfold s_mi at h
  split at h
  · rename_i hr
    split at h
    · rename_i j hj
      split at h
      · rename_i hk
        cases h
        exact ⟨hr, hj, hk⟩
      · cases h
    · cases h
  · cases h
theorem s_ci_some {σ : sS} {r : Int32} {i : Nat} (h : s_ci σ r = some i) : (0 ≤ r ∧ r ≤ 15) ∧ s_get σ r = some (.inr i) ∧ s_isC σ i := by
  unfold s_ci at h
  split at h
  · rename_i hr
    split at h
    · rename_i j hj
      split at h
      · rename_i hk
        cases h
        exact ⟨hr, hj, hk⟩
      · cases h
    · cases h
  · cases h
theorem s_si_some {σ : sS} {r : Int32} {o : Option Nat} (h : s_si σ r = some o) : (0 ≤ r ∧ r ≤ 15) ∧ ((o = none ∧ s_get σ r = none) ∨ ∃ i, o = some i ∧ s_get σ r = some (.inr i) ∧ s_isC σ i) := by
  unfold s_si at h
  split at h
  · rename_i hr
    refine ⟨hr, ?_⟩
    split at h
    · rename_i hj
      cases h
      exact Or.inl ⟨rfl, hj⟩
    · rename_i j hj
      split at h
      · rename_i hk
        cases h
        exact Or.inr ⟨j, rfl, hj, hk⟩
      · cases h
    · cases h
  · cases h
theorem s_reg {r : Int32} (h : 0 ≤ r ∧ r ≤ 15) : r.toNatClampNeg < 16 := by
  obtain ⟨j, hj, rfl⟩ := nI_of2 (n := 15) rfl (fun q => absurd h.1 (Int32.not_le.mpr q)) h.2
  rw [nI_clamp (by omega)]
  omega
theorem s_get_rch {σ : sS} {r : Int32} {i : Nat} (hr : 0 ≤ r ∧ r ≤ 15) (h : s_get σ r = some (.inr i)) : s_rch σ i := s_rch_root (s_reg hr) h
theorem s_ci_rch {σ : sS} {r : Int32} {i : Nat} (h : s_ci σ r = some i) : s_rch σ i := s_get_rch (s_ci_some h).1 (s_ci_some h).2.1
theorem s_mi_rch {σ : sS} {r : Int32} {i : Nat} (h : s_mi σ r = some i) : s_rch σ i := s_get_rch (s_mi_some h).1 (s_mi_some h).2.1
theorem s_hm_rch {σ : sS} {i : Nat} (h : s_rch σ i) (hi : s_isC σ i) : s_rch σ (s_hm σ i) := by
  unfold s_hm
  split
  · exact s_rch_edge h ⟨hi, Or.inr (Or.inl rfl)⟩
  · exact h
theorem s_hm_kd {σ : sS} {i : Nat} (hI : s_I σ) (hi : s_isC σ i) : s_kd σ (s_hm σ i) = 3 := by
  unfold s_hm
  split
  · rename_i h
    exact hI.2.2.2.2.2.1 i h
  · rename_i h
    exact hi.resolve_right h
theorem s_fill_st (σ : sS) (i : Nat) (v : Int32) : ∀ k, s_ht (s_fill σ i v k) i = s_ht σ i + k ∧ s_rm (s_fill σ i v k) = s_rm σ ∧ s_kd (s_fill σ i v k) = s_kd σ ∧ s_md (s_fill σ i v k) = s_md σ
  | 0 => ⟨rfl, rfl, rfl, rfl⟩
  | k + 1 => by
    obtain ⟨h1, h2, h3, h4⟩ := s_fill_st σ i v k
    refine ⟨?_, h2, h3, h4⟩
    show va_up (s_ht (s_fill σ i v k)) i (s_ht (s_fill σ i v k) i + 1) i = s_ht σ i + (k + 1)
    rw [va_up_self, h1]
    omega
theorem s_fill_OK {w n i : Nat} {σ : sS} {v : Int32} (h : s_OK w n σ) : ∀ k, s_ht σ i + k ≤ s_rm σ i → s_OK w n (s_fill σ i v k)
  | 0, _ => h
  | k + 1, hk => by
    obtain ⟨h1, h2, h3, h4⟩ := s_fill_st σ i v k
    exact s_push_OK (s_fill_OK h k (by omega)) (fun j e => by cases e) (by rw [h1, h2]; omega)
theorem s_drop_st (σ : sS) (i : Nat) : ∀ k, s_ht (s_drop σ i k) i = s_ht σ i - k ∧ s_rm (s_drop σ i k) = s_rm σ ∧ s_kd (s_drop σ i k) = s_kd σ ∧ s_md (s_drop σ i k) = s_md σ
  | 0 => ⟨rfl, rfl, rfl, rfl⟩
  | k + 1 => by
    obtain ⟨h1, h2, h3, h4⟩ := s_drop_st σ i k
    refine ⟨?_, h2, h3, h4⟩
    show va_up (s_ht (s_drop σ i k)) i (s_ht (s_drop σ i k) i - 1) i = s_ht σ i - (k + 1)
    rw [va_up_self, h1]
    omega
theorem s_drop_OK {w n i : Nat} {σ : sS} (h : s_OK w n σ) (hi : s_isC σ i) : ∀ k, s_OK w n (s_drop σ i k)
  | 0 => h
  | k + 1 => s_pop_OK (s_drop_OK h hi k) (by unfold s_isC; rw [(s_drop_st σ i k).2.2.1]; exact hi)
theorem p_number_OK {w n : Nat} {σ : sS} (h : s_OK w n σ) (r v : Int32) : s_OK w n (p_number σ r v).2 ∧ s_md (p_number σ r v).2 ≤ s_md σ + 2 := by
  unfold p_number
  split
  · exact ⟨s_setR_OK h (fun i e => by cases e), Nat.le_add_right _ _⟩
  · exact ⟨h, Nat.le_add_right _ _⟩
theorem p_move_OK {w n : Nat} {σ : sS} (h : s_OK w n σ) (r f : Int32) : s_OK w n (p_move σ r f).2 ∧ s_md (p_move σ r f).2 ≤ s_md σ + 2 := by
  unfold p_move
  split
  · rename_i hr
    exact ⟨s_setR_OK h (fun i e => s_get_rch hr.2 e), Nat.le_add_right _ _⟩
  · exact ⟨h, Nat.le_add_right _ _⟩
theorem p_clear_OK {w n : Nat} {σ : sS} (h : s_OK w n σ) (r : Int32) : s_OK w n (p_clear σ r).2 ∧ s_md (p_clear σ r).2 ≤ s_md σ + 2 := by
  unfold p_clear
  split
  · exact ⟨s_setR_OK h (fun i e => by cases e), Nat.le_add_right _ _⟩
  · exact ⟨h, Nat.le_add_right _ _⟩
theorem s_clampLe {x : Int32} {k : Nat} (h0 : 0 ≤ x) (hk : k < 2 ^ 31) (h : x ≤ nI k) : x.toNatClampNeg ≤ k := by
  obtain ⟨j, hj, rfl⟩ := nI_of (x := x) (fun q => absurd h0 (Int32.not_le.mpr q))
  rw [nI_clamp hj]
  exact (nI_leI hj hk).mp h
theorem p_method_OK {w n : Nat} {σ : sS} (h : s_OK w n σ) (r a t d : Int32) : s_OK w n (p_method w n σ r a t d).2 ∧ s_md (p_method w n σ r a t d).2 ≤ s_md σ + 2 := by
  unfold p_method
  split
  · rename_i hr
    split
    · rename_i hf
      refine ⟨s_newM_OK h (s_clampLe (Int32.le_trans hr.2.1.1 hr.2.2.1.1) (by decide) hr.2.2.1.2) (s_clampLe hr.2.2.2.1 (by decide) hr.2.2.2.2) hf.1 hf.2, Nat.le_refl _⟩
    · exact ⟨h, Nat.le_add_right _ _⟩
  · exact ⟨h, Nat.le_add_right _ _⟩
theorem p_change_OK {w n : Nat} {σ : sS} (h : s_OK w n σ) (r a t d : Int32) : s_OK w n (p_change σ r a t d).2 ∧ s_md (p_change σ r a t d).2 ≤ s_md σ + 2 := by
  unfold p_change
  split
  · split
    · rename_i hr
      exact ⟨s_setT_OK h (s_clampLe (Int32.le_trans hr.1.1 hr.2.1.1) (by decide) hr.2.1.2) (s_clampLe hr.2.2.1 (by decide) hr.2.2.2), Nat.le_add_right _ _⟩
    · exact ⟨h, Nat.le_add_right _ _⟩
  · exact ⟨h, Nat.le_add_right _ _⟩
theorem p_context_OK {w n : Nat} {σ : sS} (h : s_OK w n σ) (r m s : Int32) : s_OK w n (p_context w n σ r m s).2 ∧ s_md (p_context w n σ r m s).2 ≤ s_md σ + 2 := by
  unfold p_context
  split
  · rename_i i o hi ho
    split
    · rename_i hr
      split
      · rename_i hf
        have hm := s_mi_some hi
        have hb := h.1.2.2.2.1 i hm.2.2
        refine ⟨s_newX_OK h (Or.inl ⟨rfl, hm.2.2⟩) (fun j hj => ?_) (Or.inl rfl) (Nat.le_add_right _ _) (by omega) (s_mi_rch hi) (by rw [if_pos rfl]; exact hf.1) hf.2, Nat.add_le_add_left (by decide) _⟩
        have hs := s_si_some ho
        rcases hs.2 with e | ⟨j', e1, e2, e3⟩
        · rw [e.1] at hj; cases hj
        · rw [e1] at hj; cases hj
          exact ⟨s_get_rch hs.1 e2, e3⟩
      · exact ⟨h, Nat.le_add_right _ _⟩
    · exact ⟨h, Nat.le_add_right _ _⟩
  · exact ⟨h, Nat.le_add_right _ _⟩
theorem p_block_OK {w n : Nat} {σ : sS} (h : s_OK w n σ) (r c k : Int32) : s_OK w n (p_block w n σ r c k).2 ∧ s_md (p_block w n σ r c k).2 ≤ s_md σ + 2 := by
  unfold p_block
  split
  · rename_i i hi
    split
    · split
      · rename_i hf
        have hc := (s_ci_some hi).2.2
        have hk := s_hm_kd h.1 hc
        have hb := h.1.2.2.2.1 _ (h.1.2.2.2.2.1 _ hk)
        exact ⟨s_newX_OK h (Or.inr ⟨rfl, hk⟩) (fun j hj => by cases hj) (Or.inr rfl) (Nat.zero_le _) (by omega) (s_hm_rch (s_ci_rch hi) hc) (by rw [if_neg (by decide)]; exact hf.1) hf.2, Nat.add_le_add_left (by decide) _⟩
      · exact ⟨h, Nat.le_add_right _ _⟩
    · exact ⟨h, Nat.le_add_right _ _⟩
  · exact ⟨h, Nat.le_add_right _ _⟩
theorem p_push_OK {w n : Nat} {σ : sS} (h : s_OK w n σ) (c f : Int32) : s_OK w n (p_push σ c f).2 ∧ s_md (p_push σ c f).2 ≤ s_md σ + 2 := by
  unfold p_push
  split
  · split
    · rename_i hr
      exact ⟨s_push_OK h (fun j e => s_get_rch hr.1 e) hr.2, Nat.le_add_right _ _⟩
    · exact ⟨h, Nat.le_add_right _ _⟩
  · exact ⟨h, Nat.le_add_right _ _⟩
theorem p_fill_OK {w n : Nat} {σ : sS} (h : s_OK w n σ) (c v k : Int32) : s_OK w n (p_fill σ c v k).2 ∧ s_md (p_fill σ c v k).2 ≤ s_md σ + 2 := by
  unfold p_fill
  split
  · rename_i i hi
    split
    · have hh := (h.1.2.2.2.2.2.2 i (s_ci_some hi).2.2).2.1
      exact ⟨s_fill_OK h _ (by omega), by rw [(s_fill_st σ i v _).2.2.2]; exact Nat.le_add_right _ _⟩
    · exact ⟨h, Nat.le_add_right _ _⟩
  · exact ⟨h, Nat.le_add_right _ _⟩
theorem p_pop_OK {w n : Nat} {σ : sS} (h : s_OK w n σ) (r c : Int32) : s_OK w n (p_pop σ r c).2 ∧ s_md (p_pop σ r c).2 ≤ s_md σ + 2 := by
  unfold p_pop
  split
  · rename_i i hi
    split
    · rename_i hr
      have hc := (s_ci_some hi).2.2
      have hh := (h.1.2.2.2.2.2.2 i hc).2.1
      -- the register first, then the pop: the same state
      have h1 : s_OK w n (s_setR σ r.toNatClampNeg (s_fl σ i (s_ht σ i - 1))) := s_setR_OK h (fun j e => s_rch_edge (s_ci_rch hi) ⟨hc, Or.inr (Or.inr ⟨_, by omega, e⟩)⟩)
      exact ⟨s_pop_OK (i := i) h1 hc, Nat.le_add_right _ _⟩
    · exact ⟨h, Nat.le_add_right _ _⟩
  · exact ⟨h, Nat.le_add_right _ _⟩
theorem p_peek_OK {w n : Nat} {σ : sS} (h : s_OK w n σ) (r c u : Int32) : s_OK w n (p_peek σ r c u).2 ∧ s_md (p_peek σ r c u).2 ≤ s_md σ + 2 := by
  unfold p_peek
  split
  · rename_i i hi
    split
    · rename_i hr
      have hc := (s_ci_some hi).2.2
      have hh := (h.1.2.2.2.2.2.2 i hc).2.1
      exact ⟨s_setR_OK h (fun j e => s_rch_edge (s_ci_rch hi) ⟨hc, Or.inr (Or.inr ⟨_, by omega, e⟩)⟩), Nat.le_add_right _ _⟩
    · exact ⟨h, Nat.le_add_right _ _⟩
  · exact ⟨h, Nat.le_add_right _ _⟩
theorem p_drop_OK {w n : Nat} {σ : sS} (h : s_OK w n σ) (c k : Int32) : s_OK w n (p_drop σ c k).2 ∧ s_md (p_drop σ c k).2 ≤ s_md σ + 2 := by
  unfold p_drop
  split
  · rename_i i hi
    split
    · exact ⟨s_drop_OK h (s_ci_some hi).2.2 _, by rw [(s_drop_st σ i _).2.2.2]; exact Nat.le_add_right _ _⟩
    · exact ⟨h, Nat.le_add_right _ _⟩
  · exact ⟨h, Nat.le_add_right _ _⟩
theorem p_home_OK {w n : Nat} {σ : sS} (h : s_OK w n σ) (r c : Int32) : s_OK w n (p_home σ r c).2 ∧ s_md (p_home σ r c).2 ≤ s_md σ + 2 := by
  unfold p_home
  split
  · rename_i i hi
    split
    · exact ⟨s_setR_OK h (fun j e => by cases e; exact s_hm_rch (s_ci_rch hi) (s_ci_some hi).2.2), Nat.le_add_right _ _⟩
    · exact ⟨h, Nat.le_add_right _ _⟩
  · exact ⟨h, Nat.le_add_right _ _⟩
theorem p_sender_OK {w n : Nat} {σ : sS} (h : s_OK w n σ) (r c : Int32) : s_OK w n (p_sender σ r c).2 ∧ s_md (p_sender σ r c).2 ≤ s_md σ + 2 := by
  unfold p_sender
  split
  · rename_i i hi
    split
    · refine ⟨s_setR_OK h (fun j e => s_rch_edge (s_ci_rch hi) ⟨(s_ci_some hi).2.2, Or.inl ?_⟩), Nat.le_add_right _ _⟩
      cases hs : s_sn σ i with
      | none => rw [hs] at e; cases e
      | some q => rw [hs] at e; cases e; rfl
    · exact ⟨h, Nat.le_add_right _ _⟩
  · exact ⟨h, Nat.le_add_right _ _⟩
theorem p_send_OK {w n : Nat} {σ : sS} (h : s_OK w n σ) (c s : Int32) : s_OK w n (p_send σ c s).2 ∧ s_md (p_send σ c s).2 ≤ s_md σ + 2 := by
  unfold p_send
  split
  · rename_i i o hi ho
    refine ⟨s_setS_OK h (fun j hj => ?_), Nat.le_add_right _ _⟩
    have hs := s_si_some ho
    rcases hs.2 with e | ⟨j', e1, e2, e3⟩
    · rw [e.1] at hj; cases hj
    · rw [e1] at hj; cases hj
      exact ⟨s_get_rch hs.1 e2, e3⟩
  · exact ⟨h, Nat.le_add_right _ _⟩
theorem p_kill_OK {w n : Nat} {σ : sS} (h : s_OK w n σ) (c d : Int32) (hd : d = 0 ∨ d = 1) : s_OK w n (p_kill σ c d).2 ∧ s_md (p_kill σ c d).2 ≤ s_md σ + 2 := by
  unfold p_kill
  split
  · exact ⟨s_setD_OK h hd, Nat.le_add_right _ _⟩
  · exact ⟨h, Nat.le_add_right _ _⟩
theorem p_temporary_OK {w n : Nat} {σ : sS} (h : s_OK w n σ) (r c i : Int32) : s_OK w n (p_temporary σ r c i).2 ∧ s_md (p_temporary σ r c i).2 ≤ s_md σ + 2 := by
  unfold p_temporary
  split
  · rename_i j hj
    split
    · rename_i hr
      have hc := (s_ci_some hj).2.2
      exact ⟨s_setR_OK h (fun q e => s_rch_edge (s_hm_rch (s_ci_rch hj) hc) ⟨Or.inl (s_hm_kd h.1 hc), Or.inr (Or.inr ⟨_, hr.2.2.2, e⟩)⟩), Nat.le_add_right _ _⟩
    · exact ⟨h, Nat.le_add_right _ _⟩
  · exact ⟨h, Nat.le_add_right _ _⟩
theorem p_keep_OK {w n : Nat} {σ : sS} (h : s_OK w n σ) (c i f : Int32) : s_OK w n (p_keep σ c i f).2 ∧ s_md (p_keep σ c i f).2 ≤ s_md σ + 2 := by
  unfold p_keep
  split
  · split
    · rename_i hr
      exact ⟨s_setF_OK h (fun q e => s_get_rch hr.1 e), Nat.le_add_right _ _⟩
    · exact ⟨h, Nat.le_add_right _ _⟩
  · exact ⟨h, Nat.le_add_right _ _⟩
