/-! patterns: the two ways of counting agree -/
theorem h_ck_at : ∀ {l : List Nat} {k a b : Nat}, h_ck l = true → l[k]? = some a → l[k + 1]? = some b → m_nx (nI a) = nI b ∧ ¬ (nI a &&& - nI a) = 0
  | [], k, a, b, _, h1, _ => by simp at h1
  | [x], k, a, b, _, _, h2 => by simp at h2
  | x :: y :: r, 0, a, b, h, h1, h2 => by
    simp at h1 h2
    subst h1 h2
    simp only [h_ck, Bool.and_eq_true, decide_eq_true_eq, Bool.not_eq_true', decide_eq_false_iff_not] at h
    exact h.1
  | x :: y :: r, k + 1, a, b, h, h1, h2 => by
    simp only [h_ck, Bool.and_eq_true] at h
    exact h_ck_at (l := y :: r) (k := k) h.2 (by simpa using h1) (by simpa using h2)
theorem h_lt : ∀ {w n x : Nat}, x ∈ h_l w n → x < 2 ^ w
  | 0, 0, x, h => by simp [h_l] at h; omega
  | 0, n + 1, x, h => by simp [h_l] at h
  | w + 1, 0, x, h => by have := h_lt (w := w) (n := 0) h; rw [Nat.pow_succ]; omega
  | w + 1, n + 1, x, h => by
    simp only [h_l, List.mem_append, List.mem_map] at h
    rw [Nat.pow_succ]
    rcases h with h | ⟨y, h, rfl⟩
    · have := h_lt h; omega
    · have := h_lt h; omega
theorem h_pos : ∀ {w n : Nat}, n ≤ w → 0 < (h_l w n).length
  | 0, 0, _ => by simp [h_l]
  | 0, n + 1, h => by omega
  | w + 1, 0, _ => h_pos (w := w) (n := 0) (by omega)
  | w + 1, n + 1, h => by
    have := h_pos (w := w) (n := n) (by omega)
    simp only [h_l, List.length_append, List.length_map]
    omega
/-- the sets of fewer bits come first -/
theorem h_pre (w n : Nat) : ∀ m, ∃ r, h_l (w + m) n = h_l w n ++ r ∧ ∀ x ∈ r, 2 ^ w ≤ x
  | 0 => ⟨[], by simp, by simp⟩
  | m + 1 => by
    obtain ⟨r, h1, h2⟩ := h_pre w n m
    cases n with
    | zero => exact ⟨r, h1, h2⟩
    | succ n =>
      refine ⟨r ++ (h_l (w + m) n).map (fun x => x + 2 ^ (w + m)), ?_, ?_⟩
      · show h_l (w + m) (n + 1) ++ _ = _
        rw [h1, List.append_assoc]
        rfl
      · intro x hx
        rcases List.mem_append.mp hx with hx | hx
        · exact h2 x hx
        · obtain ⟨y, -, rfl⟩ := List.mem_map.mp hx
          have : 2 ^ w ≤ 2 ^ (w + m) := Nat.pow_le_pow_right (by omega) (by omega)
          omega
theorem h_len4 : (h_l 20 1).length = 20 ∧ (h_l 20 2).length = 190 ∧ (h_l 20 3).length = 1140 ∧ (h_l 20 4).length = 4845 := by decide +kernel
theorem h_len {w n : Nat} (hw : w ≤ 20) (hn : n ≤ 4) (hn1 : 1 ≤ n) : (h_l w n).length ≤ 4845 := by
  obtain ⟨r, h1, -⟩ := h_pre w n (20 - w)
  rw [show w + (20 - w) = 20 by omega] at h1
  have h2 := congrArg List.length h1
  rw [List.length_append] at h2
  have h4 := h_len4
  rcases (show n = 1 ∨ n = 2 ∨ n = 3 ∨ n = 4 by omega) with rfl | rfl | rfl | rfl <;> omega
theorem h_first : (h_l 21 1).getD 0 0 = 1 ∧ (h_l 21 2).getD 0 0 = 3 ∧ (h_l 21 3).getD 0 0 = 7 ∧ (h_l 21 4).getD 0 0 = 15 := by decide +kernel
/-- the k-th set -/
def h_L (n k : Nat) : Nat := if n = 0 then 0 else (h_l 21 n).getD k 0
def h_N (w n : Nat) : Nat := (h_l w n).length
theorem h_N0 : ∀ w, h_l w 0 = [0]
  | 0 => rfl
  | w + 1 => h_N0 w
theorem h_at {w n k : Nat} (hw : w ≤ 20) (hk : k < h_N w n) : (h_l w n)[k]? = some (h_L n k) := by
  unfold h_N at hk
  by_cases hn : n = 0
  · subst hn
    rw [h_N0] at hk ⊢
    have : k = 0 := by simp at hk; omega
    subst this
    rfl
  · obtain ⟨r, h1, -⟩ := h_pre w n (21 - w)
    rw [show w + (21 - w) = 21 by omega] at h1
    rw [h_L, if_neg hn, h1, List.getD_eq_getElem?_getD, List.getElem?_append_left hk, List.getElem?_eq_getElem hk]
    rfl
theorem h_end {w n : Nat} (hw : w ≤ 20) (hn1 : 1 ≤ n) (hnw : n ≤ w + 1) : (h_l 21 n)[h_N w n]? = some (h_L n (h_N w n)) ∧ 2 ^ w ≤ h_L n (h_N w n) := by
  obtain ⟨r, h1, h2⟩ := h_pre w n (21 - w)
  obtain ⟨r', h3, -⟩ := h_pre (w + 1) n (20 - w)
  rw [show w + (21 - w) = 21 by omega] at h1
  rw [show w + 1 + (20 - w) = 21 by omega] at h3
  have hl : (h_l w n).length < (h_l 21 n).length := by
    have a1 := congrArg List.length h3
    rw [List.length_append] at a1
    obtain ⟨m, rfl⟩ : ∃ m, n = m + 1 := ⟨n - 1, by omega⟩
    have a2 := h_pos (w := w) (n := m) (by omega)
    have a3 : (h_l (w + 1) (m + 1)).length = (h_l w (m + 1)).length + (h_l w m).length := by simp [h_l]
    omega
  have e : (h_l 21 n)[h_N w n]? = some (h_L n (h_N w n)) := by
    have hl2 : h_N w n < (h_l 21 n).length := hl
    rw [h_L, if_neg (by omega), List.getD_eq_getElem?_getD, List.getElem?_eq_getElem hl2]
    rfl
  refine ⟨e, ?_⟩
  rw [h1, h_N, List.getElem?_append_right (Nat.le_refl _)] at e
  exact h2 _ (List.mem_of_getElem? e)
theorem h_mem {w n k : Nat} (hw : w ≤ 20) (hk : k < h_N w n) : h_L n k ∈ h_l w n := List.mem_of_getElem? (h_at hw hk)
theorem h_up {w n k : Nat} (hw : w ≤ 20) (hn1 : 1 ≤ n) (hk : k < h_N w n) : (h_l 21 n)[k]? = some (h_L n k) := by
  obtain ⟨r, h1, -⟩ := h_pre w n (21 - w)
  rw [show w + (21 - w) = 21 by omega] at h1
  rw [h1, List.getElem?_append_left hk]
  exact h_at hw hk
/-- the reference goes through the sets -/
theorem h_go {w n k : Nat} (hw : w ≤ 20) (hw5 : 4 ≤ w) (hn : n ≤ 4) (hk : k < h_N w n) : h_L n k < 2 ^ w ∧ m_nx (nI (h_L n k)) = nI (h_L n (k + 1)) ∧ k < (if n = 0 then 1 else 5000) := by
  refine ⟨h_lt (h_mem hw hk), ?_, ?_⟩
  · by_cases h0 : n = 0
    · subst h0; rfl
    · have hc : h_ck (h_l 21 n) = true := by
        rcases (show n = 1 ∨ n = 2 ∨ n = 3 ∨ n = 4 by omega) with rfl | rfl | rfl | rfl
        · exact h_k1
        · exact h_k2
        · exact h_k3
        · exact h_k4
      have h2 : (h_l 21 n)[k + 1]? = some (h_L n (k + 1)) := by
        rcases Nat.lt_or_ge (k + 1) (h_N w n) with h | h
        · exact h_up hw (by omega) h
        · have e : k + 1 = h_N w n := by omega
          rw [e]; exact (h_end hw (by omega) (by omega)).1
      exact (h_ck_at hc (h_up hw (by omega) hk) h2).1
  · by_cases h0 : n = 0
    · subst h0
      unfold h_N at hk
      rw [h_N0] at hk
      simpa using hk
    · rw [if_neg h0]
      have := h_len hw hn (by omega)
      unfold h_N at hk
      omega
theorem h_nz {w n k : Nat} (hw : w ≤ 20) (hw5 : 4 ≤ w) (hn : n ≤ 4) (hk : k < h_N w n) : ¬ nI (h_L n k) = 0 → ¬ (nI (h_L n k) &&& - nI (h_L n k)) = 0 := by
  intro hz
  by_cases h0 : n = 0
  · subst h0; exact absurd rfl hz
  · have hc : h_ck (h_l 21 n) = true := by
      rcases (show n = 1 ∨ n = 2 ∨ n = 3 ∨ n = 4 by omega) with rfl | rfl | rfl | rfl
      · exact h_k1
      · exact h_k2
      · exact h_k3
      · exact h_k4
    have h2 : ∃ b, (h_l 21 n)[k + 1]? = some b := by
      rcases Nat.lt_or_ge (k + 1) (h_N w n) with h | h
      · exact ⟨_, h_up hw (by omega) h⟩
      · have e : k + 1 = h_N w n := by omega
        rw [e]; exact ⟨_, (h_end hw (by omega) (by omega)).1⟩
    obtain ⟨b, hb⟩ := h2
    exact (h_ck_at hc (h_up hw (by omega) hk) hb).2
theorem h_0 {n : Nat} (hn : n ≤ 4) : (1 <<< (nI n &&& 31)) - 1 = nI (h_L n 0) := by
  have h := h_first
  unfold h_L
  rcases (show n = 0 ∨ n = 1 ∨ n = 2 ∨ n = 3 ∨ n = 4 by omega) with rfl | rfl | rfl | rfl | rfl
  · rw [if_pos rfl]; decide
  · rw [if_neg (by omega), h.1]; decide
  · rw [if_neg (by omega), h.2.1]; decide
  · rw [if_neg (by omega), h.2.2.1]; decide
  · rw [if_neg (by omega), h.2.2.2]; decide
theorem h_bd {w n k : Nat} (hw : w ≤ 20) (hn : n ≤ 4) (hw5 : 4 ≤ w) (hk : k ≤ h_N w n) : h_L n k < 2 ^ 31 := by
  by_cases h0 : n = 0
  · subst h0; show 0 < 2 ^ 31; decide
  · have h1 : (h_l 21 n)[k]? = some (h_L n k) := by
      rcases Nat.lt_or_ge k (h_N w n) with h | h
      · exact h_up hw (by omega) h
      · have e : k = h_N w n := by omega
        rw [e]; exact (h_end hw (by omega) (by omega)).1
    have := h_lt (List.mem_of_getElem? h1)
    have e : (2 : Nat) ^ 21 = 2097152 := rfl
    omega
theorem h_fin {w n : Nat} (hw : w ≤ 20) (hw5 : 4 ≤ w) (hn : n ≤ 4) : 2 ^ w ≤ h_L n (h_N w n) ∨ (if n = 0 then 1 else 5000) ≤ h_N w n := by
  by_cases h0 : n = 0
  · right; subst h0; unfold h_N; rw [h_N0]; simp
  · left; exact (h_end hw (by omega) (by omega)).2
-- what the reference counts
def m_hs (α : r_Sg) (w : Nat) (X : Nat) : Nat := m_hw (r_men (r_bit (α 20) w) (nI X) (r_syn (α 20) (nI X) w)) (nI X)
theorem m_hw_r (m s : Int32) : 1 ≤ m_hw m s ∧ m_hw m s ≤ 4 := by
  unfold m_hw
  split
  · omega
  · split
    · omega
    · split <;> omega
theorem m_ps_at (α : r_Sg) (w : Nat) (Ls : Nat → Nat) : ∀ k, m_ps α w Ls k 33 0 = nI k ∧ ∀ h, 1 ≤ h → h ≤ 4 → m_ps α w Ls k 33 h = nI (p_n (fun j => decide (m_hs α w (Ls j) = h)) k)
  | 0 => ⟨by simp [m_ps, r_fill]; rfl, fun h h1 h2 => by
      have : h < 5 := by omega
      simp [m_ps, r_fill, this, p_n]; rfl⟩
  | k + 1 => by
    obtain ⟨ih0, ih⟩ := m_ps_at α w Ls k
    have e20 : m_ps α w Ls k 20 = α 20 := m_ps_o α w Ls (by decide) k
    have hr := m_hw_r (r_men (r_bit (α 20) w) (nI (Ls k)) (r_syn (α 20) (nI (Ls k)) w)) (nI (Ls k))
    refine ⟨?_, fun h h1 h2 => ?_⟩
    · simp only [m_ps, m_te, e20]
      have hne : ¬ 0 = m_hw (r_men (r_bit (α 20) w) (nI (Ls k)) (r_syn (α 20) (nI (Ls k)) w)) (nI (Ls k)) := by omega
      simp [r_up, upd, hne, ih0, nI_1]
    · simp only [m_ps, m_te, e20, p_n]
      have hne0 : ¬ h = 0 := by omega
      by_cases hh : m_hs α w (Ls k) = h
      · have hh' : m_hw (r_men (r_bit (α 20) w) (nI (Ls k)) (r_syn (α 20) (nI (Ls k)) w)) (nI (Ls k)) = h := hh
        rw [hh']
        simp only [hh, decide_true, if_true]
        simp only [r_up_eq, upd, if_true, if_neg hne0]
        rw [ih h h1 h2, nI_1]
      · have hh' : ¬ h = m_hw (r_men (r_bit (α 20) w) (nI (Ls k)) (r_syn (α 20) (nI (Ls k)) w)) (nI (Ls k)) := fun z => hh z.symm
        simp only [r_up_eq, upd, if_neg hh', if_neg hne0, hh, decide_false, Bool.false_eq_true, if_false]
        rw [ih h h1 h2]
        rfl
