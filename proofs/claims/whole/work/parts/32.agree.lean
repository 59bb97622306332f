/-! patterns: both counts agree -/
theorem bj4 : ∀ d, d < 4 → ∀ j, j < d + 1 + 4 → r_BF 4 (d + 1) 4 (r_CO 4 (d + 1) j) = nI j := by decide +kernel
theorem bj5 : ∀ d, d < 11 → ∀ j, j < d + 1 + 5 → r_BF 5 (d + 1) 5 (r_CO 5 (d + 1) j) = nI j := by decide +kernel
theorem bj6 : ∀ d, d < 14 → ∀ j, j < d + 1 + 6 → r_BF 6 (d + 1) 6 (r_CO 6 (d + 1) j) = nI j := by decide +kernel
theorem bj_ok {d c j : Nat} (h : r_ok d c) (hj : j < d + c) : r_BF c d c (r_CO c d j) = nI j := by
  obtain ⟨h1, ⟨rfl, h2⟩ | ⟨rfl, h2⟩ | ⟨rfl, h2⟩⟩ := h
  · have := bj4 (d - 1) (by omega) j (by omega); rwa [show d - 1 + 1 = d by omega] at this
  · have := bj5 (d - 1) (by omega) j (by omega); rwa [show d - 1 + 1 = d by omega] at this
  · have := bj6 (d - 1) (by omega) j (by omega); rwa [show d - 1 + 1 = d by omega] at this
theorem co_inj {d c a b : Nat} (h : r_ok d c) (ha : a < d + c) (hb : b < d + c) (e : r_CO c d a = r_CO c d b) : a = b := by
  have h1 := bj_ok h ha
  have h2 := bj_ok h hb
  rw [e, h2] at h1
  have := r_ok_c h
  exact ((nI_eq (by omega) (by omega)).mp h1).symm
theorem bf_iff {d c y : Nat} (h : r_ok d c) (hy : y < 64) : (¬ r_BF c d c y = -9) ↔ ∃ b, b < d + c ∧ y = r_CO c d b := by
  have hc := r_ok_c h
  constructor
  · intro hn
    rw [bf_ok h hy] at hn
    rcases r_bit_cases (fun j => nI (r_CO c d j)) (d + c) (nI y) with h1 | ⟨b, h1, h2, h3⟩
    · exact absurd h1 hn
    · have := (co_lt h h1).2.2
      exact ⟨b, h1, ((nI_eq (by omega) (by omega)).mp h3).symm⟩
  · rintro ⟨b, hb, rfl⟩
    rw [bj_ok h hb]
    exact r_nm9 (by omega)
-- counting along a list
theorem p_take (P : Nat → Bool) (l : List Nat) : ∀ m, m ≤ l.length → p_n (fun j => P (l.getD j 0)) m = (l.take m).countP P
  | 0, _ => by simp [p_n]
  | m + 1, hm => by
    have h1 : m < l.length := by omega
    simp only [p_n]
    have e : l.getD m 0 = l[m] := by rw [List.getD_eq_getElem?_getD, List.getElem?_eq_getElem h1]; rfl
    rw [p_take P l m (by omega), List.take_succ, List.countP_append, List.getElem?_eq_getElem h1]
    simp only [e, Option.toList_some, List.countP_singleton]
theorem p_cnt (P : Nat → Bool) {w n : Nat} (hw : w ≤ 20) : p_n (fun j => P (h_L n j)) (h_N w n) = (h_l w n).countP P := by
  have h := p_take P (h_l w n) (h_l w n).length (Nat.le_refl _)
  rw [List.take_length] at h
  rw [← h]
  apply p_n_congr
  intro j hj
  have := h_at (n := n) hw hj
  rw [List.getD_eq_getElem?_getD, this]
  rfl
theorem cp_congr {P Q : Nat → Bool} {l : List Nat} (h : ∀ x ∈ l, P x = Q x) : l.countP P = l.countP Q := by
  apply List.countP_congr
  intro x hx
  rw [h x hx]
theorem cp_or {A C : Nat → Bool} : ∀ {l : List Nat}, (∀ x ∈ l, ¬ (A x = true ∧ C x = true)) → l.countP (fun x => A x || C x) = l.countP A + l.countP C
  | [], _ => rfl
  | a :: l, h => by
    have ih := cp_or (l := l) (fun x hx => h x (List.mem_cons_of_mem _ hx))
    have h0 := h a List.mem_cons_self
    rw [List.countP_cons, List.countP_cons, List.countP_cons, ih]
    cases hA : A a <;> cases hC : C a <;> simp_all <;> omega
def ex_c (g : Nat → Nat) (v : Nat) : Nat → Bool
  | 0 => false
  | m + 1 => ex_c g v m || decide (v = g m)
theorem ex_iff {g : Nat → Nat} {v : Nat} : ∀ {m : Nat}, ex_c g v m = true ↔ ∃ b, b < m ∧ v = g b
  | 0 => by simp [ex_c]
  | m + 1 => by
    simp only [ex_c, Bool.or_eq_true, decide_eq_true_eq, ex_iff (m := m)]
    constructor
    · rintro (⟨b, h1, h2⟩ | h)
      · exact ⟨b, by omega, h2⟩
      · exact ⟨m, by omega, h⟩
    · rintro ⟨b, h1, h2⟩
      by_cases hb : b = m
      · subst hb; exact Or.inr h2
      · exact Or.inl ⟨b, by omega, h2⟩
theorem sum_cp {g y : Nat → Nat} {l : List Nat} : ∀ {m : Nat}, (∀ a b, a < m → b < m → g a = g b → a = b) → n_sum (fun b => l.countP (fun x => decide (y x = g b))) m = l.countP (fun x => ex_c g (y x) m)
  | 0, _ => by
    simp only [n_sum, ex_c]
    exact (List.countP_eq_zero.mpr (fun x _ h => by cases h)).symm
  | m + 1, h => by
    simp only [n_sum, ex_c]
    rw [sum_cp (fun a b ha hb e => h a b (by omega) (by omega) e), cp_or]
    rintro x - ⟨h1, h2⟩
    obtain ⟨b, hb, e1⟩ := ex_iff.mp h1
    have e2 := of_decide_eq_true h2
    have := h b m (by omega) (by omega) (by rw [← e1, e2])
    omega
-- syndromes of sets
theorem n_syn_congr {col : Nat → Nat} {s t : Int32} : ∀ {n : Nat}, (∀ b, b < n → r_b s b = r_b t b) → n_syn col s n = n_syn col t n
  | 0, _ => rfl
  | n + 1, h => by simp only [n_syn]; rw [n_syn_congr (fun b hb => h b (by omega)), h n (by omega)]
theorem x_lo {X w : Nat} (hX : X < 2 ^ w) (hw : w ≤ 20) : r_b (nI X) w = 0 := by
  have := pow20 hw
  rw [r_b_nI (by omega) (by omega), Nat.div_eq_of_lt hX]
  rfl
theorem x_hi {X w : Nat} (hX : X < 2 ^ w) (hw : w ≤ 20) : ¬ r_b (nI (X + 2 ^ w)) w = 0 := by
  have := pow20 hw
  rw [r_b_nI (by omega) (by omega), Nat.add_div_right _ (Nat.two_pow_pos w), Nat.div_eq_of_lt hX]
  decide
theorem x_same {X w b : Nat} (hX : X < 2 ^ w) (hw : w ≤ 20) (hb : b < w) : r_b (nI (X + 2 ^ w)) b = r_b (nI X) b := by
  have := pow20 hw
  rw [r_b_nI (by omega) (by omega), r_b_nI (by omega) (by omega)]
  have e : 2 ^ w = 2 ^ b * (2 * 2 ^ (w - b - 1)) := by rw [← Nat.pow_succ', ← Nat.pow_add]; congr 1; omega
  rw [e, Nat.add_mul_div_left _ _ (Nat.two_pow_pos b)]
  congr 1
  omega
theorem cnt_syn (col : Nat → Nat) : ∀ {w : Nat}, w ≤ 20 → ∀ n s, (h_l w n).countP (fun X => decide (n_syn col (nI X) w = s)) = f_c col w n s
  | 0, _, 0, s => by
    simp only [h_l, f_c, n_syn]
    by_cases h : s = 0
    · subst h; simp
    · have : ¬ 0 = s := fun z => h z.symm
      simp [h, this]
  | 0, _, n + 1, s => by simp [h_l, f_c]
  | w + 1, hw, 0, s => by
    have ih := cnt_syn col (w := w) (by omega) 0 s
    simp only [h_l, f_c]
    simp only [if_true, Nat.add_zero]
    rw [← ih]
    apply cp_congr
    intro X hX
    have := x_lo (h_lt hX) (by omega)
    simp only [n_syn, if_pos this]
  | w + 1, hw, n + 1, s => by
    have ih1 := cnt_syn col (w := w) (by omega) (n + 1) s
    have ih2 := cnt_syn col (w := w) (by omega) n (s ^^^ col w)
    simp only [h_l, f_c]
    rw [if_neg (by omega), show n + 1 - 1 = n by omega, List.countP_append, List.countP_map, ← ih1, ← ih2]
    congr 1
    · apply cp_congr
      intro X hX
      have := x_lo (h_lt hX) (by omega)
      simp only [n_syn, if_pos this]
    · apply cp_congr
      intro X hX
      have h1 := x_hi (h_lt hX) (show w ≤ 20 by omega)
      have h2 : n_syn col (nI (X + 2 ^ w)) w = n_syn col (nI X) w := n_syn_congr (fun b hb => x_same (h_lt hX) (by omega) hb)
      simp only [Function.comp, n_syn, if_neg h1, h2, x_inv]
-- sets of one bit
theorem z_in : ∀ {w n : Nat}, 0 ∈ h_l w n → n = 0
  | 0, 0, _ => rfl
  | 0, n + 1, h => by simp [h_l] at h
  | w + 1, 0, _ => rfl
  | w + 1, n + 1, h => by
    simp only [h_l, List.mem_append, List.mem_map] at h
    rcases h with h | ⟨y, -, h⟩
    · exact z_in h
    · have := Nat.two_pow_pos w; omega
theorem o_in : ∀ {w n b : Nat}, b < w → 2 ^ b ∈ h_l w n → n = 1
  | w + 1, 0, b, hb, h => by
    have := h_lt (w := w) (n := 0) h
    rw [show h_l (w + 1) 0 = h_l w 0 from rfl, h_N0] at h
    have := Nat.two_pow_pos b
    simp at h
  | w + 1, n + 1, b, hb, h => by
    simp only [h_l, List.mem_append, List.mem_map] at h
    rcases h with h | ⟨y, hy, h⟩
    · have h1 := h_lt h
      have h2 : b < w := (Nat.pow_lt_pow_iff_right (by omega)).mp h1
      exact o_in h2 h
    · have h1 : 2 ^ w ≤ 2 ^ b := by omega
      have h2 : w ≤ b := (Nat.pow_le_pow_iff_right (by omega)).mp h1
      have h3 : b = w := by omega
      subst h3
      have : y = 0 := by omega
      subst this
      rw [z_in hy]
theorem one_in : ∀ {w X : Nat}, X ∈ h_l w 1 → ∃ j, j < w ∧ X = 2 ^ j
  | 0, X, h => by simp [h_l] at h
  | w + 1, X, h => by
    simp only [h_l, List.mem_append, List.mem_map] at h
    rcases h with h | ⟨y, hy, h⟩
    · obtain ⟨j, h1, h2⟩ := one_in h
      exact ⟨j, by omega, h2⟩
    · rw [h_N0] at hy
      simp at hy
      exact ⟨w, by omega, by omega⟩
theorem syn_one (col : Nat → Nat) : ∀ {w j : Nat}, w ≤ 20 → j < w → n_syn col (nI (2 ^ j)) w = col j
  | w + 1, j, hw, hj => by
    have hz : n_syn col (nI 0) w = 0 := by
      clear hj
      have : ∀ m, n_syn col (nI 0) m = 0 := by
        intro m
        induction m with
        | zero => rfl
        | succ m ih =>
          have h0 : r_b (nI 0) m = 0 := by
            unfold r_b
            rw [nI_0]
            apply b_ext
            intro i hi
            rw [b_and, b_1 i hi, b_0]
            by_cases hi0 : i = 0
            · subst hi0
              have : bt ((0 : Int32) >>> (nI m &&& 31)) 0 = false := by
                unfold bt
                rw [Int32.toBitVec_shiftRight]
                simp
              simp [this, b_0]
            · simp [hi0]
          simp only [n_syn, if_pos h0, ih]
      exact this w
    by_cases h : j = w
    · subst h
      have h1 := x_hi (X := 0) (w := j) (Nat.two_pow_pos j) (by omega)
      rw [Nat.zero_add] at h1
      have h2 : n_syn col (nI (2 ^ j)) j = n_syn col (nI 0) j := n_syn_congr (fun b hb => by
        have := x_same (X := 0) (w := j) (Nat.two_pow_pos j) (by omega) hb
        rwa [Nat.zero_add] at this)
      simp only [n_syn, if_neg h1, h2, hz, Nat.zero_xor]
    · have h1 := x_lo (X := 2 ^ j) (w := w) (Nat.pow_lt_pow_right (by omega) (by omega)) (by omega)
      simp only [n_syn, if_pos h1]
      exact syn_one col (by omega) (by omega)
