/-! the class's table of patterns counts sets by size and syndrome -/
theorem x_inv {a b c : Nat} : a ^^^ c = b ↔ a = b ^^^ c := by
  constructor
  · intro h; rw [← h, Nat.xor_assoc, Nat.xor_self, Nat.xor_zero]
  · intro h; rw [h, Nat.xor_assoc, Nat.xor_self, Nat.xor_zero]
theorem i64 {n s n' s' : Nat} (hs : s < 64) (hs' : s' < 64) (h : 64 * n + s = 64 * n' + s') : n = n' ∧ s = s' := by omega
theorem f_s_at (σ : r_Sg) {n c : Nat} (hn : 1 ≤ n) (hc : c < 64) : ∀ k, k ≤ 64 → ∀ n' s', s' < 64 → f_s σ n c k 18 (64 * n' + s') = if n' = n ∧ s' ^^^ c < k then σ 18 (64 * n + s') + σ 18 (64 * (n - 1) + (s' ^^^ c)) else σ 18 (64 * n' + s')
  | 0, _, n', s', hs' => by simp [f_s]
  | k + 1, hk, n', s', hs' => by
    have hx := r_x64 (show k < 64 by omega) hc
    have hx' := r_x64 hs' hc
    have ih := f_s_at σ hn hc k (by omega)
    have e1 : f_s σ n c k 18 (64 * n + (k ^^^ c)) = σ 18 (64 * n + (k ^^^ c)) := by
      rw [ih n (k ^^^ c) hx, if_neg]
      rintro ⟨-, h⟩
      rw [Nat.xor_assoc, Nat.xor_self, Nat.xor_zero] at h
      omega
    have e2 : f_s σ n c k 18 (64 * (n - 1) + k) = σ 18 (64 * (n - 1) + k) := by
      rw [ih (n - 1) k (by omega), if_neg (fun h => by omega)]
    simp only [f_s]
    rw [e1, e2]
    by_cases hi : 64 * n' + s' = 64 * n + (k ^^^ c)
    · obtain ⟨rfl, rfl⟩ := i64 hs' hx hi
      have e3 : (k ^^^ c) ^^^ c = k := by rw [Nat.xor_assoc, Nat.xor_self, Nat.xor_zero]
      rw [e3, if_pos ⟨rfl, by omega⟩]
      simp [r_up, upd]
    · have e4 : r_up (f_s σ n c k) 18 (64 * n + (k ^^^ c)) (σ 18 (64 * n + (k ^^^ c)) + σ 18 (64 * (n - 1) + k)) 18 (64 * n' + s') = f_s σ n c k 18 (64 * n' + s') := by simp [r_up, upd, hi]
      rw [e4, ih n' s' hs']
      by_cases hn' : n' = n
      · subst hn'
        have hne : ¬ s' ^^^ c = k := fun z => hi (by rw [x_inv.mp z])
        have : s' ^^^ c < k + 1 ↔ s' ^^^ c < k := by omega
        simp only [true_and, this]
      · simp only [hn', false_and, if_false]
theorem f_n_at (σ : r_Sg) {c : Nat} (hc : c < 64) : ∀ j, j ≤ 4 → ∀ n s, n ≤ 4 → s < 64 → f_n σ c j 18 (64 * n + s) = if 4 - j < n then σ 18 (64 * n + s) + σ 18 (64 * (n - 1) + (s ^^^ c)) else σ 18 (64 * n + s)
  | 0, _, n, s, hn, hs => by
    have : ¬ 4 - 0 < n := by omega
    simp only [f_n, if_neg this]
  | j + 1, hj, n, s, hn, hs => by
    have hx := r_x64 hs hc
    have ih := f_n_at σ hc j (by omega)
    simp only [f_n]
    rw [f_s_at (f_n σ c j) (n := 4 - j) (by omega) hc 64 (by omega) n s hs]
    by_cases h : n = 4 - j
    · rw [if_pos ⟨h, hx⟩, ih (4 - j) s (by omega) hs, ih (4 - j - 1) (s ^^^ c) (by omega) hx, if_neg (by omega), if_neg (by omega), if_pos (by omega), h]
    · rw [if_neg (fun z => h z.1), ih n s hn hs]
      have : 4 - j < n ↔ 4 - (j + 1) < n := by omega
      simp only [this]
theorem f_b_at (σ : r_Sg) {col : Nat → Nat} : ∀ w, (∀ b, b < w → col b < 64) → ∀ n s, n ≤ 4 → s < 64 → f_b σ col w 18 (64 * n + s) = nI (f_c col w n s)
  | 0, _, n, s, hn, hs => by
    simp only [f_b, f_c]
    by_cases h : n = 0 ∧ s = 0
    · rw [if_pos h, h.1, h.2]; simp [r_up, upd]; rfl
    · have h1 : ¬ 64 * n + s = 0 := by omega
      rw [if_neg h]
      have h2 : 64 * n + s < 320 := by omega
      have h3 : r_up (r_fill σ 18 320 0) 18 0 1 18 (64 * n + s) = 0 := by
        unfold r_up upd r_fill
        rw [if_pos rfl, if_neg h1, if_pos ⟨rfl, h2⟩]
      rw [h3]; rfl
  | w + 1, hcol, n, s, hn, hs => by
    have hx := r_x64 hs (hcol w (by omega))
    have ih := f_b_at σ w (fun b hb => hcol b (by omega))
    simp only [f_b, f_c]
    rw [f_n_at _ (hcol w (by omega)) 4 (by omega) n s hn hs]
    by_cases h : n = 0
    · subst h
      rw [if_neg (by omega), if_pos rfl, ih 0 s (by omega) hs]
      rfl
    · rw [if_pos (by omega), if_neg h, ih n s hn hs, ih (n - 1) (s ^^^ col w) (by omega) hx, nI_add]
def n_sum (f : Nat → Nat) : Nat → Nat
  | 0 => 0
  | n + 1 => n_sum f n + f n
theorem r_sum_n {g : Nat → Int32} {f : Nat → Nat} : ∀ {n : Nat}, (∀ i, i < n → g i = nI (f i)) → r_sum g n = nI (n_sum f n)
  | 0, _ => rfl
  | n + 1, h => by simp only [r_sum, n_sum]; rw [r_sum_n (fun i hi => h i (by omega)), h n (by omega), nI_add]
/-- what the class answers, in numbers -/
theorem f_a_n {σ : r_Sg} {w : Nat} {col : Nat → Nat} (hcol : ∀ b, b < w → col b < 64) {F : Nat → Nat → Nat} (hF : ∀ n s, n ≤ 4 → s < 64 → σ 18 (64 * n + s) = nI (F n s)) {n : Nat} (hn : n ≤ 4) (what : Nat) :
    f_a σ w col n what = (if what = 0 then nI (n_sum (F n) 64) else if what = 1 then (if n = 0 then nI 0 else nI (F n 0)) else if what = 2 then (if 1 < n then nI 0 else if n = 0 then nI 1 else nI (n_sum (fun b => F n (col b)) w)) else if what = 3 then (if n = 0 then nI 1 else nI (n_sum (fun b => F n (col b)) w)) - (if 1 < n then nI 0 else if n = 0 then nI 1 else nI (n_sum (fun b => F n (col b)) w)) else nI (n_sum (F n) 64) - (if n = 0 then nI 0 else nI (F n 0)) - (if n = 0 then nI 1 else nI (n_sum (fun b => F n (col b)) w))) := by
  have e1 : r_sum (fun s => σ 18 (64 * n + s)) 64 = nI (n_sum (F n) 64) := r_sum_n (fun s hs => hF n s hn hs)
  have e2 : r_sum (fun b => σ 18 (64 * n + col b)) w = nI (n_sum (fun b => F n (col b)) w) := r_sum_n (fun b hb => hF n (col b) hn (hcol b hb))
  have e3 : σ 18 (64 * n) = nI (F n 0) := by have := hF n 0 hn (by omega); simpa using this
  unfold f_a
  rw [e1, e2, e3]
  rfl
