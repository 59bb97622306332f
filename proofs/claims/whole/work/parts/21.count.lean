/-! Integer.bitCount counts the ones -/
theorem n_and {a b c d : Nat} (hb : b < 16) (hd : d < 16) : (16 * a + b) &&& (16 * c + d) = 16 * (a &&& c) + (b &&& d) := by
  have h1 := Nat.and_div_two_pow (a := 16 * a + b) (b := 16 * c + d) (n := 4)
  have h2 := Nat.and_mod_two_pow (a := 16 * a + b) (b := 16 * c + d) (n := 4)
  rw [show (2 : Nat) ^ 4 = 16 by rfl] at h1 h2
  rw [show (16 * a + b) / 16 = a by omega, show (16 * c + d) / 16 = c by omega] at h1
  rw [show (16 * a + b) % 16 = b by omega, show (16 * c + d) % 16 = d by omega] at h2
  omega
def n_5 : Nat → Nat
  | 0 => 0
  | k + 1 => 16 * n_5 k + 5
def n_3 : Nat → Nat
  | 0 => 0
  | k + 1 => 16 * n_3 k + 3
def n_a (k X : Nat) : Nat := X - (X / 2 &&& n_5 k)
def n_s (k X : Nat) : Nat := (n_a k X &&& n_3 k) + (n_a k X / 4 &&& n_3 k)
theorem n_i1 : ∀ h, h < 2 → ∀ L, L < 16 → (8 * h + L / 2) &&& 5 = L / 2 &&& 5 := by decide
theorem n_i2 : ∀ h, h < 4 → ∀ L, L < 16 → (4 * h + L / 4) &&& 3 = L / 4 &&& 3 := by decide
theorem n_i3 : ∀ L, L < 16 → L / 2 &&& 5 ≤ L := by decide
theorem n_step (k H : Nat) {L : Nat} (hL : L < 16) : n_s (k + 1) (16 * H + L) = 16 * n_s k H + n_s 1 L := by
  have e1 : (16 * H + L) / 2 &&& n_5 (k + 1) = 16 * (H / 2 &&& n_5 k) + (L / 2 &&& 5) := by
    rw [show (16 * H + L) / 2 = 16 * (H / 2) + (8 * (H % 2) + L / 2) by omega, n_5, n_and (by omega) (by omega), n_i1 _ (by omega) _ hL]
  have l1 : H / 2 &&& n_5 k ≤ H := Nat.le_trans Nat.and_le_left (Nat.div_le_self _ _)
  have l2 := n_i3 L hL
  have e2 : n_a (k + 1) (16 * H + L) = 16 * n_a k H + n_a 1 L := by
    have e3 : n_a 1 L = L - (L / 2 &&& 5) := rfl
    unfold n_a at *
    rw [e1, e3]
    omega
  have l3 : n_a 1 L < 16 := Nat.lt_of_le_of_lt (Nat.sub_le _ _) hL
  unfold n_s
  rw [e2]
  generalize n_a k H = A at *
  generalize n_a 1 L = B at *
  rw [show (16 * A + B) / 4 = 16 * (A / 4) + (4 * (A % 4) + B / 4) by omega, n_3, n_and l3 (by omega), n_and (by omega) (by omega), n_i2 _ (by omega) _ l3]
  show 16 * (A &&& n_3 k) + (B &&& 3) + (16 * (A / 4 &&& n_3 k) + (B / 4 &&& 3)) = 16 * ((A &&& n_3 k) + (A / 4 &&& n_3 k)) + ((B &&& (16 * 0 + 3)) + (B / 4 &&& (16 * 0 + 3)))
  simp only [Nat.mul_zero, Nat.zero_add]
  omega
def n_g (a : Nat) : Nat :=
  let a3 := (a + a / 16) &&& 252645135
  let a4 := a3 + a3 / 256
  (a4 + a4 / 65536) &&& 63
theorem n_fin : ∀ a, a < 5 → ∀ b, b < 5 → ∀ c, c < 5 → ∀ d, d < 5 → ∀ e, e < 5 → ∀ f, f < 5 → n_g (16 * (16 * (16 * (16 * (16 * f + e) + d) + c) + b) + a) = a + b + c + d + e + f := by decide +kernel
theorem n_nib : ∀ L, L < 16 → n_s 1 L < 5 ∧ n_s 1 L = L % 2 + L / 2 % 2 + L / 4 % 2 + L / 8 % 2 := by decide
theorem n_z : n_s 2 0 = 0 := by decide
/-- the ones among the first n bits -/
def p_c (X : Nat) : Nat → Nat
  | 0 => 0
  | n + 1 => p_c X n + X / 2 ^ n % 2
theorem p_c_add (X n : Nat) : ∀ m, p_c X (n + m) = p_c X n + p_c (X / 2 ^ n) m
  | 0 => rfl
  | m + 1 => by
    rw [show n + (m + 1) = n + m + 1 by omega]
    simp only [p_c]
    rw [p_c_add X n m, Nat.div_div_eq_div_mul, ← Nat.pow_add]
    omega
theorem p_c4 (Y : Nat) : p_c Y 4 = n_s 1 (Y % 16) := by
  rw [(n_nib (Y % 16) (by omega)).2]
  simp only [p_c]
  omega
theorem p_c_s (X m : Nat) : p_c X (4 + m) = n_s 1 (X % 16) + p_c (X / 16) m := by
  rw [p_c_add X 4 m, p_c4]
theorem n_all {X : Nat} (hX : X < 16777216) : n_g (n_s 8 X) = p_c X 24 := by
  have s : ∀ k Y, n_s (k + 1) Y = 16 * n_s k (Y / 16) + n_s 1 (Y % 16) := fun k Y => by
    have := n_step k (Y / 16) (L := Y % 16) (by omega)
    rwa [show 16 * (Y / 16) + Y % 16 = Y by omega] at this
  have z : X / 16 / 16 / 16 / 16 / 16 / 16 = 0 := by omega
  rw [s 7, s 6, s 5, s 4, s 3, s 2, z, n_z]
  have q := fun Y : Nat => (n_nib (Y % 16) (by omega)).1
  rw [show (16 * 0 + n_s 1 (X / 16 / 16 / 16 / 16 / 16 % 16)) = n_s 1 (X / 16 / 16 / 16 / 16 / 16 % 16) by omega]
  rw [n_fin _ (q _) _ (q _) _ (q _) _ (q _) _ (q _) _ (q _)]
  have e : p_c X 24 = n_s 1 (X % 16) + (n_s 1 (X / 16 % 16) + (n_s 1 (X / 16 / 16 % 16) + (n_s 1 (X / 16 / 16 / 16 % 16) + (n_s 1 (X / 16 / 16 / 16 / 16 % 16) + (n_s 1 (X / 16 / 16 / 16 / 16 / 16 % 16) + p_c (X / 16 / 16 / 16 / 16 / 16 / 16) 0))))) := by
    rw [← p_c_s _ 0, ← p_c_s _ 4, ← p_c_s _ 8, ← p_c_s _ 12, ← p_c_s _ 16, ← p_c_s _ 20]
  rw [e]
  simp only [p_c]
  omega
theorem r_ushN {n : Nat} (hn : n < 2 ^ 32) (s : Int32) (k : Nat) (hs : ((s.toUInt32 &&& Int32.toUInt32 31).toBitVec % 32).toNat = k) : r_ush (nI n) s = nI (n / 2 ^ k) := pk_ushrN hn s k hs
theorem n_s_lt {X : Nat} (hX : X < 16777216) : n_a 8 X ≤ X ∧ n_s 8 X < 2 ^ 26 := by
  have h1 : n_a 8 X ≤ X := Nat.sub_le _ _
  have h2 : n_a 8 X &&& n_3 8 ≤ n_a 8 X := Nat.and_le_left
  have h3 : n_a 8 X / 4 &&& n_3 8 ≤ n_a 8 X / 4 := Nat.and_le_left
  refine ⟨h1, ?_⟩
  unfold n_s
  omega
theorem r_bc_nI {X : Nat} (hX : X < 16777216) : r_bc (nI X) = nI (p_c X 24) := by
  rw [← n_all hX]
  have l := n_s_lt hX
  have e1 : r_bc1 (nI X) = nI (n_a 8 X) := by
    unfold r_bc1
    rw [r_ushN (by omega) 1 1 (by decide), show (1431655765 : Int32) = nI (n_5 8) from by decide, nx_and, pk_sub (Nat.le_trans Nat.and_le_left (Nat.div_le_self _ _))]
    rfl
  have e2 : r_bc2 (nI (n_a 8 X)) = nI (n_s 8 X) := by
    unfold r_bc2
    rw [r_ushN (by omega) 2 2 (by decide), show (858993459 : Int32) = nI (n_3 8) from by decide, nx_and, nx_and, nI_add]
    rfl
  unfold r_bc
  rw [e1, e2]
  generalize n_s 8 X = a at *
  have l1 : (a + a / 16) &&& 252645135 ≤ a + a / 16 := Nat.and_le_left
  have e3 : r_bc3 (nI a) = nI ((a + a / 16) &&& 252645135) := by
    unfold r_bc3
    rw [r_ushN (by omega) 4 4 (by decide), nI_add, show (252645135 : Int32) = nI 252645135 from by decide, nx_and]
  rw [e3]
  have e4 : n_g a = ((((a + a / 16) &&& 252645135) + ((a + a / 16) &&& 252645135) / 256) + (((a + a / 16) &&& 252645135) + ((a + a / 16) &&& 252645135) / 256) / 65536) &&& 63 := rfl
  rw [e4]
  generalize (a + a / 16) &&& 252645135 = b at *
  have e5 : r_bc4 (nI b) = nI (b + b / 256) := by
    unfold r_bc4
    rw [r_ushN (by omega) 8 8 (by decide), nI_add]
  rw [e5]
  unfold r_bc5
  rw [r_ushN (by omega) 16 16 (by decide), nI_add, show (63 : Int32) = nI 63 from by decide, nx_and]
/-- a set of bits below 21 as a number -/
theorem r_toN (x : Int32) (h : ∀ i, i < 32 → 21 ≤ i → bt x i = false) : ∃ X : Nat, X < 2 ^ 21 ∧ x = nI X ∧ ∀ i, i < 32 → bt x i = decide (X / 2 ^ i % 2 = 1) := by
  have hx : x = nI x.toBitVec.toNat := by
    apply Int32.toBitVec_inj.mp
    show x.toBitVec = BitVec.ofNat 32 x.toBitVec.toNat
    simp
  have hb : ∀ i, bt x i = x.toBitVec.toNat.testBit i := fun i => rfl
  refine ⟨x.toBitVec.toNat, ?_, hx, fun i hi => ?_⟩
  · apply Nat.lt_pow_two_of_testBit
    intro i hi
    rw [← hb]
    rcases Nat.lt_or_ge i 32 with h2 | h2
    · exact h i h2 hi
    · exact b_big h2
  · rw [hb, Nat.testBit_eq_decide_div_mod_eq]
/-- how many of the places below n -/
def p_n (P : Nat → Bool) : Nat → Nat
  | 0 => 0
  | n + 1 => p_n P n + (if P n then 1 else 0)
theorem p_c_n {X : Nat} {P : Nat → Bool} : ∀ n, (∀ i, i < n → P i = decide (X / 2 ^ i % 2 = 1)) → p_c X n = p_n P n
  | 0, _ => rfl
  | n + 1, h => by
    simp only [p_c, p_n]
    rw [p_c_n n (fun i hi => h i (by omega)), h n (by omega)]
    have : X / 2 ^ n % 2 < 2 := Nat.mod_lt _ (by omega)
    rcases (show X / 2 ^ n % 2 = 0 ∨ X / 2 ^ n % 2 = 1 by omega) with e | e <;> simp [e]
theorem p_n_ext (P : Nat → Bool) (n : Nat) : ∀ m, (∀ i, n ≤ i → i < n + m → P i = false) → p_n P (n + m) = p_n P n
  | 0, _ => rfl
  | m + 1, h => by
    rw [show n + (m + 1) = n + m + 1 by omega]
    simp only [p_n]
    rw [p_n_ext P n m (fun i h1 h2 => h i h1 (by omega)), h (n + m) (by omega) (by omega)]
    simp
theorem p_n_congr {P Q : Nat → Bool} : ∀ {n : Nat}, (∀ i, i < n → P i = Q i) → p_n P n = p_n Q n
  | 0, _ => rfl
  | n + 1, h => by simp only [p_n]; rw [p_n_congr (fun i hi => h i (by omega)), h n (by omega)]
theorem r_bc_p (x : Int32) (h : ∀ i, i < 32 → 21 ≤ i → bt x i = false) : r_bc x = nI (p_n (bt x) 21) := by
  obtain ⟨X, h1, h2, h3⟩ := r_toN x h
  rw [h2, r_bc_nI (by omega), ← h2]
  rw [p_c_n (P := bt x) 24 (fun i hi => h3 i (by omega)), p_n_ext (bt x) 21 3 (fun i a b => h i (by omega) a)]
theorem r_cna_p (P : Nat → Bool) (a : Int32) : ∀ n, r_cna P a n = a + nI (p_n P n)
  | 0 => by simp [r_cna, p_n, nI_0]
  | n + 1 => by
    simp only [r_cna, p_n]
    rw [r_cna_p P a n]
    cases P n
    · simp
    · simp only [if_true]
      rw [Int32.add_assoc, nI_1]
/-- the places of bits, one by one: a sum over the places in use is one over the bits -/
theorem p_pl {P : Nat → Bool} {w : Nat} {sb : Option Nat} (hw : w ≤ 20) (hs : ∀ b, sb = some b → b < w) (hP : ∀ q, q < 21 → P q = true → ∃ b, b < w ∧ r_pl w sb b = q) : p_n P 21 = p_n (fun b => P (r_pl w sb b)) w := by
  cases sb with
  | none =>
    have e : p_n (fun b => P (r_pl w none b)) w = p_n P w := p_n_congr (fun i _ => rfl)
    rw [e]
    have := p_n_ext P w (21 - w) (fun i h1 h2 => by
      cases hp : P i with
      | false => rfl
      | true =>
        obtain ⟨b, h3, h4⟩ := hP i (by omega) hp
        have h5 : b = i := h4
        omega)
    rwa [show w + (21 - w) = 21 by omega] at this
  | some s =>
    have hsw := hs s rfl
    have hPs : P s = false := by
      cases hp : P s with
      | false => rfl
      | true =>
        obtain ⟨b, h3, h4⟩ := hP s (by omega) hp
        unfold r_pl at h4
        split at h4
        · omega
        · rename_i h5; subst h4; exact absurd rfl h5
    have e1 : p_n P 21 = p_n P (w + 1) := by
      have := p_n_ext P (w + 1) (20 - w) (fun i h1 h2 => by
        cases hp : P i with
        | false => rfl
        | true =>
          obtain ⟨b, h3, h4⟩ := hP i (by omega) hp
          unfold r_pl at h4
          split at h4 <;> omega)
      rwa [show w + 1 + (20 - w) = 21 by omega] at this
    rw [e1]
    have key : ∀ n, n ≤ w → p_n (fun b => P (r_pl w (some s) b)) n = p_n P n + (if s < n then (if P w then 1 else 0) else 0) := by
      intro n
      induction n with
      | zero => intro _; simp [p_n]
      | succ n ih =>
        intro hn
        simp only [p_n]
        rw [ih (by omega)]
        by_cases h : n = s
        · subst h
          have h1 : ¬ n < n := by omega
          have h2 : n < n + 1 := by omega
          simp [r_pl, h1, h2, hPs]
        · have h1 : ¬ some s = some n := fun z => h (by cases z; rfl)
          have h2 : s < n + 1 ↔ s < n := by omega
          simp only [r_pl, h1, if_false, h2]
          omega
    rw [key w (Nat.le_refl w)]
    simp [p_n, hsw]
