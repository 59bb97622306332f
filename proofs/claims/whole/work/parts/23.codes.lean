/-! what holds of each code -/
theorem bf4 : ∀ d, d < 4 → ∀ y, y < 64 → r_BF 4 (d + 1) 4 y = r_bit (fun j => nI (r_CO 4 (d + 1) j)) (d + 1 + 4) (nI y) := by decide +kernel
theorem bf5 : ∀ d, d < 11 → ∀ y, y < 64 → r_BF 5 (d + 1) 5 y = r_bit (fun j => nI (r_CO 5 (d + 1) j)) (d + 1 + 5) (nI y) := by decide +kernel
theorem bf6 : ∀ d, d < 14 → ∀ y, y < 64 → r_BF 6 (d + 1) 6 y = r_bit (fun j => nI (r_CO 6 (d + 1) j)) (d + 1 + 6) (nI y) := by decide +kernel
theorem bf_ok {d c y : Nat} (h : r_ok d c) (hy : y < 64) : r_BF c d c y = r_bit (fun j => nI (r_CO c d j)) (d + c) (nI y) := by
  obtain ⟨h1, ⟨rfl, h2⟩ | ⟨rfl, h2⟩ | ⟨rfl, h2⟩⟩ := h
  · have := bf4 (d - 1) (by omega) y hy; rwa [show d - 1 + 1 = d by omega] at this
  · have := bf5 (d - 1) (by omega) y hy; rwa [show d - 1 + 1 = d by omega] at this
  · have := bf6 (d - 1) (by omega) y hy; rwa [show d - 1 + 1 = d by omega] at this
theorem co_lt {d c j : Nat} (h : r_ok d c) (hj : j < d + c) : r_CO c d j < 2 ^ c ∧ 0 < r_CO c d j ∧ r_CO c d j < 64 := by
  have hc := r_ok_c h
  have h1 : r_CO c d j < 2 ^ c ∧ 0 < r_CO c d j := by
    unfold r_CO
    split
    · rename_i h1; exact r_Tlt h h1
    · exact ⟨Nat.pow_lt_pow_right (by omega) (by omega), Nat.two_pow_pos _⟩
  exact ⟨h1.1, h1.2, by omega⟩
theorem r_bit_congr {f g : Nat → Int32} {w : Nat} (h : ∀ j, j < w → f j = g j) (y : Int32) : r_bit f w y = r_bit g w y := by
  have e : r_fst (fun j => decide (f j = y)) w = r_fst (fun j => decide (g j = y)) w := r_fst_congr (fun j hj => by rw [h j hj])
  unfold r_bit
  rw [e]
theorem r_bit_cases (f : Nat → Int32) (w : Nat) (y : Int32) : r_bit f w y = -9 ∨ ∃ b, b < w ∧ r_bit f w y = nI b ∧ f b = y := by
  unfold r_bit
  split
  · rename_i h; exact Or.inr ⟨_, h, rfl, of_decide_eq_true (r_fst_at (P := fun j => decide (f j = y)) h)⟩
  · exact Or.inl rfl
def n_syn (col : Nat → Nat) (set : Int32) : Nat → Nat
  | 0 => 0
  | b + 1 => if r_b set b = 0 then n_syn col set b else n_syn col set b ^^^ col b
theorem syn_n {f : Nat → Int32} {col : Nat → Nat} (set : Int32) : ∀ {w : Nat}, (∀ j, j < w → f j = nI (col j)) → r_syn f set w = nI (n_syn col set w)
  | 0, _ => rfl
  | w + 1, h => by
    have ih := syn_n set (w := w) (fun j hj => h j (by omega))
    simp only [r_syn, n_syn]
    rw [ih, h w (by omega)]
    split
    · rfl
    · exact r_xor _ _
theorem n_syn_lt {col : Nat → Nat} (set : Int32) {k : Nat} : ∀ {w : Nat}, (∀ j, j < w → col j < 2 ^ k) → n_syn col set w < 2 ^ k
  | 0, _ => Nat.two_pow_pos k
  | w + 1, h => by
    have ih := n_syn_lt set (w := w) (fun j hj => h j (by omega))
    simp only [n_syn]
    split
    · exact ih
    · exact Nat.xor_lt_two_pow ih (h w (by omega))
theorem b_nI {X i : Nat} (hi : i < 32) : bt (nI X) i = X.testBit i := by
  show (BitVec.ofNat 32 X).getLsbD i = _
  rw [BitVec.getLsbD_ofNat]
  simp [hi]
theorem b_lt {X i k : Nat} (hX : X < 2 ^ k) (hi : i < 32) (hk : k ≤ i) : bt (nI X) i = false := by
  rw [b_nI hi]
  apply Nat.testBit_lt_two_pow
  exact Nat.lt_of_lt_of_le hX (Nat.pow_le_pow_right (by omega) hk)
theorem all_nI {w : Nat} (hw : w ≤ 20) : (1 <<< (nI w &&& 31)) - 1 = nI (2 ^ w - 1) := by
  have h1 : 1 ≤ 2 ^ w := Nat.one_le_two_pow
  rw [r_shl1 w (by omega), show (1 : Int32) = nI 1 from rfl, pk_sub h1]
theorem pow20 {w : Nat} (hw : w ≤ 20) : 2 ^ w ≤ 1048576 ∧ 1 ≤ 2 ^ w := ⟨Nat.pow_le_pow_right (n := 2) (by omega) hw, Nat.one_le_two_pow⟩
theorem set_nat {a : Int32} {w : Nat} (hw : w ≤ 20) (h : 0 ≤ a ∧ a ≤ (1 <<< (nI w &&& 31)) - 1) : ∃ A, A < 2 ^ w ∧ a = nI A := by
  have hp := pow20 hw
  rw [all_nI hw] at h
  obtain ⟨A, hA, rfl⟩ := nI_of (Int32.not_lt.mpr h.1)
  have := (nI_leI hA (by omega)).mp h.2
  exact ⟨A, by omega, rfl⟩
theorem set_bits {a : Int32} {w : Nat} (hw : w ≤ 20) (h : 0 ≤ a ∧ a ≤ (1 <<< (nI w &&& 31)) - 1) : ∀ i, i < 32 → w ≤ i → bt a i = false := by
  obtain ⟨A, hA, rfl⟩ := set_nat hw h
  exact fun i hi hwi => b_lt hA hi hwi
theorem val_iff {a : Int32} {d : Nat} (hd : d ≤ 20) : (0 ≤ a ∧ a ≤ (1 <<< (nI d &&& 31)) - 1) ↔ (0 ≤ a ∧ a < 1 <<< (nI d &&& 31)) := by
  have hp := pow20 hd
  rw [r_shl1 d (by omega)]
  exact r_le1 (by omega)
theorem word_bits {d c : Nat} (hok : r_ok d c) {f : Nat → Int32} (hf : ∀ j, j < d + c → f j = nI (r_CO c d j)) {a : Int32} (ha : 0 ≤ a ∧ a < 1 <<< (nI d &&& 31)) : ∀ i, i < 32 → d + c ≤ i → bt (a ||| (r_syn f a (d + c) <<< (nI d &&& 31))) i = false := by
  have hc := r_ok_c hok
  intro i hi hwi
  have h1 := set_bits (a := a) (w := d) (by omega) ((val_iff (by omega)).mpr ha) i hi (by omega)
  have h2 := n_syn_lt (col := r_CO c d) a (k := c) (w := d + c) (fun j hj => (co_lt hok hj).1)
  rw [b_or, h1, b_shl d (by omega) _ hi, syn_n a hf, b_lt h2 (by omega) (by omega)]
  simp
theorem bo_bits {w : Nat} {sb : Option Nat} (hw : w ≤ 20) (hs : ∀ b, sb = some b → b < w) (x : Int32) : ∀ i, i < 32 → w ≤ i → bt (r_bo w sb x) i = false := by
  intro i hi hwi
  rw [b_bo hw hs x hi]
  simp [Nat.not_lt.mpr hwi]
theorem xor_bits {w : Nat} {x y : Int32} (hx : ∀ i, i < 32 → w ≤ i → bt x i = false) (hy : ∀ i, i < 32 → w ≤ i → bt y i = false) : ∀ i, i < 32 → w ≤ i → bt (x ^^^ y) i = false := by
  intro i hi hwi
  rw [b_xor, hx i hi hwi, hy i hi hwi]; rfl
theorem bm_bits {w b : Nat} (hb : b < w) (hw : w ≤ 20) : ∀ i, i < 32 → w ≤ i → bt (r_bm b) i = false := by
  intro i hi hwi
  rw [b_bm (by omega) hi]
  simp; omega
theorem no_m5 {w : Nat} {x : Int32} (hw : w ≤ 20) (hx : ∀ i, i < 32 → w ≤ i → bt x i = false) : ¬ x = -5 := by
  intro e
  have h := hx 31 (by omega) (by omega)
  rw [e] at h
  exact absurd h (by decide)
theorem ne_bm {x : Int32} {b : Nat} (hb : b < 32) : ¬ x ^^^ r_bm b = x := by
  intro e
  have h : bt (x ^^^ r_bm b) b = bt x b := by rw [e]
  rw [b_xor, b_bm hb hb] at h
  simp at h
/-- a set is mended alike on both sides -/
theorem men_eq {d c : Nat} (hok : r_ok d c) {f4 f20 : Nat → Int32} (h4 : ∀ y, y < 64 → f4 y = r_BF c d c y) (h20 : ∀ j, j < d + c → f20 j = nI (r_CO c d j)) (set : Int32) {y : Nat} (hy : y < 64) : r_men (fun z => f4 z.toNatClampNeg) set (nI y) = r_men (r_bit f20 (d + c)) set (nI y) := by
  have e : f4 (nI y).toNatClampNeg = r_bit f20 (d + c) (nI y) := by
    rw [nI_clamp (by omega), h4 y hy, bf_ok hok hy]
    exact r_bit_congr (fun j hj => (h20 j hj).symm) _
  simp only [r_men, e]
theorem bf_cases {d c y : Nat} (hok : r_ok d c) (hy : y < 64) : r_BF c d c y = -9 ∨ ∃ b, b < d + c ∧ r_BF c d c y = nI b := by
  rw [bf_ok hok hy]
  rcases r_bit_cases (fun j => nI (r_CO c d j)) (d + c) (nI y) with h | ⟨b, h1, h2, -⟩
  · exact Or.inl h
  · exact Or.inr ⟨b, h1, h2⟩
