/-! the reference: its code (cell 19: data, checks; 20 columnOf, 21 onesOf) -/
/-- the first place below n of which P holds; n: none -/
def r_fst (P : Nat → Bool) : Nat → Nat
  | 0 => 0
  | n + 1 => if r_fst P n < n then r_fst P n else if P n then n else n + 1
theorem r_fst_le (P : Nat → Bool) : ∀ n, r_fst P n ≤ n
  | 0 => Nat.le_refl 0
  | n + 1 => by
    have := r_fst_le P n
    unfold r_fst
    split
    · omega
    · split <;> omega
theorem r_fst_not {P : Nat → Bool} : ∀ {n k : Nat}, k < r_fst P n → P k = false
  | 0, k, h => by simp [r_fst] at h
  | n + 1, k, h => by
    have hl := r_fst_le P n
    unfold r_fst at h
    split at h
    · exact r_fst_not h
    · split at h
      · exact r_fst_not (n := n) (by omega)
      · rename_i h1 h2
        by_cases hk : k = n
        · subst hk; simpa using h2
        · exact r_fst_not (n := n) (by omega)
theorem r_fst_at {P : Nat → Bool} : ∀ {n : Nat}, r_fst P n < n → P (r_fst P n) = true
  | 0, h => by simp at h
  | n + 1, h => by
    unfold r_fst at h ⊢
    split
    · rename_i h1; exact r_fst_at h1
    · split
      · assumption
      · rename_i h1 h2; rw [if_neg h1, if_neg h2] at h; omega
theorem r_fst_congr {P Q : Nat → Bool} : ∀ {n : Nat}, (∀ k, k < n → P k = Q k) → r_fst P n = r_fst Q n
  | 0, _ => rfl
  | n + 1, h => by
    have h1 := r_fst_congr (n := n) (fun k hk => h k (by omega))
    simp only [r_fst, h1, h n (by omega)]
def r_sz (x : Int32) : Nat → Int32
  | 0 => 0
  | k + 1 => r_sz x k + r_b x k
def r_nst (cf ro : Nat → Int32) (c b col : Nat) (t : Int32) : Int32 :=
  if (r_sz (nI col) 21 = 3 ∨ r_sz (nI col) 21 = 5) ∧ ¬ (r_fst (fun j => decide (cf j = nI col)) b < b) then
    if (t = -9 ∨ r_sz (nI col) 21 < r_sz t 21) ∨ (¬ t = -9 ∧ r_sz (nI col) 21 = r_sz t 21 ∧ r_full ro (nI col) c < r_full ro t c) then nI col else t
  else t
def r_nsts (cf ro : Nat → Int32) (c b : Nat) : Nat → Int32
  | 0 => -9
  | k + 1 => r_nst cf ro c b k (r_nsts cf ro c b k)

set_option maxRecDepth 4000 in
theorem ev_X6_within {σ : r_Sg} {v a b : Int32}  : Ev 0 MX6_within [.int v, .int a, .int b] σ (some (.int (bI (a ≤ v ∧ v ≤ b)))) σ := by
  refine Ev_w [.int v, .int a, .int b] ?_ (by decide) rfl (Nat.le_of_ble_eq_true rfl) rfl
  refine g_iload_n dX6_within_0 rfl ?_
  refine g_iload_n dX6_within_1 rfl ?_
  refine g_iclt (tgt := 14) dX6_within_2 (by decide) (fun c2 => ?_) (fun c2 => ?_)
  · refine g_iconst (v := 0) dX6_within_14 (by decide) ?_
    exact g_zret dX6_within_15 rfl (by first | exact Or.inl rfl | exact Or.inr rfl) ⟨by simp only [bI_0, Decidable.not_not, Int32.not_le, Int32.not_lt, Int32.lt_iff_toInt_lt, Int32.le_iff_toInt_le] at *; unfold bI; split <;> first | rfl | (exfalso; omega), rfl⟩
  · refine g_iload_n dX6_within_5 rfl ?_
    refine g_iload_n dX6_within_6 rfl ?_
    refine g_icgt (tgt := 14) dX6_within_7 (by decide) (fun c7 => ?_) (fun c7 => ?_)
    · refine g_iconst (v := 0) dX6_within_14 (by decide) ?_
      exact g_zret dX6_within_15 rfl (by first | exact Or.inl rfl | exact Or.inr rfl) ⟨by simp only [bI_0, Decidable.not_not, Int32.not_le, Int32.not_lt, Int32.lt_iff_toInt_lt, Int32.le_iff_toInt_le] at *; unfold bI; split <;> first | rfl | (exfalso; omega), rfl⟩
    · refine g_iconst (v := 1) dX6_within_10 (by decide) ?_
      refine g_goto (tgt := 15) dX6_within_11 (by decide) ?_
      exact g_zret dX6_within_15 rfl (by first | exact Or.inl rfl | exact Or.inr rfl) ⟨by simp only [bI_0, Decidable.not_not, Int32.not_le, Int32.not_lt, Int32.lt_iff_toInt_lt, Int32.le_iff_toInt_le] at *; unfold bI; split <;> first | rfl | (exfalso; omega), rfl⟩

set_option maxRecDepth 4000 in
theorem ev_X6_isIn {σ : r_Sg} {x : Int32} {b : Nat}  : Ev 0 MX6_isIn [.int x, .int (nI b)] σ (some (.int (r_b x b))) σ := by
  refine Ev_w [.int x, .int (nI b)] ?_ (by decide) rfl (Nat.le_of_ble_eq_true rfl) rfl
  refine g_iload_n dX6_isIn_0 rfl ?_
  refine g_iload_n dX6_isIn_1 rfl ?_
  refine g_ishr dX6_isIn_2 ?_
  refine g_iconst (v := 1) dX6_isIn_3 (by decide) ?_
  refine g_iand dX6_isIn_4 ?_
  exact g_iret dX6_isIn_5 rfl ⟨rfl, rfl⟩

set_option maxRecDepth 4000 in
theorem ev_X6_sizeOf {σ : r_Sg} {x : Int32}  : Ev 1 MX6_sizeOf [.int x] σ (some (.int (r_sz x 21))) σ := by
  refine Ev_w [.int x, .null, .null] ?_ (by decide) rfl (Nat.le_of_ble_eq_true rfl) rfl
  refine g_iconst (v := 0) dX6_sizeOf_0 (by decide) ?_
  refine g_istore_n dX6_sizeOf_1 (by decide) rfl ?_
  refine g_iconst (v := 0) dX6_sizeOf_2 (by decide) ?_
  refine g_istore_n dX6_sizeOf_3 (by decide) rfl ?_
  refine r_loop (n := 21) (fun k => [.int x, .int (r_sz x k), .int (nI k)]) (fun k => σ) (fun k hk ih => ?_) ?_
  · refine g_iload_n dX6_sizeOf_4 rfl ?_
    refine g_bipush (v := nI 21) dX6_sizeOf_5 (by decide) ?_
    refine g_icge (tgt := 24) dX6_sizeOf_7 (by decide) (fun c7 => absurd c7 (nI_ge hk (by omega))) (fun c7 => ?_)
    refine g_iload_n dX6_sizeOf_10 rfl ?_
    refine g_iload_n dX6_sizeOf_11 rfl ?_
    refine g_iload_n dX6_sizeOf_12 rfl ?_
    refine g_S2 dX6_sizeOf_13 vX6_53 (Nat.le_of_ble_eq_true rfl) (by decide) (ev_X6_isIn) ?_
    refine g_iadd dX6_sizeOf_16 ?_
    refine g_istore_n dX6_sizeOf_17 (by decide) rfl ?_
    refine g_iinc (v := nI (k + 1)) dX6_sizeOf_18 rfl (nI_1 k) (by decide) rfl ?_
    refine g_goto (tgt := 4) dX6_sizeOf_21 (by decide) ?_
    exact ih
  · refine g_iload_n dX6_sizeOf_4 rfl ?_
    refine g_bipush (v := nI 21) dX6_sizeOf_5 (by decide) ?_
    refine g_icge (tgt := 24) dX6_sizeOf_7 (by decide) (fun c7 => ?_) (fun c7 => absurd (nI_le (Nat.le_refl _) (by omega)) c7)
    refine g_iload_n dX6_sizeOf_24 rfl ?_
    exact g_iret dX6_sizeOf_25 rfl ⟨rfl, rfl⟩

set_option maxRecDepth 4000 in
theorem ev_X6_bits {σ : r_Sg}  : Ev 0 MX6_bits [.ref 19] σ (some (.int (σ 19 0 + σ 19 1))) σ := by
  refine Ev_w [.ref 19] ?_ (by decide) rfl (Nat.le_of_ble_eq_true rfl) rfl
  refine g_aload_n dX6_bits_0 rfl ?_
  refine g_getI dX6_bits_1 fX6_57 rfl rfl ?_
  refine g_aload_n dX6_bits_4 rfl ?_
  refine g_getI dX6_bits_5 fX6_61 rfl rfl ?_
  refine g_iadd dX6_bits_8 ?_
  exact g_iret dX6_bits_9 rfl ⟨rfl, rfl⟩

set_option maxRecDepth 4000 in
theorem ev_X6_isBit {σ : r_Sg} {b : Int32}  : Ev 1 MX6_isBit [.ref 19, .int b] σ (some (.int (bI (0 ≤ b ∧ b ≤ σ 19 0 + σ 19 1 - 1)))) σ := by
  refine Ev_w [.ref 19, .int b] ?_ (by decide) rfl (Nat.le_of_ble_eq_true rfl) rfl
  refine g_iload_n dX6_isBit_0 rfl ?_
  refine g_iconst (v := 0) dX6_isBit_1 (by decide) ?_
  refine g_aload_n dX6_isBit_2 rfl ?_
  refine g_V0 dX6_isBit_3 vX6_64 rfl (Nat.le_of_ble_eq_true rfl) (by decide) (ev_X6_bits) ?_
  refine g_iconst (v := 1) dX6_isBit_6 (by decide) ?_
  refine g_isub dX6_isBit_7 ?_
  refine g_S3 dX6_isBit_8 vX6_68 (Nat.le_of_ble_eq_true rfl) (by decide) (ev_X6_within) ?_
  exact g_zret dX6_isBit_11 rfl (by unfold bI; split <;> simp) ⟨rfl, rfl⟩

set_option maxRecDepth 4000 in
theorem ev_X6_isSet {σ : r_Sg} {b : Int32}  : Ev 1 MX6_isSet [.ref 19, .int b] σ (some (.int (bI (0 ≤ b ∧ b ≤ (1 <<< ((σ 19 0 + σ 19 1) &&& 31)) - 1)))) σ := by
  refine Ev_w [.ref 19, .int b] ?_ (by decide) rfl (Nat.le_of_ble_eq_true rfl) rfl
  refine g_iload_n dX6_isSet_0 rfl ?_
  refine g_iconst (v := 0) dX6_isSet_1 (by decide) ?_
  refine g_iconst (v := 1) dX6_isSet_2 (by decide) ?_
  refine g_aload_n dX6_isSet_3 rfl ?_
  refine g_V0 dX6_isSet_4 vX6_64 rfl (Nat.le_of_ble_eq_true rfl) (by decide) (ev_X6_bits) ?_
  refine g_ishl dX6_isSet_7 ?_
  refine g_iconst (v := 1) dX6_isSet_8 (by decide) ?_
  refine g_isub dX6_isSet_9 ?_
  refine g_S3 dX6_isSet_10 vX6_68 (Nat.le_of_ble_eq_true rfl) (by decide) (ev_X6_within) ?_
  exact g_zret dX6_isSet_13 rfl (by unfold bI; split <;> simp) ⟨rfl, rfl⟩

set_option maxRecDepth 4000 in
theorem ev_X6_mostData {σ : r_Sg} {c : Int32}  : Ev 0 MX6_mostData [.int c] σ (some (.int (if c = 4 then 4 else if c = 5 then 11 else 14))) σ := by
  refine Ev_w [.int c] ?_ (by decide) rfl (Nat.le_of_ble_eq_true rfl) rfl
  refine g_iload_n dX6_mostData_0 rfl ?_
  refine g_iconst (v := 4) dX6_mostData_1 (by decide) ?_
  refine g_icne (tgt := 9) dX6_mostData_2 (by decide) (fun c2 => ?_) (fun c2 => ?_)
  · refine g_iload_n dX6_mostData_9 rfl ?_
    refine g_iconst (v := 5) dX6_mostData_10 (by decide) ?_
    refine g_icne (tgt := 19) dX6_mostData_11 (by decide) (fun c11 => ?_) (fun c11 => ?_)
    · refine g_bipush (v := 14) dX6_mostData_19 (by decide) ?_
      exact g_iret dX6_mostData_21 rfl ⟨by simp [*], rfl⟩
    · refine g_bipush (v := 11) dX6_mostData_14 (by decide) ?_
      refine g_goto (tgt := 21) dX6_mostData_16 (by decide) ?_
      exact g_iret dX6_mostData_21 rfl ⟨by simp [*], rfl⟩
  · refine g_iconst (v := 4) dX6_mostData_5 (by decide) ?_
    refine g_goto (tgt := 21) dX6_mostData_6 (by decide) ?_
    exact g_iret dX6_mostData_21 rfl ⟨by simp [*], rfl⟩

set_option maxRecDepth 4000 in
theorem ev_X6_isChosen {σ : r_Sg} {m : Nat} {col : Int32} (hm : m ≤ 20) : Ev 0 MX6_isChosen [.ref 19, .int col, .int (nI m)] σ (some (.int (bI (r_fst (fun j => decide (σ 20 j = col)) m < m)))) σ := by
  refine Ev_w [.ref 19, .int col, .int (nI m), .null] ?_ (by decide) rfl (Nat.le_of_ble_eq_true rfl) rfl
  refine g_iconst (v := 0) dX6_isChosen_0 (by decide) ?_
  refine g_istore_n dX6_isChosen_1 (by decide) rfl ?_
  have hJle := r_fst_le (fun j => decide (σ 20 j = col)) m
  refine r_loop (n := r_fst (fun j => decide (σ 20 j = col)) m) (fun k => [.ref 19, .int col, .int (nI m), .int (nI k)]) (fun k => σ) (fun k hk ih => ?_) ?_
  · have hP := r_fst_not hk
    refine g_iload_n dX6_isChosen_2 rfl ?_
    refine g_iload_n dX6_isChosen_3 rfl ?_
    refine g_icge (tgt := 25) dX6_isChosen_4 (by decide) (fun c4 => absurd c4 (nI_ge (show k < m by omega) (by omega))) (fun c4 => ?_)
    refine g_aload_n dX6_isChosen_7 rfl ?_
    refine g_getR dX6_isChosen_8 fX6_7 rfl rfl ?_
    refine g_iload_n dX6_isChosen_11 rfl ?_
    refine g_ial _ dX6_isChosen_12 rfl rfl (by omega) ?_
    refine g_iload_n dX6_isChosen_13 rfl ?_
    refine g_icne (tgt := 19) dX6_isChosen_14 (by decide) (fun c14 => ?_) (fun c14 => absurd c14 (by simpa using hP))
    refine g_iinc (v := nI (k + 1)) dX6_isChosen_19 rfl (nI_1 k) (by decide) rfl ?_
    refine g_goto (tgt := 2) dX6_isChosen_22 (by decide) ?_
    exact ih
  · by_cases hJ : r_fst (fun j => decide (σ 20 j = col)) m < m
    · have hP := r_fst_at hJ
      refine g_iload_n dX6_isChosen_2 rfl ?_
      refine g_iload_n dX6_isChosen_3 rfl ?_
      refine g_icge (tgt := 25) dX6_isChosen_4 (by decide) (fun c4 => absurd c4 (nI_ge hJ (by omega))) (fun c4 => ?_)
      refine g_aload_n dX6_isChosen_7 rfl ?_
      refine g_getR dX6_isChosen_8 fX6_7 rfl rfl ?_
      refine g_iload_n dX6_isChosen_11 rfl ?_
      refine g_ial _ dX6_isChosen_12 rfl rfl (by omega) ?_
      refine g_iload_n dX6_isChosen_13 rfl ?_
      refine g_icne (tgt := 19) dX6_isChosen_14 (by decide) (fun c14 => absurd (by simpa using hP) c14) (fun c14 => ?_)
      refine g_iconst (v := 1) dX6_isChosen_17 (by decide) ?_
      exact g_zret dX6_isChosen_18 rfl (by first | exact Or.inl rfl | exact Or.inr rfl) ⟨by rw [bI_t hJ], rfl⟩
    · refine g_iload_n dX6_isChosen_2 rfl ?_
      refine g_iload_n dX6_isChosen_3 rfl ?_
      refine g_icge (tgt := 25) dX6_isChosen_4 (by decide) (fun c4 => ?_) (fun c4 => absurd (nI_le (show m ≤ r_fst (fun j => decide (σ 20 j = col)) m by omega) (by omega)) c4)
      refine g_iconst (v := 0) dX6_isChosen_25 (by decide) ?_
      exact g_zret dX6_isChosen_26 rfl (by first | exact Or.inl rfl | exact Or.inr rfl) ⟨by rw [bI_f hJ], rfl⟩

set_option maxRecDepth 4000 in
theorem ev_X6_fullestWith {σ : r_Sg} {c : Nat} {col : Int32} (hc : σ 19 1 = nI c) (hc6 : c ≤ 6) : Ev 1 MX6_fullestWith [.ref 19, .int col] σ (some (.int (r_full (σ 21) col c))) σ := by
  refine Ev_w [.ref 19, .int col, .null, .null, .null] ?_ (by decide) rfl (Nat.le_of_ble_eq_true rfl) rfl
  refine g_iconst (v := 0) dX6_fullestWith_0 (by decide) ?_
  refine g_istore_n dX6_fullestWith_1 (by decide) rfl ?_
  refine g_iconst (v := 0) dX6_fullestWith_2 (by decide) ?_
  refine g_istore_n dX6_fullestWith_3 (by decide) rfl ?_
  refine r_loop (n := c) (fun k => [.ref 19, .int col, .int (r_full (σ 21) col k), .int (nI k), .null]) (fun k => σ) (fun k hk ih => ?_) ?_
  · refine g_iload_n dX6_fullestWith_4 rfl ?_
    refine g_aload_n dX6_fullestWith_5 rfl ?_
    refine g_getI dX6_fullestWith_6 fX6_61 rfl rfl ?_
    refine g_t hc ?_
    refine g_icge (tgt := 45) dX6_fullestWith_9 (by decide) (fun c9 => absurd c9 (nI_ge hk (by omega))) (fun c9 => ?_)
    refine g_aload_n dX6_fullestWith_12 rfl ?_
    refine g_getR dX6_fullestWith_13 fX6_13 rfl rfl ?_
    refine g_iload_n dX6_fullestWith_16 rfl ?_
    refine g_ial _ dX6_fullestWith_17 rfl rfl (by omega) ?_
    refine g_iload_n dX6_fullestWith_18 rfl ?_
    refine g_iload_n dX6_fullestWith_19 rfl ?_
    refine g_S2 dX6_fullestWith_20 vX6_53 (Nat.le_of_ble_eq_true rfl) (by decide) (ev_X6_isIn) ?_
    refine g_iadd dX6_fullestWith_23 ?_
    refine g_istore dX6_fullestWith_24 (by decide) rfl ?_
    refine g_iload dX6_fullestWith_26 rfl ?_
    refine g_iload_n dX6_fullestWith_28 rfl ?_
    refine g_icle (tgt := 37) dX6_fullestWith_29 (by decide) (fun c29 => ?_) (fun c29 => ?_)
    · refine g_iload_n dX6_fullestWith_37 rfl ?_
      refine g_istore_n dX6_fullestWith_38 (by decide) rfl ?_
      refine g_iinc (v := nI (k + 1)) dX6_fullestWith_39 rfl (nI_1 k) (by decide) rfl ?_
      refine g_goto (tgt := 4) dX6_fullestWith_42 (by decide) ?_
      refine g_w [.ref 19, .int col, .int (if r_full (σ 21) col k < σ 21 k + r_b col k then σ 21 k + r_b col k else r_full (σ 21) col k), .int (nI (k + 1)), .null] (And.intro (Or.inr rfl) (And.intro (Or.inr rfl) (And.intro (Or.inr (by first | rw [if_pos (Int32.not_le.mp c29)] | rw [if_neg (Int32.not_lt.mpr c29)])) (And.intro (Or.inr rfl) (And.intro (Or.inl rfl) True.intro))))) ?_
      exact ih
    · refine g_iload dX6_fullestWith_32 rfl ?_
      refine g_goto (tgt := 38) dX6_fullestWith_34 (by decide) ?_
      refine g_istore_n dX6_fullestWith_38 (by decide) rfl ?_
      refine g_iinc (v := nI (k + 1)) dX6_fullestWith_39 rfl (nI_1 k) (by decide) rfl ?_
      refine g_goto (tgt := 4) dX6_fullestWith_42 (by decide) ?_
      refine g_w [.ref 19, .int col, .int (if r_full (σ 21) col k < σ 21 k + r_b col k then σ 21 k + r_b col k else r_full (σ 21) col k), .int (nI (k + 1)), .null] (And.intro (Or.inr rfl) (And.intro (Or.inr rfl) (And.intro (Or.inr (by first | rw [if_pos (Int32.not_le.mp c29)] | rw [if_neg (Int32.not_lt.mpr c29)])) (And.intro (Or.inr rfl) (And.intro (Or.inl rfl) True.intro))))) ?_
      exact ih
  · refine g_iload_n dX6_fullestWith_4 rfl ?_
    refine g_aload_n dX6_fullestWith_5 rfl ?_
    refine g_getI dX6_fullestWith_6 fX6_61 rfl rfl ?_
    refine g_t hc ?_
    refine g_icge (tgt := 45) dX6_fullestWith_9 (by decide) (fun c9 => ?_) (fun c9 => absurd (nI_le (Nat.le_refl _) (by omega)) c9)
    refine g_iload_n dX6_fullestWith_45 rfl ?_
    exact g_iret dX6_fullestWith_46 rfl ⟨rfl, rfl⟩

set_option maxRecDepth 4000 in
theorem ev_X6_nextColumn {σ : r_Sg} {c b N : Nat} (hc : σ 19 1 = nI c) (hc6 : c ≤ 6) (hN : 1 <<< (σ 19 1 &&& 31) = nI N) (hN64 : N ≤ 64) (hb : b ≤ 20) : Ev 2 MX6_nextColumn [.ref 19, .int (nI b)] σ (some (.int (r_nsts (σ 20) (σ 21) c b N))) σ := by
  refine Ev_w [.ref 19, .int (nI b), .null, .null, .null, .null, .null] ?_ (by decide) rfl (Nat.le_of_ble_eq_true rfl) rfl
  refine g_bipush (v := (-9)) dX6_nextColumn_0 (by decide) ?_
  refine g_istore_n dX6_nextColumn_2 (by decide) rfl ?_
  refine g_iconst (v := 0) dX6_nextColumn_3 (by decide) ?_
  refine g_istore_n dX6_nextColumn_4 (by decide) rfl ?_
  refine r_loop (n := N) (fun k => [.ref 19, .int (nI b), .int (r_nsts (σ 20) (σ 21) c b k), .int (nI k), .null, .null, .null]) (fun k => σ) (fun k hk ih => ?_) ?_
  · refine g_iload_n dX6_nextColumn_5 rfl ?_
    refine g_iconst (v := 1) dX6_nextColumn_6 (by decide) ?_
    refine g_aload_n dX6_nextColumn_7 rfl ?_
    refine g_getI dX6_nextColumn_8 fX6_61 rfl rfl ?_
    refine g_ishl dX6_nextColumn_11 ?_
    refine g_t hN ?_
    refine g_icge (tgt := 121) dX6_nextColumn_12 (by decide) (fun c12 => absurd c12 (nI_ge hk (by omega))) (fun c12 => ?_)
    refine g_iload_n dX6_nextColumn_15 rfl ?_
    refine g_S1 dX6_nextColumn_16 vX6_72 (Nat.le_of_ble_eq_true rfl) (by decide) (ev_X6_sizeOf) ?_
    refine g_istore dX6_nextColumn_19 (by decide) rfl ?_
    refine g_iload dX6_nextColumn_21 rfl ?_
    refine g_iconst (v := 3) dX6_nextColumn_23 (by decide) ?_
    refine g_iceq (tgt := 33) dX6_nextColumn_24 (by decide) (fun c24 => ?_) (fun c24 => ?_)
    · refine g_aload_n dX6_nextColumn_33 rfl ?_
      refine g_iload_n dX6_nextColumn_34 rfl ?_
      refine g_iload_n dX6_nextColumn_35 rfl ?_
      refine g_V2 dX6_nextColumn_36 vX6_76 rfl (Nat.le_of_ble_eq_true rfl) (by decide) (ev_X6_isChosen (by omega)) ?_
      refine g_ifne (tgt := 115) dX6_nextColumn_39 (by decide) (fun c39 => ?_) (fun c39 => ?_)
      · have p39 := bI_1.mp c39
        refine g_iinc (v := nI (k + 1)) dX6_nextColumn_115 rfl (nI_1 k) (by decide) rfl ?_
        refine g_goto (tgt := 5) dX6_nextColumn_118 (by decide) ?_
        have e : r_nsts (σ 20) (σ 21) c b (k + 1) = r_nsts (σ 20) (σ 21) c b k := by simp only [r_nsts, r_nst]; grind
        refine g_w [.ref 19, .int (nI b), .int (r_nsts (σ 20) (σ 21) c b k), .int (nI (k + 1)), .null, .null, .null] (And.intro (Or.inr rfl) (And.intro (Or.inr rfl) (And.intro (Or.inr rfl) (And.intro (Or.inr rfl) (And.intro (Or.inl rfl) (And.intro (Or.inl rfl) (And.intro (Or.inl rfl) (True.intro)))))))) ?_
        exact g_l (by rw [e]) ih
      · have p39 := bI_0.mp c39
        refine g_iload_n dX6_nextColumn_42 rfl ?_
        refine g_bipush (v := (-9)) dX6_nextColumn_43 (by decide) ?_
        refine g_iceq (tgt := 57) dX6_nextColumn_45 (by decide) (fun c45 => ?_) (fun c45 => ?_)
        · refine g_iconst (v := 1) dX6_nextColumn_57 (by decide) ?_
          refine g_goto (tgt := 62) dX6_nextColumn_58 (by decide) ?_
          refine g_istore dX6_nextColumn_62 (by decide) rfl ?_
          refine g_iload_n dX6_nextColumn_64 rfl ?_
          refine g_bipush (v := (-9)) dX6_nextColumn_65 (by decide) ?_
          refine g_iceq (tgt := 96) dX6_nextColumn_67 (by decide) (fun c67 => ?_) (fun c67 => ?_)
          · refine g_iconst (v := 0) dX6_nextColumn_96 (by decide) ?_
            refine g_istore dX6_nextColumn_97 (by decide) rfl ?_
            refine g_iload dX6_nextColumn_99 rfl ?_
            refine g_ifne (tgt := 109) dX6_nextColumn_101 (by decide) (fun c101 => ?_) (fun c101 => absurd c101 (by decide))
            refine g_iload_n dX6_nextColumn_109 rfl ?_
            refine g_goto (tgt := 114) dX6_nextColumn_110 (by decide) ?_
            refine g_istore_n dX6_nextColumn_114 (by decide) rfl ?_
            refine g_iinc (v := nI (k + 1)) dX6_nextColumn_115 rfl (nI_1 k) (by decide) rfl ?_
            refine g_goto (tgt := 5) dX6_nextColumn_118 (by decide) ?_
            have e : r_nsts (σ 20) (σ 21) c b (k + 1) = nI k := by simp only [r_nsts, r_nst]; grind
            refine g_w [.ref 19, .int (nI b), .int (nI k), .int (nI (k + 1)), .null, .null, .null] (And.intro (Or.inr rfl) (And.intro (Or.inr rfl) (And.intro (Or.inr rfl) (And.intro (Or.inr rfl) (And.intro (Or.inl rfl) (And.intro (Or.inl rfl) (And.intro (Or.inl rfl) (True.intro)))))))) ?_
            exact g_l (by rw [e]) ih
          · refine g_iload dX6_nextColumn_70 rfl ?_
            refine g_iload_n dX6_nextColumn_72 rfl ?_
            refine g_S1 dX6_nextColumn_73 vX6_72 (Nat.le_of_ble_eq_true rfl) (by decide) (ev_X6_sizeOf) ?_
            refine g_icne (tgt := 96) dX6_nextColumn_76 (by decide) (fun c76 => ?_) (fun c76 => ?_)
            · refine g_iconst (v := 0) dX6_nextColumn_96 (by decide) ?_
              refine g_istore dX6_nextColumn_97 (by decide) rfl ?_
              refine g_iload dX6_nextColumn_99 rfl ?_
              refine g_ifne (tgt := 109) dX6_nextColumn_101 (by decide) (fun c101 => ?_) (fun c101 => absurd c101 (by decide))
              refine g_iload_n dX6_nextColumn_109 rfl ?_
              refine g_goto (tgt := 114) dX6_nextColumn_110 (by decide) ?_
              refine g_istore_n dX6_nextColumn_114 (by decide) rfl ?_
              refine g_iinc (v := nI (k + 1)) dX6_nextColumn_115 rfl (nI_1 k) (by decide) rfl ?_
              refine g_goto (tgt := 5) dX6_nextColumn_118 (by decide) ?_
              have e : r_nsts (σ 20) (σ 21) c b (k + 1) = nI k := by simp only [r_nsts, r_nst]; grind
              refine g_w [.ref 19, .int (nI b), .int (nI k), .int (nI (k + 1)), .null, .null, .null] (And.intro (Or.inr rfl) (And.intro (Or.inr rfl) (And.intro (Or.inr rfl) (And.intro (Or.inr rfl) (And.intro (Or.inl rfl) (And.intro (Or.inl rfl) (And.intro (Or.inl rfl) (True.intro)))))))) ?_
              exact g_l (by rw [e]) ih
            · refine g_aload_n dX6_nextColumn_79 rfl ?_
              refine g_iload_n dX6_nextColumn_80 rfl ?_
              refine g_V1 dX6_nextColumn_81 vX6_80 rfl (Nat.le_of_ble_eq_true rfl) (by decide) (ev_X6_fullestWith hc hc6) ?_
              refine g_aload_n dX6_nextColumn_84 rfl ?_
              refine g_iload_n dX6_nextColumn_85 rfl ?_
              refine g_V1 dX6_nextColumn_86 vX6_80 rfl (Nat.le_of_ble_eq_true rfl) (by decide) (ev_X6_fullestWith hc hc6) ?_
              refine g_icge (tgt := 96) dX6_nextColumn_89 (by decide) (fun c89 => ?_) (fun c89 => ?_)
              · have q89 := Int32.not_lt.mpr c89
                refine g_iconst (v := 0) dX6_nextColumn_96 (by decide) ?_
                refine g_istore dX6_nextColumn_97 (by decide) rfl ?_
                refine g_iload dX6_nextColumn_99 rfl ?_
                refine g_ifne (tgt := 109) dX6_nextColumn_101 (by decide) (fun c101 => ?_) (fun c101 => absurd c101 (by decide))
                refine g_iload_n dX6_nextColumn_109 rfl ?_
                refine g_goto (tgt := 114) dX6_nextColumn_110 (by decide) ?_
                refine g_istore_n dX6_nextColumn_114 (by decide) rfl ?_
                refine g_iinc (v := nI (k + 1)) dX6_nextColumn_115 rfl (nI_1 k) (by decide) rfl ?_
                refine g_goto (tgt := 5) dX6_nextColumn_118 (by decide) ?_
                have e : r_nsts (σ 20) (σ 21) c b (k + 1) = nI k := by simp only [r_nsts, r_nst]; grind
                refine g_w [.ref 19, .int (nI b), .int (nI k), .int (nI (k + 1)), .null, .null, .null] (And.intro (Or.inr rfl) (And.intro (Or.inr rfl) (And.intro (Or.inr rfl) (And.intro (Or.inr rfl) (And.intro (Or.inl rfl) (And.intro (Or.inl rfl) (And.intro (Or.inl rfl) (True.intro)))))))) ?_
                exact g_l (by rw [e]) ih
              · have q89 := Int32.not_le.mp c89
                refine g_iconst (v := 1) dX6_nextColumn_92 (by decide) ?_
                refine g_goto (tgt := 97) dX6_nextColumn_93 (by decide) ?_
                refine g_istore dX6_nextColumn_97 (by decide) rfl ?_
                refine g_iload dX6_nextColumn_99 rfl ?_
                refine g_ifne (tgt := 109) dX6_nextColumn_101 (by decide) (fun c101 => ?_) (fun c101 => absurd c101 (by decide))
                refine g_iload_n dX6_nextColumn_109 rfl ?_
                refine g_goto (tgt := 114) dX6_nextColumn_110 (by decide) ?_
                refine g_istore_n dX6_nextColumn_114 (by decide) rfl ?_
                refine g_iinc (v := nI (k + 1)) dX6_nextColumn_115 rfl (nI_1 k) (by decide) rfl ?_
                refine g_goto (tgt := 5) dX6_nextColumn_118 (by decide) ?_
                have e : r_nsts (σ 20) (σ 21) c b (k + 1) = nI k := by simp only [r_nsts, r_nst]; grind
                refine g_w [.ref 19, .int (nI b), .int (nI k), .int (nI (k + 1)), .null, .null, .null] (And.intro (Or.inr rfl) (And.intro (Or.inr rfl) (And.intro (Or.inr rfl) (And.intro (Or.inr rfl) (And.intro (Or.inl rfl) (And.intro (Or.inl rfl) (And.intro (Or.inl rfl) (True.intro)))))))) ?_
                exact g_l (by rw [e]) ih
        · refine g_iload dX6_nextColumn_48 rfl ?_
          refine g_iload_n dX6_nextColumn_50 rfl ?_
          refine g_S1 dX6_nextColumn_51 vX6_72 (Nat.le_of_ble_eq_true rfl) (by decide) (ev_X6_sizeOf) ?_
          refine g_icge (tgt := 61) dX6_nextColumn_54 (by decide) (fun c54 => ?_) (fun c54 => ?_)
          · have q54 := Int32.not_lt.mpr c54
            refine g_iconst (v := 0) dX6_nextColumn_61 (by decide) ?_
            refine g_istore dX6_nextColumn_62 (by decide) rfl ?_
            refine g_iload_n dX6_nextColumn_64 rfl ?_
            refine g_bipush (v := (-9)) dX6_nextColumn_65 (by decide) ?_
            refine g_iceq (tgt := 96) dX6_nextColumn_67 (by decide) (fun c67 => ?_) (fun c67 => ?_)
            · refine g_iconst (v := 0) dX6_nextColumn_96 (by decide) ?_
              refine g_istore dX6_nextColumn_97 (by decide) rfl ?_
              refine g_iload dX6_nextColumn_99 rfl ?_
              refine g_ifne (tgt := 109) dX6_nextColumn_101 (by decide) (fun c101 => absurd (by decide) c101) (fun c101 => ?_)
              refine g_iload dX6_nextColumn_104 rfl ?_
              refine g_ifeq (tgt := 113) dX6_nextColumn_106 (by decide) (fun c106 => ?_) (fun c106 => absurd (by decide) c106)
              refine g_iload_n dX6_nextColumn_113 rfl ?_
              refine g_istore_n dX6_nextColumn_114 (by decide) rfl ?_
              refine g_iinc (v := nI (k + 1)) dX6_nextColumn_115 rfl (nI_1 k) (by decide) rfl ?_
              refine g_goto (tgt := 5) dX6_nextColumn_118 (by decide) ?_
              have e : r_nsts (σ 20) (σ 21) c b (k + 1) = r_nsts (σ 20) (σ 21) c b k := by simp only [r_nsts, r_nst]; grind
              refine g_w [.ref 19, .int (nI b), .int (r_nsts (σ 20) (σ 21) c b k), .int (nI (k + 1)), .null, .null, .null] (And.intro (Or.inr rfl) (And.intro (Or.inr rfl) (And.intro (Or.inr rfl) (And.intro (Or.inr rfl) (And.intro (Or.inl rfl) (And.intro (Or.inl rfl) (And.intro (Or.inl rfl) (True.intro)))))))) ?_
              exact g_l (by rw [e]) ih
            · refine g_iload dX6_nextColumn_70 rfl ?_
              refine g_iload_n dX6_nextColumn_72 rfl ?_
              refine g_S1 dX6_nextColumn_73 vX6_72 (Nat.le_of_ble_eq_true rfl) (by decide) (ev_X6_sizeOf) ?_
              refine g_icne (tgt := 96) dX6_nextColumn_76 (by decide) (fun c76 => ?_) (fun c76 => ?_)
              · refine g_iconst (v := 0) dX6_nextColumn_96 (by decide) ?_
                refine g_istore dX6_nextColumn_97 (by decide) rfl ?_
                refine g_iload dX6_nextColumn_99 rfl ?_
                refine g_ifne (tgt := 109) dX6_nextColumn_101 (by decide) (fun c101 => absurd (by decide) c101) (fun c101 => ?_)
                refine g_iload dX6_nextColumn_104 rfl ?_
                refine g_ifeq (tgt := 113) dX6_nextColumn_106 (by decide) (fun c106 => ?_) (fun c106 => absurd (by decide) c106)
                refine g_iload_n dX6_nextColumn_113 rfl ?_
                refine g_istore_n dX6_nextColumn_114 (by decide) rfl ?_
                refine g_iinc (v := nI (k + 1)) dX6_nextColumn_115 rfl (nI_1 k) (by decide) rfl ?_
                refine g_goto (tgt := 5) dX6_nextColumn_118 (by decide) ?_
                have e : r_nsts (σ 20) (σ 21) c b (k + 1) = r_nsts (σ 20) (σ 21) c b k := by simp only [r_nsts, r_nst]; grind
                refine g_w [.ref 19, .int (nI b), .int (r_nsts (σ 20) (σ 21) c b k), .int (nI (k + 1)), .null, .null, .null] (And.intro (Or.inr rfl) (And.intro (Or.inr rfl) (And.intro (Or.inr rfl) (And.intro (Or.inr rfl) (And.intro (Or.inl rfl) (And.intro (Or.inl rfl) (And.intro (Or.inl rfl) (True.intro)))))))) ?_
                exact g_l (by rw [e]) ih
              · refine g_aload_n dX6_nextColumn_79 rfl ?_
                refine g_iload_n dX6_nextColumn_80 rfl ?_
                refine g_V1 dX6_nextColumn_81 vX6_80 rfl (Nat.le_of_ble_eq_true rfl) (by decide) (ev_X6_fullestWith hc hc6) ?_
                refine g_aload_n dX6_nextColumn_84 rfl ?_
                refine g_iload_n dX6_nextColumn_85 rfl ?_
                refine g_V1 dX6_nextColumn_86 vX6_80 rfl (Nat.le_of_ble_eq_true rfl) (by decide) (ev_X6_fullestWith hc hc6) ?_
                refine g_icge (tgt := 96) dX6_nextColumn_89 (by decide) (fun c89 => ?_) (fun c89 => ?_)
                · have q89 := Int32.not_lt.mpr c89
                  refine g_iconst (v := 0) dX6_nextColumn_96 (by decide) ?_
                  refine g_istore dX6_nextColumn_97 (by decide) rfl ?_
                  refine g_iload dX6_nextColumn_99 rfl ?_
                  refine g_ifne (tgt := 109) dX6_nextColumn_101 (by decide) (fun c101 => absurd (by decide) c101) (fun c101 => ?_)
                  refine g_iload dX6_nextColumn_104 rfl ?_
                  refine g_ifeq (tgt := 113) dX6_nextColumn_106 (by decide) (fun c106 => ?_) (fun c106 => absurd (by decide) c106)
                  refine g_iload_n dX6_nextColumn_113 rfl ?_
                  refine g_istore_n dX6_nextColumn_114 (by decide) rfl ?_
                  refine g_iinc (v := nI (k + 1)) dX6_nextColumn_115 rfl (nI_1 k) (by decide) rfl ?_
                  refine g_goto (tgt := 5) dX6_nextColumn_118 (by decide) ?_
                  have e : r_nsts (σ 20) (σ 21) c b (k + 1) = r_nsts (σ 20) (σ 21) c b k := by simp only [r_nsts, r_nst]; grind
                  refine g_w [.ref 19, .int (nI b), .int (r_nsts (σ 20) (σ 21) c b k), .int (nI (k + 1)), .null, .null, .null] (And.intro (Or.inr rfl) (And.intro (Or.inr rfl) (And.intro (Or.inr rfl) (And.intro (Or.inr rfl) (And.intro (Or.inl rfl) (And.intro (Or.inl rfl) (And.intro (Or.inl rfl) (True.intro)))))))) ?_
                  exact g_l (by rw [e]) ih
                · have q89 := Int32.not_le.mp c89
                  refine g_iconst (v := 1) dX6_nextColumn_92 (by decide) ?_
                  refine g_goto (tgt := 97) dX6_nextColumn_93 (by decide) ?_
                  refine g_istore dX6_nextColumn_97 (by decide) rfl ?_
                  refine g_iload dX6_nextColumn_99 rfl ?_
                  refine g_ifne (tgt := 109) dX6_nextColumn_101 (by decide) (fun c101 => absurd (by decide) c101) (fun c101 => ?_)
                  refine g_iload dX6_nextColumn_104 rfl ?_
                  refine g_ifeq (tgt := 113) dX6_nextColumn_106 (by decide) (fun c106 => absurd c106 (by decide)) (fun c106 => ?_)
                  refine g_iload_n dX6_nextColumn_109 rfl ?_
                  refine g_goto (tgt := 114) dX6_nextColumn_110 (by decide) ?_
                  refine g_istore_n dX6_nextColumn_114 (by decide) rfl ?_
                  refine g_iinc (v := nI (k + 1)) dX6_nextColumn_115 rfl (nI_1 k) (by decide) rfl ?_
                  refine g_goto (tgt := 5) dX6_nextColumn_118 (by decide) ?_
                  have e : r_nsts (σ 20) (σ 21) c b (k + 1) = nI k := by simp only [r_nsts, r_nst]; grind
                  refine g_w [.ref 19, .int (nI b), .int (nI k), .int (nI (k + 1)), .null, .null, .null] (And.intro (Or.inr rfl) (And.intro (Or.inr rfl) (And.intro (Or.inr rfl) (And.intro (Or.inr rfl) (And.intro (Or.inl rfl) (And.intro (Or.inl rfl) (And.intro (Or.inl rfl) (True.intro)))))))) ?_
                  exact g_l (by rw [e]) ih
          · have q54 := Int32.not_le.mp c54
            refine g_iconst (v := 1) dX6_nextColumn_57 (by decide) ?_
            refine g_goto (tgt := 62) dX6_nextColumn_58 (by decide) ?_
            refine g_istore dX6_nextColumn_62 (by decide) rfl ?_
            refine g_iload_n dX6_nextColumn_64 rfl ?_
            refine g_bipush (v := (-9)) dX6_nextColumn_65 (by decide) ?_
            refine g_iceq (tgt := 96) dX6_nextColumn_67 (by decide) (fun c67 => ?_) (fun c67 => ?_)
            · refine g_iconst (v := 0) dX6_nextColumn_96 (by decide) ?_
              refine g_istore dX6_nextColumn_97 (by decide) rfl ?_
              refine g_iload dX6_nextColumn_99 rfl ?_
              refine g_ifne (tgt := 109) dX6_nextColumn_101 (by decide) (fun c101 => ?_) (fun c101 => absurd c101 (by decide))
              refine g_iload_n dX6_nextColumn_109 rfl ?_
              refine g_goto (tgt := 114) dX6_nextColumn_110 (by decide) ?_
              refine g_istore_n dX6_nextColumn_114 (by decide) rfl ?_
              refine g_iinc (v := nI (k + 1)) dX6_nextColumn_115 rfl (nI_1 k) (by decide) rfl ?_
              refine g_goto (tgt := 5) dX6_nextColumn_118 (by decide) ?_
              have e : r_nsts (σ 20) (σ 21) c b (k + 1) = nI k := by simp only [r_nsts, r_nst]; grind
              refine g_w [.ref 19, .int (nI b), .int (nI k), .int (nI (k + 1)), .null, .null, .null] (And.intro (Or.inr rfl) (And.intro (Or.inr rfl) (And.intro (Or.inr rfl) (And.intro (Or.inr rfl) (And.intro (Or.inl rfl) (And.intro (Or.inl rfl) (And.intro (Or.inl rfl) (True.intro)))))))) ?_
              exact g_l (by rw [e]) ih
            · refine g_iload dX6_nextColumn_70 rfl ?_
              refine g_iload_n dX6_nextColumn_72 rfl ?_
              refine g_S1 dX6_nextColumn_73 vX6_72 (Nat.le_of_ble_eq_true rfl) (by decide) (ev_X6_sizeOf) ?_
              refine g_icne (tgt := 96) dX6_nextColumn_76 (by decide) (fun c76 => ?_) (fun c76 => ?_)
              · refine g_iconst (v := 0) dX6_nextColumn_96 (by decide) ?_
                refine g_istore dX6_nextColumn_97 (by decide) rfl ?_
                refine g_iload dX6_nextColumn_99 rfl ?_
                refine g_ifne (tgt := 109) dX6_nextColumn_101 (by decide) (fun c101 => ?_) (fun c101 => absurd c101 (by decide))
                refine g_iload_n dX6_nextColumn_109 rfl ?_
                refine g_goto (tgt := 114) dX6_nextColumn_110 (by decide) ?_
                refine g_istore_n dX6_nextColumn_114 (by decide) rfl ?_
                refine g_iinc (v := nI (k + 1)) dX6_nextColumn_115 rfl (nI_1 k) (by decide) rfl ?_
                refine g_goto (tgt := 5) dX6_nextColumn_118 (by decide) ?_
                have e : r_nsts (σ 20) (σ 21) c b (k + 1) = nI k := by simp only [r_nsts, r_nst]; grind
                refine g_w [.ref 19, .int (nI b), .int (nI k), .int (nI (k + 1)), .null, .null, .null] (And.intro (Or.inr rfl) (And.intro (Or.inr rfl) (And.intro (Or.inr rfl) (And.intro (Or.inr rfl) (And.intro (Or.inl rfl) (And.intro (Or.inl rfl) (And.intro (Or.inl rfl) (True.intro)))))))) ?_
                exact g_l (by rw [e]) ih
              · refine g_aload_n dX6_nextColumn_79 rfl ?_
                refine g_iload_n dX6_nextColumn_80 rfl ?_
                refine g_V1 dX6_nextColumn_81 vX6_80 rfl (Nat.le_of_ble_eq_true rfl) (by decide) (ev_X6_fullestWith hc hc6) ?_
                refine g_aload_n dX6_nextColumn_84 rfl ?_
                refine g_iload_n dX6_nextColumn_85 rfl ?_
                refine g_V1 dX6_nextColumn_86 vX6_80 rfl (Nat.le_of_ble_eq_true rfl) (by decide) (ev_X6_fullestWith hc hc6) ?_
                refine g_icge (tgt := 96) dX6_nextColumn_89 (by decide) (fun c89 => ?_) (fun c89 => ?_)
                · have q89 := Int32.not_lt.mpr c89
                  refine g_iconst (v := 0) dX6_nextColumn_96 (by decide) ?_
                  refine g_istore dX6_nextColumn_97 (by decide) rfl ?_
                  refine g_iload dX6_nextColumn_99 rfl ?_
                  refine g_ifne (tgt := 109) dX6_nextColumn_101 (by decide) (fun c101 => ?_) (fun c101 => absurd c101 (by decide))
                  refine g_iload_n dX6_nextColumn_109 rfl ?_
                  refine g_goto (tgt := 114) dX6_nextColumn_110 (by decide) ?_
                  refine g_istore_n dX6_nextColumn_114 (by decide) rfl ?_
                  refine g_iinc (v := nI (k + 1)) dX6_nextColumn_115 rfl (nI_1 k) (by decide) rfl ?_
                  refine g_goto (tgt := 5) dX6_nextColumn_118 (by decide) ?_
                  have e : r_nsts (σ 20) (σ 21) c b (k + 1) = nI k := by simp only [r_nsts, r_nst]; grind
                  refine g_w [.ref 19, .int (nI b), .int (nI k), .int (nI (k + 1)), .null, .null, .null] (And.intro (Or.inr rfl) (And.intro (Or.inr rfl) (And.intro (Or.inr rfl) (And.intro (Or.inr rfl) (And.intro (Or.inl rfl) (And.intro (Or.inl rfl) (And.intro (Or.inl rfl) (True.intro)))))))) ?_
                  exact g_l (by rw [e]) ih
                · have q89 := Int32.not_le.mp c89
                  refine g_iconst (v := 1) dX6_nextColumn_92 (by decide) ?_
                  refine g_goto (tgt := 97) dX6_nextColumn_93 (by decide) ?_
                  refine g_istore dX6_nextColumn_97 (by decide) rfl ?_
                  refine g_iload dX6_nextColumn_99 rfl ?_
                  refine g_ifne (tgt := 109) dX6_nextColumn_101 (by decide) (fun c101 => ?_) (fun c101 => absurd c101 (by decide))
                  refine g_iload_n dX6_nextColumn_109 rfl ?_
                  refine g_goto (tgt := 114) dX6_nextColumn_110 (by decide) ?_
                  refine g_istore_n dX6_nextColumn_114 (by decide) rfl ?_
                  refine g_iinc (v := nI (k + 1)) dX6_nextColumn_115 rfl (nI_1 k) (by decide) rfl ?_
                  refine g_goto (tgt := 5) dX6_nextColumn_118 (by decide) ?_
                  have e : r_nsts (σ 20) (σ 21) c b (k + 1) = nI k := by simp only [r_nsts, r_nst]; grind
                  refine g_w [.ref 19, .int (nI b), .int (nI k), .int (nI (k + 1)), .null, .null, .null] (And.intro (Or.inr rfl) (And.intro (Or.inr rfl) (And.intro (Or.inr rfl) (And.intro (Or.inr rfl) (And.intro (Or.inl rfl) (And.intro (Or.inl rfl) (And.intro (Or.inl rfl) (True.intro)))))))) ?_
                  exact g_l (by rw [e]) ih
    · refine g_iload dX6_nextColumn_27 rfl ?_
      refine g_iconst (v := 5) dX6_nextColumn_29 (by decide) ?_
      refine g_icne (tgt := 115) dX6_nextColumn_30 (by decide) (fun c30 => ?_) (fun c30 => ?_)
      · refine g_iinc (v := nI (k + 1)) dX6_nextColumn_115 rfl (nI_1 k) (by decide) rfl ?_
        refine g_goto (tgt := 5) dX6_nextColumn_118 (by decide) ?_
        have e : r_nsts (σ 20) (σ 21) c b (k + 1) = r_nsts (σ 20) (σ 21) c b k := by simp only [r_nsts, r_nst]; grind
        refine g_w [.ref 19, .int (nI b), .int (r_nsts (σ 20) (σ 21) c b k), .int (nI (k + 1)), .null, .null, .null] (And.intro (Or.inr rfl) (And.intro (Or.inr rfl) (And.intro (Or.inr rfl) (And.intro (Or.inr rfl) (And.intro (Or.inl rfl) (And.intro (Or.inl rfl) (And.intro (Or.inl rfl) (True.intro)))))))) ?_
        exact g_l (by rw [e]) ih
      · refine g_aload_n dX6_nextColumn_33 rfl ?_
        refine g_iload_n dX6_nextColumn_34 rfl ?_
        refine g_iload_n dX6_nextColumn_35 rfl ?_
        refine g_V2 dX6_nextColumn_36 vX6_76 rfl (Nat.le_of_ble_eq_true rfl) (by decide) (ev_X6_isChosen (by omega)) ?_
        refine g_ifne (tgt := 115) dX6_nextColumn_39 (by decide) (fun c39 => ?_) (fun c39 => ?_)
        · have p39 := bI_1.mp c39
          refine g_iinc (v := nI (k + 1)) dX6_nextColumn_115 rfl (nI_1 k) (by decide) rfl ?_
          refine g_goto (tgt := 5) dX6_nextColumn_118 (by decide) ?_
          have e : r_nsts (σ 20) (σ 21) c b (k + 1) = r_nsts (σ 20) (σ 21) c b k := by simp only [r_nsts, r_nst]; grind
          refine g_w [.ref 19, .int (nI b), .int (r_nsts (σ 20) (σ 21) c b k), .int (nI (k + 1)), .null, .null, .null] (And.intro (Or.inr rfl) (And.intro (Or.inr rfl) (And.intro (Or.inr rfl) (And.intro (Or.inr rfl) (And.intro (Or.inl rfl) (And.intro (Or.inl rfl) (And.intro (Or.inl rfl) (True.intro)))))))) ?_
          exact g_l (by rw [e]) ih
        · have p39 := bI_0.mp c39
          refine g_iload_n dX6_nextColumn_42 rfl ?_
          refine g_bipush (v := (-9)) dX6_nextColumn_43 (by decide) ?_
          refine g_iceq (tgt := 57) dX6_nextColumn_45 (by decide) (fun c45 => ?_) (fun c45 => ?_)
          · refine g_iconst (v := 1) dX6_nextColumn_57 (by decide) ?_
            refine g_goto (tgt := 62) dX6_nextColumn_58 (by decide) ?_
            refine g_istore dX6_nextColumn_62 (by decide) rfl ?_
            refine g_iload_n dX6_nextColumn_64 rfl ?_
            refine g_bipush (v := (-9)) dX6_nextColumn_65 (by decide) ?_
            refine g_iceq (tgt := 96) dX6_nextColumn_67 (by decide) (fun c67 => ?_) (fun c67 => ?_)
            · refine g_iconst (v := 0) dX6_nextColumn_96 (by decide) ?_
              refine g_istore dX6_nextColumn_97 (by decide) rfl ?_
              refine g_iload dX6_nextColumn_99 rfl ?_
              refine g_ifne (tgt := 109) dX6_nextColumn_101 (by decide) (fun c101 => ?_) (fun c101 => absurd c101 (by decide))
              refine g_iload_n dX6_nextColumn_109 rfl ?_
              refine g_goto (tgt := 114) dX6_nextColumn_110 (by decide) ?_
              refine g_istore_n dX6_nextColumn_114 (by decide) rfl ?_
              refine g_iinc (v := nI (k + 1)) dX6_nextColumn_115 rfl (nI_1 k) (by decide) rfl ?_
              refine g_goto (tgt := 5) dX6_nextColumn_118 (by decide) ?_
              have e : r_nsts (σ 20) (σ 21) c b (k + 1) = nI k := by simp only [r_nsts, r_nst]; grind
              refine g_w [.ref 19, .int (nI b), .int (nI k), .int (nI (k + 1)), .null, .null, .null] (And.intro (Or.inr rfl) (And.intro (Or.inr rfl) (And.intro (Or.inr rfl) (And.intro (Or.inr rfl) (And.intro (Or.inl rfl) (And.intro (Or.inl rfl) (And.intro (Or.inl rfl) (True.intro)))))))) ?_
              exact g_l (by rw [e]) ih
            · refine g_iload dX6_nextColumn_70 rfl ?_
              refine g_iload_n dX6_nextColumn_72 rfl ?_
              refine g_S1 dX6_nextColumn_73 vX6_72 (Nat.le_of_ble_eq_true rfl) (by decide) (ev_X6_sizeOf) ?_
              refine g_icne (tgt := 96) dX6_nextColumn_76 (by decide) (fun c76 => ?_) (fun c76 => ?_)
              · refine g_iconst (v := 0) dX6_nextColumn_96 (by decide) ?_
                refine g_istore dX6_nextColumn_97 (by decide) rfl ?_
                refine g_iload dX6_nextColumn_99 rfl ?_
                refine g_ifne (tgt := 109) dX6_nextColumn_101 (by decide) (fun c101 => ?_) (fun c101 => absurd c101 (by decide))
                refine g_iload_n dX6_nextColumn_109 rfl ?_
                refine g_goto (tgt := 114) dX6_nextColumn_110 (by decide) ?_
                refine g_istore_n dX6_nextColumn_114 (by decide) rfl ?_
                refine g_iinc (v := nI (k + 1)) dX6_nextColumn_115 rfl (nI_1 k) (by decide) rfl ?_
                refine g_goto (tgt := 5) dX6_nextColumn_118 (by decide) ?_
                have e : r_nsts (σ 20) (σ 21) c b (k + 1) = nI k := by simp only [r_nsts, r_nst]; grind
                refine g_w [.ref 19, .int (nI b), .int (nI k), .int (nI (k + 1)), .null, .null, .null] (And.intro (Or.inr rfl) (And.intro (Or.inr rfl) (And.intro (Or.inr rfl) (And.intro (Or.inr rfl) (And.intro (Or.inl rfl) (And.intro (Or.inl rfl) (And.intro (Or.inl rfl) (True.intro)))))))) ?_
                exact g_l (by rw [e]) ih
              · refine g_aload_n dX6_nextColumn_79 rfl ?_
                refine g_iload_n dX6_nextColumn_80 rfl ?_
                refine g_V1 dX6_nextColumn_81 vX6_80 rfl (Nat.le_of_ble_eq_true rfl) (by decide) (ev_X6_fullestWith hc hc6) ?_
                refine g_aload_n dX6_nextColumn_84 rfl ?_
                refine g_iload_n dX6_nextColumn_85 rfl ?_
                refine g_V1 dX6_nextColumn_86 vX6_80 rfl (Nat.le_of_ble_eq_true rfl) (by decide) (ev_X6_fullestWith hc hc6) ?_
                refine g_icge (tgt := 96) dX6_nextColumn_89 (by decide) (fun c89 => ?_) (fun c89 => ?_)
                · have q89 := Int32.not_lt.mpr c89
                  refine g_iconst (v := 0) dX6_nextColumn_96 (by decide) ?_
                  refine g_istore dX6_nextColumn_97 (by decide) rfl ?_
                  refine g_iload dX6_nextColumn_99 rfl ?_
                  refine g_ifne (tgt := 109) dX6_nextColumn_101 (by decide) (fun c101 => ?_) (fun c101 => absurd c101 (by decide))
                  refine g_iload_n dX6_nextColumn_109 rfl ?_
                  refine g_goto (tgt := 114) dX6_nextColumn_110 (by decide) ?_
                  refine g_istore_n dX6_nextColumn_114 (by decide) rfl ?_
                  refine g_iinc (v := nI (k + 1)) dX6_nextColumn_115 rfl (nI_1 k) (by decide) rfl ?_
                  refine g_goto (tgt := 5) dX6_nextColumn_118 (by decide) ?_
                  have e : r_nsts (σ 20) (σ 21) c b (k + 1) = nI k := by simp only [r_nsts, r_nst]; grind
                  refine g_w [.ref 19, .int (nI b), .int (nI k), .int (nI (k + 1)), .null, .null, .null] (And.intro (Or.inr rfl) (And.intro (Or.inr rfl) (And.intro (Or.inr rfl) (And.intro (Or.inr rfl) (And.intro (Or.inl rfl) (And.intro (Or.inl rfl) (And.intro (Or.inl rfl) (True.intro)))))))) ?_
                  exact g_l (by rw [e]) ih
                · have q89 := Int32.not_le.mp c89
                  refine g_iconst (v := 1) dX6_nextColumn_92 (by decide) ?_
                  refine g_goto (tgt := 97) dX6_nextColumn_93 (by decide) ?_
                  refine g_istore dX6_nextColumn_97 (by decide) rfl ?_
                  refine g_iload dX6_nextColumn_99 rfl ?_
                  refine g_ifne (tgt := 109) dX6_nextColumn_101 (by decide) (fun c101 => ?_) (fun c101 => absurd c101 (by decide))
                  refine g_iload_n dX6_nextColumn_109 rfl ?_
                  refine g_goto (tgt := 114) dX6_nextColumn_110 (by decide) ?_
                  refine g_istore_n dX6_nextColumn_114 (by decide) rfl ?_
                  refine g_iinc (v := nI (k + 1)) dX6_nextColumn_115 rfl (nI_1 k) (by decide) rfl ?_
                  refine g_goto (tgt := 5) dX6_nextColumn_118 (by decide) ?_
                  have e : r_nsts (σ 20) (σ 21) c b (k + 1) = nI k := by simp only [r_nsts, r_nst]; grind
                  refine g_w [.ref 19, .int (nI b), .int (nI k), .int (nI (k + 1)), .null, .null, .null] (And.intro (Or.inr rfl) (And.intro (Or.inr rfl) (And.intro (Or.inr rfl) (And.intro (Or.inr rfl) (And.intro (Or.inl rfl) (And.intro (Or.inl rfl) (And.intro (Or.inl rfl) (True.intro)))))))) ?_
                  exact g_l (by rw [e]) ih
          · refine g_iload dX6_nextColumn_48 rfl ?_
            refine g_iload_n dX6_nextColumn_50 rfl ?_
            refine g_S1 dX6_nextColumn_51 vX6_72 (Nat.le_of_ble_eq_true rfl) (by decide) (ev_X6_sizeOf) ?_
            refine g_icge (tgt := 61) dX6_nextColumn_54 (by decide) (fun c54 => ?_) (fun c54 => ?_)
            · have q54 := Int32.not_lt.mpr c54
              refine g_iconst (v := 0) dX6_nextColumn_61 (by decide) ?_
              refine g_istore dX6_nextColumn_62 (by decide) rfl ?_
              refine g_iload_n dX6_nextColumn_64 rfl ?_
              refine g_bipush (v := (-9)) dX6_nextColumn_65 (by decide) ?_
              refine g_iceq (tgt := 96) dX6_nextColumn_67 (by decide) (fun c67 => ?_) (fun c67 => ?_)
              · refine g_iconst (v := 0) dX6_nextColumn_96 (by decide) ?_
                refine g_istore dX6_nextColumn_97 (by decide) rfl ?_
                refine g_iload dX6_nextColumn_99 rfl ?_
                refine g_ifne (tgt := 109) dX6_nextColumn_101 (by decide) (fun c101 => absurd (by decide) c101) (fun c101 => ?_)
                refine g_iload dX6_nextColumn_104 rfl ?_
                refine g_ifeq (tgt := 113) dX6_nextColumn_106 (by decide) (fun c106 => ?_) (fun c106 => absurd (by decide) c106)
                refine g_iload_n dX6_nextColumn_113 rfl ?_
                refine g_istore_n dX6_nextColumn_114 (by decide) rfl ?_
                refine g_iinc (v := nI (k + 1)) dX6_nextColumn_115 rfl (nI_1 k) (by decide) rfl ?_
                refine g_goto (tgt := 5) dX6_nextColumn_118 (by decide) ?_
                have e : r_nsts (σ 20) (σ 21) c b (k + 1) = r_nsts (σ 20) (σ 21) c b k := by simp only [r_nsts, r_nst]; grind
                refine g_w [.ref 19, .int (nI b), .int (r_nsts (σ 20) (σ 21) c b k), .int (nI (k + 1)), .null, .null, .null] (And.intro (Or.inr rfl) (And.intro (Or.inr rfl) (And.intro (Or.inr rfl) (And.intro (Or.inr rfl) (And.intro (Or.inl rfl) (And.intro (Or.inl rfl) (And.intro (Or.inl rfl) (True.intro)))))))) ?_
                exact g_l (by rw [e]) ih
              · refine g_iload dX6_nextColumn_70 rfl ?_
                refine g_iload_n dX6_nextColumn_72 rfl ?_
                refine g_S1 dX6_nextColumn_73 vX6_72 (Nat.le_of_ble_eq_true rfl) (by decide) (ev_X6_sizeOf) ?_
                refine g_icne (tgt := 96) dX6_nextColumn_76 (by decide) (fun c76 => ?_) (fun c76 => ?_)
                · refine g_iconst (v := 0) dX6_nextColumn_96 (by decide) ?_
                  refine g_istore dX6_nextColumn_97 (by decide) rfl ?_
                  refine g_iload dX6_nextColumn_99 rfl ?_
                  refine g_ifne (tgt := 109) dX6_nextColumn_101 (by decide) (fun c101 => absurd (by decide) c101) (fun c101 => ?_)
                  refine g_iload dX6_nextColumn_104 rfl ?_
                  refine g_ifeq (tgt := 113) dX6_nextColumn_106 (by decide) (fun c106 => ?_) (fun c106 => absurd (by decide) c106)
                  refine g_iload_n dX6_nextColumn_113 rfl ?_
                  refine g_istore_n dX6_nextColumn_114 (by decide) rfl ?_
                  refine g_iinc (v := nI (k + 1)) dX6_nextColumn_115 rfl (nI_1 k) (by decide) rfl ?_
                  refine g_goto (tgt := 5) dX6_nextColumn_118 (by decide) ?_
                  have e : r_nsts (σ 20) (σ 21) c b (k + 1) = r_nsts (σ 20) (σ 21) c b k := by simp only [r_nsts, r_nst]; grind
                  refine g_w [.ref 19, .int (nI b), .int (r_nsts (σ 20) (σ 21) c b k), .int (nI (k + 1)), .null, .null, .null] (And.intro (Or.inr rfl) (And.intro (Or.inr rfl) (And.intro (Or.inr rfl) (And.intro (Or.inr rfl) (And.intro (Or.inl rfl) (And.intro (Or.inl rfl) (And.intro (Or.inl rfl) (True.intro)))))))) ?_
                  exact g_l (by rw [e]) ih
                · refine g_aload_n dX6_nextColumn_79 rfl ?_
                  refine g_iload_n dX6_nextColumn_80 rfl ?_
                  refine g_V1 dX6_nextColumn_81 vX6_80 rfl (Nat.le_of_ble_eq_true rfl) (by decide) (ev_X6_fullestWith hc hc6) ?_
                  refine g_aload_n dX6_nextColumn_84 rfl ?_
                  refine g_iload_n dX6_nextColumn_85 rfl ?_
                  refine g_V1 dX6_nextColumn_86 vX6_80 rfl (Nat.le_of_ble_eq_true rfl) (by decide) (ev_X6_fullestWith hc hc6) ?_
                  refine g_icge (tgt := 96) dX6_nextColumn_89 (by decide) (fun c89 => ?_) (fun c89 => ?_)
                  · have q89 := Int32.not_lt.mpr c89
                    refine g_iconst (v := 0) dX6_nextColumn_96 (by decide) ?_
                    refine g_istore dX6_nextColumn_97 (by decide) rfl ?_
                    refine g_iload dX6_nextColumn_99 rfl ?_
                    refine g_ifne (tgt := 109) dX6_nextColumn_101 (by decide) (fun c101 => absurd (by decide) c101) (fun c101 => ?_)
                    refine g_iload dX6_nextColumn_104 rfl ?_
                    refine g_ifeq (tgt := 113) dX6_nextColumn_106 (by decide) (fun c106 => ?_) (fun c106 => absurd (by decide) c106)
                    refine g_iload_n dX6_nextColumn_113 rfl ?_
                    refine g_istore_n dX6_nextColumn_114 (by decide) rfl ?_
                    refine g_iinc (v := nI (k + 1)) dX6_nextColumn_115 rfl (nI_1 k) (by decide) rfl ?_
                    refine g_goto (tgt := 5) dX6_nextColumn_118 (by decide) ?_
                    have e : r_nsts (σ 20) (σ 21) c b (k + 1) = r_nsts (σ 20) (σ 21) c b k := by simp only [r_nsts, r_nst]; grind
                    refine g_w [.ref 19, .int (nI b), .int (r_nsts (σ 20) (σ 21) c b k), .int (nI (k + 1)), .null, .null, .null] (And.intro (Or.inr rfl) (And.intro (Or.inr rfl) (And.intro (Or.inr rfl) (And.intro (Or.inr rfl) (And.intro (Or.inl rfl) (And.intro (Or.inl rfl) (And.intro (Or.inl rfl) (True.intro)))))))) ?_
                    exact g_l (by rw [e]) ih
                  · have q89 := Int32.not_le.mp c89
                    refine g_iconst (v := 1) dX6_nextColumn_92 (by decide) ?_
                    refine g_goto (tgt := 97) dX6_nextColumn_93 (by decide) ?_
                    refine g_istore dX6_nextColumn_97 (by decide) rfl ?_
                    refine g_iload dX6_nextColumn_99 rfl ?_
                    refine g_ifne (tgt := 109) dX6_nextColumn_101 (by decide) (fun c101 => absurd (by decide) c101) (fun c101 => ?_)
                    refine g_iload dX6_nextColumn_104 rfl ?_
                    refine g_ifeq (tgt := 113) dX6_nextColumn_106 (by decide) (fun c106 => absurd c106 (by decide)) (fun c106 => ?_)
                    refine g_iload_n dX6_nextColumn_109 rfl ?_
                    refine g_goto (tgt := 114) dX6_nextColumn_110 (by decide) ?_
                    refine g_istore_n dX6_nextColumn_114 (by decide) rfl ?_
                    refine g_iinc (v := nI (k + 1)) dX6_nextColumn_115 rfl (nI_1 k) (by decide) rfl ?_
                    refine g_goto (tgt := 5) dX6_nextColumn_118 (by decide) ?_
                    have e : r_nsts (σ 20) (σ 21) c b (k + 1) = nI k := by simp only [r_nsts, r_nst]; grind
                    refine g_w [.ref 19, .int (nI b), .int (nI k), .int (nI (k + 1)), .null, .null, .null] (And.intro (Or.inr rfl) (And.intro (Or.inr rfl) (And.intro (Or.inr rfl) (And.intro (Or.inr rfl) (And.intro (Or.inl rfl) (And.intro (Or.inl rfl) (And.intro (Or.inl rfl) (True.intro)))))))) ?_
                    exact g_l (by rw [e]) ih
            · have q54 := Int32.not_le.mp c54
              refine g_iconst (v := 1) dX6_nextColumn_57 (by decide) ?_
              refine g_goto (tgt := 62) dX6_nextColumn_58 (by decide) ?_
              refine g_istore dX6_nextColumn_62 (by decide) rfl ?_
              refine g_iload_n dX6_nextColumn_64 rfl ?_
              refine g_bipush (v := (-9)) dX6_nextColumn_65 (by decide) ?_
              refine g_iceq (tgt := 96) dX6_nextColumn_67 (by decide) (fun c67 => ?_) (fun c67 => ?_)
              · refine g_iconst (v := 0) dX6_nextColumn_96 (by decide) ?_
                refine g_istore dX6_nextColumn_97 (by decide) rfl ?_
                refine g_iload dX6_nextColumn_99 rfl ?_
                refine g_ifne (tgt := 109) dX6_nextColumn_101 (by decide) (fun c101 => ?_) (fun c101 => absurd c101 (by decide))
                refine g_iload_n dX6_nextColumn_109 rfl ?_
                refine g_goto (tgt := 114) dX6_nextColumn_110 (by decide) ?_
                refine g_istore_n dX6_nextColumn_114 (by decide) rfl ?_
                refine g_iinc (v := nI (k + 1)) dX6_nextColumn_115 rfl (nI_1 k) (by decide) rfl ?_
                refine g_goto (tgt := 5) dX6_nextColumn_118 (by decide) ?_
                have e : r_nsts (σ 20) (σ 21) c b (k + 1) = nI k := by simp only [r_nsts, r_nst]; grind
                refine g_w [.ref 19, .int (nI b), .int (nI k), .int (nI (k + 1)), .null, .null, .null] (And.intro (Or.inr rfl) (And.intro (Or.inr rfl) (And.intro (Or.inr rfl) (And.intro (Or.inr rfl) (And.intro (Or.inl rfl) (And.intro (Or.inl rfl) (And.intro (Or.inl rfl) (True.intro)))))))) ?_
                exact g_l (by rw [e]) ih
              · refine g_iload dX6_nextColumn_70 rfl ?_
                refine g_iload_n dX6_nextColumn_72 rfl ?_
                refine g_S1 dX6_nextColumn_73 vX6_72 (Nat.le_of_ble_eq_true rfl) (by decide) (ev_X6_sizeOf) ?_
                refine g_icne (tgt := 96) dX6_nextColumn_76 (by decide) (fun c76 => ?_) (fun c76 => ?_)
                · refine g_iconst (v := 0) dX6_nextColumn_96 (by decide) ?_
                  refine g_istore dX6_nextColumn_97 (by decide) rfl ?_
                  refine g_iload dX6_nextColumn_99 rfl ?_
                  refine g_ifne (tgt := 109) dX6_nextColumn_101 (by decide) (fun c101 => ?_) (fun c101 => absurd c101 (by decide))
                  refine g_iload_n dX6_nextColumn_109 rfl ?_
                  refine g_goto (tgt := 114) dX6_nextColumn_110 (by decide) ?_
                  refine g_istore_n dX6_nextColumn_114 (by decide) rfl ?_
                  refine g_iinc (v := nI (k + 1)) dX6_nextColumn_115 rfl (nI_1 k) (by decide) rfl ?_
                  refine g_goto (tgt := 5) dX6_nextColumn_118 (by decide) ?_
                  have e : r_nsts (σ 20) (σ 21) c b (k + 1) = nI k := by simp only [r_nsts, r_nst]; grind
                  refine g_w [.ref 19, .int (nI b), .int (nI k), .int (nI (k + 1)), .null, .null, .null] (And.intro (Or.inr rfl) (And.intro (Or.inr rfl) (And.intro (Or.inr rfl) (And.intro (Or.inr rfl) (And.intro (Or.inl rfl) (And.intro (Or.inl rfl) (And.intro (Or.inl rfl) (True.intro)))))))) ?_
                  exact g_l (by rw [e]) ih
                · refine g_aload_n dX6_nextColumn_79 rfl ?_
                  refine g_iload_n dX6_nextColumn_80 rfl ?_
                  refine g_V1 dX6_nextColumn_81 vX6_80 rfl (Nat.le_of_ble_eq_true rfl) (by decide) (ev_X6_fullestWith hc hc6) ?_
                  refine g_aload_n dX6_nextColumn_84 rfl ?_
                  refine g_iload_n dX6_nextColumn_85 rfl ?_
                  refine g_V1 dX6_nextColumn_86 vX6_80 rfl (Nat.le_of_ble_eq_true rfl) (by decide) (ev_X6_fullestWith hc hc6) ?_
                  refine g_icge (tgt := 96) dX6_nextColumn_89 (by decide) (fun c89 => ?_) (fun c89 => ?_)
                  · have q89 := Int32.not_lt.mpr c89
                    refine g_iconst (v := 0) dX6_nextColumn_96 (by decide) ?_
                    refine g_istore dX6_nextColumn_97 (by decide) rfl ?_
                    refine g_iload dX6_nextColumn_99 rfl ?_
                    refine g_ifne (tgt := 109) dX6_nextColumn_101 (by decide) (fun c101 => ?_) (fun c101 => absurd c101 (by decide))
                    refine g_iload_n dX6_nextColumn_109 rfl ?_
                    refine g_goto (tgt := 114) dX6_nextColumn_110 (by decide) ?_
                    refine g_istore_n dX6_nextColumn_114 (by decide) rfl ?_
                    refine g_iinc (v := nI (k + 1)) dX6_nextColumn_115 rfl (nI_1 k) (by decide) rfl ?_
                    refine g_goto (tgt := 5) dX6_nextColumn_118 (by decide) ?_
                    have e : r_nsts (σ 20) (σ 21) c b (k + 1) = nI k := by simp only [r_nsts, r_nst]; grind
                    refine g_w [.ref 19, .int (nI b), .int (nI k), .int (nI (k + 1)), .null, .null, .null] (And.intro (Or.inr rfl) (And.intro (Or.inr rfl) (And.intro (Or.inr rfl) (And.intro (Or.inr rfl) (And.intro (Or.inl rfl) (And.intro (Or.inl rfl) (And.intro (Or.inl rfl) (True.intro)))))))) ?_
                    exact g_l (by rw [e]) ih
                  · have q89 := Int32.not_le.mp c89
                    refine g_iconst (v := 1) dX6_nextColumn_92 (by decide) ?_
                    refine g_goto (tgt := 97) dX6_nextColumn_93 (by decide) ?_
                    refine g_istore dX6_nextColumn_97 (by decide) rfl ?_
                    refine g_iload dX6_nextColumn_99 rfl ?_
                    refine g_ifne (tgt := 109) dX6_nextColumn_101 (by decide) (fun c101 => ?_) (fun c101 => absurd c101 (by decide))
                    refine g_iload_n dX6_nextColumn_109 rfl ?_
                    refine g_goto (tgt := 114) dX6_nextColumn_110 (by decide) ?_
                    refine g_istore_n dX6_nextColumn_114 (by decide) rfl ?_
                    refine g_iinc (v := nI (k + 1)) dX6_nextColumn_115 rfl (nI_1 k) (by decide) rfl ?_
                    refine g_goto (tgt := 5) dX6_nextColumn_118 (by decide) ?_
                    have e : r_nsts (σ 20) (σ 21) c b (k + 1) = nI k := by simp only [r_nsts, r_nst]; grind
                    refine g_w [.ref 19, .int (nI b), .int (nI k), .int (nI (k + 1)), .null, .null, .null] (And.intro (Or.inr rfl) (And.intro (Or.inr rfl) (And.intro (Or.inr rfl) (And.intro (Or.inr rfl) (And.intro (Or.inl rfl) (And.intro (Or.inl rfl) (And.intro (Or.inl rfl) (True.intro)))))))) ?_
                    exact g_l (by rw [e]) ih
  · refine g_iload_n dX6_nextColumn_5 rfl ?_
    refine g_iconst (v := 1) dX6_nextColumn_6 (by decide) ?_
    refine g_aload_n dX6_nextColumn_7 rfl ?_
    refine g_getI dX6_nextColumn_8 fX6_61 rfl rfl ?_
    refine g_ishl dX6_nextColumn_11 ?_
    refine g_t hN ?_
    refine g_icge (tgt := 121) dX6_nextColumn_12 (by decide) (fun c12 => ?_) (fun c12 => absurd (nI_le (Nat.le_refl _) (by omega)) c12)
    refine g_iload_n dX6_nextColumn_121 rfl ?_
    exact g_iret dX6_nextColumn_122 rfl ⟨rfl, rfl⟩
