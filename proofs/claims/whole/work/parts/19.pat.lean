/-! patterns: the class's table (cell 17, 18), the reference's sets one by one (cell 33) -/
theorem r_ix64 (n x : Nat) : nI n * nI 64 + nI x = nI (64 * n + x) := by rw [pk_mul, nI_add, Nat.mul_comm]
theorem r_xor (a b : Nat) : nI a ^^^ nI b = nI (a ^^^ b) := by
  unfold nI
  apply Int32.toBitVec_inj.mp
  simp [Int32.toBitVec_xor, Int32.toBitVec_ofNat']
def f_s (σ : r_Sg) (n c : Nat) : Nat → r_Sg
  | 0 => σ
  | k + 1 => r_up (f_s σ n c k) 18 (64 * n + (k ^^^ c)) (f_s σ n c k 18 (64 * n + (k ^^^ c)) + f_s σ n c k 18 (64 * (n - 1) + k))
def f_n (σ : r_Sg) (c : Nat) : Nat → r_Sg
  | 0 => σ
  | j + 1 => f_s (f_n σ c j) (4 - j) c 64
def f_b (σ : r_Sg) (col : Nat → Nat) : Nat → r_Sg
  | 0 => r_up (r_fill σ 18 320 0) 18 0 1
  | b + 1 => f_n (f_b σ col b) (col b) 4
theorem f_s_o (σ : r_Sg) (n c : Nat) {q : Nat} (h : q ≠ 18) : ∀ k, f_s σ n c k q = σ q
  | 0 => rfl
  | k + 1 => by rw [f_s, r_up_ne _ _ _ h, f_s_o σ n c h k]
theorem f_n_o (σ : r_Sg) (c : Nat) {q : Nat} (h : q ≠ 18) : ∀ k, f_n σ c k q = σ q
  | 0 => rfl
  | k + 1 => by rw [f_n, f_s_o _ _ _ h, f_n_o σ c h k]
theorem f_b_o (σ : r_Sg) (col : Nat → Nat) {q : Nat} (h : q ≠ 18) : ∀ k, f_b σ col k q = σ q
  | 0 => by rw [f_b, r_up_ne _ _ _ h]; funext i; simp [r_fill, h]
  | k + 1 => by rw [f_b, f_n_o _ _ h, f_b_o σ col h k]
theorem r_x64 {a b : Nat} (ha : a < 64) (hb : b < 64) : a ^^^ b < 64 := Nat.xor_lt_two_pow (n := 6) ha hb

set_option maxRecDepth 4000 in
theorem ev_X3_countAll {σ : r_Sg} {w : Nat} {col : Nat → Nat} (hw : σ 1 3 + σ 1 4 = nI w) (hw20 : w ≤ 20) (hcol : ∀ b, b < w → σ 2 b = nI (col b) ∧ col b < 64) : Ev 1 MX3_countAll [.ref 17] σ none (f_b σ col w) := by
  refine Ev_w [.ref 17, .null, .null, .null, .null] ?_ (by decide) rfl (Nat.le_of_ble_eq_true rfl) rfl
  refine g_aload_n dX3_countAll_0 rfl ?_
  refine g_getR dX3_countAll_1 fX3_13 rfl rfl ?_
  refine g_iconst (v := 0) dX3_countAll_4 (by decide) ?_
  refine g_S2v dX3_countAll_5 vX3_41 (Nat.le_of_ble_eq_true rfl) (by decide) (ev_J7_fill_53178 rfl) ?_
  refine g_aload_n dX3_countAll_8 rfl ?_
  refine g_getR dX3_countAll_9 fX3_13 rfl rfl ?_
  refine g_iconst (v := nI 0) dX3_countAll_12 (by decide) ?_
  refine g_iconst (v := 1) dX3_countAll_13 (by decide) ?_
  refine g_ias _ dX3_countAll_14 rfl rfl (by omega) ?_
  refine g_iconst (v := 0) dX3_countAll_15 (by decide) ?_
  refine g_istore_n dX3_countAll_16 (by decide) rfl ?_
  refine r_loop (n := w) (fun k => [.ref 17, .int (nI k), .null, .null, .null]) (fun k => f_b σ col k) (fun k hk ih => ?_) ?_
  · refine g_iload_n dX3_countAll_17 rfl ?_
    refine g_aload_n dX3_countAll_18 rfl ?_
    refine g_getR dX3_countAll_19 fX3_17 rfl rfl ?_
    refine g_V0 dX3_countAll_22 vX3_47 rfl (Nat.le_of_ble_eq_true rfl) (by decide) (Ev_r (r' := some (.int (nI w))) ev_X2_width (by rw [f_b_o σ col (by decide)]; rw [hw])) ?_
    refine g_icge (tgt := 102) dX3_countAll_25 (by decide) (fun c25 => absurd c25 (nI_ge hk (by omega))) (fun c25 => ?_)
    have hck := hcol k hk
    refine g_aload_n dX3_countAll_28 rfl ?_
    refine g_getR dX3_countAll_29 fX3_17 rfl rfl ?_
    refine g_iload_n dX3_countAll_32 rfl ?_
    refine g_V1 dX3_countAll_33 vX3_51 rfl (Nat.le_of_ble_eq_true rfl) (by decide) (Ev_r (r' := some (.int (nI (col k)))) (ev_X2_columnOf (by omega)) (by rw [f_b_o σ col (by decide), hck.1])) ?_
    refine g_istore_n dX3_countAll_36 (by decide) rfl ?_
    refine g_iconst (v := 4) dX3_countAll_37 (by decide) ?_
    refine g_istore_n dX3_countAll_38 (by decide) rfl ?_
    refine g_w [.ref 17, .int (nI k), .int (nI (col k)), .int (nI (4 - 0)), .null] (And.intro (Or.inr rfl) (And.intro (Or.inr rfl) (And.intro (Or.inr rfl) (And.intro (Or.inr rfl) (And.intro (Or.inl rfl) (True.intro)))))) ?_
    refine r_loop (n := 4) (fun j => [.ref 17, .int (nI k), .int (nI (col k)), .int (nI (4 - j)), .null]) (fun j => f_n (f_b σ col k) (col k) j) (fun j hj ih => ?_) ?_
    · refine g_iload_n dX3_countAll_39 rfl ?_
      refine g_ifle (tgt := 96) dX3_countAll_40 (by decide) (fun c40 => absurd c40 (nI_nle (by omega) (by omega))) (fun c40 => ?_)
      refine g_iconst (v := 0) dX3_countAll_43 (by decide) ?_
      refine g_istore dX3_countAll_44 (by decide) rfl ?_
      refine g_w [.ref 17, .int (nI k), .int (nI (col k)), .int (nI (4 - j)), .int (nI 0)] (And.intro (Or.inr rfl) (And.intro (Or.inr rfl) (And.intro (Or.inr rfl) (And.intro (Or.inr rfl) (And.intro (Or.inr rfl) (True.intro)))))) ?_
      refine r_loop (n := 64) (fun x => [.ref 17, .int (nI k), .int (nI (col k)), .int (nI (4 - j)), .int (nI x)]) (fun x => f_s (f_n (f_b σ col k) (col k) j) (4 - j) (col k) x) (fun x hx ih => ?_) ?_
      · refine g_iload dX3_countAll_46 rfl ?_
        refine g_bipush (v := nI 64) dX3_countAll_48 (by decide) ?_
        refine g_icge (tgt := 90) dX3_countAll_50 (by decide) (fun c50 => absurd c50 (nI_ge hx (by omega))) (fun c50 => ?_)
        have hxx := r_x64 hx hck.2
        refine g_aload_n dX3_countAll_53 rfl ?_
        refine g_getR dX3_countAll_54 fX3_13 rfl rfl ?_
        refine g_iload_n dX3_countAll_57 rfl ?_
        refine g_bipush (v := nI 64) dX3_countAll_58 (by decide) ?_
        refine g_imul dX3_countAll_60 ?_
        refine g_iload dX3_countAll_61 rfl ?_
        refine g_iload_n dX3_countAll_63 rfl ?_
        refine g_ixor dX3_countAll_64 ?_
        refine g_t (r_xor x (col k)) ?_
        refine g_iadd dX3_countAll_65 ?_
        refine g_t (r_ix64 (4 - j) (x ^^^ col k)) ?_
        refine g_dup2 dX3_countAll_66 rfl rfl ?_
        refine g_ial _ dX3_countAll_67 rfl rfl (by omega) ?_
        refine g_aload_n dX3_countAll_68 rfl ?_
        refine g_getR dX3_countAll_69 fX3_13 rfl rfl ?_
        refine g_iload_n dX3_countAll_72 rfl ?_
        refine g_iconst (v := 1) dX3_countAll_73 (by decide) ?_
        refine g_isub dX3_countAll_74 ?_
        refine g_t (show _ = nI (4 - j - 1) from by rw [show (1 : Int32) = nI 1 from rfl, pk_sub (by omega)]) ?_
        refine g_bipush (v := nI 64) dX3_countAll_75 (by decide) ?_
        refine g_imul dX3_countAll_77 ?_
        refine g_iload dX3_countAll_78 rfl ?_
        refine g_iadd dX3_countAll_80 ?_
        refine g_t (r_ix64 (4 - j - 1) x) ?_
        refine g_ial _ dX3_countAll_81 rfl rfl (by omega) ?_
        refine g_iadd dX3_countAll_82 ?_
        refine g_ias _ dX3_countAll_83 rfl rfl (by omega) ?_
        refine g_iinc (v := nI (x + 1)) dX3_countAll_84 rfl (nI_1 x) (by decide) rfl ?_
        refine g_goto (tgt := 46) dX3_countAll_87 (by decide) ?_
        exact ih
      · refine g_iload dX3_countAll_46 rfl ?_
        refine g_bipush (v := nI 64) dX3_countAll_48 (by decide) ?_
        refine g_icge (tgt := 90) dX3_countAll_50 (by decide) (fun c50 => ?_) (fun c50 => absurd (nI_le (Nat.le_refl _) (by omega)) c50)
        refine g_iinc (v := nI (4 - (j + 1))) dX3_countAll_90 rfl (by rcases (show j = 0 ∨ j = 1 ∨ j = 2 ∨ j = 3 by omega) with z | z | z | z <;> subst z <;> decide) (by decide) rfl ?_
        refine g_goto (tgt := 39) dX3_countAll_93 (by decide) ?_
        refine g_w [.ref 17, .int (nI k), .int (nI (col k)), .int (nI (4 - (j + 1))), .null] (And.intro (Or.inr rfl) (And.intro (Or.inr rfl) (And.intro (Or.inr rfl) (And.intro (Or.inr rfl) (And.intro (Or.inl rfl) (True.intro)))))) ?_
        exact ih
    · refine g_iload_n dX3_countAll_39 rfl ?_
      refine g_ifle (tgt := 96) dX3_countAll_40 (by decide) (fun c40 => ?_) (fun c40 => absurd (by decide) c40)
      refine g_iinc (v := nI (k + 1)) dX3_countAll_96 rfl (nI_1 k) (by decide) rfl ?_
      refine g_goto (tgt := 17) dX3_countAll_99 (by decide) ?_
      refine g_w [.ref 17, .int (nI (k + 1)), .null, .null, .null] (And.intro (Or.inr rfl) (And.intro (Or.inr rfl) (And.intro (Or.inl rfl) (And.intro (Or.inl rfl) (And.intro (Or.inl rfl) (True.intro)))))) ?_
      exact ih
  · refine g_iload_n dX3_countAll_17 rfl ?_
    refine g_aload_n dX3_countAll_18 rfl ?_
    refine g_getR dX3_countAll_19 fX3_17 rfl rfl ?_
    refine g_V0 dX3_countAll_22 vX3_47 rfl (Nat.le_of_ble_eq_true rfl) (by decide) (Ev_r (r' := some (.int (nI w))) ev_X2_width (by rw [f_b_o σ col (by decide)]; rw [hw])) ?_
    refine g_icge (tgt := 102) dX3_countAll_25 (by decide) (fun c25 => ?_) (fun c25 => absurd (nI_le (Nat.le_refl _) (by omega)) c25)
    exact g_ret dX3_countAll_102 rfl ⟨rfl, rfl⟩

set_option maxRecDepth 4000 in
theorem ev_X3_allOf {σ : r_Sg} {n : Nat} (hn : n ≤ 4) : Ev 0 MX3_allOf [.ref 17, .int (nI n)] σ (some (.int (r_sum (fun s => σ 18 (64 * n + s)) 64))) σ := by
  refine Ev_w [.ref 17, .int (nI n), .null, .null] ?_ (by decide) rfl (Nat.le_of_ble_eq_true rfl) rfl
  refine g_iconst (v := 0) dX3_allOf_0 (by decide) ?_
  refine g_istore_n dX3_allOf_1 (by decide) rfl ?_
  refine g_iconst (v := 0) dX3_allOf_2 (by decide) ?_
  refine g_istore_n dX3_allOf_3 (by decide) rfl ?_
  refine r_loop (n := 64) (fun k => [.ref 17, .int (nI n), .int (r_sum (fun s => σ 18 (64 * n + s)) k), .int (nI k)]) (fun k => σ) (fun k hk ih => ?_) ?_
  · refine g_iload_n dX3_allOf_4 rfl ?_
    refine g_bipush (v := nI 64) dX3_allOf_5 (by decide) ?_
    refine g_icge (tgt := 30) dX3_allOf_7 (by decide) (fun c7 => absurd c7 (nI_ge hk (by omega))) (fun c7 => ?_)
    refine g_iload_n dX3_allOf_10 rfl ?_
    refine g_aload_n dX3_allOf_11 rfl ?_
    refine g_getR dX3_allOf_12 fX3_13 rfl rfl ?_
    refine g_iload_n dX3_allOf_15 rfl ?_
    refine g_bipush (v := nI 64) dX3_allOf_16 (by decide) ?_
    refine g_imul dX3_allOf_18 ?_
    refine g_iload_n dX3_allOf_19 rfl ?_
    refine g_iadd dX3_allOf_20 ?_
    refine g_t (r_ix64 n k) ?_
    refine g_ial _ dX3_allOf_21 rfl rfl (by omega) ?_
    refine g_iadd dX3_allOf_22 ?_
    refine g_istore_n dX3_allOf_23 (by decide) rfl ?_
    refine g_iinc (v := nI (k + 1)) dX3_allOf_24 rfl (nI_1 k) (by decide) rfl ?_
    refine g_goto (tgt := 4) dX3_allOf_27 (by decide) ?_
    exact ih
  · refine g_iload_n dX3_allOf_4 rfl ?_
    refine g_bipush (v := nI 64) dX3_allOf_5 (by decide) ?_
    refine g_icge (tgt := 30) dX3_allOf_7 (by decide) (fun c7 => ?_) (fun c7 => absurd (nI_le (Nat.le_refl _) (by omega)) c7)
    refine g_iload_n dX3_allOf_30 rfl ?_
    exact g_iret dX3_allOf_31 rfl ⟨rfl, rfl⟩

set_option maxRecDepth 4000 in
theorem ev_X3_missedOf {σ : r_Sg} {n : Nat} (hn : n ≤ 4) : Ev 0 MX3_missedOf [.ref 17, .int (nI n)] σ (some (.int (if n = 0 then 0 else σ 18 (64 * n)))) σ := by
  refine Ev_w [.ref 17, .int (nI n)] ?_ (by decide) rfl (Nat.le_of_ble_eq_true rfl) rfl
  refine g_iload_n dX3_missedOf_0 rfl ?_
  refine g_ifne (tgt := 8) dX3_missedOf_1 (by decide) (fun c1 => ?_) (fun c1 => ?_)
  · have e : ¬ n = 0 := fun z => c1 (by rw [z]; rfl)
    refine g_aload_n dX3_missedOf_8 rfl ?_
    refine g_getR dX3_missedOf_9 fX3_13 rfl rfl ?_
    refine g_iload_n dX3_missedOf_12 rfl ?_
    refine g_bipush (v := nI 64) dX3_missedOf_13 (by decide) ?_
    refine g_imul dX3_missedOf_15 ?_
    refine g_t (show _ = nI (64 * n) from by rw [pk_mul, Nat.mul_comm]) ?_
    refine g_ial _ dX3_missedOf_16 rfl rfl (by omega) ?_
    exact g_iret dX3_missedOf_17 rfl ⟨by first | rw [if_pos e] | rw [if_neg e], rfl⟩
  · have e : n = 0 := (nI_eq (b := 0) (by omega) (by omega)).mp c1
    refine g_iconst (v := 0) dX3_missedOf_4 (by decide) ?_
    refine g_goto (tgt := 17) dX3_missedOf_5 (by decide) ?_
    exact g_iret dX3_missedOf_17 rfl ⟨by first | rw [if_pos e] | rw [if_neg e], rfl⟩

set_option maxRecDepth 4000 in
theorem ev_X3_mendedOf {σ : r_Sg} {w : Nat} {col : Nat → Nat} {n : Nat} (hw : σ 1 3 + σ 1 4 = nI w) (hw20 : w ≤ 20) (hcol : ∀ b, b < w → σ 2 b = nI (col b) ∧ col b < 64) (hn : n ≤ 4) : Ev 1 MX3_mendedOf [.ref 17, .int (nI n)] σ (some (.int (if n = 0 then 1 else r_sum (fun b => σ 18 (64 * n + col b)) w))) σ := by
  refine Ev_w [.ref 17, .int (nI n), .null, .null] ?_ (by decide) rfl (Nat.le_of_ble_eq_true rfl) rfl
  refine g_iload_n dX3_mendedOf_0 rfl ?_
  refine g_ifne (tgt := 6) dX3_mendedOf_1 (by decide) (fun c1 => ?_) (fun c1 => ?_)
  · have e : ¬ n = 0 := fun z => c1 (by rw [z]; rfl)
    refine g_iconst (v := 0) dX3_mendedOf_6 (by decide) ?_
    refine g_istore_n dX3_mendedOf_7 (by decide) rfl ?_
    refine g_iconst (v := 0) dX3_mendedOf_8 (by decide) ?_
    refine g_istore_n dX3_mendedOf_9 (by decide) rfl ?_
    refine r_loop (n := w) (fun k => [.ref 17, .int (nI n), .int (r_sum (fun b => σ 18 (64 * n + col b)) k), .int (nI k)]) (fun k => σ) (fun k hk ih => ?_) ?_
    · refine g_iload_n dX3_mendedOf_10 rfl ?_
      refine g_aload_n dX3_mendedOf_11 rfl ?_
      refine g_getR dX3_mendedOf_12 fX3_17 rfl rfl ?_
      refine g_V0 dX3_mendedOf_15 vX3_47 rfl (Nat.le_of_ble_eq_true rfl) (by decide) (Ev_r (r' := some (.int (nI w))) ev_X2_width (by rw [hw])) ?_
      refine g_icge (tgt := 48) dX3_mendedOf_18 (by decide) (fun c18 => absurd c18 (nI_ge hk (by omega))) (fun c18 => ?_)
      have hck := hcol k hk
      refine g_iload_n dX3_mendedOf_21 rfl ?_
      refine g_aload_n dX3_mendedOf_22 rfl ?_
      refine g_getR dX3_mendedOf_23 fX3_13 rfl rfl ?_
      refine g_iload_n dX3_mendedOf_26 rfl ?_
      refine g_bipush (v := nI 64) dX3_mendedOf_27 (by decide) ?_
      refine g_imul dX3_mendedOf_29 ?_
      refine g_aload_n dX3_mendedOf_30 rfl ?_
      refine g_getR dX3_mendedOf_31 fX3_17 rfl rfl ?_
      refine g_iload_n dX3_mendedOf_34 rfl ?_
      refine g_V1 dX3_mendedOf_35 vX3_51 rfl (Nat.le_of_ble_eq_true rfl) (by decide) (Ev_r (r' := some (.int (nI (col k)))) (ev_X2_columnOf (by omega)) (by rw [hck.1])) ?_
      refine g_iadd dX3_mendedOf_38 ?_
      refine g_t (r_ix64 n (col k)) ?_
      refine g_ial _ dX3_mendedOf_39 rfl rfl (by omega) ?_
      refine g_iadd dX3_mendedOf_40 ?_
      refine g_istore_n dX3_mendedOf_41 (by decide) rfl ?_
      refine g_iinc (v := nI (k + 1)) dX3_mendedOf_42 rfl (nI_1 k) (by decide) rfl ?_
      refine g_goto (tgt := 10) dX3_mendedOf_45 (by decide) ?_
      exact ih
    · refine g_iload_n dX3_mendedOf_10 rfl ?_
      refine g_aload_n dX3_mendedOf_11 rfl ?_
      refine g_getR dX3_mendedOf_12 fX3_17 rfl rfl ?_
      refine g_V0 dX3_mendedOf_15 vX3_47 rfl (Nat.le_of_ble_eq_true rfl) (by decide) (Ev_r (r' := some (.int (nI w))) ev_X2_width (by rw [hw])) ?_
      refine g_icge (tgt := 48) dX3_mendedOf_18 (by decide) (fun c18 => ?_) (fun c18 => absurd (nI_le (Nat.le_refl _) (by omega)) c18)
      refine g_iload_n dX3_mendedOf_48 rfl ?_
      exact g_iret dX3_mendedOf_49 rfl ⟨by rw [if_neg e], rfl⟩
  · have e : n = 0 := (nI_eq (b := 0) (by omega) (by omega)).mp c1
    refine g_iconst (v := 1) dX3_mendedOf_4 (by decide) ?_
    exact g_iret dX3_mendedOf_5 rfl ⟨by rw [if_pos e], rfl⟩

set_option maxRecDepth 4000 in
theorem ev_X3_rightlyMendedOf {σ : r_Sg} {w : Nat} {col : Nat → Nat} {n : Nat} (hw : σ 1 3 + σ 1 4 = nI w) (hw20 : w ≤ 20) (hcol : ∀ b, b < w → σ 2 b = nI (col b) ∧ col b < 64) (hn : n ≤ 4) : Ev 2 MX3_rightlyMendedOf [.ref 17, .int (nI n)] σ (some (.int (if 1 < n then 0 else if n = 0 then 1 else r_sum (fun b => σ 18 (64 * n + col b)) w))) σ := by
  refine Ev_w [.ref 17, .int (nI n)] ?_ (by decide) rfl (Nat.le_of_ble_eq_true rfl) rfl
  refine g_iload_n dX3_rightlyMendedOf_0 rfl ?_
  refine g_iconst (v := nI 1) dX3_rightlyMendedOf_1 (by decide) ?_
  refine g_icle (tgt := 9) dX3_rightlyMendedOf_2 (by decide) (fun c2 => ?_) (fun c2 => ?_)
  · have e : ¬ 1 < n := by have := (nI_leI (by omega) (by omega)).mp c2; omega
    refine g_aload_n dX3_rightlyMendedOf_9 rfl ?_
    refine g_iload_n dX3_rightlyMendedOf_10 rfl ?_
    refine g_V1 dX3_rightlyMendedOf_11 vX3_38 rfl (Nat.le_of_ble_eq_true rfl) (by decide) (ev_X3_mendedOf hw hw20 hcol hn) ?_
    exact g_iret dX3_rightlyMendedOf_14 rfl ⟨by first | rw [if_pos e] | rw [if_neg e], rfl⟩
  · have e : 1 < n := by rcases Nat.lt_or_ge 1 n with z | z; exact z; exact absurd (nI_le z (by omega)) c2
    refine g_iconst (v := 0) dX3_rightlyMendedOf_5 (by decide) ?_
    refine g_goto (tgt := 14) dX3_rightlyMendedOf_6 (by decide) ?_
    exact g_iret dX3_rightlyMendedOf_14 rfl ⟨by first | rw [if_pos e] | rw [if_neg e], rfl⟩

/-- what countOf answers of the table -/
def f_a (σ : r_Sg) (w : Nat) (col : Nat → Nat) (n what : Nat) : Int32 :=
  if what = 0 then r_sum (fun s => σ 18 (64 * n + s)) 64 else if what = 1 then (if n = 0 then 0 else σ 18 (64 * n)) else if what = 2 then (if 1 < n then 0 else if n = 0 then 1 else r_sum (fun b => σ 18 (64 * n + col b)) w) else if what = 3 then (if n = 0 then 1 else r_sum (fun b => σ 18 (64 * n + col b)) w) - (if 1 < n then 0 else if n = 0 then 1 else r_sum (fun b => σ 18 (64 * n + col b)) w) else r_sum (fun s => σ 18 (64 * n + s)) 64 - (if n = 0 then 0 else σ 18 (64 * n)) - (if n = 0 then 1 else r_sum (fun b => σ 18 (64 * n + col b)) w)

set_option maxRecDepth 4000 in
theorem ev_X3_countOf_d0 {σ : r_Sg} {w : Nat} {col : Nat → Nat} {n : Nat} (hw : σ 1 3 + σ 1 4 = nI w) (hw20 : w ≤ 20) (hcol : ∀ b, b < w → σ 2 b = nI (col b) ∧ col b < 64) (hn : n ≤ 4) (hc : ¬ σ 17 2 = 0) : Ev 3 MX3_countOf [.ref 17, .int (nI n), .int 0] σ (some (.int (f_a σ w col n 0))) σ := by
  refine Ev_w [.ref 17, .int (nI n), .int 0] ?_ (by decide) rfl (Nat.le_of_ble_eq_true rfl) rfl
  refine g_aload_n dX3_countOf_0 rfl ?_
  refine g_getI dX3_countOf_1 fX3_21 rfl rfl ?_
  refine g_ifne (tgt := 16) dX3_countOf_4 (by decide) (fun c4 => ?_) (fun c4 => absurd c4 hc)
  refine g_iload_n dX3_countOf_16 rfl ?_
  refine g_tabIn (tgt := 48) dX3_countOf_17 (by decide) (by decide) (show _ = some 31 from rfl) (by decide) ?_
  refine g_aload_n dX3_countOf_48 rfl ?_
  refine g_iload_n dX3_countOf_49 rfl ?_
  refine g_V1 dX3_countOf_50 vX3_28 rfl (Nat.le_of_ble_eq_true rfl) (by decide) (ev_X3_allOf hn) ?_
  exact g_iret dX3_countOf_53 rfl ⟨rfl, rfl⟩

set_option maxRecDepth 4000 in
theorem ev_X3_countOf_c0 {σ : r_Sg} {w : Nat} {col : Nat → Nat} {n : Nat} (hw : σ 1 3 + σ 1 4 = nI w) (hw20 : w ≤ 20) (hcol : ∀ b, b < w → σ 2 b = nI (col b) ∧ col b < 64) (hn : n ≤ 4) (hc : σ 17 2 = 0) : Ev 3 MX3_countOf [.ref 17, .int (nI n), .int 0] σ (some (.int (f_a (r_up (f_b σ col w) 17 2 1) w col n 0))) (r_up (f_b σ col w) 17 2 1) := by
  have hw2 : (r_up (f_b σ col w) 17 2 1) 1 3 + (r_up (f_b σ col w) 17 2 1) 1 4 = nI w := by rw [r_up_ne _ _ _ (by decide), f_b_o σ col (by decide)]; exact hw
  have hcol2 : ∀ b, b < w → (r_up (f_b σ col w) 17 2 1) 2 b = nI (col b) ∧ col b < 64 := by intro b hb; rw [r_up_ne _ _ _ (by decide), f_b_o σ col (by decide)]; exact hcol b hb
  refine Ev_w [.ref 17, .int (nI n), .int 0] ?_ (by decide) rfl (Nat.le_of_ble_eq_true rfl) rfl
  refine g_aload_n dX3_countOf_0 rfl ?_
  refine g_getI dX3_countOf_1 fX3_21 rfl rfl ?_
  refine g_ifne (tgt := 16) dX3_countOf_4 (by decide) (fun c4 => absurd hc c4) (fun c4 => ?_)
  refine g_aload_n dX3_countOf_7 rfl ?_
  refine g_V0v dX3_countOf_8 vX3_25 rfl (Nat.le_of_ble_eq_true rfl) (by decide) (ev_X3_countAll hw hw20 hcol) ?_
  refine g_aload_n dX3_countOf_11 rfl ?_
  refine g_iconst (v := 1) dX3_countOf_12 (by decide) ?_
  refine g_putZ dX3_countOf_13 pX3_21 rfl rfl (by decide) ?_
  refine g_iload_n dX3_countOf_16 rfl ?_
  refine g_tabIn (tgt := 48) dX3_countOf_17 (by decide) (by decide) (show _ = some 31 from rfl) (by decide) ?_
  refine g_aload_n dX3_countOf_48 rfl ?_
  refine g_iload_n dX3_countOf_49 rfl ?_
  refine g_V1 dX3_countOf_50 vX3_28 rfl (Nat.le_of_ble_eq_true rfl) (by decide) (ev_X3_allOf hn) ?_
  exact g_iret dX3_countOf_53 rfl ⟨rfl, rfl⟩

set_option maxRecDepth 4000 in
theorem ev_X3_countOf_d1 {σ : r_Sg} {w : Nat} {col : Nat → Nat} {n : Nat} (hw : σ 1 3 + σ 1 4 = nI w) (hw20 : w ≤ 20) (hcol : ∀ b, b < w → σ 2 b = nI (col b) ∧ col b < 64) (hn : n ≤ 4) (hc : ¬ σ 17 2 = 0) : Ev 3 MX3_countOf [.ref 17, .int (nI n), .int 1] σ (some (.int (f_a σ w col n 1))) σ := by
  refine Ev_w [.ref 17, .int (nI n), .int 1] ?_ (by decide) rfl (Nat.le_of_ble_eq_true rfl) rfl
  refine g_aload_n dX3_countOf_0 rfl ?_
  refine g_getI dX3_countOf_1 fX3_21 rfl rfl ?_
  refine g_ifne (tgt := 16) dX3_countOf_4 (by decide) (fun c4 => ?_) (fun c4 => absurd c4 hc)
  refine g_iload_n dX3_countOf_16 rfl ?_
  refine g_tabIn (tgt := 54) dX3_countOf_17 (by decide) (by decide) (show _ = some 37 from rfl) (by decide) ?_
  refine g_aload_n dX3_countOf_54 rfl ?_
  refine g_iload_n dX3_countOf_55 rfl ?_
  refine g_V1 dX3_countOf_56 vX3_32 rfl (Nat.le_of_ble_eq_true rfl) (by decide) (ev_X3_missedOf hn) ?_
  exact g_iret dX3_countOf_59 rfl ⟨rfl, rfl⟩

set_option maxRecDepth 4000 in
theorem ev_X3_countOf_c1 {σ : r_Sg} {w : Nat} {col : Nat → Nat} {n : Nat} (hw : σ 1 3 + σ 1 4 = nI w) (hw20 : w ≤ 20) (hcol : ∀ b, b < w → σ 2 b = nI (col b) ∧ col b < 64) (hn : n ≤ 4) (hc : σ 17 2 = 0) : Ev 3 MX3_countOf [.ref 17, .int (nI n), .int 1] σ (some (.int (f_a (r_up (f_b σ col w) 17 2 1) w col n 1))) (r_up (f_b σ col w) 17 2 1) := by
  have hw2 : (r_up (f_b σ col w) 17 2 1) 1 3 + (r_up (f_b σ col w) 17 2 1) 1 4 = nI w := by rw [r_up_ne _ _ _ (by decide), f_b_o σ col (by decide)]; exact hw
  have hcol2 : ∀ b, b < w → (r_up (f_b σ col w) 17 2 1) 2 b = nI (col b) ∧ col b < 64 := by intro b hb; rw [r_up_ne _ _ _ (by decide), f_b_o σ col (by decide)]; exact hcol b hb
  refine Ev_w [.ref 17, .int (nI n), .int 1] ?_ (by decide) rfl (Nat.le_of_ble_eq_true rfl) rfl
  refine g_aload_n dX3_countOf_0 rfl ?_
  refine g_getI dX3_countOf_1 fX3_21 rfl rfl ?_
  refine g_ifne (tgt := 16) dX3_countOf_4 (by decide) (fun c4 => absurd hc c4) (fun c4 => ?_)
  refine g_aload_n dX3_countOf_7 rfl ?_
  refine g_V0v dX3_countOf_8 vX3_25 rfl (Nat.le_of_ble_eq_true rfl) (by decide) (ev_X3_countAll hw hw20 hcol) ?_
  refine g_aload_n dX3_countOf_11 rfl ?_
  refine g_iconst (v := 1) dX3_countOf_12 (by decide) ?_
  refine g_putZ dX3_countOf_13 pX3_21 rfl rfl (by decide) ?_
  refine g_iload_n dX3_countOf_16 rfl ?_
  refine g_tabIn (tgt := 54) dX3_countOf_17 (by decide) (by decide) (show _ = some 37 from rfl) (by decide) ?_
  refine g_aload_n dX3_countOf_54 rfl ?_
  refine g_iload_n dX3_countOf_55 rfl ?_
  refine g_V1 dX3_countOf_56 vX3_32 rfl (Nat.le_of_ble_eq_true rfl) (by decide) (ev_X3_missedOf hn) ?_
  exact g_iret dX3_countOf_59 rfl ⟨rfl, rfl⟩

set_option maxRecDepth 4000 in
theorem ev_X3_countOf_d2 {σ : r_Sg} {w : Nat} {col : Nat → Nat} {n : Nat} (hw : σ 1 3 + σ 1 4 = nI w) (hw20 : w ≤ 20) (hcol : ∀ b, b < w → σ 2 b = nI (col b) ∧ col b < 64) (hn : n ≤ 4) (hc : ¬ σ 17 2 = 0) : Ev 3 MX3_countOf [.ref 17, .int (nI n), .int 2] σ (some (.int (f_a σ w col n 2))) σ := by
  refine Ev_w [.ref 17, .int (nI n), .int 2] ?_ (by decide) rfl (Nat.le_of_ble_eq_true rfl) rfl
  refine g_aload_n dX3_countOf_0 rfl ?_
  refine g_getI dX3_countOf_1 fX3_21 rfl rfl ?_
  refine g_ifne (tgt := 16) dX3_countOf_4 (by decide) (fun c4 => ?_) (fun c4 => absurd c4 hc)
  refine g_iload_n dX3_countOf_16 rfl ?_
  refine g_tabIn (tgt := 60) dX3_countOf_17 (by decide) (by decide) (show _ = some 43 from rfl) (by decide) ?_
  refine g_aload_n dX3_countOf_60 rfl ?_
  refine g_iload_n dX3_countOf_61 rfl ?_
  refine g_V1 dX3_countOf_62 vX3_35 rfl (Nat.le_of_ble_eq_true rfl) (by decide) (ev_X3_rightlyMendedOf hw hw20 hcol hn) ?_
  exact g_iret dX3_countOf_65 rfl ⟨rfl, rfl⟩

set_option maxRecDepth 4000 in
theorem ev_X3_countOf_c2 {σ : r_Sg} {w : Nat} {col : Nat → Nat} {n : Nat} (hw : σ 1 3 + σ 1 4 = nI w) (hw20 : w ≤ 20) (hcol : ∀ b, b < w → σ 2 b = nI (col b) ∧ col b < 64) (hn : n ≤ 4) (hc : σ 17 2 = 0) : Ev 3 MX3_countOf [.ref 17, .int (nI n), .int 2] σ (some (.int (f_a (r_up (f_b σ col w) 17 2 1) w col n 2))) (r_up (f_b σ col w) 17 2 1) := by
  have hw2 : (r_up (f_b σ col w) 17 2 1) 1 3 + (r_up (f_b σ col w) 17 2 1) 1 4 = nI w := by rw [r_up_ne _ _ _ (by decide), f_b_o σ col (by decide)]; exact hw
  have hcol2 : ∀ b, b < w → (r_up (f_b σ col w) 17 2 1) 2 b = nI (col b) ∧ col b < 64 := by intro b hb; rw [r_up_ne _ _ _ (by decide), f_b_o σ col (by decide)]; exact hcol b hb
  refine Ev_w [.ref 17, .int (nI n), .int 2] ?_ (by decide) rfl (Nat.le_of_ble_eq_true rfl) rfl
  refine g_aload_n dX3_countOf_0 rfl ?_
  refine g_getI dX3_countOf_1 fX3_21 rfl rfl ?_
  refine g_ifne (tgt := 16) dX3_countOf_4 (by decide) (fun c4 => absurd hc c4) (fun c4 => ?_)
  refine g_aload_n dX3_countOf_7 rfl ?_
  refine g_V0v dX3_countOf_8 vX3_25 rfl (Nat.le_of_ble_eq_true rfl) (by decide) (ev_X3_countAll hw hw20 hcol) ?_
  refine g_aload_n dX3_countOf_11 rfl ?_
  refine g_iconst (v := 1) dX3_countOf_12 (by decide) ?_
  refine g_putZ dX3_countOf_13 pX3_21 rfl rfl (by decide) ?_
  refine g_iload_n dX3_countOf_16 rfl ?_
  refine g_tabIn (tgt := 60) dX3_countOf_17 (by decide) (by decide) (show _ = some 43 from rfl) (by decide) ?_
  refine g_aload_n dX3_countOf_60 rfl ?_
  refine g_iload_n dX3_countOf_61 rfl ?_
  refine g_V1 dX3_countOf_62 vX3_35 rfl (Nat.le_of_ble_eq_true rfl) (by decide) (ev_X3_rightlyMendedOf hw2 hw20 hcol2 hn) ?_
  exact g_iret dX3_countOf_65 rfl ⟨rfl, rfl⟩

set_option maxRecDepth 4000 in
theorem ev_X3_countOf_d3 {σ : r_Sg} {w : Nat} {col : Nat → Nat} {n : Nat} (hw : σ 1 3 + σ 1 4 = nI w) (hw20 : w ≤ 20) (hcol : ∀ b, b < w → σ 2 b = nI (col b) ∧ col b < 64) (hn : n ≤ 4) (hc : ¬ σ 17 2 = 0) : Ev 3 MX3_countOf [.ref 17, .int (nI n), .int 3] σ (some (.int (f_a σ w col n 3))) σ := by
  refine Ev_w [.ref 17, .int (nI n), .int 3] ?_ (by decide) rfl (Nat.le_of_ble_eq_true rfl) rfl
  refine g_aload_n dX3_countOf_0 rfl ?_
  refine g_getI dX3_countOf_1 fX3_21 rfl rfl ?_
  refine g_ifne (tgt := 16) dX3_countOf_4 (by decide) (fun c4 => ?_) (fun c4 => absurd c4 hc)
  refine g_iload_n dX3_countOf_16 rfl ?_
  refine g_tabIn (tgt := 66) dX3_countOf_17 (by decide) (by decide) (show _ = some 49 from rfl) (by decide) ?_
  refine g_aload_n dX3_countOf_66 rfl ?_
  refine g_iload_n dX3_countOf_67 rfl ?_
  refine g_V1 dX3_countOf_68 vX3_38 rfl (Nat.le_of_ble_eq_true rfl) (by decide) (ev_X3_mendedOf hw hw20 hcol hn) ?_
  refine g_aload_n dX3_countOf_71 rfl ?_
  refine g_iload_n dX3_countOf_72 rfl ?_
  refine g_V1 dX3_countOf_73 vX3_35 rfl (Nat.le_of_ble_eq_true rfl) (by decide) (ev_X3_rightlyMendedOf hw hw20 hcol hn) ?_
  refine g_isub dX3_countOf_76 ?_
  exact g_iret dX3_countOf_77 rfl ⟨rfl, rfl⟩

set_option maxRecDepth 4000 in
theorem ev_X3_countOf_c3 {σ : r_Sg} {w : Nat} {col : Nat → Nat} {n : Nat} (hw : σ 1 3 + σ 1 4 = nI w) (hw20 : w ≤ 20) (hcol : ∀ b, b < w → σ 2 b = nI (col b) ∧ col b < 64) (hn : n ≤ 4) (hc : σ 17 2 = 0) : Ev 3 MX3_countOf [.ref 17, .int (nI n), .int 3] σ (some (.int (f_a (r_up (f_b σ col w) 17 2 1) w col n 3))) (r_up (f_b σ col w) 17 2 1) := by
  have hw2 : (r_up (f_b σ col w) 17 2 1) 1 3 + (r_up (f_b σ col w) 17 2 1) 1 4 = nI w := by rw [r_up_ne _ _ _ (by decide), f_b_o σ col (by decide)]; exact hw
  have hcol2 : ∀ b, b < w → (r_up (f_b σ col w) 17 2 1) 2 b = nI (col b) ∧ col b < 64 := by intro b hb; rw [r_up_ne _ _ _ (by decide), f_b_o σ col (by decide)]; exact hcol b hb
  refine Ev_w [.ref 17, .int (nI n), .int 3] ?_ (by decide) rfl (Nat.le_of_ble_eq_true rfl) rfl
  refine g_aload_n dX3_countOf_0 rfl ?_
  refine g_getI dX3_countOf_1 fX3_21 rfl rfl ?_
  refine g_ifne (tgt := 16) dX3_countOf_4 (by decide) (fun c4 => absurd hc c4) (fun c4 => ?_)
  refine g_aload_n dX3_countOf_7 rfl ?_
  refine g_V0v dX3_countOf_8 vX3_25 rfl (Nat.le_of_ble_eq_true rfl) (by decide) (ev_X3_countAll hw hw20 hcol) ?_
  refine g_aload_n dX3_countOf_11 rfl ?_
  refine g_iconst (v := 1) dX3_countOf_12 (by decide) ?_
  refine g_putZ dX3_countOf_13 pX3_21 rfl rfl (by decide) ?_
  refine g_iload_n dX3_countOf_16 rfl ?_
  refine g_tabIn (tgt := 66) dX3_countOf_17 (by decide) (by decide) (show _ = some 49 from rfl) (by decide) ?_
  refine g_aload_n dX3_countOf_66 rfl ?_
  refine g_iload_n dX3_countOf_67 rfl ?_
  refine g_V1 dX3_countOf_68 vX3_38 rfl (Nat.le_of_ble_eq_true rfl) (by decide) (ev_X3_mendedOf hw2 hw20 hcol2 hn) ?_
  refine g_aload_n dX3_countOf_71 rfl ?_
  refine g_iload_n dX3_countOf_72 rfl ?_
  refine g_V1 dX3_countOf_73 vX3_35 rfl (Nat.le_of_ble_eq_true rfl) (by decide) (ev_X3_rightlyMendedOf hw2 hw20 hcol2 hn) ?_
  refine g_isub dX3_countOf_76 ?_
  exact g_iret dX3_countOf_77 rfl ⟨rfl, rfl⟩

set_option maxRecDepth 4000 in
theorem ev_X3_countOf_d4 {σ : r_Sg} {w : Nat} {col : Nat → Nat} {n : Nat} (hw : σ 1 3 + σ 1 4 = nI w) (hw20 : w ≤ 20) (hcol : ∀ b, b < w → σ 2 b = nI (col b) ∧ col b < 64) (hn : n ≤ 4) (hc : ¬ σ 17 2 = 0) : Ev 3 MX3_countOf [.ref 17, .int (nI n), .int 4] σ (some (.int (f_a σ w col n 4))) σ := by
  refine Ev_w [.ref 17, .int (nI n), .int 4] ?_ (by decide) rfl (Nat.le_of_ble_eq_true rfl) rfl
  refine g_aload_n dX3_countOf_0 rfl ?_
  refine g_getI dX3_countOf_1 fX3_21 rfl rfl ?_
  refine g_ifne (tgt := 16) dX3_countOf_4 (by decide) (fun c4 => ?_) (fun c4 => absurd c4 hc)
  refine g_iload_n dX3_countOf_16 rfl ?_
  refine g_tabOut (tgt := 78) dX3_countOf_17 (by decide) (by decide) ?_
  refine g_aload_n dX3_countOf_78 rfl ?_
  refine g_iload_n dX3_countOf_79 rfl ?_
  refine g_V1 dX3_countOf_80 vX3_28 rfl (Nat.le_of_ble_eq_true rfl) (by decide) (ev_X3_allOf hn) ?_
  refine g_aload_n dX3_countOf_83 rfl ?_
  refine g_iload_n dX3_countOf_84 rfl ?_
  refine g_V1 dX3_countOf_85 vX3_32 rfl (Nat.le_of_ble_eq_true rfl) (by decide) (ev_X3_missedOf hn) ?_
  refine g_isub dX3_countOf_88 ?_
  refine g_aload_n dX3_countOf_89 rfl ?_
  refine g_iload_n dX3_countOf_90 rfl ?_
  refine g_V1 dX3_countOf_91 vX3_38 rfl (Nat.le_of_ble_eq_true rfl) (by decide) (ev_X3_mendedOf hw hw20 hcol hn) ?_
  refine g_isub dX3_countOf_94 ?_
  exact g_iret dX3_countOf_95 rfl ⟨rfl, rfl⟩

set_option maxRecDepth 4000 in
theorem ev_X3_countOf_c4 {σ : r_Sg} {w : Nat} {col : Nat → Nat} {n : Nat} (hw : σ 1 3 + σ 1 4 = nI w) (hw20 : w ≤ 20) (hcol : ∀ b, b < w → σ 2 b = nI (col b) ∧ col b < 64) (hn : n ≤ 4) (hc : σ 17 2 = 0) : Ev 3 MX3_countOf [.ref 17, .int (nI n), .int 4] σ (some (.int (f_a (r_up (f_b σ col w) 17 2 1) w col n 4))) (r_up (f_b σ col w) 17 2 1) := by
  have hw2 : (r_up (f_b σ col w) 17 2 1) 1 3 + (r_up (f_b σ col w) 17 2 1) 1 4 = nI w := by rw [r_up_ne _ _ _ (by decide), f_b_o σ col (by decide)]; exact hw
  have hcol2 : ∀ b, b < w → (r_up (f_b σ col w) 17 2 1) 2 b = nI (col b) ∧ col b < 64 := by intro b hb; rw [r_up_ne _ _ _ (by decide), f_b_o σ col (by decide)]; exact hcol b hb
  refine Ev_w [.ref 17, .int (nI n), .int 4] ?_ (by decide) rfl (Nat.le_of_ble_eq_true rfl) rfl
  refine g_aload_n dX3_countOf_0 rfl ?_
  refine g_getI dX3_countOf_1 fX3_21 rfl rfl ?_
  refine g_ifne (tgt := 16) dX3_countOf_4 (by decide) (fun c4 => absurd hc c4) (fun c4 => ?_)
  refine g_aload_n dX3_countOf_7 rfl ?_
  refine g_V0v dX3_countOf_8 vX3_25 rfl (Nat.le_of_ble_eq_true rfl) (by decide) (ev_X3_countAll hw hw20 hcol) ?_
  refine g_aload_n dX3_countOf_11 rfl ?_
  refine g_iconst (v := 1) dX3_countOf_12 (by decide) ?_
  refine g_putZ dX3_countOf_13 pX3_21 rfl rfl (by decide) ?_
  refine g_iload_n dX3_countOf_16 rfl ?_
  refine g_tabOut (tgt := 78) dX3_countOf_17 (by decide) (by decide) ?_
  refine g_aload_n dX3_countOf_78 rfl ?_
  refine g_iload_n dX3_countOf_79 rfl ?_
  refine g_V1 dX3_countOf_80 vX3_28 rfl (Nat.le_of_ble_eq_true rfl) (by decide) (ev_X3_allOf hn) ?_
  refine g_aload_n dX3_countOf_83 rfl ?_
  refine g_iload_n dX3_countOf_84 rfl ?_
  refine g_V1 dX3_countOf_85 vX3_32 rfl (Nat.le_of_ble_eq_true rfl) (by decide) (ev_X3_missedOf hn) ?_
  refine g_isub dX3_countOf_88 ?_
  refine g_aload_n dX3_countOf_89 rfl ?_
  refine g_iload_n dX3_countOf_90 rfl ?_
  refine g_V1 dX3_countOf_91 vX3_38 rfl (Nat.le_of_ble_eq_true rfl) (by decide) (ev_X3_mendedOf hw2 hw20 hcol2 hn) ?_
  refine g_isub dX3_countOf_94 ?_
  exact g_iret dX3_countOf_95 rfl ⟨rfl, rfl⟩

set_option maxRecDepth 4000 in
theorem ev_X5_patterns_o {σ : r_Sg} {n q : Int32} (hg : ¬ ((0 ≤ n ∧ n ≤ 4) ∧ 0 ≤ q ∧ q ≤ 4)) : Ev 5 MX5_patterns [.ref 0, .int n, .int q] σ (some (.int (-2))) σ := by
  refine Ev_w [.ref 0, .int n, .int q] ?_ (by decide) rfl (Nat.le_of_ble_eq_true rfl) rfl
  refine g_iload_n dX5_patterns_0 rfl ?_
  refine g_iflt (tgt := 18) dX5_patterns_1 (by decide) (fun c1 => ?_) (fun c1 => ?_)
  · refine g_bipush (v := (-2)) dX5_patterns_18 (by decide) ?_
    exact g_iret dX5_patterns_20 rfl ⟨rfl, rfl⟩
  · refine g_iload_n dX5_patterns_4 rfl ?_
    refine g_iconst (v := 4) dX5_patterns_5 (by decide) ?_
    refine g_icgt (tgt := 18) dX5_patterns_6 (by decide) (fun c6 => ?_) (fun c6 => ?_)
    · refine g_bipush (v := (-2)) dX5_patterns_18 (by decide) ?_
      exact g_iret dX5_patterns_20 rfl ⟨rfl, rfl⟩
    · refine g_iload_n dX5_patterns_9 rfl ?_
      refine g_iflt (tgt := 18) dX5_patterns_10 (by decide) (fun c10 => ?_) (fun c10 => ?_)
      · refine g_bipush (v := (-2)) dX5_patterns_18 (by decide) ?_
        exact g_iret dX5_patterns_20 rfl ⟨rfl, rfl⟩
      · refine g_iload_n dX5_patterns_13 rfl ?_
        refine g_iconst (v := 4) dX5_patterns_14 (by decide) ?_
        refine g_icle (tgt := 21) dX5_patterns_15 (by decide) (fun c15 => absurd c15 (fun z => hg ⟨⟨Int32.not_lt.mp c1, Int32.not_lt.mp c6⟩, Int32.not_lt.mp c10, z⟩)) (fun c15 => ?_)
        refine g_bipush (v := (-2)) dX5_patterns_18 (by decide) ?_
        exact g_iret dX5_patterns_20 rfl ⟨rfl, rfl⟩

set_option maxRecDepth 4000 in
theorem ev_X5_patterns_s {σ : r_Sg} {n q : Int32} (hg : ((0 ≤ n ∧ n ≤ 4) ∧ 0 ≤ q ∧ q ≤ 4)) (hst : ¬ 0 < σ 1 4) : Ev 5 MX5_patterns [.ref 0, .int n, .int q] σ (some (.int (-3))) σ := by
  refine Ev_w [.ref 0, .int n, .int q] ?_ (by decide) rfl (Nat.le_of_ble_eq_true rfl) rfl
  refine g_iload_n dX5_patterns_0 rfl ?_
  refine g_iflt (tgt := 18) dX5_patterns_1 (by decide) (fun c1 => absurd c1 (Int32.not_lt.mpr hg.1.1)) (fun c1 => ?_)
  refine g_iload_n dX5_patterns_4 rfl ?_
  refine g_iconst (v := 4) dX5_patterns_5 (by decide) ?_
  refine g_icgt (tgt := 18) dX5_patterns_6 (by decide) (fun c6 => absurd c6 (Int32.not_lt.mpr hg.1.2)) (fun c6 => ?_)
  refine g_iload_n dX5_patterns_9 rfl ?_
  refine g_iflt (tgt := 18) dX5_patterns_10 (by decide) (fun c10 => absurd c10 (Int32.not_lt.mpr hg.2.1)) (fun c10 => ?_)
  refine g_iload_n dX5_patterns_13 rfl ?_
  refine g_iconst (v := 4) dX5_patterns_14 (by decide) ?_
  refine g_icle (tgt := 21) dX5_patterns_15 (by decide) (fun c15 => ?_) (fun c15 => absurd hg.2.2 c15)
  refine g_aload_n dX5_patterns_21 rfl ?_
  refine g_getR dX5_patterns_22 fX5_12 rfl rfl ?_
  refine g_V0 dX5_patterns_25 vX5_66 rfl (Nat.le_of_ble_eq_true rfl) (by decide) (ev_X2_stands) ?_
  refine g_ifeq (tgt := 43) dX5_patterns_28 (by decide) (fun c28 => ?_) (fun c28 => absurd (bI_0.mpr hst) c28)
  refine g_bipush (v := (-3)) dX5_patterns_43 (by decide) ?_
  exact g_iret dX5_patterns_45 rfl ⟨rfl, rfl⟩

set_option maxRecDepth 4000 in
theorem ev_X5_patterns_d0 {σ : r_Sg} {w : Nat} {col : Nat → Nat} {n : Nat} (hw : σ 1 3 + σ 1 4 = nI w) (hw20 : w ≤ 20) (hcol : ∀ b, b < w → σ 2 b = nI (col b) ∧ col b < 64) (hn : n ≤ 4) (hst : 0 < σ 1 4) (hc : ¬ σ 17 2 = 0) : Ev 5 MX5_patterns [.ref 0, .int (nI n), .int 0] σ (some (.int (f_a σ w col n 0))) σ := by
  refine Ev_w [.ref 0, .int (nI n), .int 0] ?_ (by decide) rfl (Nat.le_of_ble_eq_true rfl) rfl
  refine g_iload_n dX5_patterns_0 rfl ?_
  refine g_iflt (tgt := 18) dX5_patterns_1 (by decide) (fun c1 => absurd c1 (nI_pos (by omega))) (fun c1 => ?_)
  refine g_iload_n dX5_patterns_4 rfl ?_
  refine g_iconst (v := 4) dX5_patterns_5 (by decide) ?_
  refine g_icgt (tgt := 18) dX5_patterns_6 (by decide) (fun c6 => absurd c6 (Int32.not_lt.mpr (nI_le (b := 4) hn (by omega)))) (fun c6 => ?_)
  refine g_iload_n dX5_patterns_9 rfl ?_
  refine g_iflt (tgt := 18) dX5_patterns_10 (by decide) (fun c10 => absurd c10 (by decide)) (fun c10 => ?_)
  refine g_iload_n dX5_patterns_13 rfl ?_
  refine g_iconst (v := 4) dX5_patterns_14 (by decide) ?_
  refine g_icle (tgt := 21) dX5_patterns_15 (by decide) (fun c15 => ?_) (fun c15 => absurd (by decide) c15)
  refine g_aload_n dX5_patterns_21 rfl ?_
  refine g_getR dX5_patterns_22 fX5_12 rfl rfl ?_
  refine g_V0 dX5_patterns_25 vX5_66 rfl (Nat.le_of_ble_eq_true rfl) (by decide) (ev_X2_stands) ?_
  refine g_ifeq (tgt := 43) dX5_patterns_28 (by decide) (fun c28 => absurd c28 (bI_1.mpr hst)) (fun c28 => ?_)
  refine g_aload_n dX5_patterns_31 rfl ?_
  refine g_getR dX5_patterns_32 fX5_30 rfl rfl ?_
  refine g_iload_n dX5_patterns_35 rfl ?_
  refine g_iload_n dX5_patterns_36 rfl ?_
  refine g_V2 dX5_patterns_37 vX5_155 rfl (Nat.le_of_ble_eq_true rfl) (by decide) (ev_X3_countOf_d0 hw hw20 hcol hn hc) ?_
  refine g_goto (tgt := 45) dX5_patterns_40 (by decide) ?_
  exact g_iret dX5_patterns_45 rfl ⟨rfl, rfl⟩

set_option maxRecDepth 4000 in
theorem ev_X5_patterns_c0 {σ : r_Sg} {w : Nat} {col : Nat → Nat} {n : Nat} (hw : σ 1 3 + σ 1 4 = nI w) (hw20 : w ≤ 20) (hcol : ∀ b, b < w → σ 2 b = nI (col b) ∧ col b < 64) (hn : n ≤ 4) (hst : 0 < σ 1 4) (hc : σ 17 2 = 0) : Ev 5 MX5_patterns [.ref 0, .int (nI n), .int 0] σ (some (.int (f_a (r_up (f_b σ col w) 17 2 1) w col n 0))) (r_up (f_b σ col w) 17 2 1) := by
  refine Ev_w [.ref 0, .int (nI n), .int 0] ?_ (by decide) rfl (Nat.le_of_ble_eq_true rfl) rfl
  refine g_iload_n dX5_patterns_0 rfl ?_
  refine g_iflt (tgt := 18) dX5_patterns_1 (by decide) (fun c1 => absurd c1 (nI_pos (by omega))) (fun c1 => ?_)
  refine g_iload_n dX5_patterns_4 rfl ?_
  refine g_iconst (v := 4) dX5_patterns_5 (by decide) ?_
  refine g_icgt (tgt := 18) dX5_patterns_6 (by decide) (fun c6 => absurd c6 (Int32.not_lt.mpr (nI_le (b := 4) hn (by omega)))) (fun c6 => ?_)
  refine g_iload_n dX5_patterns_9 rfl ?_
  refine g_iflt (tgt := 18) dX5_patterns_10 (by decide) (fun c10 => absurd c10 (by decide)) (fun c10 => ?_)
  refine g_iload_n dX5_patterns_13 rfl ?_
  refine g_iconst (v := 4) dX5_patterns_14 (by decide) ?_
  refine g_icle (tgt := 21) dX5_patterns_15 (by decide) (fun c15 => ?_) (fun c15 => absurd (by decide) c15)
  refine g_aload_n dX5_patterns_21 rfl ?_
  refine g_getR dX5_patterns_22 fX5_12 rfl rfl ?_
  refine g_V0 dX5_patterns_25 vX5_66 rfl (Nat.le_of_ble_eq_true rfl) (by decide) (ev_X2_stands) ?_
  refine g_ifeq (tgt := 43) dX5_patterns_28 (by decide) (fun c28 => absurd c28 (bI_1.mpr hst)) (fun c28 => ?_)
  refine g_aload_n dX5_patterns_31 rfl ?_
  refine g_getR dX5_patterns_32 fX5_30 rfl rfl ?_
  refine g_iload_n dX5_patterns_35 rfl ?_
  refine g_iload_n dX5_patterns_36 rfl ?_
  refine g_V2 dX5_patterns_37 vX5_155 rfl (Nat.le_of_ble_eq_true rfl) (by decide) (ev_X3_countOf_c0 hw hw20 hcol hn hc) ?_
  refine g_goto (tgt := 45) dX5_patterns_40 (by decide) ?_
  exact g_iret dX5_patterns_45 rfl ⟨rfl, rfl⟩

set_option maxRecDepth 4000 in
theorem ev_X5_patterns_d1 {σ : r_Sg} {w : Nat} {col : Nat → Nat} {n : Nat} (hw : σ 1 3 + σ 1 4 = nI w) (hw20 : w ≤ 20) (hcol : ∀ b, b < w → σ 2 b = nI (col b) ∧ col b < 64) (hn : n ≤ 4) (hst : 0 < σ 1 4) (hc : ¬ σ 17 2 = 0) : Ev 5 MX5_patterns [.ref 0, .int (nI n), .int 1] σ (some (.int (f_a σ w col n 1))) σ := by
  refine Ev_w [.ref 0, .int (nI n), .int 1] ?_ (by decide) rfl (Nat.le_of_ble_eq_true rfl) rfl
  refine g_iload_n dX5_patterns_0 rfl ?_
  refine g_iflt (tgt := 18) dX5_patterns_1 (by decide) (fun c1 => absurd c1 (nI_pos (by omega))) (fun c1 => ?_)
  refine g_iload_n dX5_patterns_4 rfl ?_
  refine g_iconst (v := 4) dX5_patterns_5 (by decide) ?_
  refine g_icgt (tgt := 18) dX5_patterns_6 (by decide) (fun c6 => absurd c6 (Int32.not_lt.mpr (nI_le (b := 4) hn (by omega)))) (fun c6 => ?_)
  refine g_iload_n dX5_patterns_9 rfl ?_
  refine g_iflt (tgt := 18) dX5_patterns_10 (by decide) (fun c10 => absurd c10 (by decide)) (fun c10 => ?_)
  refine g_iload_n dX5_patterns_13 rfl ?_
  refine g_iconst (v := 4) dX5_patterns_14 (by decide) ?_
  refine g_icle (tgt := 21) dX5_patterns_15 (by decide) (fun c15 => ?_) (fun c15 => absurd (by decide) c15)
  refine g_aload_n dX5_patterns_21 rfl ?_
  refine g_getR dX5_patterns_22 fX5_12 rfl rfl ?_
  refine g_V0 dX5_patterns_25 vX5_66 rfl (Nat.le_of_ble_eq_true rfl) (by decide) (ev_X2_stands) ?_
  refine g_ifeq (tgt := 43) dX5_patterns_28 (by decide) (fun c28 => absurd c28 (bI_1.mpr hst)) (fun c28 => ?_)
  refine g_aload_n dX5_patterns_31 rfl ?_
  refine g_getR dX5_patterns_32 fX5_30 rfl rfl ?_
  refine g_iload_n dX5_patterns_35 rfl ?_
  refine g_iload_n dX5_patterns_36 rfl ?_
  refine g_V2 dX5_patterns_37 vX5_155 rfl (Nat.le_of_ble_eq_true rfl) (by decide) (ev_X3_countOf_d1 hw hw20 hcol hn hc) ?_
  refine g_goto (tgt := 45) dX5_patterns_40 (by decide) ?_
  exact g_iret dX5_patterns_45 rfl ⟨rfl, rfl⟩

set_option maxRecDepth 4000 in
theorem ev_X5_patterns_c1 {σ : r_Sg} {w : Nat} {col : Nat → Nat} {n : Nat} (hw : σ 1 3 + σ 1 4 = nI w) (hw20 : w ≤ 20) (hcol : ∀ b, b < w → σ 2 b = nI (col b) ∧ col b < 64) (hn : n ≤ 4) (hst : 0 < σ 1 4) (hc : σ 17 2 = 0) : Ev 5 MX5_patterns [.ref 0, .int (nI n), .int 1] σ (some (.int (f_a (r_up (f_b σ col w) 17 2 1) w col n 1))) (r_up (f_b σ col w) 17 2 1) := by
  refine Ev_w [.ref 0, .int (nI n), .int 1] ?_ (by decide) rfl (Nat.le_of_ble_eq_true rfl) rfl
  refine g_iload_n dX5_patterns_0 rfl ?_
  refine g_iflt (tgt := 18) dX5_patterns_1 (by decide) (fun c1 => absurd c1 (nI_pos (by omega))) (fun c1 => ?_)
  refine g_iload_n dX5_patterns_4 rfl ?_
  refine g_iconst (v := 4) dX5_patterns_5 (by decide) ?_
  refine g_icgt (tgt := 18) dX5_patterns_6 (by decide) (fun c6 => absurd c6 (Int32.not_lt.mpr (nI_le (b := 4) hn (by omega)))) (fun c6 => ?_)
  refine g_iload_n dX5_patterns_9 rfl ?_
  refine g_iflt (tgt := 18) dX5_patterns_10 (by decide) (fun c10 => absurd c10 (by decide)) (fun c10 => ?_)
  refine g_iload_n dX5_patterns_13 rfl ?_
  refine g_iconst (v := 4) dX5_patterns_14 (by decide) ?_
  refine g_icle (tgt := 21) dX5_patterns_15 (by decide) (fun c15 => ?_) (fun c15 => absurd (by decide) c15)
  refine g_aload_n dX5_patterns_21 rfl ?_
  refine g_getR dX5_patterns_22 fX5_12 rfl rfl ?_
  refine g_V0 dX5_patterns_25 vX5_66 rfl (Nat.le_of_ble_eq_true rfl) (by decide) (ev_X2_stands) ?_
  refine g_ifeq (tgt := 43) dX5_patterns_28 (by decide) (fun c28 => absurd c28 (bI_1.mpr hst)) (fun c28 => ?_)
  refine g_aload_n dX5_patterns_31 rfl ?_
  refine g_getR dX5_patterns_32 fX5_30 rfl rfl ?_
  refine g_iload_n dX5_patterns_35 rfl ?_
  refine g_iload_n dX5_patterns_36 rfl ?_
  refine g_V2 dX5_patterns_37 vX5_155 rfl (Nat.le_of_ble_eq_true rfl) (by decide) (ev_X3_countOf_c1 hw hw20 hcol hn hc) ?_
  refine g_goto (tgt := 45) dX5_patterns_40 (by decide) ?_
  exact g_iret dX5_patterns_45 rfl ⟨rfl, rfl⟩

set_option maxRecDepth 4000 in
theorem ev_X5_patterns_d2 {σ : r_Sg} {w : Nat} {col : Nat → Nat} {n : Nat} (hw : σ 1 3 + σ 1 4 = nI w) (hw20 : w ≤ 20) (hcol : ∀ b, b < w → σ 2 b = nI (col b) ∧ col b < 64) (hn : n ≤ 4) (hst : 0 < σ 1 4) (hc : ¬ σ 17 2 = 0) : Ev 5 MX5_patterns [.ref 0, .int (nI n), .int 2] σ (some (.int (f_a σ w col n 2))) σ := by
  refine Ev_w [.ref 0, .int (nI n), .int 2] ?_ (by decide) rfl (Nat.le_of_ble_eq_true rfl) rfl
  refine g_iload_n dX5_patterns_0 rfl ?_
  refine g_iflt (tgt := 18) dX5_patterns_1 (by decide) (fun c1 => absurd c1 (nI_pos (by omega))) (fun c1 => ?_)
  refine g_iload_n dX5_patterns_4 rfl ?_
  refine g_iconst (v := 4) dX5_patterns_5 (by decide) ?_
  refine g_icgt (tgt := 18) dX5_patterns_6 (by decide) (fun c6 => absurd c6 (Int32.not_lt.mpr (nI_le (b := 4) hn (by omega)))) (fun c6 => ?_)
  refine g_iload_n dX5_patterns_9 rfl ?_
  refine g_iflt (tgt := 18) dX5_patterns_10 (by decide) (fun c10 => absurd c10 (by decide)) (fun c10 => ?_)
  refine g_iload_n dX5_patterns_13 rfl ?_
  refine g_iconst (v := 4) dX5_patterns_14 (by decide) ?_
  refine g_icle (tgt := 21) dX5_patterns_15 (by decide) (fun c15 => ?_) (fun c15 => absurd (by decide) c15)
  refine g_aload_n dX5_patterns_21 rfl ?_
  refine g_getR dX5_patterns_22 fX5_12 rfl rfl ?_
  refine g_V0 dX5_patterns_25 vX5_66 rfl (Nat.le_of_ble_eq_true rfl) (by decide) (ev_X2_stands) ?_
  refine g_ifeq (tgt := 43) dX5_patterns_28 (by decide) (fun c28 => absurd c28 (bI_1.mpr hst)) (fun c28 => ?_)
  refine g_aload_n dX5_patterns_31 rfl ?_
  refine g_getR dX5_patterns_32 fX5_30 rfl rfl ?_
  refine g_iload_n dX5_patterns_35 rfl ?_
  refine g_iload_n dX5_patterns_36 rfl ?_
  refine g_V2 dX5_patterns_37 vX5_155 rfl (Nat.le_of_ble_eq_true rfl) (by decide) (ev_X3_countOf_d2 hw hw20 hcol hn hc) ?_
  refine g_goto (tgt := 45) dX5_patterns_40 (by decide) ?_
  exact g_iret dX5_patterns_45 rfl ⟨rfl, rfl⟩

set_option maxRecDepth 4000 in
theorem ev_X5_patterns_c2 {σ : r_Sg} {w : Nat} {col : Nat → Nat} {n : Nat} (hw : σ 1 3 + σ 1 4 = nI w) (hw20 : w ≤ 20) (hcol : ∀ b, b < w → σ 2 b = nI (col b) ∧ col b < 64) (hn : n ≤ 4) (hst : 0 < σ 1 4) (hc : σ 17 2 = 0) : Ev 5 MX5_patterns [.ref 0, .int (nI n), .int 2] σ (some (.int (f_a (r_up (f_b σ col w) 17 2 1) w col n 2))) (r_up (f_b σ col w) 17 2 1) := by
  refine Ev_w [.ref 0, .int (nI n), .int 2] ?_ (by decide) rfl (Nat.le_of_ble_eq_true rfl) rfl
  refine g_iload_n dX5_patterns_0 rfl ?_
  refine g_iflt (tgt := 18) dX5_patterns_1 (by decide) (fun c1 => absurd c1 (nI_pos (by omega))) (fun c1 => ?_)
  refine g_iload_n dX5_patterns_4 rfl ?_
  refine g_iconst (v := 4) dX5_patterns_5 (by decide) ?_
  refine g_icgt (tgt := 18) dX5_patterns_6 (by decide) (fun c6 => absurd c6 (Int32.not_lt.mpr (nI_le (b := 4) hn (by omega)))) (fun c6 => ?_)
  refine g_iload_n dX5_patterns_9 rfl ?_
  refine g_iflt (tgt := 18) dX5_patterns_10 (by decide) (fun c10 => absurd c10 (by decide)) (fun c10 => ?_)
  refine g_iload_n dX5_patterns_13 rfl ?_
  refine g_iconst (v := 4) dX5_patterns_14 (by decide) ?_
  refine g_icle (tgt := 21) dX5_patterns_15 (by decide) (fun c15 => ?_) (fun c15 => absurd (by decide) c15)
  refine g_aload_n dX5_patterns_21 rfl ?_
  refine g_getR dX5_patterns_22 fX5_12 rfl rfl ?_
  refine g_V0 dX5_patterns_25 vX5_66 rfl (Nat.le_of_ble_eq_true rfl) (by decide) (ev_X2_stands) ?_
  refine g_ifeq (tgt := 43) dX5_patterns_28 (by decide) (fun c28 => absurd c28 (bI_1.mpr hst)) (fun c28 => ?_)
  refine g_aload_n dX5_patterns_31 rfl ?_
  refine g_getR dX5_patterns_32 fX5_30 rfl rfl ?_
  refine g_iload_n dX5_patterns_35 rfl ?_
  refine g_iload_n dX5_patterns_36 rfl ?_
  refine g_V2 dX5_patterns_37 vX5_155 rfl (Nat.le_of_ble_eq_true rfl) (by decide) (ev_X3_countOf_c2 hw hw20 hcol hn hc) ?_
  refine g_goto (tgt := 45) dX5_patterns_40 (by decide) ?_
  exact g_iret dX5_patterns_45 rfl ⟨rfl, rfl⟩

set_option maxRecDepth 4000 in
theorem ev_X5_patterns_d3 {σ : r_Sg} {w : Nat} {col : Nat → Nat} {n : Nat} (hw : σ 1 3 + σ 1 4 = nI w) (hw20 : w ≤ 20) (hcol : ∀ b, b < w → σ 2 b = nI (col b) ∧ col b < 64) (hn : n ≤ 4) (hst : 0 < σ 1 4) (hc : ¬ σ 17 2 = 0) : Ev 5 MX5_patterns [.ref 0, .int (nI n), .int 3] σ (some (.int (f_a σ w col n 3))) σ := by
  refine Ev_w [.ref 0, .int (nI n), .int 3] ?_ (by decide) rfl (Nat.le_of_ble_eq_true rfl) rfl
  refine g_iload_n dX5_patterns_0 rfl ?_
  refine g_iflt (tgt := 18) dX5_patterns_1 (by decide) (fun c1 => absurd c1 (nI_pos (by omega))) (fun c1 => ?_)
  refine g_iload_n dX5_patterns_4 rfl ?_
  refine g_iconst (v := 4) dX5_patterns_5 (by decide) ?_
  refine g_icgt (tgt := 18) dX5_patterns_6 (by decide) (fun c6 => absurd c6 (Int32.not_lt.mpr (nI_le (b := 4) hn (by omega)))) (fun c6 => ?_)
  refine g_iload_n dX5_patterns_9 rfl ?_
  refine g_iflt (tgt := 18) dX5_patterns_10 (by decide) (fun c10 => absurd c10 (by decide)) (fun c10 => ?_)
  refine g_iload_n dX5_patterns_13 rfl ?_
  refine g_iconst (v := 4) dX5_patterns_14 (by decide) ?_
  refine g_icle (tgt := 21) dX5_patterns_15 (by decide) (fun c15 => ?_) (fun c15 => absurd (by decide) c15)
  refine g_aload_n dX5_patterns_21 rfl ?_
  refine g_getR dX5_patterns_22 fX5_12 rfl rfl ?_
  refine g_V0 dX5_patterns_25 vX5_66 rfl (Nat.le_of_ble_eq_true rfl) (by decide) (ev_X2_stands) ?_
  refine g_ifeq (tgt := 43) dX5_patterns_28 (by decide) (fun c28 => absurd c28 (bI_1.mpr hst)) (fun c28 => ?_)
  refine g_aload_n dX5_patterns_31 rfl ?_
  refine g_getR dX5_patterns_32 fX5_30 rfl rfl ?_
  refine g_iload_n dX5_patterns_35 rfl ?_
  refine g_iload_n dX5_patterns_36 rfl ?_
  refine g_V2 dX5_patterns_37 vX5_155 rfl (Nat.le_of_ble_eq_true rfl) (by decide) (ev_X3_countOf_d3 hw hw20 hcol hn hc) ?_
  refine g_goto (tgt := 45) dX5_patterns_40 (by decide) ?_
  exact g_iret dX5_patterns_45 rfl ⟨rfl, rfl⟩

set_option maxRecDepth 4000 in
theorem ev_X5_patterns_c3 {σ : r_Sg} {w : Nat} {col : Nat → Nat} {n : Nat} (hw : σ 1 3 + σ 1 4 = nI w) (hw20 : w ≤ 20) (hcol : ∀ b, b < w → σ 2 b = nI (col b) ∧ col b < 64) (hn : n ≤ 4) (hst : 0 < σ 1 4) (hc : σ 17 2 = 0) : Ev 5 MX5_patterns [.ref 0, .int (nI n), .int 3] σ (some (.int (f_a (r_up (f_b σ col w) 17 2 1) w col n 3))) (r_up (f_b σ col w) 17 2 1) := by
  refine Ev_w [.ref 0, .int (nI n), .int 3] ?_ (by decide) rfl (Nat.le_of_ble_eq_true rfl) rfl
  refine g_iload_n dX5_patterns_0 rfl ?_
  refine g_iflt (tgt := 18) dX5_patterns_1 (by decide) (fun c1 => absurd c1 (nI_pos (by omega))) (fun c1 => ?_)
  refine g_iload_n dX5_patterns_4 rfl ?_
  refine g_iconst (v := 4) dX5_patterns_5 (by decide) ?_
  refine g_icgt (tgt := 18) dX5_patterns_6 (by decide) (fun c6 => absurd c6 (Int32.not_lt.mpr (nI_le (b := 4) hn (by omega)))) (fun c6 => ?_)
  refine g_iload_n dX5_patterns_9 rfl ?_
  refine g_iflt (tgt := 18) dX5_patterns_10 (by decide) (fun c10 => absurd c10 (by decide)) (fun c10 => ?_)
  refine g_iload_n dX5_patterns_13 rfl ?_
  refine g_iconst (v := 4) dX5_patterns_14 (by decide) ?_
  refine g_icle (tgt := 21) dX5_patterns_15 (by decide) (fun c15 => ?_) (fun c15 => absurd (by decide) c15)
  refine g_aload_n dX5_patterns_21 rfl ?_
  refine g_getR dX5_patterns_22 fX5_12 rfl rfl ?_
  refine g_V0 dX5_patterns_25 vX5_66 rfl (Nat.le_of_ble_eq_true rfl) (by decide) (ev_X2_stands) ?_
  refine g_ifeq (tgt := 43) dX5_patterns_28 (by decide) (fun c28 => absurd c28 (bI_1.mpr hst)) (fun c28 => ?_)
  refine g_aload_n dX5_patterns_31 rfl ?_
  refine g_getR dX5_patterns_32 fX5_30 rfl rfl ?_
  refine g_iload_n dX5_patterns_35 rfl ?_
  refine g_iload_n dX5_patterns_36 rfl ?_
  refine g_V2 dX5_patterns_37 vX5_155 rfl (Nat.le_of_ble_eq_true rfl) (by decide) (ev_X3_countOf_c3 hw hw20 hcol hn hc) ?_
  refine g_goto (tgt := 45) dX5_patterns_40 (by decide) ?_
  exact g_iret dX5_patterns_45 rfl ⟨rfl, rfl⟩

set_option maxRecDepth 4000 in
theorem ev_X5_patterns_d4 {σ : r_Sg} {w : Nat} {col : Nat → Nat} {n : Nat} (hw : σ 1 3 + σ 1 4 = nI w) (hw20 : w ≤ 20) (hcol : ∀ b, b < w → σ 2 b = nI (col b) ∧ col b < 64) (hn : n ≤ 4) (hst : 0 < σ 1 4) (hc : ¬ σ 17 2 = 0) : Ev 5 MX5_patterns [.ref 0, .int (nI n), .int 4] σ (some (.int (f_a σ w col n 4))) σ := by
  refine Ev_w [.ref 0, .int (nI n), .int 4] ?_ (by decide) rfl (Nat.le_of_ble_eq_true rfl) rfl
  refine g_iload_n dX5_patterns_0 rfl ?_
  refine g_iflt (tgt := 18) dX5_patterns_1 (by decide) (fun c1 => absurd c1 (nI_pos (by omega))) (fun c1 => ?_)
  refine g_iload_n dX5_patterns_4 rfl ?_
  refine g_iconst (v := 4) dX5_patterns_5 (by decide) ?_
  refine g_icgt (tgt := 18) dX5_patterns_6 (by decide) (fun c6 => absurd c6 (Int32.not_lt.mpr (nI_le (b := 4) hn (by omega)))) (fun c6 => ?_)
  refine g_iload_n dX5_patterns_9 rfl ?_
  refine g_iflt (tgt := 18) dX5_patterns_10 (by decide) (fun c10 => absurd c10 (by decide)) (fun c10 => ?_)
  refine g_iload_n dX5_patterns_13 rfl ?_
  refine g_iconst (v := 4) dX5_patterns_14 (by decide) ?_
  refine g_icle (tgt := 21) dX5_patterns_15 (by decide) (fun c15 => ?_) (fun c15 => absurd (by decide) c15)
  refine g_aload_n dX5_patterns_21 rfl ?_
  refine g_getR dX5_patterns_22 fX5_12 rfl rfl ?_
  refine g_V0 dX5_patterns_25 vX5_66 rfl (Nat.le_of_ble_eq_true rfl) (by decide) (ev_X2_stands) ?_
  refine g_ifeq (tgt := 43) dX5_patterns_28 (by decide) (fun c28 => absurd c28 (bI_1.mpr hst)) (fun c28 => ?_)
  refine g_aload_n dX5_patterns_31 rfl ?_
  refine g_getR dX5_patterns_32 fX5_30 rfl rfl ?_
  refine g_iload_n dX5_patterns_35 rfl ?_
  refine g_iload_n dX5_patterns_36 rfl ?_
  refine g_V2 dX5_patterns_37 vX5_155 rfl (Nat.le_of_ble_eq_true rfl) (by decide) (ev_X3_countOf_d4 hw hw20 hcol hn hc) ?_
  refine g_goto (tgt := 45) dX5_patterns_40 (by decide) ?_
  exact g_iret dX5_patterns_45 rfl ⟨rfl, rfl⟩

set_option maxRecDepth 4000 in
theorem ev_X5_patterns_c4 {σ : r_Sg} {w : Nat} {col : Nat → Nat} {n : Nat} (hw : σ 1 3 + σ 1 4 = nI w) (hw20 : w ≤ 20) (hcol : ∀ b, b < w → σ 2 b = nI (col b) ∧ col b < 64) (hn : n ≤ 4) (hst : 0 < σ 1 4) (hc : σ 17 2 = 0) : Ev 5 MX5_patterns [.ref 0, .int (nI n), .int 4] σ (some (.int (f_a (r_up (f_b σ col w) 17 2 1) w col n 4))) (r_up (f_b σ col w) 17 2 1) := by
  refine Ev_w [.ref 0, .int (nI n), .int 4] ?_ (by decide) rfl (Nat.le_of_ble_eq_true rfl) rfl
  refine g_iload_n dX5_patterns_0 rfl ?_
  refine g_iflt (tgt := 18) dX5_patterns_1 (by decide) (fun c1 => absurd c1 (nI_pos (by omega))) (fun c1 => ?_)
  refine g_iload_n dX5_patterns_4 rfl ?_
  refine g_iconst (v := 4) dX5_patterns_5 (by decide) ?_
  refine g_icgt (tgt := 18) dX5_patterns_6 (by decide) (fun c6 => absurd c6 (Int32.not_lt.mpr (nI_le (b := 4) hn (by omega)))) (fun c6 => ?_)
  refine g_iload_n dX5_patterns_9 rfl ?_
  refine g_iflt (tgt := 18) dX5_patterns_10 (by decide) (fun c10 => absurd c10 (by decide)) (fun c10 => ?_)
  refine g_iload_n dX5_patterns_13 rfl ?_
  refine g_iconst (v := 4) dX5_patterns_14 (by decide) ?_
  refine g_icle (tgt := 21) dX5_patterns_15 (by decide) (fun c15 => ?_) (fun c15 => absurd (by decide) c15)
  refine g_aload_n dX5_patterns_21 rfl ?_
  refine g_getR dX5_patterns_22 fX5_12 rfl rfl ?_
  refine g_V0 dX5_patterns_25 vX5_66 rfl (Nat.le_of_ble_eq_true rfl) (by decide) (ev_X2_stands) ?_
  refine g_ifeq (tgt := 43) dX5_patterns_28 (by decide) (fun c28 => absurd c28 (bI_1.mpr hst)) (fun c28 => ?_)
  refine g_aload_n dX5_patterns_31 rfl ?_
  refine g_getR dX5_patterns_32 fX5_30 rfl rfl ?_
  refine g_iload_n dX5_patterns_35 rfl ?_
  refine g_iload_n dX5_patterns_36 rfl ?_
  refine g_V2 dX5_patterns_37 vX5_155 rfl (Nat.le_of_ble_eq_true rfl) (by decide) (ev_X3_countOf_c4 hw hw20 hcol hn hc) ?_
  refine g_goto (tgt := 45) dX5_patterns_40 (by decide) ?_
  exact g_iret dX5_patterns_45 rfl ⟨rfl, rfl⟩

/-- how a set is told: 4 found, 2 mended rightly, 1 missed, 3 mended wrongly -/
def m_hw (m set : Int32) : Nat := if m = -5 then 4 else if m = 0 then 2 else if m = set then 1 else 3
def m_te (σ : r_Sg) (w : Nat) (set : Int32) : r_Sg := r_up (r_up σ 33 0 (σ 33 0 + 1)) 33 (m_hw (r_men (r_bit (σ 20) w) set (r_syn (σ 20) set w)) set) (r_up σ 33 0 (σ 33 0 + 1) 33 (m_hw (r_men (r_bit (σ 20) w) set (r_syn (σ 20) set w)) set) + 1)
def m_nx (x : Int32) : Int32 := if x = 0 then 0 else (x + (x &&& -x)) ||| (((x ^^^ (x + (x &&& -x))) / (x &&& -x)) >>> ((2 : Int32) &&& 31))
def m_ps (σ : r_Sg) (w : Nat) (Ls : Nat → Nat) : Nat → r_Sg
  | 0 => r_fill σ 33 5 0
  | k + 1 => m_te (m_ps σ w Ls k) w (nI (Ls k))
theorem m_te_o (σ : r_Sg) (w : Nat) (set : Int32) {q : Nat} (h : q ≠ 33) : m_te σ w set q = σ q := by simp [m_te, r_up, h]
theorem m_ps_o (σ : r_Sg) (w : Nat) (Ls : Nat → Nat) {q : Nat} (h : q ≠ 33) : ∀ k, m_ps σ w Ls k q = σ q
  | 0 => by funext i; simp [m_ps, r_fill, h]
  | k + 1 => by rw [m_ps, m_te_o _ _ _ h, m_ps_o σ w Ls h k]

set_option maxRecDepth 4000 in
theorem ev_X6_tells {σ : r_Sg} {w : Nat} {set : Int32} (hw : σ 19 0 + σ 19 1 = nI w) (hw20 : w ≤ 20) : Ev 3 MX6_tells [.ref 19, .int set] σ none (m_te σ w set) := by
  obtain ⟨m, hm⟩ : ∃ m, m = (r_men (r_bit (σ 20) w) set (r_syn (σ 20) set w)) := ⟨_, rfl⟩
  refine Ev_w [.ref 19, .int set, .null, .null] ?_ (by decide) rfl (Nat.le_of_ble_eq_true rfl) rfl
  refine g_aload_n dX6_tells_0 rfl ?_
  refine g_getR dX6_tells_1 fX6_50 rfl rfl ?_
  refine g_iconst (v := nI 0) dX6_tells_4 (by decide) ?_
  refine g_dup2 dX6_tells_5 rfl rfl ?_
  refine g_ial _ dX6_tells_6 rfl rfl (by omega) ?_
  refine g_iconst (v := 1) dX6_tells_7 (by decide) ?_
  refine g_iadd dX6_tells_8 ?_
  refine g_ias _ dX6_tells_9 rfl rfl (by omega) ?_
  refine g_aload_n dX6_tells_10 rfl ?_
  refine g_iload_n dX6_tells_11 rfl ?_
  refine g_V1 dX6_tells_12 vX6_108 rfl (Nat.le_of_ble_eq_true rfl) (by decide) (Ev_r (r' := some (.int m)) (ev_X6_mendedOf (σ := r_up σ 33 0 (σ 33 0 + 1)) hw hw20) (by rw [hm]; rfl)) ?_
  refine g_istore_n dX6_tells_15 (by decide) rfl ?_
  refine g_iload_n dX6_tells_16 rfl ?_
  refine g_bipush (v := (-5)) dX6_tells_17 (by decide) ?_
  refine g_icne (tgt := 26) dX6_tells_19 (by decide) (fun c19 => ?_) (fun c19 => ?_)
  · refine g_iload_n dX6_tells_26 rfl ?_
    refine g_ifne (tgt := 34) dX6_tells_27 (by decide) (fun c27 => ?_) (fun c27 => ?_)
    · refine g_iload_n dX6_tells_34 rfl ?_
      refine g_iload_n dX6_tells_35 rfl ?_
      refine g_icne (tgt := 43) dX6_tells_36 (by decide) (fun c36 => ?_) (fun c36 => ?_)
      · have e : m_hw m set = 3 := by rw [m_hw, if_neg c19, if_neg c27, if_neg c36]
        refine g_iconst (v := nI 3) dX6_tells_43 (by decide) ?_
        refine g_istore_n dX6_tells_44 (by decide) rfl ?_
        refine g_aload_n dX6_tells_45 rfl ?_
        refine g_getR dX6_tells_46 fX6_50 rfl rfl ?_
        refine g_iload_n dX6_tells_49 rfl ?_
        refine g_dup2 dX6_tells_50 rfl rfl ?_
        refine g_ial _ dX6_tells_51 rfl rfl (by omega) ?_
        refine g_iconst (v := 1) dX6_tells_52 (by decide) ?_
        refine g_iadd dX6_tells_53 ?_
        refine g_ias _ dX6_tells_54 rfl rfl (by omega) ?_
        exact g_ret dX6_tells_55 rfl ⟨rfl, by rw [m_te, ← hm, e]⟩
      · have e : m_hw m set = 1 := by rw [m_hw, if_neg c19, if_neg c27, if_pos c36]
        refine g_iconst (v := nI 1) dX6_tells_39 (by decide) ?_
        refine g_goto (tgt := 44) dX6_tells_40 (by decide) ?_
        refine g_istore_n dX6_tells_44 (by decide) rfl ?_
        refine g_aload_n dX6_tells_45 rfl ?_
        refine g_getR dX6_tells_46 fX6_50 rfl rfl ?_
        refine g_iload_n dX6_tells_49 rfl ?_
        refine g_dup2 dX6_tells_50 rfl rfl ?_
        refine g_ial _ dX6_tells_51 rfl rfl (by omega) ?_
        refine g_iconst (v := 1) dX6_tells_52 (by decide) ?_
        refine g_iadd dX6_tells_53 ?_
        refine g_ias _ dX6_tells_54 rfl rfl (by omega) ?_
        exact g_ret dX6_tells_55 rfl ⟨rfl, by rw [m_te, ← hm, e]⟩
    · have e : m_hw m set = 2 := by rw [m_hw, if_neg c19, if_pos c27]
      refine g_iconst (v := nI 2) dX6_tells_30 (by decide) ?_
      refine g_goto (tgt := 44) dX6_tells_31 (by decide) ?_
      refine g_istore_n dX6_tells_44 (by decide) rfl ?_
      refine g_aload_n dX6_tells_45 rfl ?_
      refine g_getR dX6_tells_46 fX6_50 rfl rfl ?_
      refine g_iload_n dX6_tells_49 rfl ?_
      refine g_dup2 dX6_tells_50 rfl rfl ?_
      refine g_ial _ dX6_tells_51 rfl rfl (by omega) ?_
      refine g_iconst (v := 1) dX6_tells_52 (by decide) ?_
      refine g_iadd dX6_tells_53 ?_
      refine g_ias _ dX6_tells_54 rfl rfl (by omega) ?_
      exact g_ret dX6_tells_55 rfl ⟨rfl, by rw [m_te, ← hm, e]⟩
  · have e : m_hw m set = 4 := by rw [m_hw, if_pos c19]
    refine g_iconst (v := nI 4) dX6_tells_22 (by decide) ?_
    refine g_goto (tgt := 44) dX6_tells_23 (by decide) ?_
    refine g_istore_n dX6_tells_44 (by decide) rfl ?_
    refine g_aload_n dX6_tells_45 rfl ?_
    refine g_getR dX6_tells_46 fX6_50 rfl rfl ?_
    refine g_iload_n dX6_tells_49 rfl ?_
    refine g_dup2 dX6_tells_50 rfl rfl ?_
    refine g_ial _ dX6_tells_51 rfl rfl (by omega) ?_
    refine g_iconst (v := 1) dX6_tells_52 (by decide) ?_
    refine g_iadd dX6_tells_53 ?_
    refine g_ias _ dX6_tells_54 rfl rfl (by omega) ?_
    exact g_ret dX6_tells_55 rfl ⟨rfl, by rw [m_te, ← hm, e]⟩

set_option maxRecDepth 4000 in
theorem ev_X6_nextSet {σ : r_Sg} {x : Int32} (hx : ¬ x = 0 → ¬ (x &&& -x) = 0) : Ev 0 MX6_nextSet [.int x] σ (some (.int (m_nx x))) σ := by
  refine Ev_w [.int x, .null, .null] ?_ (by decide) rfl (Nat.le_of_ble_eq_true rfl) rfl
  refine g_iload_n dX6_nextSet_0 rfl ?_
  refine g_ifne (tgt := 6) dX6_nextSet_1 (by decide) (fun c1 => ?_) (fun c1 => ?_)
  · refine g_iload_n dX6_nextSet_6 rfl ?_
    refine g_iload_n dX6_nextSet_7 rfl ?_
    refine g_ineg dX6_nextSet_8 ?_
    refine g_iand dX6_nextSet_9 ?_
    refine g_istore_n dX6_nextSet_10 (by decide) rfl ?_
    refine g_iload_n dX6_nextSet_11 rfl ?_
    refine g_iload_n dX6_nextSet_12 rfl ?_
    refine g_iadd dX6_nextSet_13 ?_
    refine g_istore_n dX6_nextSet_14 (by decide) rfl ?_
    refine g_iload_n dX6_nextSet_15 rfl ?_
    refine g_iload_n dX6_nextSet_16 rfl ?_
    refine g_iload_n dX6_nextSet_17 rfl ?_
    refine g_ixor dX6_nextSet_18 ?_
    refine g_iload_n dX6_nextSet_19 rfl ?_
    refine g_idiv dX6_nextSet_20 (hx c1) ?_
    refine g_iconst (v := 2) dX6_nextSet_21 (by decide) ?_
    refine g_ishr dX6_nextSet_22 ?_
    refine g_ior dX6_nextSet_23 ?_
    exact g_iret dX6_nextSet_24 rfl ⟨by rw [m_nx, if_neg c1], rfl⟩
  · refine g_iconst (v := 0) dX6_nextSet_4 (by decide) ?_
    exact g_iret dX6_nextSet_5 rfl ⟨by rw [m_nx, if_pos c1], rfl⟩

set_option maxRecDepth 4000 in
theorem ev_X6_patterns_o {σ : r_Sg} {n q : Int32} (hg : ¬ ((0 ≤ n ∧ n ≤ 4) ∧ 0 ≤ q ∧ q ≤ 4)) : Ev 5 MX6_patterns [.ref 19, .int n, .int q] σ (some (.int (-2))) σ := by
  refine Ev_w [.ref 19, .int n, .int q, .null] ?_ (by decide) rfl (Nat.le_of_ble_eq_true rfl) rfl
  refine g_iload_n dX6_patterns_0 rfl ?_
  refine g_iconst (v := 0) dX6_patterns_1 (by decide) ?_
  refine g_iconst (v := 4) dX6_patterns_2 (by decide) ?_
  refine g_S3 dX6_patterns_3 vX6_68 (Nat.le_of_ble_eq_true rfl) (by decide) (ev_X6_within) ?_
  refine g_ifeq (tgt := 18) dX6_patterns_6 (by decide) (fun c6 => ?_) (fun c6 => ?_)
  · refine g_bipush (v := (-2)) dX6_patterns_18 (by decide) ?_
    exact g_iret dX6_patterns_20 rfl ⟨rfl, rfl⟩
  · refine g_iload_n dX6_patterns_9 rfl ?_
    refine g_iconst (v := 0) dX6_patterns_10 (by decide) ?_
    refine g_iconst (v := 4) dX6_patterns_11 (by decide) ?_
    refine g_S3 dX6_patterns_12 vX6_68 (Nat.le_of_ble_eq_true rfl) (by decide) (ev_X6_within) ?_
    refine g_ifne (tgt := 21) dX6_patterns_15 (by decide) (fun c15 => absurd (bI_0.mpr (fun z => hg ⟨bI_1.mp c6, z⟩)) c15) (fun c15 => ?_)
    refine g_bipush (v := (-2)) dX6_patterns_18 (by decide) ?_
    exact g_iret dX6_patterns_20 rfl ⟨rfl, rfl⟩

set_option maxRecDepth 4000 in
theorem ev_X6_patterns_s {σ : r_Sg} {n q : Int32} (hg : ((0 ≤ n ∧ n ≤ 4) ∧ 0 ≤ q ∧ q ≤ 4)) (hst : σ 19 0 = 0) : Ev 5 MX6_patterns [.ref 19, .int n, .int q] σ (some (.int (-3))) σ := by
  refine Ev_w [.ref 19, .int n, .int q, .null] ?_ (by decide) rfl (Nat.le_of_ble_eq_true rfl) rfl
  refine g_iload_n dX6_patterns_0 rfl ?_
  refine g_iconst (v := 0) dX6_patterns_1 (by decide) ?_
  refine g_iconst (v := 4) dX6_patterns_2 (by decide) ?_
  refine g_S3 dX6_patterns_3 vX6_68 (Nat.le_of_ble_eq_true rfl) (by decide) (ev_X6_within) ?_
  refine g_ifeq (tgt := 18) dX6_patterns_6 (by decide) (fun c6 => absurd c6 (bI_1.mpr hg.1)) (fun c6 => ?_)
  refine g_iload_n dX6_patterns_9 rfl ?_
  refine g_iconst (v := 0) dX6_patterns_10 (by decide) ?_
  refine g_iconst (v := 4) dX6_patterns_11 (by decide) ?_
  refine g_S3 dX6_patterns_12 vX6_68 (Nat.le_of_ble_eq_true rfl) (by decide) (ev_X6_within) ?_
  refine g_ifne (tgt := 21) dX6_patterns_15 (by decide) (fun c15 => ?_) (fun c15 => absurd c15 (bI_1.mpr hg.2))
  refine g_aload_n dX6_patterns_21 rfl ?_
  refine g_getI dX6_patterns_22 fX6_57 rfl rfl ?_
  refine g_ifne (tgt := 31) dX6_patterns_25 (by decide) (fun c25 => absurd hst c25) (fun c25 => ?_)
  refine g_bipush (v := (-3)) dX6_patterns_28 (by decide) ?_
  exact g_iret dX6_patterns_30 rfl ⟨rfl, rfl⟩

set_option maxRecDepth 4000 in
theorem ev_X6_patterns_k {σ : r_Sg} {w n q N : Nat} {Ls : Nat → Nat} (hw : σ 19 0 + σ 19 1 = nI w) (hw20 : w ≤ 20) (hn : n ≤ 4) (hq : q ≤ 4) (hst : ¬ σ 19 0 = 0) (hw2 : 2 ^ w < 2 ^ 21) (hN : N ≤ 5000) (hbd : ∀ k, k ≤ N → Ls k < 2 ^ 31) (hL0 : (1 <<< (nI n &&& 31)) - 1 = nI (Ls 0)) (hL : ∀ k, k < N → Ls k < 2 ^ w ∧ m_nx (nI (Ls k)) = nI (Ls (k + 1)) ∧ k < (if n = 0 then 1 else 5000)) (hnz : ∀ k, k < N → ¬ nI (Ls k) = 0 → ¬ (nI (Ls k) &&& - nI (Ls k)) = 0) (hE : 2 ^ w ≤ Ls N ∨ (if n = 0 then 1 else 5000) ≤ N) (hcnt : ∀ k, k ≤ N → (m_ps σ w Ls k) 33 0 = nI k) : Ev 5 MX6_patterns [.ref 19, .int (nI n), .int (nI q)] σ (some (.int ((m_ps σ w Ls N) 33 q))) (m_ps σ w Ls N) := by
  have hbN := hbd N (Nat.le_refl N)
  refine Ev_w [.ref 19, .int (nI n), .int (nI q), .null] ?_ (by decide) rfl (Nat.le_of_ble_eq_true rfl) rfl
  refine g_iload_n dX6_patterns_0 rfl ?_
  refine g_iconst (v := 0) dX6_patterns_1 (by decide) ?_
  refine g_iconst (v := 4) dX6_patterns_2 (by decide) ?_
  refine g_S3 dX6_patterns_3 vX6_68 (Nat.le_of_ble_eq_true rfl) (by decide) (ev_X6_within) ?_
  refine g_ifeq (tgt := 18) dX6_patterns_6 (by decide) (fun c6 => absurd c6 (bI_1.mpr ⟨nI_pos' (by omega), nI_le (b := 4) hn (by omega)⟩)) (fun c6 => ?_)
  refine g_iload_n dX6_patterns_9 rfl ?_
  refine g_iconst (v := 0) dX6_patterns_10 (by decide) ?_
  refine g_iconst (v := 4) dX6_patterns_11 (by decide) ?_
  refine g_S3 dX6_patterns_12 vX6_68 (Nat.le_of_ble_eq_true rfl) (by decide) (ev_X6_within) ?_
  refine g_ifne (tgt := 21) dX6_patterns_15 (by decide) (fun c15 => ?_) (fun c15 => absurd c15 (bI_1.mpr ⟨nI_pos' (by omega), nI_le (b := 4) hq (by omega)⟩))
  refine g_aload_n dX6_patterns_21 rfl ?_
  refine g_getI dX6_patterns_22 fX6_57 rfl rfl ?_
  refine g_ifne (tgt := 31) dX6_patterns_25 (by decide) (fun c25 => ?_) (fun c25 => absurd c25 hst)
  refine g_iconst (v := 0) dX6_patterns_31 (by decide) ?_
  refine g_istore_n dX6_patterns_32 (by decide) rfl ?_
  refine g_g (r_fill_0 _ 33 0) ?_
  refine r_loop (n := 5) (fun k => [.ref 19, .int (nI n), .int (nI q), .int (nI k)]) (fun k => r_fill σ 33 k 0) (fun k hk ih => ?_) ?_
  · refine g_iload_n dX6_patterns_33 rfl ?_
    refine g_aload_n dX6_patterns_34 rfl ?_
    refine g_getR dX6_patterns_35 fX6_50 rfl rfl ?_
    refine g_alen (v := nI 5) dX6_patterns_38 rfl rfl ?_
    refine g_icge (tgt := 55) dX6_patterns_39 (by decide) (fun c39 => absurd c39 (nI_ge hk (by omega))) (fun c39 => ?_)
    refine g_aload_n dX6_patterns_42 rfl ?_
    refine g_getR dX6_patterns_43 fX6_50 rfl rfl ?_
    refine g_iload_n dX6_patterns_46 rfl ?_
    refine g_iconst (v := 0) dX6_patterns_47 (by decide) ?_
    refine g_ias _ dX6_patterns_48 rfl rfl (by omega) ?_
    refine g_iinc (v := nI (k + 1)) dX6_patterns_49 rfl (nI_1 k) (by decide) rfl ?_
    refine g_goto (tgt := 33) dX6_patterns_52 (by decide) ?_
    exact g_g (r_fill_s _ _ _ _) ih
  · refine g_iload_n dX6_patterns_33 rfl ?_
    refine g_aload_n dX6_patterns_34 rfl ?_
    refine g_getR dX6_patterns_35 fX6_50 rfl rfl ?_
    refine g_alen (v := nI 5) dX6_patterns_38 rfl rfl ?_
    refine g_icge (tgt := 55) dX6_patterns_39 (by decide) (fun c39 => ?_) (fun c39 => absurd (nI_le (Nat.le_refl _) (by omega)) c39)
    refine g_iconst (v := 1) dX6_patterns_55 (by decide) ?_
    refine g_iload_n dX6_patterns_56 rfl ?_
    refine g_ishl dX6_patterns_57 ?_
    refine g_iconst (v := 1) dX6_patterns_58 (by decide) ?_
    refine g_isub dX6_patterns_59 ?_
    refine g_t hL0 ?_
    refine g_istore_n dX6_patterns_60 (by decide) rfl ?_
    refine r_loop (n := N) (fun k => [.ref 19, .int (nI n), .int (nI q), .int (nI (Ls k))]) (fun k => m_ps σ w Ls k) (fun k hk ih => ?_) ?_
    · have h1 := hL k hk
      refine g_iload_n dX6_patterns_61 rfl ?_
      refine g_iconst (v := 1) dX6_patterns_62 (by decide) ?_
      refine g_aload_n dX6_patterns_63 rfl ?_
      refine g_V0 dX6_patterns_64 vX6_64 rfl (Nat.le_of_ble_eq_true rfl) (by decide) (Ev_r (r' := some (.int (nI w))) ev_X6_bits (by rw [m_ps_o σ w Ls (by decide), hw])) ?_
      refine g_ishl dX6_patterns_67 ?_
      refine g_t (r_shl1 w (by omega)) ?_
      refine g_icge (tgt := 104) dX6_patterns_68 (by decide) (fun c68 => absurd c68 (nI_ge h1.1 (by omega))) (fun c68 => ?_)
      refine g_aload_n dX6_patterns_71 rfl ?_
      refine g_getR dX6_patterns_72 fX6_50 rfl rfl ?_
      refine g_iconst (v := nI 0) dX6_patterns_75 (by decide) ?_
      refine g_ial _ dX6_patterns_76 rfl rfl (by omega) ?_
      refine g_t (hcnt _ (by omega)) ?_
      refine g_iload_n dX6_patterns_77 rfl ?_
      refine g_ifne (tgt := 85) dX6_patterns_78 (by decide) (fun c78 => ?_) (fun c78 => ?_)
      · have en : ¬ n = 0 := fun z => c78 (by rw [z]; rfl)
        refine g_sipush (v := nI 5000) dX6_patterns_85 (by decide) ?_
        refine g_icge (tgt := 104) dX6_patterns_88 (by decide) (fun c88 => absurd c88 (by first | (rw [if_pos en] at h1; exact nI_ge h1.2.2 (by omega)) | (rw [if_neg en] at h1; exact nI_ge h1.2.2 (by omega)))) (fun c88 => ?_)
        refine g_aload_n dX6_patterns_91 rfl ?_
        refine g_iload_n dX6_patterns_92 rfl ?_
        refine g_V1v dX6_patterns_93 vX6_168 rfl (Nat.le_of_ble_eq_true rfl) (by decide) (ev_X6_tells (by rw [m_ps_o σ w Ls (by decide)]; exact hw) hw20) ?_
        refine g_iload_n dX6_patterns_96 rfl ?_
        refine g_S1 dX6_patterns_97 vX6_171 (Nat.le_of_ble_eq_true rfl) (by decide) (Ev_r (r' := some (.int (nI (Ls (k + 1))))) (ev_X6_nextSet (hnz k hk)) (by rw [h1.2.1])) ?_
        refine g_istore_n dX6_patterns_100 (by decide) rfl ?_
        refine g_goto (tgt := 61) dX6_patterns_101 (by decide) ?_
        exact ih
      · have en : n = 0 := (nI_eq (b := 0) (by omega) (by omega)).mp c78
        refine g_iconst (v := nI 1) dX6_patterns_81 (by decide) ?_
        refine g_goto (tgt := 88) dX6_patterns_82 (by decide) ?_
        refine g_icge (tgt := 104) dX6_patterns_88 (by decide) (fun c88 => absurd c88 (by first | (rw [if_pos en] at h1; exact nI_ge h1.2.2 (by omega)) | (rw [if_neg en] at h1; exact nI_ge h1.2.2 (by omega)))) (fun c88 => ?_)
        refine g_aload_n dX6_patterns_91 rfl ?_
        refine g_iload_n dX6_patterns_92 rfl ?_
        refine g_V1v dX6_patterns_93 vX6_168 rfl (Nat.le_of_ble_eq_true rfl) (by decide) (ev_X6_tells (by rw [m_ps_o σ w Ls (by decide)]; exact hw) hw20) ?_
        refine g_iload_n dX6_patterns_96 rfl ?_
        refine g_S1 dX6_patterns_97 vX6_171 (Nat.le_of_ble_eq_true rfl) (by decide) (Ev_r (r' := some (.int (nI (Ls (k + 1))))) (ev_X6_nextSet (hnz k hk)) (by rw [h1.2.1])) ?_
        refine g_istore_n dX6_patterns_100 (by decide) rfl ?_
        refine g_goto (tgt := 61) dX6_patterns_101 (by decide) ?_
        exact ih
    · skip
      refine g_iload_n dX6_patterns_61 rfl ?_
      refine g_iconst (v := 1) dX6_patterns_62 (by decide) ?_
      refine g_aload_n dX6_patterns_63 rfl ?_
      refine g_V0 dX6_patterns_64 vX6_64 rfl (Nat.le_of_ble_eq_true rfl) (by decide) (Ev_r (r' := some (.int (nI w))) ev_X6_bits (by rw [m_ps_o σ w Ls (by decide), hw])) ?_
      refine g_ishl dX6_patterns_67 ?_
      refine g_t (r_shl1 w (by omega)) ?_
      refine g_icge (tgt := 104) dX6_patterns_68 (by decide) (fun c68 => ?_) (fun c68 => ?_)
      · refine g_aload_n dX6_patterns_104 rfl ?_
        refine g_getR dX6_patterns_105 fX6_50 rfl rfl ?_
        refine g_iload_n dX6_patterns_108 rfl ?_
        refine g_ial _ dX6_patterns_109 rfl rfl (by omega) ?_
        exact g_iret dX6_patterns_110 rfl ⟨rfl, rfl⟩
      · refine g_aload_n dX6_patterns_71 rfl ?_
        refine g_getR dX6_patterns_72 fX6_50 rfl rfl ?_
        refine g_iconst (v := nI 0) dX6_patterns_75 (by decide) ?_
        refine g_ial _ dX6_patterns_76 rfl rfl (by omega) ?_
        refine g_t (hcnt _ (by omega)) ?_
        refine g_iload_n dX6_patterns_77 rfl ?_
        refine g_ifne (tgt := 85) dX6_patterns_78 (by decide) (fun c78 => ?_) (fun c78 => ?_)
        · have en : ¬ n = 0 := fun z => c78 (by rw [z]; rfl)
          refine g_sipush (v := nI 5000) dX6_patterns_85 (by decide) ?_
          refine g_icge (tgt := 104) dX6_patterns_88 (by decide) (fun c88 => ?_) (fun c88 => absurd (by rcases hE with hE | hE; exact absurd (nI_le hE (by omega)) c68; first | (rw [if_pos en] at hE; exact nI_le hE (by omega)) | (rw [if_neg en] at hE; exact nI_le hE (by omega))) c88)
          refine g_aload_n dX6_patterns_104 rfl ?_
          refine g_getR dX6_patterns_105 fX6_50 rfl rfl ?_
          refine g_iload_n dX6_patterns_108 rfl ?_
          refine g_ial _ dX6_patterns_109 rfl rfl (by omega) ?_
          exact g_iret dX6_patterns_110 rfl ⟨rfl, rfl⟩
        · have en : n = 0 := (nI_eq (b := 0) (by omega) (by omega)).mp c78
          refine g_iconst (v := nI 1) dX6_patterns_81 (by decide) ?_
          refine g_goto (tgt := 88) dX6_patterns_82 (by decide) ?_
          refine g_icge (tgt := 104) dX6_patterns_88 (by decide) (fun c88 => ?_) (fun c88 => absurd (by rcases hE with hE | hE; exact absurd (nI_le hE (by omega)) c68; first | (rw [if_pos en] at hE; exact nI_le hE (by omega)) | (rw [if_neg en] at hE; exact nI_le hE (by omega))) c88)
          refine g_aload_n dX6_patterns_104 rfl ?_
          refine g_getR dX6_patterns_105 fX6_50 rfl rfl ?_
          refine g_iload_n dX6_patterns_108 rfl ?_
          refine g_ial _ dX6_patterns_109 rfl rfl (by omega) ?_
          exact g_iret dX6_patterns_110 rfl ⟨rfl, rfl⟩
