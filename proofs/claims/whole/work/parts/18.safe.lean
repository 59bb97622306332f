/-! safe and patterns, as they are written -/
theorem kl_161 : Cond.constantLong RX5 161 (-9223372036854775808) ∈ r_tbl := lk 586 (by decide +kernel)
theorem kl_174 : Cond.constantLong RX6 174 (-9223372036854775808) ∈ r_tbl := lk 892 (by decide +kernel)
theorem kl_176 : Cond.constantLong RX6 176 16 ∈ r_tbl := lk 893 (by decide +kernel)
theorem kl_178 : Cond.constantLong RX6 178 2 ∈ r_tbl := lk 894 (by decide +kernel)
/-- safeWalks: the walks, and how many words are hit -/
def s_w (s : Int32) : Nat → Int64 × Int32
  | 0 => (1, 0)
  | i + 1 => ((s_w s i).1 * (16 - (s_w s i).2).toInt64, if (s_w s i).2 + 1 = s then 0 else (s_w s i).2 + 1)
def s_r (u l : Int64) : Nat → Int64 × Int64
  | 0 => (u, l)
  | i + 1 => ((s_r u l i).1 >>> ((1 : Int32).toInt64 &&& 63), (s_r u l i).2 >>> ((1 : Int32).toInt64 &&& 63))
def s_P (u l : Int64) : Nat → Bool := fun i => decide (¬ lg_cmp ((s_r u l i).1 &&& 1) 0 = 0)
def s_l (t : Nat) : Int64 := (1 : Int64) <<< ((nI (4 * t)).toInt64 &&& 63)
/-- the class's safe -/
def s_c (t : Nat) (s : Int32) (which : Bool) : Int64 :=
  let q := s_r (s_w s t).1 (s_l t) (r_fst (s_P (s_w s t).1 (s_l t)) (4 * t))
  if which then q.2 else q.1
def s_m (s : Nat) : Nat → Int64 × Int64
  | 0 => (1, 1)
  | k + 1 => ((s_m s k).1 * (16 - nI (k % s)).toInt64, (s_m s k).2 * 16)
def s_n (u l : Int64) : Nat → Int64 × Int64
  | 0 => (u, l)
  | i + 1 => ((s_n u l i).1 / 2, (s_n u l i).2 / 2)
def s_c1 (x : Int64) : Int32 := lg_cmp (x - x / 2 * 2) 0
def s_Q (u l : Int64) : Nat → Bool := fun i => decide (¬ (s_c1 (s_n u l i).1 = 0 ∧ s_c1 (s_n u l i).2 = 0))
/-- the reference's safe -/
def s_d (t s : Nat) (which : Bool) : Int64 :=
  let q := s_n (s_m s t).1 (s_m s t).2 (r_fst (s_Q (s_m s t).1 (s_m s t).2) 49)
  if which then q.2 else q.1

set_option maxRecDepth 4000 in
theorem ev_X5_safeWalks {σ : r_Sg} {t s : Nat} (ht : t ≤ 12) : Ev 0 MX5_safeWalks [.int (nI t), .int (nI s)] σ (some (.long (s_w (nI s) t).1)) σ := by
  refine Ev_w [.int (nI t), .int (nI s), .null, .null, .null, .null] ?_ (by decide) rfl (Nat.le_of_ble_eq_true rfl) rfl
  refine g_lconst (v := 1) dX5_safeWalks_0 (by decide) ?_
  refine g_lstore_n dX5_safeWalks_1 (by decide) rfl ?_
  refine g_iconst (v := 0) dX5_safeWalks_2 (by decide) ?_
  refine g_istore dX5_safeWalks_3 (by decide) rfl ?_
  refine g_iconst (v := 0) dX5_safeWalks_5 (by decide) ?_
  refine g_istore dX5_safeWalks_6 (by decide) rfl ?_
  refine r_loop (n := t) (fun k => [.int (nI t), .int (nI s), .long (s_w (nI s) k).1, .null, .int (s_w (nI s) k).2, .int (nI k)]) (fun k => σ) (fun k hk ih => ?_) ?_
  · refine g_iload dX5_safeWalks_8 rfl ?_
    refine g_iload_n dX5_safeWalks_10 rfl ?_
    refine g_icge (tgt := 41) dX5_safeWalks_11 (by decide) (fun c11 => absurd c11 (nI_ge hk (by omega))) (fun c11 => ?_)
    refine g_lload_n dX5_safeWalks_14 rfl ?_
    refine g_bipush (v := 16) dX5_safeWalks_15 (by decide) ?_
    refine g_iload dX5_safeWalks_17 rfl ?_
    refine g_isub dX5_safeWalks_19 ?_
    refine g_i2l dX5_safeWalks_20 ?_
    refine g_lmul dX5_safeWalks_21 ?_
    refine g_lstore_n dX5_safeWalks_22 (by decide) rfl ?_
    refine g_iinc (v := _ + 1) dX5_safeWalks_23 rfl rfl (by decide) rfl ?_
    refine g_iload dX5_safeWalks_26 rfl ?_
    refine g_iload_n dX5_safeWalks_28 rfl ?_
    refine g_icne (tgt := 35) dX5_safeWalks_29 (by decide) (fun c29 => ?_) (fun c29 => ?_)
    · have e := c29
      refine g_iinc (v := nI (k + 1)) dX5_safeWalks_35 rfl (nI_1 k) (by decide) rfl ?_
      refine g_goto (tgt := 8) dX5_safeWalks_38 (by decide) ?_
      exact g_l (by simp [r_ls, s_w, e]) ih
    · have e := c29
      refine g_iconst (v := 0) dX5_safeWalks_32 (by decide) ?_
      refine g_istore dX5_safeWalks_33 (by decide) rfl ?_
      refine g_iinc (v := nI (k + 1)) dX5_safeWalks_35 rfl (nI_1 k) (by decide) rfl ?_
      refine g_goto (tgt := 8) dX5_safeWalks_38 (by decide) ?_
      exact g_l (by simp [r_ls, s_w, e]) ih
  · refine g_iload dX5_safeWalks_8 rfl ?_
    refine g_iload_n dX5_safeWalks_10 rfl ?_
    refine g_icge (tgt := 41) dX5_safeWalks_11 (by decide) (fun c11 => ?_) (fun c11 => absurd (nI_le (Nat.le_refl _) (by omega)) c11)
    refine g_lload_n dX5_safeWalks_41 rfl ?_
    exact g_lret dX5_safeWalks_42 rfl ⟨rfl, rfl⟩

set_option maxRecDepth 4000 in
theorem ev_X5_safe_o {σ : r_Sg} {t s q : Int32} (hg : ¬ ((0 ≤ t ∧ t ≤ 12) ∧ (1 ≤ s ∧ s ≤ 12) ∧ 0 ≤ q ∧ q ≤ 1)) : Ev 5 MX5_safe [.ref 0, .int t, .int s, .int q] σ (some (.long (-9223372036854775808))) σ := by
  refine Ev_w [.ref 0, .int t, .int s, .int q, .null, .null, .null, .null, .null] ?_ (by decide) rfl (Nat.le_of_ble_eq_true rfl) rfl
  refine g_iload_n dX5_safe_0 rfl ?_
  refine g_iflt (tgt := 30) dX5_safe_1 (by decide) (fun c1 => ?_) (fun c1 => ?_)
  · refine g_ldc2 dX5_safe_30 kl_161 ?_
    exact g_lret dX5_safe_33 rfl ⟨rfl, rfl⟩
  · refine g_iload_n dX5_safe_4 rfl ?_
    refine g_bipush (v := 12) dX5_safe_5 (by decide) ?_
    refine g_icgt (tgt := 30) dX5_safe_7 (by decide) (fun c7 => ?_) (fun c7 => ?_)
    · refine g_ldc2 dX5_safe_30 kl_161 ?_
      exact g_lret dX5_safe_33 rfl ⟨rfl, rfl⟩
    · refine g_iload_n dX5_safe_10 rfl ?_
      refine g_iconst (v := 1) dX5_safe_11 (by decide) ?_
      refine g_iclt (tgt := 30) dX5_safe_12 (by decide) (fun c12 => ?_) (fun c12 => ?_)
      · refine g_ldc2 dX5_safe_30 kl_161 ?_
        exact g_lret dX5_safe_33 rfl ⟨rfl, rfl⟩
      · refine g_iload_n dX5_safe_15 rfl ?_
        refine g_bipush (v := 12) dX5_safe_16 (by decide) ?_
        refine g_icgt (tgt := 30) dX5_safe_18 (by decide) (fun c18 => ?_) (fun c18 => ?_)
        · refine g_ldc2 dX5_safe_30 kl_161 ?_
          exact g_lret dX5_safe_33 rfl ⟨rfl, rfl⟩
        · refine g_iload_n dX5_safe_21 rfl ?_
          refine g_iflt (tgt := 30) dX5_safe_22 (by decide) (fun c22 => ?_) (fun c22 => ?_)
          · refine g_ldc2 dX5_safe_30 kl_161 ?_
            exact g_lret dX5_safe_33 rfl ⟨rfl, rfl⟩
          · refine g_iload_n dX5_safe_25 rfl ?_
            refine g_iconst (v := 1) dX5_safe_26 (by decide) ?_
            refine g_icle (tgt := 34) dX5_safe_27 (by decide) (fun c27 => absurd c27 (fun z => hg ⟨⟨Int32.not_lt.mp c1, Int32.not_lt.mp c7⟩, ⟨Int32.not_lt.mp c12, Int32.not_lt.mp c18⟩, Int32.not_lt.mp c22, z⟩)) (fun c27 => ?_)
            refine g_ldc2 dX5_safe_30 kl_161 ?_
            exact g_lret dX5_safe_33 rfl ⟨rfl, rfl⟩

set_option maxRecDepth 4000 in
theorem ev_X5_safe_0 {σ : r_Sg} {t s : Nat} (ht : t ≤ 12) (hs : 1 ≤ s) (hs12 : s ≤ 12) : Ev 5 MX5_safe [.ref 0, .int (nI t), .int (nI s), .int 0] σ (some (.long (s_c t (nI s) false))) σ := by
  refine Ev_w [.ref 0, .int (nI t), .int (nI s), .int 0, .null, .null, .null, .null, .null] ?_ (by decide) rfl (Nat.le_of_ble_eq_true rfl) rfl
  refine g_iload_n dX5_safe_0 rfl ?_
  refine g_iflt (tgt := 30) dX5_safe_1 (by decide) (fun c1 => absurd c1 (nI_pos (by omega))) (fun c1 => ?_)
  refine g_iload_n dX5_safe_4 rfl ?_
  refine g_bipush (v := 12) dX5_safe_5 (by decide) ?_
  refine g_icgt (tgt := 30) dX5_safe_7 (by decide) (fun c7 => absurd c7 (Int32.not_lt.mpr (nI_le (b := 12) ht (by omega)))) (fun c7 => ?_)
  refine g_iload_n dX5_safe_10 rfl ?_
  refine g_iconst (v := 1) dX5_safe_11 (by decide) ?_
  refine g_iclt (tgt := 30) dX5_safe_12 (by decide) (fun c12 => absurd c12 (Int32.not_lt.mpr (nI_le (a := 1) hs (by omega)))) (fun c12 => ?_)
  refine g_iload_n dX5_safe_15 rfl ?_
  refine g_bipush (v := 12) dX5_safe_16 (by decide) ?_
  refine g_icgt (tgt := 30) dX5_safe_18 (by decide) (fun c18 => absurd c18 (Int32.not_lt.mpr (nI_le (b := 12) hs12 (by omega)))) (fun c18 => ?_)
  refine g_iload_n dX5_safe_21 rfl ?_
  refine g_iflt (tgt := 30) dX5_safe_22 (by decide) (fun c22 => absurd c22 (by decide)) (fun c22 => ?_)
  refine g_iload_n dX5_safe_25 rfl ?_
  refine g_iconst (v := 1) dX5_safe_26 (by decide) ?_
  refine g_icle (tgt := 34) dX5_safe_27 (by decide) (fun c27 => ?_) (fun c27 => absurd (by decide) c27)
  refine g_iload_n dX5_safe_34 rfl ?_
  refine g_iload_n dX5_safe_35 rfl ?_
  refine g_S2 dX5_safe_36 vX5_163 (Nat.le_of_ble_eq_true rfl) (by decide) (ev_X5_safeWalks ht) ?_
  refine g_lstore dX5_safe_39 (by decide) rfl ?_
  refine g_lconst (v := 1) dX5_safe_41 (by decide) ?_
  refine g_iconst (v := nI 4) dX5_safe_42 (by decide) ?_
  refine g_iload_n dX5_safe_43 rfl ?_
  refine g_imul dX5_safe_44 ?_
  refine g_t (pk_mul 4 t) ?_
  refine g_lshl dX5_safe_45 ?_
  refine g_lstore dX5_safe_46 (by decide) rfl ?_
  refine g_iconst (v := 0) dX5_safe_48 (by decide) ?_
  refine g_istore dX5_safe_49 (by decide) rfl ?_
  have hJle := r_fst_le (s_P (s_w (nI s) t).1 (s_l t)) (4 * t)
  refine r_loop (n := r_fst (s_P (s_w (nI s) t).1 (s_l t)) (4 * t)) (fun k => [.ref 0, .int (nI t), .int (nI s), .int 0, .long (s_r (s_w (nI s) t).1 (s_l t) k).1, .null, .long (s_r (s_w (nI s) t).1 (s_l t) k).2, .null, .int (nI k)]) (fun k => σ) (fun k hk ih => ?_) ?_
  · have hP := r_fst_not hk
    refine g_iload dX5_safe_51 rfl ?_
    refine g_iconst (v := nI 4) dX5_safe_53 (by decide) ?_
    refine g_iload_n dX5_safe_54 rfl ?_
    refine g_imul dX5_safe_55 ?_
    refine g_t (pk_mul 4 t) ?_
    refine g_icge (tgt := 86) dX5_safe_56 (by decide) (fun c56 => absurd c56 (nI_ge (show k < (4 * t) by omega) (by omega))) (fun c56 => ?_)
    refine g_lload dX5_safe_59 rfl ?_
    refine g_lconst (v := 1) dX5_safe_61 (by decide) ?_
    refine g_land dX5_safe_62 ?_
    refine g_lconst (v := 0) dX5_safe_63 (by decide) ?_
    refine g_lcmp dX5_safe_64 ?_
    refine g_ifne (tgt := 86) dX5_safe_65 (by decide) (fun c65 => absurd (Decidable.of_not_not (of_decide_eq_false hP)) c65) (fun c65 => ?_)
    refine g_lload dX5_safe_68 rfl ?_
    refine g_iconst (v := 1) dX5_safe_70 (by decide) ?_
    refine g_lshr dX5_safe_71 ?_
    refine g_lstore dX5_safe_72 (by decide) rfl ?_
    refine g_lload dX5_safe_74 rfl ?_
    refine g_iconst (v := 1) dX5_safe_76 (by decide) ?_
    refine g_lshr dX5_safe_77 ?_
    refine g_lstore dX5_safe_78 (by decide) rfl ?_
    refine g_iinc (v := nI (k + 1)) dX5_safe_80 rfl (nI_1 k) (by decide) rfl ?_
    refine g_goto (tgt := 51) dX5_safe_83 (by decide) ?_
    exact ih
  · by_cases hJ : r_fst (s_P (s_w (nI s) t).1 (s_l t)) (4 * t) < (4 * t)
    · have hP := r_fst_at hJ
      refine g_iload dX5_safe_51 rfl ?_
      refine g_iconst (v := nI 4) dX5_safe_53 (by decide) ?_
      refine g_iload_n dX5_safe_54 rfl ?_
      refine g_imul dX5_safe_55 ?_
      refine g_t (pk_mul 4 t) ?_
      refine g_icge (tgt := 86) dX5_safe_56 (by decide) (fun c56 => absurd c56 (nI_ge hJ (by omega))) (fun c56 => ?_)
      refine g_lload dX5_safe_59 rfl ?_
      refine g_lconst (v := 1) dX5_safe_61 (by decide) ?_
      refine g_land dX5_safe_62 ?_
      refine g_lconst (v := 0) dX5_safe_63 (by decide) ?_
      refine g_lcmp dX5_safe_64 ?_
      refine g_ifne (tgt := 86) dX5_safe_65 (by decide) (fun c65 => ?_) (fun c65 => absurd c65 (of_decide_eq_true hP))
      refine g_iload_n dX5_safe_86 rfl ?_
      refine g_ifne (tgt := 95) dX5_safe_87 (by decide) (fun c87 => absurd rfl c87) (fun c87 => ?_)
      refine g_lload dX5_safe_90 rfl ?_
      refine g_goto (tgt := 97) dX5_safe_92 (by decide) ?_
      exact g_lret dX5_safe_97 rfl ⟨rfl, rfl⟩
    · refine g_iload dX5_safe_51 rfl ?_
      refine g_iconst (v := nI 4) dX5_safe_53 (by decide) ?_
      refine g_iload_n dX5_safe_54 rfl ?_
      refine g_imul dX5_safe_55 ?_
      refine g_t (pk_mul 4 t) ?_
      refine g_icge (tgt := 86) dX5_safe_56 (by decide) (fun c56 => ?_) (fun c56 => absurd (nI_le (show (4 * t) ≤ r_fst (s_P (s_w (nI s) t).1 (s_l t)) (4 * t) by omega) (by omega)) c56)
      refine g_iload_n dX5_safe_86 rfl ?_
      refine g_ifne (tgt := 95) dX5_safe_87 (by decide) (fun c87 => absurd rfl c87) (fun c87 => ?_)
      refine g_lload dX5_safe_90 rfl ?_
      refine g_goto (tgt := 97) dX5_safe_92 (by decide) ?_
      exact g_lret dX5_safe_97 rfl ⟨rfl, rfl⟩

set_option maxRecDepth 4000 in
theorem ev_X5_safe_1 {σ : r_Sg} {t s : Nat} (ht : t ≤ 12) (hs : 1 ≤ s) (hs12 : s ≤ 12) : Ev 5 MX5_safe [.ref 0, .int (nI t), .int (nI s), .int 1] σ (some (.long (s_c t (nI s) true))) σ := by
  refine Ev_w [.ref 0, .int (nI t), .int (nI s), .int 1, .null, .null, .null, .null, .null] ?_ (by decide) rfl (Nat.le_of_ble_eq_true rfl) rfl
  refine g_iload_n dX5_safe_0 rfl ?_
  refine g_iflt (tgt := 30) dX5_safe_1 (by decide) (fun c1 => absurd c1 (nI_pos (by omega))) (fun c1 => ?_)
  refine g_iload_n dX5_safe_4 rfl ?_
  refine g_bipush (v := 12) dX5_safe_5 (by decide) ?_
  refine g_icgt (tgt := 30) dX5_safe_7 (by decide) (fun c7 => absurd c7 (Int32.not_lt.mpr (nI_le (b := 12) ht (by omega)))) (fun c7 => ?_)
  refine g_iload_n dX5_safe_10 rfl ?_
  refine g_iconst (v := 1) dX5_safe_11 (by decide) ?_
  refine g_iclt (tgt := 30) dX5_safe_12 (by decide) (fun c12 => absurd c12 (Int32.not_lt.mpr (nI_le (a := 1) hs (by omega)))) (fun c12 => ?_)
  refine g_iload_n dX5_safe_15 rfl ?_
  refine g_bipush (v := 12) dX5_safe_16 (by decide) ?_
  refine g_icgt (tgt := 30) dX5_safe_18 (by decide) (fun c18 => absurd c18 (Int32.not_lt.mpr (nI_le (b := 12) hs12 (by omega)))) (fun c18 => ?_)
  refine g_iload_n dX5_safe_21 rfl ?_
  refine g_iflt (tgt := 30) dX5_safe_22 (by decide) (fun c22 => absurd c22 (by decide)) (fun c22 => ?_)
  refine g_iload_n dX5_safe_25 rfl ?_
  refine g_iconst (v := 1) dX5_safe_26 (by decide) ?_
  refine g_icle (tgt := 34) dX5_safe_27 (by decide) (fun c27 => ?_) (fun c27 => absurd (by decide) c27)
  refine g_iload_n dX5_safe_34 rfl ?_
  refine g_iload_n dX5_safe_35 rfl ?_
  refine g_S2 dX5_safe_36 vX5_163 (Nat.le_of_ble_eq_true rfl) (by decide) (ev_X5_safeWalks ht) ?_
  refine g_lstore dX5_safe_39 (by decide) rfl ?_
  refine g_lconst (v := 1) dX5_safe_41 (by decide) ?_
  refine g_iconst (v := nI 4) dX5_safe_42 (by decide) ?_
  refine g_iload_n dX5_safe_43 rfl ?_
  refine g_imul dX5_safe_44 ?_
  refine g_t (pk_mul 4 t) ?_
  refine g_lshl dX5_safe_45 ?_
  refine g_lstore dX5_safe_46 (by decide) rfl ?_
  refine g_iconst (v := 0) dX5_safe_48 (by decide) ?_
  refine g_istore dX5_safe_49 (by decide) rfl ?_
  have hJle := r_fst_le (s_P (s_w (nI s) t).1 (s_l t)) (4 * t)
  refine r_loop (n := r_fst (s_P (s_w (nI s) t).1 (s_l t)) (4 * t)) (fun k => [.ref 0, .int (nI t), .int (nI s), .int 1, .long (s_r (s_w (nI s) t).1 (s_l t) k).1, .null, .long (s_r (s_w (nI s) t).1 (s_l t) k).2, .null, .int (nI k)]) (fun k => σ) (fun k hk ih => ?_) ?_
  · have hP := r_fst_not hk
    refine g_iload dX5_safe_51 rfl ?_
    refine g_iconst (v := nI 4) dX5_safe_53 (by decide) ?_
    refine g_iload_n dX5_safe_54 rfl ?_
    refine g_imul dX5_safe_55 ?_
    refine g_t (pk_mul 4 t) ?_
    refine g_icge (tgt := 86) dX5_safe_56 (by decide) (fun c56 => absurd c56 (nI_ge (show k < (4 * t) by omega) (by omega))) (fun c56 => ?_)
    refine g_lload dX5_safe_59 rfl ?_
    refine g_lconst (v := 1) dX5_safe_61 (by decide) ?_
    refine g_land dX5_safe_62 ?_
    refine g_lconst (v := 0) dX5_safe_63 (by decide) ?_
    refine g_lcmp dX5_safe_64 ?_
    refine g_ifne (tgt := 86) dX5_safe_65 (by decide) (fun c65 => absurd (Decidable.of_not_not (of_decide_eq_false hP)) c65) (fun c65 => ?_)
    refine g_lload dX5_safe_68 rfl ?_
    refine g_iconst (v := 1) dX5_safe_70 (by decide) ?_
    refine g_lshr dX5_safe_71 ?_
    refine g_lstore dX5_safe_72 (by decide) rfl ?_
    refine g_lload dX5_safe_74 rfl ?_
    refine g_iconst (v := 1) dX5_safe_76 (by decide) ?_
    refine g_lshr dX5_safe_77 ?_
    refine g_lstore dX5_safe_78 (by decide) rfl ?_
    refine g_iinc (v := nI (k + 1)) dX5_safe_80 rfl (nI_1 k) (by decide) rfl ?_
    refine g_goto (tgt := 51) dX5_safe_83 (by decide) ?_
    exact ih
  · by_cases hJ : r_fst (s_P (s_w (nI s) t).1 (s_l t)) (4 * t) < (4 * t)
    · have hP := r_fst_at hJ
      refine g_iload dX5_safe_51 rfl ?_
      refine g_iconst (v := nI 4) dX5_safe_53 (by decide) ?_
      refine g_iload_n dX5_safe_54 rfl ?_
      refine g_imul dX5_safe_55 ?_
      refine g_t (pk_mul 4 t) ?_
      refine g_icge (tgt := 86) dX5_safe_56 (by decide) (fun c56 => absurd c56 (nI_ge hJ (by omega))) (fun c56 => ?_)
      refine g_lload dX5_safe_59 rfl ?_
      refine g_lconst (v := 1) dX5_safe_61 (by decide) ?_
      refine g_land dX5_safe_62 ?_
      refine g_lconst (v := 0) dX5_safe_63 (by decide) ?_
      refine g_lcmp dX5_safe_64 ?_
      refine g_ifne (tgt := 86) dX5_safe_65 (by decide) (fun c65 => ?_) (fun c65 => absurd c65 (of_decide_eq_true hP))
      refine g_iload_n dX5_safe_86 rfl ?_
      refine g_ifne (tgt := 95) dX5_safe_87 (by decide) (fun c87 => ?_) (fun c87 => absurd c87 (by decide))
      refine g_lload dX5_safe_95 rfl ?_
      exact g_lret dX5_safe_97 rfl ⟨rfl, rfl⟩
    · refine g_iload dX5_safe_51 rfl ?_
      refine g_iconst (v := nI 4) dX5_safe_53 (by decide) ?_
      refine g_iload_n dX5_safe_54 rfl ?_
      refine g_imul dX5_safe_55 ?_
      refine g_t (pk_mul 4 t) ?_
      refine g_icge (tgt := 86) dX5_safe_56 (by decide) (fun c56 => ?_) (fun c56 => absurd (nI_le (show (4 * t) ≤ r_fst (s_P (s_w (nI s) t).1 (s_l t)) (4 * t) by omega) (by omega)) c56)
      refine g_iload_n dX5_safe_86 rfl ?_
      refine g_ifne (tgt := 95) dX5_safe_87 (by decide) (fun c87 => ?_) (fun c87 => absurd c87 (by decide))
      refine g_lload dX5_safe_95 rfl ?_
      exact g_lret dX5_safe_97 rfl ⟨rfl, rfl⟩

set_option maxRecDepth 4000 in
theorem ev_X6_safe_o {σ : r_Sg} {t s q : Int32} (hg : ¬ ((0 ≤ t ∧ t ≤ 12) ∧ (1 ≤ s ∧ s ≤ 12) ∧ 0 ≤ q ∧ q ≤ 1)) : Ev 5 MX6_safe [.ref 19, .int t, .int s, .int q] σ (some (.long (-9223372036854775808))) σ := by
  refine Ev_w [.ref 19, .int t, .int s, .int q, .null, .null, .null, .null, .null] ?_ (by decide) rfl (Nat.le_of_ble_eq_true rfl) rfl
  refine g_iload_n dX6_safe_0 rfl ?_
  refine g_iconst (v := 0) dX6_safe_1 (by decide) ?_
  refine g_bipush (v := 12) dX6_safe_2 (by decide) ?_
  refine g_S3 dX6_safe_4 vX6_68 (Nat.le_of_ble_eq_true rfl) (by decide) (ev_X6_within) ?_
  refine g_ifeq (tgt := 29) dX6_safe_7 (by decide) (fun c7 => ?_) (fun c7 => ?_)
  · refine g_ldc2 dX6_safe_29 kl_174 ?_
    exact g_lret dX6_safe_32 rfl ⟨rfl, rfl⟩
  · refine g_iload_n dX6_safe_10 rfl ?_
    refine g_iconst (v := 1) dX6_safe_11 (by decide) ?_
    refine g_bipush (v := 12) dX6_safe_12 (by decide) ?_
    refine g_S3 dX6_safe_14 vX6_68 (Nat.le_of_ble_eq_true rfl) (by decide) (ev_X6_within) ?_
    refine g_ifeq (tgt := 29) dX6_safe_17 (by decide) (fun c17 => ?_) (fun c17 => ?_)
    · refine g_ldc2 dX6_safe_29 kl_174 ?_
      exact g_lret dX6_safe_32 rfl ⟨rfl, rfl⟩
    · refine g_iload_n dX6_safe_20 rfl ?_
      refine g_iconst (v := 0) dX6_safe_21 (by decide) ?_
      refine g_iconst (v := 1) dX6_safe_22 (by decide) ?_
      refine g_S3 dX6_safe_23 vX6_68 (Nat.le_of_ble_eq_true rfl) (by decide) (ev_X6_within) ?_
      refine g_ifne (tgt := 33) dX6_safe_26 (by decide) (fun c26 => absurd (bI_0.mpr (fun z => hg ⟨bI_1.mp c7, bI_1.mp c17, z⟩)) c26) (fun c26 => ?_)
      refine g_ldc2 dX6_safe_29 kl_174 ?_
      exact g_lret dX6_safe_32 rfl ⟨rfl, rfl⟩

set_option maxRecDepth 4000 in
theorem ev_X6_safe_0 {σ : r_Sg} {t s : Nat} (ht : t ≤ 12) (hs : 1 ≤ s) (hs12 : s ≤ 12) (hJ : r_fst (s_Q (s_m s t).1 (s_m s t).2) 49 < 49) : Ev 5 MX6_safe [.ref 19, .int (nI t), .int (nI s), .int 0] σ (some (.long (s_d t s false))) σ := by
  refine Ev_w [.ref 19, .int (nI t), .int (nI s), .int 0, .null, .null, .null, .null, .null] ?_ (by decide) rfl (Nat.le_of_ble_eq_true rfl) rfl
  refine g_iload_n dX6_safe_0 rfl ?_
  refine g_iconst (v := 0) dX6_safe_1 (by decide) ?_
  refine g_bipush (v := 12) dX6_safe_2 (by decide) ?_
  refine g_S3 dX6_safe_4 vX6_68 (Nat.le_of_ble_eq_true rfl) (by decide) (ev_X6_within) ?_
  refine g_ifeq (tgt := 29) dX6_safe_7 (by decide) (fun c7 => absurd c7 (bI_1.mpr ⟨nI_pos' (by omega), nI_le (b := 12) ht (by omega)⟩)) (fun c7 => ?_)
  refine g_iload_n dX6_safe_10 rfl ?_
  refine g_iconst (v := 1) dX6_safe_11 (by decide) ?_
  refine g_bipush (v := 12) dX6_safe_12 (by decide) ?_
  refine g_S3 dX6_safe_14 vX6_68 (Nat.le_of_ble_eq_true rfl) (by decide) (ev_X6_within) ?_
  refine g_ifeq (tgt := 29) dX6_safe_17 (by decide) (fun c17 => absurd c17 (bI_1.mpr ⟨nI_le (a := 1) hs (by omega), nI_le (b := 12) hs12 (by omega)⟩)) (fun c17 => ?_)
  refine g_iload_n dX6_safe_20 rfl ?_
  refine g_iconst (v := 0) dX6_safe_21 (by decide) ?_
  refine g_iconst (v := 1) dX6_safe_22 (by decide) ?_
  refine g_S3 dX6_safe_23 vX6_68 (Nat.le_of_ble_eq_true rfl) (by decide) (ev_X6_within) ?_
  refine g_ifne (tgt := 33) dX6_safe_26 (by decide) (fun c26 => ?_) (fun c26 => absurd c26 (bI_1.mpr (by decide)))
  refine g_lconst (v := 1) dX6_safe_33 (by decide) ?_
  refine g_lstore dX6_safe_34 (by decide) rfl ?_
  refine g_lconst (v := 1) dX6_safe_36 (by decide) ?_
  refine g_lstore dX6_safe_37 (by decide) rfl ?_
  refine g_iconst (v := 0) dX6_safe_39 (by decide) ?_
  refine g_istore dX6_safe_40 (by decide) rfl ?_
  refine r_loop (n := t) (fun k => [.ref 19, .int (nI t), .int (nI s), .int 0, .long (s_m s k).1, .null, .long (s_m s k).2, .null, .int (nI k)]) (fun k => σ) (fun k hk ih => ?_) ?_
  · refine g_iload dX6_safe_42 rfl ?_
    refine g_iload_n dX6_safe_44 rfl ?_
    refine g_icge (tgt := 75) dX6_safe_45 (by decide) (fun c45 => absurd c45 (nI_ge hk (by omega))) (fun c45 => ?_)
    refine g_lload dX6_safe_48 rfl ?_
    refine g_bipush (v := 16) dX6_safe_50 (by decide) ?_
    refine g_iload dX6_safe_52 rfl ?_
    refine g_iload_n dX6_safe_54 rfl ?_
    refine g_irem dX6_safe_55 (nI_ne0 hs (by omega)) ?_
    refine g_t (pk_rem (show k < 2 ^ 31 by omega) (show 0 < s by omega) (by omega)) ?_
    refine g_isub dX6_safe_56 ?_
    refine g_i2l dX6_safe_57 ?_
    refine g_lmul dX6_safe_58 ?_
    refine g_lstore dX6_safe_59 (by decide) rfl ?_
    refine g_lload dX6_safe_61 rfl ?_
    refine g_ldc2 dX6_safe_63 kl_176 ?_
    refine g_lmul dX6_safe_66 ?_
    refine g_lstore dX6_safe_67 (by decide) rfl ?_
    refine g_iinc (v := nI (k + 1)) dX6_safe_69 rfl (nI_1 k) (by decide) rfl ?_
    refine g_goto (tgt := 42) dX6_safe_72 (by decide) ?_
    exact ih
  · refine g_iload dX6_safe_42 rfl ?_
    refine g_iload_n dX6_safe_44 rfl ?_
    refine g_icge (tgt := 75) dX6_safe_45 (by decide) (fun c45 => ?_) (fun c45 => absurd (nI_le (Nat.le_refl _) (by omega)) c45)
    refine g_w [.ref 19, .int (nI t), .int (nI s), .int 0, .long (s_m s t).1, .null, .long (s_m s t).2, .null, .null] (And.intro (Or.inr rfl) (And.intro (Or.inr rfl) (And.intro (Or.inr rfl) (And.intro (Or.inr rfl) (And.intro (Or.inr rfl) (And.intro (Or.inr rfl) (And.intro (Or.inr rfl) (And.intro (Or.inr rfl) (And.intro (Or.inl rfl) (True.intro)))))))))) ?_
    refine r_loop (n := r_fst (s_Q (s_m s t).1 (s_m s t).2) 49) (fun k => [.ref 19, .int (nI t), .int (nI s), .int 0, .long (s_n (s_m s t).1 (s_m s t).2 k).1, .null, .long (s_n (s_m s t).1 (s_m s t).2 k).2, .null, .null]) (fun _ => σ) (fun k hk ih => ?_) ?_
    · have hP := Decidable.of_not_not (of_decide_eq_false (r_fst_not hk))
      refine g_lload dX6_safe_75 rfl ?_
      refine g_ldc2 dX6_safe_77 kl_178 ?_
      refine g_lrem dX6_safe_80 (by decide) ?_
      refine g_lconst (v := 0) dX6_safe_81 (by decide) ?_
      refine g_lcmp dX6_safe_82 ?_
      refine g_ifne (tgt := 116) dX6_safe_83 (by decide) (fun c83 => absurd hP.1 c83) (fun c83 => ?_)
      refine g_lload dX6_safe_86 rfl ?_
      refine g_ldc2 dX6_safe_88 kl_178 ?_
      refine g_lrem dX6_safe_91 (by decide) ?_
      refine g_lconst (v := 0) dX6_safe_92 (by decide) ?_
      refine g_lcmp dX6_safe_93 ?_
      refine g_ifne (tgt := 116) dX6_safe_94 (by decide) (fun c94 => absurd hP.2 c94) (fun c94 => ?_)
      refine g_lload dX6_safe_97 rfl ?_
      refine g_ldc2 dX6_safe_99 kl_178 ?_
      refine g_ldiv dX6_safe_102 (by decide) ?_
      refine g_lstore dX6_safe_103 (by decide) rfl ?_
      refine g_lload dX6_safe_105 rfl ?_
      refine g_ldc2 dX6_safe_107 kl_178 ?_
      refine g_ldiv dX6_safe_110 (by decide) ?_
      refine g_lstore dX6_safe_111 (by decide) rfl ?_
      refine g_goto (tgt := 75) dX6_safe_113 (by decide) ?_
      exact ih
    · have hP := of_decide_eq_true (r_fst_at hJ)
      refine g_lload dX6_safe_75 rfl ?_
      refine g_ldc2 dX6_safe_77 kl_178 ?_
      refine g_lrem dX6_safe_80 (by decide) ?_
      refine g_lconst (v := 0) dX6_safe_81 (by decide) ?_
      refine g_lcmp dX6_safe_82 ?_
      refine g_ifne (tgt := 116) dX6_safe_83 (by decide) (fun c83 => ?_) (fun c83 => ?_)
      · refine g_iload_n dX6_safe_116 rfl ?_
        refine g_ifne (tgt := 125) dX6_safe_117 (by decide) (fun c117 => absurd rfl c117) (fun c117 => ?_)
        refine g_lload dX6_safe_120 rfl ?_
        refine g_goto (tgt := 127) dX6_safe_122 (by decide) ?_
        exact g_lret dX6_safe_127 rfl ⟨rfl, rfl⟩
      · refine g_lload dX6_safe_86 rfl ?_
        refine g_ldc2 dX6_safe_88 kl_178 ?_
        refine g_lrem dX6_safe_91 (by decide) ?_
        refine g_lconst (v := 0) dX6_safe_92 (by decide) ?_
        refine g_lcmp dX6_safe_93 ?_
        refine g_ifne (tgt := 116) dX6_safe_94 (by decide) (fun c94 => ?_) (fun c94 => absurd c94 (fun z => hP ⟨c83, z⟩))
        refine g_iload_n dX6_safe_116 rfl ?_
        refine g_ifne (tgt := 125) dX6_safe_117 (by decide) (fun c117 => absurd rfl c117) (fun c117 => ?_)
        refine g_lload dX6_safe_120 rfl ?_
        refine g_goto (tgt := 127) dX6_safe_122 (by decide) ?_
        exact g_lret dX6_safe_127 rfl ⟨rfl, rfl⟩

set_option maxRecDepth 4000 in
theorem ev_X6_safe_1 {σ : r_Sg} {t s : Nat} (ht : t ≤ 12) (hs : 1 ≤ s) (hs12 : s ≤ 12) (hJ : r_fst (s_Q (s_m s t).1 (s_m s t).2) 49 < 49) : Ev 5 MX6_safe [.ref 19, .int (nI t), .int (nI s), .int 1] σ (some (.long (s_d t s true))) σ := by
  refine Ev_w [.ref 19, .int (nI t), .int (nI s), .int 1, .null, .null, .null, .null, .null] ?_ (by decide) rfl (Nat.le_of_ble_eq_true rfl) rfl
  refine g_iload_n dX6_safe_0 rfl ?_
  refine g_iconst (v := 0) dX6_safe_1 (by decide) ?_
  refine g_bipush (v := 12) dX6_safe_2 (by decide) ?_
  refine g_S3 dX6_safe_4 vX6_68 (Nat.le_of_ble_eq_true rfl) (by decide) (ev_X6_within) ?_
  refine g_ifeq (tgt := 29) dX6_safe_7 (by decide) (fun c7 => absurd c7 (bI_1.mpr ⟨nI_pos' (by omega), nI_le (b := 12) ht (by omega)⟩)) (fun c7 => ?_)
  refine g_iload_n dX6_safe_10 rfl ?_
  refine g_iconst (v := 1) dX6_safe_11 (by decide) ?_
  refine g_bipush (v := 12) dX6_safe_12 (by decide) ?_
  refine g_S3 dX6_safe_14 vX6_68 (Nat.le_of_ble_eq_true rfl) (by decide) (ev_X6_within) ?_
  refine g_ifeq (tgt := 29) dX6_safe_17 (by decide) (fun c17 => absurd c17 (bI_1.mpr ⟨nI_le (a := 1) hs (by omega), nI_le (b := 12) hs12 (by omega)⟩)) (fun c17 => ?_)
  refine g_iload_n dX6_safe_20 rfl ?_
  refine g_iconst (v := 0) dX6_safe_21 (by decide) ?_
  refine g_iconst (v := 1) dX6_safe_22 (by decide) ?_
  refine g_S3 dX6_safe_23 vX6_68 (Nat.le_of_ble_eq_true rfl) (by decide) (ev_X6_within) ?_
  refine g_ifne (tgt := 33) dX6_safe_26 (by decide) (fun c26 => ?_) (fun c26 => absurd c26 (bI_1.mpr (by decide)))
  refine g_lconst (v := 1) dX6_safe_33 (by decide) ?_
  refine g_lstore dX6_safe_34 (by decide) rfl ?_
  refine g_lconst (v := 1) dX6_safe_36 (by decide) ?_
  refine g_lstore dX6_safe_37 (by decide) rfl ?_
  refine g_iconst (v := 0) dX6_safe_39 (by decide) ?_
  refine g_istore dX6_safe_40 (by decide) rfl ?_
  refine r_loop (n := t) (fun k => [.ref 19, .int (nI t), .int (nI s), .int 1, .long (s_m s k).1, .null, .long (s_m s k).2, .null, .int (nI k)]) (fun k => σ) (fun k hk ih => ?_) ?_
  · refine g_iload dX6_safe_42 rfl ?_
    refine g_iload_n dX6_safe_44 rfl ?_
    refine g_icge (tgt := 75) dX6_safe_45 (by decide) (fun c45 => absurd c45 (nI_ge hk (by omega))) (fun c45 => ?_)
    refine g_lload dX6_safe_48 rfl ?_
    refine g_bipush (v := 16) dX6_safe_50 (by decide) ?_
    refine g_iload dX6_safe_52 rfl ?_
    refine g_iload_n dX6_safe_54 rfl ?_
    refine g_irem dX6_safe_55 (nI_ne0 hs (by omega)) ?_
    refine g_t (pk_rem (show k < 2 ^ 31 by omega) (show 0 < s by omega) (by omega)) ?_
    refine g_isub dX6_safe_56 ?_
    refine g_i2l dX6_safe_57 ?_
    refine g_lmul dX6_safe_58 ?_
    refine g_lstore dX6_safe_59 (by decide) rfl ?_
    refine g_lload dX6_safe_61 rfl ?_
    refine g_ldc2 dX6_safe_63 kl_176 ?_
    refine g_lmul dX6_safe_66 ?_
    refine g_lstore dX6_safe_67 (by decide) rfl ?_
    refine g_iinc (v := nI (k + 1)) dX6_safe_69 rfl (nI_1 k) (by decide) rfl ?_
    refine g_goto (tgt := 42) dX6_safe_72 (by decide) ?_
    exact ih
  · refine g_iload dX6_safe_42 rfl ?_
    refine g_iload_n dX6_safe_44 rfl ?_
    refine g_icge (tgt := 75) dX6_safe_45 (by decide) (fun c45 => ?_) (fun c45 => absurd (nI_le (Nat.le_refl _) (by omega)) c45)
    refine g_w [.ref 19, .int (nI t), .int (nI s), .int 1, .long (s_m s t).1, .null, .long (s_m s t).2, .null, .null] (And.intro (Or.inr rfl) (And.intro (Or.inr rfl) (And.intro (Or.inr rfl) (And.intro (Or.inr rfl) (And.intro (Or.inr rfl) (And.intro (Or.inr rfl) (And.intro (Or.inr rfl) (And.intro (Or.inr rfl) (And.intro (Or.inl rfl) (True.intro)))))))))) ?_
    refine r_loop (n := r_fst (s_Q (s_m s t).1 (s_m s t).2) 49) (fun k => [.ref 19, .int (nI t), .int (nI s), .int 1, .long (s_n (s_m s t).1 (s_m s t).2 k).1, .null, .long (s_n (s_m s t).1 (s_m s t).2 k).2, .null, .null]) (fun _ => σ) (fun k hk ih => ?_) ?_
    · have hP := Decidable.of_not_not (of_decide_eq_false (r_fst_not hk))
      refine g_lload dX6_safe_75 rfl ?_
      refine g_ldc2 dX6_safe_77 kl_178 ?_
      refine g_lrem dX6_safe_80 (by decide) ?_
      refine g_lconst (v := 0) dX6_safe_81 (by decide) ?_
      refine g_lcmp dX6_safe_82 ?_
      refine g_ifne (tgt := 116) dX6_safe_83 (by decide) (fun c83 => absurd hP.1 c83) (fun c83 => ?_)
      refine g_lload dX6_safe_86 rfl ?_
      refine g_ldc2 dX6_safe_88 kl_178 ?_
      refine g_lrem dX6_safe_91 (by decide) ?_
      refine g_lconst (v := 0) dX6_safe_92 (by decide) ?_
      refine g_lcmp dX6_safe_93 ?_
      refine g_ifne (tgt := 116) dX6_safe_94 (by decide) (fun c94 => absurd hP.2 c94) (fun c94 => ?_)
      refine g_lload dX6_safe_97 rfl ?_
      refine g_ldc2 dX6_safe_99 kl_178 ?_
      refine g_ldiv dX6_safe_102 (by decide) ?_
      refine g_lstore dX6_safe_103 (by decide) rfl ?_
      refine g_lload dX6_safe_105 rfl ?_
      refine g_ldc2 dX6_safe_107 kl_178 ?_
      refine g_ldiv dX6_safe_110 (by decide) ?_
      refine g_lstore dX6_safe_111 (by decide) rfl ?_
      refine g_goto (tgt := 75) dX6_safe_113 (by decide) ?_
      exact ih
    · have hP := of_decide_eq_true (r_fst_at hJ)
      refine g_lload dX6_safe_75 rfl ?_
      refine g_ldc2 dX6_safe_77 kl_178 ?_
      refine g_lrem dX6_safe_80 (by decide) ?_
      refine g_lconst (v := 0) dX6_safe_81 (by decide) ?_
      refine g_lcmp dX6_safe_82 ?_
      refine g_ifne (tgt := 116) dX6_safe_83 (by decide) (fun c83 => ?_) (fun c83 => ?_)
      · refine g_iload_n dX6_safe_116 rfl ?_
        refine g_ifne (tgt := 125) dX6_safe_117 (by decide) (fun c117 => ?_) (fun c117 => absurd c117 (by decide))
        refine g_lload dX6_safe_125 rfl ?_
        exact g_lret dX6_safe_127 rfl ⟨rfl, rfl⟩
      · refine g_lload dX6_safe_86 rfl ?_
        refine g_ldc2 dX6_safe_88 kl_178 ?_
        refine g_lrem dX6_safe_91 (by decide) ?_
        refine g_lconst (v := 0) dX6_safe_92 (by decide) ?_
        refine g_lcmp dX6_safe_93 ?_
        refine g_ifne (tgt := 116) dX6_safe_94 (by decide) (fun c94 => ?_) (fun c94 => absurd c94 (fun z => hP ⟨c83, z⟩))
        refine g_iload_n dX6_safe_116 rfl ?_
        refine g_ifne (tgt := 125) dX6_safe_117 (by decide) (fun c117 => ?_) (fun c117 => absurd c117 (by decide))
        refine g_lload dX6_safe_125 rfl ?_
        exact g_lret dX6_safe_127 rfl ⟨rfl, rfl⟩

theorem s_ok : ∀ t, t < 13 → ∀ s, s < 12 → (r_fst (s_Q (s_m (s + 1) t).1 (s_m (s + 1) t).2) 49 < 49 ∧ s_c t (nI (s + 1)) false = s_d t (s + 1) false ∧ s_c t (nI (s + 1)) true = s_d t (s + 1) true) := by decide +kernel
