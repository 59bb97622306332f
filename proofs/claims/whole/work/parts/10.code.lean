/-! code() of the class; what is asked of a code, on both sides -/
theorem kf_MD : Cond.fieldLink RX2 21 "MendedBank$Code" "MOST_DATA" "[I" ∈ r_tbl := lk 168 (by decide +kernel)
theorem r_mdx {c : Int32} (h1 : ¬ c < 4) (h2 : ¬ 6 < c) : vp_in (c - 4) 3 ∧ r_md (c - 4).toNatClampNeg = .int (if c = 4 then 4 else if c = 5 then 11 else 14) := by
  have h1' := Int32.not_lt.mp h1
  have h2' := Int32.not_lt.mp h2
  have hc0 : ¬ c < 0 := by rw [Int32.lt_iff_toInt_lt]; rw [Int32.le_iff_toInt_le] at h1'; have e : (4 : Int32).toInt = 4 := rfl; have e2 : (0 : Int32).toInt = 0 := rfl; omega
  obtain ⟨b, hb, rfl⟩ := nI_of hc0
  have g1 : 4 ≤ b := (nI_leI (a := 4) (by omega) hb).mp h1'
  have g2 : b ≤ 6 := (nI_leI (b := 6) hb (by omega)).mp h2'
  rcases (show b = 4 ∨ b = 5 ∨ b = 6 by omega) with rfl | rfl | rfl
  · exact ⟨vp_in_nI (n := 0) (by omega) (by omega), rfl⟩
  · exact ⟨vp_in_nI (n := 1) (by omega) (by omega), rfl⟩
  · exact ⟨vp_in_nI (n := 2) (by omega) (by omega), rfl⟩
/-- a number that is not too small and not too large is a place -/
theorem r_nat {b : Int32} {w : Nat} (h : 0 ≤ b ∧ b < nI w) (hw : w < 2 ^ 31) : ∃ j, j < w ∧ b = nI j := by
  obtain ⟨j, hj, rfl⟩ := nI_of (Int32.not_lt.mpr h.1)
  exact ⟨j, (nI_ltI hj hw).mp h.2, rfl⟩
theorem r_le1 {b : Int32} {w : Nat} (hw : w < 2 ^ 30) : (0 ≤ b ∧ b ≤ nI w - 1) ↔ (0 ≤ b ∧ b < nI w) := by
  have h1 : (nI w - 1).toInt = (w : Int) - 1 := pk_sub_toInt (b := 1) (by omega) (by omega)
  have h2 : (nI w).toInt = (w : Int) := nI_toInt (by omega)
  rw [Int32.le_iff_toInt_le, Int32.le_iff_toInt_le, Int32.lt_iff_toInt_lt, h1, h2]
  omega
def r_clr (σ : r_Sg) : r_Sg := r_fill (r_fill (r_fill σ 7 24 0) 8 24 0) 9 504 0
def r_lclr (σ : r_Sg) : r_Sg := r_up (r_up (r_up (r_up (r_up (r_up (r_up (r_fill (r_fill σ 11 3 0) 12 4 0) 10 3 0) 10 4 (-9)) 10 5 (-9)) 10 6 (-9)) 10 7 (-9)) 10 8 (-9)) 10 9 (-9)
def r_ren (σ : r_Sg) (w : Nat) : r_Sg := r_up (r_up (r_up (r_up (r_up (r_fill (r_idn (r_lclr (r_clr σ)) 14 4) 15 16 0) 5 6 0) 5 7 (-9)) 5 8 (nI w)) 5 9 0) 5 10 0
def r_men (bo : Int32 → Int32) (set y : Int32) : Int32 := if y = 0 then set else if bo y = -9 then -5 else set ^^^ (1 <<< (bo y &&& 31))
def r_bit (cf : Nat → Int32) (w : Nat) (y : Int32) : Int32 := if r_fst (fun j => decide (cf j = y)) w < w then nI (r_fst (fun j => decide (cf j = y)) w) else -9
theorem r_mend_men (σ : r_Sg) (set y : Int32) : r_mend σ set y = r_men (fun z => σ 4 z.toNatClampNeg) set y := rfl
theorem r_b01 (x : Int32) (b : Nat) : r_b x b = 0 ∨ r_b x b = 1 := by
  obtain ⟨j, hj, e⟩ := pk_andE (x >>> (nI b &&& 31)) (m := 1) 1 rfl
  unfold r_b
  rw [e]
  rcases (show j = 0 ∨ j = 1 by omega) with rfl | rfl
  · exact Or.inl rfl
  · exact Or.inr rfl

set_option maxRecDepth 4000 in
theorem ev_X2_allows {σ : r_Sg} {d c : Int32}  : Ev 0 MX2_allows [.int d, .int c] σ (some (.int (bI ((4 ≤ c ∧ c ≤ 6) ∧ 1 ≤ d ∧ d ≤ (if c = 4 then 4 else if c = 5 then 11 else 14))))) σ := by
  obtain ⟨z, hz⟩ : ∃ z : Int32, z = (if c = 4 then 4 else if c = 5 then 11 else 14) := ⟨_, rfl⟩
  rw [← hz]
  refine Ev_w [.int d, .int c] ?_ (by decide) rfl (Nat.le_of_ble_eq_true rfl) rfl
  refine g_iload_n dX2_allows_0 rfl ?_
  refine g_iconst (v := 4) dX2_allows_1 (by decide) ?_
  refine g_iclt (tgt := 31) dX2_allows_2 (by decide) (fun c2 => ?_) (fun c2 => ?_)
  · refine g_iconst (v := 0) dX2_allows_31 (by decide) ?_
    exact g_zret dX2_allows_32 rfl (by first | exact Or.inl rfl | exact Or.inr rfl) ⟨by simp only [bI_0, Decidable.not_not, Int32.not_le, Int32.not_lt, Int32.lt_iff_toInt_lt, Int32.le_iff_toInt_le] at *; unfold bI; split <;> first | rfl | (exfalso; omega), rfl⟩
  · refine g_iload_n dX2_allows_5 rfl ?_
    refine g_bipush (v := 6) dX2_allows_6 (by decide) ?_
    refine g_icgt (tgt := 31) dX2_allows_8 (by decide) (fun c8 => ?_) (fun c8 => ?_)
    · refine g_iconst (v := 0) dX2_allows_31 (by decide) ?_
      exact g_zret dX2_allows_32 rfl (by first | exact Or.inl rfl | exact Or.inr rfl) ⟨by simp only [bI_0, Decidable.not_not, Int32.not_le, Int32.not_lt, Int32.lt_iff_toInt_lt, Int32.le_iff_toInt_le] at *; unfold bI; split <;> first | rfl | (exfalso; omega), rfl⟩
    · refine g_iload_n dX2_allows_11 rfl ?_
      refine g_iconst (v := 1) dX2_allows_12 (by decide) ?_
      refine g_iclt (tgt := 31) dX2_allows_13 (by decide) (fun c13 => ?_) (fun c13 => ?_)
      · refine g_iconst (v := 0) dX2_allows_31 (by decide) ?_
        exact g_zret dX2_allows_32 rfl (by first | exact Or.inl rfl | exact Or.inr rfl) ⟨by simp only [bI_0, Decidable.not_not, Int32.not_le, Int32.not_lt, Int32.lt_iff_toInt_lt, Int32.le_iff_toInt_le] at *; unfold bI; split <;> first | rfl | (exfalso; omega), rfl⟩
      · refine g_iload_n dX2_allows_16 rfl ?_
        have hx := r_mdx c2 c8
        rw [← hz] at hx
        refine g_gets dX2_allows_17 kf_MD ?_
        refine g_iload_n dX2_allows_20 rfl ?_
        refine g_iconst (v := 4) dX2_allows_21 (by decide) ?_
        refine g_isub dX2_allows_22 ?_
        refine g_tld dX2_allows_23 hx.1 hx.2 ?_
        refine g_icgt (tgt := 31) dX2_allows_24 (by decide) (fun c24 => ?_) (fun c24 => ?_)
        · refine g_iconst (v := 0) dX2_allows_31 (by decide) ?_
          exact g_zret dX2_allows_32 rfl (by first | exact Or.inl rfl | exact Or.inr rfl) ⟨by simp only [bI_0, Decidable.not_not, Int32.not_le, Int32.not_lt, Int32.lt_iff_toInt_lt, Int32.le_iff_toInt_le] at *; unfold bI; split <;> first | rfl | (exfalso; omega), rfl⟩
        · refine g_iconst (v := 1) dX2_allows_27 (by decide) ?_
          refine g_goto (tgt := 32) dX2_allows_28 (by decide) ?_
          exact g_zret dX2_allows_32 rfl (by first | exact Or.inl rfl | exact Or.inr rfl) ⟨by simp only [bI_0, Decidable.not_not, Int32.not_le, Int32.not_lt, Int32.lt_iff_toInt_lt, Int32.le_iff_toInt_le] at *; unfold bI; split <;> first | rfl | (exfalso; omega), rfl⟩

set_option maxRecDepth 4000 in
theorem ev_X1_clear {σ : r_Sg}  : Ev 1 MX1_clear [.ref 6] σ none (r_clr σ) := by
  refine Ev_w [.ref 6] ?_ (by decide) rfl (Nat.le_of_ble_eq_true rfl) rfl
  refine g_aload_n dX1_clear_0 rfl ?_
  refine g_getR dX1_clear_1 fX1_13 rfl rfl ?_
  refine g_iconst (v := 0) dX1_clear_4 (by decide) ?_
  refine g_S2v dX1_clear_5 vX1_23 (Nat.le_of_ble_eq_true rfl) (by decide) (ev_J7_fill_53178 rfl) ?_
  refine g_aload_n dX1_clear_8 rfl ?_
  refine g_getR dX1_clear_9 fX1_17 rfl rfl ?_
  refine g_iconst (v := 0) dX1_clear_12 (by decide) ?_
  refine g_S2v dX1_clear_13 vX1_23 (Nat.le_of_ble_eq_true rfl) (by decide) (ev_J7_fill_53178 rfl) ?_
  refine g_aload_n dX1_clear_16 rfl ?_
  refine g_getR dX1_clear_17 fX1_20 rfl rfl ?_
  refine g_iconst (v := 0) dX1_clear_20 (by decide) ?_
  refine g_S2v dX1_clear_21 vX1_23 (Nat.le_of_ble_eq_true rfl) (by decide) (ev_J7_fill_53178 rfl) ?_
  exact g_ret dX1_clear_24 rfl ⟨rfl, rfl⟩

set_option maxRecDepth 4000 in
theorem ev_X4_clear {σ : r_Sg}  : Ev 1 MX4_clear [.ref 10] σ none (r_lclr σ) := by
  refine Ev_w [.ref 10] ?_ (by decide) rfl (Nat.le_of_ble_eq_true rfl) rfl
  refine g_aload_n dX4_clear_0 rfl ?_
  refine g_getR dX4_clear_1 fX4_9 rfl rfl ?_
  refine g_iconst (v := 0) dX4_clear_4 (by decide) ?_
  refine g_S2v dX4_clear_5 vX4_40 (Nat.le_of_ble_eq_true rfl) (by decide) (ev_J7_fill_53178 rfl) ?_
  refine g_aload_n dX4_clear_8 rfl ?_
  refine g_getR dX4_clear_9 fX4_15 rfl rfl ?_
  refine g_iconst (v := 0) dX4_clear_12 (by decide) ?_
  refine g_S2v dX4_clear_13 vX4_40 (Nat.le_of_ble_eq_true rfl) (by decide) (ev_J7_fill_53178 rfl) ?_
  refine g_aload_n dX4_clear_16 rfl ?_
  refine g_iconst (v := 0) dX4_clear_17 (by decide) ?_
  refine g_putI dX4_clear_18 pX4_46 rfl rfl ?_
  refine g_aload_n dX4_clear_21 rfl ?_
  refine g_bipush (v := (-9)) dX4_clear_22 (by decide) ?_
  refine g_putI dX4_clear_24 pX4_21 rfl rfl ?_
  refine g_aload_n dX4_clear_27 rfl ?_
  refine g_bipush (v := (-9)) dX4_clear_28 (by decide) ?_
  refine g_putI dX4_clear_30 pX4_25 rfl rfl ?_
  refine g_aload_n dX4_clear_33 rfl ?_
  refine g_bipush (v := (-9)) dX4_clear_34 (by decide) ?_
  refine g_putI dX4_clear_36 pX4_28 rfl rfl ?_
  refine g_aload_n dX4_clear_39 rfl ?_
  refine g_bipush (v := (-9)) dX4_clear_40 (by decide) ?_
  refine g_putI dX4_clear_42 pX4_31 rfl rfl ?_
  refine g_aload_n dX4_clear_45 rfl ?_
  refine g_bipush (v := (-9)) dX4_clear_46 (by decide) ?_
  refine g_putI dX4_clear_48 pX4_34 rfl rfl ?_
  refine g_aload_n dX4_clear_51 rfl ?_
  refine g_bipush (v := (-9)) dX4_clear_52 (by decide) ?_
  refine g_putI dX4_clear_54 pX4_37 rfl rfl ?_
  exact g_ret dX4_clear_57 rfl ⟨rfl, rfl⟩

set_option maxRecDepth 4000 in
theorem ev_X0_renew {σ : r_Sg} {w : Nat} (hw : σ 1 3 + σ 1 4 = nI w) : Ev 2 MX0_renew [.ref 5] σ none (r_ren σ w) := by
  refine Ev_w [.ref 5, .null] ?_ (by decide) rfl (Nat.le_of_ble_eq_true rfl) rfl
  refine g_aload_n dX0_renew_0 rfl ?_
  refine g_getR dX0_renew_1 fX0_12 rfl rfl ?_
  refine g_V0v dX0_renew_4 vX0_43 rfl (Nat.le_of_ble_eq_true rfl) (by decide) (ev_X1_clear) ?_
  refine g_aload_n dX0_renew_7 rfl ?_
  refine g_getR dX0_renew_8 fX0_21 rfl rfl ?_
  refine g_V0v dX0_renew_11 vX0_46 rfl (Nat.le_of_ble_eq_true rfl) (by decide) (ev_X4_clear) ?_
  refine g_iconst (v := 0) dX0_renew_14 (by decide) ?_
  refine g_istore_n dX0_renew_15 (by decide) rfl ?_
  refine g_g (r_idn_0 _ 14) ?_
  refine r_loop (n := 4) (fun k => [.ref 5, .int (nI k)]) (fun k => r_idn (r_lclr (r_clr σ)) 14 k) (fun k hk ih => ?_) ?_
  · refine g_iload_n dX0_renew_16 rfl ?_
    refine g_iconst (v := nI 4) dX0_renew_17 (by decide) ?_
    refine g_icge (tgt := 34) dX0_renew_18 (by decide) (fun c18 => absurd c18 (nI_ge hk (by omega))) (fun c18 => ?_)
    refine g_aload_n dX0_renew_21 rfl ?_
    refine g_getR dX0_renew_22 fX0_25 rfl rfl ?_
    refine g_iload_n dX0_renew_25 rfl ?_
    refine g_iload_n dX0_renew_26 rfl ?_
    refine g_ias _ dX0_renew_27 rfl rfl (by omega) ?_
    refine g_iinc (v := nI (k + 1)) dX0_renew_28 rfl (nI_1 k) (by decide) rfl ?_
    refine g_goto (tgt := 16) dX0_renew_31 (by decide) ?_
    exact g_g (r_idn_s _ _ _) ih
  · refine g_iload_n dX0_renew_16 rfl ?_
    refine g_iconst (v := nI 4) dX0_renew_17 (by decide) ?_
    refine g_icge (tgt := 34) dX0_renew_18 (by decide) (fun c18 => ?_) (fun c18 => absurd (nI_le (Nat.le_refl _) (by omega)) c18)
    refine g_aload_n dX0_renew_34 rfl ?_
    refine g_getR dX0_renew_35 fX0_29 rfl rfl ?_
    refine g_iconst (v := 0) dX0_renew_38 (by decide) ?_
    refine g_S2v dX0_renew_39 vX0_47 (Nat.le_of_ble_eq_true rfl) (by decide) (ev_J7_fill_53178 rfl) ?_
    refine g_aload_n dX0_renew_42 rfl ?_
    refine g_iconst (v := 0) dX0_renew_43 (by decide) ?_
    refine g_putI dX0_renew_44 pX0_53 rfl rfl ?_
    refine g_aload_n dX0_renew_47 rfl ?_
    refine g_bipush (v := (-9)) dX0_renew_48 (by decide) ?_
    refine g_putI dX0_renew_50 pX0_35 rfl rfl ?_
    refine g_aload_n dX0_renew_53 rfl ?_
    refine g_aload_n dX0_renew_54 rfl ?_
    refine g_getR dX0_renew_55 fX0_39 rfl rfl ?_
    refine g_V0 dX0_renew_58 vX0_56 rfl (Nat.le_of_ble_eq_true rfl) (by decide) (Ev_r (r' := some (.int (nI w))) ev_X2_width (by simp [r_up, upd, r_fill, r_idn, r_lclr, r_clr, hw])) ?_
    refine g_putI dX0_renew_61 pX0_62 rfl rfl ?_
    refine g_aload_n dX0_renew_64 rfl ?_
    refine g_iconst (v := 0) dX0_renew_65 (by decide) ?_
    refine g_putI dX0_renew_66 pX0_65 rfl rfl ?_
    refine g_aload_n dX0_renew_69 rfl ?_
    refine g_iconst (v := 0) dX0_renew_70 (by decide) ?_
    refine g_putI dX0_renew_71 pX0_68 rfl rfl ?_
    exact g_ret dX0_renew_74 rfl ⟨rfl, rfl⟩

set_option maxRecDepth 4000 in
theorem ev_X3_forget {σ : r_Sg}  : Ev 0 MX3_forget [.ref 17] σ none (r_up σ 17 2 0) := by
  refine Ev_w [.ref 17] ?_ (by decide) rfl (Nat.le_of_ble_eq_true rfl) rfl
  refine g_aload_n dX3_forget_0 rfl ?_
  refine g_iconst (v := 0) dX3_forget_1 (by decide) ?_
  refine g_putZ dX3_forget_2 pX3_21 rfl rfl (by decide) ?_
  exact g_ret dX3_forget_5 rfl ⟨rfl, rfl⟩

set_option maxRecDepth 4000 in
theorem ev_X5_code_ok {σ : r_Sg} {d c : Nat} (hok : r_ok d c) : Ev 4 MX5_code [.ref 0, .int (nI d), .int (nI c)] σ (some (.int (nI (d + c)))) (r_up (r_ren (r_cf (r_up (r_up σ 1 3 (nI d)) 1 4 (nI c)) c d c) (d + c)) 17 2 0) := by
  have hg := r_guard.mp ⟨d, c, hok, rfl, rfl⟩
  refine Ev_w [.ref 0, .int (nI d), .int (nI c)] ?_ (by decide) rfl (Nat.le_of_ble_eq_true rfl) rfl
  refine g_iload_n dX5_code_0 rfl ?_
  refine g_iload_n dX5_code_1 rfl ?_
  refine g_S2 dX5_code_2 vX5_34 (Nat.le_of_ble_eq_true rfl) (by decide) (ev_X2_allows) ?_
  refine g_ifne (tgt := 11) dX5_code_5 (by decide) (fun c5 => ?_) (fun c5 => absurd c5 (bI_1.mpr hg))
  refine g_aload_n dX5_code_11 rfl ?_
  refine g_getR dX5_code_12 fX5_12 rfl rfl ?_
  refine g_iload_n dX5_code_15 rfl ?_
  refine g_iload_n dX5_code_16 rfl ?_
  refine g_V2v dX5_code_17 vX5_38 rfl (Nat.le_of_ble_eq_true rfl) (by decide) (ev_X2_choose hok) ?_
  refine g_aload_n dX5_code_20 rfl ?_
  refine g_getR dX5_code_21 fX5_23 rfl rfl ?_
  refine g_V0v dX5_code_24 vX5_42 rfl (Nat.le_of_ble_eq_true rfl) (by decide) (ev_X0_renew (w := d + c) (by simp [r_cf, r_up, upd, nI_add])) ?_
  refine g_aload_n dX5_code_27 rfl ?_
  refine g_getR dX5_code_28 fX5_30 rfl rfl ?_
  refine g_V0v dX5_code_31 vX5_45 rfl (Nat.le_of_ble_eq_true rfl) (by decide) (ev_X3_forget) ?_
  refine g_aload_n dX5_code_34 rfl ?_
  refine g_getR dX5_code_35 fX5_12 rfl rfl ?_
  refine g_V0 dX5_code_38 vX5_48 rfl (Nat.le_of_ble_eq_true rfl) (by decide) (Ev_r (r' := some (.int (nI (d + c)))) ev_X2_width (by simp [r_up, upd, r_fill, r_idn, r_ren, r_lclr, r_clr, r_cf, nI_add])) ?_
  exact g_iret dX5_code_41 rfl ⟨rfl, rfl⟩

set_option maxRecDepth 4000 in
theorem ev_X5_code_no {σ : r_Sg} {d c : Int32} (hno : ¬ ∃ a b : Nat, r_ok a b ∧ d = nI a ∧ c = nI b) : Ev 4 MX5_code [.ref 0, .int d, .int c] σ (some (.int (-2))) σ := by
  rw [r_guard] at hno
  refine Ev_w [.ref 0, .int d, .int c] ?_ (by decide) rfl (Nat.le_of_ble_eq_true rfl) rfl
  refine g_iload_n dX5_code_0 rfl ?_
  refine g_iload_n dX5_code_1 rfl ?_
  refine g_S2 dX5_code_2 vX5_34 (Nat.le_of_ble_eq_true rfl) (by decide) (ev_X2_allows) ?_
  refine g_ifne (tgt := 11) dX5_code_5 (by decide) (fun c5 => absurd (bI_0.mpr hno) c5) (fun c5 => ?_)
  refine g_bipush (v := (-2)) dX5_code_8 (by decide) ?_
  exact g_iret dX5_code_10 rfl ⟨rfl, rfl⟩

set_option maxRecDepth 4000 in
theorem ev_X5_column {σ : r_Sg} {w : Nat} {b : Int32} (hw : σ 1 3 + σ 1 4 = nI w) (hw20 : w ≤ 20) : Ev 2 MX5_column [.ref 0, .int b] σ (some (.int (if 0 ≤ b ∧ b < nI w then σ 2 b.toNatClampNeg else -1))) σ := by
  refine Ev_w [.ref 0, .int b] ?_ (by decide) rfl (Nat.le_of_ble_eq_true rfl) rfl
  refine g_aload_n dX5_column_0 rfl ?_
  refine g_getR dX5_column_1 fX5_12 rfl rfl ?_
  refine g_iload_n dX5_column_4 rfl ?_
  refine g_V1 dX5_column_5 vX5_52 rfl (Nat.le_of_ble_eq_true rfl) (by decide) (ev_X2_hasBit) ?_
  refine g_ifeq (tgt := 22) dX5_column_8 (by decide) (fun c8 => ?_) (fun c8 => ?_)
  · have q8 := bI_0.mp c8
    rw [hw] at q8
    refine g_iconst (v := (-1)) dX5_column_22 (by decide) ?_
    exact g_iret dX5_column_23 rfl ⟨by first | rw [if_neg q8] | rw [if_pos q8, nI_clamp (by omega)], rfl⟩
  · have q8 := bI_1.mp c8
    rw [hw] at q8
    obtain ⟨j, hj, rfl⟩ := r_nat q8 (by omega)
    refine g_aload_n dX5_column_11 rfl ?_
    refine g_getR dX5_column_12 fX5_12 rfl rfl ?_
    refine g_iload_n dX5_column_15 rfl ?_
    refine g_V1 dX5_column_16 vX5_56 rfl (Nat.le_of_ble_eq_true rfl) (by decide) (ev_X2_columnOf (by omega)) ?_
    refine g_goto (tgt := 23) dX5_column_19 (by decide) ?_
    exact g_iret dX5_column_23 rfl ⟨by first | rw [if_neg q8] | rw [if_pos q8, nI_clamp (by omega)], rfl⟩

set_option maxRecDepth 4000 in
theorem ev_X5_ones {σ : r_Sg} {c : Nat} {b : Int32} (hc : σ 1 4 = nI c) (hc6 : c ≤ 6) : Ev 1 MX5_ones [.ref 0, .int b] σ (some (.int (if 0 ≤ b ∧ b < nI c then σ 3 b.toNatClampNeg else -1))) σ := by
  refine Ev_w [.ref 0, .int b] ?_ (by decide) rfl (Nat.le_of_ble_eq_true rfl) rfl
  refine g_aload_n dX5_ones_0 rfl ?_
  refine g_getR dX5_ones_1 fX5_12 rfl rfl ?_
  refine g_iload_n dX5_ones_4 rfl ?_
  refine g_V1 dX5_ones_5 vX5_60 rfl (Nat.le_of_ble_eq_true rfl) (by decide) (ev_X2_hasRow) ?_
  refine g_ifeq (tgt := 22) dX5_ones_8 (by decide) (fun c8 => ?_) (fun c8 => ?_)
  · have q8 := bI_0.mp c8
    rw [hc] at q8
    refine g_iconst (v := (-1)) dX5_ones_22 (by decide) ?_
    exact g_iret dX5_ones_23 rfl ⟨by first | rw [if_neg q8] | rw [if_pos q8, nI_clamp (by omega)], rfl⟩
  · have q8 := bI_1.mp c8
    rw [hc] at q8
    obtain ⟨j, hj, rfl⟩ := r_nat q8 (by omega)
    refine g_aload_n dX5_ones_11 rfl ?_
    refine g_getR dX5_ones_12 fX5_12 rfl rfl ?_
    refine g_iload_n dX5_ones_15 rfl ?_
    refine g_V1 dX5_ones_16 vX5_63 rfl (Nat.le_of_ble_eq_true rfl) (by decide) (ev_X2_onesOfRow (by omega)) ?_
    refine g_goto (tgt := 23) dX5_ones_19 (by decide) ?_
    exact g_iret dX5_ones_23 rfl ⟨by first | rw [if_neg q8] | rw [if_pos q8, nI_clamp (by omega)], rfl⟩

set_option maxRecDepth 4000 in
theorem ev_X5_word {σ : r_Sg} {w : Nat} {v : Int32} (hw : σ 1 3 + σ 1 4 = nI w) (hw20 : w ≤ 20) : Ev 3 MX5_word [.ref 0, .int v] σ (some (.int (if 0 < σ 1 4 then (if 0 ≤ v ∧ v < 1 <<< (σ 1 3 &&& 31) then v ||| (r_syn (σ 2) v w <<< (σ 1 3 &&& 31)) else -2) else -3))) σ := by
  refine Ev_w [.ref 0, .int v] ?_ (by decide) rfl (Nat.le_of_ble_eq_true rfl) rfl
  refine g_aload_n dX5_word_0 rfl ?_
  refine g_getR dX5_word_1 fX5_12 rfl rfl ?_
  refine g_V0 dX5_word_4 vX5_66 rfl (Nat.le_of_ble_eq_true rfl) (by decide) (ev_X2_stands) ?_
  refine g_ifne (tgt := 13) dX5_word_7 (by decide) (fun c7 => ?_) (fun c7 => ?_)
  · have q7 := bI_1.mp c7
    refine g_aload_n dX5_word_13 rfl ?_
    refine g_getR dX5_word_14 fX5_12 rfl rfl ?_
    refine g_iload_n dX5_word_17 rfl ?_
    refine g_V1 dX5_word_18 vX5_70 rfl (Nat.le_of_ble_eq_true rfl) (by decide) (ev_X2_hasValue) ?_
    refine g_ifeq (tgt := 35) dX5_word_21 (by decide) (fun c21 => ?_) (fun c21 => ?_)
    · have q21 := bI_0.mp c21
      refine g_bipush (v := (-2)) dX5_word_35 (by decide) ?_
      exact g_iret dX5_word_37 rfl ⟨by first | rw [if_pos q7, if_pos q21] | rw [if_pos q7, if_neg q21], rfl⟩
    · have q21 := bI_1.mp c21
      refine g_aload_n dX5_word_24 rfl ?_
      refine g_getR dX5_word_25 fX5_12 rfl rfl ?_
      refine g_iload_n dX5_word_28 rfl ?_
      refine g_V1 dX5_word_29 vX5_73 rfl (Nat.le_of_ble_eq_true rfl) (by decide) (ev_X2_wordOf (by first | assumption | omega) (by first | assumption | omega)) ?_
      refine g_goto (tgt := 37) dX5_word_32 (by decide) ?_
      exact g_iret dX5_word_37 rfl ⟨by first | rw [if_pos q7, if_pos q21] | rw [if_pos q7, if_neg q21], rfl⟩
  · have q7 := bI_0.mp c7
    refine g_bipush (v := (-3)) dX5_word_10 (by decide) ?_
    exact g_iret dX5_word_12 rfl ⟨by rw [if_neg q7], rfl⟩

set_option maxRecDepth 4000 in
theorem ev_X5_syndrome {σ : r_Sg} {w : Nat} {v : Int32} (hw : σ 1 3 + σ 1 4 = nI w) (hw20 : w ≤ 20) : Ev 3 MX5_syndrome [.ref 0, .int v] σ (some (.int (if 0 < σ 1 4 then (if 0 ≤ v ∧ v ≤ (1 <<< ((σ 1 3 + σ 1 4) &&& 31)) - 1 then r_syn (σ 2) v w else -2) else -3))) σ := by
  refine Ev_w [.ref 0, .int v] ?_ (by decide) rfl (Nat.le_of_ble_eq_true rfl) rfl
  refine g_aload_n dX5_syndrome_0 rfl ?_
  refine g_getR dX5_syndrome_1 fX5_12 rfl rfl ?_
  refine g_V0 dX5_syndrome_4 vX5_66 rfl (Nat.le_of_ble_eq_true rfl) (by decide) (ev_X2_stands) ?_
  refine g_ifne (tgt := 13) dX5_syndrome_7 (by decide) (fun c7 => ?_) (fun c7 => ?_)
  · have q7 := bI_1.mp c7
    refine g_aload_n dX5_syndrome_13 rfl ?_
    refine g_getR dX5_syndrome_14 fX5_12 rfl rfl ?_
    refine g_iload_n dX5_syndrome_17 rfl ?_
    refine g_V1 dX5_syndrome_18 vX5_76 rfl (Nat.le_of_ble_eq_true rfl) (by decide) (ev_X2_hasSet) ?_
    refine g_ifeq (tgt := 35) dX5_syndrome_21 (by decide) (fun c21 => ?_) (fun c21 => ?_)
    · have q21 := bI_0.mp c21
      refine g_bipush (v := (-2)) dX5_syndrome_35 (by decide) ?_
      exact g_iret dX5_syndrome_37 rfl ⟨by first | rw [if_pos q7, if_pos q21] | rw [if_pos q7, if_neg q21], rfl⟩
    · have q21 := bI_1.mp c21
      refine g_aload_n dX5_syndrome_24 rfl ?_
      refine g_getR dX5_syndrome_25 fX5_12 rfl rfl ?_
      refine g_iload_n dX5_syndrome_28 rfl ?_
      refine g_V1 dX5_syndrome_29 vX5_79 rfl (Nat.le_of_ble_eq_true rfl) (by decide) (ev_X2_syndromeOf (by first | assumption | omega) (by first | assumption | omega)) ?_
      refine g_goto (tgt := 37) dX5_syndrome_32 (by decide) ?_
      exact g_iret dX5_syndrome_37 rfl ⟨by first | rw [if_pos q7, if_pos q21] | rw [if_pos q7, if_neg q21], rfl⟩
  · have q7 := bI_0.mp c7
    refine g_bipush (v := (-3)) dX5_syndrome_10 (by decide) ?_
    exact g_iret dX5_syndrome_12 rfl ⟨by rw [if_neg q7], rfl⟩

set_option maxRecDepth 4000 in
theorem ev_X5_mended {σ : r_Sg} {w : Nat} {v : Int32} (hw : σ 1 3 + σ 1 4 = nI w) (hw20 : w ≤ 20) (hs : ∀ v, ∃ y, y < 64 ∧ r_syn (σ 2) v w = nI y) : Ev 3 MX5_mended [.ref 0, .int v] σ (some (.int (if 0 < σ 1 4 then (if 0 ≤ v ∧ v ≤ (1 <<< ((σ 1 3 + σ 1 4) &&& 31)) - 1 then r_men (fun z => σ 4 z.toNatClampNeg) v (r_syn (σ 2) v w) else -2) else -3))) σ := by
  refine Ev_w [.ref 0, .int v] ?_ (by decide) rfl (Nat.le_of_ble_eq_true rfl) rfl
  refine g_aload_n dX5_mended_0 rfl ?_
  refine g_getR dX5_mended_1 fX5_12 rfl rfl ?_
  refine g_V0 dX5_mended_4 vX5_66 rfl (Nat.le_of_ble_eq_true rfl) (by decide) (ev_X2_stands) ?_
  refine g_ifne (tgt := 13) dX5_mended_7 (by decide) (fun c7 => ?_) (fun c7 => ?_)
  · have q7 := bI_1.mp c7
    refine g_aload_n dX5_mended_13 rfl ?_
    refine g_getR dX5_mended_14 fX5_12 rfl rfl ?_
    refine g_iload_n dX5_mended_17 rfl ?_
    refine g_V1 dX5_mended_18 vX5_76 rfl (Nat.le_of_ble_eq_true rfl) (by decide) (ev_X2_hasSet) ?_
    refine g_ifeq (tgt := 35) dX5_mended_21 (by decide) (fun c21 => ?_) (fun c21 => ?_)
    · have q21 := bI_0.mp c21
      refine g_bipush (v := (-2)) dX5_mended_35 (by decide) ?_
      exact g_iret dX5_mended_37 rfl ⟨by first | rw [if_pos q7, if_pos q21] | rw [if_pos q7, if_neg q21], rfl⟩
    · have q21 := bI_1.mp c21
      refine g_aload_n dX5_mended_24 rfl ?_
      refine g_getR dX5_mended_25 fX5_12 rfl rfl ?_
      refine g_iload_n dX5_mended_28 rfl ?_
      obtain ⟨y, hy64, hy⟩ := hs v
      refine g_V1 dX5_mended_29 vX5_82 rfl (Nat.le_of_ble_eq_true rfl) (by decide) (Ev_r (r' := some (.int (r_men (fun z => σ 4 z.toNatClampNeg) v (r_syn (σ 2) v w)))) (ev_X2_mend hw hw20 hy hy64) (by rw [hy, r_mend_men])) ?_
      refine g_goto (tgt := 37) dX5_mended_32 (by decide) ?_
      exact g_iret dX5_mended_37 rfl ⟨by first | rw [if_pos q7, if_pos q21] | rw [if_pos q7, if_neg q21], rfl⟩
  · have q7 := bI_0.mp c7
    refine g_bipush (v := (-3)) dX5_mended_10 (by decide) ?_
    exact g_iret dX5_mended_12 rfl ⟨by rw [if_neg q7], rfl⟩

set_option maxRecDepth 4000 in
theorem ev_X6_column {σ : r_Sg} {w : Nat} {b : Int32} (hw : σ 19 0 + σ 19 1 = nI w) (hw20 : w ≤ 20) : Ev 2 MX6_column [.ref 19, .int b] σ (some (.int (if 0 ≤ b ∧ b < nI w then σ 20 b.toNatClampNeg else -1))) σ := by
  refine Ev_w [.ref 19, .int b] ?_ (by decide) rfl (Nat.le_of_ble_eq_true rfl) rfl
  refine g_aload_n dX6_column_0 rfl ?_
  refine g_iload_n dX6_column_1 rfl ?_
  refine g_V1 dX6_column_2 vX6_92 rfl (Nat.le_of_ble_eq_true rfl) (by decide) (ev_X6_isBit) ?_
  refine g_ifeq (tgt := 17) dX6_column_5 (by decide) (fun c5 => ?_) (fun c5 => ?_)
  · have q8 := bI_0.mp c5
    rw [hw, r_le1 (by omega)] at q8
    refine g_iconst (v := (-1)) dX6_column_17 (by decide) ?_
    exact g_iret dX6_column_18 rfl ⟨by first | rw [if_neg q8] | rw [if_pos q8, nI_clamp (by omega)], rfl⟩
  · have q8 := bI_1.mp c5
    rw [hw, r_le1 (by omega)] at q8
    obtain ⟨j, hj, rfl⟩ := r_nat q8 (by omega)
    refine g_aload_n dX6_column_8 rfl ?_
    refine g_getR dX6_column_9 fX6_7 rfl rfl ?_
    refine g_iload_n dX6_column_12 rfl ?_
    refine g_ial _ dX6_column_13 rfl rfl (by omega) ?_
    refine g_goto (tgt := 18) dX6_column_14 (by decide) ?_
    exact g_iret dX6_column_18 rfl ⟨by first | rw [if_neg q8] | rw [if_pos q8, nI_clamp (by omega)], rfl⟩

set_option maxRecDepth 4000 in
theorem ev_X6_ones {σ : r_Sg} {c : Nat} {b : Int32} (hc : σ 19 1 = nI c) (hc6 : c ≤ 6) : Ev 1 MX6_ones [.ref 19, .int b] σ (some (.int (if 0 ≤ b ∧ b < nI c then σ 21 b.toNatClampNeg else -1))) σ := by
  refine Ev_w [.ref 19, .int b] ?_ (by decide) rfl (Nat.le_of_ble_eq_true rfl) rfl
  refine g_iload_n dX6_ones_0 rfl ?_
  refine g_iconst (v := 0) dX6_ones_1 (by decide) ?_
  refine g_aload_n dX6_ones_2 rfl ?_
  refine g_getI dX6_ones_3 fX6_61 rfl rfl ?_
  refine g_iconst (v := 1) dX6_ones_6 (by decide) ?_
  refine g_isub dX6_ones_7 ?_
  refine g_S3 dX6_ones_8 vX6_68 (Nat.le_of_ble_eq_true rfl) (by decide) (ev_X6_within) ?_
  refine g_ifeq (tgt := 23) dX6_ones_11 (by decide) (fun c11 => ?_) (fun c11 => ?_)
  · have q8 := bI_0.mp c11
    rw [hc, r_le1 (by omega)] at q8
    refine g_iconst (v := (-1)) dX6_ones_23 (by decide) ?_
    exact g_iret dX6_ones_24 rfl ⟨by first | rw [if_neg q8] | rw [if_pos q8, nI_clamp (by omega)], rfl⟩
  · have q8 := bI_1.mp c11
    rw [hc, r_le1 (by omega)] at q8
    obtain ⟨j, hj, rfl⟩ := r_nat q8 (by omega)
    refine g_aload_n dX6_ones_14 rfl ?_
    refine g_getR dX6_ones_15 fX6_13 rfl rfl ?_
    refine g_iload_n dX6_ones_18 rfl ?_
    refine g_ial _ dX6_ones_19 rfl rfl (by omega) ?_
    refine g_goto (tgt := 24) dX6_ones_20 (by decide) ?_
    exact g_iret dX6_ones_24 rfl ⟨by first | rw [if_neg q8] | rw [if_pos q8, nI_clamp (by omega)], rfl⟩

set_option maxRecDepth 4000 in
theorem ev_X6_syndromeOf {σ : r_Sg} {w : Nat} {set : Int32} (hw : σ 19 0 + σ 19 1 = nI w) (hw20 : w ≤ 20) : Ev 1 MX6_syndromeOf [.ref 19, .int set] σ (some (.int (r_syn (σ 20) set w))) σ := by
  refine Ev_w [.ref 19, .int set, .null, .null] ?_ (by decide) rfl (Nat.le_of_ble_eq_true rfl) rfl
  refine g_iconst (v := 0) dX6_syndromeOf_0 (by decide) ?_
  refine g_istore_n dX6_syndromeOf_1 (by decide) rfl ?_
  refine g_iconst (v := 0) dX6_syndromeOf_2 (by decide) ?_
  refine g_istore_n dX6_syndromeOf_3 (by decide) rfl ?_
  refine r_loop (n := w) (fun k => [.ref 19, .int set, .int (r_syn (σ 20) set k), .int (nI k)]) (fun k => σ) (fun k hk ih => ?_) ?_
  · refine g_iload_n dX6_syndromeOf_4 rfl ?_
    refine g_aload_n dX6_syndromeOf_5 rfl ?_
    refine g_V0 dX6_syndromeOf_6 vX6_64 rfl (Nat.le_of_ble_eq_true rfl) (by decide) (Ev_r (r' := some (.int (nI w))) ev_X6_bits (by rw [hw])) ?_
    refine g_icge (tgt := 40) dX6_syndromeOf_9 (by decide) (fun c9 => absurd c9 (nI_ge hk (by omega))) (fun c9 => ?_)
    refine g_iload_n dX6_syndromeOf_12 rfl ?_
    refine g_iload_n dX6_syndromeOf_13 rfl ?_
    refine g_iload_n dX6_syndromeOf_14 rfl ?_
    refine g_S2 dX6_syndromeOf_15 vX6_53 (Nat.le_of_ble_eq_true rfl) (by decide) (ev_X6_isIn) ?_
    refine g_iconst (v := 1) dX6_syndromeOf_18 (by decide) ?_
    refine g_icne (tgt := 31) dX6_syndromeOf_19 (by decide) (fun c19 => ?_) (fun c19 => ?_)
    · have q19 : r_b set k = 0 := (r_b01 set k).resolve_right c19
      refine g_iconst (v := 0) dX6_syndromeOf_31 (by decide) ?_
      refine g_ixor dX6_syndromeOf_32 ?_
      refine g_istore_n dX6_syndromeOf_33 (by decide) rfl ?_
      refine g_iinc (v := nI (k + 1)) dX6_syndromeOf_34 rfl (nI_1 k) (by decide) rfl ?_
      refine g_goto (tgt := 4) dX6_syndromeOf_37 (by decide) ?_
      exact g_l (by simp [r_ls, r_syn, q19]) ih
    · have q19 : ¬ r_b set k = 0 := by rw [c19]; decide
      refine g_aload_n dX6_syndromeOf_22 rfl ?_
      refine g_getR dX6_syndromeOf_23 fX6_7 rfl rfl ?_
      refine g_iload_n dX6_syndromeOf_26 rfl ?_
      refine g_ial _ dX6_syndromeOf_27 rfl rfl (by omega) ?_
      refine g_goto (tgt := 32) dX6_syndromeOf_28 (by decide) ?_
      refine g_ixor dX6_syndromeOf_32 ?_
      refine g_istore_n dX6_syndromeOf_33 (by decide) rfl ?_
      refine g_iinc (v := nI (k + 1)) dX6_syndromeOf_34 rfl (nI_1 k) (by decide) rfl ?_
      refine g_goto (tgt := 4) dX6_syndromeOf_37 (by decide) ?_
      exact g_l (by simp [r_ls, r_syn, q19]) ih
  · refine g_iload_n dX6_syndromeOf_4 rfl ?_
    refine g_aload_n dX6_syndromeOf_5 rfl ?_
    refine g_V0 dX6_syndromeOf_6 vX6_64 rfl (Nat.le_of_ble_eq_true rfl) (by decide) (Ev_r (r' := some (.int (nI w))) ev_X6_bits (by rw [hw])) ?_
    refine g_icge (tgt := 40) dX6_syndromeOf_9 (by decide) (fun c9 => ?_) (fun c9 => absurd (nI_le (Nat.le_refl _) (by omega)) c9)
    refine g_iload_n dX6_syndromeOf_40 rfl ?_
    exact g_iret dX6_syndromeOf_41 rfl ⟨rfl, rfl⟩

set_option maxRecDepth 4000 in
theorem ev_X6_wordOf {σ : r_Sg} {w : Nat} {v : Int32} (hw : σ 19 0 + σ 19 1 = nI w) (hw20 : w ≤ 20) : Ev 2 MX6_wordOf [.ref 19, .int v] σ (some (.int (v ||| (r_syn (σ 20) v w <<< (σ 19 0 &&& 31))))) σ := by
  refine Ev_w [.ref 19, .int v] ?_ (by decide) rfl (Nat.le_of_ble_eq_true rfl) rfl
  refine g_iload_n dX6_wordOf_0 rfl ?_
  refine g_aload_n dX6_wordOf_1 rfl ?_
  refine g_iload_n dX6_wordOf_2 rfl ?_
  refine g_V1 dX6_wordOf_3 vX6_96 rfl (Nat.le_of_ble_eq_true rfl) (by decide) (ev_X6_syndromeOf (by first | assumption | omega) (by first | assumption | omega)) ?_
  refine g_aload_n dX6_wordOf_6 rfl ?_
  refine g_getI dX6_wordOf_7 fX6_57 rfl rfl ?_
  refine g_ishl dX6_wordOf_10 ?_
  refine g_ior dX6_wordOf_11 ?_
  exact g_iret dX6_wordOf_12 rfl ⟨rfl, rfl⟩

set_option maxRecDepth 4000 in
theorem ev_X6_bitOf {σ : r_Sg} {w : Nat} {y : Int32} (hw : σ 19 0 + σ 19 1 = nI w) (hw20 : w ≤ 20) : Ev 1 MX6_bitOf [.ref 19, .int y] σ (some (.int (r_bit (σ 20) w y))) σ := by
  refine Ev_w [.ref 19, .int y, .null] ?_ (by decide) rfl (Nat.le_of_ble_eq_true rfl) rfl
  refine g_iconst (v := 0) dX6_bitOf_0 (by decide) ?_
  refine g_istore_n dX6_bitOf_1 (by decide) rfl ?_
  have hJle := r_fst_le (fun j => decide (σ 20 j = y)) w
  refine r_loop (n := r_fst (fun j => decide (σ 20 j = y)) w) (fun k => [.ref 19, .int y, .int (nI k)]) (fun k => σ) (fun k hk ih => ?_) ?_
  · have hP := r_fst_not hk
    refine g_iload_n dX6_bitOf_2 rfl ?_
    refine g_aload_n dX6_bitOf_3 rfl ?_
    refine g_V0 dX6_bitOf_4 vX6_64 rfl (Nat.le_of_ble_eq_true rfl) (by decide) (Ev_r (r' := some (.int (nI w))) ev_X6_bits (by rw [hw])) ?_
    refine g_icge (tgt := 28) dX6_bitOf_7 (by decide) (fun c7 => absurd c7 (nI_ge (show k < w by omega) (by omega))) (fun c7 => ?_)
    refine g_aload_n dX6_bitOf_10 rfl ?_
    refine g_getR dX6_bitOf_11 fX6_7 rfl rfl ?_
    refine g_iload_n dX6_bitOf_14 rfl ?_
    refine g_ial _ dX6_bitOf_15 rfl rfl (by omega) ?_
    refine g_iload_n dX6_bitOf_16 rfl ?_
    refine g_icne (tgt := 22) dX6_bitOf_17 (by decide) (fun c17 => ?_) (fun c17 => absurd c17 (by simpa using hP))
    refine g_iinc (v := nI (k + 1)) dX6_bitOf_22 rfl (nI_1 k) (by decide) rfl ?_
    refine g_goto (tgt := 2) dX6_bitOf_25 (by decide) ?_
    exact ih
  · by_cases hJ : r_fst (fun j => decide (σ 20 j = y)) w < w
    · have hP := r_fst_at hJ
      refine g_iload_n dX6_bitOf_2 rfl ?_
      refine g_aload_n dX6_bitOf_3 rfl ?_
      refine g_V0 dX6_bitOf_4 vX6_64 rfl (Nat.le_of_ble_eq_true rfl) (by decide) (Ev_r (r' := some (.int (nI w))) ev_X6_bits (by rw [hw])) ?_
      refine g_icge (tgt := 28) dX6_bitOf_7 (by decide) (fun c7 => absurd c7 (nI_ge hJ (by omega))) (fun c7 => ?_)
      refine g_aload_n dX6_bitOf_10 rfl ?_
      refine g_getR dX6_bitOf_11 fX6_7 rfl rfl ?_
      refine g_iload_n dX6_bitOf_14 rfl ?_
      refine g_ial _ dX6_bitOf_15 rfl rfl (by omega) ?_
      refine g_iload_n dX6_bitOf_16 rfl ?_
      refine g_icne (tgt := 22) dX6_bitOf_17 (by decide) (fun c17 => absurd (by simpa using hP) c17) (fun c17 => ?_)
      refine g_iload_n dX6_bitOf_20 rfl ?_
      exact g_iret dX6_bitOf_21 rfl ⟨by rw [r_bit, if_pos hJ], rfl⟩
    · refine g_iload_n dX6_bitOf_2 rfl ?_
      refine g_aload_n dX6_bitOf_3 rfl ?_
      refine g_V0 dX6_bitOf_4 vX6_64 rfl (Nat.le_of_ble_eq_true rfl) (by decide) (Ev_r (r' := some (.int (nI w))) ev_X6_bits (by rw [hw])) ?_
      refine g_icge (tgt := 28) dX6_bitOf_7 (by decide) (fun c7 => ?_) (fun c7 => absurd (nI_le (show w ≤ r_fst (fun j => decide (σ 20 j = y)) w by omega) (by omega)) c7)
      refine g_bipush (v := (-9)) dX6_bitOf_28 (by decide) ?_
      exact g_iret dX6_bitOf_30 rfl ⟨by rw [r_bit, if_neg hJ], rfl⟩

set_option maxRecDepth 4000 in
theorem ev_X6_mendedOf {σ : r_Sg} {w : Nat} {v : Int32} (hw : σ 19 0 + σ 19 1 = nI w) (hw20 : w ≤ 20) : Ev 2 MX6_mendedOf [.ref 19, .int v] σ (some (.int (r_men (r_bit (σ 20) w) v (r_syn (σ 20) v w)))) σ := by
  refine Ev_w [.ref 19, .int v, .null, .null] ?_ (by decide) rfl (Nat.le_of_ble_eq_true rfl) rfl
  refine g_aload_n dX6_mendedOf_0 rfl ?_
  refine g_iload_n dX6_mendedOf_1 rfl ?_
  refine g_V1 dX6_mendedOf_2 vX6_96 rfl (Nat.le_of_ble_eq_true rfl) (by decide) (ev_X6_syndromeOf (by first | assumption | omega) (by first | assumption | omega)) ?_
  refine g_istore_n dX6_mendedOf_5 (by decide) rfl ?_
  refine g_iload_n dX6_mendedOf_6 rfl ?_
  refine g_ifne (tgt := 12) dX6_mendedOf_7 (by decide) (fun c7 => ?_) (fun c7 => ?_)
  · refine g_aload_n dX6_mendedOf_12 rfl ?_
    refine g_iload_n dX6_mendedOf_13 rfl ?_
    refine g_V1 dX6_mendedOf_14 vX6_99 rfl (Nat.le_of_ble_eq_true rfl) (by decide) (ev_X6_bitOf (by first | assumption | omega) (by first | assumption | omega)) ?_
    refine g_istore_n dX6_mendedOf_17 (by decide) rfl ?_
    refine g_iload_n dX6_mendedOf_18 rfl ?_
    refine g_bipush (v := (-9)) dX6_mendedOf_19 (by decide) ?_
    refine g_icne (tgt := 29) dX6_mendedOf_21 (by decide) (fun c21 => ?_) (fun c21 => ?_)
    · refine g_iload_n dX6_mendedOf_29 rfl ?_
      refine g_iconst (v := 1) dX6_mendedOf_30 (by decide) ?_
      refine g_iload_n dX6_mendedOf_31 rfl ?_
      refine g_ishl dX6_mendedOf_32 ?_
      refine g_ixor dX6_mendedOf_33 ?_
      exact g_iret dX6_mendedOf_34 rfl ⟨by simp [r_men, *], rfl⟩
    · refine g_bipush (v := (-5)) dX6_mendedOf_24 (by decide) ?_
      refine g_goto (tgt := 34) dX6_mendedOf_26 (by decide) ?_
      exact g_iret dX6_mendedOf_34 rfl ⟨by simp [r_men, *], rfl⟩
  · refine g_iload_n dX6_mendedOf_10 rfl ?_
    exact g_iret dX6_mendedOf_11 rfl ⟨by simp [r_men, *], rfl⟩

set_option maxRecDepth 4000 in
theorem ev_X6_word {σ : r_Sg} {w : Nat} {v : Int32} (hw : σ 19 0 + σ 19 1 = nI w) (hw20 : w ≤ 20) : Ev 3 MX6_word [.ref 19, .int v] σ (some (.int (if σ 19 0 = 0 then -3 else if 0 ≤ v ∧ v ≤ (1 <<< (σ 19 0 &&& 31)) - 1 then v ||| (r_syn (σ 20) v w <<< (σ 19 0 &&& 31)) else -2))) σ := by
  refine Ev_w [.ref 19, .int v] ?_ (by decide) rfl (Nat.le_of_ble_eq_true rfl) rfl
  refine g_aload_n dX6_word_0 rfl ?_
  refine g_getI dX6_word_1 fX6_57 rfl rfl ?_
  refine g_ifne (tgt := 10) dX6_word_4 (by decide) (fun c4 => ?_) (fun c4 => ?_)
  · refine g_iload_n dX6_word_10 rfl ?_
    refine g_iconst (v := 0) dX6_word_11 (by decide) ?_
    refine g_iconst (v := 1) dX6_word_12 (by decide) ?_
    refine g_aload_n dX6_word_13 rfl ?_
    refine g_getI dX6_word_14 fX6_57 rfl rfl ?_
    refine g_ishl dX6_word_17 ?_
    refine g_iconst (v := 1) dX6_word_18 (by decide) ?_
    refine g_isub dX6_word_19 ?_
    refine g_S3 dX6_word_20 vX6_68 (Nat.le_of_ble_eq_true rfl) (by decide) (ev_X6_within) ?_
    refine g_ifeq (tgt := 34) dX6_word_23 (by decide) (fun c23 => ?_) (fun c23 => ?_)
    · have q21 := bI_0.mp c23
      refine g_bipush (v := (-2)) dX6_word_34 (by decide) ?_
      exact g_iret dX6_word_36 rfl ⟨by first | rw [if_neg c4, if_pos q21] | rw [if_neg c4, if_neg q21], rfl⟩
    · have q21 := bI_1.mp c23
      refine g_aload_n dX6_word_26 rfl ?_
      refine g_iload_n dX6_word_27 rfl ?_
      refine g_V1 dX6_word_28 vX6_102 rfl (Nat.le_of_ble_eq_true rfl) (by decide) (ev_X6_wordOf (by first | assumption | omega) (by first | assumption | omega)) ?_
      refine g_goto (tgt := 36) dX6_word_31 (by decide) ?_
      exact g_iret dX6_word_36 rfl ⟨by first | rw [if_neg c4, if_pos q21] | rw [if_neg c4, if_neg q21], rfl⟩
  · refine g_bipush (v := (-3)) dX6_word_7 (by decide) ?_
    exact g_iret dX6_word_9 rfl ⟨by rw [if_pos c4], rfl⟩

set_option maxRecDepth 4000 in
theorem ev_X6_syndrome {σ : r_Sg} {w : Nat} {v : Int32} (hw : σ 19 0 + σ 19 1 = nI w) (hw20 : w ≤ 20) : Ev 3 MX6_syndrome [.ref 19, .int v] σ (some (.int (if σ 19 0 = 0 then -3 else if 0 ≤ v ∧ v ≤ (1 <<< ((σ 19 0 + σ 19 1) &&& 31)) - 1 then r_syn (σ 20) v w else -2))) σ := by
  refine Ev_w [.ref 19, .int v] ?_ (by decide) rfl (Nat.le_of_ble_eq_true rfl) rfl
  refine g_aload_n dX6_syndrome_0 rfl ?_
  refine g_getI dX6_syndrome_1 fX6_57 rfl rfl ?_
  refine g_ifne (tgt := 10) dX6_syndrome_4 (by decide) (fun c4 => ?_) (fun c4 => ?_)
  · refine g_aload_n dX6_syndrome_10 rfl ?_
    refine g_iload_n dX6_syndrome_11 rfl ?_
    refine g_V1 dX6_syndrome_12 vX6_105 rfl (Nat.le_of_ble_eq_true rfl) (by decide) (ev_X6_isSet) ?_
    refine g_ifeq (tgt := 26) dX6_syndrome_15 (by decide) (fun c15 => ?_) (fun c15 => ?_)
    · have q21 := bI_0.mp c15
      refine g_bipush (v := (-2)) dX6_syndrome_26 (by decide) ?_
      exact g_iret dX6_syndrome_28 rfl ⟨by first | rw [if_neg c4, if_pos q21] | rw [if_neg c4, if_neg q21], rfl⟩
    · have q21 := bI_1.mp c15
      refine g_aload_n dX6_syndrome_18 rfl ?_
      refine g_iload_n dX6_syndrome_19 rfl ?_
      refine g_V1 dX6_syndrome_20 vX6_96 rfl (Nat.le_of_ble_eq_true rfl) (by decide) (ev_X6_syndromeOf (by first | assumption | omega) (by first | assumption | omega)) ?_
      refine g_goto (tgt := 28) dX6_syndrome_23 (by decide) ?_
      exact g_iret dX6_syndrome_28 rfl ⟨by first | rw [if_neg c4, if_pos q21] | rw [if_neg c4, if_neg q21], rfl⟩
  · refine g_bipush (v := (-3)) dX6_syndrome_7 (by decide) ?_
    exact g_iret dX6_syndrome_9 rfl ⟨by rw [if_pos c4], rfl⟩

set_option maxRecDepth 4000 in
theorem ev_X6_mended {σ : r_Sg} {w : Nat} {v : Int32} (hw : σ 19 0 + σ 19 1 = nI w) (hw20 : w ≤ 20) : Ev 3 MX6_mended [.ref 19, .int v] σ (some (.int (if σ 19 0 = 0 then -3 else if 0 ≤ v ∧ v ≤ (1 <<< ((σ 19 0 + σ 19 1) &&& 31)) - 1 then r_men (r_bit (σ 20) w) v (r_syn (σ 20) v w) else -2))) σ := by
  refine Ev_w [.ref 19, .int v] ?_ (by decide) rfl (Nat.le_of_ble_eq_true rfl) rfl
  refine g_aload_n dX6_mended_0 rfl ?_
  refine g_getI dX6_mended_1 fX6_57 rfl rfl ?_
  refine g_ifne (tgt := 10) dX6_mended_4 (by decide) (fun c4 => ?_) (fun c4 => ?_)
  · refine g_aload_n dX6_mended_10 rfl ?_
    refine g_iload_n dX6_mended_11 rfl ?_
    refine g_V1 dX6_mended_12 vX6_105 rfl (Nat.le_of_ble_eq_true rfl) (by decide) (ev_X6_isSet) ?_
    refine g_ifeq (tgt := 26) dX6_mended_15 (by decide) (fun c15 => ?_) (fun c15 => ?_)
    · have q21 := bI_0.mp c15
      refine g_bipush (v := (-2)) dX6_mended_26 (by decide) ?_
      exact g_iret dX6_mended_28 rfl ⟨by first | rw [if_neg c4, if_pos q21] | rw [if_neg c4, if_neg q21], rfl⟩
    · have q21 := bI_1.mp c15
      refine g_aload_n dX6_mended_18 rfl ?_
      refine g_iload_n dX6_mended_19 rfl ?_
      refine g_V1 dX6_mended_20 vX6_108 rfl (Nat.le_of_ble_eq_true rfl) (by decide) (ev_X6_mendedOf (by first | assumption | omega) (by first | assumption | omega)) ?_
      refine g_goto (tgt := 28) dX6_mended_23 (by decide) ?_
      exact g_iret dX6_mended_28 rfl ⟨by first | rw [if_neg c4, if_pos q21] | rw [if_neg c4, if_neg q21], rfl⟩
  · refine g_bipush (v := (-3)) dX6_mended_7 (by decide) ?_
    exact g_iret dX6_mended_9 rfl ⟨by rw [if_pos c4], rfl⟩
