/-! code() of the class and of the reference; column, ones, word, syndrome, mended -/
theorem r_nx4 : ∀ b, b < 4 → r_nsts (fun i => nI (r_T 4 i)) (fun i => nI (r_RO 4 b i)) 4 b 16 = nI (r_T 4 b) := by decide +kernel
theorem r_nx5 : ∀ b, b < 11 → r_nsts (fun i => nI (r_T 5 i)) (fun i => nI (r_RO 5 b i)) 5 b 32 = nI (r_T 5 b) := by decide +kernel
theorem r_nx6 : ∀ b, b < 14 → r_nsts (fun i => nI (r_T 6 i)) (fun i => nI (r_RO 6 b i)) 6 b 64 = nI (r_T 6 b) := by decide +kernel
theorem r_nx {d c b : Nat} (h : r_ok d c) (hb : b < d) : r_nsts (fun i => nI (r_T c i)) (fun i => nI (r_RO c b i)) c b (2 ^ c) = nI (r_T c b) := by
  obtain ⟨h1, ⟨rfl, h2⟩ | ⟨rfl, h2⟩ | ⟨rfl, h2⟩⟩ := h
  · exact r_nx4 b (by omega)
  · exact r_nx5 b (by omega)
  · exact r_nx6 b (by omega)
theorem r_nsts_congr {cf cf' ro ro' : Nat → Int32} {c b : Nat} (hr : ∀ i, i < c → ro i = ro' i) (hf : ∀ j, j < b → cf j = cf' j) : ∀ (k : Nat), r_nsts cf ro c b k = r_nsts cf' ro' c b k
  | 0 => rfl
  | k + 1 => by
    have h1 := r_nsts_congr (c := c) hr hf k
    have h2 : r_fst (fun j => decide (cf j = nI k)) b = r_fst (fun j => decide (cf' j = nI k)) b := r_fst_congr (fun j hj => by rw [hf j hj])
    have h3 : ∀ x, r_full ro x c = r_full ro' x c := fun x => r_full_congr hr
    simp only [r_nsts, r_nst, h1, h2, h3]
def r_mc (σ : r_Sg) (c b : Nat) : r_Sg := fun q i => if q = 20 then (if i < b then nI (r_T c i) else σ 20 i) else if q = 21 then (if i < 6 then nI (r_RO c b i) else σ 21 i) else σ q i
def r_mr (σ : r_Sg) (col : Int32) (k : Nat) : r_Sg := fun q i => if q = 21 then (if i < k then σ 21 i + r_b col i else σ 21 i) else σ q i
def r_mf (σ : r_Sg) (c d k : Nat) : r_Sg := fun q i => if q = 20 then (if i < d + k then nI (r_CO c d i) else σ 20 i) else if q = 21 then (if i < 6 then nI (r_RO c d i) else σ 21 i) else σ q i
theorem r_F0 (σ : r_Sg) (c : Nat) : r_fill σ 21 6 0 = r_mc σ c 0 := by
  funext q i
  by_cases h2 : q = 20
  · subst h2; simp [r_fill, r_mc]
  · by_cases h3 : q = 21
    · subst h3; simp [r_fill, r_mc, r_RO]; rfl
    · simp [r_fill, r_mc, h2, h3]
theorem r_F1a (σ : r_Sg) (col : Int32) (j : Nat) : r_up (r_mr σ col j) 21 j (σ 21 j + r_b col j) = r_mr σ col (j + 1) := by
  funext q i
  by_cases h3 : q = 21
  · subst h3
    by_cases hi : i = j
    · subst hi; simp [r_up, upd, r_mr]
    · have : i < j + 1 ↔ i < j := by omega
      simp [r_up, upd, r_mr, hi, this]
  · simp [r_up, r_mr, h3]
theorem r_F1 (σ : r_Sg) {d c k : Nat} (h : r_ok d c) (hk : k < d) : r_mr (r_up (r_mc σ c k) 20 k (nI (r_T c k))) (nI (r_T c k)) c = r_mc σ c (k + 1) := by
  have hT := r_Tlt h hk
  have hc := r_ok_c h
  funext q i
  by_cases h2 : q = 20
  · subst h2
    by_cases hi : i = k
    · subst hi; simp [r_mr, r_up, upd, r_mc]
    · have : i < k + 1 ↔ i < k := by omega
      simp [r_mr, r_up, upd, r_mc, hi, this]
  · by_cases h3 : q = 21
    · subst h3
      simp only [r_mr, r_up]
      by_cases hi : i < c
      · have h6 : i < 6 := by omega
        simp [r_mc, r_RO, hi, h6, r_b_nI (show r_T c k < 2 ^ 31 by omega) (show i < 32 by omega), nI_add]
      · by_cases h6 : i < 6
        · have hle : 2 ^ c ≤ 2 ^ i := Nat.pow_le_pow_right (by omega) (by omega)
          have h0 : r_T c k / 2 ^ i = 0 := Nat.div_eq_of_lt (by omega)
          simp [r_mc, r_RO, hi, h6, h0]
        · simp [r_mc, hi, h6]
    · simp [r_mr, r_up, r_mc, h2, h3]
theorem r_F2 (σ : r_Sg) (c d : Nat) : r_mc σ c d = r_mf σ c d 0 := by
  funext q i
  by_cases h2 : q = 20
  · subst h2
    by_cases hi : i < d <;> simp [r_mc, r_mf, r_CO, hi]
  · simp [r_mc, r_mf, h2]
theorem r_F3 (σ : r_Sg) (c d k : Nat) : r_up (r_mf σ c d k) 20 (d + k) (nI (2 ^ k)) = r_mf σ c d (k + 1) := by
  funext q i
  by_cases h2 : q = 20
  · subst h2
    by_cases hi : i = d + k
    · subst hi; have h9 : ¬ d + k < d := (by omega); simp [r_up, upd, r_mf, r_CO, h9]
    · have : i < d + (k + 1) ↔ i < d + k := by omega
      simp [r_up, upd, r_mf, hi, this]
  · simp [r_up, r_mf, h2]
/-- the places of a cell from 0 to n set to their own numbers -/
def r_idn (σ : r_Sg) (q n : Nat) : r_Sg := fun c i => if c = q ∧ i < n then nI i else σ c i
theorem r_idn_0 (σ : r_Sg) (q : Nat) : σ = r_idn σ q 0 := by funext a b; simp [r_idn]
theorem r_idn_s (σ : r_Sg) (q k : Nat) : r_up (r_idn σ q k) q k (nI k) = r_idn σ q (k + 1) := by
  funext a b
  by_cases h1 : a = q
  · subst h1
    by_cases h2 : b = k
    · subst h2; simp [r_up, r_idn, upd]
    · have h3 : b < k + 1 ↔ b < k := by omega
      simp [r_up, r_idn, upd, h2, h3]
  · simp [r_up, r_idn, h1]
theorem r_upF (σ : r_Sg) {q q' : Nat} (h : q ≠ q') (n k : Nat) (v x : Int32) : r_up (r_fill σ q' n v) q k x = r_fill (r_up σ q k x) q' n v := by
  funext a b
  by_cases h1 : a = q
  · subst h1; simp [r_up, r_fill, upd, h]
  · by_cases h2 : a = q'
    · subst h2; simp [r_up, r_fill, h1]
    · simp [r_up, r_fill, h1, h2]
theorem r_upI (σ : r_Sg) {q q' : Nat} (h : q ≠ q') (n k : Nat) (x : Int32) : r_up (r_idn σ q' n) q k x = r_idn (r_up σ q k x) q' n := by
  funext a b
  by_cases h1 : a = q
  · subst h1; simp [r_up, r_idn, upd, h]
  · by_cases h2 : a = q'
    · subst h2; simp [r_up, r_idn, h1]
    · simp [r_up, r_idn, h1, h2]
/-- what begins() sets -/
def r_beg (σ : r_Sg) (w : Nat) : r_Sg := r_up (r_up (r_up (r_up (r_fill (r_fill (r_fill (r_idn (r_fill (r_idn (r_fill (r_fill (r_fill σ 22 504 0) 23 504 0) 24 504 0) 25 4) 28 4 0) 26 w) 27 16 0) 32 6 (-9)) 31 3 0) 19 12 0) 19 14 0) 19 15 0) 19 16 0

set_option maxRecDepth 4000 in
theorem ev_X6_begins {σ : r_Sg} {w : Nat} (hw : σ 19 0 + σ 19 1 = nI w) (hw20 : w ≤ 20) : Ev 1 MX6_begins [.ref 19] σ none (r_beg σ w) := by
  refine Ev_w [.ref 19, .null] ?_ (by decide) rfl (Nat.le_of_ble_eq_true rfl) rfl
  refine g_iconst (v := 0) dX6_begins_0 (by decide) ?_
  refine g_istore_n dX6_begins_1 (by decide) rfl ?_
  refine g_g (by rw [← r_fill_0, ← r_fill_0, ← r_fill_0]) (σ' := (r_fill (r_fill (r_fill σ 22 0 0) 23 0 0) 24 0 0)) ?_
  refine r_loop (n := 504) (fun k => [.ref 19, .int (nI k)]) (fun k => (r_fill (r_fill (r_fill σ 22 k 0) 23 k 0) 24 k 0)) (fun k hk ih => ?_) ?_
  · refine g_iload_n dX6_begins_2 rfl ?_
    refine g_aload_n dX6_begins_3 rfl ?_
    refine g_getR dX6_begins_4 fX6_16 rfl rfl ?_
    refine g_alen (v := nI 504) dX6_begins_7 rfl rfl ?_
    refine g_icge (tgt := 38) dX6_begins_8 (by decide) (fun c8 => absurd c8 (nI_ge hk (by omega))) (fun c8 => ?_)
    refine g_aload_n dX6_begins_11 rfl ?_
    refine g_getR dX6_begins_12 fX6_16 rfl rfl ?_
    refine g_iload_n dX6_begins_15 rfl ?_
    refine g_iconst (v := 0) dX6_begins_16 (by decide) ?_
    refine g_ias _ dX6_begins_17 rfl rfl (by omega) ?_
    refine g_aload_n dX6_begins_18 rfl ?_
    refine g_getR dX6_begins_19 fX6_19 rfl rfl ?_
    refine g_iload_n dX6_begins_22 rfl ?_
    refine g_iconst (v := 0) dX6_begins_23 (by decide) ?_
    refine g_zas _ dX6_begins_24 rfl rfl (by omega) (by decide) ?_
    refine g_aload_n dX6_begins_25 rfl ?_
    refine g_getR dX6_begins_26 fX6_23 rfl rfl ?_
    refine g_iload_n dX6_begins_29 rfl ?_
    refine g_iconst (v := 0) dX6_begins_30 (by decide) ?_
    refine g_ias _ dX6_begins_31 rfl rfl (by omega) ?_
    refine g_iinc (v := nI (k + 1)) dX6_begins_32 rfl (nI_1 k) (by decide) rfl ?_
    refine g_goto (tgt := 2) dX6_begins_35 (by decide) ?_
    exact g_g (by rw [r_upF _ (by decide), r_upF _ (by decide), r_fill_s, r_upF _ (by decide), r_fill_s, r_fill_s]) ih
  · refine g_iload_n dX6_begins_2 rfl ?_
    refine g_aload_n dX6_begins_3 rfl ?_
    refine g_getR dX6_begins_4 fX6_16 rfl rfl ?_
    refine g_alen (v := nI 504) dX6_begins_7 rfl rfl ?_
    refine g_icge (tgt := 38) dX6_begins_8 (by decide) (fun c8 => ?_) (fun c8 => absurd (nI_le (Nat.le_refl _) (by omega)) c8)
    refine g_iconst (v := 0) dX6_begins_38 (by decide) ?_
    refine g_istore_n dX6_begins_39 (by decide) rfl ?_
    refine g_g (by rw [← r_idn_0, ← r_fill_0]) (σ' := (r_fill (r_idn (r_fill (r_fill (r_fill σ 22 504 0) 23 504 0) 24 504 0) 25 0) 28 0 0)) ?_
    refine r_loop (n := 4) (fun k => [.ref 19, .int (nI k)]) (fun k => (r_fill (r_idn (r_fill (r_fill (r_fill σ 22 504 0) 23 504 0) 24 504 0) 25 k) 28 k 0)) (fun k hk ih => ?_) ?_
    · refine g_iload_n dX6_begins_40 rfl ?_
      refine g_iconst (v := nI 4) dX6_begins_41 (by decide) ?_
      refine g_icge (tgt := 65) dX6_begins_42 (by decide) (fun c42 => absurd c42 (nI_ge hk (by omega))) (fun c42 => ?_)
      refine g_aload_n dX6_begins_45 rfl ?_
      refine g_getR dX6_begins_46 fX6_26 rfl rfl ?_
      refine g_iload_n dX6_begins_49 rfl ?_
      refine g_iload_n dX6_begins_50 rfl ?_
      refine g_ias _ dX6_begins_51 rfl rfl (by omega) ?_
      refine g_aload_n dX6_begins_52 rfl ?_
      refine g_getR dX6_begins_53 fX6_35 rfl rfl ?_
      refine g_iload_n dX6_begins_56 rfl ?_
      refine g_iconst (v := 0) dX6_begins_57 (by decide) ?_
      refine g_ias _ dX6_begins_58 rfl rfl (by omega) ?_
      refine g_iinc (v := nI (k + 1)) dX6_begins_59 rfl (nI_1 k) (by decide) rfl ?_
      refine g_goto (tgt := 40) dX6_begins_62 (by decide) ?_
      exact g_g (by rw [r_upF _ (by decide), r_idn_s, r_fill_s]) ih
    · refine g_iload_n dX6_begins_40 rfl ?_
      refine g_iconst (v := nI 4) dX6_begins_41 (by decide) ?_
      refine g_icge (tgt := 65) dX6_begins_42 (by decide) (fun c42 => ?_) (fun c42 => absurd (nI_le (Nat.le_refl _) (by omega)) c42)
      refine g_iconst (v := 0) dX6_begins_65 (by decide) ?_
      refine g_istore_n dX6_begins_66 (by decide) rfl ?_
      refine g_g (r_idn_0 _ 26) ?_
      refine r_loop (n := w) (fun k => [.ref 19, .int (nI k)]) (fun k => r_idn (r_fill (r_idn (r_fill (r_fill (r_fill σ 22 504 0) 23 504 0) 24 504 0) 25 4) 28 4 0) 26 k) (fun k hk ih => ?_) ?_
      · refine g_iload_n dX6_begins_67 rfl ?_
        refine g_aload_n dX6_begins_68 rfl ?_
        refine g_V0 dX6_begins_69 vX6_64 rfl (Nat.le_of_ble_eq_true rfl) (by decide) (Ev_r (r' := some (.int (nI w))) ev_X6_bits (by simp [r_fill, r_idn, hw])) ?_
        refine g_icge (tgt := 88) dX6_begins_72 (by decide) (fun c72 => absurd c72 (nI_ge hk (by omega))) (fun c72 => ?_)
        refine g_aload_n dX6_begins_75 rfl ?_
        refine g_getR dX6_begins_76 fX6_29 rfl rfl ?_
        refine g_iload_n dX6_begins_79 rfl ?_
        refine g_iload_n dX6_begins_80 rfl ?_
        refine g_ias _ dX6_begins_81 rfl rfl (by omega) ?_
        refine g_iinc (v := nI (k + 1)) dX6_begins_82 rfl (nI_1 k) (by decide) rfl ?_
        refine g_goto (tgt := 67) dX6_begins_85 (by decide) ?_
        exact g_g (r_idn_s _ _ _) ih
      · refine g_iload_n dX6_begins_67 rfl ?_
        refine g_aload_n dX6_begins_68 rfl ?_
        refine g_V0 dX6_begins_69 vX6_64 rfl (Nat.le_of_ble_eq_true rfl) (by decide) (Ev_r (r' := some (.int (nI w))) ev_X6_bits (by simp [r_fill, r_idn, hw])) ?_
        refine g_icge (tgt := 88) dX6_begins_72 (by decide) (fun c72 => ?_) (fun c72 => absurd (nI_le (Nat.le_refl _) (by omega)) c72)
        refine g_iconst (v := 0) dX6_begins_88 (by decide) ?_
        refine g_istore_n dX6_begins_89 (by decide) rfl ?_
        refine g_g (r_fill_0 _ 27 0) ?_
        refine r_loop (n := 16) (fun k => [.ref 19, .int (nI k)]) (fun k => r_fill (r_idn (r_fill (r_idn (r_fill (r_fill (r_fill σ 22 504 0) 23 504 0) 24 504 0) 25 4) 28 4 0) 26 w) 27 k 0) (fun k hk ih => ?_) ?_
        · refine g_iload_n dX6_begins_90 rfl ?_
          refine g_bipush (v := nI 16) dX6_begins_91 (by decide) ?_
          refine g_icge (tgt := 109) dX6_begins_93 (by decide) (fun c93 => absurd c93 (nI_ge hk (by omega))) (fun c93 => ?_)
          refine g_aload_n dX6_begins_96 rfl ?_
          refine g_getR dX6_begins_97 fX6_32 rfl rfl ?_
          refine g_iload_n dX6_begins_100 rfl ?_
          refine g_iconst (v := 0) dX6_begins_101 (by decide) ?_
          refine g_ias _ dX6_begins_102 rfl rfl (by omega) ?_
          refine g_iinc (v := nI (k + 1)) dX6_begins_103 rfl (nI_1 k) (by decide) rfl ?_
          refine g_goto (tgt := 90) dX6_begins_106 (by decide) ?_
          exact g_g (r_fill_s _ _ _ _) ih
        · refine g_iload_n dX6_begins_90 rfl ?_
          refine g_bipush (v := nI 16) dX6_begins_91 (by decide) ?_
          refine g_icge (tgt := 109) dX6_begins_93 (by decide) (fun c93 => ?_) (fun c93 => absurd (nI_le (Nat.le_refl _) (by omega)) c93)
          refine g_iconst (v := 0) dX6_begins_109 (by decide) ?_
          refine g_istore_n dX6_begins_110 (by decide) rfl ?_
          refine g_g (r_fill_0 _ 32 (-9)) ?_
          refine r_loop (n := 6) (fun k => [.ref 19, .int (nI k)]) (fun k => r_fill (r_fill (r_idn (r_fill (r_idn (r_fill (r_fill (r_fill σ 22 504 0) 23 504 0) 24 504 0) 25 4) 28 4 0) 26 w) 27 16 0) 32 k (-9)) (fun k hk ih => ?_) ?_
          · refine g_iload_n dX6_begins_111 rfl ?_
            refine g_aload_n dX6_begins_112 rfl ?_
            refine g_getR dX6_begins_113 fX6_47 rfl rfl ?_
            refine g_alen (v := nI 6) dX6_begins_116 rfl rfl ?_
            refine g_icge (tgt := 134) dX6_begins_117 (by decide) (fun c117 => absurd c117 (nI_ge hk (by omega))) (fun c117 => ?_)
            refine g_aload_n dX6_begins_120 rfl ?_
            refine g_getR dX6_begins_121 fX6_47 rfl rfl ?_
            refine g_iload_n dX6_begins_124 rfl ?_
            refine g_bipush (v := (-9)) dX6_begins_125 (by decide) ?_
            refine g_ias _ dX6_begins_127 rfl rfl (by omega) ?_
            refine g_iinc (v := nI (k + 1)) dX6_begins_128 rfl (nI_1 k) (by decide) rfl ?_
            refine g_goto (tgt := 111) dX6_begins_131 (by decide) ?_
            exact g_g (r_fill_s _ _ _ _) ih
          · refine g_iload_n dX6_begins_111 rfl ?_
            refine g_aload_n dX6_begins_112 rfl ?_
            refine g_getR dX6_begins_113 fX6_47 rfl rfl ?_
            refine g_alen (v := nI 6) dX6_begins_116 rfl rfl ?_
            refine g_icge (tgt := 134) dX6_begins_117 (by decide) (fun c117 => ?_) (fun c117 => absurd (nI_le (Nat.le_refl _) (by omega)) c117)
            refine g_iconst (v := 0) dX6_begins_134 (by decide) ?_
            refine g_istore_n dX6_begins_135 (by decide) rfl ?_
            refine g_g (r_fill_0 _ 31 0) ?_
            refine r_loop (n := 3) (fun k => [.ref 19, .int (nI k)]) (fun k => r_fill (r_fill (r_fill (r_idn (r_fill (r_idn (r_fill (r_fill (r_fill σ 22 504 0) 23 504 0) 24 504 0) 25 4) 28 4 0) 26 w) 27 16 0) 32 6 (-9)) 31 k 0) (fun k hk ih => ?_) ?_
            · refine g_iload_n dX6_begins_136 rfl ?_
              refine g_aload_n dX6_begins_137 rfl ?_
              refine g_getR dX6_begins_138 fX6_44 rfl rfl ?_
              refine g_alen (v := nI 3) dX6_begins_141 rfl rfl ?_
              refine g_icge (tgt := 158) dX6_begins_142 (by decide) (fun c142 => absurd c142 (nI_ge hk (by omega))) (fun c142 => ?_)
              refine g_aload_n dX6_begins_145 rfl ?_
              refine g_getR dX6_begins_146 fX6_44 rfl rfl ?_
              refine g_iload_n dX6_begins_149 rfl ?_
              refine g_iconst (v := 0) dX6_begins_150 (by decide) ?_
              refine g_ias _ dX6_begins_151 rfl rfl (by omega) ?_
              refine g_iinc (v := nI (k + 1)) dX6_begins_152 rfl (nI_1 k) (by decide) rfl ?_
              refine g_goto (tgt := 136) dX6_begins_155 (by decide) ?_
              exact g_g (r_fill_s _ _ _ _) ih
            · refine g_iload_n dX6_begins_136 rfl ?_
              refine g_aload_n dX6_begins_137 rfl ?_
              refine g_getR dX6_begins_138 fX6_44 rfl rfl ?_
              refine g_alen (v := nI 3) dX6_begins_141 rfl rfl ?_
              refine g_icge (tgt := 158) dX6_begins_142 (by decide) (fun c142 => ?_) (fun c142 => absurd (nI_le (Nat.le_refl _) (by omega)) c142)
              refine g_aload_n dX6_begins_158 rfl ?_
              refine g_iconst (v := 0) dX6_begins_159 (by decide) ?_
              refine g_putI dX6_begins_160 pX6_111 rfl rfl ?_
              refine g_aload_n dX6_begins_163 rfl ?_
              refine g_iconst (v := 0) dX6_begins_164 (by decide) ?_
              refine g_putI dX6_begins_165 pX6_114 rfl rfl ?_
              refine g_aload_n dX6_begins_168 rfl ?_
              refine g_iconst (v := 0) dX6_begins_169 (by decide) ?_
              refine g_putZ dX6_begins_170 pX6_117 rfl rfl (by decide) ?_
              refine g_aload_n dX6_begins_173 rfl ?_
              refine g_iconst (v := 0) dX6_begins_174 (by decide) ?_
              refine g_putI dX6_begins_175 pX6_121 rfl rfl ?_
              exact g_ret dX6_begins_178 rfl ⟨rfl, rfl⟩

theorem r_guard {d c : Int32} : (∃ a b : Nat, r_ok a b ∧ d = nI a ∧ c = nI b) ↔ ((4 ≤ c ∧ c ≤ 6) ∧ 1 ≤ d ∧ d ≤ (if c = 4 then 4 else if c = 5 then 11 else 14)) := by
  constructor
  · rintro ⟨a, b, h, rfl, rfl⟩
    obtain ⟨h1, ⟨rfl, h2⟩ | ⟨rfl, h2⟩ | ⟨rfl, h2⟩⟩ := h
    · exact ⟨by decide, nI_le h1 (by omega), nI_le (b := 4) h2 (by omega)⟩
    · exact ⟨by decide, nI_le h1 (by omega), nI_le (b := 11) h2 (by omega)⟩
    · exact ⟨by decide, nI_le h1 (by omega), nI_le (b := 14) h2 (by omega)⟩
  · rintro ⟨⟨h1, h2⟩, h3, h4⟩
    have hc0 : ¬ c < 0 := by rw [Int32.lt_iff_toInt_lt]; rw [Int32.le_iff_toInt_le] at h1; have e : (4 : Int32).toInt = 4 := rfl; have e2 : (0 : Int32).toInt = 0 := rfl; omega
    obtain ⟨b, hb, rfl⟩ := nI_of hc0
    have hd0 : ¬ d < 0 := by rw [Int32.lt_iff_toInt_lt]; rw [Int32.le_iff_toInt_le] at h3; have e : (1 : Int32).toInt = 1 := rfl; have e2 : (0 : Int32).toInt = 0 := rfl; omega
    obtain ⟨a, ha, rfl⟩ := nI_of hd0
    have g1 : 4 ≤ b := (nI_leI (a := 4) (by omega) hb).mp h1
    have g2 : b ≤ 6 := (nI_leI (b := 6) hb (by omega)).mp h2
    have g3 : 1 ≤ a := (nI_leI (a := 1) (by omega) ha).mp h3
    refine ⟨a, b, ⟨g3, ?_⟩, rfl, rfl⟩
    rcases (show b = 4 ∨ b = 5 ∨ b = 6 by omega) with rfl | rfl | rfl
    · exact Or.inl ⟨rfl, (nI_leI (b := 4) ha (by omega)).mp h4⟩
    · exact Or.inr (Or.inl ⟨rfl, (nI_leI (b := 11) ha (by omega)).mp h4⟩)
    · exact Or.inr (Or.inr ⟨rfl, (nI_leI (b := 14) ha (by omega)).mp h4⟩)

set_option maxRecDepth 4000 in
theorem ev_X6_code_ok {σ : r_Sg} {d c : Nat} (hok : r_ok d c) : Ev 3 MX6_code [.ref 19, .int (nI d), .int (nI c)] σ (some (.int (nI (d + c)))) (r_beg (r_mf (r_up (r_up σ 19 0 (nI d)) 19 1 (nI c)) c d c) (d + c)) := by
  have hc := r_ok_c hok
  have hg := r_guard.mp ⟨d, c, hok, rfl, rfl⟩
  refine Ev_w [.ref 19, .int (nI d), .int (nI c), .null, .null] ?_ (by decide) rfl (Nat.le_of_ble_eq_true rfl) rfl
  refine g_iload_n dX6_code_0 rfl ?_
  refine g_iconst (v := 4) dX6_code_1 (by decide) ?_
  refine g_bipush (v := 6) dX6_code_2 (by decide) ?_
  refine g_S3 dX6_code_4 vX6_68 (Nat.le_of_ble_eq_true rfl) (by decide) (ev_X6_within) ?_
  refine g_ifeq (tgt := 22) dX6_code_7 (by decide) (fun c7 => absurd c7 (bI_1.mpr hg.1)) (fun c7 => ?_)
  refine g_iload_n dX6_code_10 rfl ?_
  refine g_iconst (v := 1) dX6_code_11 (by decide) ?_
  refine g_iload_n dX6_code_12 rfl ?_
  refine g_S1 dX6_code_13 vX6_83 (Nat.le_of_ble_eq_true rfl) (by decide) (ev_X6_mostData) ?_
  refine g_S3 dX6_code_16 vX6_68 (Nat.le_of_ble_eq_true rfl) (by decide) (ev_X6_within) ?_
  refine g_ifne (tgt := 25) dX6_code_19 (by decide) (fun c19 => ?_) (fun c19 => absurd c19 (bI_1.mpr hg.2))
  refine g_aload_n dX6_code_25 rfl ?_
  refine g_iload_n dX6_code_26 rfl ?_
  refine g_putI dX6_code_27 pX6_57 rfl rfl ?_
  refine g_aload_n dX6_code_30 rfl ?_
  refine g_iload_n dX6_code_31 rfl ?_
  refine g_putI dX6_code_32 pX6_61 rfl rfl ?_
  refine g_iconst (v := 0) dX6_code_35 (by decide) ?_
  refine g_istore_n dX6_code_36 (by decide) rfl ?_
  refine g_g (r_fill_0 _ 21 0) ?_
  refine r_loop (n := 6) (fun k => [.ref 19, .int (nI d), .int (nI c), .int (nI k), .null]) (fun k => r_fill (r_up (r_up σ 19 0 (nI d)) 19 1 (nI c)) 21 k 0) (fun k hk ih => ?_) ?_
  · refine g_iload_n dX6_code_37 rfl ?_
    refine g_aload_n dX6_code_38 rfl ?_
    refine g_getR dX6_code_39 fX6_13 rfl rfl ?_
    refine g_alen (v := nI 6) dX6_code_42 rfl rfl ?_
    refine g_icge (tgt := 59) dX6_code_43 (by decide) (fun c43 => absurd c43 (nI_ge hk (by omega))) (fun c43 => ?_)
    refine g_aload_n dX6_code_46 rfl ?_
    refine g_getR dX6_code_47 fX6_13 rfl rfl ?_
    refine g_iload_n dX6_code_50 rfl ?_
    refine g_iconst (v := 0) dX6_code_51 (by decide) ?_
    refine g_ias _ dX6_code_52 rfl rfl (by omega) ?_
    refine g_iinc (v := nI (k + 1)) dX6_code_53 rfl (nI_1 k) (by decide) rfl ?_
    refine g_goto (tgt := 37) dX6_code_56 (by decide) ?_
    exact g_g (r_fill_s _ _ _ _) ih
  · refine g_iload_n dX6_code_37 rfl ?_
    refine g_aload_n dX6_code_38 rfl ?_
    refine g_getR dX6_code_39 fX6_13 rfl rfl ?_
    refine g_alen (v := nI 6) dX6_code_42 rfl rfl ?_
    refine g_icge (tgt := 59) dX6_code_43 (by decide) (fun c43 => ?_) (fun c43 => absurd (nI_le (Nat.le_refl _) (by omega)) c43)
    refine g_iconst (v := 0) dX6_code_59 (by decide) ?_
    refine g_istore_n dX6_code_60 (by decide) rfl ?_
    refine g_g (r_F0 _ c) ?_
    refine r_loop (n := d) (fun k => [.ref 19, .int (nI d), .int (nI c), .int (nI k), .null]) (fun k => r_mc (r_up (r_up σ 19 0 (nI d)) 19 1 (nI c)) c k) (fun k hk ih => ?_) ?_
    · refine g_iload_n dX6_code_61 rfl ?_
      refine g_iload_n dX6_code_62 rfl ?_
      refine g_icge (tgt := 119) dX6_code_63 (by decide) (fun c63 => absurd c63 (nI_ge hk (by omega))) (fun c63 => ?_)
      refine g_aload_n dX6_code_66 rfl ?_
      refine g_getR dX6_code_67 fX6_7 rfl rfl ?_
      refine g_iload_n dX6_code_70 rfl ?_
      refine g_aload_n dX6_code_71 rfl ?_
      refine g_iload_n dX6_code_72 rfl ?_
      have hT := r_Tlt hok hk
      refine g_V1 dX6_code_73 vX6_86 rfl (Nat.le_of_ble_eq_true rfl) (by decide) (Ev_r (r' := some (.int (nI (r_T c k)))) (ev_X6_nextColumn (σ := r_mc (r_up (r_up σ 19 0 (nI d)) 19 1 (nI c)) c k) (c := c) (N := 2 ^ c) (by simp [r_mc, r_up, upd]) (by omega) (by simp only [r_mc, r_up, upd]; simp; exact r_shl1 c (by omega)) (by omega) (by omega)) (by rw [r_nsts_congr (ro' := fun i => nI (r_RO c k i)) (cf' := fun i => nI (r_T c i)) (by intro i hi; have h6 : i < 6 := (by omega); simp [r_mc, h6]) (by intro x hx; simp [r_mc, hx]), r_nx hok hk])) ?_
      refine g_ias _ dX6_code_76 rfl rfl (by omega) ?_
      refine g_iconst (v := 0) dX6_code_77 (by decide) ?_
      refine g_istore dX6_code_78 (by decide) rfl ?_
      refine g_g (σ' := r_mr (r_up (r_mc (r_up (r_up σ 19 0 (nI d)) 19 1 (nI c)) c k) 20 k (nI (r_T c k))) (nI (r_T c k)) 0) (by funext q i; by_cases h3 : q = 21 <;> simp [r_mr, h3]) ?_
      refine r_loop (n := c) (fun j => [.ref 19, .int (nI d), .int (nI c), .int (nI k), .int (nI j)]) (fun j => r_mr (r_up (r_mc (r_up (r_up σ 19 0 (nI d)) 19 1 (nI c)) c k) 20 k (nI (r_T c k))) (nI (r_T c k)) j) (fun j hj ih => ?_) ?_
      · refine g_iload dX6_code_80 rfl ?_
        refine g_iload_n dX6_code_82 rfl ?_
        refine g_icge (tgt := 113) dX6_code_83 (by decide) (fun c83 => absurd c83 (nI_ge hj (by omega))) (fun c83 => ?_)
        refine g_aload_n dX6_code_86 rfl ?_
        refine g_getR dX6_code_87 fX6_13 rfl rfl ?_
        refine g_iload dX6_code_90 rfl ?_
        refine g_dup2 dX6_code_92 rfl rfl ?_
        refine g_ial _ dX6_code_93 rfl rfl (by omega) ?_
        refine g_aload_n dX6_code_94 rfl ?_
        refine g_getR dX6_code_95 fX6_7 rfl rfl ?_
        refine g_iload_n dX6_code_98 rfl ?_
        refine g_ial _ dX6_code_99 rfl rfl (by omega) ?_
        refine g_iload dX6_code_100 rfl ?_
        refine g_S2 dX6_code_102 vX6_53 (Nat.le_of_ble_eq_true rfl) (by decide) (ev_X6_isIn) ?_
        refine g_iadd dX6_code_105 ?_
        refine g_ias _ dX6_code_106 rfl rfl (by omega) ?_
        refine g_iinc (v := nI (j + 1)) dX6_code_107 rfl (nI_1 j) (by decide) rfl ?_
        refine g_goto (tgt := 80) dX6_code_110 (by decide) ?_
        exact g_g (by rw [← r_F1a]; congr 1; simp [r_mr, r_up, upd]) ih
      · refine g_iload dX6_code_80 rfl ?_
        refine g_iload_n dX6_code_82 rfl ?_
        refine g_icge (tgt := 113) dX6_code_83 (by decide) (fun c83 => ?_) (fun c83 => absurd (nI_le (Nat.le_refl _) (by omega)) c83)
        refine g_iinc (v := nI (k + 1)) dX6_code_113 rfl (nI_1 k) (by decide) rfl ?_
        refine g_goto (tgt := 61) dX6_code_116 (by decide) ?_
        refine g_w [.ref 19, .int (nI d), .int (nI c), .int (nI (k + 1)), .null] (And.intro (Or.inr rfl) (And.intro (Or.inr rfl) (And.intro (Or.inr rfl) (And.intro (Or.inr rfl) (And.intro (Or.inl rfl) (True.intro)))))) ?_
        exact g_g (r_F1 _ hok hk) ih
    · refine g_iload_n dX6_code_61 rfl ?_
      refine g_iload_n dX6_code_62 rfl ?_
      refine g_icge (tgt := 119) dX6_code_63 (by decide) (fun c63 => ?_) (fun c63 => absurd (nI_le (Nat.le_refl _) (by omega)) c63)
      refine g_iconst (v := 0) dX6_code_119 (by decide) ?_
      refine g_istore_n dX6_code_120 (by decide) rfl ?_
      refine g_g (r_F2 _ c d) ?_
      refine r_loop (n := c) (fun k => [.ref 19, .int (nI d), .int (nI c), .int (nI k), .null]) (fun k => r_mf (r_up (r_up σ 19 0 (nI d)) 19 1 (nI c)) c d k) (fun k hk ih => ?_) ?_
      · refine g_iload_n dX6_code_121 rfl ?_
        refine g_iload_n dX6_code_122 rfl ?_
        refine g_icge (tgt := 143) dX6_code_123 (by decide) (fun c123 => absurd c123 (nI_ge hk (by omega))) (fun c123 => ?_)
        refine g_aload_n dX6_code_126 rfl ?_
        refine g_getR dX6_code_127 fX6_7 rfl rfl ?_
        refine g_iload_n dX6_code_130 rfl ?_
        refine g_iload_n dX6_code_131 rfl ?_
        refine g_iadd dX6_code_132 ?_
        refine g_t (nI_add d k) ?_
        refine g_iconst (v := 1) dX6_code_133 (by decide) ?_
        refine g_iload_n dX6_code_134 rfl ?_
        refine g_ishl dX6_code_135 ?_
        refine g_t (r_shl1 k (by omega)) ?_
        refine g_ias _ dX6_code_136 rfl rfl (by omega) ?_
        refine g_iinc (v := nI (k + 1)) dX6_code_137 rfl (nI_1 k) (by decide) rfl ?_
        refine g_goto (tgt := 121) dX6_code_140 (by decide) ?_
        exact g_g (r_F3 _ c d k) ih
      · refine g_iload_n dX6_code_121 rfl ?_
        refine g_iload_n dX6_code_122 rfl ?_
        refine g_icge (tgt := 143) dX6_code_123 (by decide) (fun c123 => ?_) (fun c123 => absurd (nI_le (Nat.le_refl _) (by omega)) c123)
        refine g_aload_n dX6_code_143 rfl ?_
        refine g_V0v dX6_code_144 vX6_89 rfl (Nat.le_of_ble_eq_true rfl) (by decide) (ev_X6_begins (w := d + c) (by simp [r_mf, r_up, upd, nI_add]) (by omega)) ?_
        refine g_iload_n dX6_code_147 rfl ?_
        refine g_iload_n dX6_code_148 rfl ?_
        refine g_iadd dX6_code_149 ?_
        refine g_t (nI_add d c) ?_
        exact g_iret dX6_code_150 rfl ⟨rfl, rfl⟩

set_option maxRecDepth 4000 in
theorem ev_X6_code_no {σ : r_Sg} {d c : Int32} (hno : ¬ ∃ a b : Nat, r_ok a b ∧ d = nI a ∧ c = nI b) : Ev 3 MX6_code [.ref 19, .int d, .int c] σ (some (.int (-2))) σ := by
  rw [r_guard] at hno
  refine Ev_w [.ref 19, .int d, .int c, .null, .null] ?_ (by decide) rfl (Nat.le_of_ble_eq_true rfl) rfl
  refine g_iload_n dX6_code_0 rfl ?_
  refine g_iconst (v := 4) dX6_code_1 (by decide) ?_
  refine g_bipush (v := 6) dX6_code_2 (by decide) ?_
  refine g_S3 dX6_code_4 vX6_68 (Nat.le_of_ble_eq_true rfl) (by decide) (ev_X6_within) ?_
  refine g_ifeq (tgt := 22) dX6_code_7 (by decide) (fun c7 => ?_) (fun c7 => ?_)
  · refine g_bipush (v := (-2)) dX6_code_22 (by decide) ?_
    exact g_iret dX6_code_24 rfl ⟨rfl, rfl⟩
  · refine g_iload_n dX6_code_10 rfl ?_
    refine g_iconst (v := 1) dX6_code_11 (by decide) ?_
    refine g_iload_n dX6_code_12 rfl ?_
    refine g_S1 dX6_code_13 vX6_83 (Nat.le_of_ble_eq_true rfl) (by decide) (ev_X6_mostData) ?_
    refine g_S3 dX6_code_16 vX6_68 (Nat.le_of_ble_eq_true rfl) (by decide) (ev_X6_within) ?_
    refine g_ifne (tgt := 25) dX6_code_19 (by decide) (fun c19 => absurd ⟨bI_1.mp c7, bI_1.mp c19⟩ hno) (fun c19 => ?_)
    refine g_bipush (v := (-2)) dX6_code_22 (by decide) ?_
    exact g_iret dX6_code_24 rfl ⟨rfl, rfl⟩
