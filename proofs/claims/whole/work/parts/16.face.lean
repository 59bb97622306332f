/-! MendedBank (cell 0): the bank's calls -/
theorem r_in4 {p : Nat} (h : p < 4) : 0 ≤ nI p ∧ nI p < 4 := ⟨nI_pos' (by omega), nI_lt (b := 4) h (by omega)⟩
theorem r_in3 {p : Nat} (h : p < 4) : 0 ≤ nI p ∧ nI p ≤ 3 := ⟨nI_pos' (by omega), nI_le (b := 3) (by omega) (by omega)⟩

set_option maxRecDepth 4000 in
theorem ev_X5_isWord {σ : r_Sg} {v : Int32}  : Ev 0 MX5_isWord [.int v] σ (some (.int (bI (0 ≤ v ∧ v < 4)))) σ := by
  refine Ev_w [.int v] ?_ (by decide) rfl (Nat.le_of_ble_eq_true rfl) rfl
  refine g_iload_n dX5_isWord_0 rfl ?_
  refine g_iflt (tgt := 13) dX5_isWord_1 (by decide) (fun c1 => ?_) (fun c1 => ?_)
  · refine g_iconst (v := 0) dX5_isWord_13 (by decide) ?_
    exact g_zret dX5_isWord_14 rfl (by first | exact Or.inl rfl | exact Or.inr rfl) ⟨by simp only [bI_0, Decidable.not_not, Int32.not_le, Int32.not_lt, Int32.lt_iff_toInt_lt, Int32.le_iff_toInt_le] at *; unfold bI; split <;> first | rfl | (exfalso; omega), rfl⟩
  · refine g_iload_n dX5_isWord_4 rfl ?_
    refine g_iconst (v := 4) dX5_isWord_5 (by decide) ?_
    refine g_icge (tgt := 13) dX5_isWord_6 (by decide) (fun c6 => ?_) (fun c6 => ?_)
    · refine g_iconst (v := 0) dX5_isWord_13 (by decide) ?_
      exact g_zret dX5_isWord_14 rfl (by first | exact Or.inl rfl | exact Or.inr rfl) ⟨by simp only [bI_0, Decidable.not_not, Int32.not_le, Int32.not_lt, Int32.lt_iff_toInt_lt, Int32.le_iff_toInt_le] at *; unfold bI; split <;> first | rfl | (exfalso; omega), rfl⟩
    · refine g_iconst (v := 1) dX5_isWord_9 (by decide) ?_
      refine g_goto (tgt := 14) dX5_isWord_10 (by decide) ?_
      exact g_zret dX5_isWord_14 rfl (by first | exact Or.inl rfl | exact Or.inr rfl) ⟨by simp only [bI_0, Decidable.not_not, Int32.not_le, Int32.not_lt, Int32.lt_iff_toInt_lt, Int32.le_iff_toInt_le] at *; unfold bI; split <;> first | rfl | (exfalso; omega), rfl⟩

set_option maxRecDepth 4000 in
theorem ev_X5_hasPage {σ : r_Sg} {p : Int32}  : Ev 1 MX5_hasPage [.ref 0, .int p] σ (some (.int (bI (0 < σ 1 4 ∧ 0 ≤ p ∧ p < 4)))) σ := by
  refine Ev_w [.ref 0, .int p] ?_ (by decide) rfl (Nat.le_of_ble_eq_true rfl) rfl
  refine g_aload_n dX5_hasPage_0 rfl ?_
  refine g_getR dX5_hasPage_1 fX5_12 rfl rfl ?_
  refine g_V0 dX5_hasPage_4 vX5_66 rfl (Nat.le_of_ble_eq_true rfl) (by decide) (ev_X2_stands) ?_
  refine g_ifeq (tgt := 23) dX5_hasPage_7 (by decide) (fun c7 => ?_) (fun c7 => ?_)
  · refine g_iconst (v := 0) dX5_hasPage_23 (by decide) ?_
    exact g_zret dX5_hasPage_24 rfl (by first | exact Or.inl rfl | exact Or.inr rfl) ⟨by simp only [bI_0, Decidable.not_not, Int32.not_le, Int32.not_lt, Int32.lt_iff_toInt_lt, Int32.le_iff_toInt_le] at *; unfold bI; split <;> first | rfl | (exfalso; omega), rfl⟩
  · refine g_iload_n dX5_hasPage_10 rfl ?_
    refine g_iflt (tgt := 23) dX5_hasPage_11 (by decide) (fun c11 => ?_) (fun c11 => ?_)
    · refine g_iconst (v := 0) dX5_hasPage_23 (by decide) ?_
      exact g_zret dX5_hasPage_24 rfl (by first | exact Or.inl rfl | exact Or.inr rfl) ⟨by simp only [bI_0, Decidable.not_not, Int32.not_le, Int32.not_lt, Int32.lt_iff_toInt_lt, Int32.le_iff_toInt_le] at *; unfold bI; split <;> first | rfl | (exfalso; omega), rfl⟩
    · refine g_iload_n dX5_hasPage_14 rfl ?_
      refine g_iconst (v := 4) dX5_hasPage_15 (by decide) ?_
      refine g_icge (tgt := 23) dX5_hasPage_16 (by decide) (fun c16 => ?_) (fun c16 => ?_)
      · refine g_iconst (v := 0) dX5_hasPage_23 (by decide) ?_
        exact g_zret dX5_hasPage_24 rfl (by first | exact Or.inl rfl | exact Or.inr rfl) ⟨by simp only [bI_0, Decidable.not_not, Int32.not_le, Int32.not_lt, Int32.lt_iff_toInt_lt, Int32.le_iff_toInt_le] at *; unfold bI; split <;> first | rfl | (exfalso; omega), rfl⟩
      · refine g_iconst (v := 1) dX5_hasPage_19 (by decide) ?_
        refine g_goto (tgt := 24) dX5_hasPage_20 (by decide) ?_
        exact g_zret dX5_hasPage_24 rfl (by first | exact Or.inl rfl | exact Or.inr rfl) ⟨by simp only [bI_0, Decidable.not_not, Int32.not_le, Int32.not_lt, Int32.lt_iff_toInt_lt, Int32.le_iff_toInt_le] at *; unfold bI; split <;> first | rfl | (exfalso; omega), rfl⟩

set_option maxRecDepth 4000 in
theorem ev_X5_hasWord {σ : r_Sg} {p v : Int32}  : Ev 2 MX5_hasWord [.ref 0, .int p, .int v] σ (some (.int (bI ((0 < σ 1 4 ∧ 0 ≤ p ∧ p < 4) ∧ 0 ≤ v ∧ v < 4)))) σ := by
  refine Ev_w [.ref 0, .int p, .int v] ?_ (by decide) rfl (Nat.le_of_ble_eq_true rfl) rfl
  refine g_aload_n dX5_hasWord_0 rfl ?_
  refine g_iload_n dX5_hasWord_1 rfl ?_
  refine g_V1 dX5_hasWord_2 vX5_137 rfl (Nat.le_of_ble_eq_true rfl) (by decide) (ev_X5_hasPage) ?_
  refine g_ifeq (tgt := 19) dX5_hasWord_5 (by decide) (fun c5 => ?_) (fun c5 => ?_)
  · have q5 := bI_0.mp c5
    have e : bI ((0 < σ 1 4 ∧ 0 ≤ p ∧ p < 4) ∧ 0 ≤ v ∧ v < 4) = 0 := bI_f (fun z => by first | exact q5 z.1 | exact q12 z.2)
    refine g_iconst (v := 0) dX5_hasWord_19 (by decide) ?_
    exact g_zret dX5_hasWord_20 rfl (by first | exact Or.inl rfl | exact Or.inr rfl) ⟨by rw [e], rfl⟩
  · have q5 := bI_1.mp c5
    refine g_iload_n dX5_hasWord_8 rfl ?_
    refine g_S1 dX5_hasWord_9 vX5_128 (Nat.le_of_ble_eq_true rfl) (by decide) (ev_X5_isWord) ?_
    refine g_ifeq (tgt := 19) dX5_hasWord_12 (by decide) (fun c12 => ?_) (fun c12 => ?_)
    · have q12 := bI_0.mp c12
      have e : bI ((0 < σ 1 4 ∧ 0 ≤ p ∧ p < 4) ∧ 0 ≤ v ∧ v < 4) = 0 := bI_f (fun z => by first | exact q5 z.1 | exact q12 z.2)
      refine g_iconst (v := 0) dX5_hasWord_19 (by decide) ?_
      exact g_zret dX5_hasWord_20 rfl (by first | exact Or.inl rfl | exact Or.inr rfl) ⟨by rw [e], rfl⟩
    · have q12 := bI_1.mp c12
      have e := bI_t (And.intro q5 q12)
      refine g_iconst (v := 1) dX5_hasWord_15 (by decide) ?_
      refine g_goto (tgt := 20) dX5_hasWord_16 (by decide) ?_
      exact g_zret dX5_hasWord_20 rfl (by first | exact Or.inl rfl | exact Or.inr rfl) ⟨by rw [e], rfl⟩

set_option maxRecDepth 4000 in
theorem ev_X5_write_u {σ : r_Sg} {p v : Int32} {a : Int32} (hg : ¬ ((0 < σ 1 4 ∧ 0 ≤ p ∧ p < 4) ∧ 0 ≤ v ∧ v < 4)) : Ev 5 MX5_write [.ref 0, .int p, .int v, .int a] σ (some (.int (-1))) σ := by
  refine Ev_w [.ref 0, .int p, .int v, .int a] ?_ (by decide) rfl (Nat.le_of_ble_eq_true rfl) rfl
  refine g_aload_n dX5_write_0 rfl ?_
  refine g_iload_n dX5_write_1 rfl ?_
  refine g_iload_n dX5_write_2 rfl ?_
  refine g_V2 dX5_write_3 vX5_85 rfl (Nat.le_of_ble_eq_true rfl) (by decide) (ev_X5_hasWord) ?_
  refine g_ifne (tgt := 11) dX5_write_6 (by decide) (fun c6 => absurd (bI_0.mpr hg) c6) (fun c6 => ?_)
  refine g_iconst (v := (-1)) dX5_write_9 (by decide) ?_
  exact g_iret dX5_write_10 rfl ⟨rfl, rfl⟩

set_option maxRecDepth 4000 in
theorem ev_X5_write_o {σ : r_Sg} {p v : Nat} {a : Int32} (hst : 0 < σ 1 4) (hp : p < 4) (hv : v < 4) (ha : ¬ (0 ≤ a ∧ a < 1 <<< (σ 1 3 &&& 31))) : Ev 5 MX5_write [.ref 0, .int (nI p), .int (nI v), .int a] σ (some (.int (-2))) σ := by
  refine Ev_w [.ref 0, .int (nI p), .int (nI v), .int a] ?_ (by decide) rfl (Nat.le_of_ble_eq_true rfl) rfl
  refine g_aload_n dX5_write_0 rfl ?_
  refine g_iload_n dX5_write_1 rfl ?_
  refine g_iload_n dX5_write_2 rfl ?_
  refine g_V2 dX5_write_3 vX5_85 rfl (Nat.le_of_ble_eq_true rfl) (by decide) (ev_X5_hasWord) ?_
  refine g_ifne (tgt := 11) dX5_write_6 (by decide) (fun c6 => ?_) (fun c6 => absurd c6 (bI_1.mpr ⟨⟨hst, r_in4 hp⟩, r_in4 hv⟩))
  refine g_aload_n dX5_write_11 rfl ?_
  refine g_getR dX5_write_12 fX5_12 rfl rfl ?_
  refine g_iload_n dX5_write_15 rfl ?_
  refine g_V1 dX5_write_16 vX5_70 rfl (Nat.le_of_ble_eq_true rfl) (by decide) (ev_X2_hasValue) ?_
  refine g_ifne (tgt := 25) dX5_write_19 (by decide) (fun c19 => absurd (bI_0.mpr ha) c19) (fun c19 => ?_)
  refine g_bipush (v := (-2)) dX5_write_22 (by decide) ?_
  exact g_iret dX5_write_24 rfl ⟨rfl, rfl⟩

set_option maxRecDepth 4000 in
theorem ev_X5_write_k {σ : r_Sg} {w : Nat} {sb : Option Nat} {fr : Nat → Nat} {nr : Nat} {p v : Nat} {a : Int32} (h : r_BH σ w sb fr nr) (hst : 0 < σ 1 4) (hp : p < 4) (hv : v < 4) (ha : 0 ≤ a ∧ a < 1 <<< (σ 1 3 &&& 31)) : Ev 5 MX5_write [.ref 0, .int (nI p), .int (nI v), .int a] σ (some (.int 1)) (c_pb (r_up σ 15 (4 * p + v) a) w sb (4 * fr p + v) (a ||| (r_syn (σ 2) a w <<< (σ 1 3 &&& 31)))) := by
  refine Ev_w [.ref 0, .int (nI p), .int (nI v), .int a] ?_ (by decide) rfl (Nat.le_of_ble_eq_true rfl) rfl
  refine g_aload_n dX5_write_0 rfl ?_
  refine g_iload_n dX5_write_1 rfl ?_
  refine g_iload_n dX5_write_2 rfl ?_
  refine g_V2 dX5_write_3 vX5_85 rfl (Nat.le_of_ble_eq_true rfl) (by decide) (ev_X5_hasWord) ?_
  refine g_ifne (tgt := 11) dX5_write_6 (by decide) (fun c6 => ?_) (fun c6 => absurd c6 (bI_1.mpr ⟨⟨hst, r_in4 hp⟩, r_in4 hv⟩))
  refine g_aload_n dX5_write_11 rfl ?_
  refine g_getR dX5_write_12 fX5_12 rfl rfl ?_
  refine g_iload_n dX5_write_15 rfl ?_
  refine g_V1 dX5_write_16 vX5_70 rfl (Nat.le_of_ble_eq_true rfl) (by decide) (ev_X2_hasValue) ?_
  refine g_ifne (tgt := 25) dX5_write_19 (by decide) (fun c19 => ?_) (fun c19 => absurd c19 (bI_1.mpr ha))
  refine g_aload_n dX5_write_25 rfl ?_
  refine g_getR dX5_write_26 fX5_23 rfl rfl ?_
  refine g_iload_n dX5_write_29 rfl ?_
  refine g_iload_n dX5_write_30 rfl ?_
  refine g_iload_n dX5_write_31 rfl ?_
  refine g_V3v dX5_write_32 vX5_88 rfl (Nat.le_of_ble_eq_true rfl) (by decide) (ev_X0_keep h hp hv) ?_
  refine g_iconst (v := 1) dX5_write_35 (by decide) ?_
  exact g_iret dX5_write_36 rfl ⟨rfl, rfl⟩

set_option maxRecDepth 4000 in
theorem ev_X5_read_u {σ : r_Sg} {p v : Int32} (hg : ¬ ((0 < σ 1 4 ∧ 0 ≤ p ∧ p < 4) ∧ 0 ≤ v ∧ v < 4)) : Ev 5 MX5_read [.ref 0, .int p, .int v] σ (some (.int (-1))) σ := by
  refine Ev_w [.ref 0, .int p, .int v, .null] ?_ (by decide) rfl (Nat.le_of_ble_eq_true rfl) rfl
  refine g_aload_n dX5_read_0 rfl ?_
  refine g_iload_n dX5_read_1 rfl ?_
  refine g_iload_n dX5_read_2 rfl ?_
  refine g_V2 dX5_read_3 vX5_85 rfl (Nat.le_of_ble_eq_true rfl) (by decide) (ev_X5_hasWord) ?_
  refine g_ifne (tgt := 11) dX5_read_6 (by decide) (fun c6 => absurd (bI_0.mpr hg) c6) (fun c6 => ?_)
  refine g_iconst (v := (-1)) dX5_read_9 (by decide) ?_
  exact g_iret dX5_read_10 rfl ⟨rfl, rfl⟩

set_option maxRecDepth 4000 in
theorem ev_X5_read_c {σ : r_Sg} {w : Nat} {sb : Option Nat} {fr : Nat → Nat} {nr : Nat} {p v : Nat} (h : r_BH σ w sb fr nr) (hst : 0 < σ 1 4) (hp : p < 4) (hv : v < 4) (hy : r_syn (σ 2) (r_bo w sb (σ 7 (4 * fr p + v))) w = nI 0) (hs : ¬ (r_bo w sb (σ 7 (4 * fr p + v))) = -5) : Ev 5 MX5_read [.ref 0, .int (nI p), .int (nI v)] σ (some (.int ((r_bo w sb (σ 7 (4 * fr p + v))) &&& ((1 <<< (σ 1 3 &&& 31)) - 1)))) (c_nl σ 0 (-9) (nI p) (nI v)) := by
  refine Ev_w [.ref 0, .int (nI p), .int (nI v), .null] ?_ (by decide) rfl (Nat.le_of_ble_eq_true rfl) rfl
  refine g_aload_n dX5_read_0 rfl ?_
  refine g_iload_n dX5_read_1 rfl ?_
  refine g_iload_n dX5_read_2 rfl ?_
  refine g_V2 dX5_read_3 vX5_85 rfl (Nat.le_of_ble_eq_true rfl) (by decide) (ev_X5_hasWord) ?_
  refine g_ifne (tgt := 11) dX5_read_6 (by decide) (fun c6 => ?_) (fun c6 => absurd c6 (bI_1.mpr ⟨⟨hst, r_in4 hp⟩, r_in4 hv⟩))
  refine g_aload_n dX5_read_11 rfl ?_
  refine g_getR dX5_read_12 fX5_23 rfl rfl ?_
  refine g_iload_n dX5_read_15 rfl ?_
  refine g_iload_n dX5_read_16 rfl ?_
  refine g_V2 dX5_read_17 vX5_92 rfl (Nat.le_of_ble_eq_true rfl) (by decide) (ev_X0_lookAt_c h hp hv hy) ?_
  refine g_istore_n dX5_read_20 (by decide) rfl ?_
  refine g_iload_n dX5_read_21 rfl ?_
  refine g_bipush (v := (-5)) dX5_read_22 (by decide) ?_
  refine g_icne (tgt := 32) dX5_read_24 (by decide) (fun c24 => ?_) (fun c24 => absurd c24 hs)
  refine g_aload_n dX5_read_32 rfl ?_
  refine g_getR dX5_read_33 fX5_12 rfl rfl ?_
  refine g_iload_n dX5_read_36 rfl ?_
  refine g_V1 dX5_read_37 vX5_96 rfl (Nat.le_of_ble_eq_true rfl) (by decide) (ev_X2_valueOf) ?_
  exact g_iret dX5_read_40 rfl ⟨rfl, rfl⟩

set_option maxRecDepth 4000 in
theorem ev_X5_read_f {σ : r_Sg} {w : Nat} {sb : Option Nat} {fr : Nat → Nat} {nr : Nat} {p v y : Nat} (h : r_BH σ w sb fr nr) (hst : 0 < σ 1 4) (hp : p < 4) (hv : v < 4) (hy : r_syn (σ 2) (r_bo w sb (σ 7 (4 * fr p + v))) w = nI y) (hy64 : y < 64) (hy0 : 0 < y) (hb : σ 4 y = -9) : Ev 5 MX5_read [.ref 0, .int (nI p), .int (nI v)] σ (some (.int (-5))) (c_nl σ 2 (-9) (nI p) (nI v)) := by
  refine Ev_w [.ref 0, .int (nI p), .int (nI v), .null] ?_ (by decide) rfl (Nat.le_of_ble_eq_true rfl) rfl
  refine g_aload_n dX5_read_0 rfl ?_
  refine g_iload_n dX5_read_1 rfl ?_
  refine g_iload_n dX5_read_2 rfl ?_
  refine g_V2 dX5_read_3 vX5_85 rfl (Nat.le_of_ble_eq_true rfl) (by decide) (ev_X5_hasWord) ?_
  refine g_ifne (tgt := 11) dX5_read_6 (by decide) (fun c6 => ?_) (fun c6 => absurd c6 (bI_1.mpr ⟨⟨hst, r_in4 hp⟩, r_in4 hv⟩))
  refine g_aload_n dX5_read_11 rfl ?_
  refine g_getR dX5_read_12 fX5_23 rfl rfl ?_
  refine g_iload_n dX5_read_15 rfl ?_
  refine g_iload_n dX5_read_16 rfl ?_
  refine g_V2 dX5_read_17 vX5_92 rfl (Nat.le_of_ble_eq_true rfl) (by decide) (ev_X0_lookAt_f h hp hv hy hy64 hy0 hb) ?_
  refine g_istore_n dX5_read_20 (by decide) rfl ?_
  refine g_iload_n dX5_read_21 rfl ?_
  refine g_bipush (v := (-5)) dX5_read_22 (by decide) ?_
  refine g_icne (tgt := 32) dX5_read_24 (by decide) (fun c24 => absurd rfl c24) (fun c24 => ?_)
  refine g_bipush (v := (-5)) dX5_read_27 (by decide) ?_
  refine g_goto (tgt := 40) dX5_read_29 (by decide) ?_
  exact g_iret dX5_read_40 rfl ⟨rfl, rfl⟩

theorem c_lk_1 (σ : r_Sg) (w : Nat) (sb : Option Nat) (fr : Nat → Nat) (nr p v b tc : Nat) : c_lk σ w sb fr nr p v b tc 1 = σ 1 := by
  unfold c_lk
  rw [c_nm_o _ _ _ _ _ (by decide) (by decide) (by decide), c_rt_o _ _ _ _ _ _ (by decide) (by decide) (by decide) (by decide) (by decide) (by decide), c_sw_o _ _ _ _ (by decide) (by decide) (by decide) (by decide)]
  rfl

set_option maxRecDepth 4000 in
theorem ev_X5_read_m {σ : r_Sg} {w : Nat} {sb : Option Nat} {fr : Nat → Nat} {nr : Nat} {p v y b tc : Nat} (h : r_BH σ w sb fr nr) (hst : 0 < σ 1 4) (hp : p < 4) (hv : v < 4) (hy : r_syn (σ 2) (r_bo w sb (σ 7 (4 * fr p + v))) w = nI y) (hy64 : y < 64) (hy0 : 0 < y) (hb : σ 4 y = nI b) (hbw : b < w) (htc : σ 10 3 = nI tc) (htc4 : tc ≤ 4) (hs : ¬ (r_bo w sb (σ 7 (4 * fr p + v))) ^^^ r_bm b = -5) : Ev 5 MX5_read [.ref 0, .int (nI p), .int (nI v)] σ (some (.int (((r_bo w sb (σ 7 (4 * fr p + v))) ^^^ r_bm b) &&& ((1 <<< (σ 1 3 &&& 31)) - 1)))) (c_lk σ w sb fr nr p v b tc) := by
  refine Ev_w [.ref 0, .int (nI p), .int (nI v), .null] ?_ (by decide) rfl (Nat.le_of_ble_eq_true rfl) rfl
  refine g_aload_n dX5_read_0 rfl ?_
  refine g_iload_n dX5_read_1 rfl ?_
  refine g_iload_n dX5_read_2 rfl ?_
  refine g_V2 dX5_read_3 vX5_85 rfl (Nat.le_of_ble_eq_true rfl) (by decide) (ev_X5_hasWord) ?_
  refine g_ifne (tgt := 11) dX5_read_6 (by decide) (fun c6 => ?_) (fun c6 => absurd c6 (bI_1.mpr ⟨⟨hst, r_in4 hp⟩, r_in4 hv⟩))
  refine g_aload_n dX5_read_11 rfl ?_
  refine g_getR dX5_read_12 fX5_23 rfl rfl ?_
  refine g_iload_n dX5_read_15 rfl ?_
  refine g_iload_n dX5_read_16 rfl ?_
  refine g_V2 dX5_read_17 vX5_92 rfl (Nat.le_of_ble_eq_true rfl) (by decide) (ev_X0_lookAt_m h hp hv hy hy64 hy0 hb hbw htc htc4) ?_
  refine g_istore_n dX5_read_20 (by decide) rfl ?_
  refine g_iload_n dX5_read_21 rfl ?_
  refine g_bipush (v := (-5)) dX5_read_22 (by decide) ?_
  refine g_icne (tgt := 32) dX5_read_24 (by decide) (fun c24 => ?_) (fun c24 => absurd c24 hs)
  refine g_aload_n dX5_read_32 rfl ?_
  refine g_getR dX5_read_33 fX5_12 rfl rfl ?_
  refine g_iload_n dX5_read_36 rfl ?_
  refine g_V1 dX5_read_37 vX5_96 rfl (Nat.le_of_ble_eq_true rfl) (by decide) (Ev_r (r' := some (.int (((r_bo w sb (σ 7 (4 * fr p + v))) ^^^ r_bm b) &&& ((1 <<< (σ 1 3 &&& 31)) - 1)))) ev_X2_valueOf (by rw [c_lk_1])) ?_
  exact g_iret dX5_read_40 rfl ⟨rfl, rfl⟩

set_option maxRecDepth 4000 in
theorem ev_X5_raw_u {σ : r_Sg} {p v : Int32} (hg : ¬ ((0 < σ 1 4 ∧ 0 ≤ p ∧ p < 4) ∧ 0 ≤ v ∧ v < 4)) : Ev 5 MX5_raw [.ref 0, .int p, .int v] σ (some (.int (-1))) σ := by
  refine Ev_w [.ref 0, .int p, .int v] ?_ (by decide) rfl (Nat.le_of_ble_eq_true rfl) rfl
  refine g_aload_n dX5_raw_0 rfl ?_
  refine g_iload_n dX5_raw_1 rfl ?_
  refine g_iload_n dX5_raw_2 rfl ?_
  refine g_V2 dX5_raw_3 vX5_85 rfl (Nat.le_of_ble_eq_true rfl) (by decide) (ev_X5_hasWord) ?_
  refine g_ifeq (tgt := 21) dX5_raw_6 (by decide) (fun c6 => ?_) (fun c6 => absurd (bI_0.mpr hg) c6)
  refine g_iconst (v := (-1)) dX5_raw_21 (by decide) ?_
  exact g_iret dX5_raw_22 rfl ⟨rfl, rfl⟩

set_option maxRecDepth 4000 in
theorem ev_X5_raw_k {σ : r_Sg} {w : Nat} {sb : Option Nat} {fr : Nat → Nat} {nr : Nat} {p v : Nat} (h : r_BH σ w sb fr nr) (hst : 0 < σ 1 4) (hp : p < 4) (hv : v < 4) : Ev 5 MX5_raw [.ref 0, .int (nI p), .int (nI v)] σ (some (.int (r_bo w sb (σ 7 (4 * fr p + v))))) σ := by
  refine Ev_w [.ref 0, .int (nI p), .int (nI v)] ?_ (by decide) rfl (Nat.le_of_ble_eq_true rfl) rfl
  refine g_aload_n dX5_raw_0 rfl ?_
  refine g_iload_n dX5_raw_1 rfl ?_
  refine g_iload_n dX5_raw_2 rfl ?_
  refine g_V2 dX5_raw_3 vX5_85 rfl (Nat.le_of_ble_eq_true rfl) (by decide) (ev_X5_hasWord) ?_
  refine g_ifeq (tgt := 21) dX5_raw_6 (by decide) (fun c6 => absurd c6 (bI_1.mpr ⟨⟨hst, r_in4 hp⟩, r_in4 hv⟩)) (fun c6 => ?_)
  refine g_aload_n dX5_raw_9 rfl ?_
  refine g_getR dX5_raw_10 fX5_23 rfl rfl ?_
  refine g_iload_n dX5_raw_13 rfl ?_
  refine g_iload_n dX5_raw_14 rfl ?_
  refine g_V2 dX5_raw_15 vX5_99 rfl (Nat.le_of_ble_eq_true rfl) (by decide) (ev_X0_bitsOf h hp hv) ?_
  refine g_goto (tgt := 22) dX5_raw_18 (by decide) ?_
  exact g_iret dX5_raw_22 rfl ⟨rfl, rfl⟩

set_option maxRecDepth 4000 in
theorem ev_X5_flip_u {σ : r_Sg} {p v : Int32} {a : Int32} (hg : ¬ ((0 < σ 1 4 ∧ 0 ≤ p ∧ p < 4) ∧ 0 ≤ v ∧ v < 4)) : Ev 5 MX5_flip [.ref 0, .int p, .int v, .int a] σ (some (.int (-1))) σ := by
  refine Ev_w [.ref 0, .int p, .int v, .int a] ?_ (by decide) rfl (Nat.le_of_ble_eq_true rfl) rfl
  refine g_aload_n dX5_flip_0 rfl ?_
  refine g_iload_n dX5_flip_1 rfl ?_
  refine g_iload_n dX5_flip_2 rfl ?_
  refine g_V2 dX5_flip_3 vX5_85 rfl (Nat.le_of_ble_eq_true rfl) (by decide) (ev_X5_hasWord) ?_
  refine g_ifne (tgt := 11) dX5_flip_6 (by decide) (fun c6 => absurd (bI_0.mpr hg) c6) (fun c6 => ?_)
  refine g_iconst (v := (-1)) dX5_flip_9 (by decide) ?_
  exact g_iret dX5_flip_10 rfl ⟨rfl, rfl⟩

set_option maxRecDepth 4000 in
theorem ev_X5_flip_o {σ : r_Sg} {p v : Nat} {a : Int32} (hst : 0 < σ 1 4) (hp : p < 4) (hv : v < 4) (ha : ¬ (0 ≤ a ∧ a ≤ (1 <<< ((σ 1 3 + σ 1 4) &&& 31)) - 1)) : Ev 5 MX5_flip [.ref 0, .int (nI p), .int (nI v), .int a] σ (some (.int (-2))) σ := by
  refine Ev_w [.ref 0, .int (nI p), .int (nI v), .int a] ?_ (by decide) rfl (Nat.le_of_ble_eq_true rfl) rfl
  refine g_aload_n dX5_flip_0 rfl ?_
  refine g_iload_n dX5_flip_1 rfl ?_
  refine g_iload_n dX5_flip_2 rfl ?_
  refine g_V2 dX5_flip_3 vX5_85 rfl (Nat.le_of_ble_eq_true rfl) (by decide) (ev_X5_hasWord) ?_
  refine g_ifne (tgt := 11) dX5_flip_6 (by decide) (fun c6 => ?_) (fun c6 => absurd c6 (bI_1.mpr ⟨⟨hst, r_in4 hp⟩, r_in4 hv⟩))
  refine g_aload_n dX5_flip_11 rfl ?_
  refine g_getR dX5_flip_12 fX5_12 rfl rfl ?_
  refine g_iload_n dX5_flip_15 rfl ?_
  refine g_V1 dX5_flip_16 vX5_76 rfl (Nat.le_of_ble_eq_true rfl) (by decide) (ev_X2_hasSet) ?_
  refine g_ifeq (tgt := 35) dX5_flip_19 (by decide) (fun c19 => ?_) (fun c19 => absurd (bI_0.mpr ha) c19)
  refine g_bipush (v := (-2)) dX5_flip_35 (by decide) ?_
  exact g_iret dX5_flip_37 rfl ⟨rfl, rfl⟩

set_option maxRecDepth 4000 in
theorem ev_X5_flip_k {σ : r_Sg} {w : Nat} {sb : Option Nat} {fr : Nat → Nat} {nr : Nat} {p v : Nat} {a : Int32} (h : r_BH σ w sb fr nr) (hst : 0 < σ 1 4) (hp : p < 4) (hv : v < 4) (ha : 0 ≤ a ∧ a ≤ (1 <<< ((σ 1 3 + σ 1 4) &&& 31)) - 1) : Ev 5 MX5_flip [.ref 0, .int (nI p), .int (nI v), .int a] σ (some (.int (r_bc (r_po w sb a &&& (σ 8 (4 * fr p + v) ^^^ -1))))) (r_up σ 7 (4 * fr p + v) (σ 7 (4 * fr p + v) ^^^ (r_po w sb a &&& (σ 8 (4 * fr p + v) ^^^ -1)))) := by
  refine Ev_w [.ref 0, .int (nI p), .int (nI v), .int a] ?_ (by decide) rfl (Nat.le_of_ble_eq_true rfl) rfl
  refine g_aload_n dX5_flip_0 rfl ?_
  refine g_iload_n dX5_flip_1 rfl ?_
  refine g_iload_n dX5_flip_2 rfl ?_
  refine g_V2 dX5_flip_3 vX5_85 rfl (Nat.le_of_ble_eq_true rfl) (by decide) (ev_X5_hasWord) ?_
  refine g_ifne (tgt := 11) dX5_flip_6 (by decide) (fun c6 => ?_) (fun c6 => absurd c6 (bI_1.mpr ⟨⟨hst, r_in4 hp⟩, r_in4 hv⟩))
  refine g_aload_n dX5_flip_11 rfl ?_
  refine g_getR dX5_flip_12 fX5_12 rfl rfl ?_
  refine g_iload_n dX5_flip_15 rfl ?_
  refine g_V1 dX5_flip_16 vX5_76 rfl (Nat.le_of_ble_eq_true rfl) (by decide) (ev_X2_hasSet) ?_
  refine g_ifeq (tgt := 35) dX5_flip_19 (by decide) (fun c19 => absurd c19 (bI_1.mpr ha)) (fun c19 => ?_)
  refine g_aload_n dX5_flip_22 rfl ?_
  refine g_getR dX5_flip_23 fX5_23 rfl rfl ?_
  refine g_iload_n dX5_flip_26 rfl ?_
  refine g_iload_n dX5_flip_27 rfl ?_
  refine g_iload_n dX5_flip_28 rfl ?_
  refine g_V3 dX5_flip_29 vX5_102 rfl (Nat.le_of_ble_eq_true rfl) (by decide) (ev_X0_turn h hp hv) ?_
  refine g_goto (tgt := 37) dX5_flip_32 (by decide) ?_
  exact g_iret dX5_flip_37 rfl ⟨rfl, rfl⟩

set_option maxRecDepth 4000 in
theorem ev_X5_stick_u {σ : r_Sg} {p v : Int32} {b a : Int32} (hg : ¬ (((0 < σ 1 4 ∧ 0 ≤ p ∧ p < 4) ∧ 0 ≤ v ∧ v < 4) ∧ (0 ≤ b ∧ b < σ 1 3 + σ 1 4))) : Ev 5 MX5_stick [.ref 0, .int p, .int v, .int b, .int a] σ (some (.int (-1))) σ := by
  refine Ev_w [.ref 0, .int p, .int v, .int b, .int a] ?_ (by decide) rfl (Nat.le_of_ble_eq_true rfl) rfl
  refine g_aload_n dX5_stick_0 rfl ?_
  refine g_iload_n dX5_stick_1 rfl ?_
  refine g_iload_n dX5_stick_2 rfl ?_
  refine g_V2 dX5_stick_3 vX5_85 rfl (Nat.le_of_ble_eq_true rfl) (by decide) (ev_X5_hasWord) ?_
  refine g_ifeq (tgt := 20) dX5_stick_6 (by decide) (fun c6 => ?_) (fun c6 => ?_)
  · refine g_iconst (v := (-1)) dX5_stick_20 (by decide) ?_
    exact g_iret dX5_stick_21 rfl ⟨rfl, rfl⟩
  · refine g_aload_n dX5_stick_9 rfl ?_
    refine g_getR dX5_stick_10 fX5_12 rfl rfl ?_
    refine g_iload_n dX5_stick_13 rfl ?_
    refine g_V1 dX5_stick_14 vX5_52 rfl (Nat.le_of_ble_eq_true rfl) (by decide) (ev_X2_hasBit) ?_
    refine g_ifne (tgt := 22) dX5_stick_17 (by decide) (fun c17 => absurd (bI_0.mpr (fun z => hg ⟨bI_1.mp c6, z⟩)) c17) (fun c17 => ?_)
    refine g_iconst (v := (-1)) dX5_stick_20 (by decide) ?_
    exact g_iret dX5_stick_21 rfl ⟨rfl, rfl⟩

set_option maxRecDepth 4000 in
theorem ev_X5_stick_o {σ : r_Sg} {p v b : Nat} {a : Int32} (hst : 0 < σ 1 4) (hp : p < 4) (hv : v < 4) (hb : 0 ≤ nI b ∧ nI b < σ 1 3 + σ 1 4) (ha : ¬ (0 ≤ a ∧ a ≤ 2)) : Ev 5 MX5_stick [.ref 0, .int (nI p), .int (nI v), .int (nI b), .int a] σ (some (.int (-2))) σ := by
  refine Ev_w [.ref 0, .int (nI p), .int (nI v), .int (nI b), .int a] ?_ (by decide) rfl (Nat.le_of_ble_eq_true rfl) rfl
  refine g_aload_n dX5_stick_0 rfl ?_
  refine g_iload_n dX5_stick_1 rfl ?_
  refine g_iload_n dX5_stick_2 rfl ?_
  refine g_V2 dX5_stick_3 vX5_85 rfl (Nat.le_of_ble_eq_true rfl) (by decide) (ev_X5_hasWord) ?_
  refine g_ifeq (tgt := 20) dX5_stick_6 (by decide) (fun c6 => absurd c6 (bI_1.mpr ⟨⟨hst, r_in4 hp⟩, r_in4 hv⟩)) (fun c6 => ?_)
  refine g_aload_n dX5_stick_9 rfl ?_
  refine g_getR dX5_stick_10 fX5_12 rfl rfl ?_
  refine g_iload_n dX5_stick_13 rfl ?_
  refine g_V1 dX5_stick_14 vX5_52 rfl (Nat.le_of_ble_eq_true rfl) (by decide) (ev_X2_hasBit) ?_
  refine g_ifne (tgt := 22) dX5_stick_17 (by decide) (fun c17 => ?_) (fun c17 => absurd c17 (bI_1.mpr hb))
  refine g_iload dX5_stick_22 rfl ?_
  refine g_iflt (tgt := 33) dX5_stick_24 (by decide) (fun c24 => ?_) (fun c24 => ?_)
  · refine g_bipush (v := (-2)) dX5_stick_33 (by decide) ?_
    exact g_iret dX5_stick_35 rfl ⟨rfl, rfl⟩
  · refine g_iload dX5_stick_27 rfl ?_
    refine g_iconst (v := 2) dX5_stick_29 (by decide) ?_
    refine g_icle (tgt := 36) dX5_stick_30 (by decide) (fun c30 => absurd c30 (fun z => ha ⟨Int32.not_lt.mp c24, z⟩)) (fun c30 => ?_)
    refine g_bipush (v := (-2)) dX5_stick_33 (by decide) ?_
    exact g_iret dX5_stick_35 rfl ⟨rfl, rfl⟩

set_option maxRecDepth 4000 in
theorem ev_X5_stick_l {σ : r_Sg} {w : Nat} {sb : Option Nat} {fr : Nat → Nat} {nr : Nat} {p v b : Nat} (h : r_BH σ w sb fr nr) (hst : 0 < σ 1 4) (hp : p < 4) (hv : v < 4) (hb : 0 ≤ nI b ∧ nI b < σ 1 3 + σ 1 4) (hbw : b < w) : Ev 5 MX5_stick [.ref 0, .int (nI p), .int (nI v), .int (nI b), .int 2] σ (some (.int (r_b (σ 7 (4 * fr p + v)) (r_pl w sb b)))) (r_up σ 8 (4 * fr p + v) (r_lo (σ 8 (4 * fr p + v)) (r_pl w sb b))) := by
  refine Ev_w [.ref 0, .int (nI p), .int (nI v), .int (nI b), .int 2] ?_ (by decide) rfl (Nat.le_of_ble_eq_true rfl) rfl
  refine g_aload_n dX5_stick_0 rfl ?_
  refine g_iload_n dX5_stick_1 rfl ?_
  refine g_iload_n dX5_stick_2 rfl ?_
  refine g_V2 dX5_stick_3 vX5_85 rfl (Nat.le_of_ble_eq_true rfl) (by decide) (ev_X5_hasWord) ?_
  refine g_ifeq (tgt := 20) dX5_stick_6 (by decide) (fun c6 => absurd c6 (bI_1.mpr ⟨⟨hst, r_in4 hp⟩, r_in4 hv⟩)) (fun c6 => ?_)
  refine g_aload_n dX5_stick_9 rfl ?_
  refine g_getR dX5_stick_10 fX5_12 rfl rfl ?_
  refine g_iload_n dX5_stick_13 rfl ?_
  refine g_V1 dX5_stick_14 vX5_52 rfl (Nat.le_of_ble_eq_true rfl) (by decide) (ev_X2_hasBit) ?_
  refine g_ifne (tgt := 22) dX5_stick_17 (by decide) (fun c17 => ?_) (fun c17 => absurd c17 (bI_1.mpr hb))
  refine g_iload dX5_stick_22 rfl ?_
  refine g_iflt (tgt := 33) dX5_stick_24 (by decide) (fun c24 => absurd c24 (by decide)) (fun c24 => ?_)
  refine g_iload dX5_stick_27 rfl ?_
  refine g_iconst (v := 2) dX5_stick_29 (by decide) ?_
  refine g_icle (tgt := 36) dX5_stick_30 (by decide) (fun c30 => ?_) (fun c30 => absurd (by decide) c30)
  refine g_iload dX5_stick_36 rfl ?_
  refine g_iconst (v := 2) dX5_stick_38 (by decide) ?_
  refine g_icne (tgt := 55) dX5_stick_39 (by decide) (fun c39 => absurd rfl c39) (fun c39 => ?_)
  refine g_aload_n dX5_stick_42 rfl ?_
  refine g_getR dX5_stick_43 fX5_23 rfl rfl ?_
  refine g_iload_n dX5_stick_46 rfl ?_
  refine g_iload_n dX5_stick_47 rfl ?_
  refine g_iload_n dX5_stick_48 rfl ?_
  refine g_V3 dX5_stick_49 vX5_106 rfl (Nat.le_of_ble_eq_true rfl) (by decide) (ev_X0_loosen h hp hv hbw) ?_
  refine g_goto (tgt := 67) dX5_stick_52 (by decide) ?_
  exact g_iret dX5_stick_67 rfl ⟨rfl, rfl⟩

set_option maxRecDepth 4000 in
theorem ev_X5_stick_h {σ : r_Sg} {w : Nat} {sb : Option Nat} {fr : Nat → Nat} {nr : Nat} {p v b : Nat} {a : Int32} (h : r_BH σ w sb fr nr) (hst : 0 < σ 1 4) (hp : p < 4) (hv : v < 4) (hb : 0 ≤ nI b ∧ nI b < σ 1 3 + σ 1 4) (hbw : b < w) (ha : a = 0 ∨ a = 1) : Ev 5 MX5_stick [.ref 0, .int (nI p), .int (nI v), .int (nI b), .int a] σ (some (.int (r_b (σ 7 (4 * fr p + v)) (r_pl w sb b)))) (r_up (r_up σ 7 (4 * fr p + v) (r_sv (σ 7 (4 * fr p + v)) (r_pl w sb b) a)) 8 (4 * fr p + v) (r_hi (σ 8 (4 * fr p + v)) (r_pl w sb b))) := by
  refine Ev_w [.ref 0, .int (nI p), .int (nI v), .int (nI b), .int a] ?_ (by decide) rfl (Nat.le_of_ble_eq_true rfl) rfl
  refine g_aload_n dX5_stick_0 rfl ?_
  refine g_iload_n dX5_stick_1 rfl ?_
  refine g_iload_n dX5_stick_2 rfl ?_
  refine g_V2 dX5_stick_3 vX5_85 rfl (Nat.le_of_ble_eq_true rfl) (by decide) (ev_X5_hasWord) ?_
  refine g_ifeq (tgt := 20) dX5_stick_6 (by decide) (fun c6 => absurd c6 (bI_1.mpr ⟨⟨hst, r_in4 hp⟩, r_in4 hv⟩)) (fun c6 => ?_)
  refine g_aload_n dX5_stick_9 rfl ?_
  refine g_getR dX5_stick_10 fX5_12 rfl rfl ?_
  refine g_iload_n dX5_stick_13 rfl ?_
  refine g_V1 dX5_stick_14 vX5_52 rfl (Nat.le_of_ble_eq_true rfl) (by decide) (ev_X2_hasBit) ?_
  refine g_ifne (tgt := 22) dX5_stick_17 (by decide) (fun c17 => ?_) (fun c17 => absurd c17 (bI_1.mpr hb))
  refine g_iload dX5_stick_22 rfl ?_
  refine g_iflt (tgt := 33) dX5_stick_24 (by decide) (fun c24 => absurd c24 (by rcases ha with rfl | rfl <;> decide)) (fun c24 => ?_)
  refine g_iload dX5_stick_27 rfl ?_
  refine g_iconst (v := 2) dX5_stick_29 (by decide) ?_
  refine g_icle (tgt := 36) dX5_stick_30 (by decide) (fun c30 => ?_) (fun c30 => absurd (by rcases ha with rfl | rfl <;> decide) c30)
  refine g_iload dX5_stick_36 rfl ?_
  refine g_iconst (v := 2) dX5_stick_38 (by decide) ?_
  refine g_icne (tgt := 55) dX5_stick_39 (by decide) (fun c39 => ?_) (fun c39 => absurd c39 (by rcases ha with rfl | rfl <;> decide))
  refine g_aload_n dX5_stick_55 rfl ?_
  refine g_getR dX5_stick_56 fX5_23 rfl rfl ?_
  refine g_iload_n dX5_stick_59 rfl ?_
  refine g_iload_n dX5_stick_60 rfl ?_
  refine g_iload_n dX5_stick_61 rfl ?_
  refine g_iload dX5_stick_62 rfl ?_
  refine g_V4 dX5_stick_64 vX5_109 rfl (Nat.le_of_ble_eq_true rfl) (by decide) (ev_X0_hold h hp hv hbw) ?_
  exact g_iret dX5_stick_67 rfl ⟨rfl, rfl⟩

set_option maxRecDepth 4000 in
theorem ev_X5_scrub_o {σ : r_Sg} {n : Int32} (hg : ¬ (0 ≤ n ∧ n ≤ 64)) : Ev 6 MX5_scrub [.ref 0, .int n] σ (some (.int (-2))) σ := by
  refine Ev_w [.ref 0, .int n, .null, .null] ?_ (by decide) rfl (Nat.le_of_ble_eq_true rfl) rfl
  refine g_iload_n dX5_scrub_0 rfl ?_
  refine g_iflt (tgt := 10) dX5_scrub_1 (by decide) (fun c1 => ?_) (fun c1 => ?_)
  · refine g_bipush (v := (-2)) dX5_scrub_10 (by decide) ?_
    exact g_iret dX5_scrub_12 rfl ⟨rfl, rfl⟩
  · refine g_iload_n dX5_scrub_4 rfl ?_
    refine g_bipush (v := 64) dX5_scrub_5 (by decide) ?_
    refine g_icle (tgt := 13) dX5_scrub_7 (by decide) (fun c7 => absurd c7 (fun z => hg ⟨Int32.not_lt.mp c1, z⟩)) (fun c7 => ?_)
    refine g_bipush (v := (-2)) dX5_scrub_10 (by decide) ?_
    exact g_iret dX5_scrub_12 rfl ⟨rfl, rfl⟩

set_option maxRecDepth 4000 in
theorem ev_X5_scrub_s {σ : r_Sg} {n : Int32} (hg : 0 ≤ n ∧ n ≤ 64) (hst : ¬ 0 < σ 1 4) : Ev 6 MX5_scrub [.ref 0, .int n] σ (some (.int (-3))) σ := by
  refine Ev_w [.ref 0, .int n, .null, .null] ?_ (by decide) rfl (Nat.le_of_ble_eq_true rfl) rfl
  refine g_iload_n dX5_scrub_0 rfl ?_
  refine g_iflt (tgt := 10) dX5_scrub_1 (by decide) (fun c1 => absurd c1 (Int32.not_lt.mpr hg.1)) (fun c1 => ?_)
  refine g_iload_n dX5_scrub_4 rfl ?_
  refine g_bipush (v := 64) dX5_scrub_5 (by decide) ?_
  refine g_icle (tgt := 13) dX5_scrub_7 (by decide) (fun c7 => ?_) (fun c7 => absurd hg.2 c7)
  refine g_aload_n dX5_scrub_13 rfl ?_
  refine g_getR dX5_scrub_14 fX5_12 rfl rfl ?_
  refine g_V0 dX5_scrub_17 vX5_66 rfl (Nat.le_of_ble_eq_true rfl) (by decide) (ev_X2_stands) ?_
  refine g_ifne (tgt := 26) dX5_scrub_20 (by decide) (fun c20 => absurd (bI_0.mpr hst) c20) (fun c20 => ?_)
  refine g_bipush (v := (-3)) dX5_scrub_23 (by decide) ?_
  exact g_iret dX5_scrub_25 rfl ⟨rfl, rfl⟩

set_option maxRecDepth 4000 in
theorem ev_X5_scrub_k {sq : Nat → r_Sg} {xq : Nat → Int32} {n : Nat} (hn : n ≤ 64) (hst : 0 < (sq 0) 1 4) (hq : ∀ k, k < n → Ev 5 MX0_scrubNext [.ref 5] (sq k) (some (.int (xq k))) (sq (k + 1)) ∧ (xq k = 0 ∨ xq k = 1)) : Ev 6 MX5_scrub [.ref 0, .int (nI n)] (sq 0) (some (.int (r_sum xq n))) (sq n) := by
  refine Ev_w [.ref 0, .int (nI n), .null, .null] ?_ (by decide) rfl (Nat.le_of_ble_eq_true rfl) rfl
  refine g_iload_n dX5_scrub_0 rfl ?_
  refine g_iflt (tgt := 10) dX5_scrub_1 (by decide) (fun c1 => absurd c1 (nI_pos (by omega))) (fun c1 => ?_)
  refine g_iload_n dX5_scrub_4 rfl ?_
  refine g_bipush (v := 64) dX5_scrub_5 (by decide) ?_
  refine g_icle (tgt := 13) dX5_scrub_7 (by decide) (fun c7 => ?_) (fun c7 => absurd (nI_le (b := 64) hn (by omega)) c7)
  refine g_aload_n dX5_scrub_13 rfl ?_
  refine g_getR dX5_scrub_14 fX5_12 rfl rfl ?_
  refine g_V0 dX5_scrub_17 vX5_66 rfl (Nat.le_of_ble_eq_true rfl) (by decide) (ev_X2_stands) ?_
  refine g_ifne (tgt := 26) dX5_scrub_20 (by decide) (fun c20 => ?_) (fun c20 => absurd c20 (bI_1.mpr hst))
  refine g_iconst (v := 0) dX5_scrub_26 (by decide) ?_
  refine g_istore_n dX5_scrub_27 (by decide) rfl ?_
  refine g_iconst (v := 0) dX5_scrub_28 (by decide) ?_
  refine g_istore_n dX5_scrub_29 (by decide) rfl ?_
  refine r_loop (n := n) (fun k => [.ref 0, .int (nI n), .int (r_sum xq k), .int (nI k)]) (fun k => sq k) (fun k hk ih => ?_) ?_
  · refine g_iload_n dX5_scrub_30 rfl ?_
    refine g_iload_n dX5_scrub_31 rfl ?_
    refine g_icge (tgt := 54) dX5_scrub_32 (by decide) (fun c32 => absurd c32 (nI_ge hk (by omega))) (fun c32 => ?_)
    refine g_aload_n dX5_scrub_35 rfl ?_
    refine g_getR dX5_scrub_36 fX5_23 rfl rfl ?_
    refine g_V0 dX5_scrub_39 vX5_113 rfl (Nat.le_of_ble_eq_true rfl) (by decide) ((hq k hk).1) ?_
    refine g_ifeq (tgt := 48) dX5_scrub_42 (by decide) (fun c42 => ?_) (fun c42 => ?_)
    · have e : xq k = 0 := c42
      refine g_iinc (v := nI (k + 1)) dX5_scrub_48 rfl (nI_1 k) (by decide) rfl ?_
      refine g_goto (tgt := 30) dX5_scrub_51 (by decide) ?_
      exact g_l (by simp [r_ls, r_sum, e]) ih
    · have e : xq k = 1 := (hq k hk).2.resolve_left c42
      refine g_iinc (v := _ + 1) dX5_scrub_45 rfl rfl (by decide) rfl ?_
      refine g_iinc (v := nI (k + 1)) dX5_scrub_48 rfl (nI_1 k) (by decide) rfl ?_
      refine g_goto (tgt := 30) dX5_scrub_51 (by decide) ?_
      exact g_l (by simp [r_ls, r_sum, e]) ih
  · refine g_iload_n dX5_scrub_30 rfl ?_
    refine g_iload_n dX5_scrub_31 rfl ?_
    refine g_icge (tgt := 54) dX5_scrub_32 (by decide) (fun c32 => ?_) (fun c32 => absurd (nI_le (Nat.le_refl _) (by omega)) c32)
    refine g_iload_n dX5_scrub_54 rfl ?_
    exact g_iret dX5_scrub_55 rfl ⟨rfl, rfl⟩

set_option maxRecDepth 4000 in
theorem ev_X5_look_o {σ : r_Sg} {n : Int32} (hg : ¬ (0 ≤ n ∧ n ≤ 5)) : Ev 5 MX5_look [.ref 0, .int n] σ (some (.int (-2))) σ := by
  refine Ev_w [.ref 0, .int n] ?_ (by decide) rfl (Nat.le_of_ble_eq_true rfl) rfl
  refine g_iload_n dX5_look_0 rfl ?_
  refine g_iflt (tgt := 9) dX5_look_1 (by decide) (fun c1 => ?_) (fun c1 => ?_)
  · refine g_bipush (v := (-2)) dX5_look_9 (by decide) ?_
    exact g_iret dX5_look_11 rfl ⟨rfl, rfl⟩
  · refine g_iload_n dX5_look_4 rfl ?_
    refine g_iconst (v := 5) dX5_look_5 (by decide) ?_
    refine g_icle (tgt := 12) dX5_look_6 (by decide) (fun c6 => absurd c6 (fun z => hg ⟨Int32.not_lt.mp c1, z⟩)) (fun c6 => ?_)
    refine g_bipush (v := (-2)) dX5_look_9 (by decide) ?_
    exact g_iret dX5_look_11 rfl ⟨rfl, rfl⟩

set_option maxRecDepth 4000 in
theorem ev_X5_look_0 {σ : r_Sg}  : Ev 5 MX5_look [.ref 0, .int 0] σ (some (.int (σ 10 4))) σ := by
  refine Ev_w [.ref 0, .int 0] ?_ (by decide) rfl (Nat.le_of_ble_eq_true rfl) rfl
  refine g_iload_n dX5_look_0 rfl ?_
  refine g_iflt (tgt := 9) dX5_look_1 (by decide) (fun c1 => absurd c1 (by decide)) (fun c1 => ?_)
  refine g_iload_n dX5_look_4 rfl ?_
  refine g_iconst (v := 5) dX5_look_5 (by decide) ?_
  refine g_icle (tgt := 12) dX5_look_6 (by decide) (fun c6 => ?_) (fun c6 => absurd (by decide) c6)
  refine g_aload_n dX5_look_12 rfl ?_
  refine g_getR dX5_look_13 fX5_23 rfl rfl ?_
  refine g_V0 dX5_look_16 vX5_116 rfl (Nat.le_of_ble_eq_true rfl) (by decide) (ev_X0_log) ?_
  refine g_iload_n dX5_look_19 rfl ?_
  refine g_V1 dX5_look_20 vX5_120 rfl (Nat.le_of_ble_eq_true rfl) (by decide) (ev_X4_latest_0) ?_
  exact g_iret dX5_look_23 rfl ⟨rfl, rfl⟩

set_option maxRecDepth 4000 in
theorem ev_X5_look_1 {σ : r_Sg}  : Ev 5 MX5_look [.ref 0, .int 1] σ (some (.int (σ 10 5))) σ := by
  refine Ev_w [.ref 0, .int 1] ?_ (by decide) rfl (Nat.le_of_ble_eq_true rfl) rfl
  refine g_iload_n dX5_look_0 rfl ?_
  refine g_iflt (tgt := 9) dX5_look_1 (by decide) (fun c1 => absurd c1 (by decide)) (fun c1 => ?_)
  refine g_iload_n dX5_look_4 rfl ?_
  refine g_iconst (v := 5) dX5_look_5 (by decide) ?_
  refine g_icle (tgt := 12) dX5_look_6 (by decide) (fun c6 => ?_) (fun c6 => absurd (by decide) c6)
  refine g_aload_n dX5_look_12 rfl ?_
  refine g_getR dX5_look_13 fX5_23 rfl rfl ?_
  refine g_V0 dX5_look_16 vX5_116 rfl (Nat.le_of_ble_eq_true rfl) (by decide) (ev_X0_log) ?_
  refine g_iload_n dX5_look_19 rfl ?_
  refine g_V1 dX5_look_20 vX5_120 rfl (Nat.le_of_ble_eq_true rfl) (by decide) (ev_X4_latest_1) ?_
  exact g_iret dX5_look_23 rfl ⟨rfl, rfl⟩

set_option maxRecDepth 4000 in
theorem ev_X5_look_2 {σ : r_Sg}  : Ev 5 MX5_look [.ref 0, .int 2] σ (some (.int (σ 10 8))) σ := by
  refine Ev_w [.ref 0, .int 2] ?_ (by decide) rfl (Nat.le_of_ble_eq_true rfl) rfl
  refine g_iload_n dX5_look_0 rfl ?_
  refine g_iflt (tgt := 9) dX5_look_1 (by decide) (fun c1 => absurd c1 (by decide)) (fun c1 => ?_)
  refine g_iload_n dX5_look_4 rfl ?_
  refine g_iconst (v := 5) dX5_look_5 (by decide) ?_
  refine g_icle (tgt := 12) dX5_look_6 (by decide) (fun c6 => ?_) (fun c6 => absurd (by decide) c6)
  refine g_aload_n dX5_look_12 rfl ?_
  refine g_getR dX5_look_13 fX5_23 rfl rfl ?_
  refine g_V0 dX5_look_16 vX5_116 rfl (Nat.le_of_ble_eq_true rfl) (by decide) (ev_X0_log) ?_
  refine g_iload_n dX5_look_19 rfl ?_
  refine g_V1 dX5_look_20 vX5_120 rfl (Nat.le_of_ble_eq_true rfl) (by decide) (ev_X4_latest_2) ?_
  exact g_iret dX5_look_23 rfl ⟨rfl, rfl⟩

set_option maxRecDepth 4000 in
theorem ev_X5_look_3 {σ : r_Sg}  : Ev 5 MX5_look [.ref 0, .int 3] σ (some (.int (σ 10 9))) σ := by
  refine Ev_w [.ref 0, .int 3] ?_ (by decide) rfl (Nat.le_of_ble_eq_true rfl) rfl
  refine g_iload_n dX5_look_0 rfl ?_
  refine g_iflt (tgt := 9) dX5_look_1 (by decide) (fun c1 => absurd c1 (by decide)) (fun c1 => ?_)
  refine g_iload_n dX5_look_4 rfl ?_
  refine g_iconst (v := 5) dX5_look_5 (by decide) ?_
  refine g_icle (tgt := 12) dX5_look_6 (by decide) (fun c6 => ?_) (fun c6 => absurd (by decide) c6)
  refine g_aload_n dX5_look_12 rfl ?_
  refine g_getR dX5_look_13 fX5_23 rfl rfl ?_
  refine g_V0 dX5_look_16 vX5_116 rfl (Nat.le_of_ble_eq_true rfl) (by decide) (ev_X0_log) ?_
  refine g_iload_n dX5_look_19 rfl ?_
  refine g_V1 dX5_look_20 vX5_120 rfl (Nat.le_of_ble_eq_true rfl) (by decide) (ev_X4_latest_3) ?_
  exact g_iret dX5_look_23 rfl ⟨rfl, rfl⟩

set_option maxRecDepth 4000 in
theorem ev_X5_look_4 {σ : r_Sg}  : Ev 5 MX5_look [.ref 0, .int 4] σ (some (.int (σ 10 6))) σ := by
  refine Ev_w [.ref 0, .int 4] ?_ (by decide) rfl (Nat.le_of_ble_eq_true rfl) rfl
  refine g_iload_n dX5_look_0 rfl ?_
  refine g_iflt (tgt := 9) dX5_look_1 (by decide) (fun c1 => absurd c1 (by decide)) (fun c1 => ?_)
  refine g_iload_n dX5_look_4 rfl ?_
  refine g_iconst (v := 5) dX5_look_5 (by decide) ?_
  refine g_icle (tgt := 12) dX5_look_6 (by decide) (fun c6 => ?_) (fun c6 => absurd (by decide) c6)
  refine g_aload_n dX5_look_12 rfl ?_
  refine g_getR dX5_look_13 fX5_23 rfl rfl ?_
  refine g_V0 dX5_look_16 vX5_116 rfl (Nat.le_of_ble_eq_true rfl) (by decide) (ev_X0_log) ?_
  refine g_iload_n dX5_look_19 rfl ?_
  refine g_V1 dX5_look_20 vX5_120 rfl (Nat.le_of_ble_eq_true rfl) (by decide) (ev_X4_latest_4) ?_
  exact g_iret dX5_look_23 rfl ⟨rfl, rfl⟩

set_option maxRecDepth 4000 in
theorem ev_X5_look_5 {σ : r_Sg}  : Ev 5 MX5_look [.ref 0, .int 5] σ (some (.int (σ 10 7))) σ := by
  refine Ev_w [.ref 0, .int 5] ?_ (by decide) rfl (Nat.le_of_ble_eq_true rfl) rfl
  refine g_iload_n dX5_look_0 rfl ?_
  refine g_iflt (tgt := 9) dX5_look_1 (by decide) (fun c1 => absurd c1 (by decide)) (fun c1 => ?_)
  refine g_iload_n dX5_look_4 rfl ?_
  refine g_iconst (v := 5) dX5_look_5 (by decide) ?_
  refine g_icle (tgt := 12) dX5_look_6 (by decide) (fun c6 => ?_) (fun c6 => absurd (by decide) c6)
  refine g_aload_n dX5_look_12 rfl ?_
  refine g_getR dX5_look_13 fX5_23 rfl rfl ?_
  refine g_V0 dX5_look_16 vX5_116 rfl (Nat.le_of_ble_eq_true rfl) (by decide) (ev_X0_log) ?_
  refine g_iload_n dX5_look_19 rfl ?_
  refine g_V1 dX5_look_20 vX5_120 rfl (Nat.le_of_ble_eq_true rfl) (by decide) (ev_X4_latest_5) ?_
  exact g_iret dX5_look_23 rfl ⟨rfl, rfl⟩

set_option maxRecDepth 4000 in
theorem ev_X5_fate_u {σ : r_Sg} {p v : Int32} {a : Int32} (hg : ¬ ((0 < σ 1 4 ∧ 0 ≤ p ∧ p < 4) ∧ 0 ≤ v ∧ v < 4)) : Ev 5 MX5_fate [.ref 0, .int p, .int v, .int a] σ (some (.int (-1))) σ := by
  refine Ev_w [.ref 0, .int p, .int v, .int a, .null, .null] ?_ (by decide) rfl (Nat.le_of_ble_eq_true rfl) rfl
  refine g_aload_n dX5_fate_0 rfl ?_
  refine g_iload_n dX5_fate_1 rfl ?_
  refine g_iload_n dX5_fate_2 rfl ?_
  refine g_V2 dX5_fate_3 vX5_85 rfl (Nat.le_of_ble_eq_true rfl) (by decide) (ev_X5_hasWord) ?_
  refine g_ifne (tgt := 11) dX5_fate_6 (by decide) (fun c6 => absurd (bI_0.mpr hg) c6) (fun c6 => ?_)
  refine g_iconst (v := (-1)) dX5_fate_9 (by decide) ?_
  exact g_iret dX5_fate_10 rfl ⟨rfl, rfl⟩

set_option maxRecDepth 4000 in
theorem ev_X5_fate_o {σ : r_Sg} {p v : Nat} {a : Int32} (hst : 0 < σ 1 4) (hp : p < 4) (hv : v < 4) (ha : ¬ (0 ≤ a ∧ a ≤ (1 <<< ((σ 1 3 + σ 1 4) &&& 31)) - 1)) : Ev 5 MX5_fate [.ref 0, .int (nI p), .int (nI v), .int a] σ (some (.int (-2))) σ := by
  refine Ev_w [.ref 0, .int (nI p), .int (nI v), .int a, .null, .null] ?_ (by decide) rfl (Nat.le_of_ble_eq_true rfl) rfl
  refine g_aload_n dX5_fate_0 rfl ?_
  refine g_iload_n dX5_fate_1 rfl ?_
  refine g_iload_n dX5_fate_2 rfl ?_
  refine g_V2 dX5_fate_3 vX5_85 rfl (Nat.le_of_ble_eq_true rfl) (by decide) (ev_X5_hasWord) ?_
  refine g_ifne (tgt := 11) dX5_fate_6 (by decide) (fun c6 => ?_) (fun c6 => absurd c6 (bI_1.mpr ⟨⟨hst, r_in4 hp⟩, r_in4 hv⟩))
  refine g_aload_n dX5_fate_11 rfl ?_
  refine g_getR dX5_fate_12 fX5_12 rfl rfl ?_
  refine g_iload_n dX5_fate_15 rfl ?_
  refine g_V1 dX5_fate_16 vX5_76 rfl (Nat.le_of_ble_eq_true rfl) (by decide) (ev_X2_hasSet) ?_
  refine g_ifne (tgt := 25) dX5_fate_19 (by decide) (fun c19 => absurd (bI_0.mpr ha) c19) (fun c19 => ?_)
  refine g_bipush (v := (-2)) dX5_fate_22 (by decide) ?_
  exact g_iret dX5_fate_24 rfl ⟨rfl, rfl⟩

/-- what would come of a look at a set: m is what it is mended to, z its value, k what was kept -/
def r_fate (t m z k : Int32) : Int32 := if m = -5 then 2 else if ¬ z = k then 3 else if m = t then 0 else 1

set_option maxRecDepth 4000 in
theorem ev_X5_fate_k {σ : r_Sg} {w : Nat} {sb : Option Nat} {fr : Nat → Nat} {nr : Nat} {p v : Nat} {a : Int32} (h : r_BH σ w sb fr nr) (hst : 0 < σ 1 4) (hp : p < 4) (hv : v < 4) (ha : 0 ≤ a ∧ a ≤ (1 <<< ((σ 1 3 + σ 1 4) &&& 31)) - 1) (hs : ∀ v, ∃ y, y < 64 ∧ r_syn (σ 2) v w = nI y) : Ev 5 MX5_fate [.ref 0, .int (nI p), .int (nI v), .int a] σ (some (.int (r_fate ((r_bo w sb (σ 7 (4 * fr p + v))) ^^^ a) (r_men (fun z => σ 4 z.toNatClampNeg) ((r_bo w sb (σ 7 (4 * fr p + v))) ^^^ a) (r_syn (σ 2) ((r_bo w sb (σ 7 (4 * fr p + v))) ^^^ a) w)) ((r_men (fun z => σ 4 z.toNatClampNeg) ((r_bo w sb (σ 7 (4 * fr p + v))) ^^^ a) (r_syn (σ 2) ((r_bo w sb (σ 7 (4 * fr p + v))) ^^^ a) w)) &&& ((1 <<< (σ 1 3 &&& 31)) - 1)) (σ 15 (4 * p + v))))) σ := by
  refine Ev_w [.ref 0, .int (nI p), .int (nI v), .int a, .null, .null] ?_ (by decide) rfl (Nat.le_of_ble_eq_true rfl) rfl
  refine g_aload_n dX5_fate_0 rfl ?_
  refine g_iload_n dX5_fate_1 rfl ?_
  refine g_iload_n dX5_fate_2 rfl ?_
  refine g_V2 dX5_fate_3 vX5_85 rfl (Nat.le_of_ble_eq_true rfl) (by decide) (ev_X5_hasWord) ?_
  refine g_ifne (tgt := 11) dX5_fate_6 (by decide) (fun c6 => ?_) (fun c6 => absurd c6 (bI_1.mpr ⟨⟨hst, r_in4 hp⟩, r_in4 hv⟩))
  refine g_aload_n dX5_fate_11 rfl ?_
  refine g_getR dX5_fate_12 fX5_12 rfl rfl ?_
  refine g_iload_n dX5_fate_15 rfl ?_
  refine g_V1 dX5_fate_16 vX5_76 rfl (Nat.le_of_ble_eq_true rfl) (by decide) (ev_X2_hasSet) ?_
  refine g_ifne (tgt := 25) dX5_fate_19 (by decide) (fun c19 => ?_) (fun c19 => absurd c19 (bI_1.mpr ha))
  refine g_aload_n dX5_fate_25 rfl ?_
  refine g_getR dX5_fate_26 fX5_23 rfl rfl ?_
  refine g_iload_n dX5_fate_29 rfl ?_
  refine g_iload_n dX5_fate_30 rfl ?_
  refine g_V2 dX5_fate_31 vX5_99 rfl (Nat.le_of_ble_eq_true rfl) (by decide) (ev_X0_bitsOf h hp hv) ?_
  refine g_iload_n dX5_fate_34 rfl ?_
  refine g_ixor dX5_fate_35 ?_
  refine g_istore dX5_fate_36 (by decide) rfl ?_
  refine g_aload_n dX5_fate_38 rfl ?_
  refine g_getR dX5_fate_39 fX5_12 rfl rfl ?_
  refine g_iload dX5_fate_42 rfl ?_
  obtain ⟨y, hy64, hy⟩ := hs ((r_bo w sb (σ 7 (4 * fr p + v))) ^^^ a)
  refine g_V1 dX5_fate_44 vX5_82 rfl (Nat.le_of_ble_eq_true rfl) (by decide) (Ev_r (r' := some (.int (r_men (fun z => σ 4 z.toNatClampNeg) ((r_bo w sb (σ 7 (4 * fr p + v))) ^^^ a) (r_syn (σ 2) ((r_bo w sb (σ 7 (4 * fr p + v))) ^^^ a) w)))) (ev_X2_mend h.1 h.2.1 hy hy64) (by rw [hy, r_mend_men])) ?_
  refine g_istore dX5_fate_47 (by decide) rfl ?_
  refine g_iload dX5_fate_49 rfl ?_
  refine g_bipush (v := (-5)) dX5_fate_51 (by decide) ?_
  refine g_icne (tgt := 58) dX5_fate_53 (by decide) (fun c53 => ?_) (fun c53 => ?_)
  · refine g_aload_n dX5_fate_58 rfl ?_
    refine g_getR dX5_fate_59 fX5_12 rfl rfl ?_
    refine g_iload dX5_fate_62 rfl ?_
    refine g_V1 dX5_fate_64 vX5_96 rfl (Nat.le_of_ble_eq_true rfl) (by decide) (ev_X2_valueOf) ?_
    refine g_aload_n dX5_fate_67 rfl ?_
    refine g_getR dX5_fate_68 fX5_23 rfl rfl ?_
    refine g_iload_n dX5_fate_71 rfl ?_
    refine g_iload_n dX5_fate_72 rfl ?_
    refine g_V2 dX5_fate_73 vX5_125 rfl (Nat.le_of_ble_eq_true rfl) (by decide) (ev_X0_keptValue hp hv) ?_
    refine g_iceq (tgt := 81) dX5_fate_76 (by decide) (fun c76 => ?_) (fun c76 => ?_)
    · refine g_iload dX5_fate_81 rfl ?_
      refine g_iload dX5_fate_83 rfl ?_
      refine g_icne (tgt := 92) dX5_fate_85 (by decide) (fun c85 => ?_) (fun c85 => ?_)
      · refine g_iconst (v := 1) dX5_fate_92 (by decide) ?_
        exact g_iret dX5_fate_93 rfl ⟨by rw [r_fate, if_neg c53, if_neg (fun z => z c76)]; first | rw [if_pos c85] | rw [if_neg c85], rfl⟩
      · refine g_iconst (v := 0) dX5_fate_88 (by decide) ?_
        refine g_goto (tgt := 93) dX5_fate_89 (by decide) ?_
        exact g_iret dX5_fate_93 rfl ⟨by rw [r_fate, if_neg c53, if_neg (fun z => z c76)]; first | rw [if_pos c85] | rw [if_neg c85], rfl⟩
    · refine g_iconst (v := 3) dX5_fate_79 (by decide) ?_
      exact g_iret dX5_fate_80 rfl ⟨by rw [r_fate, if_neg c53, if_pos c76], rfl⟩
  · refine g_iconst (v := 2) dX5_fate_56 (by decide) ?_
    exact g_iret dX5_fate_57 rfl ⟨by rw [r_fate, if_pos c53], rfl⟩

set_option maxRecDepth 4000 in
theorem ev_X5_marks_u {σ : r_Sg} {f v q : Int32} (hg : ¬ ((0 ≤ f ∧ f < 6) ∧ (0 ≤ v ∧ v < 4) ∧ 0 < σ 1 4 ∧ 0 ≤ q ∧ q ≤ σ 1 3 + σ 1 4)) : Ev 5 MX5_marks [.ref 0, .int f, .int v, .int q] σ (some (.int (-1))) σ := by
  refine Ev_w [.ref 0, .int f, .int v, .int q, .null] ?_ (by decide) rfl (Nat.le_of_ble_eq_true rfl) rfl
  refine g_iload_n dX5_marks_0 rfl ?_
  refine g_iflt (tgt := 32) dX5_marks_1 (by decide) (fun c1 => ?_) (fun c1 => ?_)
  · refine g_iconst (v := 0) dX5_marks_32 (by decide) ?_
    refine g_istore dX5_marks_33 (by decide) rfl ?_
    refine g_iload dX5_marks_35 rfl ?_
    refine g_ifeq (tgt := 53) dX5_marks_37 (by decide) (fun c37 => ?_) (fun c37 => absurd (by decide) c37)
    refine g_iconst (v := (-1)) dX5_marks_53 (by decide) ?_
    exact g_iret dX5_marks_54 rfl ⟨rfl, rfl⟩
  · refine g_iload_n dX5_marks_4 rfl ?_
    refine g_bipush (v := 6) dX5_marks_5 (by decide) ?_
    refine g_icge (tgt := 32) dX5_marks_7 (by decide) (fun c7 => ?_) (fun c7 => ?_)
    · refine g_iconst (v := 0) dX5_marks_32 (by decide) ?_
      refine g_istore dX5_marks_33 (by decide) rfl ?_
      refine g_iload dX5_marks_35 rfl ?_
      refine g_ifeq (tgt := 53) dX5_marks_37 (by decide) (fun c37 => ?_) (fun c37 => absurd (by decide) c37)
      refine g_iconst (v := (-1)) dX5_marks_53 (by decide) ?_
      exact g_iret dX5_marks_54 rfl ⟨rfl, rfl⟩
    · refine g_iload_n dX5_marks_10 rfl ?_
      refine g_S1 dX5_marks_11 vX5_128 (Nat.le_of_ble_eq_true rfl) (by decide) (ev_X5_isWord) ?_
      refine g_ifeq (tgt := 32) dX5_marks_14 (by decide) (fun c14 => ?_) (fun c14 => ?_)
      · refine g_iconst (v := 0) dX5_marks_32 (by decide) ?_
        refine g_istore dX5_marks_33 (by decide) rfl ?_
        refine g_iload dX5_marks_35 rfl ?_
        refine g_ifeq (tgt := 53) dX5_marks_37 (by decide) (fun c37 => ?_) (fun c37 => absurd (by decide) c37)
        refine g_iconst (v := (-1)) dX5_marks_53 (by decide) ?_
        exact g_iret dX5_marks_54 rfl ⟨rfl, rfl⟩
      · refine g_aload_n dX5_marks_17 rfl ?_
        refine g_getR dX5_marks_18 fX5_12 rfl rfl ?_
        refine g_iload_n dX5_marks_21 rfl ?_
        refine g_V1 dX5_marks_22 vX5_131 rfl (Nat.le_of_ble_eq_true rfl) (by decide) (ev_X2_hasPlace) ?_
        refine g_ifeq (tgt := 32) dX5_marks_25 (by decide) (fun c25 => ?_) (fun c25 => absurd (bI_0.mpr (fun z => hg ⟨⟨Int32.not_lt.mp c1, Int32.not_le.mp c7⟩, bI_1.mp c14, z⟩)) c25)
        refine g_iconst (v := 0) dX5_marks_32 (by decide) ?_
        refine g_istore dX5_marks_33 (by decide) rfl ?_
        refine g_iload dX5_marks_35 rfl ?_
        refine g_ifeq (tgt := 53) dX5_marks_37 (by decide) (fun c37 => ?_) (fun c37 => absurd (by decide) c37)
        refine g_iconst (v := (-1)) dX5_marks_53 (by decide) ?_
        exact g_iret dX5_marks_54 rfl ⟨rfl, rfl⟩

set_option maxRecDepth 4000 in
theorem ev_X5_marks_k {σ : r_Sg} {f v q : Nat} (hf : f < 6) (hv : v < 4) (hq : q < 21) (hst : 0 < σ 1 4 ∧ 0 ≤ nI q ∧ nI q ≤ σ 1 3 + σ 1 4) : Ev 5 MX5_marks [.ref 0, .int (nI f), .int (nI v), .int (nI q)] σ (some (.int (σ 9 (21 * (4 * f + v) + q)))) σ := by
  refine Ev_w [.ref 0, .int (nI f), .int (nI v), .int (nI q), .null] ?_ (by decide) rfl (Nat.le_of_ble_eq_true rfl) rfl
  refine g_iload_n dX5_marks_0 rfl ?_
  refine g_iflt (tgt := 32) dX5_marks_1 (by decide) (fun c1 => absurd c1 (nI_pos (by omega))) (fun c1 => ?_)
  refine g_iload_n dX5_marks_4 rfl ?_
  refine g_bipush (v := 6) dX5_marks_5 (by decide) ?_
  refine g_icge (tgt := 32) dX5_marks_7 (by decide) (fun c7 => absurd c7 (nI_ge (b := 6) hf (by omega))) (fun c7 => ?_)
  refine g_iload_n dX5_marks_10 rfl ?_
  refine g_S1 dX5_marks_11 vX5_128 (Nat.le_of_ble_eq_true rfl) (by decide) (ev_X5_isWord) ?_
  refine g_ifeq (tgt := 32) dX5_marks_14 (by decide) (fun c14 => absurd c14 (bI_1.mpr (r_in4 hv))) (fun c14 => ?_)
  refine g_aload_n dX5_marks_17 rfl ?_
  refine g_getR dX5_marks_18 fX5_12 rfl rfl ?_
  refine g_iload_n dX5_marks_21 rfl ?_
  refine g_V1 dX5_marks_22 vX5_131 rfl (Nat.le_of_ble_eq_true rfl) (by decide) (ev_X2_hasPlace) ?_
  refine g_ifeq (tgt := 32) dX5_marks_25 (by decide) (fun c25 => absurd c25 (bI_1.mpr hst)) (fun c25 => ?_)
  refine g_iconst (v := 1) dX5_marks_28 (by decide) ?_
  refine g_goto (tgt := 33) dX5_marks_29 (by decide) ?_
  refine g_istore dX5_marks_33 (by decide) rfl ?_
  refine g_iload dX5_marks_35 rfl ?_
  refine g_ifeq (tgt := 53) dX5_marks_37 (by decide) (fun c37 => absurd c37 (by decide)) (fun c37 => ?_)
  refine g_aload_n dX5_marks_40 rfl ?_
  refine g_getR dX5_marks_41 fX5_23 rfl rfl ?_
  refine g_iload_n dX5_marks_44 rfl ?_
  refine g_iload_n dX5_marks_45 rfl ?_
  refine g_iload_n dX5_marks_46 rfl ?_
  refine g_V3 dX5_marks_47 vX5_134 rfl (Nat.le_of_ble_eq_true rfl) (by decide) (ev_X0_marksOf hf hv hq) ?_
  refine g_goto (tgt := 54) dX5_marks_50 (by decide) ?_
  exact g_iret dX5_marks_54 rfl ⟨rfl, rfl⟩

set_option maxRecDepth 4000 in
theorem ev_X5_frame_u {σ : r_Sg} {p : Int32} (hg : ¬ (0 < σ 1 4 ∧ 0 ≤ p ∧ p < 4)) : Ev 5 MX5_frame [.ref 0, .int p] σ (some (.int (-1))) σ := by
  refine Ev_w [.ref 0, .int p] ?_ (by decide) rfl (Nat.le_of_ble_eq_true rfl) rfl
  refine g_aload_n dX5_frame_0 rfl ?_
  refine g_iload_n dX5_frame_1 rfl ?_
  refine g_V1 dX5_frame_2 vX5_137 rfl (Nat.le_of_ble_eq_true rfl) (by decide) (ev_X5_hasPage) ?_
  refine g_ifeq (tgt := 19) dX5_frame_5 (by decide) (fun c5 => ?_) (fun c5 => absurd (bI_0.mpr hg) c5)
  refine g_iconst (v := (-1)) dX5_frame_19 (by decide) ?_
  exact g_iret dX5_frame_20 rfl ⟨rfl, rfl⟩

set_option maxRecDepth 4000 in
theorem ev_X5_frame_k {σ : r_Sg} {p : Nat} (hst : 0 < σ 1 4) (hp : p < 4) : Ev 5 MX5_frame [.ref 0, .int (nI p)] σ (some (.int (σ 14 p))) σ := by
  refine Ev_w [.ref 0, .int (nI p)] ?_ (by decide) rfl (Nat.le_of_ble_eq_true rfl) rfl
  refine g_aload_n dX5_frame_0 rfl ?_
  refine g_iload_n dX5_frame_1 rfl ?_
  refine g_V1 dX5_frame_2 vX5_137 rfl (Nat.le_of_ble_eq_true rfl) (by decide) (ev_X5_hasPage) ?_
  refine g_ifeq (tgt := 19) dX5_frame_5 (by decide) (fun c5 => absurd c5 (bI_1.mpr ⟨hst, r_in4 hp⟩)) (fun c5 => ?_)
  refine g_aload_n dX5_frame_8 rfl ?_
  refine g_getR dX5_frame_9 fX5_23 rfl rfl ?_
  refine g_iload_n dX5_frame_12 rfl ?_
  refine g_V1 dX5_frame_13 vX5_140 rfl (Nat.le_of_ble_eq_true rfl) (by decide) (ev_X0_frameOf hp) ?_
  refine g_goto (tgt := 20) dX5_frame_16 (by decide) ?_
  exact g_iret dX5_frame_20 rfl ⟨rfl, rfl⟩

set_option maxRecDepth 4000 in
theorem ev_X5_mends_u {σ : r_Sg} {p : Int32} (hg : ¬ (0 < σ 1 4 ∧ 0 ≤ p ∧ p < 4)) : Ev 5 MX5_mends [.ref 0, .int p] σ (some (.int (-1))) σ := by
  refine Ev_w [.ref 0, .int p] ?_ (by decide) rfl (Nat.le_of_ble_eq_true rfl) rfl
  refine g_aload_n dX5_mends_0 rfl ?_
  refine g_iload_n dX5_mends_1 rfl ?_
  refine g_V1 dX5_mends_2 vX5_137 rfl (Nat.le_of_ble_eq_true rfl) (by decide) (ev_X5_hasPage) ?_
  refine g_ifeq (tgt := 22) dX5_mends_5 (by decide) (fun c5 => ?_) (fun c5 => absurd (bI_0.mpr hg) c5)
  refine g_iconst (v := (-1)) dX5_mends_22 (by decide) ?_
  exact g_iret dX5_mends_23 rfl ⟨rfl, rfl⟩

set_option maxRecDepth 4000 in
theorem ev_X5_mends_k {σ : r_Sg} {p : Nat} (hst : 0 < σ 1 4) (hp : p < 4) : Ev 5 MX5_mends [.ref 0, .int (nI p)] σ (some (.int (σ 12 p))) σ := by
  refine Ev_w [.ref 0, .int (nI p)] ?_ (by decide) rfl (Nat.le_of_ble_eq_true rfl) rfl
  refine g_aload_n dX5_mends_0 rfl ?_
  refine g_iload_n dX5_mends_1 rfl ?_
  refine g_V1 dX5_mends_2 vX5_137 rfl (Nat.le_of_ble_eq_true rfl) (by decide) (ev_X5_hasPage) ?_
  refine g_ifeq (tgt := 22) dX5_mends_5 (by decide) (fun c5 => absurd c5 (bI_1.mpr ⟨hst, r_in4 hp⟩)) (fun c5 => ?_)
  refine g_aload_n dX5_mends_8 rfl ?_
  refine g_getR dX5_mends_9 fX5_23 rfl rfl ?_
  refine g_V0 dX5_mends_12 vX5_116 rfl (Nat.le_of_ble_eq_true rfl) (by decide) (ev_X0_log) ?_
  refine g_iload_n dX5_mends_15 rfl ?_
  refine g_V1 dX5_mends_16 vX5_152 rfl (Nat.le_of_ble_eq_true rfl) (by decide) (ev_X4_mendsOf hp) ?_
  refine g_goto (tgt := 23) dX5_mends_19 (by decide) ?_
  exact g_iret dX5_mends_23 rfl ⟨rfl, rfl⟩

set_option maxRecDepth 4000 in
theorem ev_X5_place_u {σ : r_Sg} {b : Int32} (hg : ¬ (0 ≤ b ∧ b < σ 1 3 + σ 1 4)) : Ev 5 MX5_place [.ref 0, .int b] σ (some (.int (-1))) σ := by
  refine Ev_w [.ref 0, .int b] ?_ (by decide) rfl (Nat.le_of_ble_eq_true rfl) rfl
  refine g_aload_n dX5_place_0 rfl ?_
  refine g_getR dX5_place_1 fX5_12 rfl rfl ?_
  refine g_iload_n dX5_place_4 rfl ?_
  refine g_V1 dX5_place_5 vX5_52 rfl (Nat.le_of_ble_eq_true rfl) (by decide) (ev_X2_hasBit) ?_
  refine g_ifeq (tgt := 22) dX5_place_8 (by decide) (fun c8 => ?_) (fun c8 => absurd (bI_0.mpr hg) c8)
  refine g_iconst (v := (-1)) dX5_place_22 (by decide) ?_
  exact g_iret dX5_place_23 rfl ⟨rfl, rfl⟩

set_option maxRecDepth 4000 in
theorem ev_X5_place_k {σ : r_Sg} {w : Nat} {sb : Option Nat} {fr : Nat → Nat} {nr : Nat} {b : Nat} (h : r_BH σ w sb fr nr) (hb : 0 ≤ nI b ∧ nI b < σ 1 3 + σ 1 4) (hbw : b < w) : Ev 5 MX5_place [.ref 0, .int (nI b)] σ (some (.int (nI (r_pl w sb b)))) σ := by
  refine Ev_w [.ref 0, .int (nI b)] ?_ (by decide) rfl (Nat.le_of_ble_eq_true rfl) rfl
  refine g_aload_n dX5_place_0 rfl ?_
  refine g_getR dX5_place_1 fX5_12 rfl rfl ?_
  refine g_iload_n dX5_place_4 rfl ?_
  refine g_V1 dX5_place_5 vX5_52 rfl (Nat.le_of_ble_eq_true rfl) (by decide) (ev_X2_hasBit) ?_
  refine g_ifeq (tgt := 22) dX5_place_8 (by decide) (fun c8 => absurd c8 (bI_1.mpr hb)) (fun c8 => ?_)
  refine g_aload_n dX5_place_11 rfl ?_
  refine g_getR dX5_place_12 fX5_23 rfl rfl ?_
  refine g_iload_n dX5_place_15 rfl ?_
  refine g_V1 dX5_place_16 vX5_143 rfl (Nat.le_of_ble_eq_true rfl) (by decide) (ev_X0_placeOf h hbw) ?_
  refine g_goto (tgt := 23) dX5_place_19 (by decide) ?_
  exact g_iret dX5_place_23 rfl ⟨rfl, rfl⟩

set_option maxRecDepth 4000 in
theorem ev_X5_retired {σ : r_Sg} {n : Nat} {b : Int32} (hn : σ 5 6 = nI n) (hn2 : n ≤ 2) : Ev 5 MX5_retired [.ref 0, .int b] σ (some (.int (if 0 ≤ b ∧ b < nI n then σ 16 b.toNatClampNeg else -1))) σ := by
  refine Ev_w [.ref 0, .int b] ?_ (by decide) rfl (Nat.le_of_ble_eq_true rfl) rfl
  refine g_aload_n dX5_retired_0 rfl ?_
  refine g_getR dX5_retired_1 fX5_23 rfl rfl ?_
  refine g_iload_n dX5_retired_4 rfl ?_
  refine g_V1 dX5_retired_5 vX5_146 rfl (Nat.le_of_ble_eq_true rfl) (by decide) (ev_X0_retiredFrame hn hn2) ?_
  exact g_iret dX5_retired_8 rfl ⟨rfl, rfl⟩

set_option maxRecDepth 4000 in
theorem ev_X5_troubled {σ : r_Sg} {n : Nat} {b : Int32} (hn : σ 10 3 = nI n) (hn4 : n ≤ 4) : Ev 5 MX5_troubled [.ref 0, .int b] σ (some (.int (if 0 ≤ b ∧ b < nI n then σ 13 b.toNatClampNeg else -1))) σ := by
  refine Ev_w [.ref 0, .int b] ?_ (by decide) rfl (Nat.le_of_ble_eq_true rfl) rfl
  refine g_aload_n dX5_troubled_0 rfl ?_
  refine g_getR dX5_troubled_1 fX5_23 rfl rfl ?_
  refine g_V0 dX5_troubled_4 vX5_116 rfl (Nat.le_of_ble_eq_true rfl) (by decide) (ev_X0_log) ?_
  refine g_iload_n dX5_troubled_7 rfl ?_
  refine g_V1 dX5_troubled_8 vX5_149 rfl (Nat.le_of_ble_eq_true rfl) (by decide) (ev_X4_troubledPage hn hn4) ?_
  exact g_iret dX5_troubled_11 rfl ⟨rfl, rfl⟩

set_option maxRecDepth 4000 in
theorem ev_X5_weight {σ : r_Sg} {c : Nat} (hc : σ 1 4 = nI c) (hc6 : c ≤ 6) : Ev 5 MX5_weight [.ref 0] σ (some (.int (if 0 < σ 1 4 then r_sum (σ 3) c else -3))) σ := by
  refine Ev_w [.ref 0] ?_ (by decide) rfl (Nat.le_of_ble_eq_true rfl) rfl
  refine g_aload_n dX5_weight_0 rfl ?_
  refine g_getR dX5_weight_1 fX5_12 rfl rfl ?_
  refine g_V0 dX5_weight_4 vX5_66 rfl (Nat.le_of_ble_eq_true rfl) (by decide) (ev_X2_stands) ?_
  refine g_ifeq (tgt := 20) dX5_weight_7 (by decide) (fun c7 => ?_) (fun c7 => ?_)
  · have q := bI_0.mp c7
    refine g_bipush (v := (-3)) dX5_weight_20 (by decide) ?_
    exact g_iret dX5_weight_22 rfl ⟨by first | rw [if_pos q] | rw [if_neg q], rfl⟩
  · have q := bI_1.mp c7
    refine g_aload_n dX5_weight_10 rfl ?_
    refine g_getR dX5_weight_11 fX5_12 rfl rfl ?_
    refine g_V0 dX5_weight_14 vX5_158 rfl (Nat.le_of_ble_eq_true rfl) (by decide) (ev_X2_onesOfAllRows hc hc6) ?_
    refine g_goto (tgt := 22) dX5_weight_17 (by decide) ?_
    exact g_iret dX5_weight_22 rfl ⟨by first | rw [if_pos q] | rw [if_neg q], rfl⟩

set_option maxRecDepth 4000 in
theorem ev_X5_many_o {σ : r_Sg} {n : Int32} (hg : ¬ (0 ≤ n ∧ n ≤ 9)) : Ev 5 MX5_many [.ref 0, .int n] σ (some (.int (-2))) σ := by
  refine Ev_w [.ref 0, .int n] ?_ (by decide) rfl (Nat.le_of_ble_eq_true rfl) rfl
  refine g_iload_n dX5_many_0 rfl ?_
  refine g_iflt (tgt := 10) dX5_many_1 (by decide) (fun c1 => ?_) (fun c1 => ?_)
  · refine g_bipush (v := (-2)) dX5_many_10 (by decide) ?_
    exact g_iret dX5_many_12 rfl ⟨rfl, rfl⟩
  · refine g_iload_n dX5_many_4 rfl ?_
    refine g_bipush (v := 9) dX5_many_5 (by decide) ?_
    refine g_icle (tgt := 13) dX5_many_7 (by decide) (fun c7 => absurd c7 (fun z => hg ⟨Int32.not_lt.mp c1, z⟩)) (fun c7 => ?_)
    refine g_bipush (v := (-2)) dX5_many_10 (by decide) ?_
    exact g_iret dX5_many_12 rfl ⟨rfl, rfl⟩

set_option maxRecDepth 4000 in
theorem ev_X5_many_n {σ : r_Sg} {n : Int32} (hg : 0 ≤ n ∧ n ≤ 9) (hst : ¬ 0 < σ 1 4) : Ev 5 MX5_many [.ref 0, .int n] σ (some (.int 0)) σ := by
  refine Ev_w [.ref 0, .int n] ?_ (by decide) rfl (Nat.le_of_ble_eq_true rfl) rfl
  refine g_iload_n dX5_many_0 rfl ?_
  refine g_iflt (tgt := 10) dX5_many_1 (by decide) (fun c1 => absurd c1 (Int32.not_lt.mpr hg.1)) (fun c1 => ?_)
  refine g_iload_n dX5_many_4 rfl ?_
  refine g_bipush (v := 9) dX5_many_5 (by decide) ?_
  refine g_icle (tgt := 13) dX5_many_7 (by decide) (fun c7 => ?_) (fun c7 => absurd hg.2 c7)
  refine g_aload_n dX5_many_13 rfl ?_
  refine g_getR dX5_many_14 fX5_12 rfl rfl ?_
  refine g_V0 dX5_many_17 vX5_66 rfl (Nat.le_of_ble_eq_true rfl) (by decide) (ev_X2_stands) ?_
  refine g_ifeq (tgt := 34) dX5_many_20 (by decide) (fun c20 => ?_) (fun c20 => absurd (bI_0.mpr hst) c20)
  refine g_iconst (v := 0) dX5_many_34 (by decide) ?_
  exact g_iret dX5_many_35 rfl ⟨rfl, rfl⟩

set_option maxRecDepth 4000 in
theorem ev_X5_many_0 {σ : r_Sg} {w : Nat} {sb : Option Nat} {fr : Nat → Nat} {nr : Nat} (h : r_BH σ w sb fr nr) (hst : 0 < σ 1 4) : Ev 5 MX5_many [.ref 0, .int 0] σ (some (.int (σ 11 0 + σ 11 1 + σ 11 2))) σ := by
  refine Ev_w [.ref 0, .int 0] ?_ (by decide) rfl (Nat.le_of_ble_eq_true rfl) rfl
  refine g_iload_n dX5_many_0 rfl ?_
  refine g_iflt (tgt := 10) dX5_many_1 (by decide) (fun c1 => absurd c1 (by decide)) (fun c1 => ?_)
  refine g_iload_n dX5_many_4 rfl ?_
  refine g_bipush (v := 9) dX5_many_5 (by decide) ?_
  refine g_icle (tgt := 13) dX5_many_7 (by decide) (fun c7 => ?_) (fun c7 => absurd (by decide) c7)
  refine g_aload_n dX5_many_13 rfl ?_
  refine g_getR dX5_many_14 fX5_12 rfl rfl ?_
  refine g_V0 dX5_many_17 vX5_66 rfl (Nat.le_of_ble_eq_true rfl) (by decide) (ev_X2_stands) ?_
  refine g_ifeq (tgt := 34) dX5_many_20 (by decide) (fun c20 => absurd c20 (bI_1.mpr hst)) (fun c20 => ?_)
  refine g_aload_n dX5_many_23 rfl ?_
  refine g_getR dX5_many_24 fX5_23 rfl rfl ?_
  refine g_iload_n dX5_many_27 rfl ?_
  refine g_V1 dX5_many_28 vX5_167 rfl (Nat.le_of_ble_eq_true rfl) (by decide) (ev_X0_tally_0 h) ?_
  refine g_goto (tgt := 35) dX5_many_31 (by decide) ?_
  exact g_iret dX5_many_35 rfl ⟨rfl, rfl⟩

set_option maxRecDepth 4000 in
theorem ev_X5_many_1 {σ : r_Sg} {w : Nat} {sb : Option Nat} {fr : Nat → Nat} {nr : Nat} (h : r_BH σ w sb fr nr) (hst : 0 < σ 1 4) : Ev 5 MX5_many [.ref 0, .int 1] σ (some (.int (σ 11 0))) σ := by
  refine Ev_w [.ref 0, .int 1] ?_ (by decide) rfl (Nat.le_of_ble_eq_true rfl) rfl
  refine g_iload_n dX5_many_0 rfl ?_
  refine g_iflt (tgt := 10) dX5_many_1 (by decide) (fun c1 => absurd c1 (by decide)) (fun c1 => ?_)
  refine g_iload_n dX5_many_4 rfl ?_
  refine g_bipush (v := 9) dX5_many_5 (by decide) ?_
  refine g_icle (tgt := 13) dX5_many_7 (by decide) (fun c7 => ?_) (fun c7 => absurd (by decide) c7)
  refine g_aload_n dX5_many_13 rfl ?_
  refine g_getR dX5_many_14 fX5_12 rfl rfl ?_
  refine g_V0 dX5_many_17 vX5_66 rfl (Nat.le_of_ble_eq_true rfl) (by decide) (ev_X2_stands) ?_
  refine g_ifeq (tgt := 34) dX5_many_20 (by decide) (fun c20 => absurd c20 (bI_1.mpr hst)) (fun c20 => ?_)
  refine g_aload_n dX5_many_23 rfl ?_
  refine g_getR dX5_many_24 fX5_23 rfl rfl ?_
  refine g_iload_n dX5_many_27 rfl ?_
  refine g_V1 dX5_many_28 vX5_167 rfl (Nat.le_of_ble_eq_true rfl) (by decide) (ev_X0_tally_1 h) ?_
  refine g_goto (tgt := 35) dX5_many_31 (by decide) ?_
  exact g_iret dX5_many_35 rfl ⟨rfl, rfl⟩

set_option maxRecDepth 4000 in
theorem ev_X5_many_2 {σ : r_Sg} {w : Nat} {sb : Option Nat} {fr : Nat → Nat} {nr : Nat} (h : r_BH σ w sb fr nr) (hst : 0 < σ 1 4) : Ev 5 MX5_many [.ref 0, .int 2] σ (some (.int (σ 11 1))) σ := by
  refine Ev_w [.ref 0, .int 2] ?_ (by decide) rfl (Nat.le_of_ble_eq_true rfl) rfl
  refine g_iload_n dX5_many_0 rfl ?_
  refine g_iflt (tgt := 10) dX5_many_1 (by decide) (fun c1 => absurd c1 (by decide)) (fun c1 => ?_)
  refine g_iload_n dX5_many_4 rfl ?_
  refine g_bipush (v := 9) dX5_many_5 (by decide) ?_
  refine g_icle (tgt := 13) dX5_many_7 (by decide) (fun c7 => ?_) (fun c7 => absurd (by decide) c7)
  refine g_aload_n dX5_many_13 rfl ?_
  refine g_getR dX5_many_14 fX5_12 rfl rfl ?_
  refine g_V0 dX5_many_17 vX5_66 rfl (Nat.le_of_ble_eq_true rfl) (by decide) (ev_X2_stands) ?_
  refine g_ifeq (tgt := 34) dX5_many_20 (by decide) (fun c20 => absurd c20 (bI_1.mpr hst)) (fun c20 => ?_)
  refine g_aload_n dX5_many_23 rfl ?_
  refine g_getR dX5_many_24 fX5_23 rfl rfl ?_
  refine g_iload_n dX5_many_27 rfl ?_
  refine g_V1 dX5_many_28 vX5_167 rfl (Nat.le_of_ble_eq_true rfl) (by decide) (ev_X0_tally_2 h) ?_
  refine g_goto (tgt := 35) dX5_many_31 (by decide) ?_
  exact g_iret dX5_many_35 rfl ⟨rfl, rfl⟩

set_option maxRecDepth 4000 in
theorem ev_X5_many_3 {σ : r_Sg} {w : Nat} {sb : Option Nat} {fr : Nat → Nat} {nr : Nat} (h : r_BH σ w sb fr nr) (hst : 0 < σ 1 4) : Ev 5 MX5_many [.ref 0, .int 3] σ (some (.int (σ 11 2))) σ := by
  refine Ev_w [.ref 0, .int 3] ?_ (by decide) rfl (Nat.le_of_ble_eq_true rfl) rfl
  refine g_iload_n dX5_many_0 rfl ?_
  refine g_iflt (tgt := 10) dX5_many_1 (by decide) (fun c1 => absurd c1 (by decide)) (fun c1 => ?_)
  refine g_iload_n dX5_many_4 rfl ?_
  refine g_bipush (v := 9) dX5_many_5 (by decide) ?_
  refine g_icle (tgt := 13) dX5_many_7 (by decide) (fun c7 => ?_) (fun c7 => absurd (by decide) c7)
  refine g_aload_n dX5_many_13 rfl ?_
  refine g_getR dX5_many_14 fX5_12 rfl rfl ?_
  refine g_V0 dX5_many_17 vX5_66 rfl (Nat.le_of_ble_eq_true rfl) (by decide) (ev_X2_stands) ?_
  refine g_ifeq (tgt := 34) dX5_many_20 (by decide) (fun c20 => absurd c20 (bI_1.mpr hst)) (fun c20 => ?_)
  refine g_aload_n dX5_many_23 rfl ?_
  refine g_getR dX5_many_24 fX5_23 rfl rfl ?_
  refine g_iload_n dX5_many_27 rfl ?_
  refine g_V1 dX5_many_28 vX5_167 rfl (Nat.le_of_ble_eq_true rfl) (by decide) (ev_X0_tally_3 h) ?_
  refine g_goto (tgt := 35) dX5_many_31 (by decide) ?_
  exact g_iret dX5_many_35 rfl ⟨rfl, rfl⟩

set_option maxRecDepth 4000 in
theorem ev_X5_many_4 {σ : r_Sg} {w : Nat} {sb : Option Nat} {fr : Nat → Nat} {nr : Nat} (h : r_BH σ w sb fr nr) (hst : 0 < σ 1 4) : Ev 5 MX5_many [.ref 0, .int 4] σ (some (.int (c_bu σ w sb fr 4))) σ := by
  refine Ev_w [.ref 0, .int 4] ?_ (by decide) rfl (Nat.le_of_ble_eq_true rfl) rfl
  refine g_iload_n dX5_many_0 rfl ?_
  refine g_iflt (tgt := 10) dX5_many_1 (by decide) (fun c1 => absurd c1 (by decide)) (fun c1 => ?_)
  refine g_iload_n dX5_many_4 rfl ?_
  refine g_bipush (v := 9) dX5_many_5 (by decide) ?_
  refine g_icle (tgt := 13) dX5_many_7 (by decide) (fun c7 => ?_) (fun c7 => absurd (by decide) c7)
  refine g_aload_n dX5_many_13 rfl ?_
  refine g_getR dX5_many_14 fX5_12 rfl rfl ?_
  refine g_V0 dX5_many_17 vX5_66 rfl (Nat.le_of_ble_eq_true rfl) (by decide) (ev_X2_stands) ?_
  refine g_ifeq (tgt := 34) dX5_many_20 (by decide) (fun c20 => absurd c20 (bI_1.mpr hst)) (fun c20 => ?_)
  refine g_aload_n dX5_many_23 rfl ?_
  refine g_getR dX5_many_24 fX5_23 rfl rfl ?_
  refine g_iload_n dX5_many_27 rfl ?_
  refine g_V1 dX5_many_28 vX5_167 rfl (Nat.le_of_ble_eq_true rfl) (by decide) (ev_X0_tally_4 h) ?_
  refine g_goto (tgt := 35) dX5_many_31 (by decide) ?_
  exact g_iret dX5_many_35 rfl ⟨rfl, rfl⟩

set_option maxRecDepth 4000 in
theorem ev_X5_many_5 {σ : r_Sg} {w : Nat} {sb : Option Nat} {fr : Nat → Nat} {nr : Nat} (h : r_BH σ w sb fr nr) (hst : 0 < σ 1 4) : Ev 5 MX5_many [.ref 0, .int 5] σ (some (.int (c_su σ w sb fr 4))) σ := by
  refine Ev_w [.ref 0, .int 5] ?_ (by decide) rfl (Nat.le_of_ble_eq_true rfl) rfl
  refine g_iload_n dX5_many_0 rfl ?_
  refine g_iflt (tgt := 10) dX5_many_1 (by decide) (fun c1 => absurd c1 (by decide)) (fun c1 => ?_)
  refine g_iload_n dX5_many_4 rfl ?_
  refine g_bipush (v := 9) dX5_many_5 (by decide) ?_
  refine g_icle (tgt := 13) dX5_many_7 (by decide) (fun c7 => ?_) (fun c7 => absurd (by decide) c7)
  refine g_aload_n dX5_many_13 rfl ?_
  refine g_getR dX5_many_14 fX5_12 rfl rfl ?_
  refine g_V0 dX5_many_17 vX5_66 rfl (Nat.le_of_ble_eq_true rfl) (by decide) (ev_X2_stands) ?_
  refine g_ifeq (tgt := 34) dX5_many_20 (by decide) (fun c20 => absurd c20 (bI_1.mpr hst)) (fun c20 => ?_)
  refine g_aload_n dX5_many_23 rfl ?_
  refine g_getR dX5_many_24 fX5_23 rfl rfl ?_
  refine g_iload_n dX5_many_27 rfl ?_
  refine g_V1 dX5_many_28 vX5_167 rfl (Nat.le_of_ble_eq_true rfl) (by decide) (ev_X0_tally_5 h) ?_
  refine g_goto (tgt := 35) dX5_many_31 (by decide) ?_
  exact g_iret dX5_many_35 rfl ⟨rfl, rfl⟩

set_option maxRecDepth 4000 in
theorem ev_X5_many_6 {σ : r_Sg} {w : Nat} {sb : Option Nat} {fr : Nat → Nat} {nr : Nat} (h : r_BH σ w sb fr nr) (hst : 0 < σ 1 4) : Ev 5 MX5_many [.ref 0, .int 6] σ (some (.int (bI (¬ sb = none)))) σ := by
  refine Ev_w [.ref 0, .int 6] ?_ (by decide) rfl (Nat.le_of_ble_eq_true rfl) rfl
  refine g_iload_n dX5_many_0 rfl ?_
  refine g_iflt (tgt := 10) dX5_many_1 (by decide) (fun c1 => absurd c1 (by decide)) (fun c1 => ?_)
  refine g_iload_n dX5_many_4 rfl ?_
  refine g_bipush (v := 9) dX5_many_5 (by decide) ?_
  refine g_icle (tgt := 13) dX5_many_7 (by decide) (fun c7 => ?_) (fun c7 => absurd (by decide) c7)
  refine g_aload_n dX5_many_13 rfl ?_
  refine g_getR dX5_many_14 fX5_12 rfl rfl ?_
  refine g_V0 dX5_many_17 vX5_66 rfl (Nat.le_of_ble_eq_true rfl) (by decide) (ev_X2_stands) ?_
  refine g_ifeq (tgt := 34) dX5_many_20 (by decide) (fun c20 => absurd c20 (bI_1.mpr hst)) (fun c20 => ?_)
  refine g_aload_n dX5_many_23 rfl ?_
  refine g_getR dX5_many_24 fX5_23 rfl rfl ?_
  refine g_iload_n dX5_many_27 rfl ?_
  refine g_V1 dX5_many_28 vX5_167 rfl (Nat.le_of_ble_eq_true rfl) (by decide) (ev_X0_tally_6 h) ?_
  refine g_goto (tgt := 35) dX5_many_31 (by decide) ?_
  exact g_iret dX5_many_35 rfl ⟨rfl, rfl⟩

set_option maxRecDepth 4000 in
theorem ev_X5_many_7 {σ : r_Sg} {w : Nat} {sb : Option Nat} {fr : Nat → Nat} {nr : Nat} (h : r_BH σ w sb fr nr) (hst : 0 < σ 1 4) : Ev 5 MX5_many [.ref 0, .int 7] σ (some (.int (2 - nI nr))) σ := by
  refine Ev_w [.ref 0, .int 7] ?_ (by decide) rfl (Nat.le_of_ble_eq_true rfl) rfl
  refine g_iload_n dX5_many_0 rfl ?_
  refine g_iflt (tgt := 10) dX5_many_1 (by decide) (fun c1 => absurd c1 (by decide)) (fun c1 => ?_)
  refine g_iload_n dX5_many_4 rfl ?_
  refine g_bipush (v := 9) dX5_many_5 (by decide) ?_
  refine g_icle (tgt := 13) dX5_many_7 (by decide) (fun c7 => ?_) (fun c7 => absurd (by decide) c7)
  refine g_aload_n dX5_many_13 rfl ?_
  refine g_getR dX5_many_14 fX5_12 rfl rfl ?_
  refine g_V0 dX5_many_17 vX5_66 rfl (Nat.le_of_ble_eq_true rfl) (by decide) (ev_X2_stands) ?_
  refine g_ifeq (tgt := 34) dX5_many_20 (by decide) (fun c20 => absurd c20 (bI_1.mpr hst)) (fun c20 => ?_)
  refine g_aload_n dX5_many_23 rfl ?_
  refine g_getR dX5_many_24 fX5_23 rfl rfl ?_
  refine g_iload_n dX5_many_27 rfl ?_
  refine g_V1 dX5_many_28 vX5_167 rfl (Nat.le_of_ble_eq_true rfl) (by decide) (ev_X0_tally_7 h) ?_
  refine g_goto (tgt := 35) dX5_many_31 (by decide) ?_
  exact g_iret dX5_many_35 rfl ⟨rfl, rfl⟩

set_option maxRecDepth 4000 in
theorem ev_X5_many_8 {σ : r_Sg} {w : Nat} {sb : Option Nat} {fr : Nat → Nat} {nr : Nat} (h : r_BH σ w sb fr nr) (hst : 0 < σ 1 4) : Ev 5 MX5_many [.ref 0, .int 8] σ (some (.int (σ 5 9))) σ := by
  refine Ev_w [.ref 0, .int 8] ?_ (by decide) rfl (Nat.le_of_ble_eq_true rfl) rfl
  refine g_iload_n dX5_many_0 rfl ?_
  refine g_iflt (tgt := 10) dX5_many_1 (by decide) (fun c1 => absurd c1 (by decide)) (fun c1 => ?_)
  refine g_iload_n dX5_many_4 rfl ?_
  refine g_bipush (v := 9) dX5_many_5 (by decide) ?_
  refine g_icle (tgt := 13) dX5_many_7 (by decide) (fun c7 => ?_) (fun c7 => absurd (by decide) c7)
  refine g_aload_n dX5_many_13 rfl ?_
  refine g_getR dX5_many_14 fX5_12 rfl rfl ?_
  refine g_V0 dX5_many_17 vX5_66 rfl (Nat.le_of_ble_eq_true rfl) (by decide) (ev_X2_stands) ?_
  refine g_ifeq (tgt := 34) dX5_many_20 (by decide) (fun c20 => absurd c20 (bI_1.mpr hst)) (fun c20 => ?_)
  refine g_aload_n dX5_many_23 rfl ?_
  refine g_getR dX5_many_24 fX5_23 rfl rfl ?_
  refine g_iload_n dX5_many_27 rfl ?_
  refine g_V1 dX5_many_28 vX5_167 rfl (Nat.le_of_ble_eq_true rfl) (by decide) (ev_X0_tally_8 h) ?_
  refine g_goto (tgt := 35) dX5_many_31 (by decide) ?_
  exact g_iret dX5_many_35 rfl ⟨rfl, rfl⟩

set_option maxRecDepth 4000 in
theorem ev_X5_many_9 {σ : r_Sg} {w : Nat} {sb : Option Nat} {fr : Nat → Nat} {nr : Nat} (h : r_BH σ w sb fr nr) (hst : 0 < σ 1 4) : Ev 5 MX5_many [.ref 0, .int 9] σ (some (.int (σ 5 10))) σ := by
  refine Ev_w [.ref 0, .int 9] ?_ (by decide) rfl (Nat.le_of_ble_eq_true rfl) rfl
  refine g_iload_n dX5_many_0 rfl ?_
  refine g_iflt (tgt := 10) dX5_many_1 (by decide) (fun c1 => absurd c1 (by decide)) (fun c1 => ?_)
  refine g_iload_n dX5_many_4 rfl ?_
  refine g_bipush (v := 9) dX5_many_5 (by decide) ?_
  refine g_icle (tgt := 13) dX5_many_7 (by decide) (fun c7 => ?_) (fun c7 => absurd (by decide) c7)
  refine g_aload_n dX5_many_13 rfl ?_
  refine g_getR dX5_many_14 fX5_12 rfl rfl ?_
  refine g_V0 dX5_many_17 vX5_66 rfl (Nat.le_of_ble_eq_true rfl) (by decide) (ev_X2_stands) ?_
  refine g_ifeq (tgt := 34) dX5_many_20 (by decide) (fun c20 => absurd c20 (bI_1.mpr hst)) (fun c20 => ?_)
  refine g_aload_n dX5_many_23 rfl ?_
  refine g_getR dX5_many_24 fX5_23 rfl rfl ?_
  refine g_iload_n dX5_many_27 rfl ?_
  refine g_V1 dX5_many_28 vX5_167 rfl (Nat.le_of_ble_eq_true rfl) (by decide) (ev_X0_tally_9 h) ?_
  refine g_goto (tgt := 35) dX5_many_31 (by decide) ?_
  exact g_iret dX5_many_35 rfl ⟨rfl, rfl⟩
