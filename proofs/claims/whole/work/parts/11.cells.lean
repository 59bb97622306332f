/-! Cells (cell 6: 7 values, 8 stuck, 9 marks) and Log (cell 10), as they are written -/
theorem r_ix (r p : Nat) : nI r * nI 21 + nI p = nI (21 * r + p) := by rw [pk_mul, nI_add, Nat.mul_comm]
theorem r_rx (f w : Nat) : nI f * nI 4 + nI w = nI (4 * f + w) := by rw [pk_mul, nI_add, Nat.mul_comm]
def r_bm (p : Nat) : Int32 := 1 <<< (nI p &&& 31)
def r_pt (x k ones pl : Int32) : Int32 := (x &&& ((pl &&& (k ^^^ -1)) ^^^ -1)) ||| (ones &&& (pl &&& (k ^^^ -1)))
def r_sv (x : Int32) (p : Nat) (v : Int32) : Int32 := (x &&& (r_bm p ^^^ -1)) ||| (v <<< (nI p &&& 31))
def r_lo (x : Int32) (p : Nat) : Int32 := x &&& (r_bm p ^^^ -1)
def r_hi (x : Int32) (p : Nat) : Int32 := x ||| r_bm p
def c_ren (σ : r_Sg) (r p : Nat) (v : Int32) : r_Sg := r_up (r_up (r_up σ 7 r (r_sv (σ 7 r) p v)) 8 r (r_lo (σ 8 r) p)) 9 (21 * r + p) 0
def c_cp (σ : r_Sg) (a b : Nat) : Nat → r_Sg
  | 0 => σ
  | r + 1 => c_ren (c_cp σ a b r) r b (r_b (c_cp σ a b r 7 r) a)
def c_cfi (σ : r_Sg) (sr tr : Nat) : Nat → r_Sg
  | 0 => σ
  | q + 1 => c_ren (c_cfi σ sr tr q) tr q (r_b (c_cfi σ sr tr q 7 sr) q)
def c_cfo (σ : r_Sg) (f g : Nat) : Nat → r_Sg
  | 0 => σ
  | w + 1 => c_cfi (c_cfo σ f g w) (4 * f + w) (4 * g + w) 21
/-- counted up from a -/
def r_cna (P : Nat → Bool) (a : Int32) : Nat → Int32
  | 0 => a
  | n + 1 => if P n then r_cna P a n + 1 else r_cna P a n
def c_bf (σ : r_Sg) (f : Nat) (pl : Int32) : Nat → Int32
  | 0 => 0
  | w + 1 => r_cna (fun q => decide (¬ r_b pl q = 0 ∧ 2 ≤ σ 9 (21 * (4 * f + w) + q))) (c_bf σ f pl w) 21
def c_sf (σ : r_Sg) (f : Nat) (pl : Int32) : Nat → Int32
  | 0 => 0
  | w + 1 => c_sf σ f pl w + r_bc (σ 8 (4 * f + w) &&& pl)
/-- a look is noted -/
def c_nl (σ : r_Sg) (kind : Nat) (bit p w : Int32) : r_Sg := r_up (r_up (r_up (r_up (r_up (r_up (r_up σ 11 kind (σ 11 kind + 1)) 10 4 (nI kind)) 10 5 bit) 10 6 p) 10 7 w) 10 8 0) 10 9 0
/-- a mending is noted -/
def c_nm (σ : r_Sg) (p tc : Nat) (a b : Int32) : r_Sg :=
  let s1 := if σ 12 p = 0 ∧ tc < 4 then r_up (r_up σ 13 tc (nI p)) 10 3 (nI tc + 1) else σ
  r_up (r_up (r_up s1 12 p (s1 12 p + 1)) 10 8 a) 10 9 b

set_option maxRecDepth 4000 in
theorem ev_X1_valuesIn {σ : r_Sg} {r : Nat} (hr : r < 24) : Ev 0 MX1_valuesIn [.ref 6, .int (nI r)] σ (some (.int (σ 7 r))) σ := by
  refine Ev_w [.ref 6, .int (nI r)] ?_ (by decide) rfl (Nat.le_of_ble_eq_true rfl) rfl
  refine g_aload_n dX1_valuesIn_0 rfl ?_
  refine g_getR dX1_valuesIn_1 fX1_13 rfl rfl ?_
  refine g_iload_n dX1_valuesIn_4 rfl ?_
  refine g_ial _ dX1_valuesIn_5 rfl rfl (by omega) ?_
  exact g_iret dX1_valuesIn_6 rfl ⟨rfl, rfl⟩

set_option maxRecDepth 4000 in
theorem ev_X1_put {σ : r_Sg} {r : Nat} {a b : Int32} (hr : r < 24) : Ev 0 MX1_put [.ref 6, .int (nI r), .int a, .int b] σ none (r_up σ 7 r (r_pt (σ 7 r) (σ 8 r) a b)) := by
  refine Ev_w [.ref 6, .int (nI r), .int a, .int b, .null] ?_ (by decide) rfl (Nat.le_of_ble_eq_true rfl) rfl
  refine g_iload_n dX1_put_0 rfl ?_
  refine g_aload_n dX1_put_1 rfl ?_
  refine g_getR dX1_put_2 fX1_17 rfl rfl ?_
  refine g_iload_n dX1_put_5 rfl ?_
  refine g_ial _ dX1_put_6 rfl rfl (by omega) ?_
  refine g_iconst (v := (-1)) dX1_put_7 (by decide) ?_
  refine g_ixor dX1_put_8 ?_
  refine g_iand dX1_put_9 ?_
  refine g_istore dX1_put_10 (by decide) rfl ?_
  refine g_aload_n dX1_put_12 rfl ?_
  refine g_getR dX1_put_13 fX1_13 rfl rfl ?_
  refine g_iload_n dX1_put_16 rfl ?_
  refine g_aload_n dX1_put_17 rfl ?_
  refine g_getR dX1_put_18 fX1_13 rfl rfl ?_
  refine g_iload_n dX1_put_21 rfl ?_
  refine g_ial _ dX1_put_22 rfl rfl (by omega) ?_
  refine g_iload dX1_put_23 rfl ?_
  refine g_iconst (v := (-1)) dX1_put_25 (by decide) ?_
  refine g_ixor dX1_put_26 ?_
  refine g_iand dX1_put_27 ?_
  refine g_iload_n dX1_put_28 rfl ?_
  refine g_iload dX1_put_29 rfl ?_
  refine g_iand dX1_put_31 ?_
  refine g_ior dX1_put_32 ?_
  refine g_ias _ dX1_put_33 rfl rfl (by omega) ?_
  exact g_ret dX1_put_34 rfl ⟨rfl, rfl⟩

set_option maxRecDepth 4000 in
theorem ev_X1_turn {σ : r_Sg} {r : Nat} {b : Int32} (hr : r < 24) : Ev 1 MX1_turn [.ref 6, .int (nI r), .int b] σ (some (.int (r_bc (b &&& (σ 8 r ^^^ -1))))) (r_up σ 7 r (σ 7 r ^^^ (b &&& (σ 8 r ^^^ -1)))) := by
  refine Ev_w [.ref 6, .int (nI r), .int b, .null] ?_ (by decide) rfl (Nat.le_of_ble_eq_true rfl) rfl
  refine g_iload_n dX1_turn_0 rfl ?_
  refine g_aload_n dX1_turn_1 rfl ?_
  refine g_getR dX1_turn_2 fX1_17 rfl rfl ?_
  refine g_iload_n dX1_turn_5 rfl ?_
  refine g_ial _ dX1_turn_6 rfl rfl (by omega) ?_
  refine g_iconst (v := (-1)) dX1_turn_7 (by decide) ?_
  refine g_ixor dX1_turn_8 ?_
  refine g_iand dX1_turn_9 ?_
  refine g_istore_n dX1_turn_10 (by decide) rfl ?_
  refine g_aload_n dX1_turn_11 rfl ?_
  refine g_getR dX1_turn_12 fX1_13 rfl rfl ?_
  refine g_iload_n dX1_turn_15 rfl ?_
  refine g_dup2 dX1_turn_16 rfl rfl ?_
  refine g_ial _ dX1_turn_17 rfl rfl (by omega) ?_
  refine g_iload_n dX1_turn_18 rfl ?_
  refine g_ixor dX1_turn_19 ?_
  refine g_ias _ dX1_turn_20 rfl rfl (by omega) ?_
  refine g_iload_n dX1_turn_21 rfl ?_
  refine g_S1 dX1_turn_22 vX1_29 (Nat.le_of_ble_eq_true rfl) (by decide) (ev_J6_bitCount_0f7a4) ?_
  exact g_iret dX1_turn_25 rfl ⟨rfl, rfl⟩

set_option maxRecDepth 4000 in
theorem ev_X1_valueAt {σ : r_Sg} {r p : Nat} (hr : r < 24) : Ev 0 MX1_valueAt [.ref 6, .int (nI r), .int (nI p)] σ (some (.int (r_b (σ 7 r) p))) σ := by
  refine Ev_w [.ref 6, .int (nI r), .int (nI p)] ?_ (by decide) rfl (Nat.le_of_ble_eq_true rfl) rfl
  refine g_aload_n dX1_valueAt_0 rfl ?_
  refine g_getR dX1_valueAt_1 fX1_13 rfl rfl ?_
  refine g_iload_n dX1_valueAt_4 rfl ?_
  refine g_ial _ dX1_valueAt_5 rfl rfl (by omega) ?_
  refine g_iload_n dX1_valueAt_6 rfl ?_
  refine g_ishr dX1_valueAt_7 ?_
  refine g_iconst (v := 1) dX1_valueAt_8 (by decide) ?_
  refine g_iand dX1_valueAt_9 ?_
  exact g_iret dX1_valueAt_10 rfl ⟨rfl, rfl⟩

set_option maxRecDepth 4000 in
theorem ev_X1_setValue {σ : r_Sg} {r p : Nat} {v : Int32} (hr : r < 24) : Ev 0 MX1_setValue [.ref 6, .int (nI r), .int (nI p), .int v] σ none (r_up σ 7 r (r_sv (σ 7 r) p v)) := by
  refine Ev_w [.ref 6, .int (nI r), .int (nI p), .int v] ?_ (by decide) rfl (Nat.le_of_ble_eq_true rfl) rfl
  refine g_aload_n dX1_setValue_0 rfl ?_
  refine g_getR dX1_setValue_1 fX1_13 rfl rfl ?_
  refine g_iload_n dX1_setValue_4 rfl ?_
  refine g_aload_n dX1_setValue_5 rfl ?_
  refine g_getR dX1_setValue_6 fX1_13 rfl rfl ?_
  refine g_iload_n dX1_setValue_9 rfl ?_
  refine g_ial _ dX1_setValue_10 rfl rfl (by omega) ?_
  refine g_iconst (v := 1) dX1_setValue_11 (by decide) ?_
  refine g_iload_n dX1_setValue_12 rfl ?_
  refine g_ishl dX1_setValue_13 ?_
  refine g_iconst (v := (-1)) dX1_setValue_14 (by decide) ?_
  refine g_ixor dX1_setValue_15 ?_
  refine g_iand dX1_setValue_16 ?_
  refine g_iload_n dX1_setValue_17 rfl ?_
  refine g_iload_n dX1_setValue_18 rfl ?_
  refine g_ishl dX1_setValue_19 ?_
  refine g_ior dX1_setValue_20 ?_
  refine g_ias _ dX1_setValue_21 rfl rfl (by omega) ?_
  exact g_ret dX1_setValue_22 rfl ⟨rfl, rfl⟩

set_option maxRecDepth 4000 in
theorem ev_X1_loosen {σ : r_Sg} {r p : Nat} (hr : r < 24) : Ev 0 MX1_loosen [.ref 6, .int (nI r), .int (nI p)] σ none (r_up σ 8 r (r_lo (σ 8 r) p)) := by
  refine Ev_w [.ref 6, .int (nI r), .int (nI p)] ?_ (by decide) rfl (Nat.le_of_ble_eq_true rfl) rfl
  refine g_aload_n dX1_loosen_0 rfl ?_
  refine g_getR dX1_loosen_1 fX1_17 rfl rfl ?_
  refine g_iload_n dX1_loosen_4 rfl ?_
  refine g_dup2 dX1_loosen_5 rfl rfl ?_
  refine g_ial _ dX1_loosen_6 rfl rfl (by omega) ?_
  refine g_iconst (v := 1) dX1_loosen_7 (by decide) ?_
  refine g_iload_n dX1_loosen_8 rfl ?_
  refine g_ishl dX1_loosen_9 ?_
  refine g_iconst (v := (-1)) dX1_loosen_10 (by decide) ?_
  refine g_ixor dX1_loosen_11 ?_
  refine g_iand dX1_loosen_12 ?_
  refine g_ias _ dX1_loosen_13 rfl rfl (by omega) ?_
  exact g_ret dX1_loosen_14 rfl ⟨rfl, rfl⟩

set_option maxRecDepth 4000 in
theorem ev_X1_hold {σ : r_Sg} {r p : Nat} {v : Int32} (hr : r < 24) : Ev 1 MX1_hold [.ref 6, .int (nI r), .int (nI p), .int v] σ none (r_up (r_up σ 7 r (r_sv (σ 7 r) p v)) 8 r (r_hi (σ 8 r) p)) := by
  refine Ev_w [.ref 6, .int (nI r), .int (nI p), .int v] ?_ (by decide) rfl (Nat.le_of_ble_eq_true rfl) rfl
  refine g_aload_n dX1_hold_0 rfl ?_
  refine g_iload_n dX1_hold_1 rfl ?_
  refine g_iload_n dX1_hold_2 rfl ?_
  refine g_iload_n dX1_hold_3 rfl ?_
  refine g_V3v dX1_hold_4 vX1_35 rfl (Nat.le_of_ble_eq_true rfl) (by decide) (ev_X1_setValue (by first | assumption | omega)) ?_
  refine g_aload_n dX1_hold_7 rfl ?_
  refine g_getR dX1_hold_8 fX1_17 rfl rfl ?_
  refine g_iload_n dX1_hold_11 rfl ?_
  refine g_dup2 dX1_hold_12 rfl rfl ?_
  refine g_ial _ dX1_hold_13 rfl rfl (by omega) ?_
  refine g_iconst (v := 1) dX1_hold_14 (by decide) ?_
  refine g_iload_n dX1_hold_15 rfl ?_
  refine g_ishl dX1_hold_16 ?_
  refine g_ior dX1_hold_17 ?_
  refine g_ias _ dX1_hold_18 rfl rfl (by omega) ?_
  exact g_ret dX1_hold_19 rfl ⟨rfl, rfl⟩

set_option maxRecDepth 4000 in
theorem ev_X1_addMark {σ : r_Sg} {r p : Nat} (hr : r < 24) (hp : p < 21) : Ev 0 MX1_addMark [.ref 6, .int (nI r), .int (nI p)] σ none (r_up σ 9 (21 * r + p) (σ 9 (21 * r + p) + 1)) := by
  refine Ev_w [.ref 6, .int (nI r), .int (nI p)] ?_ (by decide) rfl (Nat.le_of_ble_eq_true rfl) rfl
  refine g_aload_n dX1_addMark_0 rfl ?_
  refine g_getR dX1_addMark_1 fX1_20 rfl rfl ?_
  refine g_iload_n dX1_addMark_4 rfl ?_
  refine g_bipush (v := nI 21) dX1_addMark_5 (by decide) ?_
  refine g_imul dX1_addMark_7 ?_
  refine g_iload_n dX1_addMark_8 rfl ?_
  refine g_iadd dX1_addMark_9 ?_
  refine g_t (r_ix r p) ?_
  refine g_dup2 dX1_addMark_10 rfl rfl ?_
  refine g_ial _ dX1_addMark_11 rfl rfl (by omega) ?_
  refine g_iconst (v := 1) dX1_addMark_12 (by decide) ?_
  refine g_iadd dX1_addMark_13 ?_
  refine g_ias _ dX1_addMark_14 rfl rfl (by omega) ?_
  exact g_ret dX1_addMark_15 rfl ⟨rfl, rfl⟩

set_option maxRecDepth 4000 in
theorem ev_X1_marksAt {σ : r_Sg} {r p : Nat} (hr : r < 24) (hp : p < 21) : Ev 0 MX1_marksAt [.ref 6, .int (nI r), .int (nI p)] σ (some (.int (σ 9 (21 * r + p)))) σ := by
  refine Ev_w [.ref 6, .int (nI r), .int (nI p)] ?_ (by decide) rfl (Nat.le_of_ble_eq_true rfl) rfl
  refine g_aload_n dX1_marksAt_0 rfl ?_
  refine g_getR dX1_marksAt_1 fX1_20 rfl rfl ?_
  refine g_iload_n dX1_marksAt_4 rfl ?_
  refine g_bipush (v := nI 21) dX1_marksAt_5 (by decide) ?_
  refine g_imul dX1_marksAt_7 ?_
  refine g_iload_n dX1_marksAt_8 rfl ?_
  refine g_iadd dX1_marksAt_9 ?_
  refine g_t (r_ix r p) ?_
  refine g_ial _ dX1_marksAt_10 rfl rfl (by omega) ?_
  exact g_iret dX1_marksAt_11 rfl ⟨rfl, rfl⟩

set_option maxRecDepth 4000 in
theorem ev_X1_isBad {σ : r_Sg} {r p : Nat} (hr : r < 24) (hp : p < 21) : Ev 1 MX1_isBad [.ref 6, .int (nI r), .int (nI p)] σ (some (.int (bI (2 ≤ σ 9 (21 * r + p))))) σ := by
  refine Ev_w [.ref 6, .int (nI r), .int (nI p)] ?_ (by decide) rfl (Nat.le_of_ble_eq_true rfl) rfl
  refine g_aload_n dX1_isBad_0 rfl ?_
  refine g_iload_n dX1_isBad_1 rfl ?_
  refine g_iload_n dX1_isBad_2 rfl ?_
  refine g_V2 dX1_isBad_3 vX1_39 rfl (Nat.le_of_ble_eq_true rfl) (by decide) (ev_X1_marksAt (by first | assumption | omega) (by first | assumption | omega)) ?_
  refine g_iconst (v := 2) dX1_isBad_6 (by decide) ?_
  refine g_iclt (tgt := 14) dX1_isBad_7 (by decide) (fun c7 => ?_) (fun c7 => ?_)
  · refine g_iconst (v := 0) dX1_isBad_14 (by decide) ?_
    exact g_zret dX1_isBad_15 rfl (by first | exact Or.inl rfl | exact Or.inr rfl) ⟨by simp only [bI_0, Decidable.not_not, Int32.not_le, Int32.not_lt, Int32.lt_iff_toInt_lt, Int32.le_iff_toInt_le] at *; unfold bI; split <;> first | rfl | (exfalso; omega), rfl⟩
  · refine g_iconst (v := 1) dX1_isBad_10 (by decide) ?_
    refine g_goto (tgt := 15) dX1_isBad_11 (by decide) ?_
    exact g_zret dX1_isBad_15 rfl (by first | exact Or.inl rfl | exact Or.inr rfl) ⟨by simp only [bI_0, Decidable.not_not, Int32.not_le, Int32.not_lt, Int32.lt_iff_toInt_lt, Int32.le_iff_toInt_le] at *; unfold bI; split <;> first | rfl | (exfalso; omega), rfl⟩

set_option maxRecDepth 4000 in
theorem ev_X1_renewCell {σ : r_Sg} {r p : Nat} {v : Int32} (hr : r < 24) (hp : p < 21) : Ev 1 MX1_renewCell [.ref 6, .int (nI r), .int (nI p), .int v] σ none (c_ren σ r p v) := by
  refine Ev_w [.ref 6, .int (nI r), .int (nI p), .int v] ?_ (by decide) rfl (Nat.le_of_ble_eq_true rfl) rfl
  refine g_aload_n dX1_renewCell_0 rfl ?_
  refine g_iload_n dX1_renewCell_1 rfl ?_
  refine g_iload_n dX1_renewCell_2 rfl ?_
  refine g_iload_n dX1_renewCell_3 rfl ?_
  refine g_V3v dX1_renewCell_4 vX1_35 rfl (Nat.le_of_ble_eq_true rfl) (by decide) (ev_X1_setValue (by first | assumption | omega)) ?_
  refine g_aload_n dX1_renewCell_7 rfl ?_
  refine g_iload_n dX1_renewCell_8 rfl ?_
  refine g_iload_n dX1_renewCell_9 rfl ?_
  refine g_V2v dX1_renewCell_10 vX1_43 rfl (Nat.le_of_ble_eq_true rfl) (by decide) (ev_X1_loosen (by first | assumption | omega)) ?_
  refine g_aload_n dX1_renewCell_13 rfl ?_
  refine g_getR dX1_renewCell_14 fX1_20 rfl rfl ?_
  refine g_iload_n dX1_renewCell_17 rfl ?_
  refine g_bipush (v := nI 21) dX1_renewCell_18 (by decide) ?_
  refine g_imul dX1_renewCell_20 ?_
  refine g_iload_n dX1_renewCell_21 rfl ?_
  refine g_iadd dX1_renewCell_22 ?_
  refine g_t (r_ix r p) ?_
  refine g_iconst (v := 0) dX1_renewCell_23 (by decide) ?_
  refine g_ias _ dX1_renewCell_24 rfl rfl (by omega) ?_
  exact g_ret dX1_renewCell_25 rfl ⟨rfl, rfl⟩

set_option maxRecDepth 4000 in
theorem ev_X1_copyPlace {σ : r_Sg} {a b : Nat} (hb : b < 21) : Ev 2 MX1_copyPlace [.ref 6, .int (nI a), .int (nI b)] σ none (c_cp σ a b 24) := by
  refine Ev_w [.ref 6, .int (nI a), .int (nI b), .null] ?_ (by decide) rfl (Nat.le_of_ble_eq_true rfl) rfl
  refine g_iconst (v := 0) dX1_copyPlace_0 (by decide) ?_
  refine g_istore_n dX1_copyPlace_1 (by decide) rfl ?_
  refine r_loop (n := 24) (fun k => [.ref 6, .int (nI a), .int (nI b), .int (nI k)]) (fun k => c_cp σ a b k) (fun k hk ih => ?_) ?_
  · refine g_iload_n dX1_copyPlace_2 rfl ?_
    refine g_bipush (v := nI 24) dX1_copyPlace_3 (by decide) ?_
    refine g_icge (tgt := 26) dX1_copyPlace_5 (by decide) (fun c5 => absurd c5 (nI_ge hk (by omega))) (fun c5 => ?_)
    refine g_aload_n dX1_copyPlace_8 rfl ?_
    refine g_iload_n dX1_copyPlace_9 rfl ?_
    refine g_iload_n dX1_copyPlace_10 rfl ?_
    refine g_aload_n dX1_copyPlace_11 rfl ?_
    refine g_iload_n dX1_copyPlace_12 rfl ?_
    refine g_iload_n dX1_copyPlace_13 rfl ?_
    refine g_V2 dX1_copyPlace_14 vX1_47 rfl (Nat.le_of_ble_eq_true rfl) (by decide) (ev_X1_valueAt (by first | assumption | omega)) ?_
    refine g_V3v dX1_copyPlace_17 vX1_50 rfl (Nat.le_of_ble_eq_true rfl) (by decide) (ev_X1_renewCell (by first | assumption | omega) (by first | assumption | omega)) ?_
    refine g_iinc (v := nI (k + 1)) dX1_copyPlace_20 rfl (nI_1 k) (by decide) rfl ?_
    refine g_goto (tgt := 2) dX1_copyPlace_23 (by decide) ?_
    exact ih
  · refine g_iload_n dX1_copyPlace_2 rfl ?_
    refine g_bipush (v := nI 24) dX1_copyPlace_3 (by decide) ?_
    refine g_icge (tgt := 26) dX1_copyPlace_5 (by decide) (fun c5 => ?_) (fun c5 => absurd (nI_le (Nat.le_refl _) (by omega)) c5)
    exact g_ret dX1_copyPlace_26 rfl ⟨rfl, rfl⟩

set_option maxRecDepth 4000 in
theorem ev_X1_copyFrame {σ : r_Sg} {f g : Nat} (hf : f < 6) (hg : g < 6) : Ev 2 MX1_copyFrame [.ref 6, .int (nI f), .int (nI g)] σ none (c_cfo σ f g 4) := by
  refine Ev_w [.ref 6, .int (nI f), .int (nI g), .null, .null, .null, .null] ?_ (by decide) rfl (Nat.le_of_ble_eq_true rfl) rfl
  refine g_iconst (v := 0) dX1_copyFrame_0 (by decide) ?_
  refine g_istore_n dX1_copyFrame_1 (by decide) rfl ?_
  refine r_loop (n := 4) (fun k => [.ref 6, .int (nI f), .int (nI g), .int (nI k), .null, .null, .null]) (fun k => c_cfo σ f g k) (fun k hk ih => ?_) ?_
  · refine g_iload_n dX1_copyFrame_2 rfl ?_
    refine g_iconst (v := nI 4) dX1_copyFrame_3 (by decide) ?_
    refine g_icge (tgt := 59) dX1_copyFrame_4 (by decide) (fun c4 => absurd c4 (nI_ge hk (by omega))) (fun c4 => ?_)
    refine g_iload_n dX1_copyFrame_7 rfl ?_
    refine g_iconst (v := nI 4) dX1_copyFrame_8 (by decide) ?_
    refine g_imul dX1_copyFrame_9 ?_
    refine g_iload_n dX1_copyFrame_10 rfl ?_
    refine g_iadd dX1_copyFrame_11 ?_
    refine g_t (r_rx f k) ?_
    refine g_istore dX1_copyFrame_12 (by decide) rfl ?_
    refine g_iload_n dX1_copyFrame_14 rfl ?_
    refine g_iconst (v := nI 4) dX1_copyFrame_15 (by decide) ?_
    refine g_imul dX1_copyFrame_16 ?_
    refine g_iload_n dX1_copyFrame_17 rfl ?_
    refine g_iadd dX1_copyFrame_18 ?_
    refine g_t (r_rx g k) ?_
    refine g_istore dX1_copyFrame_19 (by decide) rfl ?_
    refine g_iconst (v := 0) dX1_copyFrame_21 (by decide) ?_
    refine g_istore dX1_copyFrame_22 (by decide) rfl ?_
    refine r_loop (n := 21) (fun q => [.ref 6, .int (nI f), .int (nI g), .int (nI k), .int (nI (4 * f + k)), .int (nI (4 * g + k)), .int (nI q)]) (fun q => c_cfi (c_cfo σ f g k) (4 * f + k) (4 * g + k) q) (fun q hq ih => ?_) ?_
    · refine g_iload dX1_copyFrame_24 rfl ?_
      refine g_bipush (v := nI 21) dX1_copyFrame_26 (by decide) ?_
      refine g_icge (tgt := 53) dX1_copyFrame_28 (by decide) (fun c28 => absurd c28 (nI_ge hq (by omega))) (fun c28 => ?_)
      refine g_aload_n dX1_copyFrame_31 rfl ?_
      refine g_iload dX1_copyFrame_32 rfl ?_
      refine g_iload dX1_copyFrame_34 rfl ?_
      refine g_aload_n dX1_copyFrame_36 rfl ?_
      refine g_iload dX1_copyFrame_37 rfl ?_
      refine g_iload dX1_copyFrame_39 rfl ?_
      refine g_V2 dX1_copyFrame_41 vX1_47 rfl (Nat.le_of_ble_eq_true rfl) (by decide) (ev_X1_valueAt (by first | assumption | omega)) ?_
      refine g_V3v dX1_copyFrame_44 vX1_50 rfl (Nat.le_of_ble_eq_true rfl) (by decide) (ev_X1_renewCell (by first | assumption | omega) (by first | assumption | omega)) ?_
      refine g_iinc (v := nI (q + 1)) dX1_copyFrame_47 rfl (nI_1 q) (by decide) rfl ?_
      refine g_goto (tgt := 24) dX1_copyFrame_50 (by decide) ?_
      exact ih
    · refine g_iload dX1_copyFrame_24 rfl ?_
      refine g_bipush (v := nI 21) dX1_copyFrame_26 (by decide) ?_
      refine g_icge (tgt := 53) dX1_copyFrame_28 (by decide) (fun c28 => ?_) (fun c28 => absurd (nI_le (Nat.le_refl _) (by omega)) c28)
      refine g_iinc (v := nI (k + 1)) dX1_copyFrame_53 rfl (nI_1 k) (by decide) rfl ?_
      refine g_goto (tgt := 2) dX1_copyFrame_56 (by decide) ?_
      refine g_w [.ref 6, .int (nI f), .int (nI g), .int (nI (k + 1)), .null, .null, .null] (And.intro (Or.inr rfl) (And.intro (Or.inr rfl) (And.intro (Or.inr rfl) (And.intro (Or.inr rfl) (And.intro (Or.inl rfl) (And.intro (Or.inl rfl) (And.intro (Or.inl rfl) (True.intro)))))))) ?_
      exact ih
  · refine g_iload_n dX1_copyFrame_2 rfl ?_
    refine g_iconst (v := nI 4) dX1_copyFrame_3 (by decide) ?_
    refine g_icge (tgt := 59) dX1_copyFrame_4 (by decide) (fun c4 => ?_) (fun c4 => absurd (nI_le (Nat.le_refl _) (by omega)) c4)
    exact g_ret dX1_copyFrame_59 rfl ⟨rfl, rfl⟩

set_option maxRecDepth 4000 in
theorem ev_X1_badInPlace {σ : r_Sg} {p : Nat} (hp : p < 21) : Ev 2 MX1_badInPlace [.ref 6, .int (nI p)] σ (some (.int (r_cna (fun r => decide (2 ≤ σ 9 (21 * r + p))) 0 24))) σ := by
  refine Ev_w [.ref 6, .int (nI p), .null, .null] ?_ (by decide) rfl (Nat.le_of_ble_eq_true rfl) rfl
  refine g_iconst (v := 0) dX1_badInPlace_0 (by decide) ?_
  refine g_istore_n dX1_badInPlace_1 (by decide) rfl ?_
  refine g_iconst (v := 0) dX1_badInPlace_2 (by decide) ?_
  refine g_istore_n dX1_badInPlace_3 (by decide) rfl ?_
  refine r_loop (n := 24) (fun k => [.ref 6, .int (nI p), .int (r_cna (fun r => decide (2 ≤ σ 9 (21 * r + p))) 0 k), .int (nI k)]) (fun k => σ) (fun k hk ih => ?_) ?_
  · refine g_iload_n dX1_badInPlace_4 rfl ?_
    refine g_bipush (v := nI 24) dX1_badInPlace_5 (by decide) ?_
    refine g_icge (tgt := 28) dX1_badInPlace_7 (by decide) (fun c7 => absurd c7 (nI_ge hk (by omega))) (fun c7 => ?_)
    refine g_aload_n dX1_badInPlace_10 rfl ?_
    refine g_iload_n dX1_badInPlace_11 rfl ?_
    refine g_iload_n dX1_badInPlace_12 rfl ?_
    refine g_V2 dX1_badInPlace_13 vX1_53 rfl (Nat.le_of_ble_eq_true rfl) (by decide) (ev_X1_isBad (by first | assumption | omega) (by first | assumption | omega)) ?_
    refine g_ifeq (tgt := 22) dX1_badInPlace_16 (by decide) (fun c16 => ?_) (fun c16 => ?_)
    · have q := bI_0.mp c16
      refine g_iinc (v := nI (k + 1)) dX1_badInPlace_22 rfl (nI_1 k) (by decide) rfl ?_
      refine g_goto (tgt := 4) dX1_badInPlace_25 (by decide) ?_
      exact g_l (by simp [r_ls, r_cna, q]) ih
    · have q := bI_1.mp c16
      refine g_iinc (v := _ + 1) dX1_badInPlace_19 rfl rfl (by decide) rfl ?_
      refine g_iinc (v := nI (k + 1)) dX1_badInPlace_22 rfl (nI_1 k) (by decide) rfl ?_
      refine g_goto (tgt := 4) dX1_badInPlace_25 (by decide) ?_
      exact g_l (by simp [r_ls, r_cna, q]) ih
  · refine g_iload_n dX1_badInPlace_4 rfl ?_
    refine g_bipush (v := nI 24) dX1_badInPlace_5 (by decide) ?_
    refine g_icge (tgt := 28) dX1_badInPlace_7 (by decide) (fun c7 => ?_) (fun c7 => absurd (nI_le (Nat.le_refl _) (by omega)) c7)
    refine g_iload_n dX1_badInPlace_28 rfl ?_
    exact g_iret dX1_badInPlace_29 rfl ⟨rfl, rfl⟩

set_option maxRecDepth 4000 in
theorem ev_X1_badInFrame {σ : r_Sg} {f : Nat} {b : Int32} (hf : f < 6) : Ev 2 MX1_badInFrame [.ref 6, .int (nI f), .int b] σ (some (.int (c_bf σ f b 4))) σ := by
  refine Ev_w [.ref 6, .int (nI f), .int b, .null, .null, .null] ?_ (by decide) rfl (Nat.le_of_ble_eq_true rfl) rfl
  refine g_iconst (v := 0) dX1_badInFrame_0 (by decide) ?_
  refine g_istore_n dX1_badInFrame_1 (by decide) rfl ?_
  refine g_iconst (v := 0) dX1_badInFrame_2 (by decide) ?_
  refine g_istore dX1_badInFrame_3 (by decide) rfl ?_
  refine r_loop (n := 4) (fun k => [.ref 6, .int (nI f), .int b, .int (c_bf σ f b k), .int (nI k), .null]) (fun k => σ) (fun k hk ih => ?_) ?_
  · refine g_iload dX1_badInFrame_5 rfl ?_
    refine g_iconst (v := nI 4) dX1_badInFrame_7 (by decide) ?_
    refine g_icge (tgt := 60) dX1_badInFrame_8 (by decide) (fun c8 => absurd c8 (nI_ge hk (by omega))) (fun c8 => ?_)
    refine g_iconst (v := 0) dX1_badInFrame_11 (by decide) ?_
    refine g_istore dX1_badInFrame_12 (by decide) rfl ?_
    refine r_loop (n := 21) (fun q => [.ref 6, .int (nI f), .int b, .int (r_cna (fun q => decide (¬ r_b b q = 0 ∧ 2 ≤ σ 9 (21 * (4 * f + k) + q))) (c_bf σ f b k) q), .int (nI k), .int (nI q)]) (fun q => σ) (fun q hq ih => ?_) ?_
    · refine g_iload dX1_badInFrame_14 rfl ?_
      refine g_bipush (v := nI 21) dX1_badInFrame_16 (by decide) ?_
      refine g_icge (tgt := 54) dX1_badInFrame_18 (by decide) (fun c18 => absurd c18 (nI_ge hq (by omega))) (fun c18 => ?_)
      refine g_iload_n dX1_badInFrame_21 rfl ?_
      refine g_iload dX1_badInFrame_22 rfl ?_
      refine g_ishr dX1_badInFrame_24 ?_
      refine g_iconst (v := 1) dX1_badInFrame_25 (by decide) ?_
      refine g_iand dX1_badInFrame_26 ?_
      refine g_ifeq (tgt := 48) dX1_badInFrame_27 (by decide) (fun c27 => ?_) (fun c27 => ?_)
      · have e1 : r_b b q = 0 := c27
        have e2 : True := trivial
        refine g_iinc (v := nI (q + 1)) dX1_badInFrame_48 rfl (nI_1 q) (by decide) rfl ?_
        refine g_goto (tgt := 14) dX1_badInFrame_51 (by decide) ?_
        exact g_l (by simp [r_ls, r_cna, e1, e2]) ih
      · have e1 : ¬ r_b b q = 0 := c27
        refine g_aload_n dX1_badInFrame_30 rfl ?_
        refine g_iload_n dX1_badInFrame_31 rfl ?_
        refine g_iconst (v := nI 4) dX1_badInFrame_32 (by decide) ?_
        refine g_imul dX1_badInFrame_33 ?_
        refine g_iload dX1_badInFrame_34 rfl ?_
        refine g_iadd dX1_badInFrame_36 ?_
        refine g_t (r_rx f k) ?_
        refine g_iload dX1_badInFrame_37 rfl ?_
        refine g_V2 dX1_badInFrame_39 vX1_53 rfl (Nat.le_of_ble_eq_true rfl) (by decide) (ev_X1_isBad (by first | assumption | omega) (by first | assumption | omega)) ?_
        refine g_ifeq (tgt := 48) dX1_badInFrame_42 (by decide) (fun c42 => ?_) (fun c42 => ?_)
        · have e2 := bI_0.mp c42
          refine g_iinc (v := nI (q + 1)) dX1_badInFrame_48 rfl (nI_1 q) (by decide) rfl ?_
          refine g_goto (tgt := 14) dX1_badInFrame_51 (by decide) ?_
          exact g_l (by simp [r_ls, r_cna, e1, e2]) ih
        · have e2 := bI_1.mp c42
          refine g_iinc (v := _ + 1) dX1_badInFrame_45 rfl rfl (by decide) rfl ?_
          refine g_iinc (v := nI (q + 1)) dX1_badInFrame_48 rfl (nI_1 q) (by decide) rfl ?_
          refine g_goto (tgt := 14) dX1_badInFrame_51 (by decide) ?_
          exact g_l (by simp [r_ls, r_cna, e1, e2]) ih
    · refine g_iload dX1_badInFrame_14 rfl ?_
      refine g_bipush (v := nI 21) dX1_badInFrame_16 (by decide) ?_
      refine g_icge (tgt := 54) dX1_badInFrame_18 (by decide) (fun c18 => ?_) (fun c18 => absurd (nI_le (Nat.le_refl _) (by omega)) c18)
      refine g_iinc (v := nI (k + 1)) dX1_badInFrame_54 rfl (nI_1 k) (by decide) rfl ?_
      refine g_goto (tgt := 5) dX1_badInFrame_57 (by decide) ?_
      refine g_w [.ref 6, .int (nI f), .int b, .int (c_bf σ f b (k + 1)), .int (nI (k + 1)), .null] (And.intro (Or.inr rfl) (And.intro (Or.inr rfl) (And.intro (Or.inr rfl) (And.intro (Or.inr rfl) (And.intro (Or.inr rfl) (And.intro (Or.inl rfl) (True.intro))))))) ?_
      exact ih
  · refine g_iload dX1_badInFrame_5 rfl ?_
    refine g_iconst (v := nI 4) dX1_badInFrame_7 (by decide) ?_
    refine g_icge (tgt := 60) dX1_badInFrame_8 (by decide) (fun c8 => ?_) (fun c8 => absurd (nI_le (Nat.le_refl _) (by omega)) c8)
    refine g_iload_n dX1_badInFrame_60 rfl ?_
    exact g_iret dX1_badInFrame_61 rfl ⟨rfl, rfl⟩

set_option maxRecDepth 4000 in
theorem ev_X1_stuckInFrame {σ : r_Sg} {f : Nat} {b : Int32} (hf : f < 6) : Ev 1 MX1_stuckInFrame [.ref 6, .int (nI f), .int b] σ (some (.int (c_sf σ f b 4))) σ := by
  refine Ev_w [.ref 6, .int (nI f), .int b, .null, .null] ?_ (by decide) rfl (Nat.le_of_ble_eq_true rfl) rfl
  refine g_iconst (v := 0) dX1_stuckInFrame_0 (by decide) ?_
  refine g_istore_n dX1_stuckInFrame_1 (by decide) rfl ?_
  refine g_iconst (v := 0) dX1_stuckInFrame_2 (by decide) ?_
  refine g_istore dX1_stuckInFrame_3 (by decide) rfl ?_
  refine r_loop (n := 4) (fun k => [.ref 6, .int (nI f), .int b, .int (c_sf σ f b k), .int (nI k)]) (fun k => σ) (fun k hk ih => ?_) ?_
  · refine g_iload dX1_stuckInFrame_5 rfl ?_
    refine g_iconst (v := nI 4) dX1_stuckInFrame_7 (by decide) ?_
    refine g_icge (tgt := 36) dX1_stuckInFrame_8 (by decide) (fun c8 => absurd c8 (nI_ge hk (by omega))) (fun c8 => ?_)
    refine g_iload_n dX1_stuckInFrame_11 rfl ?_
    refine g_aload_n dX1_stuckInFrame_12 rfl ?_
    refine g_getR dX1_stuckInFrame_13 fX1_17 rfl rfl ?_
    refine g_iload_n dX1_stuckInFrame_16 rfl ?_
    refine g_iconst (v := nI 4) dX1_stuckInFrame_17 (by decide) ?_
    refine g_imul dX1_stuckInFrame_18 ?_
    refine g_iload dX1_stuckInFrame_19 rfl ?_
    refine g_iadd dX1_stuckInFrame_21 ?_
    refine g_t (r_rx f k) ?_
    refine g_ial _ dX1_stuckInFrame_22 rfl rfl (by omega) ?_
    refine g_iload_n dX1_stuckInFrame_23 rfl ?_
    refine g_iand dX1_stuckInFrame_24 ?_
    refine g_S1 dX1_stuckInFrame_25 vX1_29 (Nat.le_of_ble_eq_true rfl) (by decide) (ev_J6_bitCount_0f7a4) ?_
    refine g_iadd dX1_stuckInFrame_28 ?_
    refine g_istore_n dX1_stuckInFrame_29 (by decide) rfl ?_
    refine g_iinc (v := nI (k + 1)) dX1_stuckInFrame_30 rfl (nI_1 k) (by decide) rfl ?_
    refine g_goto (tgt := 5) dX1_stuckInFrame_33 (by decide) ?_
    exact ih
  · refine g_iload dX1_stuckInFrame_5 rfl ?_
    refine g_iconst (v := nI 4) dX1_stuckInFrame_7 (by decide) ?_
    refine g_icge (tgt := 36) dX1_stuckInFrame_8 (by decide) (fun c8 => ?_) (fun c8 => absurd (nI_le (Nat.le_refl _) (by omega)) c8)
    refine g_iload_n dX1_stuckInFrame_36 rfl ?_
    exact g_iret dX1_stuckInFrame_37 rfl ⟨rfl, rfl⟩

set_option maxRecDepth 4000 in
theorem ev_X4_noteLook {σ : r_Sg} {k : Nat} {a b c : Int32} (hk : k < 3) : Ev 0 MX4_noteLook [.ref 10, .int (nI k), .int a, .int b, .int c] σ none (c_nl σ k a b c) := by
  refine Ev_w [.ref 10, .int (nI k), .int a, .int b, .int c] ?_ (by decide) rfl (Nat.le_of_ble_eq_true rfl) rfl
  refine g_aload_n dX4_noteLook_0 rfl ?_
  refine g_getR dX4_noteLook_1 fX4_9 rfl rfl ?_
  refine g_iload_n dX4_noteLook_4 rfl ?_
  refine g_dup2 dX4_noteLook_5 rfl rfl ?_
  refine g_ial _ dX4_noteLook_6 rfl rfl (by omega) ?_
  refine g_iconst (v := 1) dX4_noteLook_7 (by decide) ?_
  refine g_iadd dX4_noteLook_8 ?_
  refine g_ias _ dX4_noteLook_9 rfl rfl (by omega) ?_
  refine g_aload_n dX4_noteLook_10 rfl ?_
  refine g_iload_n dX4_noteLook_11 rfl ?_
  refine g_putI dX4_noteLook_12 pX4_21 rfl rfl ?_
  refine g_aload_n dX4_noteLook_15 rfl ?_
  refine g_iload_n dX4_noteLook_16 rfl ?_
  refine g_putI dX4_noteLook_17 pX4_25 rfl rfl ?_
  refine g_aload_n dX4_noteLook_20 rfl ?_
  refine g_iload_n dX4_noteLook_21 rfl ?_
  refine g_putI dX4_noteLook_22 pX4_28 rfl rfl ?_
  refine g_aload_n dX4_noteLook_25 rfl ?_
  refine g_iload dX4_noteLook_26 rfl ?_
  refine g_putI dX4_noteLook_28 pX4_31 rfl rfl ?_
  refine g_aload_n dX4_noteLook_31 rfl ?_
  refine g_iconst (v := 0) dX4_noteLook_32 (by decide) ?_
  refine g_putI dX4_noteLook_33 pX4_34 rfl rfl ?_
  refine g_aload_n dX4_noteLook_36 rfl ?_
  refine g_iconst (v := 0) dX4_noteLook_37 (by decide) ?_
  refine g_putI dX4_noteLook_38 pX4_37 rfl rfl ?_
  exact g_ret dX4_noteLook_41 rfl ⟨rfl, rfl⟩

set_option maxRecDepth 4000 in
theorem ev_X4_noteMending {σ : r_Sg} {p tc : Nat} {a b : Int32} (hp : p < 4) (htc : σ 10 3 = nI tc) (htc4 : tc ≤ 4) (ha : a = 0 ∨ a = 1) (hb : b = 0 ∨ b = 1) : Ev 0 MX4_noteMending [.ref 10, .int (nI p), .int a, .int b] σ none (c_nm σ p tc a b) := by
  refine Ev_w [.ref 10, .int (nI p), .int a, .int b] ?_ (by decide) rfl (Nat.le_of_ble_eq_true rfl) rfl
  refine g_aload_n dX4_noteMending_0 rfl ?_
  refine g_getR dX4_noteMending_1 fX4_15 rfl rfl ?_
  refine g_iload_n dX4_noteMending_4 rfl ?_
  refine g_ial _ dX4_noteMending_5 rfl rfl (by omega) ?_
  refine g_ifne (tgt := 37) dX4_noteMending_6 (by decide) (fun c6 => ?_) (fun c6 => ?_)
  · have e : ¬ (σ 12 p = 0 ∧ tc < 4) := fun z => c6 z.1
    refine g_aload_n dX4_noteMending_37 rfl ?_
    refine g_getR dX4_noteMending_38 fX4_15 rfl rfl ?_
    refine g_iload_n dX4_noteMending_41 rfl ?_
    refine g_dup2 dX4_noteMending_42 rfl rfl ?_
    refine g_ial _ dX4_noteMending_43 rfl rfl (by omega) ?_
    refine g_iconst (v := 1) dX4_noteMending_44 (by decide) ?_
    refine g_iadd dX4_noteMending_45 ?_
    refine g_ias _ dX4_noteMending_46 rfl rfl (by omega) ?_
    refine g_aload_n dX4_noteMending_47 rfl ?_
    refine g_iload_n dX4_noteMending_48 rfl ?_
    refine g_ifeq (tgt := 56) dX4_noteMending_49 (by decide) (fun c49 => ?_) (fun c49 => ?_)
    · have qa : a = 0 := c49
      refine g_iconst (v := 0) dX4_noteMending_56 (by decide) ?_
      refine g_putI dX4_noteMending_57 pX4_34 rfl rfl ?_
      refine g_aload_n dX4_noteMending_60 rfl ?_
      refine g_iload_n dX4_noteMending_61 rfl ?_
      refine g_ifeq (tgt := 69) dX4_noteMending_62 (by decide) (fun c62 => ?_) (fun c62 => ?_)
      · have qb : b = 0 := c62
        refine g_iconst (v := 0) dX4_noteMending_69 (by decide) ?_
        refine g_putI dX4_noteMending_70 pX4_37 rfl rfl ?_
        exact g_ret dX4_noteMending_73 rfl ⟨rfl, by simp only [c_nm, qa, qb]; first | rw [if_pos e] | rw [if_neg e]⟩
      · have qb : b = 1 := hb.resolve_left c62
        refine g_iconst (v := 1) dX4_noteMending_65 (by decide) ?_
        refine g_goto (tgt := 70) dX4_noteMending_66 (by decide) ?_
        refine g_putI dX4_noteMending_70 pX4_37 rfl rfl ?_
        exact g_ret dX4_noteMending_73 rfl ⟨rfl, by simp only [c_nm, qa, qb]; first | rw [if_pos e] | rw [if_neg e]⟩
    · have qa : a = 1 := ha.resolve_left c49
      refine g_iconst (v := 1) dX4_noteMending_52 (by decide) ?_
      refine g_goto (tgt := 57) dX4_noteMending_53 (by decide) ?_
      refine g_putI dX4_noteMending_57 pX4_34 rfl rfl ?_
      refine g_aload_n dX4_noteMending_60 rfl ?_
      refine g_iload_n dX4_noteMending_61 rfl ?_
      refine g_ifeq (tgt := 69) dX4_noteMending_62 (by decide) (fun c62 => ?_) (fun c62 => ?_)
      · have qb : b = 0 := c62
        refine g_iconst (v := 0) dX4_noteMending_69 (by decide) ?_
        refine g_putI dX4_noteMending_70 pX4_37 rfl rfl ?_
        exact g_ret dX4_noteMending_73 rfl ⟨rfl, by simp only [c_nm, qa, qb]; first | rw [if_pos e] | rw [if_neg e]⟩
      · have qb : b = 1 := hb.resolve_left c62
        refine g_iconst (v := 1) dX4_noteMending_65 (by decide) ?_
        refine g_goto (tgt := 70) dX4_noteMending_66 (by decide) ?_
        refine g_putI dX4_noteMending_70 pX4_37 rfl rfl ?_
        exact g_ret dX4_noteMending_73 rfl ⟨rfl, by simp only [c_nm, qa, qb]; first | rw [if_pos e] | rw [if_neg e]⟩
  · refine g_aload_n dX4_noteMending_9 rfl ?_
    refine g_getI dX4_noteMending_10 fX4_46 rfl rfl ?_
    refine g_t htc ?_
    refine g_iconst (v := nI 4) dX4_noteMending_13 (by decide) ?_
    refine g_icge (tgt := 37) dX4_noteMending_14 (by decide) (fun c14 => ?_) (fun c14 => ?_)
    · have e : ¬ (σ 12 p = 0 ∧ tc < 4) := fun z => absurd c14 (nI_ge z.2 (by omega))
      refine g_aload_n dX4_noteMending_37 rfl ?_
      refine g_getR dX4_noteMending_38 fX4_15 rfl rfl ?_
      refine g_iload_n dX4_noteMending_41 rfl ?_
      refine g_dup2 dX4_noteMending_42 rfl rfl ?_
      refine g_ial _ dX4_noteMending_43 rfl rfl (by omega) ?_
      refine g_iconst (v := 1) dX4_noteMending_44 (by decide) ?_
      refine g_iadd dX4_noteMending_45 ?_
      refine g_ias _ dX4_noteMending_46 rfl rfl (by omega) ?_
      refine g_aload_n dX4_noteMending_47 rfl ?_
      refine g_iload_n dX4_noteMending_48 rfl ?_
      refine g_ifeq (tgt := 56) dX4_noteMending_49 (by decide) (fun c49 => ?_) (fun c49 => ?_)
      · have qa : a = 0 := c49
        refine g_iconst (v := 0) dX4_noteMending_56 (by decide) ?_
        refine g_putI dX4_noteMending_57 pX4_34 rfl rfl ?_
        refine g_aload_n dX4_noteMending_60 rfl ?_
        refine g_iload_n dX4_noteMending_61 rfl ?_
        refine g_ifeq (tgt := 69) dX4_noteMending_62 (by decide) (fun c62 => ?_) (fun c62 => ?_)
        · have qb : b = 0 := c62
          refine g_iconst (v := 0) dX4_noteMending_69 (by decide) ?_
          refine g_putI dX4_noteMending_70 pX4_37 rfl rfl ?_
          exact g_ret dX4_noteMending_73 rfl ⟨rfl, by simp only [c_nm, qa, qb]; first | rw [if_pos e] | rw [if_neg e]⟩
        · have qb : b = 1 := hb.resolve_left c62
          refine g_iconst (v := 1) dX4_noteMending_65 (by decide) ?_
          refine g_goto (tgt := 70) dX4_noteMending_66 (by decide) ?_
          refine g_putI dX4_noteMending_70 pX4_37 rfl rfl ?_
          exact g_ret dX4_noteMending_73 rfl ⟨rfl, by simp only [c_nm, qa, qb]; first | rw [if_pos e] | rw [if_neg e]⟩
      · have qa : a = 1 := ha.resolve_left c49
        refine g_iconst (v := 1) dX4_noteMending_52 (by decide) ?_
        refine g_goto (tgt := 57) dX4_noteMending_53 (by decide) ?_
        refine g_putI dX4_noteMending_57 pX4_34 rfl rfl ?_
        refine g_aload_n dX4_noteMending_60 rfl ?_
        refine g_iload_n dX4_noteMending_61 rfl ?_
        refine g_ifeq (tgt := 69) dX4_noteMending_62 (by decide) (fun c62 => ?_) (fun c62 => ?_)
        · have qb : b = 0 := c62
          refine g_iconst (v := 0) dX4_noteMending_69 (by decide) ?_
          refine g_putI dX4_noteMending_70 pX4_37 rfl rfl ?_
          exact g_ret dX4_noteMending_73 rfl ⟨rfl, by simp only [c_nm, qa, qb]; first | rw [if_pos e] | rw [if_neg e]⟩
        · have qb : b = 1 := hb.resolve_left c62
          refine g_iconst (v := 1) dX4_noteMending_65 (by decide) ?_
          refine g_goto (tgt := 70) dX4_noteMending_66 (by decide) ?_
          refine g_putI dX4_noteMending_70 pX4_37 rfl rfl ?_
          exact g_ret dX4_noteMending_73 rfl ⟨rfl, by simp only [c_nm, qa, qb]; first | rw [if_pos e] | rw [if_neg e]⟩
    · have q14 : tc < 4 := by rcases Nat.lt_or_ge tc 4 with z | z; exact z; exact absurd (nI_le z (by omega)) c14
      have e : σ 12 p = 0 ∧ tc < 4 := ⟨c6, q14⟩
      refine g_aload_n dX4_noteMending_17 rfl ?_
      refine g_getR dX4_noteMending_18 fX4_18 rfl rfl ?_
      refine g_aload_n dX4_noteMending_21 rfl ?_
      refine g_getI dX4_noteMending_22 fX4_46 rfl rfl ?_
      refine g_t htc ?_
      refine g_iload_n dX4_noteMending_25 rfl ?_
      refine g_ias _ dX4_noteMending_26 rfl rfl (by omega) ?_
      refine g_aload_n dX4_noteMending_27 rfl ?_
      refine g_dup dX4_noteMending_28 rfl ?_
      refine g_getI dX4_noteMending_29 fX4_46 rfl rfl ?_
      refine g_t (show _ = nI tc from htc) ?_
      refine g_iconst (v := 1) dX4_noteMending_32 (by decide) ?_
      refine g_iadd dX4_noteMending_33 ?_
      refine g_putI dX4_noteMending_34 pX4_46 rfl rfl ?_
      refine g_aload_n dX4_noteMending_37 rfl ?_
      refine g_getR dX4_noteMending_38 fX4_15 rfl rfl ?_
      refine g_iload_n dX4_noteMending_41 rfl ?_
      refine g_dup2 dX4_noteMending_42 rfl rfl ?_
      refine g_ial _ dX4_noteMending_43 rfl rfl (by omega) ?_
      refine g_iconst (v := 1) dX4_noteMending_44 (by decide) ?_
      refine g_iadd dX4_noteMending_45 ?_
      refine g_ias _ dX4_noteMending_46 rfl rfl (by omega) ?_
      refine g_aload_n dX4_noteMending_47 rfl ?_
      refine g_iload_n dX4_noteMending_48 rfl ?_
      refine g_ifeq (tgt := 56) dX4_noteMending_49 (by decide) (fun c49 => ?_) (fun c49 => ?_)
      · have qa : a = 0 := c49
        refine g_iconst (v := 0) dX4_noteMending_56 (by decide) ?_
        refine g_putI dX4_noteMending_57 pX4_34 rfl rfl ?_
        refine g_aload_n dX4_noteMending_60 rfl ?_
        refine g_iload_n dX4_noteMending_61 rfl ?_
        refine g_ifeq (tgt := 69) dX4_noteMending_62 (by decide) (fun c62 => ?_) (fun c62 => ?_)
        · have qb : b = 0 := c62
          refine g_iconst (v := 0) dX4_noteMending_69 (by decide) ?_
          refine g_putI dX4_noteMending_70 pX4_37 rfl rfl ?_
          exact g_ret dX4_noteMending_73 rfl ⟨rfl, by simp only [c_nm, qa, qb]; first | rw [if_pos e] | rw [if_neg e]⟩
        · have qb : b = 1 := hb.resolve_left c62
          refine g_iconst (v := 1) dX4_noteMending_65 (by decide) ?_
          refine g_goto (tgt := 70) dX4_noteMending_66 (by decide) ?_
          refine g_putI dX4_noteMending_70 pX4_37 rfl rfl ?_
          exact g_ret dX4_noteMending_73 rfl ⟨rfl, by simp only [c_nm, qa, qb]; first | rw [if_pos e] | rw [if_neg e]⟩
      · have qa : a = 1 := ha.resolve_left c49
        refine g_iconst (v := 1) dX4_noteMending_52 (by decide) ?_
        refine g_goto (tgt := 57) dX4_noteMending_53 (by decide) ?_
        refine g_putI dX4_noteMending_57 pX4_34 rfl rfl ?_
        refine g_aload_n dX4_noteMending_60 rfl ?_
        refine g_iload_n dX4_noteMending_61 rfl ?_
        refine g_ifeq (tgt := 69) dX4_noteMending_62 (by decide) (fun c62 => ?_) (fun c62 => ?_)
        · have qb : b = 0 := c62
          refine g_iconst (v := 0) dX4_noteMending_69 (by decide) ?_
          refine g_putI dX4_noteMending_70 pX4_37 rfl rfl ?_
          exact g_ret dX4_noteMending_73 rfl ⟨rfl, by simp only [c_nm, qa, qb]; first | rw [if_pos e] | rw [if_neg e]⟩
        · have qb : b = 1 := hb.resolve_left c62
          refine g_iconst (v := 1) dX4_noteMending_65 (by decide) ?_
          refine g_goto (tgt := 70) dX4_noteMending_66 (by decide) ?_
          refine g_putI dX4_noteMending_70 pX4_37 rfl rfl ?_
          exact g_ret dX4_noteMending_73 rfl ⟨rfl, by simp only [c_nm, qa, qb]; first | rw [if_pos e] | rw [if_neg e]⟩

set_option maxRecDepth 4000 in
theorem ev_X4_troubledPage {σ : r_Sg} {n : Nat} {b : Int32} (hn : σ 10 3 = nI n) (hn4 : n ≤ 4) : Ev 0 MX4_troubledPage [.ref 10, .int b] σ (some (.int (if 0 ≤ b ∧ b < nI n then σ 13 b.toNatClampNeg else -1))) σ := by
  refine Ev_w [.ref 10, .int b] ?_ (by decide) rfl (Nat.le_of_ble_eq_true rfl) rfl
  refine g_iload_n dX4_troubledPage_0 rfl ?_
  refine g_iflt (tgt := 21) dX4_troubledPage_1 (by decide) (fun c1 => ?_) (fun c1 => ?_)
  · refine g_iconst (v := (-1)) dX4_troubledPage_21 (by decide) ?_
    exact g_iret dX4_troubledPage_22 rfl ⟨by first | rw [if_pos q9, nI_clamp (by omega)] | rw [if_neg (fun z => absurd c1 (Int32.not_lt.mpr z.1))] | rw [if_neg (fun z => absurd z.2 (Int32.not_lt.mpr c9))], rfl⟩
  · refine g_iload_n dX4_troubledPage_4 rfl ?_
    refine g_aload_n dX4_troubledPage_5 rfl ?_
    refine g_getI dX4_troubledPage_6 fX4_46 rfl rfl ?_
    refine g_t hn ?_
    refine g_icge (tgt := 21) dX4_troubledPage_9 (by decide) (fun c9 => ?_) (fun c9 => ?_)
    · refine g_iconst (v := (-1)) dX4_troubledPage_21 (by decide) ?_
      exact g_iret dX4_troubledPage_22 rfl ⟨by first | rw [if_pos q9, nI_clamp (by omega)] | rw [if_neg (fun z => absurd c1 (Int32.not_lt.mpr z.1))] | rw [if_neg (fun z => absurd z.2 (Int32.not_lt.mpr c9))], rfl⟩
    · have q9 : 0 ≤ b ∧ b < nI n := ⟨Int32.not_lt.mp c1, Int32.not_le.mp c9⟩
      obtain ⟨j, hj, rfl⟩ := r_nat q9 (by omega)
      refine g_aload_n dX4_troubledPage_12 rfl ?_
      refine g_getR dX4_troubledPage_13 fX4_18 rfl rfl ?_
      refine g_iload_n dX4_troubledPage_16 rfl ?_
      refine g_ial _ dX4_troubledPage_17 rfl rfl (by omega) ?_
      refine g_goto (tgt := 22) dX4_troubledPage_18 (by decide) ?_
      exact g_iret dX4_troubledPage_22 rfl ⟨by first | rw [if_pos q9, nI_clamp (by omega)] | rw [if_neg (fun z => absurd c1 (Int32.not_lt.mpr z.1))] | rw [if_neg (fun z => absurd z.2 (Int32.not_lt.mpr c9))], rfl⟩

set_option maxRecDepth 4000 in
theorem ev_X4_mendsOf {σ : r_Sg} {p : Nat} (hp : p < 4) : Ev 0 MX4_mendsOf [.ref 10, .int (nI p)] σ (some (.int (σ 12 p))) σ := by
  refine Ev_w [.ref 10, .int (nI p)] ?_ (by decide) rfl (Nat.le_of_ble_eq_true rfl) rfl
  refine g_aload_n dX4_mendsOf_0 rfl ?_
  refine g_getR dX4_mendsOf_1 fX4_15 rfl rfl ?_
  refine g_iload_n dX4_mendsOf_4 rfl ?_
  refine g_ial _ dX4_mendsOf_5 rfl rfl (by omega) ?_
  exact g_iret dX4_mendsOf_6 rfl ⟨rfl, rfl⟩

set_option maxRecDepth 4000 in
theorem ev_X4_looksOf {σ : r_Sg} {p : Nat} (hp : p < 3) : Ev 0 MX4_looksOf [.ref 10, .int (nI p)] σ (some (.int (σ 11 p))) σ := by
  refine Ev_w [.ref 10, .int (nI p)] ?_ (by decide) rfl (Nat.le_of_ble_eq_true rfl) rfl
  refine g_aload_n dX4_looksOf_0 rfl ?_
  refine g_getR dX4_looksOf_1 fX4_9 rfl rfl ?_
  refine g_iload_n dX4_looksOf_4 rfl ?_
  refine g_ial _ dX4_looksOf_5 rfl rfl (by omega) ?_
  exact g_iret dX4_looksOf_6 rfl ⟨rfl, rfl⟩

set_option maxRecDepth 4000 in
theorem ev_X4_allLooks {σ : r_Sg}  : Ev 0 MX4_allLooks [.ref 10] σ (some (.int (σ 11 0 + σ 11 1 + σ 11 2))) σ := by
  refine Ev_w [.ref 10] ?_ (by decide) rfl (Nat.le_of_ble_eq_true rfl) rfl
  refine g_aload_n dX4_allLooks_0 rfl ?_
  refine g_getR dX4_allLooks_1 fX4_9 rfl rfl ?_
  refine g_iconst (v := nI 0) dX4_allLooks_4 (by decide) ?_
  refine g_ial _ dX4_allLooks_5 rfl rfl (by omega) ?_
  refine g_aload_n dX4_allLooks_6 rfl ?_
  refine g_getR dX4_allLooks_7 fX4_9 rfl rfl ?_
  refine g_iconst (v := nI 1) dX4_allLooks_10 (by decide) ?_
  refine g_ial _ dX4_allLooks_11 rfl rfl (by omega) ?_
  refine g_iadd dX4_allLooks_12 ?_
  refine g_aload_n dX4_allLooks_13 rfl ?_
  refine g_getR dX4_allLooks_14 fX4_9 rfl rfl ?_
  refine g_iconst (v := nI 2) dX4_allLooks_17 (by decide) ?_
  refine g_ial _ dX4_allLooks_18 rfl rfl (by omega) ?_
  refine g_iadd dX4_allLooks_19 ?_
  exact g_iret dX4_allLooks_20 rfl ⟨rfl, rfl⟩

set_option maxRecDepth 4000 in
theorem ev_X4_latest_0 {σ : r_Sg}  : Ev 0 MX4_latest [.ref 10, .int 0] σ (some (.int (σ 10 4))) σ := by
  refine Ev_w [.ref 10, .int 0] ?_ (by decide) rfl (Nat.le_of_ble_eq_true rfl) rfl
  refine g_iload_n dX4_latest_0 rfl ?_
  refine g_tabIn (tgt := 36) dX4_latest_1 (by decide) (by decide) (show _ = some 35 from rfl) (by decide) ?_
  refine g_aload_n dX4_latest_36 rfl ?_
  refine g_getI dX4_latest_37 fX4_21 rfl rfl ?_
  exact g_iret dX4_latest_40 rfl ⟨rfl, rfl⟩

set_option maxRecDepth 4000 in
theorem ev_X4_latest_1 {σ : r_Sg}  : Ev 0 MX4_latest [.ref 10, .int 1] σ (some (.int (σ 10 5))) σ := by
  refine Ev_w [.ref 10, .int 1] ?_ (by decide) rfl (Nat.le_of_ble_eq_true rfl) rfl
  refine g_iload_n dX4_latest_0 rfl ?_
  refine g_tabIn (tgt := 41) dX4_latest_1 (by decide) (by decide) (show _ = some 40 from rfl) (by decide) ?_
  refine g_aload_n dX4_latest_41 rfl ?_
  refine g_getI dX4_latest_42 fX4_25 rfl rfl ?_
  exact g_iret dX4_latest_45 rfl ⟨rfl, rfl⟩

set_option maxRecDepth 4000 in
theorem ev_X4_latest_2 {σ : r_Sg}  : Ev 0 MX4_latest [.ref 10, .int 2] σ (some (.int (σ 10 8))) σ := by
  refine Ev_w [.ref 10, .int 2] ?_ (by decide) rfl (Nat.le_of_ble_eq_true rfl) rfl
  refine g_iload_n dX4_latest_0 rfl ?_
  refine g_tabIn (tgt := 46) dX4_latest_1 (by decide) (by decide) (show _ = some 45 from rfl) (by decide) ?_
  refine g_aload_n dX4_latest_46 rfl ?_
  refine g_getI dX4_latest_47 fX4_34 rfl rfl ?_
  exact g_iret dX4_latest_50 rfl ⟨rfl, rfl⟩

set_option maxRecDepth 4000 in
theorem ev_X4_latest_3 {σ : r_Sg}  : Ev 0 MX4_latest [.ref 10, .int 3] σ (some (.int (σ 10 9))) σ := by
  refine Ev_w [.ref 10, .int 3] ?_ (by decide) rfl (Nat.le_of_ble_eq_true rfl) rfl
  refine g_iload_n dX4_latest_0 rfl ?_
  refine g_tabIn (tgt := 51) dX4_latest_1 (by decide) (by decide) (show _ = some 50 from rfl) (by decide) ?_
  refine g_aload_n dX4_latest_51 rfl ?_
  refine g_getI dX4_latest_52 fX4_37 rfl rfl ?_
  exact g_iret dX4_latest_55 rfl ⟨rfl, rfl⟩

set_option maxRecDepth 4000 in
theorem ev_X4_latest_4 {σ : r_Sg}  : Ev 0 MX4_latest [.ref 10, .int 4] σ (some (.int (σ 10 6))) σ := by
  refine Ev_w [.ref 10, .int 4] ?_ (by decide) rfl (Nat.le_of_ble_eq_true rfl) rfl
  refine g_iload_n dX4_latest_0 rfl ?_
  refine g_tabIn (tgt := 56) dX4_latest_1 (by decide) (by decide) (show _ = some 55 from rfl) (by decide) ?_
  refine g_aload_n dX4_latest_56 rfl ?_
  refine g_getI dX4_latest_57 fX4_28 rfl rfl ?_
  exact g_iret dX4_latest_60 rfl ⟨rfl, rfl⟩

set_option maxRecDepth 4000 in
theorem ev_X4_latest_5 {σ : r_Sg}  : Ev 0 MX4_latest [.ref 10, .int 5] σ (some (.int (σ 10 7))) σ := by
  refine Ev_w [.ref 10, .int 5] ?_ (by decide) rfl (Nat.le_of_ble_eq_true rfl) rfl
  refine g_iload_n dX4_latest_0 rfl ?_
  refine g_tabOut (tgt := 61) dX4_latest_1 (by decide) (by decide) ?_
  refine g_aload_n dX4_latest_61 rfl ?_
  refine g_getI dX4_latest_62 fX4_31 rfl rfl ?_
  exact g_iret dX4_latest_65 rfl ⟨rfl, rfl⟩
