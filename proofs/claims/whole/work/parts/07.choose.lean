/-! Code.choose: the columns of each code, by the table r_T; the table is checked by the kernel -/
def r_sub : List Value → List Value → Prop
  | [], [] => True
  | a :: x, b :: y => (a = .null ∨ a = b) ∧ r_sub x y
  | _, _ => False
theorem r_sub_at : ∀ {x y : List Value}, r_sub x y → ∀ (i : Nat) (v : Value), x[i]? = some v → v ≠ .null → y[i]? = some v
  | [], [], _, i, v, h, _ => by simp at h
  | a :: x, b :: y, hs, i, v, h, hv => by
    cases i with
    | zero =>
      simp at h
      subst h
      rcases hs.1 with h1 | h1
      · exact absurd h1 hv
      · simp [h1]
    | succ i => simpa using r_sub_at hs.2 i v (by simpa using h) hv
  | [], _ :: _, hs, _, _, _, _ => hs.elim
  | _ :: _, [], hs, _, _, _, _ => hs.elim
theorem g_w {M : r_M} {h : Nat} {X : r_X} {Post : Option Value → r_Sg → Prop} {pc : Nat} {L S : List Value} {σ : r_Sg} (L' : List Value) (hs : r_sub L' L) (k : G M h X Post pc L' S σ) : G M h X Post pc L S σ := by
  intro E p l e R s m args below meth c A cells slots Q C H locs ls hP hD hS hL
  exact k E p l e R s m args below meth c A cells slots Q C H locs ls hP hD hS ⟨hL.1, hL.2.1, fun i v hi hv => hL.2.2 i v (r_sub_at hs i v hi hv) hv⟩
def r_full (ro : Nat → Int32) (col : Int32) : Nat → Int32
  | 0 => 0
  | k + 1 => if r_full ro col k < ro k + r_b col k then ro k + r_b col k else r_full ro col k
def r_bst (ro bb : Nat → Int32) (c col : Nat) (t : Int32 × Int32 × Int32) : Int32 × Int32 × Int32 :=
  if (¬ r_bc (nI col) = 3 ∧ ¬ r_bc (nI col) = 5) ∨ ¬ bb col = -9 then t
  else if t.1 = 0 ∨ r_bc (nI col) < t.2.1 ∨ (r_bc (nI col) = t.2.1 ∧ r_full ro (nI col) c < t.2.2) then (nI col, r_bc (nI col), r_full ro (nI col) c) else t
def r_bsts (ro bb : Nat → Int32) (c : Nat) : Nat → Int32 × Int32 × Int32
  | 0 => (0, 0, 0)
  | k + 1 => r_bst ro bb c (k + 1) (r_bsts ro bb c k)
theorem r_shl1 : ∀ c, c < 31 → (1 : Int32) <<< (nI c &&& 31) = nI (2 ^ c) := by decide

set_option maxRecDepth 4000 in
theorem ev_X2_fullestRowWith {σ : r_Sg} {c : Nat} {col : Int32} (hc : σ 1 4 = nI c) (hc6 : c ≤ 6) : Ev 1 MX2_fullestRowWith [.ref 1, .int col] σ (some (.int (r_full (σ 3) col c))) σ := by
  refine Ev_w [.ref 1, .int col, .null, .null] ?_ (by decide) rfl (Nat.le_of_ble_eq_true rfl) rfl
  refine g_iconst (v := 0) dX2_fullestRowWith_0 (by decide) ?_
  refine g_istore_n dX2_fullestRowWith_1 (by decide) rfl ?_
  refine g_iconst (v := 0) dX2_fullestRowWith_2 (by decide) ?_
  refine g_istore_n dX2_fullestRowWith_3 (by decide) rfl ?_
  refine r_loop (n := c) (fun k => [.ref 1, .int col, .int (r_full (σ 3) col k), .int (nI k)]) (fun k => σ) (fun k hk ih => ?_) ?_
  · refine g_iload_n dX2_fullestRowWith_4 rfl ?_
    refine g_aload_n dX2_fullestRowWith_5 rfl ?_
    refine g_getI dX2_fullestRowWith_6 fX2_28 rfl rfl ?_
    refine g_t hc ?_
    refine g_icge (tgt := 35) dX2_fullestRowWith_9 (by decide) (fun c9 => absurd c9 (nI_ge hk (by omega))) (fun c9 => ?_)
    refine g_iload_n dX2_fullestRowWith_12 rfl ?_
    refine g_aload_n dX2_fullestRowWith_13 rfl ?_
    refine g_getR dX2_fullestRowWith_14 fX2_15 rfl rfl ?_
    refine g_iload_n dX2_fullestRowWith_17 rfl ?_
    refine g_ial _ dX2_fullestRowWith_18 rfl rfl (by omega) ?_
    refine g_iload_n dX2_fullestRowWith_19 rfl ?_
    refine g_iload_n dX2_fullestRowWith_20 rfl ?_
    refine g_ishr dX2_fullestRowWith_21 ?_
    refine g_iconst (v := 1) dX2_fullestRowWith_22 (by decide) ?_
    refine g_iand dX2_fullestRowWith_23 ?_
    refine g_iadd dX2_fullestRowWith_24 ?_
    refine g_mmax dX2_fullestRowWith_25 vX2_54 (Nat.le_of_ble_eq_true rfl) (by decide) ?_
    refine g_istore_n dX2_fullestRowWith_28 (by decide) rfl ?_
    refine g_iinc (v := nI (k + 1)) dX2_fullestRowWith_29 rfl (nI_1 k) (by decide) rfl ?_
    refine g_goto (tgt := 4) dX2_fullestRowWith_32 (by decide) ?_
    exact ih
  · refine g_iload_n dX2_fullestRowWith_4 rfl ?_
    refine g_aload_n dX2_fullestRowWith_5 rfl ?_
    refine g_getI dX2_fullestRowWith_6 fX2_28 rfl rfl ?_
    refine g_t hc ?_
    refine g_icge (tgt := 35) dX2_fullestRowWith_9 (by decide) (fun c9 => ?_) (fun c9 => absurd (nI_le (Nat.le_refl _) (by omega)) c9)
    refine g_iload_n dX2_fullestRowWith_35 rfl ?_
    exact g_iret dX2_fullestRowWith_36 rfl ⟨rfl, rfl⟩

set_option maxRecDepth 4000 in
theorem ev_X2_bestFreeColumn {σ : r_Sg} {c N : Nat} (hc : σ 1 4 = nI c) (hc6 : c ≤ 6) (hN : 1 <<< (σ 1 4 &&& 31) = nI N) (hN1 : 1 ≤ N) (hN64 : N ≤ 64) : Ev 2 MX2_bestFreeColumn [.ref 1] σ (some (.int (r_bsts (σ 3) (σ 4) c (N - 1)).1)) σ := by
  refine Ev_w [.ref 1, .null, .null, .null, .null, .null, .null] ?_ (by decide) rfl (Nat.le_of_ble_eq_true rfl) rfl
  refine g_iconst (v := 0) dX2_bestFreeColumn_0 (by decide) ?_
  refine g_istore_n dX2_bestFreeColumn_1 (by decide) rfl ?_
  refine g_iconst (v := 0) dX2_bestFreeColumn_2 (by decide) ?_
  refine g_istore_n dX2_bestFreeColumn_3 (by decide) rfl ?_
  refine g_iconst (v := 0) dX2_bestFreeColumn_4 (by decide) ?_
  refine g_istore_n dX2_bestFreeColumn_5 (by decide) rfl ?_
  refine g_iconst (v := 1) dX2_bestFreeColumn_6 (by decide) ?_
  refine g_istore dX2_bestFreeColumn_7 (by decide) rfl ?_
  refine r_loop (n := N - 1) (fun k => [.ref 1, .int (r_bsts (σ 3) (σ 4) c k).1, .int (r_bsts (σ 3) (σ 4) c k).2.1, .int (r_bsts (σ 3) (σ 4) c k).2.2, .int (nI (k + 1)), .null, .null]) (fun k => σ) (fun k hk ih => ?_) ?_
  · refine g_iload dX2_bestFreeColumn_9 rfl ?_
    refine g_iconst (v := 1) dX2_bestFreeColumn_11 (by decide) ?_
    refine g_aload_n dX2_bestFreeColumn_12 rfl ?_
    refine g_getI dX2_bestFreeColumn_13 fX2_28 rfl rfl ?_
    refine g_ishl dX2_bestFreeColumn_16 ?_
    refine g_t hN ?_
    refine g_icge (tgt := 99) dX2_bestFreeColumn_17 (by decide) (fun c17 => absurd c17 (nI_ge (show k + 1 < N by omega) (by omega))) (fun c17 => ?_)
    refine g_iload dX2_bestFreeColumn_20 rfl ?_
    refine g_S1 dX2_bestFreeColumn_22 vX2_45 (Nat.le_of_ble_eq_true rfl) (by decide) (ev_J6_bitCount_0f7a4) ?_
    refine g_istore dX2_bestFreeColumn_25 (by decide) rfl ?_
    refine g_iload dX2_bestFreeColumn_27 rfl ?_
    refine g_iconst (v := 3) dX2_bestFreeColumn_29 (by decide) ?_
    refine g_iceq (tgt := 39) dX2_bestFreeColumn_30 (by decide) (fun c30 => ?_) (fun c30 => ?_)
    · refine g_aload_n dX2_bestFreeColumn_39 rfl ?_
      refine g_getR dX2_bestFreeColumn_40 fX2_18 rfl rfl ?_
      refine g_iload dX2_bestFreeColumn_43 rfl ?_
      refine g_ial (k + 1) dX2_bestFreeColumn_45 rfl rfl (by omega) ?_
      refine g_bipush (v := (-9)) dX2_bestFreeColumn_46 (by decide) ?_
      refine g_iceq (tgt := 54) dX2_bestFreeColumn_48 (by decide) (fun c48 => ?_) (fun c48 => ?_)
      · refine g_aload_n dX2_bestFreeColumn_54 rfl ?_
        refine g_iload dX2_bestFreeColumn_55 rfl ?_
        refine g_V1 dX2_bestFreeColumn_57 vX2_51 rfl (Nat.le_of_ble_eq_true rfl) (by decide) (ev_X2_fullestRowWith hc hc6) ?_
        refine g_istore dX2_bestFreeColumn_60 (by decide) rfl ?_
        refine g_iload_n dX2_bestFreeColumn_62 rfl ?_
        refine g_ifeq (tgt := 84) dX2_bestFreeColumn_63 (by decide) (fun c63 => ?_) (fun c63 => ?_)
        · refine g_iload dX2_bestFreeColumn_84 rfl ?_
          refine g_istore_n dX2_bestFreeColumn_86 (by decide) rfl ?_
          refine g_iload dX2_bestFreeColumn_87 rfl ?_
          refine g_istore_n dX2_bestFreeColumn_89 (by decide) rfl ?_
          refine g_iload dX2_bestFreeColumn_90 rfl ?_
          refine g_istore_n dX2_bestFreeColumn_92 (by decide) rfl ?_
          refine g_iinc (v := nI (k + 1 + 1)) dX2_bestFreeColumn_93 rfl (nI_1 (k + 1)) (by decide) rfl ?_
          refine g_goto (tgt := 9) dX2_bestFreeColumn_96 (by decide) ?_
          have e : r_bsts (σ 3) (σ 4) c (k + 1) = ((nI (k + 1)), (r_bc (nI (k + 1))), (r_full (σ 3) (nI (k + 1)) c)) := by have q := @Int32.not_lt (r_full (σ 3) (nI (k + 1)) c) (r_bsts (σ 3) (σ 4) c k).2.2; simp only [r_bsts, r_bst]; grind
          refine g_w [.ref 1, .int (nI (k + 1)), .int (r_bc (nI (k + 1))), .int (r_full (σ 3) (nI (k + 1)) c), .int (nI (k + 1 + 1)), .null, .null] (And.intro (Or.inr rfl) (And.intro (Or.inr rfl) (And.intro (Or.inr rfl) (And.intro (Or.inr rfl) (And.intro (Or.inr rfl) (And.intro (Or.inl rfl) (And.intro (Or.inl rfl) (True.intro)))))))) ?_
          exact g_l (by rw [e]) ih
        · refine g_iload dX2_bestFreeColumn_66 rfl ?_
          refine g_iload_n dX2_bestFreeColumn_68 rfl ?_
          refine g_iclt (tgt := 84) dX2_bestFreeColumn_69 (by decide) (fun c69 => ?_) (fun c69 => ?_)
          · refine g_iload dX2_bestFreeColumn_84 rfl ?_
            refine g_istore_n dX2_bestFreeColumn_86 (by decide) rfl ?_
            refine g_iload dX2_bestFreeColumn_87 rfl ?_
            refine g_istore_n dX2_bestFreeColumn_89 (by decide) rfl ?_
            refine g_iload dX2_bestFreeColumn_90 rfl ?_
            refine g_istore_n dX2_bestFreeColumn_92 (by decide) rfl ?_
            refine g_iinc (v := nI (k + 1 + 1)) dX2_bestFreeColumn_93 rfl (nI_1 (k + 1)) (by decide) rfl ?_
            refine g_goto (tgt := 9) dX2_bestFreeColumn_96 (by decide) ?_
            have e : r_bsts (σ 3) (σ 4) c (k + 1) = ((nI (k + 1)), (r_bc (nI (k + 1))), (r_full (σ 3) (nI (k + 1)) c)) := by have q := @Int32.not_lt (r_full (σ 3) (nI (k + 1)) c) (r_bsts (σ 3) (σ 4) c k).2.2; simp only [r_bsts, r_bst]; grind
            refine g_w [.ref 1, .int (nI (k + 1)), .int (r_bc (nI (k + 1))), .int (r_full (σ 3) (nI (k + 1)) c), .int (nI (k + 1 + 1)), .null, .null] (And.intro (Or.inr rfl) (And.intro (Or.inr rfl) (And.intro (Or.inr rfl) (And.intro (Or.inr rfl) (And.intro (Or.inr rfl) (And.intro (Or.inl rfl) (And.intro (Or.inl rfl) (True.intro)))))))) ?_
            exact g_l (by rw [e]) ih
          · refine g_iload dX2_bestFreeColumn_72 rfl ?_
            refine g_iload_n dX2_bestFreeColumn_74 rfl ?_
            refine g_icne (tgt := 93) dX2_bestFreeColumn_75 (by decide) (fun c75 => ?_) (fun c75 => ?_)
            · refine g_iinc (v := nI (k + 1 + 1)) dX2_bestFreeColumn_93 rfl (nI_1 (k + 1)) (by decide) rfl ?_
              refine g_goto (tgt := 9) dX2_bestFreeColumn_96 (by decide) ?_
              have e : r_bsts (σ 3) (σ 4) c (k + 1) = r_bsts (σ 3) (σ 4) c k := by have q := @Int32.not_lt (r_full (σ 3) (nI (k + 1)) c) (r_bsts (σ 3) (σ 4) c k).2.2; simp only [r_bsts, r_bst]; grind
              refine g_w [.ref 1, .int (r_bsts (σ 3) (σ 4) c k).1, .int (r_bsts (σ 3) (σ 4) c k).2.1, .int (r_bsts (σ 3) (σ 4) c k).2.2, .int (nI (k + 1 + 1)), .null, .null] (And.intro (Or.inr rfl) (And.intro (Or.inr rfl) (And.intro (Or.inr rfl) (And.intro (Or.inr rfl) (And.intro (Or.inr rfl) (And.intro (Or.inl rfl) (And.intro (Or.inl rfl) (True.intro)))))))) ?_
              exact g_l (by rw [e]) ih
            · refine g_iload dX2_bestFreeColumn_78 rfl ?_
              refine g_iload_n dX2_bestFreeColumn_80 rfl ?_
              refine g_icge (tgt := 93) dX2_bestFreeColumn_81 (by decide) (fun c81 => ?_) (fun c81 => ?_)
              · refine g_iinc (v := nI (k + 1 + 1)) dX2_bestFreeColumn_93 rfl (nI_1 (k + 1)) (by decide) rfl ?_
                refine g_goto (tgt := 9) dX2_bestFreeColumn_96 (by decide) ?_
                have e : r_bsts (σ 3) (σ 4) c (k + 1) = r_bsts (σ 3) (σ 4) c k := by have q := @Int32.not_lt (r_full (σ 3) (nI (k + 1)) c) (r_bsts (σ 3) (σ 4) c k).2.2; simp only [r_bsts, r_bst]; grind
                refine g_w [.ref 1, .int (r_bsts (σ 3) (σ 4) c k).1, .int (r_bsts (σ 3) (σ 4) c k).2.1, .int (r_bsts (σ 3) (σ 4) c k).2.2, .int (nI (k + 1 + 1)), .null, .null] (And.intro (Or.inr rfl) (And.intro (Or.inr rfl) (And.intro (Or.inr rfl) (And.intro (Or.inr rfl) (And.intro (Or.inr rfl) (And.intro (Or.inl rfl) (And.intro (Or.inl rfl) (True.intro)))))))) ?_
                exact g_l (by rw [e]) ih
              · refine g_iload dX2_bestFreeColumn_84 rfl ?_
                refine g_istore_n dX2_bestFreeColumn_86 (by decide) rfl ?_
                refine g_iload dX2_bestFreeColumn_87 rfl ?_
                refine g_istore_n dX2_bestFreeColumn_89 (by decide) rfl ?_
                refine g_iload dX2_bestFreeColumn_90 rfl ?_
                refine g_istore_n dX2_bestFreeColumn_92 (by decide) rfl ?_
                refine g_iinc (v := nI (k + 1 + 1)) dX2_bestFreeColumn_93 rfl (nI_1 (k + 1)) (by decide) rfl ?_
                refine g_goto (tgt := 9) dX2_bestFreeColumn_96 (by decide) ?_
                have e : r_bsts (σ 3) (σ 4) c (k + 1) = ((nI (k + 1)), (r_bc (nI (k + 1))), (r_full (σ 3) (nI (k + 1)) c)) := by have q := @Int32.not_lt (r_full (σ 3) (nI (k + 1)) c) (r_bsts (σ 3) (σ 4) c k).2.2; simp only [r_bsts, r_bst]; grind
                refine g_w [.ref 1, .int (nI (k + 1)), .int (r_bc (nI (k + 1))), .int (r_full (σ 3) (nI (k + 1)) c), .int (nI (k + 1 + 1)), .null, .null] (And.intro (Or.inr rfl) (And.intro (Or.inr rfl) (And.intro (Or.inr rfl) (And.intro (Or.inr rfl) (And.intro (Or.inr rfl) (And.intro (Or.inl rfl) (And.intro (Or.inl rfl) (True.intro)))))))) ?_
                exact g_l (by rw [e]) ih
      · refine g_goto (tgt := 93) dX2_bestFreeColumn_51 (by decide) ?_
        refine g_iinc (v := nI (k + 1 + 1)) dX2_bestFreeColumn_93 rfl (nI_1 (k + 1)) (by decide) rfl ?_
        refine g_goto (tgt := 9) dX2_bestFreeColumn_96 (by decide) ?_
        have e : r_bsts (σ 3) (σ 4) c (k + 1) = r_bsts (σ 3) (σ 4) c k := by have q := @Int32.not_lt (r_full (σ 3) (nI (k + 1)) c) (r_bsts (σ 3) (σ 4) c k).2.2; simp only [r_bsts, r_bst]; grind
        refine g_w [.ref 1, .int (r_bsts (σ 3) (σ 4) c k).1, .int (r_bsts (σ 3) (σ 4) c k).2.1, .int (r_bsts (σ 3) (σ 4) c k).2.2, .int (nI (k + 1 + 1)), .null, .null] (And.intro (Or.inr rfl) (And.intro (Or.inr rfl) (And.intro (Or.inr rfl) (And.intro (Or.inr rfl) (And.intro (Or.inr rfl) (And.intro (Or.inl rfl) (And.intro (Or.inl rfl) (True.intro)))))))) ?_
        exact g_l (by rw [e]) ih
    · refine g_iload dX2_bestFreeColumn_33 rfl ?_
      refine g_iconst (v := 5) dX2_bestFreeColumn_35 (by decide) ?_
      refine g_icne (tgt := 93) dX2_bestFreeColumn_36 (by decide) (fun c36 => ?_) (fun c36 => ?_)
      · refine g_iinc (v := nI (k + 1 + 1)) dX2_bestFreeColumn_93 rfl (nI_1 (k + 1)) (by decide) rfl ?_
        refine g_goto (tgt := 9) dX2_bestFreeColumn_96 (by decide) ?_
        have e : r_bsts (σ 3) (σ 4) c (k + 1) = r_bsts (σ 3) (σ 4) c k := by have q := @Int32.not_lt (r_full (σ 3) (nI (k + 1)) c) (r_bsts (σ 3) (σ 4) c k).2.2; simp only [r_bsts, r_bst]; grind
        refine g_w [.ref 1, .int (r_bsts (σ 3) (σ 4) c k).1, .int (r_bsts (σ 3) (σ 4) c k).2.1, .int (r_bsts (σ 3) (σ 4) c k).2.2, .int (nI (k + 1 + 1)), .null, .null] (And.intro (Or.inr rfl) (And.intro (Or.inr rfl) (And.intro (Or.inr rfl) (And.intro (Or.inr rfl) (And.intro (Or.inr rfl) (And.intro (Or.inl rfl) (And.intro (Or.inl rfl) (True.intro)))))))) ?_
        exact g_l (by rw [e]) ih
      · refine g_aload_n dX2_bestFreeColumn_39 rfl ?_
        refine g_getR dX2_bestFreeColumn_40 fX2_18 rfl rfl ?_
        refine g_iload dX2_bestFreeColumn_43 rfl ?_
        refine g_ial (k + 1) dX2_bestFreeColumn_45 rfl rfl (by omega) ?_
        refine g_bipush (v := (-9)) dX2_bestFreeColumn_46 (by decide) ?_
        refine g_iceq (tgt := 54) dX2_bestFreeColumn_48 (by decide) (fun c48 => ?_) (fun c48 => ?_)
        · refine g_aload_n dX2_bestFreeColumn_54 rfl ?_
          refine g_iload dX2_bestFreeColumn_55 rfl ?_
          refine g_V1 dX2_bestFreeColumn_57 vX2_51 rfl (Nat.le_of_ble_eq_true rfl) (by decide) (ev_X2_fullestRowWith hc hc6) ?_
          refine g_istore dX2_bestFreeColumn_60 (by decide) rfl ?_
          refine g_iload_n dX2_bestFreeColumn_62 rfl ?_
          refine g_ifeq (tgt := 84) dX2_bestFreeColumn_63 (by decide) (fun c63 => ?_) (fun c63 => ?_)
          · refine g_iload dX2_bestFreeColumn_84 rfl ?_
            refine g_istore_n dX2_bestFreeColumn_86 (by decide) rfl ?_
            refine g_iload dX2_bestFreeColumn_87 rfl ?_
            refine g_istore_n dX2_bestFreeColumn_89 (by decide) rfl ?_
            refine g_iload dX2_bestFreeColumn_90 rfl ?_
            refine g_istore_n dX2_bestFreeColumn_92 (by decide) rfl ?_
            refine g_iinc (v := nI (k + 1 + 1)) dX2_bestFreeColumn_93 rfl (nI_1 (k + 1)) (by decide) rfl ?_
            refine g_goto (tgt := 9) dX2_bestFreeColumn_96 (by decide) ?_
            have e : r_bsts (σ 3) (σ 4) c (k + 1) = ((nI (k + 1)), (r_bc (nI (k + 1))), (r_full (σ 3) (nI (k + 1)) c)) := by have q := @Int32.not_lt (r_full (σ 3) (nI (k + 1)) c) (r_bsts (σ 3) (σ 4) c k).2.2; simp only [r_bsts, r_bst]; grind
            refine g_w [.ref 1, .int (nI (k + 1)), .int (r_bc (nI (k + 1))), .int (r_full (σ 3) (nI (k + 1)) c), .int (nI (k + 1 + 1)), .null, .null] (And.intro (Or.inr rfl) (And.intro (Or.inr rfl) (And.intro (Or.inr rfl) (And.intro (Or.inr rfl) (And.intro (Or.inr rfl) (And.intro (Or.inl rfl) (And.intro (Or.inl rfl) (True.intro)))))))) ?_
            exact g_l (by rw [e]) ih
          · refine g_iload dX2_bestFreeColumn_66 rfl ?_
            refine g_iload_n dX2_bestFreeColumn_68 rfl ?_
            refine g_iclt (tgt := 84) dX2_bestFreeColumn_69 (by decide) (fun c69 => ?_) (fun c69 => ?_)
            · refine g_iload dX2_bestFreeColumn_84 rfl ?_
              refine g_istore_n dX2_bestFreeColumn_86 (by decide) rfl ?_
              refine g_iload dX2_bestFreeColumn_87 rfl ?_
              refine g_istore_n dX2_bestFreeColumn_89 (by decide) rfl ?_
              refine g_iload dX2_bestFreeColumn_90 rfl ?_
              refine g_istore_n dX2_bestFreeColumn_92 (by decide) rfl ?_
              refine g_iinc (v := nI (k + 1 + 1)) dX2_bestFreeColumn_93 rfl (nI_1 (k + 1)) (by decide) rfl ?_
              refine g_goto (tgt := 9) dX2_bestFreeColumn_96 (by decide) ?_
              have e : r_bsts (σ 3) (σ 4) c (k + 1) = ((nI (k + 1)), (r_bc (nI (k + 1))), (r_full (σ 3) (nI (k + 1)) c)) := by have q := @Int32.not_lt (r_full (σ 3) (nI (k + 1)) c) (r_bsts (σ 3) (σ 4) c k).2.2; simp only [r_bsts, r_bst]; grind
              refine g_w [.ref 1, .int (nI (k + 1)), .int (r_bc (nI (k + 1))), .int (r_full (σ 3) (nI (k + 1)) c), .int (nI (k + 1 + 1)), .null, .null] (And.intro (Or.inr rfl) (And.intro (Or.inr rfl) (And.intro (Or.inr rfl) (And.intro (Or.inr rfl) (And.intro (Or.inr rfl) (And.intro (Or.inl rfl) (And.intro (Or.inl rfl) (True.intro)))))))) ?_
              exact g_l (by rw [e]) ih
            · refine g_iload dX2_bestFreeColumn_72 rfl ?_
              refine g_iload_n dX2_bestFreeColumn_74 rfl ?_
              refine g_icne (tgt := 93) dX2_bestFreeColumn_75 (by decide) (fun c75 => ?_) (fun c75 => ?_)
              · refine g_iinc (v := nI (k + 1 + 1)) dX2_bestFreeColumn_93 rfl (nI_1 (k + 1)) (by decide) rfl ?_
                refine g_goto (tgt := 9) dX2_bestFreeColumn_96 (by decide) ?_
                have e : r_bsts (σ 3) (σ 4) c (k + 1) = r_bsts (σ 3) (σ 4) c k := by have q := @Int32.not_lt (r_full (σ 3) (nI (k + 1)) c) (r_bsts (σ 3) (σ 4) c k).2.2; simp only [r_bsts, r_bst]; grind
                refine g_w [.ref 1, .int (r_bsts (σ 3) (σ 4) c k).1, .int (r_bsts (σ 3) (σ 4) c k).2.1, .int (r_bsts (σ 3) (σ 4) c k).2.2, .int (nI (k + 1 + 1)), .null, .null] (And.intro (Or.inr rfl) (And.intro (Or.inr rfl) (And.intro (Or.inr rfl) (And.intro (Or.inr rfl) (And.intro (Or.inr rfl) (And.intro (Or.inl rfl) (And.intro (Or.inl rfl) (True.intro)))))))) ?_
                exact g_l (by rw [e]) ih
              · refine g_iload dX2_bestFreeColumn_78 rfl ?_
                refine g_iload_n dX2_bestFreeColumn_80 rfl ?_
                refine g_icge (tgt := 93) dX2_bestFreeColumn_81 (by decide) (fun c81 => ?_) (fun c81 => ?_)
                · refine g_iinc (v := nI (k + 1 + 1)) dX2_bestFreeColumn_93 rfl (nI_1 (k + 1)) (by decide) rfl ?_
                  refine g_goto (tgt := 9) dX2_bestFreeColumn_96 (by decide) ?_
                  have e : r_bsts (σ 3) (σ 4) c (k + 1) = r_bsts (σ 3) (σ 4) c k := by have q := @Int32.not_lt (r_full (σ 3) (nI (k + 1)) c) (r_bsts (σ 3) (σ 4) c k).2.2; simp only [r_bsts, r_bst]; grind
                  refine g_w [.ref 1, .int (r_bsts (σ 3) (σ 4) c k).1, .int (r_bsts (σ 3) (σ 4) c k).2.1, .int (r_bsts (σ 3) (σ 4) c k).2.2, .int (nI (k + 1 + 1)), .null, .null] (And.intro (Or.inr rfl) (And.intro (Or.inr rfl) (And.intro (Or.inr rfl) (And.intro (Or.inr rfl) (And.intro (Or.inr rfl) (And.intro (Or.inl rfl) (And.intro (Or.inl rfl) (True.intro)))))))) ?_
                  exact g_l (by rw [e]) ih
                · refine g_iload dX2_bestFreeColumn_84 rfl ?_
                  refine g_istore_n dX2_bestFreeColumn_86 (by decide) rfl ?_
                  refine g_iload dX2_bestFreeColumn_87 rfl ?_
                  refine g_istore_n dX2_bestFreeColumn_89 (by decide) rfl ?_
                  refine g_iload dX2_bestFreeColumn_90 rfl ?_
                  refine g_istore_n dX2_bestFreeColumn_92 (by decide) rfl ?_
                  refine g_iinc (v := nI (k + 1 + 1)) dX2_bestFreeColumn_93 rfl (nI_1 (k + 1)) (by decide) rfl ?_
                  refine g_goto (tgt := 9) dX2_bestFreeColumn_96 (by decide) ?_
                  have e : r_bsts (σ 3) (σ 4) c (k + 1) = ((nI (k + 1)), (r_bc (nI (k + 1))), (r_full (σ 3) (nI (k + 1)) c)) := by have q := @Int32.not_lt (r_full (σ 3) (nI (k + 1)) c) (r_bsts (σ 3) (σ 4) c k).2.2; simp only [r_bsts, r_bst]; grind
                  refine g_w [.ref 1, .int (nI (k + 1)), .int (r_bc (nI (k + 1))), .int (r_full (σ 3) (nI (k + 1)) c), .int (nI (k + 1 + 1)), .null, .null] (And.intro (Or.inr rfl) (And.intro (Or.inr rfl) (And.intro (Or.inr rfl) (And.intro (Or.inr rfl) (And.intro (Or.inr rfl) (And.intro (Or.inl rfl) (And.intro (Or.inl rfl) (True.intro)))))))) ?_
                  exact g_l (by rw [e]) ih
        · refine g_goto (tgt := 93) dX2_bestFreeColumn_51 (by decide) ?_
          refine g_iinc (v := nI (k + 1 + 1)) dX2_bestFreeColumn_93 rfl (nI_1 (k + 1)) (by decide) rfl ?_
          refine g_goto (tgt := 9) dX2_bestFreeColumn_96 (by decide) ?_
          have e : r_bsts (σ 3) (σ 4) c (k + 1) = r_bsts (σ 3) (σ 4) c k := by have q := @Int32.not_lt (r_full (σ 3) (nI (k + 1)) c) (r_bsts (σ 3) (σ 4) c k).2.2; simp only [r_bsts, r_bst]; grind
          refine g_w [.ref 1, .int (r_bsts (σ 3) (σ 4) c k).1, .int (r_bsts (σ 3) (σ 4) c k).2.1, .int (r_bsts (σ 3) (σ 4) c k).2.2, .int (nI (k + 1 + 1)), .null, .null] (And.intro (Or.inr rfl) (And.intro (Or.inr rfl) (And.intro (Or.inr rfl) (And.intro (Or.inr rfl) (And.intro (Or.inr rfl) (And.intro (Or.inl rfl) (And.intro (Or.inl rfl) (True.intro)))))))) ?_
          exact g_l (by rw [e]) ih
  · refine g_iload dX2_bestFreeColumn_9 rfl ?_
    refine g_iconst (v := 1) dX2_bestFreeColumn_11 (by decide) ?_
    refine g_aload_n dX2_bestFreeColumn_12 rfl ?_
    refine g_getI dX2_bestFreeColumn_13 fX2_28 rfl rfl ?_
    refine g_ishl dX2_bestFreeColumn_16 ?_
    refine g_t hN ?_
    refine g_icge (tgt := 99) dX2_bestFreeColumn_17 (by decide) (fun c17 => ?_) (fun c17 => absurd (nI_le (show N ≤ N - 1 + 1 by omega) (by omega)) c17)
    refine g_iload_n dX2_bestFreeColumn_99 rfl ?_
    exact g_iret dX2_bestFreeColumn_100 rfl ⟨rfl, rfl⟩

set_option maxRecDepth 4000 in
theorem ev_X2_give {σ : r_Sg} {b x : Nat} (hb : b < 20) (hx : x < 64) : Ev 0 MX2_give [.ref 1, .int (nI b), .int (nI x)] σ none (r_up (r_up σ 2 b (nI x)) 4 x (nI b)) := by
  refine Ev_w [.ref 1, .int (nI b), .int (nI x)] ?_ (by decide) rfl (Nat.le_of_ble_eq_true rfl) rfl
  refine g_aload_n dX2_give_0 rfl ?_
  refine g_getR dX2_give_1 fX2_11 rfl rfl ?_
  refine g_iload_n dX2_give_4 rfl ?_
  refine g_iload_n dX2_give_5 rfl ?_
  refine g_ias _ dX2_give_6 rfl rfl (by omega) ?_
  refine g_aload_n dX2_give_7 rfl ?_
  refine g_getR dX2_give_8 fX2_18 rfl rfl ?_
  refine g_iload_n dX2_give_11 rfl ?_
  refine g_iload_n dX2_give_12 rfl ?_
  refine g_ias _ dX2_give_13 rfl rfl (by omega) ?_
  exact g_ret dX2_give_14 rfl ⟨rfl, rfl⟩

def r_T (c b : Nat) : Nat := if c = 4 then ([7, 11, 13, 14] : List Nat).getD b 0 else if c = 5 then ([7, 11, 28, 13, 14, 19, 21, 26, 22, 25, 31] : List Nat).getD b 0 else ([7, 56, 11, 52, 13, 50, 14, 49, 19, 44, 21, 42, 22, 41] : List Nat).getD b 0
def r_RO (c : Nat) : Nat → Nat → Nat
  | 0, _ => 0
  | b + 1, i => r_RO c b i + r_T c b / 2 ^ i % 2
def r_BB (c : Nat) : Nat → Nat → Int32
  | 0, _ => -9
  | b + 1, x => if x = r_T c b then nI b else r_BB c b x
def r_CO (c d j : Nat) : Nat := if j < d then r_T c j else 2 ^ (j - d)
def r_BF (c d : Nat) : Nat → Nat → Int32
  | 0, x => r_BB c d x
  | k + 1, x => if x = 2 ^ k then nI (d + k) else r_BF c d k x
/-- the codes that there are -/
def r_ok (d c : Nat) : Prop := 1 ≤ d ∧ ((c = 4 ∧ d ≤ 4) ∨ (c = 5 ∧ d ≤ 11) ∨ (c = 6 ∧ d ≤ 14))
theorem r_best4 : ∀ b, b < 4 → (r_bsts (fun i => nI (r_RO 4 b i)) (r_BB 4 b) 4 15).1 = nI (r_T 4 b) := by decide +kernel
theorem r_best5 : ∀ b, b < 11 → (r_bsts (fun i => nI (r_RO 5 b i)) (r_BB 5 b) 5 31).1 = nI (r_T 5 b) := by decide +kernel
theorem r_best6 : ∀ b, b < 14 → (r_bsts (fun i => nI (r_RO 6 b i)) (r_BB 6 b) 6 63).1 = nI (r_T 6 b) := by decide +kernel
theorem r_best {d c b : Nat} (h : r_ok d c) (hb : b < d) : (r_bsts (fun i => nI (r_RO c b i)) (r_BB c b) c (2 ^ c - 1)).1 = nI (r_T c b) := by
  obtain ⟨h1, ⟨rfl, h2⟩ | ⟨rfl, h2⟩ | ⟨rfl, h2⟩⟩ := h
  · exact r_best4 b (by omega)
  · exact r_best5 b (by omega)
  · exact r_best6 b (by omega)
theorem r_T4 : ∀ b, b < 4 → r_T 4 b < 2 ^ 4 ∧ 0 < r_T 4 b := by decide
theorem r_T5 : ∀ b, b < 11 → r_T 5 b < 2 ^ 5 ∧ 0 < r_T 5 b := by decide
theorem r_T6 : ∀ b, b < 14 → r_T 6 b < 2 ^ 6 ∧ 0 < r_T 6 b := by decide
theorem r_Tlt {d c b : Nat} (h : r_ok d c) (hb : b < d) : r_T c b < 2 ^ c ∧ 0 < r_T c b := by
  obtain ⟨h1, ⟨rfl, h2⟩ | ⟨rfl, h2⟩ | ⟨rfl, h2⟩⟩ := h
  · exact r_T4 b (by omega)
  · exact r_T5 b (by omega)
  · exact r_T6 b (by omega)
theorem r_ok_c {d c : Nat} (h : r_ok d c) : 4 ≤ c ∧ c ≤ 6 ∧ d ≤ 14 ∧ 1 ≤ d ∧ d + c ≤ 20 ∧ 2 ^ c ≤ 64 ∧ 16 ≤ 2 ^ c := by
  obtain ⟨h1, ⟨rfl, h2⟩ | ⟨rfl, h2⟩ | ⟨rfl, h2⟩⟩ := h <;> refine ⟨?_, ?_, ?_, ?_, ?_, ?_, ?_⟩ <;> omega
theorem r_full_congr {ro ro' : Nat → Int32} {col : Int32} : ∀ {k : Nat}, (∀ i, i < k → ro i = ro' i) → r_full ro col k = r_full ro' col k
  | 0, _ => rfl
  | k + 1, h => by
    have h1 := r_full_congr (col := col) (k := k) (fun i hi => h i (by omega))
    simp only [r_full, h1, h k (by omega)]
theorem r_bsts_congr {ro ro' bb bb' : Nat → Int32} {c : Nat} (hr : ∀ i, i < c → ro i = ro' i) : ∀ {k : Nat}, (∀ x, x < k + 1 → bb x = bb' x) → r_bsts ro bb c k = r_bsts ro' bb' c k
  | 0, _ => rfl
  | k + 1, h => by
    have h1 := r_bsts_congr hr (k := k) (bb := bb) (bb' := bb') (fun x hx => h x (by omega))
    simp only [r_bsts, r_bst, h1, h (k + 1) (by omega), r_full_congr hr]
theorem r_smod : ∀ n, n < 32 → ((nI n &&& 31).toBitVec.smod 32).toNat = n := by decide
theorem r_b_nI {n i : Nat} (h : n < 2 ^ 31) (hi : i < 32) : r_b (nI n) i = nI (n / 2 ^ i % 2) := by
  unfold r_b
  rw [pk_shrN h _ i (r_smod i hi), pk_andN (k := 1) (by have : n / 2 ^ i ≤ n := Nat.div_le_self _ _; omega) rfl]
def r_cs (σ : r_Sg) (c b : Nat) : r_Sg := fun q i => if q = 2 then (if i < b then nI (r_T c i) else σ 2 i) else if q = 3 then (if i < 6 then nI (r_RO c b i) else σ 3 i) else if q = 4 then (if i < 64 then r_BB c b i else σ 4 i) else σ q i
def r_rw (σ : r_Sg) (col : Int32) (k : Nat) : r_Sg := fun q i => if q = 3 then (if i < k then σ 3 i + r_b col i else σ 3 i) else σ q i
def r_cf (σ : r_Sg) (c d k : Nat) : r_Sg := fun q i => if q = 2 then (if i < d + k then nI (r_CO c d i) else σ 2 i) else if q = 3 then (if i < 6 then nI (r_RO c d i) else σ 3 i) else if q = 4 then (if i < 64 then r_BF c d k i else σ 4 i) else σ q i
theorem r_E0 (σ : r_Sg) (c : Nat) : r_fill (r_fill σ 3 6 0) 4 64 (-9) = r_cs σ c 0 := by
  funext q i
  by_cases h2 : q = 2
  · subst h2; simp [r_fill, r_cs]
  · by_cases h3 : q = 3
    · subst h3; simp [r_fill, r_cs, r_RO]; rfl
    · by_cases h4 : q = 4
      · subst h4; simp [r_fill, r_cs, r_BB]
      · simp [r_fill, r_cs, h2, h3, h4]
theorem r_E1a (σ : r_Sg) (col : Int32) (j : Nat) : r_up (r_rw σ col j) 3 j (σ 3 j + r_b col j) = r_rw σ col (j + 1) := by
  funext q i
  by_cases h3 : q = 3
  · subst h3
    by_cases hi : i = j
    · subst hi; simp [r_up, upd, r_rw]
    · have : i < j + 1 ↔ i < j := by omega
      simp [r_up, upd, r_rw, hi, this]
  · simp [r_up, r_rw, h3]
theorem r_E1 (σ : r_Sg) {d c k : Nat} (h : r_ok d c) (hk : k < d) : r_rw (r_up (r_up (r_cs σ c k) 2 k (nI (r_T c k))) 4 (r_T c k) (nI k)) (nI (r_T c k)) c = r_cs σ c (k + 1) := by
  have hT := r_Tlt h hk
  have hc := r_ok_c h
  funext q i
  by_cases h2 : q = 2
  · subst h2
    by_cases hi : i = k
    · subst hi; simp [r_rw, r_up, upd, r_cs]
    · have : i < k + 1 ↔ i < k := by omega
      simp [r_rw, r_up, upd, r_cs, hi, this]
  · by_cases h3 : q = 3
    · subst h3
      simp only [r_rw, r_up]
      by_cases hi : i < c
      · have h6 : i < 6 := by omega
        simp [r_cs, r_RO, hi, h6, r_b_nI (show r_T c k < 2 ^ 31 by omega) (show i < 32 by omega), nI_add]
      · by_cases h6 : i < 6
        · have hle : 2 ^ c ≤ 2 ^ i := Nat.pow_le_pow_right (by omega) (by omega)
          have h0 : r_T c k / 2 ^ i = 0 := Nat.div_eq_of_lt (by omega)
          simp [r_cs, r_RO, hi, h6, h0]
        · simp [r_cs, hi, h6]
    · by_cases h4 : q = 4
      · subst h4
        by_cases hi : i = r_T c k
        · have h9 : r_T c k < 64 := by omega
          rw [hi]
          simp [r_rw, r_up, upd, r_cs, r_BB, h9]
        · simp [r_rw, r_up, upd, r_cs, r_BB, hi]
      · simp [r_rw, r_up, r_cs, h2, h3, h4]
theorem r_E2 (σ : r_Sg) (c d : Nat) : r_cs σ c d = r_cf σ c d 0 := by
  funext q i
  by_cases h2 : q = 2
  · subst h2
    by_cases hi : i < d <;> simp [r_cs, r_cf, r_CO, hi]
  · simp [r_cs, r_cf, h2, r_BF]
theorem r_E3 (σ : r_Sg) (c d : Nat) {k : Nat} (hk : 2 ^ k < 64) : r_up (r_up (r_cf σ c d k) 2 (d + k) (nI (2 ^ k))) 4 (2 ^ k) (nI (d + k)) = r_cf σ c d (k + 1) := by
  funext q i
  by_cases h2 : q = 2
  · subst h2
    by_cases hi : i = d + k
    · subst hi; have h9 : ¬ d + k < d := (by omega); simp [r_up, upd, r_cf, r_CO, h9]
    · have : i < d + (k + 1) ↔ i < d + k := by omega
      simp [r_up, upd, r_cf, hi, this]
  · by_cases h3 : q = 3
    · subst h3; simp [r_up, r_cf]
    · by_cases h4 : q = 4
      · subst h4
        by_cases hi : i = 2 ^ k
        · rw [hi]; simp [r_up, upd, r_cf, r_BF, hk]
        · simp [r_up, upd, r_cf, r_BF, hi]
      · simp [r_up, r_cf, h2, h3, h4]

set_option maxRecDepth 4000 in
theorem ev_X2_choose {σ : r_Sg} {d c : Nat} (hok : r_ok d c) : Ev 3 MX2_choose [.ref 1, .int (nI d), .int (nI c)] σ none (r_cf (r_up (r_up σ 1 3 (nI d)) 1 4 (nI c)) c d c) := by
  have hc := r_ok_c hok
  refine Ev_w [.ref 1, .int (nI d), .int (nI c), .null, .null, .null] ?_ (by decide) rfl (Nat.le_of_ble_eq_true rfl) rfl
  refine g_aload_n dX2_choose_0 rfl ?_
  refine g_iload_n dX2_choose_1 rfl ?_
  refine g_putI dX2_choose_2 pX2_24 rfl rfl ?_
  refine g_aload_n dX2_choose_5 rfl ?_
  refine g_iload_n dX2_choose_6 rfl ?_
  refine g_putI dX2_choose_7 pX2_28 rfl rfl ?_
  refine g_aload_n dX2_choose_10 rfl ?_
  refine g_getR dX2_choose_11 fX2_15 rfl rfl ?_
  refine g_iconst (v := 0) dX2_choose_14 (by decide) ?_
  refine g_S2v dX2_choose_15 vX2_31 (Nat.le_of_ble_eq_true rfl) (by decide) (ev_J7_fill_53178 (n := 6) rfl) ?_
  refine g_aload_n dX2_choose_18 rfl ?_
  refine g_getR dX2_choose_19 fX2_18 rfl rfl ?_
  refine g_bipush (v := (-9)) dX2_choose_22 (by decide) ?_
  refine g_S2v dX2_choose_24 vX2_31 (Nat.le_of_ble_eq_true rfl) (by decide) (ev_J7_fill_53178 (n := 64) rfl) ?_
  refine g_iconst (v := 0) dX2_choose_27 (by decide) ?_
  refine g_istore_n dX2_choose_28 (by decide) rfl ?_
  refine g_g (r_E0 _ c) ?_
  refine r_loop (n := d) (fun k => [.ref 1, .int (nI d), .int (nI c), .int (nI k), .null, .null]) (fun k => r_cs (r_up (r_up σ 1 3 (nI d)) 1 4 (nI c)) c k) (fun k hk ih => ?_) ?_
  · refine g_iload_n dX2_choose_29 rfl ?_
    refine g_iload_n dX2_choose_30 rfl ?_
    refine g_icge (tgt := 85) dX2_choose_31 (by decide) (fun c31 => absurd c31 (nI_ge hk (by omega))) (fun c31 => ?_)
    refine g_aload_n dX2_choose_34 rfl ?_
    have hT := r_Tlt hok hk
    refine g_V0 dX2_choose_35 vX2_37 rfl (Nat.le_of_ble_eq_true rfl) (by decide) (Ev_r (ev_X2_bestFreeColumn (σ := r_cs (r_up (r_up σ 1 3 (nI d)) 1 4 (nI c)) c k) (c := c) (N := 2 ^ c) (by simp [r_cs, r_up, upd]) (by omega) (by simp only [r_cs, r_up, upd]; simp; exact r_shl1 c (by omega)) (by omega) (by omega)) (by rw [r_bsts_congr (ro' := fun i => nI (r_RO c k i)) (bb' := r_BB c k) (by intro i hi; have h6 : i < 6 := (by omega); simp [r_cs, h6]) (by intro x hx; have h6 : x < 64 := (by omega); simp [r_cs, h6]), r_best hok hk])) ?_
    refine g_istore dX2_choose_38 (by decide) rfl ?_
    refine g_aload_n dX2_choose_40 rfl ?_
    refine g_iload_n dX2_choose_41 rfl ?_
    refine g_iload dX2_choose_42 rfl ?_
    refine g_V2v dX2_choose_44 vX2_41 rfl (Nat.le_of_ble_eq_true rfl) (by decide) (ev_X2_give (by omega) (by omega)) ?_
    refine g_iconst (v := 0) dX2_choose_47 (by decide) ?_
    refine g_istore dX2_choose_48 (by decide) rfl ?_
    refine g_g (σ' := r_rw (r_up (r_up (r_cs (r_up (r_up σ 1 3 (nI d)) 1 4 (nI c)) c k) 2 k (nI (r_T c k))) 4 (r_T c k) (nI k)) (nI (r_T c k)) 0) (by funext q i; by_cases h3 : q = 3 <;> simp [r_rw, h3]) ?_
    refine r_loop (n := c) (fun j => [.ref 1, .int (nI d), .int (nI c), .int (nI k), .int (nI (r_T c k)), .int (nI j)]) (fun j => r_rw (r_up (r_up (r_cs (r_up (r_up σ 1 3 (nI d)) 1 4 (nI c)) c k) 2 k (nI (r_T c k))) 4 (r_T c k) (nI k)) (nI (r_T c k)) j) (fun j hj ih => ?_) ?_
    · refine g_iload dX2_choose_50 rfl ?_
      refine g_iload_n dX2_choose_52 rfl ?_
      refine g_icge (tgt := 79) dX2_choose_53 (by decide) (fun c53 => absurd c53 (nI_ge hj (by omega))) (fun c53 => ?_)
      refine g_aload_n dX2_choose_56 rfl ?_
      refine g_getR dX2_choose_57 fX2_15 rfl rfl ?_
      refine g_iload dX2_choose_60 rfl ?_
      refine g_dup2 dX2_choose_62 rfl rfl ?_
      refine g_ial _ dX2_choose_63 rfl rfl (by omega) ?_
      refine g_iload dX2_choose_64 rfl ?_
      refine g_iload dX2_choose_66 rfl ?_
      refine g_ishr dX2_choose_68 ?_
      refine g_iconst (v := 1) dX2_choose_69 (by decide) ?_
      refine g_iand dX2_choose_70 ?_
      refine g_iadd dX2_choose_71 ?_
      refine g_ias _ dX2_choose_72 rfl rfl (by omega) ?_
      refine g_iinc (v := nI (j + 1)) dX2_choose_73 rfl (nI_1 j) (by decide) rfl ?_
      refine g_goto (tgt := 50) dX2_choose_76 (by decide) ?_
      exact g_g (by rw [← r_E1a]; congr 1; simp [r_rw, r_b]) ih
    · refine g_iload dX2_choose_50 rfl ?_
      refine g_iload_n dX2_choose_52 rfl ?_
      refine g_icge (tgt := 79) dX2_choose_53 (by decide) (fun c53 => ?_) (fun c53 => absurd (nI_le (Nat.le_refl _) (by omega)) c53)
      refine g_iinc (v := nI (k + 1)) dX2_choose_79 rfl (nI_1 k) (by decide) rfl ?_
      refine g_goto (tgt := 29) dX2_choose_82 (by decide) ?_
      refine g_w [.ref 1, .int (nI d), .int (nI c), .int (nI (k + 1)), .null, .null] (And.intro (Or.inr rfl) (And.intro (Or.inr rfl) (And.intro (Or.inr rfl) (And.intro (Or.inr rfl) (And.intro (Or.inl rfl) (And.intro (Or.inl rfl) (True.intro))))))) ?_
      exact g_g (r_E1 _ hok hk) ih
  · refine g_iload_n dX2_choose_29 rfl ?_
    refine g_iload_n dX2_choose_30 rfl ?_
    refine g_icge (tgt := 85) dX2_choose_31 (by decide) (fun c31 => ?_) (fun c31 => absurd (nI_le (Nat.le_refl _) (by omega)) c31)
    refine g_iconst (v := 0) dX2_choose_85 (by decide) ?_
    refine g_istore_n dX2_choose_86 (by decide) rfl ?_
    refine g_g (r_E2 _ c d) ?_
    refine r_loop (n := c) (fun k => [.ref 1, .int (nI d), .int (nI c), .int (nI k), .null, .null]) (fun k => r_cf (r_up (r_up σ 1 3 (nI d)) 1 4 (nI c)) c d k) (fun k hk ih => ?_) ?_
    · refine g_iload_n dX2_choose_87 rfl ?_
      refine g_iload_n dX2_choose_88 rfl ?_
      refine g_icge (tgt := 108) dX2_choose_89 (by decide) (fun c89 => absurd c89 (nI_ge hk (by omega))) (fun c89 => ?_)
      refine g_aload_n dX2_choose_92 rfl ?_
      refine g_iload_n dX2_choose_93 rfl ?_
      refine g_iload_n dX2_choose_94 rfl ?_
      refine g_iadd dX2_choose_95 ?_
      refine g_t (nI_add d k) ?_
      refine g_iconst (v := 1) dX2_choose_96 (by decide) ?_
      refine g_iload_n dX2_choose_97 rfl ?_
      refine g_ishl dX2_choose_98 ?_
      refine g_t (r_shl1 k (by omega)) ?_
      have hk6 : 2 ^ k ≤ 2 ^ 5 := Nat.pow_le_pow_right (by omega) (by omega)
      have hk7 : (2 : Nat) ^ 5 = 32 := rfl
      refine g_V2v dX2_choose_99 vX2_41 rfl (Nat.le_of_ble_eq_true rfl) (by decide) (ev_X2_give (by omega) (by omega)) ?_
      refine g_iinc (v := nI (k + 1)) dX2_choose_102 rfl (nI_1 k) (by decide) rfl ?_
      refine g_goto (tgt := 87) dX2_choose_105 (by decide) ?_
      exact g_g (r_E3 _ c d (by omega)) ih
    · refine g_iload_n dX2_choose_87 rfl ?_
      refine g_iload_n dX2_choose_88 rfl ?_
      refine g_icge (tgt := 108) dX2_choose_89 (by decide) (fun c89 => ?_) (fun c89 => absurd (nI_le (Nat.le_refl _) (by omega)) c89)
      exact g_ret dX2_choose_108 rfl ⟨rfl, rfl⟩
