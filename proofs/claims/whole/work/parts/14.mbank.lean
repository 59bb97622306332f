/-! the reference's bank, as it is written -/
def r_MH (σ : r_Sg) (w : Nat) (sb : Option Nat) (fr : Nat → Nat) (nr : Nat) : Prop := σ 19 0 + σ 19 1 = nI w ∧ w ≤ 20 ∧ (∀ b, b < w → σ 26 b = nI (r_pl w sb b)) ∧ (∀ b, sb = some b → b < w) ∧ (∀ p, p < 4 → σ 25 p = nI (fr p) ∧ fr p < 6) ∧ σ 19 14 = nI nr ∧ nr ≤ 2 ∧ σ 19 15 = bI (¬ sb = none)
theorem r_MH.to {σ σ' : r_Sg} {w : Nat} {sb : Option Nat} {fr : Nat → Nat} {nr : Nat} (h : r_MH σ w sb fr nr) (h1 : σ' 19 0 = σ 19 0) (h2 : σ' 19 1 = σ 19 1) (h3 : σ' 19 14 = σ 19 14) (h4 : σ' 19 15 = σ 19 15) (h25 : σ' 25 = σ 25) (h26 : σ' 26 = σ 26) : r_MH σ' w sb fr nr := by
  unfold r_MH
  rw [h1, h2, h3, h4, h25, h26]
  exact h
theorem r_at21 (f v q : Nat) : nI 21 * (nI 4 * nI f + nI v) + nI q = nI (21 * (4 * f + v) + q) := by rw [pk_mul, nI_add, pk_mul, nI_add]
def m_pu (σ : r_Sg) (R : Nat) (pl : Nat → Nat) (set : Int32) : Nat → r_Sg
  | 0 => σ
  | b + 1 => r_up (m_pu σ R pl set b) 22 (21 * R + pl b) (if m_pu σ R pl set b 23 (21 * R + pl b) = 0 then r_b set b else m_pu σ R pl set b 22 (21 * R + pl b))
def r_rawF (f : Nat → Int32) : Nat → Int32
  | 0 => 0
  | b + 1 => r_rawF f b ||| (f b <<< (nI b &&& 31))
def m_to (σ : r_Sg) (k a : Nat) : r_Sg := r_up (r_up (r_up σ 22 k (σ 22 a)) 24 k 0) 23 k 0
def m_cp (σ : r_Sg) (b w : Nat) : Nat → r_Sg
  | 0 => σ
  | r + 1 => m_to (m_cp σ b w r) (21 * r + w) (21 * r + b)
def m_sw (σ : r_Sg) (w b : Nat) : r_Sg := r_up (r_up (m_cp σ b w 24) 26 b (nI w)) 19 15 1
def m_rfi (σ : r_Sg) (sr tr : Nat) : Nat → r_Sg
  | 0 => σ
  | q + 1 => m_to (m_rfi σ sr tr q) (21 * tr + q) (21 * sr + q)
def m_rfo (σ : r_Sg) (f g : Nat) : Nat → r_Sg
  | 0 => σ
  | v + 1 => m_rfi (m_rfo σ f g v) (4 * f + v) (4 * g + v) 21
def m_rt (σ : r_Sg) (fr : Nat → Nat) (nr p : Nat) : r_Sg := r_up (r_up (r_up (m_rfo σ (fr p) (4 + nr) 4) 30 nr (nI (fr p))) 19 14 (nI nr + 1)) 25 p (nI (4 + nr))
/-- whether a place is in use -/
def m_us (w : Nat) (sb : Option Nat) (q : Nat) : Bool := decide (r_fst (fun b => decide (r_pl w sb b = q)) w < w)
def m_wb (σ : r_Sg) (w : Nat) (sb : Option Nat) (f : Nat) : Nat → Int32
  | 0 => 0
  | v + 1 => r_cna (fun q => decide (2 ≤ σ 24 (21 * (4 * f + v) + q) ∧ m_us w sb q = true)) (m_wb σ w sb f v) (w + 1)
def m_ws (σ : r_Sg) (w : Nat) (sb : Option Nat) (f : Nat) : Nat → Int32
  | 0 => 0
  | v + 1 => r_cna (fun q => decide (¬ σ 23 (21 * (4 * f + v) + q) = 0 ∧ m_us w sb q = true)) (m_ws σ w sb f v) (w + 1)
theorem m_to_o (σ : r_Sg) (k a : Nat) {q : Nat} (h2 : q ≠ 22) (h3 : q ≠ 23) (h4 : q ≠ 24) : m_to σ k a q = σ q := by simp [m_to, r_up, h2, h3, h4]
theorem m_cp_o (σ : r_Sg) (a b : Nat) {q : Nat} (h2 : q ≠ 22) (h3 : q ≠ 23) (h4 : q ≠ 24) : ∀ n, m_cp σ a b n q = σ q
  | 0 => rfl
  | n + 1 => by rw [m_cp, m_to_o _ _ _ h2 h3 h4, m_cp_o σ a b h2 h3 h4 n]
theorem m_rfi_o (σ : r_Sg) (a b : Nat) {q : Nat} (h2 : q ≠ 22) (h3 : q ≠ 23) (h4 : q ≠ 24) : ∀ n, m_rfi σ a b n q = σ q
  | 0 => rfl
  | n + 1 => by rw [m_rfi, m_to_o _ _ _ h2 h3 h4, m_rfi_o σ a b h2 h3 h4 n]
theorem m_rfo_o (σ : r_Sg) (a b : Nat) {q : Nat} (h2 : q ≠ 22) (h3 : q ≠ 23) (h4 : q ≠ 24) : ∀ n, m_rfo σ a b n q = σ q
  | 0 => rfl
  | n + 1 => by rw [m_rfo, m_rfi_o _ _ _ h2 h3 h4, m_rfo_o σ a b h2 h3 h4 n]
theorem m_pu_o (σ : r_Sg) (R : Nat) (pl : Nat → Nat) (set : Int32) {q : Nat} (h2 : q ≠ 22) : ∀ n, m_pu σ R pl set n q = σ q
  | 0 => rfl
  | n + 1 => by rw [m_pu, r_up_ne _ _ _ h2, m_pu_o σ R pl set h2 n]
theorem m_puMH {σ : r_Sg} {w : Nat} {sb : Option Nat} {fr : Nat → Nat} {nr : Nat} (h : r_MH σ w sb fr nr) (R : Nat) (pl : Nat → Nat) (set : Int32) (n : Nat) : r_MH (m_pu σ R pl set n) w sb fr nr := by
  have e : ∀ q, q ≠ 22 → m_pu σ R pl set n q = σ q := fun q hq => m_pu_o σ R pl set hq n
  exact h.to (by rw [e 19 (by decide)]) (by rw [e 19 (by decide)]) (by rw [e 19 (by decide)]) (by rw [e 19 (by decide)]) (e 25 (by decide)) (e 26 (by decide))
theorem m_cpMH {σ : r_Sg} {w : Nat} {sb : Option Nat} {fr : Nat → Nat} {nr : Nat} (h : r_MH σ w sb fr nr) (a b n : Nat) : r_MH (m_cp σ a b n) w sb fr nr := by
  have e : ∀ q, q ≠ 22 → q ≠ 23 → q ≠ 24 → m_cp σ a b n q = σ q := fun q h1 h2 h3 => m_cp_o σ a b h1 h2 h3 n
  exact h.to (by rw [e 19 (by decide) (by decide) (by decide)]) (by rw [e 19 (by decide) (by decide) (by decide)]) (by rw [e 19 (by decide) (by decide) (by decide)]) (by rw [e 19 (by decide) (by decide) (by decide)]) (e 25 (by decide) (by decide) (by decide)) (e 26 (by decide) (by decide) (by decide))
theorem m_rfiMH {σ : r_Sg} {w : Nat} {sb : Option Nat} {fr : Nat → Nat} {nr : Nat} (h : r_MH σ w sb fr nr) (a b n : Nat) : r_MH (m_rfi σ a b n) w sb fr nr := by
  have e : ∀ q, q ≠ 22 → q ≠ 23 → q ≠ 24 → m_rfi σ a b n q = σ q := fun q h1 h2 h3 => m_rfi_o σ a b h1 h2 h3 n
  exact h.to (by rw [e 19 (by decide) (by decide) (by decide)]) (by rw [e 19 (by decide) (by decide) (by decide)]) (by rw [e 19 (by decide) (by decide) (by decide)]) (by rw [e 19 (by decide) (by decide) (by decide)]) (e 25 (by decide) (by decide) (by decide)) (e 26 (by decide) (by decide) (by decide))
theorem m_rfoMH {σ : r_Sg} {w : Nat} {sb : Option Nat} {fr : Nat → Nat} {nr : Nat} (h : r_MH σ w sb fr nr) (a b n : Nat) : r_MH (m_rfo σ a b n) w sb fr nr := by
  have e : ∀ q, q ≠ 22 → q ≠ 23 → q ≠ 24 → m_rfo σ a b n q = σ q := fun q h1 h2 h3 => m_rfo_o σ a b h1 h2 h3 n
  exact h.to (by rw [e 19 (by decide) (by decide) (by decide)]) (by rw [e 19 (by decide) (by decide) (by decide)]) (by rw [e 19 (by decide) (by decide) (by decide)]) (by rw [e 19 (by decide) (by decide) (by decide)]) (e 25 (by decide) (by decide) (by decide)) (e 26 (by decide) (by decide) (by decide))
def m_nl (σ : r_Sg) (kind : Nat) (bit p v : Int32) : r_Sg := r_up (r_up (r_up (r_up (r_up (r_up (r_up σ 31 kind (σ 31 kind + 1)) 32 0 (nI kind)) 32 1 bit) 32 2 0) 32 3 0) 32 4 p) 32 5 v

set_option maxRecDepth 4000 in
theorem ev_X6_at {σ : r_Sg} {f v q : Nat}  : Ev 0 MX6_at [.int (nI f), .int (nI v), .int (nI q)] σ (some (.int (nI (21 * (4 * f + v) + q)))) σ := by
  refine Ev_w [.int (nI f), .int (nI v), .int (nI q)] ?_ (by decide) rfl (Nat.le_of_ble_eq_true rfl) rfl
  refine g_bipush (v := nI 21) dX6_at_0 (by decide) ?_
  refine g_iconst (v := nI 4) dX6_at_2 (by decide) ?_
  refine g_iload_n dX6_at_3 rfl ?_
  refine g_imul dX6_at_4 ?_
  refine g_iload_n dX6_at_5 rfl ?_
  refine g_iadd dX6_at_6 ?_
  refine g_imul dX6_at_7 ?_
  refine g_iload_n dX6_at_8 rfl ?_
  refine g_iadd dX6_at_9 ?_
  refine g_t (r_at21 f v q) ?_
  exact g_iret dX6_at_10 rfl ⟨rfl, rfl⟩

set_option maxRecDepth 4000 in
theorem ev_X6_cellOf {σ : r_Sg} {w : Nat} {sb : Option Nat} {fr : Nat → Nat} {nr : Nat} {p v b : Nat} (h : r_MH σ w sb fr nr) (hp : p < 4) (hb : b < w) : Ev 1 MX6_cellOf [.ref 19, .int (nI p), .int (nI v), .int (nI b)] σ (some (.int (nI (21 * (4 * fr p + v) + r_pl w sb b)))) σ := by
  have hw20 := h.2.1
  refine Ev_w [.ref 19, .int (nI p), .int (nI v), .int (nI b)] ?_ (by decide) rfl (Nat.le_of_ble_eq_true rfl) rfl
  refine g_aload_n dX6_cellOf_0 rfl ?_
  refine g_getR dX6_cellOf_1 fX6_26 rfl rfl ?_
  refine g_iload_n dX6_cellOf_4 rfl ?_
  refine g_ial _ dX6_cellOf_5 rfl rfl (by omega) ?_
  refine g_t (h.2.2.2.2.1 p hp).1 ?_
  refine g_iload_n dX6_cellOf_6 rfl ?_
  refine g_aload_n dX6_cellOf_7 rfl ?_
  refine g_getR dX6_cellOf_8 fX6_29 rfl rfl ?_
  refine g_iload_n dX6_cellOf_11 rfl ?_
  refine g_ial _ dX6_cellOf_12 rfl rfl (by omega) ?_
  refine g_t (h.2.2.1 b hb) ?_
  refine g_S3 dX6_cellOf_13 vX6_124 (Nat.le_of_ble_eq_true rfl) (by decide) (ev_X6_at) ?_
  exact g_iret dX6_cellOf_16 rfl ⟨rfl, rfl⟩

set_option maxRecDepth 4000 in
theorem ev_X6_isWord {σ : r_Sg} {p v : Int32}  : Ev 1 MX6_isWord [.ref 19, .int p, .int v] σ (some (.int (bI (0 < σ 19 0 ∧ (0 ≤ p ∧ p ≤ 3) ∧ 0 ≤ v ∧ v ≤ 3)))) σ := by
  refine Ev_w [.ref 19, .int p, .int v] ?_ (by decide) rfl (Nat.le_of_ble_eq_true rfl) rfl
  refine g_aload_n dX6_isWord_0 rfl ?_
  refine g_getI dX6_isWord_1 fX6_57 rfl rfl ?_
  refine g_ifle (tgt := 29) dX6_isWord_4 (by decide) (fun c4 => ?_) (fun c4 => ?_)
  · refine g_iconst (v := 0) dX6_isWord_29 (by decide) ?_
    exact g_zret dX6_isWord_30 rfl (by first | exact Or.inl rfl | exact Or.inr rfl) ⟨by simp only [bI_0, Decidable.not_not, Int32.not_le, Int32.not_lt, Int32.lt_iff_toInt_lt, Int32.le_iff_toInt_le] at *; unfold bI; split <;> first | rfl | (exfalso; omega), rfl⟩
  · refine g_iload_n dX6_isWord_7 rfl ?_
    refine g_iconst (v := 0) dX6_isWord_8 (by decide) ?_
    refine g_iconst (v := 3) dX6_isWord_9 (by decide) ?_
    refine g_S3 dX6_isWord_10 vX6_68 (Nat.le_of_ble_eq_true rfl) (by decide) (ev_X6_within) ?_
    refine g_ifeq (tgt := 29) dX6_isWord_13 (by decide) (fun c13 => ?_) (fun c13 => ?_)
    · refine g_iconst (v := 0) dX6_isWord_29 (by decide) ?_
      exact g_zret dX6_isWord_30 rfl (by first | exact Or.inl rfl | exact Or.inr rfl) ⟨by simp only [bI_0, Decidable.not_not, Int32.not_le, Int32.not_lt, Int32.lt_iff_toInt_lt, Int32.le_iff_toInt_le] at *; unfold bI; split <;> first | rfl | (exfalso; omega), rfl⟩
    · refine g_iload_n dX6_isWord_16 rfl ?_
      refine g_iconst (v := 0) dX6_isWord_17 (by decide) ?_
      refine g_iconst (v := 3) dX6_isWord_18 (by decide) ?_
      refine g_S3 dX6_isWord_19 vX6_68 (Nat.le_of_ble_eq_true rfl) (by decide) (ev_X6_within) ?_
      refine g_ifeq (tgt := 29) dX6_isWord_22 (by decide) (fun c22 => ?_) (fun c22 => ?_)
      · refine g_iconst (v := 0) dX6_isWord_29 (by decide) ?_
        exact g_zret dX6_isWord_30 rfl (by first | exact Or.inl rfl | exact Or.inr rfl) ⟨by simp only [bI_0, Decidable.not_not, Int32.not_le, Int32.not_lt, Int32.lt_iff_toInt_lt, Int32.le_iff_toInt_le] at *; unfold bI; split <;> first | rfl | (exfalso; omega), rfl⟩
      · refine g_iconst (v := 1) dX6_isWord_25 (by decide) ?_
        refine g_goto (tgt := 30) dX6_isWord_26 (by decide) ?_
        exact g_zret dX6_isWord_30 rfl (by first | exact Or.inl rfl | exact Or.inr rfl) ⟨by simp only [bI_0, Decidable.not_not, Int32.not_le, Int32.not_lt, Int32.lt_iff_toInt_lt, Int32.le_iff_toInt_le] at *; unfold bI; split <;> first | rfl | (exfalso; omega), rfl⟩

set_option maxRecDepth 4000 in
theorem ev_X6_puts {σ : r_Sg} {w : Nat} {sb : Option Nat} {fr : Nat → Nat} {nr : Nat} {p v : Nat} {a : Int32} (h : r_MH σ w sb fr nr) (hp : p < 4) (hv : v < 4) : Ev 2 MX6_puts [.ref 19, .int (nI p), .int (nI v), .int a] σ none (m_pu σ (4 * fr p + v) (r_pl w sb) a w) := by
  have hw20 := h.2.1
  have hfr := (h.2.2.2.2.1 p hp).2
  refine Ev_w [.ref 19, .int (nI p), .int (nI v), .int a, .null, .null] ?_ (by decide) rfl (Nat.le_of_ble_eq_true rfl) rfl
  refine g_iconst (v := 0) dX6_puts_0 (by decide) ?_
  refine g_istore dX6_puts_1 (by decide) rfl ?_
  refine r_loop (n := w) (fun k => [.ref 19, .int (nI p), .int (nI v), .int a, .int (nI k), .null]) (fun k => m_pu σ (4 * fr p + v) (r_pl w sb) a k) (fun k hk ih => ?_) ?_
  · refine g_iload dX6_puts_3 rfl ?_
    refine g_aload_n dX6_puts_5 rfl ?_
    refine g_V0 dX6_puts_6 vX6_64 rfl (Nat.le_of_ble_eq_true rfl) (by decide) (Ev_r (r' := some (.int (nI w))) ev_X6_bits (by rw [(m_puMH h _ _ _ _).1])) ?_
    refine g_icge (tgt := 61) dX6_puts_9 (by decide) (fun c9 => absurd c9 (nI_ge hk (by omega))) (fun c9 => ?_)
    have hkp := r_pl_lt sb hk hw20
    refine g_aload_n dX6_puts_12 rfl ?_
    refine g_iload_n dX6_puts_13 rfl ?_
    refine g_iload_n dX6_puts_14 rfl ?_
    refine g_iload dX6_puts_15 rfl ?_
    refine g_V3 dX6_puts_17 vX6_128 rfl (Nat.le_of_ble_eq_true rfl) (by decide) (ev_X6_cellOf (m_puMH h _ _ _ _) hp hk) ?_
    refine g_istore dX6_puts_20 (by decide) rfl ?_
    refine g_aload_n dX6_puts_22 rfl ?_
    refine g_getR dX6_puts_23 fX6_16 rfl rfl ?_
    refine g_iload dX6_puts_26 rfl ?_
    refine g_aload_n dX6_puts_28 rfl ?_
    refine g_getR dX6_puts_29 fX6_19 rfl rfl ?_
    refine g_iload dX6_puts_32 rfl ?_
    refine g_zal _ dX6_puts_34 rfl rfl (by omega) ?_
    refine g_ifeq (tgt := 48) dX6_puts_35 (by decide) (fun c35 => ?_) (fun c35 => ?_)
    · refine g_iload_n dX6_puts_48 rfl ?_
      refine g_iload dX6_puts_49 rfl ?_
      refine g_S2 dX6_puts_51 vX6_53 (Nat.le_of_ble_eq_true rfl) (by decide) (ev_X6_isIn) ?_
      refine g_ias _ dX6_puts_54 rfl rfl (by omega) ?_
      refine g_iinc (v := nI (k + 1)) dX6_puts_55 rfl (nI_1 k) (by decide) rfl ?_
      refine g_goto (tgt := 3) dX6_puts_58 (by decide) ?_
      refine g_w [.ref 19, .int (nI p), .int (nI v), .int a, .int (nI (k + 1)), .null] (And.intro (Or.inr rfl) (And.intro (Or.inr rfl) (And.intro (Or.inr rfl) (And.intro (Or.inr rfl) (And.intro (Or.inr rfl) (And.intro (Or.inl rfl) (True.intro))))))) ?_
      exact g_g (by simp [m_pu, c35]) ih
    · refine g_aload_n dX6_puts_38 rfl ?_
      refine g_getR dX6_puts_39 fX6_16 rfl rfl ?_
      refine g_iload dX6_puts_42 rfl ?_
      refine g_ial _ dX6_puts_44 rfl rfl (by omega) ?_
      refine g_goto (tgt := 54) dX6_puts_45 (by decide) ?_
      refine g_ias _ dX6_puts_54 rfl rfl (by omega) ?_
      refine g_iinc (v := nI (k + 1)) dX6_puts_55 rfl (nI_1 k) (by decide) rfl ?_
      refine g_goto (tgt := 3) dX6_puts_58 (by decide) ?_
      refine g_w [.ref 19, .int (nI p), .int (nI v), .int a, .int (nI (k + 1)), .null] (And.intro (Or.inr rfl) (And.intro (Or.inr rfl) (And.intro (Or.inr rfl) (And.intro (Or.inr rfl) (And.intro (Or.inr rfl) (And.intro (Or.inl rfl) (True.intro))))))) ?_
      exact g_g (by simp [m_pu, c35]) ih
  · refine g_iload dX6_puts_3 rfl ?_
    refine g_aload_n dX6_puts_5 rfl ?_
    refine g_V0 dX6_puts_6 vX6_64 rfl (Nat.le_of_ble_eq_true rfl) (by decide) (Ev_r (r' := some (.int (nI w))) ev_X6_bits (by rw [(m_puMH h _ _ _ _).1])) ?_
    refine g_icge (tgt := 61) dX6_puts_9 (by decide) (fun c9 => ?_) (fun c9 => absurd (nI_le (Nat.le_refl _) (by omega)) c9)
    exact g_ret dX6_puts_61 rfl ⟨rfl, rfl⟩

set_option maxRecDepth 4000 in
theorem ev_X6_rawOf {σ : r_Sg} {w : Nat} {sb : Option Nat} {fr : Nat → Nat} {nr : Nat} {p v : Nat} (h : r_MH σ w sb fr nr) (hp : p < 4) (hv : v < 4) : Ev 2 MX6_rawOf [.ref 19, .int (nI p), .int (nI v)] σ (some (.int (r_rawF (fun b => σ 22 (21 * (4 * fr p + v) + r_pl w sb b)) w))) σ := by
  have hw20 := h.2.1
  have hfr := (h.2.2.2.2.1 p hp).2
  refine Ev_w [.ref 19, .int (nI p), .int (nI v), .null, .null] ?_ (by decide) rfl (Nat.le_of_ble_eq_true rfl) rfl
  refine g_iconst (v := 0) dX6_rawOf_0 (by decide) ?_
  refine g_istore_n dX6_rawOf_1 (by decide) rfl ?_
  refine g_iconst (v := 0) dX6_rawOf_2 (by decide) ?_
  refine g_istore dX6_rawOf_3 (by decide) rfl ?_
  refine r_loop (n := w) (fun k => [.ref 19, .int (nI p), .int (nI v), .int (r_rawF (fun b => σ 22 (21 * (4 * fr p + v) + r_pl w sb b)) k), .int (nI k)]) (fun k => σ) (fun k hk ih => ?_) ?_
  · refine g_iload dX6_rawOf_5 rfl ?_
    refine g_aload_n dX6_rawOf_7 rfl ?_
    refine g_V0 dX6_rawOf_8 vX6_64 rfl (Nat.le_of_ble_eq_true rfl) (by decide) (Ev_r (r' := some (.int (nI w))) ev_X6_bits (by rw [h.1])) ?_
    refine g_icge (tgt := 39) dX6_rawOf_11 (by decide) (fun c11 => absurd c11 (nI_ge hk (by omega))) (fun c11 => ?_)
    have hkp := r_pl_lt sb hk hw20
    refine g_iload_n dX6_rawOf_14 rfl ?_
    refine g_aload_n dX6_rawOf_15 rfl ?_
    refine g_getR dX6_rawOf_16 fX6_16 rfl rfl ?_
    refine g_aload_n dX6_rawOf_19 rfl ?_
    refine g_iload_n dX6_rawOf_20 rfl ?_
    refine g_iload_n dX6_rawOf_21 rfl ?_
    refine g_iload dX6_rawOf_22 rfl ?_
    refine g_V3 dX6_rawOf_24 vX6_128 rfl (Nat.le_of_ble_eq_true rfl) (by decide) (ev_X6_cellOf h hp hk) ?_
    refine g_ial _ dX6_rawOf_27 rfl rfl (by omega) ?_
    refine g_iload dX6_rawOf_28 rfl ?_
    refine g_ishl dX6_rawOf_30 ?_
    refine g_ior dX6_rawOf_31 ?_
    refine g_istore_n dX6_rawOf_32 (by decide) rfl ?_
    refine g_iinc (v := nI (k + 1)) dX6_rawOf_33 rfl (nI_1 k) (by decide) rfl ?_
    refine g_goto (tgt := 5) dX6_rawOf_36 (by decide) ?_
    exact ih
  · refine g_iload dX6_rawOf_5 rfl ?_
    refine g_aload_n dX6_rawOf_7 rfl ?_
    refine g_V0 dX6_rawOf_8 vX6_64 rfl (Nat.le_of_ble_eq_true rfl) (by decide) (Ev_r (r' := some (.int (nI w))) ev_X6_bits (by rw [h.1])) ?_
    refine g_icge (tgt := 39) dX6_rawOf_11 (by decide) (fun c11 => ?_) (fun c11 => absurd (nI_le (Nat.le_refl _) (by omega)) c11)
    refine g_iload_n dX6_rawOf_39 rfl ?_
    exact g_iret dX6_rawOf_40 rfl ⟨rfl, rfl⟩

set_option maxRecDepth 4000 in
theorem ev_X6_badIn {σ : r_Sg} {q : Nat} (hq : q < 21) : Ev 0 MX6_badIn [.ref 19, .int (nI q)] σ (some (.int (r_cna (fun r => decide (2 ≤ σ 24 (21 * r + q))) 0 24))) σ := by
  refine Ev_w [.ref 19, .int (nI q), .null, .null] ?_ (by decide) rfl (Nat.le_of_ble_eq_true rfl) rfl
  refine g_iconst (v := 0) dX6_badIn_0 (by decide) ?_
  refine g_istore_n dX6_badIn_1 (by decide) rfl ?_
  refine g_iconst (v := 0) dX6_badIn_2 (by decide) ?_
  refine g_istore_n dX6_badIn_3 (by decide) rfl ?_
  refine r_loop (n := 24) (fun k => [.ref 19, .int (nI q), .int (r_cna (fun r => decide (2 ≤ σ 24 (21 * r + q))) 0 k), .int (nI k)]) (fun k => σ) (fun k hk ih => ?_) ?_
  · refine g_iload_n dX6_badIn_4 rfl ?_
    refine g_bipush (v := nI 24) dX6_badIn_5 (by decide) ?_
    refine g_icge (tgt := 39) dX6_badIn_7 (by decide) (fun c7 => absurd c7 (nI_ge hk (by omega))) (fun c7 => ?_)
    refine g_iload_n dX6_badIn_10 rfl ?_
    refine g_aload_n dX6_badIn_11 rfl ?_
    refine g_getR dX6_badIn_12 fX6_23 rfl rfl ?_
    refine g_bipush (v := nI 21) dX6_badIn_15 (by decide) ?_
    refine g_iload_n dX6_badIn_17 rfl ?_
    refine g_imul dX6_badIn_18 ?_
    refine g_iload_n dX6_badIn_19 rfl ?_
    refine g_iadd dX6_badIn_20 ?_
    refine g_t (show _ = nI (21 * k + q) from by rw [pk_mul, nI_add]) ?_
    refine g_ial _ dX6_badIn_21 rfl rfl (by omega) ?_
    refine g_iconst (v := 2) dX6_badIn_22 (by decide) ?_
    refine g_iclt (tgt := 30) dX6_badIn_23 (by decide) (fun c23 => ?_) (fun c23 => ?_)
    · have e := Int32.not_le.mpr c23
      refine g_iconst (v := 0) dX6_badIn_30 (by decide) ?_
      refine g_iadd dX6_badIn_31 ?_
      refine g_istore_n dX6_badIn_32 (by decide) rfl ?_
      refine g_iinc (v := nI (k + 1)) dX6_badIn_33 rfl (nI_1 k) (by decide) rfl ?_
      refine g_goto (tgt := 4) dX6_badIn_36 (by decide) ?_
      exact g_l (by simp [r_ls, r_cna, e]) ih
    · have e := Int32.not_lt.mp c23
      refine g_iconst (v := 1) dX6_badIn_26 (by decide) ?_
      refine g_goto (tgt := 31) dX6_badIn_27 (by decide) ?_
      refine g_iadd dX6_badIn_31 ?_
      refine g_istore_n dX6_badIn_32 (by decide) rfl ?_
      refine g_iinc (v := nI (k + 1)) dX6_badIn_33 rfl (nI_1 k) (by decide) rfl ?_
      refine g_goto (tgt := 4) dX6_badIn_36 (by decide) ?_
      exact g_l (by simp [r_ls, r_cna, e]) ih
  · refine g_iload_n dX6_badIn_4 rfl ?_
    refine g_bipush (v := nI 24) dX6_badIn_5 (by decide) ?_
    refine g_icge (tgt := 39) dX6_badIn_7 (by decide) (fun c7 => ?_) (fun c7 => absurd (nI_le (Nat.le_refl _) (by omega)) c7)
    refine g_iload_n dX6_badIn_39 rfl ?_
    exact g_iret dX6_badIn_40 rfl ⟨rfl, rfl⟩

set_option maxRecDepth 4000 in
theorem ev_X6_isUsed {σ : r_Sg} {w : Nat} {sb : Option Nat} {fr : Nat → Nat} {nr : Nat} {q : Nat} (h : r_MH σ w sb fr nr) (hq : q < 21) : Ev 1 MX6_isUsed [.ref 19, .int (nI q)] σ (some (.int (bI (m_us w sb q = true)))) σ := by
  have hw20 := h.2.1
  refine Ev_w [.ref 19, .int (nI q), .null] ?_ (by decide) rfl (Nat.le_of_ble_eq_true rfl) rfl
  refine g_iconst (v := 0) dX6_isUsed_0 (by decide) ?_
  refine g_istore_n dX6_isUsed_1 (by decide) rfl ?_
  have hJle := r_fst_le (fun b => decide (r_pl w sb b = q)) w
  refine r_loop (n := r_fst (fun b => decide (r_pl w sb b = q)) w) (fun k => [.ref 19, .int (nI q), .int (nI k)]) (fun k => σ) (fun k hk ih => ?_) ?_
  · have hP := r_fst_not hk
    refine g_iload_n dX6_isUsed_2 rfl ?_
    refine g_aload_n dX6_isUsed_3 rfl ?_
    refine g_V0 dX6_isUsed_4 vX6_64 rfl (Nat.le_of_ble_eq_true rfl) (by decide) (Ev_r (r' := some (.int (nI w))) ev_X6_bits (by rw [h.1])) ?_
    refine g_icge (tgt := 28) dX6_isUsed_7 (by decide) (fun c7 => absurd c7 (nI_ge (show k < w by omega) (by omega))) (fun c7 => ?_)
    have hkp := r_pl_lt sb (show k < w by omega) hw20
    refine g_aload_n dX6_isUsed_10 rfl ?_
    refine g_getR dX6_isUsed_11 fX6_29 rfl rfl ?_
    refine g_iload_n dX6_isUsed_14 rfl ?_
    refine g_ial _ dX6_isUsed_15 rfl rfl (by omega) ?_
    refine g_t (h.2.2.1 k (by omega)) ?_
    refine g_iload_n dX6_isUsed_16 rfl ?_
    refine g_icne (tgt := 22) dX6_isUsed_17 (by decide) (fun c17 => ?_) (fun c17 => absurd c17 (fun z => by have z2 := (nI_eq (by omega) (by omega)).mp z; simp [z2] at hP))
    refine g_iinc (v := nI (k + 1)) dX6_isUsed_22 rfl (nI_1 k) (by decide) rfl ?_
    refine g_goto (tgt := 2) dX6_isUsed_25 (by decide) ?_
    exact ih
  · by_cases hJ : r_fst (fun b => decide (r_pl w sb b = q)) w < w
    · have hP := r_fst_at hJ
      refine g_iload_n dX6_isUsed_2 rfl ?_
      refine g_aload_n dX6_isUsed_3 rfl ?_
      refine g_V0 dX6_isUsed_4 vX6_64 rfl (Nat.le_of_ble_eq_true rfl) (by decide) (Ev_r (r' := some (.int (nI w))) ev_X6_bits (by rw [h.1])) ?_
      refine g_icge (tgt := 28) dX6_isUsed_7 (by decide) (fun c7 => absurd c7 (nI_ge hJ (by omega))) (fun c7 => ?_)
      refine g_aload_n dX6_isUsed_10 rfl ?_
      refine g_getR dX6_isUsed_11 fX6_29 rfl rfl ?_
      refine g_iload_n dX6_isUsed_14 rfl ?_
      refine g_ial _ dX6_isUsed_15 rfl rfl (by omega) ?_
      refine g_t (h.2.2.1 _ hJ) ?_
      refine g_iload_n dX6_isUsed_16 rfl ?_
      refine g_icne (tgt := 22) dX6_isUsed_17 (by decide) (fun c17 => absurd (by rw [of_decide_eq_true hP]) c17) (fun c17 => ?_)
      refine g_iconst (v := 1) dX6_isUsed_20 (by decide) ?_
      exact g_zret dX6_isUsed_21 rfl (by first | exact Or.inl rfl | exact Or.inr rfl) ⟨by rw [bI_t (P := m_us w sb q = true) (decide_eq_true hJ)], rfl⟩
    · refine g_iload_n dX6_isUsed_2 rfl ?_
      refine g_aload_n dX6_isUsed_3 rfl ?_
      refine g_V0 dX6_isUsed_4 vX6_64 rfl (Nat.le_of_ble_eq_true rfl) (by decide) (Ev_r (r' := some (.int (nI w))) ev_X6_bits (by rw [h.1])) ?_
      refine g_icge (tgt := 28) dX6_isUsed_7 (by decide) (fun c7 => ?_) (fun c7 => absurd (nI_le (show w ≤ r_fst (fun b => decide (r_pl w sb b = q)) w by omega) (by omega)) c7)
      refine g_iconst (v := 0) dX6_isUsed_28 (by decide) ?_
      exact g_zret dX6_isUsed_29 rfl (by first | exact Or.inl rfl | exact Or.inr rfl) ⟨by rw [bI_f (P := m_us w sb q = true) (fun z => hJ (of_decide_eq_true z))], rfl⟩

set_option maxRecDepth 4000 in
theorem ev_X6_wrongIn_1 {σ : r_Sg} {w : Nat} {sb : Option Nat} {fr : Nat → Nat} {nr : Nat} {f : Nat} (h : r_MH σ w sb fr nr) (hf : f < 6) : Ev 2 MX6_wrongIn [.ref 19, .int (nI f), .int 1] σ (some (.int (m_wb σ w sb f 4))) σ := by
  have hw20 := h.2.1
  refine Ev_w [.ref 19, .int (nI f), .int 1, .null, .null, .null, .null, .null] ?_ (by decide) rfl (Nat.le_of_ble_eq_true rfl) rfl
  refine g_iconst (v := 0) dX6_wrongIn_0 (by decide) ?_
  refine g_istore_n dX6_wrongIn_1 (by decide) rfl ?_
  refine g_iconst (v := 0) dX6_wrongIn_2 (by decide) ?_
  refine g_istore dX6_wrongIn_3 (by decide) rfl ?_
  refine r_loop (n := 4) (fun k => [.ref 19, .int (nI f), .int 1, .int (m_wb σ w sb f k), .int (nI k), .null, .null, .null]) (fun k => σ) (fun k hk ih => ?_) ?_
  · refine g_iload dX6_wrongIn_5 rfl ?_
    refine g_iconst (v := nI 4) dX6_wrongIn_7 (by decide) ?_
    refine g_icge (tgt := 99) dX6_wrongIn_8 (by decide) (fun c8 => absurd c8 (nI_ge hk (by omega))) (fun c8 => ?_)
    refine g_iconst (v := 0) dX6_wrongIn_11 (by decide) ?_
    refine g_istore dX6_wrongIn_12 (by decide) rfl ?_
    refine g_w [.ref 19, .int (nI f), .int 1, .int (m_wb σ w sb f k), .int (nI k), .int (nI 0), .null, .null] (And.intro (Or.inr rfl) (And.intro (Or.inr rfl) (And.intro (Or.inr rfl) (And.intro (Or.inr rfl) (And.intro (Or.inr rfl) (And.intro (Or.inr rfl) (And.intro (Or.inl rfl) (And.intro (Or.inl rfl) (True.intro))))))))) ?_
    refine r_loop (n := w + 1) (fun q => [.ref 19, .int (nI f), .int 1, .int (r_cna (fun q => decide (2 ≤ σ 24 (21 * (4 * f + k) + q) ∧ m_us w sb q = true)) (m_wb σ w sb f k) q), .int (nI k), .int (nI q), .null, .null]) (fun q => σ) (fun q hq ih => ?_) ?_
    · refine g_iload dX6_wrongIn_14 rfl ?_
      refine g_aload_n dX6_wrongIn_16 rfl ?_
      refine g_V0 dX6_wrongIn_17 vX6_64 rfl (Nat.le_of_ble_eq_true rfl) (by decide) (Ev_r (r' := some (.int (nI w))) ev_X6_bits (by rw [h.1])) ?_
      refine g_icgt (tgt := 93) dX6_wrongIn_20 (by decide) (fun c20 => absurd c20 (fun z => absurd (nI_leI (by omega) (by omega) |>.mpr (show q ≤ w by omega)) (Int32.not_le.mpr z))) (fun c20 => ?_)
      refine g_iload_n dX6_wrongIn_23 rfl ?_
      refine g_iload dX6_wrongIn_24 rfl ?_
      refine g_iload dX6_wrongIn_26 rfl ?_
      refine g_S3 dX6_wrongIn_28 vX6_124 (Nat.le_of_ble_eq_true rfl) (by decide) (ev_X6_at) ?_
      refine g_istore dX6_wrongIn_31 (by decide) rfl ?_
      refine g_iload_n dX6_wrongIn_33 rfl ?_
      refine g_ifeq (tgt := 56) dX6_wrongIn_34 (by decide) (fun c34 => absurd c34 (by decide)) (fun c34 => ?_)
      refine g_aload_n dX6_wrongIn_37 rfl ?_
      refine g_getR dX6_wrongIn_38 fX6_23 rfl rfl ?_
      refine g_iload dX6_wrongIn_41 rfl ?_
      refine g_ial _ dX6_wrongIn_43 rfl rfl (by omega) ?_
      refine g_iconst (v := 2) dX6_wrongIn_44 (by decide) ?_
      refine g_iclt (tgt := 52) dX6_wrongIn_45 (by decide) (fun c45 => ?_) (fun c45 => ?_)
      · have e1 := Int32.not_le.mpr c45
        have e2 : True := trivial
        refine g_iconst (v := 0) dX6_wrongIn_52 (by decide) ?_
        refine g_goto (tgt := 63) dX6_wrongIn_53 (by decide) ?_
        refine g_istore dX6_wrongIn_63 (by decide) rfl ?_
        refine g_iload_n dX6_wrongIn_65 rfl ?_
        refine g_iload dX6_wrongIn_66 rfl ?_
        refine g_ifeq (tgt := 84) dX6_wrongIn_68 (by decide) (fun c68 => ?_) (fun c68 => absurd (by decide) c68)
        refine g_iconst (v := 0) dX6_wrongIn_84 (by decide) ?_
        refine g_iadd dX6_wrongIn_85 ?_
        refine g_istore_n dX6_wrongIn_86 (by decide) rfl ?_
        refine g_iinc (v := nI (q + 1)) dX6_wrongIn_87 rfl (nI_1 q) (by decide) rfl ?_
        refine g_goto (tgt := 14) dX6_wrongIn_90 (by decide) ?_
        refine g_w [.ref 19, .int (nI f), .int 1, .int (r_cna (fun q => decide (2 ≤ σ 24 (21 * (4 * f + k) + q) ∧ m_us w sb q = true)) (m_wb σ w sb f k) (q + 1)), .int (nI k), .int (nI (q + 1)), .null, .null] (And.intro (Or.inr rfl) (And.intro (Or.inr rfl) (And.intro (Or.inr rfl) (And.intro (Or.inr (by simp [r_cna, e1, e2])) (And.intro (Or.inr rfl) (And.intro (Or.inr rfl) (And.intro (Or.inl rfl) (And.intro (Or.inl rfl) True.intro)))))))) ?_
        exact ih
      · have e1 := Int32.not_lt.mp c45
        refine g_iconst (v := 1) dX6_wrongIn_48 (by decide) ?_
        refine g_goto (tgt := 63) dX6_wrongIn_49 (by decide) ?_
        refine g_istore dX6_wrongIn_63 (by decide) rfl ?_
        refine g_iload_n dX6_wrongIn_65 rfl ?_
        refine g_iload dX6_wrongIn_66 rfl ?_
        refine g_ifeq (tgt := 84) dX6_wrongIn_68 (by decide) (fun c68 => absurd c68 (by decide)) (fun c68 => ?_)
        refine g_aload_n dX6_wrongIn_71 rfl ?_
        refine g_iload dX6_wrongIn_72 rfl ?_
        refine g_V1 dX6_wrongIn_74 vX6_138 rfl (Nat.le_of_ble_eq_true rfl) (by decide) (ev_X6_isUsed h (by omega)) ?_
        refine g_ifeq (tgt := 84) dX6_wrongIn_77 (by decide) (fun c77 => ?_) (fun c77 => ?_)
        · have e2 := bI_0.mp c77
          refine g_iconst (v := 0) dX6_wrongIn_84 (by decide) ?_
          refine g_iadd dX6_wrongIn_85 ?_
          refine g_istore_n dX6_wrongIn_86 (by decide) rfl ?_
          refine g_iinc (v := nI (q + 1)) dX6_wrongIn_87 rfl (nI_1 q) (by decide) rfl ?_
          refine g_goto (tgt := 14) dX6_wrongIn_90 (by decide) ?_
          refine g_w [.ref 19, .int (nI f), .int 1, .int (r_cna (fun q => decide (2 ≤ σ 24 (21 * (4 * f + k) + q) ∧ m_us w sb q = true)) (m_wb σ w sb f k) (q + 1)), .int (nI k), .int (nI (q + 1)), .null, .null] (And.intro (Or.inr rfl) (And.intro (Or.inr rfl) (And.intro (Or.inr rfl) (And.intro (Or.inr (by simp [r_cna, e1, e2])) (And.intro (Or.inr rfl) (And.intro (Or.inr rfl) (And.intro (Or.inl rfl) (And.intro (Or.inl rfl) True.intro)))))))) ?_
          exact ih
        · have e2 := bI_1.mp c77
          refine g_iconst (v := 1) dX6_wrongIn_80 (by decide) ?_
          refine g_goto (tgt := 85) dX6_wrongIn_81 (by decide) ?_
          refine g_iadd dX6_wrongIn_85 ?_
          refine g_istore_n dX6_wrongIn_86 (by decide) rfl ?_
          refine g_iinc (v := nI (q + 1)) dX6_wrongIn_87 rfl (nI_1 q) (by decide) rfl ?_
          refine g_goto (tgt := 14) dX6_wrongIn_90 (by decide) ?_
          refine g_w [.ref 19, .int (nI f), .int 1, .int (r_cna (fun q => decide (2 ≤ σ 24 (21 * (4 * f + k) + q) ∧ m_us w sb q = true)) (m_wb σ w sb f k) (q + 1)), .int (nI k), .int (nI (q + 1)), .null, .null] (And.intro (Or.inr rfl) (And.intro (Or.inr rfl) (And.intro (Or.inr rfl) (And.intro (Or.inr (by simp [r_cna, e1, e2])) (And.intro (Or.inr rfl) (And.intro (Or.inr rfl) (And.intro (Or.inl rfl) (And.intro (Or.inl rfl) True.intro)))))))) ?_
          exact ih
    · refine g_iload dX6_wrongIn_14 rfl ?_
      refine g_aload_n dX6_wrongIn_16 rfl ?_
      refine g_V0 dX6_wrongIn_17 vX6_64 rfl (Nat.le_of_ble_eq_true rfl) (by decide) (Ev_r (r' := some (.int (nI w))) ev_X6_bits (by rw [h.1])) ?_
      refine g_icgt (tgt := 93) dX6_wrongIn_20 (by decide) (fun c20 => ?_) (fun c20 => absurd (nI_lt (show w < w + 1 by omega) (by omega)) c20)
      refine g_iinc (v := nI (k + 1)) dX6_wrongIn_93 rfl (nI_1 k) (by decide) rfl ?_
      refine g_goto (tgt := 5) dX6_wrongIn_96 (by decide) ?_
      refine g_w [.ref 19, .int (nI f), .int 1, .int (m_wb σ w sb f (k + 1)), .int (nI (k + 1)), .null, .null, .null] (And.intro (Or.inr rfl) (And.intro (Or.inr rfl) (And.intro (Or.inr rfl) (And.intro (Or.inr rfl) (And.intro (Or.inr rfl) (And.intro (Or.inl rfl) (And.intro (Or.inl rfl) (And.intro (Or.inl rfl) (True.intro))))))))) ?_
      exact ih
  · refine g_iload dX6_wrongIn_5 rfl ?_
    refine g_iconst (v := nI 4) dX6_wrongIn_7 (by decide) ?_
    refine g_icge (tgt := 99) dX6_wrongIn_8 (by decide) (fun c8 => ?_) (fun c8 => absurd (nI_le (Nat.le_refl _) (by omega)) c8)
    refine g_iload_n dX6_wrongIn_99 rfl ?_
    exact g_iret dX6_wrongIn_100 rfl ⟨rfl, rfl⟩

set_option maxRecDepth 4000 in
theorem ev_X6_wrongIn_0 {σ : r_Sg} {w : Nat} {sb : Option Nat} {fr : Nat → Nat} {nr : Nat} {f : Nat} (h : r_MH σ w sb fr nr) (hf : f < 6) : Ev 2 MX6_wrongIn [.ref 19, .int (nI f), .int 0] σ (some (.int (m_ws σ w sb f 4))) σ := by
  have hw20 := h.2.1
  refine Ev_w [.ref 19, .int (nI f), .int 0, .null, .null, .null, .null, .null] ?_ (by decide) rfl (Nat.le_of_ble_eq_true rfl) rfl
  refine g_iconst (v := 0) dX6_wrongIn_0 (by decide) ?_
  refine g_istore_n dX6_wrongIn_1 (by decide) rfl ?_
  refine g_iconst (v := 0) dX6_wrongIn_2 (by decide) ?_
  refine g_istore dX6_wrongIn_3 (by decide) rfl ?_
  refine r_loop (n := 4) (fun k => [.ref 19, .int (nI f), .int 0, .int (m_ws σ w sb f k), .int (nI k), .null, .null, .null]) (fun k => σ) (fun k hk ih => ?_) ?_
  · refine g_iload dX6_wrongIn_5 rfl ?_
    refine g_iconst (v := nI 4) dX6_wrongIn_7 (by decide) ?_
    refine g_icge (tgt := 99) dX6_wrongIn_8 (by decide) (fun c8 => absurd c8 (nI_ge hk (by omega))) (fun c8 => ?_)
    refine g_iconst (v := 0) dX6_wrongIn_11 (by decide) ?_
    refine g_istore dX6_wrongIn_12 (by decide) rfl ?_
    refine g_w [.ref 19, .int (nI f), .int 0, .int (m_ws σ w sb f k), .int (nI k), .int (nI 0), .null, .null] (And.intro (Or.inr rfl) (And.intro (Or.inr rfl) (And.intro (Or.inr rfl) (And.intro (Or.inr rfl) (And.intro (Or.inr rfl) (And.intro (Or.inr rfl) (And.intro (Or.inl rfl) (And.intro (Or.inl rfl) (True.intro))))))))) ?_
    refine r_loop (n := w + 1) (fun q => [.ref 19, .int (nI f), .int 0, .int (r_cna (fun q => decide (¬ σ 23 (21 * (4 * f + k) + q) = 0 ∧ m_us w sb q = true)) (m_ws σ w sb f k) q), .int (nI k), .int (nI q), .null, .null]) (fun q => σ) (fun q hq ih => ?_) ?_
    · refine g_iload dX6_wrongIn_14 rfl ?_
      refine g_aload_n dX6_wrongIn_16 rfl ?_
      refine g_V0 dX6_wrongIn_17 vX6_64 rfl (Nat.le_of_ble_eq_true rfl) (by decide) (Ev_r (r' := some (.int (nI w))) ev_X6_bits (by rw [h.1])) ?_
      refine g_icgt (tgt := 93) dX6_wrongIn_20 (by decide) (fun c20 => absurd c20 (fun z => absurd (nI_leI (by omega) (by omega) |>.mpr (show q ≤ w by omega)) (Int32.not_le.mpr z))) (fun c20 => ?_)
      refine g_iload_n dX6_wrongIn_23 rfl ?_
      refine g_iload dX6_wrongIn_24 rfl ?_
      refine g_iload dX6_wrongIn_26 rfl ?_
      refine g_S3 dX6_wrongIn_28 vX6_124 (Nat.le_of_ble_eq_true rfl) (by decide) (ev_X6_at) ?_
      refine g_istore dX6_wrongIn_31 (by decide) rfl ?_
      refine g_iload_n dX6_wrongIn_33 rfl ?_
      refine g_ifeq (tgt := 56) dX6_wrongIn_34 (by decide) (fun c34 => ?_) (fun c34 => absurd rfl c34)
      refine g_aload_n dX6_wrongIn_56 rfl ?_
      refine g_getR dX6_wrongIn_57 fX6_19 rfl rfl ?_
      refine g_iload dX6_wrongIn_60 rfl ?_
      refine g_zal _ dX6_wrongIn_62 rfl rfl (by omega) ?_
      refine g_istore dX6_wrongIn_63 (by decide) rfl ?_
      refine g_iload_n dX6_wrongIn_65 rfl ?_
      refine g_iload dX6_wrongIn_66 rfl ?_
      refine g_ifeq (tgt := 84) dX6_wrongIn_68 (by decide) (fun c68 => ?_) (fun c68 => ?_)
      · have e1 : ¬ ¬ σ 23 (21 * (4 * f + k) + q) = 0 := fun z => z c68
        have e2 : True := trivial
        refine g_iconst (v := 0) dX6_wrongIn_84 (by decide) ?_
        refine g_iadd dX6_wrongIn_85 ?_
        refine g_istore_n dX6_wrongIn_86 (by decide) rfl ?_
        refine g_iinc (v := nI (q + 1)) dX6_wrongIn_87 rfl (nI_1 q) (by decide) rfl ?_
        refine g_goto (tgt := 14) dX6_wrongIn_90 (by decide) ?_
        refine g_w [.ref 19, .int (nI f), .int 0, .int (r_cna (fun q => decide (¬ σ 23 (21 * (4 * f + k) + q) = 0 ∧ m_us w sb q = true)) (m_ws σ w sb f k) (q + 1)), .int (nI k), .int (nI (q + 1)), .null, .null] (And.intro (Or.inr rfl) (And.intro (Or.inr rfl) (And.intro (Or.inr rfl) (And.intro (Or.inr (by simp [r_cna, e1, e2])) (And.intro (Or.inr rfl) (And.intro (Or.inr rfl) (And.intro (Or.inl rfl) (And.intro (Or.inl rfl) True.intro)))))))) ?_
        exact ih
      · have e1 : ¬ σ 23 (21 * (4 * f + k) + q) = 0 := c68
        refine g_aload_n dX6_wrongIn_71 rfl ?_
        refine g_iload dX6_wrongIn_72 rfl ?_
        refine g_V1 dX6_wrongIn_74 vX6_138 rfl (Nat.le_of_ble_eq_true rfl) (by decide) (ev_X6_isUsed h (by omega)) ?_
        refine g_ifeq (tgt := 84) dX6_wrongIn_77 (by decide) (fun c77 => ?_) (fun c77 => ?_)
        · have e2 := bI_0.mp c77
          refine g_iconst (v := 0) dX6_wrongIn_84 (by decide) ?_
          refine g_iadd dX6_wrongIn_85 ?_
          refine g_istore_n dX6_wrongIn_86 (by decide) rfl ?_
          refine g_iinc (v := nI (q + 1)) dX6_wrongIn_87 rfl (nI_1 q) (by decide) rfl ?_
          refine g_goto (tgt := 14) dX6_wrongIn_90 (by decide) ?_
          refine g_w [.ref 19, .int (nI f), .int 0, .int (r_cna (fun q => decide (¬ σ 23 (21 * (4 * f + k) + q) = 0 ∧ m_us w sb q = true)) (m_ws σ w sb f k) (q + 1)), .int (nI k), .int (nI (q + 1)), .null, .null] (And.intro (Or.inr rfl) (And.intro (Or.inr rfl) (And.intro (Or.inr rfl) (And.intro (Or.inr (by simp [r_cna, e1, e2])) (And.intro (Or.inr rfl) (And.intro (Or.inr rfl) (And.intro (Or.inl rfl) (And.intro (Or.inl rfl) True.intro)))))))) ?_
          exact ih
        · have e2 := bI_1.mp c77
          refine g_iconst (v := 1) dX6_wrongIn_80 (by decide) ?_
          refine g_goto (tgt := 85) dX6_wrongIn_81 (by decide) ?_
          refine g_iadd dX6_wrongIn_85 ?_
          refine g_istore_n dX6_wrongIn_86 (by decide) rfl ?_
          refine g_iinc (v := nI (q + 1)) dX6_wrongIn_87 rfl (nI_1 q) (by decide) rfl ?_
          refine g_goto (tgt := 14) dX6_wrongIn_90 (by decide) ?_
          refine g_w [.ref 19, .int (nI f), .int 0, .int (r_cna (fun q => decide (¬ σ 23 (21 * (4 * f + k) + q) = 0 ∧ m_us w sb q = true)) (m_ws σ w sb f k) (q + 1)), .int (nI k), .int (nI (q + 1)), .null, .null] (And.intro (Or.inr rfl) (And.intro (Or.inr rfl) (And.intro (Or.inr rfl) (And.intro (Or.inr (by simp [r_cna, e1, e2])) (And.intro (Or.inr rfl) (And.intro (Or.inr rfl) (And.intro (Or.inl rfl) (And.intro (Or.inl rfl) True.intro)))))))) ?_
          exact ih
    · refine g_iload dX6_wrongIn_14 rfl ?_
      refine g_aload_n dX6_wrongIn_16 rfl ?_
      refine g_V0 dX6_wrongIn_17 vX6_64 rfl (Nat.le_of_ble_eq_true rfl) (by decide) (Ev_r (r' := some (.int (nI w))) ev_X6_bits (by rw [h.1])) ?_
      refine g_icgt (tgt := 93) dX6_wrongIn_20 (by decide) (fun c20 => ?_) (fun c20 => absurd (nI_lt (show w < w + 1 by omega) (by omega)) c20)
      refine g_iinc (v := nI (k + 1)) dX6_wrongIn_93 rfl (nI_1 k) (by decide) rfl ?_
      refine g_goto (tgt := 5) dX6_wrongIn_96 (by decide) ?_
      refine g_w [.ref 19, .int (nI f), .int 0, .int (m_ws σ w sb f (k + 1)), .int (nI (k + 1)), .null, .null, .null] (And.intro (Or.inr rfl) (And.intro (Or.inr rfl) (And.intro (Or.inr rfl) (And.intro (Or.inr rfl) (And.intro (Or.inr rfl) (And.intro (Or.inl rfl) (And.intro (Or.inl rfl) (And.intro (Or.inl rfl) (True.intro))))))))) ?_
      exact ih
  · refine g_iload dX6_wrongIn_5 rfl ?_
    refine g_iconst (v := nI 4) dX6_wrongIn_7 (by decide) ?_
    refine g_icge (tgt := 99) dX6_wrongIn_8 (by decide) (fun c8 => ?_) (fun c8 => absurd (nI_le (Nat.le_refl _) (by omega)) c8)
    refine g_iload_n dX6_wrongIn_99 rfl ?_
    exact g_iret dX6_wrongIn_100 rfl ⟨rfl, rfl⟩

set_option maxRecDepth 4000 in
theorem ev_X6_takesOver {σ : r_Sg} {k a : Nat} (hk : k < 504) (ha : a < 504) : Ev 0 MX6_takesOver [.ref 19, .int (nI k), .int (nI a)] σ none (m_to σ k a) := by
  refine Ev_w [.ref 19, .int (nI k), .int (nI a)] ?_ (by decide) rfl (Nat.le_of_ble_eq_true rfl) rfl
  refine g_aload_n dX6_takesOver_0 rfl ?_
  refine g_getR dX6_takesOver_1 fX6_16 rfl rfl ?_
  refine g_iload_n dX6_takesOver_4 rfl ?_
  refine g_aload_n dX6_takesOver_5 rfl ?_
  refine g_getR dX6_takesOver_6 fX6_16 rfl rfl ?_
  refine g_iload_n dX6_takesOver_9 rfl ?_
  refine g_ial _ dX6_takesOver_10 rfl rfl (by omega) ?_
  refine g_ias _ dX6_takesOver_11 rfl rfl (by omega) ?_
  refine g_aload_n dX6_takesOver_12 rfl ?_
  refine g_getR dX6_takesOver_13 fX6_23 rfl rfl ?_
  refine g_iload_n dX6_takesOver_16 rfl ?_
  refine g_iconst (v := 0) dX6_takesOver_17 (by decide) ?_
  refine g_ias _ dX6_takesOver_18 rfl rfl (by omega) ?_
  refine g_aload_n dX6_takesOver_19 rfl ?_
  refine g_getR dX6_takesOver_20 fX6_19 rfl rfl ?_
  refine g_iload_n dX6_takesOver_23 rfl ?_
  refine g_iconst (v := 0) dX6_takesOver_24 (by decide) ?_
  refine g_zas _ dX6_takesOver_25 rfl rfl (by omega) (by decide) ?_
  exact g_ret dX6_takesOver_26 rfl ⟨rfl, rfl⟩

set_option maxRecDepth 4000 in
theorem ev_X6_swaps {σ : r_Sg} {w : Nat} {fr : Nat → Nat} {nr b : Nat} (h : r_MH σ w none fr nr) (hb : b < w) : Ev 1 MX6_swaps [.ref 19, .int (nI b)] σ none (m_sw σ w b) := by
  have hw20 := h.2.1
  refine Ev_w [.ref 19, .int (nI b), .null, .null] ?_ (by decide) rfl (Nat.le_of_ble_eq_true rfl) rfl
  refine g_aload_n dX6_swaps_0 rfl ?_
  refine g_getR dX6_swaps_1 fX6_29 rfl rfl ?_
  refine g_iload_n dX6_swaps_4 rfl ?_
  refine g_ial _ dX6_swaps_5 rfl rfl (by omega) ?_
  refine g_t (h.2.2.1 b hb) ?_
  refine g_t (show _ = nI b from rfl) ?_
  refine g_istore_n dX6_swaps_6 (by decide) rfl ?_
  refine g_iconst (v := 0) dX6_swaps_7 (by decide) ?_
  refine g_istore_n dX6_swaps_8 (by decide) rfl ?_
  refine r_loop (n := 24) (fun k => [.ref 19, .int (nI b), .int (nI b), .int (nI k)]) (fun k => m_cp σ b w k) (fun k hk ih => ?_) ?_
  · refine g_iload_n dX6_swaps_9 rfl ?_
    refine g_bipush (v := nI 24) dX6_swaps_10 (by decide) ?_
    refine g_icge (tgt := 40) dX6_swaps_12 (by decide) (fun c12 => absurd c12 (nI_ge hk (by omega))) (fun c12 => ?_)
    refine g_aload_n dX6_swaps_15 rfl ?_
    refine g_bipush (v := nI 21) dX6_swaps_16 (by decide) ?_
    refine g_iload_n dX6_swaps_18 rfl ?_
    refine g_imul dX6_swaps_19 ?_
    refine g_aload_n dX6_swaps_20 rfl ?_
    refine g_V0 dX6_swaps_21 vX6_64 rfl (Nat.le_of_ble_eq_true rfl) (by decide) (Ev_r (r' := some (.int (nI w))) ev_X6_bits (by rw [(m_cpMH h _ _ _).1])) ?_
    refine g_iadd dX6_swaps_24 ?_
    refine g_t (show _ = nI (21 * k + w) from by rw [pk_mul, nI_add]) ?_
    refine g_bipush (v := nI 21) dX6_swaps_25 (by decide) ?_
    refine g_iload_n dX6_swaps_27 rfl ?_
    refine g_imul dX6_swaps_28 ?_
    refine g_iload_n dX6_swaps_29 rfl ?_
    refine g_iadd dX6_swaps_30 ?_
    refine g_t (show _ = nI (21 * k + b) from by rw [pk_mul, nI_add]) ?_
    refine g_V2v dX6_swaps_31 vX6_141 rfl (Nat.le_of_ble_eq_true rfl) (by decide) (ev_X6_takesOver (by omega) (by omega)) ?_
    refine g_iinc (v := nI (k + 1)) dX6_swaps_34 rfl (nI_1 k) (by decide) rfl ?_
    refine g_goto (tgt := 9) dX6_swaps_37 (by decide) ?_
    exact ih
  · refine g_iload_n dX6_swaps_9 rfl ?_
    refine g_bipush (v := nI 24) dX6_swaps_10 (by decide) ?_
    refine g_icge (tgt := 40) dX6_swaps_12 (by decide) (fun c12 => ?_) (fun c12 => absurd (nI_le (Nat.le_refl _) (by omega)) c12)
    refine g_aload_n dX6_swaps_40 rfl ?_
    refine g_getR dX6_swaps_41 fX6_29 rfl rfl ?_
    refine g_iload_n dX6_swaps_44 rfl ?_
    refine g_aload_n dX6_swaps_45 rfl ?_
    refine g_V0 dX6_swaps_46 vX6_64 rfl (Nat.le_of_ble_eq_true rfl) (by decide) (Ev_r (r' := some (.int (nI w))) ev_X6_bits (by rw [(m_cpMH h _ _ _).1])) ?_
    refine g_ias _ dX6_swaps_49 rfl rfl (by omega) ?_
    refine g_aload_n dX6_swaps_50 rfl ?_
    refine g_iconst (v := 1) dX6_swaps_51 (by decide) ?_
    refine g_putZ dX6_swaps_52 pX6_117 rfl rfl (by decide) ?_
    exact g_ret dX6_swaps_55 rfl ⟨rfl, rfl⟩

set_option maxRecDepth 4000 in
theorem ev_X6_retires {σ : r_Sg} {w : Nat} {sb : Option Nat} {fr : Nat → Nat} {nr : Nat} {p : Nat} (h : r_MH σ w sb fr nr) (hp : p < 4) (hnr : nr < 2) : Ev 1 MX6_retires [.ref 19, .int (nI p)] σ none (m_rt σ fr nr p) := by
  have hw20 := h.2.1
  have hfr := (h.2.2.2.2.1 p hp).2
  refine Ev_w [.ref 19, .int (nI p), .null, .null, .null] ?_ (by decide) rfl (Nat.le_of_ble_eq_true rfl) rfl
  refine g_iconst (v := nI 4) dX6_retires_0 (by decide) ?_
  refine g_aload_n dX6_retires_1 rfl ?_
  refine g_getI dX6_retires_2 fX6_114 rfl rfl ?_
  refine g_t h.2.2.2.2.2.1 ?_
  refine g_iadd dX6_retires_5 ?_
  refine g_t (nI_add 4 nr) ?_
  refine g_istore_n dX6_retires_6 (by decide) rfl ?_
  refine g_iconst (v := 0) dX6_retires_7 (by decide) ?_
  refine g_istore_n dX6_retires_8 (by decide) rfl ?_
  refine r_loop (n := 4) (fun k => [.ref 19, .int (nI p), .int (nI (4 + nr)), .int (nI k), .null]) (fun k => m_rfo σ (fr p) (4 + nr) k) (fun k hk ih => ?_) ?_
  · refine g_iload_n dX6_retires_9 rfl ?_
    refine g_iconst (v := nI 4) dX6_retires_10 (by decide) ?_
    refine g_icge (tgt := 59) dX6_retires_11 (by decide) (fun c11 => absurd c11 (nI_ge hk (by omega))) (fun c11 => ?_)
    refine g_iconst (v := 0) dX6_retires_14 (by decide) ?_
    refine g_istore dX6_retires_15 (by decide) rfl ?_
    refine g_w [.ref 19, .int (nI p), .int (nI (4 + nr)), .int (nI k), .int (nI 0)] (And.intro (Or.inr rfl) (And.intro (Or.inr rfl) (And.intro (Or.inr rfl) (And.intro (Or.inr rfl) (And.intro (Or.inr rfl) (True.intro)))))) ?_
    refine r_loop (n := 21) (fun q => [.ref 19, .int (nI p), .int (nI (4 + nr)), .int (nI k), .int (nI q)]) (fun q => m_rfi (m_rfo σ (fr p) (4 + nr) k) (4 * fr p + k) (4 * (4 + nr) + k) q) (fun q hq ih => ?_) ?_
    · refine g_iload dX6_retires_17 rfl ?_
      refine g_bipush (v := nI 21) dX6_retires_19 (by decide) ?_
      refine g_icge (tgt := 53) dX6_retires_21 (by decide) (fun c21 => absurd c21 (nI_ge hq (by omega))) (fun c21 => ?_)
      refine g_aload_n dX6_retires_24 rfl ?_
      refine g_iload_n dX6_retires_25 rfl ?_
      refine g_iload_n dX6_retires_26 rfl ?_
      refine g_iload dX6_retires_27 rfl ?_
      refine g_S3 dX6_retires_29 vX6_124 (Nat.le_of_ble_eq_true rfl) (by decide) (ev_X6_at) ?_
      refine g_aload_n dX6_retires_32 rfl ?_
      refine g_getR dX6_retires_33 fX6_26 rfl rfl ?_
      refine g_iload_n dX6_retires_36 rfl ?_
      refine g_ial _ dX6_retires_37 rfl rfl (by omega) ?_
      refine g_t ((m_rfiMH (m_rfoMH h _ _ _) _ _ _).2.2.2.2.1 p hp).1 ?_
      refine g_iload_n dX6_retires_38 rfl ?_
      refine g_iload dX6_retires_39 rfl ?_
      refine g_S3 dX6_retires_41 vX6_124 (Nat.le_of_ble_eq_true rfl) (by decide) (ev_X6_at) ?_
      refine g_V2v dX6_retires_44 vX6_141 rfl (Nat.le_of_ble_eq_true rfl) (by decide) (ev_X6_takesOver (by omega) (by omega)) ?_
      refine g_iinc (v := nI (q + 1)) dX6_retires_47 rfl (nI_1 q) (by decide) rfl ?_
      refine g_goto (tgt := 17) dX6_retires_50 (by decide) ?_
      exact ih
    · refine g_iload dX6_retires_17 rfl ?_
      refine g_bipush (v := nI 21) dX6_retires_19 (by decide) ?_
      refine g_icge (tgt := 53) dX6_retires_21 (by decide) (fun c21 => ?_) (fun c21 => absurd (nI_le (Nat.le_refl _) (by omega)) c21)
      refine g_iinc (v := nI (k + 1)) dX6_retires_53 rfl (nI_1 k) (by decide) rfl ?_
      refine g_goto (tgt := 9) dX6_retires_56 (by decide) ?_
      refine g_w [.ref 19, .int (nI p), .int (nI (4 + nr)), .int (nI (k + 1)), .null] (And.intro (Or.inr rfl) (And.intro (Or.inr rfl) (And.intro (Or.inr rfl) (And.intro (Or.inr rfl) (And.intro (Or.inl rfl) (True.intro)))))) ?_
      exact ih
  · refine g_iload_n dX6_retires_9 rfl ?_
    refine g_iconst (v := nI 4) dX6_retires_10 (by decide) ?_
    refine g_icge (tgt := 59) dX6_retires_11 (by decide) (fun c11 => ?_) (fun c11 => absurd (nI_le (Nat.le_refl _) (by omega)) c11)
    refine g_aload_n dX6_retires_59 rfl ?_
    refine g_getR dX6_retires_60 fX6_41 rfl rfl ?_
    refine g_aload_n dX6_retires_63 rfl ?_
    refine g_getI dX6_retires_64 fX6_114 rfl rfl ?_
    refine g_t (m_rfoMH h (fr p) (4 + nr) 4).2.2.2.2.2.1 ?_
    refine g_aload_n dX6_retires_67 rfl ?_
    refine g_getR dX6_retires_68 fX6_26 rfl rfl ?_
    refine g_iload_n dX6_retires_71 rfl ?_
    refine g_ial _ dX6_retires_72 rfl rfl (by omega) ?_
    refine g_t ((m_rfoMH h (fr p) (4 + nr) 4).2.2.2.2.1 p hp).1 ?_
    refine g_ias _ dX6_retires_73 rfl rfl (by omega) ?_
    refine g_aload_n dX6_retires_74 rfl ?_
    refine g_dup dX6_retires_75 rfl ?_
    refine g_getI dX6_retires_76 fX6_114 rfl rfl ?_
    refine g_t (show _ = nI nr from by rw [r_up_ne _ _ _ (by decide)]; exact (m_rfoMH h (fr p) (4 + nr) 4).2.2.2.2.2.1) ?_
    refine g_iconst (v := 1) dX6_retires_79 (by decide) ?_
    refine g_iadd dX6_retires_80 ?_
    refine g_putI dX6_retires_81 pX6_114 rfl rfl ?_
    refine g_aload_n dX6_retires_84 rfl ?_
    refine g_getR dX6_retires_85 fX6_26 rfl rfl ?_
    refine g_iload_n dX6_retires_88 rfl ?_
    refine g_iload_n dX6_retires_89 rfl ?_
    refine g_ias _ dX6_retires_90 rfl rfl (by omega) ?_
    exact g_ret dX6_retires_91 rfl ⟨rfl, rfl⟩
