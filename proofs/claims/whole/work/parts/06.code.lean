/-! MendedBank.Code: d data bits, c rows (both 0: no code) -/
def bI (P : Prop) [Decidable P] : Int32 := if P then 1 else 0
theorem bI_0 {P : Prop} [Decidable P] : bI P = 0 ↔ ¬ P := by unfold bI; split <;> simp_all
theorem bI_1 {P : Prop} [Decidable P] : ¬ bI P = 0 ↔ P := by unfold bI; split <;> simp_all
theorem bI_t {P : Prop} [Decidable P] (h : P) : bI P = 1 := if_pos h
theorem bI_f {P : Prop} [Decidable P] (h : ¬ P) : bI P = 0 := if_neg h
theorem bI_c {P Q : Prop} [Decidable P] [Decidable Q] (h : P ↔ Q) : bI P = bI Q := by unfold bI; simp [h]
/-- the places of a cell from 0 to n set to v -/
def r_fill (σ : r_Sg) (q n : Nat) (v : Int32) : r_Sg := fun c i => if c = q ∧ i < n then v else σ c i
theorem r_fill_0 (σ : r_Sg) (q : Nat) (v : Int32) : σ = r_fill σ q 0 v := by funext a b; simp [r_fill]
theorem r_fill_s (σ : r_Sg) (q k : Nat) (v : Int32) : r_up (r_fill σ q k v) q k v = r_fill σ q (k + 1) v := by
  funext a b
  by_cases h1 : a = q
  · subst h1
    by_cases h2 : b = k
    · subst h2; simp [r_up, r_fill, upd]
    · have h3 : b < k + 1 ↔ b < k := by omega
      simp [r_up, r_fill, upd, h2, h3]
  · simp [r_up, r_fill, h1]
def r_sum (f : Nat → Int32) : Nat → Int32
  | 0 => 0
  | n + 1 => r_sum f n + f n
/-- bit b of a set of bits -/
def r_b (x : Int32) (b : Nat) : Int32 := (x >>> (nI b &&& 31)) &&& 1
def r_syn (col : Nat → Int32) (set : Int32) : Nat → Int32
  | 0 => 0
  | b + 1 => if r_b set b = 0 then r_syn col set b else r_syn col set b ^^^ col b
def r_ush (x y : Int32) : Int32 := (x.toUInt32 >>> (y.toUInt32 &&& Int32.toUInt32 31)).toInt32
def r_bc1 (x : Int32) : Int32 := x - (r_ush x 1 &&& 1431655765)
def r_bc2 (x : Int32) : Int32 := (x &&& 858993459) + (r_ush x 2 &&& 858993459)
def r_bc3 (x : Int32) : Int32 := (x + r_ush x 4) &&& 252645135
def r_bc4 (x : Int32) : Int32 := x + r_ush x 8
def r_bc5 (x : Int32) : Int32 := (x + r_ush x 16) &&& 63
/-- Integer.bitCount -/
def r_bc (x : Int32) : Int32 := r_bc5 (r_bc4 (r_bc3 (r_bc2 (r_bc1 x))))
theorem kc_265 : Cond.constant RJ6 265 1431655765 ∈ r_tbl := lk 184 (by decide +kernel)
theorem kc_266 : Cond.constant RJ6 266 858993459 ∈ r_tbl := lk 185 (by decide +kernel)
theorem kc_267 : Cond.constant RJ6 267 252645135 ∈ r_tbl := lk 186 (by decide +kernel)

theorem g_mmax {M : r_M} {h : Nat} {X : r_X} {Post : Option Value → r_Sg → Prop} {pc : Nat} {L S : List Value} {σ : r_Sg} {idx : Nat} {x y : Int32} (d : decode M.2.1 pc = .ok (.invokestatic idx, 3)) (hv : r_Sl M.1.cls idx MJ9_max_7cf53 2) (hc : (S.map fun v => v.category).sum ≤ 8) (hh : 1 ≤ h) (k : G M h X Post (pc + 3) L (.int (if x < y then y else x) :: S) σ) : G M h X Post pc L (.int y :: .int x :: S) σ := by
  intro E p l e R s m args below meth c A cells slots Q C H locs ls hP hD hS hL
  obtain ⟨v1, v2, v4, v5, v7, v8, v9, v10⟩ := hv
  have e1 : Lib.Math.max.code = cJ9_max_7cf53 := by first | rfl | decide +kernel
  have v5' : Cond.code Lib.Math.max.name Lib.Math.max.code 2 (some .int) ∈ r_tbl := by rw [e1]; exact v5
  have hR := C.2.2.2.2.2.2.2.2.2.2.1
  have hcs := C.2.2.2.2.2.2.2.2.2.2.2.1
  exact va_mmax C.1 C.2.1 (C.2.2.1.trans hL.1.symm) C.2.2.2.1 (C.2.2.2.2.1 _ v1) (C.2.2.2.2.1 _ v2) (C.2.2.2.2.1 _ v4) (C.2.2.2.2.1 _ v5') (by omega) (by rw [r_cats]; omega) hcs.1 hcs.2 d (k E p l e R s m args below meth c A cells slots Q C H locs ls hP hD hS hL)

set_option maxRecDepth 4000 in
theorem ev_J6_bitCount_0f7a4 {σ : r_Sg} {x : Int32}  : Ev 0 MJ6_bitCount_0f7a4 [.int x] σ (some (.int (r_bc x))) σ := by
  refine Ev_w [.int x] ?_ (by decide) rfl (Nat.le_of_ble_eq_true rfl) rfl
  refine g_iload_n dJ6_bitCount_0f7a4_0 rfl ?_
  refine g_iload_n dJ6_bitCount_0f7a4_1 rfl ?_
  refine g_iconst (v := 1) dJ6_bitCount_0f7a4_2 (by decide) ?_
  refine g_iushr dJ6_bitCount_0f7a4_3 rfl ?_
  refine g_ldcw dJ6_bitCount_0f7a4_4 kc_265 ?_
  refine g_iand dJ6_bitCount_0f7a4_7 ?_
  refine g_isub dJ6_bitCount_0f7a4_8 ?_
  refine g_istore_n dJ6_bitCount_0f7a4_9 (by decide) rfl ?_
  refine g_iload_n dJ6_bitCount_0f7a4_10 rfl ?_
  refine g_ldcw dJ6_bitCount_0f7a4_11 kc_266 ?_
  refine g_iand dJ6_bitCount_0f7a4_14 ?_
  refine g_iload_n dJ6_bitCount_0f7a4_15 rfl ?_
  refine g_iconst (v := 2) dJ6_bitCount_0f7a4_16 (by decide) ?_
  refine g_iushr dJ6_bitCount_0f7a4_17 rfl ?_
  refine g_ldcw dJ6_bitCount_0f7a4_18 kc_266 ?_
  refine g_iand dJ6_bitCount_0f7a4_21 ?_
  refine g_iadd dJ6_bitCount_0f7a4_22 ?_
  refine g_istore_n dJ6_bitCount_0f7a4_23 (by decide) rfl ?_
  refine g_iload_n dJ6_bitCount_0f7a4_24 rfl ?_
  refine g_iload_n dJ6_bitCount_0f7a4_25 rfl ?_
  refine g_iconst (v := 4) dJ6_bitCount_0f7a4_26 (by decide) ?_
  refine g_iushr dJ6_bitCount_0f7a4_27 rfl ?_
  refine g_iadd dJ6_bitCount_0f7a4_28 ?_
  refine g_ldcw dJ6_bitCount_0f7a4_29 kc_267 ?_
  refine g_iand dJ6_bitCount_0f7a4_32 ?_
  refine g_istore_n dJ6_bitCount_0f7a4_33 (by decide) rfl ?_
  refine g_iload_n dJ6_bitCount_0f7a4_34 rfl ?_
  refine g_iload_n dJ6_bitCount_0f7a4_35 rfl ?_
  refine g_bipush (v := 8) dJ6_bitCount_0f7a4_36 (by decide) ?_
  refine g_iushr dJ6_bitCount_0f7a4_38 rfl ?_
  refine g_iadd dJ6_bitCount_0f7a4_39 ?_
  refine g_istore_n dJ6_bitCount_0f7a4_40 (by decide) rfl ?_
  refine g_iload_n dJ6_bitCount_0f7a4_41 rfl ?_
  refine g_iload_n dJ6_bitCount_0f7a4_42 rfl ?_
  refine g_bipush (v := 16) dJ6_bitCount_0f7a4_43 (by decide) ?_
  refine g_iushr dJ6_bitCount_0f7a4_45 rfl ?_
  refine g_iadd dJ6_bitCount_0f7a4_46 ?_
  refine g_istore_n dJ6_bitCount_0f7a4_47 (by decide) rfl ?_
  refine g_iload_n dJ6_bitCount_0f7a4_48 rfl ?_
  refine g_bipush (v := 63) dJ6_bitCount_0f7a4_49 (by decide) ?_
  refine g_iand dJ6_bitCount_0f7a4_51 ?_
  exact g_iret dJ6_bitCount_0f7a4_52 rfl ⟨rfl, rfl⟩

set_option maxRecDepth 4000 in
theorem ev_J7_fill_53178 {σ : r_Sg} {q n : Nat} {v : Int32} (hs : r_SH[q]? = some (.inl (n, false))) : Ev 0 MJ7_fill_53178 [.ref q, .int v] σ none (r_fill σ q n v) := by
  have hn := r_SHn hs
  refine Ev_w [.ref q, .int v, .null, .null] ?_ (by decide) rfl (Nat.le_of_ble_eq_true rfl) rfl
  refine g_iconst (v := 0) dJ7_fill_53178_0 (by decide) ?_
  refine g_istore_n dJ7_fill_53178_1 (by decide) rfl ?_
  refine g_aload_n dJ7_fill_53178_2 rfl ?_
  refine g_alen (v := nI n) dJ7_fill_53178_3 hs rfl ?_
  refine g_istore_n dJ7_fill_53178_4 (by decide) rfl ?_
  refine g_g (r_fill_0 σ q v) ?_
  refine r_loop (n := n) (fun k => [.ref q, .int v, .int (nI k), .int (nI n)]) (fun k => r_fill σ q k v) (fun k hk ih => ?_) ?_
  · refine g_iload_n dJ7_fill_53178_5 rfl ?_
    refine g_iload_n dJ7_fill_53178_6 rfl ?_
    refine g_icge (tgt := 20) dJ7_fill_53178_7 (by decide) (fun c7 => absurd c7 (nI_ge hk (by omega))) (fun c7 => ?_)
    refine g_aload_n dJ7_fill_53178_10 rfl ?_
    refine g_iload_n dJ7_fill_53178_11 rfl ?_
    refine g_iload_n dJ7_fill_53178_12 rfl ?_
    refine g_ias _ dJ7_fill_53178_13 hs rfl hk ?_
    refine g_iinc (v := nI (k + 1)) dJ7_fill_53178_14 rfl (nI_1 k) (by decide) rfl ?_
    refine g_goto (tgt := 5) dJ7_fill_53178_17 (by decide) ?_
    exact g_g (r_fill_s σ q k v) ih
  · refine g_iload_n dJ7_fill_53178_5 rfl ?_
    refine g_iload_n dJ7_fill_53178_6 rfl ?_
    refine g_icge (tgt := 20) dJ7_fill_53178_7 (by decide) (fun c7 => ?_) (fun c7 => absurd (nI_le (Nat.le_refl _) (by omega)) c7)
    exact g_ret dJ7_fill_53178_20 rfl ⟨rfl, rfl⟩

set_option maxRecDepth 4000 in
theorem ev_X2_width {σ : r_Sg}  : Ev 0 MX2_width [.ref 1] σ (some (.int (σ 1 3 + σ 1 4))) σ := by
  refine Ev_w [.ref 1] ?_ (by decide) rfl (Nat.le_of_ble_eq_true rfl) rfl
  refine g_aload_n dX2_width_0 rfl ?_
  refine g_getI dX2_width_1 fX2_24 rfl rfl ?_
  refine g_aload_n dX2_width_4 rfl ?_
  refine g_getI dX2_width_5 fX2_28 rfl rfl ?_
  refine g_iadd dX2_width_8 ?_
  exact g_iret dX2_width_9 rfl ⟨rfl, rfl⟩

set_option maxRecDepth 4000 in
theorem ev_X2_stands {σ : r_Sg}  : Ev 0 MX2_stands [.ref 1] σ (some (.int (bI (0 < σ 1 4)))) σ := by
  refine Ev_w [.ref 1] ?_ (by decide) rfl (Nat.le_of_ble_eq_true rfl) rfl
  refine g_aload_n dX2_stands_0 rfl ?_
  refine g_getI dX2_stands_1 fX2_28 rfl rfl ?_
  refine g_ifle (tgt := 11) dX2_stands_4 (by decide) (fun c4 => ?_) (fun c4 => ?_)
  · refine g_iconst (v := 0) dX2_stands_11 (by decide) ?_
    exact g_zret dX2_stands_12 rfl (by first | exact Or.inl rfl | exact Or.inr rfl) ⟨by simp only [bI_0, Decidable.not_not, Int32.not_le, Int32.not_lt, Int32.lt_iff_toInt_lt, Int32.le_iff_toInt_le] at *; unfold bI; split <;> first | rfl | (exfalso; omega), rfl⟩
  · refine g_iconst (v := 1) dX2_stands_7 (by decide) ?_
    refine g_goto (tgt := 12) dX2_stands_8 (by decide) ?_
    exact g_zret dX2_stands_12 rfl (by first | exact Or.inl rfl | exact Or.inr rfl) ⟨by simp only [bI_0, Decidable.not_not, Int32.not_le, Int32.not_lt, Int32.lt_iff_toInt_lt, Int32.le_iff_toInt_le] at *; unfold bI; split <;> first | rfl | (exfalso; omega), rfl⟩

set_option maxRecDepth 4000 in
theorem ev_X2_allBits {σ : r_Sg}  : Ev 1 MX2_allBits [.ref 1] σ (some (.int ((1 <<< ((σ 1 3 + σ 1 4) &&& 31)) - 1))) σ := by
  refine Ev_w [.ref 1] ?_ (by decide) rfl (Nat.le_of_ble_eq_true rfl) rfl
  refine g_iconst (v := 1) dX2_allBits_0 (by decide) ?_
  refine g_aload_n dX2_allBits_1 rfl ?_
  refine g_V0 dX2_allBits_2 vX2_60 rfl (Nat.le_of_ble_eq_true rfl) (by decide) (ev_X2_width) ?_
  refine g_ishl dX2_allBits_5 ?_
  refine g_iconst (v := 1) dX2_allBits_6 (by decide) ?_
  refine g_isub dX2_allBits_7 ?_
  exact g_iret dX2_allBits_8 rfl ⟨rfl, rfl⟩

set_option maxRecDepth 4000 in
theorem ev_X2_hasBit {σ : r_Sg} {b : Int32}  : Ev 1 MX2_hasBit [.ref 1, .int b] σ (some (.int (bI (0 ≤ b ∧ b < σ 1 3 + σ 1 4)))) σ := by
  refine Ev_w [.ref 1, .int b] ?_ (by decide) rfl (Nat.le_of_ble_eq_true rfl) rfl
  refine g_iload_n dX2_hasBit_0 rfl ?_
  refine g_iflt (tgt := 16) dX2_hasBit_1 (by decide) (fun c1 => ?_) (fun c1 => ?_)
  · refine g_iconst (v := 0) dX2_hasBit_16 (by decide) ?_
    exact g_zret dX2_hasBit_17 rfl (by first | exact Or.inl rfl | exact Or.inr rfl) ⟨by simp only [bI_0, Decidable.not_not, Int32.not_le, Int32.not_lt, Int32.lt_iff_toInt_lt, Int32.le_iff_toInt_le] at *; unfold bI; split <;> first | rfl | (exfalso; omega), rfl⟩
  · refine g_iload_n dX2_hasBit_4 rfl ?_
    refine g_aload_n dX2_hasBit_5 rfl ?_
    refine g_V0 dX2_hasBit_6 vX2_60 rfl (Nat.le_of_ble_eq_true rfl) (by decide) (ev_X2_width) ?_
    refine g_icge (tgt := 16) dX2_hasBit_9 (by decide) (fun c9 => ?_) (fun c9 => ?_)
    · refine g_iconst (v := 0) dX2_hasBit_16 (by decide) ?_
      exact g_zret dX2_hasBit_17 rfl (by first | exact Or.inl rfl | exact Or.inr rfl) ⟨by simp only [bI_0, Decidable.not_not, Int32.not_le, Int32.not_lt, Int32.lt_iff_toInt_lt, Int32.le_iff_toInt_le] at *; unfold bI; split <;> first | rfl | (exfalso; omega), rfl⟩
    · refine g_iconst (v := 1) dX2_hasBit_12 (by decide) ?_
      refine g_goto (tgt := 17) dX2_hasBit_13 (by decide) ?_
      exact g_zret dX2_hasBit_17 rfl (by first | exact Or.inl rfl | exact Or.inr rfl) ⟨by simp only [bI_0, Decidable.not_not, Int32.not_le, Int32.not_lt, Int32.lt_iff_toInt_lt, Int32.le_iff_toInt_le] at *; unfold bI; split <;> first | rfl | (exfalso; omega), rfl⟩

set_option maxRecDepth 4000 in
theorem ev_X2_hasRow {σ : r_Sg} {b : Int32}  : Ev 0 MX2_hasRow [.ref 1, .int b] σ (some (.int (bI (0 ≤ b ∧ b < σ 1 4)))) σ := by
  refine Ev_w [.ref 1, .int b] ?_ (by decide) rfl (Nat.le_of_ble_eq_true rfl) rfl
  refine g_iload_n dX2_hasRow_0 rfl ?_
  refine g_iflt (tgt := 16) dX2_hasRow_1 (by decide) (fun c1 => ?_) (fun c1 => ?_)
  · refine g_iconst (v := 0) dX2_hasRow_16 (by decide) ?_
    exact g_zret dX2_hasRow_17 rfl (by first | exact Or.inl rfl | exact Or.inr rfl) ⟨by simp only [bI_0, Decidable.not_not, Int32.not_le, Int32.not_lt, Int32.lt_iff_toInt_lt, Int32.le_iff_toInt_le] at *; unfold bI; split <;> first | rfl | (exfalso; omega), rfl⟩
  · refine g_iload_n dX2_hasRow_4 rfl ?_
    refine g_aload_n dX2_hasRow_5 rfl ?_
    refine g_getI dX2_hasRow_6 fX2_28 rfl rfl ?_
    refine g_icge (tgt := 16) dX2_hasRow_9 (by decide) (fun c9 => ?_) (fun c9 => ?_)
    · refine g_iconst (v := 0) dX2_hasRow_16 (by decide) ?_
      exact g_zret dX2_hasRow_17 rfl (by first | exact Or.inl rfl | exact Or.inr rfl) ⟨by simp only [bI_0, Decidable.not_not, Int32.not_le, Int32.not_lt, Int32.lt_iff_toInt_lt, Int32.le_iff_toInt_le] at *; unfold bI; split <;> first | rfl | (exfalso; omega), rfl⟩
    · refine g_iconst (v := 1) dX2_hasRow_12 (by decide) ?_
      refine g_goto (tgt := 17) dX2_hasRow_13 (by decide) ?_
      exact g_zret dX2_hasRow_17 rfl (by first | exact Or.inl rfl | exact Or.inr rfl) ⟨by simp only [bI_0, Decidable.not_not, Int32.not_le, Int32.not_lt, Int32.lt_iff_toInt_lt, Int32.le_iff_toInt_le] at *; unfold bI; split <;> first | rfl | (exfalso; omega), rfl⟩

set_option maxRecDepth 4000 in
theorem ev_X2_hasPlace {σ : r_Sg} {b : Int32}  : Ev 1 MX2_hasPlace [.ref 1, .int b] σ (some (.int (bI (0 < σ 1 4 ∧ 0 ≤ b ∧ b ≤ σ 1 3 + σ 1 4)))) σ := by
  refine Ev_w [.ref 1, .int b] ?_ (by decide) rfl (Nat.le_of_ble_eq_true rfl) rfl
  refine g_aload_n dX2_hasPlace_0 rfl ?_
  refine g_V0 dX2_hasPlace_1 vX2_63 rfl (Nat.le_of_ble_eq_true rfl) (by decide) (ev_X2_stands) ?_
  refine g_ifeq (tgt := 23) dX2_hasPlace_4 (by decide) (fun c4 => ?_) (fun c4 => ?_)
  · refine g_iconst (v := 0) dX2_hasPlace_23 (by decide) ?_
    exact g_zret dX2_hasPlace_24 rfl (by first | exact Or.inl rfl | exact Or.inr rfl) ⟨by simp only [bI_0, Decidable.not_not, Int32.not_le, Int32.not_lt, Int32.lt_iff_toInt_lt, Int32.le_iff_toInt_le] at *; unfold bI; split <;> first | rfl | (exfalso; omega), rfl⟩
  · refine g_iload_n dX2_hasPlace_7 rfl ?_
    refine g_iflt (tgt := 23) dX2_hasPlace_8 (by decide) (fun c8 => ?_) (fun c8 => ?_)
    · refine g_iconst (v := 0) dX2_hasPlace_23 (by decide) ?_
      exact g_zret dX2_hasPlace_24 rfl (by first | exact Or.inl rfl | exact Or.inr rfl) ⟨by simp only [bI_0, Decidable.not_not, Int32.not_le, Int32.not_lt, Int32.lt_iff_toInt_lt, Int32.le_iff_toInt_le] at *; unfold bI; split <;> first | rfl | (exfalso; omega), rfl⟩
    · refine g_iload_n dX2_hasPlace_11 rfl ?_
      refine g_aload_n dX2_hasPlace_12 rfl ?_
      refine g_V0 dX2_hasPlace_13 vX2_60 rfl (Nat.le_of_ble_eq_true rfl) (by decide) (ev_X2_width) ?_
      refine g_icgt (tgt := 23) dX2_hasPlace_16 (by decide) (fun c16 => ?_) (fun c16 => ?_)
      · refine g_iconst (v := 0) dX2_hasPlace_23 (by decide) ?_
        exact g_zret dX2_hasPlace_24 rfl (by first | exact Or.inl rfl | exact Or.inr rfl) ⟨by simp only [bI_0, Decidable.not_not, Int32.not_le, Int32.not_lt, Int32.lt_iff_toInt_lt, Int32.le_iff_toInt_le] at *; unfold bI; split <;> first | rfl | (exfalso; omega), rfl⟩
      · refine g_iconst (v := 1) dX2_hasPlace_19 (by decide) ?_
        refine g_goto (tgt := 24) dX2_hasPlace_20 (by decide) ?_
        exact g_zret dX2_hasPlace_24 rfl (by first | exact Or.inl rfl | exact Or.inr rfl) ⟨by simp only [bI_0, Decidable.not_not, Int32.not_le, Int32.not_lt, Int32.lt_iff_toInt_lt, Int32.le_iff_toInt_le] at *; unfold bI; split <;> first | rfl | (exfalso; omega), rfl⟩

set_option maxRecDepth 4000 in
theorem ev_X2_hasValue {σ : r_Sg} {b : Int32}  : Ev 0 MX2_hasValue [.ref 1, .int b] σ (some (.int (bI (0 ≤ b ∧ b < 1 <<< (σ 1 3 &&& 31))))) σ := by
  refine Ev_w [.ref 1, .int b] ?_ (by decide) rfl (Nat.le_of_ble_eq_true rfl) rfl
  refine g_iload_n dX2_hasValue_0 rfl ?_
  refine g_iflt (tgt := 18) dX2_hasValue_1 (by decide) (fun c1 => ?_) (fun c1 => ?_)
  · refine g_iconst (v := 0) dX2_hasValue_18 (by decide) ?_
    exact g_zret dX2_hasValue_19 rfl (by first | exact Or.inl rfl | exact Or.inr rfl) ⟨by simp only [bI_0, Decidable.not_not, Int32.not_le, Int32.not_lt, Int32.lt_iff_toInt_lt, Int32.le_iff_toInt_le] at *; unfold bI; split <;> first | rfl | (exfalso; omega), rfl⟩
  · refine g_iload_n dX2_hasValue_4 rfl ?_
    refine g_iconst (v := 1) dX2_hasValue_5 (by decide) ?_
    refine g_aload_n dX2_hasValue_6 rfl ?_
    refine g_getI dX2_hasValue_7 fX2_24 rfl rfl ?_
    refine g_ishl dX2_hasValue_10 ?_
    refine g_icge (tgt := 18) dX2_hasValue_11 (by decide) (fun c11 => ?_) (fun c11 => ?_)
    · refine g_iconst (v := 0) dX2_hasValue_18 (by decide) ?_
      exact g_zret dX2_hasValue_19 rfl (by first | exact Or.inl rfl | exact Or.inr rfl) ⟨by simp only [bI_0, Decidable.not_not, Int32.not_le, Int32.not_lt, Int32.lt_iff_toInt_lt, Int32.le_iff_toInt_le] at *; unfold bI; split <;> first | rfl | (exfalso; omega), rfl⟩
    · refine g_iconst (v := 1) dX2_hasValue_14 (by decide) ?_
      refine g_goto (tgt := 19) dX2_hasValue_15 (by decide) ?_
      exact g_zret dX2_hasValue_19 rfl (by first | exact Or.inl rfl | exact Or.inr rfl) ⟨by simp only [bI_0, Decidable.not_not, Int32.not_le, Int32.not_lt, Int32.lt_iff_toInt_lt, Int32.le_iff_toInt_le] at *; unfold bI; split <;> first | rfl | (exfalso; omega), rfl⟩

set_option maxRecDepth 4000 in
theorem ev_X2_hasSet {σ : r_Sg} {b : Int32}  : Ev 2 MX2_hasSet [.ref 1, .int b] σ (some (.int (bI (0 ≤ b ∧ b ≤ (1 <<< ((σ 1 3 + σ 1 4) &&& 31)) - 1)))) σ := by
  refine Ev_w [.ref 1, .int b] ?_ (by decide) rfl (Nat.le_of_ble_eq_true rfl) rfl
  refine g_iload_n dX2_hasSet_0 rfl ?_
  refine g_iflt (tgt := 16) dX2_hasSet_1 (by decide) (fun c1 => ?_) (fun c1 => ?_)
  · refine g_iconst (v := 0) dX2_hasSet_16 (by decide) ?_
    exact g_zret dX2_hasSet_17 rfl (by first | exact Or.inl rfl | exact Or.inr rfl) ⟨by simp only [bI_0, Decidable.not_not, Int32.not_le, Int32.not_lt, Int32.lt_iff_toInt_lt, Int32.le_iff_toInt_le] at *; unfold bI; split <;> first | rfl | (exfalso; omega), rfl⟩
  · refine g_iload_n dX2_hasSet_4 rfl ?_
    refine g_aload_n dX2_hasSet_5 rfl ?_
    refine g_V0 dX2_hasSet_6 vX2_67 rfl (Nat.le_of_ble_eq_true rfl) (by decide) (ev_X2_allBits) ?_
    refine g_icgt (tgt := 16) dX2_hasSet_9 (by decide) (fun c9 => ?_) (fun c9 => ?_)
    · refine g_iconst (v := 0) dX2_hasSet_16 (by decide) ?_
      exact g_zret dX2_hasSet_17 rfl (by first | exact Or.inl rfl | exact Or.inr rfl) ⟨by simp only [bI_0, Decidable.not_not, Int32.not_le, Int32.not_lt, Int32.lt_iff_toInt_lt, Int32.le_iff_toInt_le] at *; unfold bI; split <;> first | rfl | (exfalso; omega), rfl⟩
    · refine g_iconst (v := 1) dX2_hasSet_12 (by decide) ?_
      refine g_goto (tgt := 17) dX2_hasSet_13 (by decide) ?_
      exact g_zret dX2_hasSet_17 rfl (by first | exact Or.inl rfl | exact Or.inr rfl) ⟨by simp only [bI_0, Decidable.not_not, Int32.not_le, Int32.not_lt, Int32.lt_iff_toInt_lt, Int32.le_iff_toInt_le] at *; unfold bI; split <;> first | rfl | (exfalso; omega), rfl⟩

set_option maxRecDepth 4000 in
theorem ev_X2_columnOf {σ : r_Sg} {j : Nat} (hj : j < 20) : Ev 0 MX2_columnOf [.ref 1, .int (nI j)] σ (some (.int (σ 2 j))) σ := by
  refine Ev_w [.ref 1, .int (nI j)] ?_ (by decide) rfl (Nat.le_of_ble_eq_true rfl) rfl
  refine g_aload_n dX2_columnOf_0 rfl ?_
  refine g_getR dX2_columnOf_1 fX2_11 rfl rfl ?_
  refine g_iload_n dX2_columnOf_4 rfl ?_
  refine g_ial _ dX2_columnOf_5 rfl rfl (by omega) ?_
  exact g_iret dX2_columnOf_6 rfl ⟨rfl, rfl⟩

set_option maxRecDepth 4000 in
theorem ev_X2_onesOfRow {σ : r_Sg} {j : Nat} (hj : j < 6) : Ev 0 MX2_onesOfRow [.ref 1, .int (nI j)] σ (some (.int (σ 3 j))) σ := by
  refine Ev_w [.ref 1, .int (nI j)] ?_ (by decide) rfl (Nat.le_of_ble_eq_true rfl) rfl
  refine g_aload_n dX2_onesOfRow_0 rfl ?_
  refine g_getR dX2_onesOfRow_1 fX2_15 rfl rfl ?_
  refine g_iload_n dX2_onesOfRow_4 rfl ?_
  refine g_ial _ dX2_onesOfRow_5 rfl rfl (by omega) ?_
  exact g_iret dX2_onesOfRow_6 rfl ⟨rfl, rfl⟩

set_option maxRecDepth 4000 in
theorem ev_X2_bitWithColumn {σ : r_Sg} {j : Nat} (hj : j < 64) : Ev 0 MX2_bitWithColumn [.ref 1, .int (nI j)] σ (some (.int (σ 4 j))) σ := by
  refine Ev_w [.ref 1, .int (nI j)] ?_ (by decide) rfl (Nat.le_of_ble_eq_true rfl) rfl
  refine g_aload_n dX2_bitWithColumn_0 rfl ?_
  refine g_getR dX2_bitWithColumn_1 fX2_18 rfl rfl ?_
  refine g_iload_n dX2_bitWithColumn_4 rfl ?_
  refine g_ial _ dX2_bitWithColumn_5 rfl rfl (by omega) ?_
  exact g_iret dX2_bitWithColumn_6 rfl ⟨rfl, rfl⟩

set_option maxRecDepth 4000 in
theorem ev_X2_onesOfAllRows {σ : r_Sg} {c : Nat} (hc : σ 1 4 = nI c) (hc6 : c ≤ 6) : Ev 0 MX2_onesOfAllRows [.ref 1] σ (some (.int (r_sum (σ 3) c))) σ := by
  refine Ev_w [.ref 1, .null, .null] ?_ (by decide) rfl (Nat.le_of_ble_eq_true rfl) rfl
  refine g_iconst (v := 0) dX2_onesOfAllRows_0 (by decide) ?_
  refine g_istore_n dX2_onesOfAllRows_1 (by decide) rfl ?_
  refine g_iconst (v := 0) dX2_onesOfAllRows_2 (by decide) ?_
  refine g_istore_n dX2_onesOfAllRows_3 (by decide) rfl ?_
  refine r_loop (n := c) (fun k => [.ref 1, .int (r_sum (σ 3) k), .int (nI k)]) (fun k => σ) (fun k hk ih => ?_) ?_
  · refine g_iload_n dX2_onesOfAllRows_4 rfl ?_
    refine g_aload_n dX2_onesOfAllRows_5 rfl ?_
    refine g_getI dX2_onesOfAllRows_6 fX2_28 rfl rfl ?_
    refine g_t hc ?_
    refine g_icge (tgt := 27) dX2_onesOfAllRows_9 (by decide) (fun c9 => absurd c9 (nI_ge hk (by omega))) (fun c9 => ?_)
    refine g_iload_n dX2_onesOfAllRows_12 rfl ?_
    refine g_aload_n dX2_onesOfAllRows_13 rfl ?_
    refine g_getR dX2_onesOfAllRows_14 fX2_15 rfl rfl ?_
    refine g_iload_n dX2_onesOfAllRows_17 rfl ?_
    refine g_ial _ dX2_onesOfAllRows_18 rfl rfl (by omega) ?_
    refine g_iadd dX2_onesOfAllRows_19 ?_
    refine g_istore_n dX2_onesOfAllRows_20 (by decide) rfl ?_
    refine g_iinc (v := nI (k + 1)) dX2_onesOfAllRows_21 rfl (nI_1 k) (by decide) rfl ?_
    refine g_goto (tgt := 4) dX2_onesOfAllRows_24 (by decide) ?_
    exact ih
  · refine g_iload_n dX2_onesOfAllRows_4 rfl ?_
    refine g_aload_n dX2_onesOfAllRows_5 rfl ?_
    refine g_getI dX2_onesOfAllRows_6 fX2_28 rfl rfl ?_
    refine g_t hc ?_
    refine g_icge (tgt := 27) dX2_onesOfAllRows_9 (by decide) (fun c9 => ?_) (fun c9 => absurd (nI_le (Nat.le_refl _) (by omega)) c9)
    refine g_iload_n dX2_onesOfAllRows_27 rfl ?_
    exact g_iret dX2_onesOfAllRows_28 rfl ⟨rfl, rfl⟩

set_option maxRecDepth 4000 in
theorem ev_X2_syndromeOf {σ : r_Sg} {w : Nat} {set : Int32} (hw : σ 1 3 + σ 1 4 = nI w) (hw20 : w ≤ 20) : Ev 1 MX2_syndromeOf [.ref 1, .int set] σ (some (.int (r_syn (σ 2) set w))) σ := by
  refine Ev_w [.ref 1, .int set, .null, .null] ?_ (by decide) rfl (Nat.le_of_ble_eq_true rfl) rfl
  refine g_iconst (v := 0) dX2_syndromeOf_0 (by decide) ?_
  refine g_istore_n dX2_syndromeOf_1 (by decide) rfl ?_
  refine g_iconst (v := 0) dX2_syndromeOf_2 (by decide) ?_
  refine g_istore_n dX2_syndromeOf_3 (by decide) rfl ?_
  refine r_loop (n := w) (fun k => [.ref 1, .int set, .int (r_syn (σ 2) set k), .int (nI k)]) (fun k => σ) (fun k hk ih => ?_) ?_
  · refine g_iload_n dX2_syndromeOf_4 rfl ?_
    refine g_aload_n dX2_syndromeOf_5 rfl ?_
    refine g_V0 dX2_syndromeOf_6 vX2_60 rfl (Nat.le_of_ble_eq_true rfl) (by decide) (Ev_r ev_X2_width (by rw [hw])) ?_
    refine g_icge (tgt := 35) dX2_syndromeOf_9 (by decide) (fun c9 => absurd c9 (nI_ge hk (by omega))) (fun c9 => ?_)
    refine g_iload_n dX2_syndromeOf_12 rfl ?_
    refine g_iload_n dX2_syndromeOf_13 rfl ?_
    refine g_ishr dX2_syndromeOf_14 ?_
    refine g_iconst (v := 1) dX2_syndromeOf_15 (by decide) ?_
    refine g_iand dX2_syndromeOf_16 ?_
    refine g_ifeq (tgt := 29) dX2_syndromeOf_17 (by decide) (fun c17 => ?_) (fun c17 => ?_)
    · refine g_iinc (v := nI (k + 1)) dX2_syndromeOf_29 rfl (nI_1 k) (by decide) rfl ?_
      refine g_goto (tgt := 4) dX2_syndromeOf_32 (by decide) ?_
      exact g_l (by simp [r_ls, r_syn, r_b, c17]) ih
    · refine g_iload_n dX2_syndromeOf_20 rfl ?_
      refine g_aload_n dX2_syndromeOf_21 rfl ?_
      refine g_getR dX2_syndromeOf_22 fX2_11 rfl rfl ?_
      refine g_iload_n dX2_syndromeOf_25 rfl ?_
      refine g_ial _ dX2_syndromeOf_26 rfl rfl (by omega) ?_
      refine g_ixor dX2_syndromeOf_27 ?_
      refine g_istore_n dX2_syndromeOf_28 (by decide) rfl ?_
      refine g_iinc (v := nI (k + 1)) dX2_syndromeOf_29 rfl (nI_1 k) (by decide) rfl ?_
      refine g_goto (tgt := 4) dX2_syndromeOf_32 (by decide) ?_
      exact g_l (by simp [r_ls, r_syn, r_b, c17]) ih
  · refine g_iload_n dX2_syndromeOf_4 rfl ?_
    refine g_aload_n dX2_syndromeOf_5 rfl ?_
    refine g_V0 dX2_syndromeOf_6 vX2_60 rfl (Nat.le_of_ble_eq_true rfl) (by decide) (Ev_r ev_X2_width (by rw [hw])) ?_
    refine g_icge (tgt := 35) dX2_syndromeOf_9 (by decide) (fun c9 => ?_) (fun c9 => absurd (nI_le (Nat.le_refl _) (by omega)) c9)
    refine g_iload_n dX2_syndromeOf_35 rfl ?_
    exact g_iret dX2_syndromeOf_36 rfl ⟨rfl, rfl⟩

set_option maxRecDepth 4000 in
theorem ev_X2_wordOf {σ : r_Sg} {w : Nat} {v : Int32} (hw : σ 1 3 + σ 1 4 = nI w) (hw20 : w ≤ 20) : Ev 2 MX2_wordOf [.ref 1, .int v] σ (some (.int (v ||| (r_syn (σ 2) v w <<< (σ 1 3 &&& 31))))) σ := by
  refine Ev_w [.ref 1, .int v] ?_ (by decide) rfl (Nat.le_of_ble_eq_true rfl) rfl
  refine g_iload_n dX2_wordOf_0 rfl ?_
  refine g_aload_n dX2_wordOf_1 rfl ?_
  refine g_iload_n dX2_wordOf_2 rfl ?_
  refine g_V1 dX2_wordOf_3 vX2_70 rfl (Nat.le_of_ble_eq_true rfl) (by decide) (ev_X2_syndromeOf (by first | assumption | omega) (by first | assumption | omega)) ?_
  refine g_aload_n dX2_wordOf_6 rfl ?_
  refine g_getI dX2_wordOf_7 fX2_24 rfl rfl ?_
  refine g_ishl dX2_wordOf_10 ?_
  refine g_ior dX2_wordOf_11 ?_
  exact g_iret dX2_wordOf_12 rfl ⟨rfl, rfl⟩

set_option maxRecDepth 4000 in
theorem ev_X2_valueOf {σ : r_Sg} {v : Int32}  : Ev 0 MX2_valueOf [.ref 1, .int v] σ (some (.int (v &&& ((1 <<< (σ 1 3 &&& 31)) - 1)))) σ := by
  refine Ev_w [.ref 1, .int v] ?_ (by decide) rfl (Nat.le_of_ble_eq_true rfl) rfl
  refine g_iload_n dX2_valueOf_0 rfl ?_
  refine g_iconst (v := 1) dX2_valueOf_1 (by decide) ?_
  refine g_aload_n dX2_valueOf_2 rfl ?_
  refine g_getI dX2_valueOf_3 fX2_24 rfl rfl ?_
  refine g_ishl dX2_valueOf_6 ?_
  refine g_iconst (v := 1) dX2_valueOf_7 (by decide) ?_
  refine g_isub dX2_valueOf_8 ?_
  refine g_iand dX2_valueOf_9 ?_
  exact g_iret dX2_valueOf_10 rfl ⟨rfl, rfl⟩

def r_mend (σ : r_Sg) (set y : Int32) : Int32 := if y = 0 then set else if σ 4 y.toNatClampNeg = -9 then -5 else set ^^^ (1 <<< (σ 4 y.toNatClampNeg &&& 31))

set_option maxRecDepth 4000 in
theorem ev_X2_mend {σ : r_Sg} {w y : Nat} {v : Int32} (hw : σ 1 3 + σ 1 4 = nI w) (hw20 : w ≤ 20) (hy : r_syn (σ 2) v w = nI y) (hy64 : y < 64) : Ev 2 MX2_mend [.ref 1, .int v] σ (some (.int (r_mend σ v (nI y)))) σ := by
  refine Ev_w [.ref 1, .int v, .null, .null] ?_ (by decide) rfl (Nat.le_of_ble_eq_true rfl) rfl
  refine g_aload_n dX2_mend_0 rfl ?_
  refine g_iload_n dX2_mend_1 rfl ?_
  refine g_V1 dX2_mend_2 vX2_70 rfl (Nat.le_of_ble_eq_true rfl) (by decide) (Ev_r (ev_X2_syndromeOf hw hw20) (by rw [hy])) ?_
  refine g_istore_n dX2_mend_5 (by decide) rfl ?_
  refine g_iload_n dX2_mend_6 rfl ?_
  refine g_ifne (tgt := 12) dX2_mend_7 (by decide) (fun c7 => ?_) (fun c7 => ?_)
  · refine g_aload_n dX2_mend_12 rfl ?_
    refine g_getR dX2_mend_13 fX2_18 rfl rfl ?_
    refine g_iload_n dX2_mend_16 rfl ?_
    refine g_ial _ dX2_mend_17 rfl rfl (by omega) ?_
    refine g_istore_n dX2_mend_18 (by decide) rfl ?_
    refine g_iload_n dX2_mend_19 rfl ?_
    refine g_bipush (v := (-9)) dX2_mend_20 (by decide) ?_
    refine g_icne (tgt := 30) dX2_mend_22 (by decide) (fun c22 => ?_) (fun c22 => ?_)
    · refine g_iload_n dX2_mend_30 rfl ?_
      refine g_iconst (v := 1) dX2_mend_31 (by decide) ?_
      refine g_iload_n dX2_mend_32 rfl ?_
      refine g_ishl dX2_mend_33 ?_
      refine g_ixor dX2_mend_34 ?_
      exact g_iret dX2_mend_35 rfl ⟨by simp [r_mend, nI_clamp (show y < 2 ^ 31 by omega), *], rfl⟩
    · refine g_bipush (v := (-5)) dX2_mend_25 (by decide) ?_
      refine g_goto (tgt := 35) dX2_mend_27 (by decide) ?_
      exact g_iret dX2_mend_35 rfl ⟨by simp [r_mend, nI_clamp (show y < 2 ^ 31 by omega), *], rfl⟩
  · refine g_iload_n dX2_mend_10 rfl ?_
    exact g_iret dX2_mend_11 rfl ⟨by simp [r_mend, nI_clamp (show y < 2 ^ 31 by omega), *], rfl⟩
