/-! Bank (cell 5), as it is written; w places in use, the swapped bit sb, the frames fr, nr of them retired -/
def r_sbI : Option Nat → Int32
  | none => -9
  | some b => nI b
def r_BH (σ : r_Sg) (w : Nat) (sb : Option Nat) (fr : Nat → Nat) (nr : Nat) : Prop := σ 1 3 + σ 1 4 = nI w ∧ w ≤ 20 ∧ σ 5 8 = nI w ∧ σ 5 7 = r_sbI sb ∧ (∀ b, sb = some b → b < w) ∧ (∀ p, p < 4 → σ 14 p = nI (fr p) ∧ fr p < 6) ∧ σ 5 6 = nI nr ∧ nr ≤ 2
theorem r_BH.to {σ σ' : r_Sg} {w : Nat} {sb : Option Nat} {fr : Nat → Nat} {nr : Nat} (h : r_BH σ w sb fr nr) (h1 : σ' 1 = σ 1) (h5 : σ' 5 = σ 5) (h14 : σ' 14 = σ 14) : r_BH σ' w sb fr nr := by
  unfold r_BH
  rw [h1, h5, h14]
  exact h
theorem r_nm9 {n : Nat} (h : n < 2 ^ 31) : ¬ nI n = -9 := by
  intro e
  have h1 := congrArg Int32.toInt e
  rw [nI_toInt h] at h1
  have h2 : (-9 : Int32).toInt = -9 := rfl
  omega
def r_all (w : Nat) : Int32 := (1 <<< (nI w &&& 31)) - 1
def r_po (w : Nat) (sb : Option Nat) (set : Int32) : Int32 := match sb with
  | none => set
  | some s => (set &&& (r_bm s ^^^ -1)) ||| (r_b set s <<< (nI w &&& 31))
def r_bo (w : Nat) (sb : Option Nat) (x : Int32) : Int32 := match sb with
  | none => x &&& r_all w
  | some s => (x &&& r_all w &&& (r_bm s ^^^ -1)) ||| (r_b x w <<< (nI s &&& 31))
/-- the place of a bit -/
def r_pl (w : Nat) (sb : Option Nat) (b : Nat) : Nat := if sb = some b then w else b
theorem r_pl_lt {w b : Nat} (sb : Option Nat) (hb : b < w) (hw : w ≤ 20) : r_pl w sb b < 21 := by unfold r_pl; split <;> omega
def c_du1 (σ : r_Sg) (sb : Option Nat) (b : Nat) : Bool := decide (sb = none ∧ 3 ≤ r_cna (fun r => decide (2 ≤ σ 9 (21 * r + b))) 0 24)
def c_sw (σ : r_Sg) (w : Nat) (sb : Option Nat) (b : Nat) : r_Sg := if c_du1 σ sb b then r_up (c_cp σ b w 24) 5 7 (nI b) else σ
def c_swb (σ : r_Sg) (sb : Option Nat) (b : Nat) : Option Nat := if c_du1 σ sb b then some b else sb
def c_du2 (σ : r_Sg) (w : Nat) (sb : Option Nat) (fr : Nat → Nat) (nr p : Nat) : Bool := decide (¬ nr = 2 ∧ 4 ≤ c_bf σ (fr p) (r_po w sb (r_all w)) 4)
def c_rt (σ : r_Sg) (w : Nat) (sb : Option Nat) (fr : Nat → Nat) (nr p : Nat) : r_Sg := if c_du2 σ w sb fr nr p then r_up (r_up (r_up (c_cfo σ (fr p) (4 + nr) 4) 14 p (nI (4 + nr))) 16 nr (nI (fr p))) 5 6 (nI nr + 1) else σ
def c_pb (σ : r_Sg) (w : Nat) (sb : Option Nat) (R : Nat) (set : Int32) : r_Sg := r_up σ 7 R (r_pt (σ 7 R) (σ 8 R) (r_po w sb set) (r_po w sb (r_all w)))
/-- what the copies leave as it was -/
theorem c_ren_o (σ : r_Sg) (r p : Nat) (v : Int32) {q : Nat} (h7 : q ≠ 7) (h8 : q ≠ 8) (h9 : q ≠ 9) : c_ren σ r p v q = σ q := by simp [c_ren, r_up, h7, h8, h9]
theorem c_cp_o (σ : r_Sg) (a b : Nat) {q : Nat} (h7 : q ≠ 7) (h8 : q ≠ 8) (h9 : q ≠ 9) : ∀ n, c_cp σ a b n q = σ q
  | 0 => rfl
  | n + 1 => by rw [c_cp, c_ren_o _ _ _ _ h7 h8 h9, c_cp_o σ a b h7 h8 h9 n]
theorem c_cfi_o (σ : r_Sg) (a b : Nat) {q : Nat} (h7 : q ≠ 7) (h8 : q ≠ 8) (h9 : q ≠ 9) : ∀ n, c_cfi σ a b n q = σ q
  | 0 => rfl
  | n + 1 => by rw [c_cfi, c_ren_o _ _ _ _ h7 h8 h9, c_cfi_o σ a b h7 h8 h9 n]
theorem c_cfo_o (σ : r_Sg) (a b : Nat) {q : Nat} (h7 : q ≠ 7) (h8 : q ≠ 8) (h9 : q ≠ 9) : ∀ n, c_cfo σ a b n q = σ q
  | 0 => rfl
  | n + 1 => by rw [c_cfo, c_cfi_o _ _ _ h7 h8 h9, c_cfo_o σ a b h7 h8 h9 n]
theorem c_swBH {σ : r_Sg} {w : Nat} {sb : Option Nat} {fr : Nat → Nat} {nr b : Nat} (h : r_BH σ w sb fr nr) (hb : b < w) : r_BH (c_sw σ w sb b) w (c_swb σ sb b) fr nr := by
  unfold c_sw c_swb
  split
  · obtain ⟨h1, h2, h3, h4, h5, h6, h7, h8⟩ := h
    have e1 : c_cp σ b w 24 1 = σ 1 := c_cp_o σ b w (by decide) (by decide) (by decide) 24
    have e5 : c_cp σ b w 24 5 = σ 5 := c_cp_o σ b w (by decide) (by decide) (by decide) 24
    have e14 : c_cp σ b w 24 14 = σ 14 := c_cp_o σ b w (by decide) (by decide) (by decide) 24
    refine ⟨?_, h2, ?_, ?_, ?_, ?_, ?_, h8⟩
    · simpa [r_up, e1] using h1
    · simpa [r_up, upd, e5] using h3
    · simp [r_up, upd, r_sbI]
    · intro z hz; cases hz; exact hb
    · simpa [r_up, e14] using h6
    · simpa [r_up, upd, e5] using h7
  · exact h

set_option maxRecDepth 4000 in
theorem ev_X0_frameOf {σ : r_Sg} {p : Nat} (hp : p < 4) : Ev 0 MX0_frameOf [.ref 5, .int (nI p)] σ (some (.int (σ 14 p))) σ := by
  refine Ev_w [.ref 5, .int (nI p)] ?_ (by decide) rfl (Nat.le_of_ble_eq_true rfl) rfl
  refine g_aload_n dX0_frameOf_0 rfl ?_
  refine g_getR dX0_frameOf_1 fX0_25 rfl rfl ?_
  refine g_iload_n dX0_frameOf_4 rfl ?_
  refine g_ial _ dX0_frameOf_5 rfl rfl (by omega) ?_
  exact g_iret dX0_frameOf_6 rfl ⟨rfl, rfl⟩

set_option maxRecDepth 4000 in
theorem ev_X0_rowOf {σ : r_Sg} {w : Nat} {sb : Option Nat} {fr : Nat → Nat} {nr : Nat} {p v : Nat} (h : r_BH σ w sb fr nr) (hp : p < 4) : Ev 0 MX0_rowOf [.ref 5, .int (nI p), .int (nI v)] σ (some (.int (nI (4 * fr p + v)))) σ := by
  refine Ev_w [.ref 5, .int (nI p), .int (nI v)] ?_ (by decide) rfl (Nat.le_of_ble_eq_true rfl) rfl
  refine g_aload_n dX0_rowOf_0 rfl ?_
  refine g_getR dX0_rowOf_1 fX0_25 rfl rfl ?_
  refine g_iload_n dX0_rowOf_4 rfl ?_
  refine g_ial _ dX0_rowOf_5 rfl rfl (by omega) ?_
  refine g_t (h.2.2.2.2.2.1 p hp).1 ?_
  refine g_iconst (v := nI 4) dX0_rowOf_6 (by decide) ?_
  refine g_imul dX0_rowOf_7 ?_
  refine g_iload_n dX0_rowOf_8 rfl ?_
  refine g_iadd dX0_rowOf_9 ?_
  refine g_t (r_rx (fr p) v) ?_
  exact g_iret dX0_rowOf_10 rfl ⟨rfl, rfl⟩

set_option maxRecDepth 4000 in
theorem ev_X0_placesOf_n {σ : r_Sg} {w : Nat} {fr : Nat → Nat} {nr : Nat} {a : Int32} (h : r_BH σ w none fr nr) : Ev 0 MX0_placesOf [.ref 5, .int a] σ (some (.int (r_po w none a))) σ := by
  refine Ev_w [.ref 5, .int a] ?_ (by decide) rfl (Nat.le_of_ble_eq_true rfl) rfl
  refine g_aload_n dX0_placesOf_0 rfl ?_
  refine g_getI dX0_placesOf_1 fX0_35 rfl rfl ?_
  refine g_t h.2.2.2.1 ?_
  refine g_bipush (v := (-9)) dX0_placesOf_4 (by decide) ?_
  refine g_icne (tgt := 11) dX0_placesOf_6 (by decide) (fun c6 => absurd rfl c6) (fun c6 => ?_)
  refine g_iload_n dX0_placesOf_9 rfl ?_
  exact g_iret dX0_placesOf_10 rfl ⟨rfl, rfl⟩

set_option maxRecDepth 4000 in
theorem ev_X0_placesOf_s {σ : r_Sg} {w s : Nat} {fr : Nat → Nat} {nr : Nat} {a : Int32} (h : r_BH σ w (some s) fr nr) : Ev 0 MX0_placesOf [.ref 5, .int a] σ (some (.int (r_po w (some s) a))) σ := by
  have hsw := h.2.2.2.2.1 s rfl
  have hw20 := h.2.1
  refine Ev_w [.ref 5, .int a] ?_ (by decide) rfl (Nat.le_of_ble_eq_true rfl) rfl
  refine g_aload_n dX0_placesOf_0 rfl ?_
  refine g_getI dX0_placesOf_1 fX0_35 rfl rfl ?_
  refine g_t h.2.2.2.1 ?_
  refine g_bipush (v := (-9)) dX0_placesOf_4 (by decide) ?_
  refine g_icne (tgt := 11) dX0_placesOf_6 (by decide) (fun c6 => ?_) (fun c6 => absurd c6 (r_nm9 (show s < 2 ^ 31 by omega)))
  refine g_iload_n dX0_placesOf_11 rfl ?_
  refine g_iconst (v := 1) dX0_placesOf_12 (by decide) ?_
  refine g_aload_n dX0_placesOf_13 rfl ?_
  refine g_getI dX0_placesOf_14 fX0_35 rfl rfl ?_
  refine g_t h.2.2.2.1 ?_
  refine g_ishl dX0_placesOf_17 ?_
  refine g_iconst (v := (-1)) dX0_placesOf_18 (by decide) ?_
  refine g_ixor dX0_placesOf_19 ?_
  refine g_iand dX0_placesOf_20 ?_
  refine g_iload_n dX0_placesOf_21 rfl ?_
  refine g_aload_n dX0_placesOf_22 rfl ?_
  refine g_getI dX0_placesOf_23 fX0_35 rfl rfl ?_
  refine g_t h.2.2.2.1 ?_
  refine g_ishr dX0_placesOf_26 ?_
  refine g_iconst (v := 1) dX0_placesOf_27 (by decide) ?_
  refine g_iand dX0_placesOf_28 ?_
  refine g_aload_n dX0_placesOf_29 rfl ?_
  refine g_getI dX0_placesOf_30 fX0_62 rfl rfl ?_
  refine g_t h.2.2.1 ?_
  refine g_ishl dX0_placesOf_33 ?_
  refine g_ior dX0_placesOf_34 ?_
  exact g_iret dX0_placesOf_35 rfl ⟨rfl, rfl⟩

theorem ev_X0_placesOf {σ : r_Sg} {w : Nat} {sb : Option Nat} {fr : Nat → Nat} {nr : Nat} {a : Int32} (h : r_BH σ w sb fr nr) : Ev 0 MX0_placesOf [.ref 5, .int a] σ (some (.int (r_po w sb a))) σ := by
  cases sb with
  | none => exact ev_X0_placesOf_n h 
  | some s => exact ev_X0_placesOf_s h 

set_option maxRecDepth 4000 in
theorem ev_X0_placesInUse {σ : r_Sg} {w : Nat} {sb : Option Nat} {fr : Nat → Nat} {nr : Nat} (h : r_BH σ w sb fr nr) : Ev 2 MX0_placesInUse [.ref 5] σ (some (.int (r_po w sb (r_all w)))) σ := by
  refine Ev_w [.ref 5] ?_ (by decide) rfl (Nat.le_of_ble_eq_true rfl) rfl
  refine g_aload_n dX0_placesInUse_0 rfl ?_
  refine g_aload_n dX0_placesInUse_1 rfl ?_
  refine g_getR dX0_placesInUse_2 fX0_39 rfl rfl ?_
  refine g_V0 dX0_placesInUse_5 vX0_89 rfl (Nat.le_of_ble_eq_true rfl) (by decide) (Ev_r (r' := some (.int (r_all w))) ev_X2_allBits (by rw [h.1]; rfl)) ?_
  refine g_V1 dX0_placesInUse_8 vX0_92 rfl (Nat.le_of_ble_eq_true rfl) (by decide) (ev_X0_placesOf h) ?_
  exact g_iret dX0_placesInUse_11 rfl ⟨rfl, rfl⟩

set_option maxRecDepth 4000 in
theorem ev_X0_placeOf {σ : r_Sg} {w : Nat} {sb : Option Nat} {fr : Nat → Nat} {nr : Nat} {b : Nat} (h : r_BH σ w sb fr nr) (hb : b < w) : Ev 0 MX0_placeOf [.ref 5, .int (nI b)] σ (some (.int (nI (r_pl w sb b)))) σ := by
  have hw20 := h.2.1
  have hx : nI b = r_sbI sb ↔ sb = some b := by
    cases sb with
    | none => exact ⟨fun e => absurd e (r_nm9 (by omega)), fun e => by cases e⟩
    | some s => have := h.2.2.2.2.1 s rfl; exact ⟨fun e => by rw [(nI_eq (by omega) (by omega)).mp e], fun e => by cases e; rfl⟩
  refine Ev_w [.ref 5, .int (nI b)] ?_ (by decide) rfl (Nat.le_of_ble_eq_true rfl) rfl
  refine g_iload_n dX0_placeOf_0 rfl ?_
  refine g_aload_n dX0_placeOf_1 rfl ?_
  refine g_getI dX0_placeOf_2 fX0_35 rfl rfl ?_
  refine g_t h.2.2.2.1 ?_
  refine g_icne (tgt := 15) dX0_placeOf_5 (by decide) (fun c5 => ?_) (fun c5 => ?_)
  · have q5 := fun z => c5 (hx.mpr z)
    refine g_iload_n dX0_placeOf_15 rfl ?_
    exact g_iret dX0_placeOf_16 rfl ⟨by first | rw [r_pl, if_pos q5] | rw [r_pl, if_neg q5], rfl⟩
  · have q5 := hx.mp c5
    refine g_aload_n dX0_placeOf_8 rfl ?_
    refine g_getI dX0_placeOf_9 fX0_62 rfl rfl ?_
    refine g_t h.2.2.1 ?_
    refine g_goto (tgt := 16) dX0_placeOf_12 (by decide) ?_
    exact g_iret dX0_placeOf_16 rfl ⟨by first | rw [r_pl, if_pos q5] | rw [r_pl, if_neg q5], rfl⟩

set_option maxRecDepth 4000 in
theorem ev_X0_bitsOf_n {σ : r_Sg} {w : Nat} {fr : Nat → Nat} {nr : Nat} {p v : Nat} (h : r_BH σ w none fr nr) (hp : p < 4) (hv : v < 4) : Ev 2 MX0_bitsOf [.ref 5, .int (nI p), .int (nI v)] σ (some (.int (r_bo w none (σ 7 (4 * fr p + v))))) σ := by
  refine Ev_w [.ref 5, .int (nI p), .int (nI v), .null, .null] ?_ (by decide) rfl (Nat.le_of_ble_eq_true rfl) rfl
  have hfr := (h.2.2.2.2.2.1 p hp).2
  refine g_aload_n dX0_bitsOf_0 rfl ?_
  refine g_getR dX0_bitsOf_1 fX0_12 rfl rfl ?_
  refine g_aload_n dX0_bitsOf_4 rfl ?_
  refine g_iload_n dX0_bitsOf_5 rfl ?_
  refine g_iload_n dX0_bitsOf_6 rfl ?_
  refine g_V2 dX0_bitsOf_7 vX0_83 rfl (Nat.le_of_ble_eq_true rfl) (by decide) (ev_X0_rowOf h hp) ?_
  refine g_V1 dX0_bitsOf_10 vX0_86 rfl (Nat.le_of_ble_eq_true rfl) (by decide) (ev_X1_valuesIn (by omega)) ?_
  refine g_istore_n dX0_bitsOf_13 (by decide) rfl ?_
  refine g_aload_n dX0_bitsOf_14 rfl ?_
  refine g_getI dX0_bitsOf_15 fX0_35 rfl rfl ?_
  refine g_t h.2.2.2.1 ?_
  refine g_bipush (v := (-9)) dX0_bitsOf_18 (by decide) ?_
  refine g_icne (tgt := 33) dX0_bitsOf_20 (by decide) (fun c20 => absurd rfl c20) (fun c20 => ?_)
  refine g_iload_n dX0_bitsOf_23 rfl ?_
  refine g_aload_n dX0_bitsOf_24 rfl ?_
  refine g_getR dX0_bitsOf_25 fX0_39 rfl rfl ?_
  refine g_V0 dX0_bitsOf_28 vX0_89 rfl (Nat.le_of_ble_eq_true rfl) (by decide) (Ev_r (r' := some (.int (r_all w))) ev_X2_allBits (by rw [h.1]; rfl)) ?_
  refine g_iand dX0_bitsOf_31 ?_
  exact g_iret dX0_bitsOf_32 rfl ⟨rfl, rfl⟩

set_option maxRecDepth 4000 in
theorem ev_X0_bitsOf_s {σ : r_Sg} {w s : Nat} {fr : Nat → Nat} {nr : Nat} {p v : Nat} (h : r_BH σ w (some s) fr nr) (hp : p < 4) (hv : v < 4) : Ev 2 MX0_bitsOf [.ref 5, .int (nI p), .int (nI v)] σ (some (.int (r_bo w (some s) (σ 7 (4 * fr p + v))))) σ := by
  have hsw := h.2.2.2.2.1 s rfl
  have hw20 := h.2.1
  refine Ev_w [.ref 5, .int (nI p), .int (nI v), .null, .null] ?_ (by decide) rfl (Nat.le_of_ble_eq_true rfl) rfl
  have hfr := (h.2.2.2.2.2.1 p hp).2
  refine g_aload_n dX0_bitsOf_0 rfl ?_
  refine g_getR dX0_bitsOf_1 fX0_12 rfl rfl ?_
  refine g_aload_n dX0_bitsOf_4 rfl ?_
  refine g_iload_n dX0_bitsOf_5 rfl ?_
  refine g_iload_n dX0_bitsOf_6 rfl ?_
  refine g_V2 dX0_bitsOf_7 vX0_83 rfl (Nat.le_of_ble_eq_true rfl) (by decide) (ev_X0_rowOf h hp) ?_
  refine g_V1 dX0_bitsOf_10 vX0_86 rfl (Nat.le_of_ble_eq_true rfl) (by decide) (ev_X1_valuesIn (by omega)) ?_
  refine g_istore_n dX0_bitsOf_13 (by decide) rfl ?_
  refine g_aload_n dX0_bitsOf_14 rfl ?_
  refine g_getI dX0_bitsOf_15 fX0_35 rfl rfl ?_
  refine g_t h.2.2.2.1 ?_
  refine g_bipush (v := (-9)) dX0_bitsOf_18 (by decide) ?_
  refine g_icne (tgt := 33) dX0_bitsOf_20 (by decide) (fun c20 => ?_) (fun c20 => absurd c20 (r_nm9 (show s < 2 ^ 31 by omega)))
  refine g_iload_n dX0_bitsOf_33 rfl ?_
  refine g_aload_n dX0_bitsOf_34 rfl ?_
  refine g_getR dX0_bitsOf_35 fX0_39 rfl rfl ?_
  refine g_V0 dX0_bitsOf_38 vX0_89 rfl (Nat.le_of_ble_eq_true rfl) (by decide) (Ev_r (r' := some (.int (r_all w))) ev_X2_allBits (by rw [h.1]; rfl)) ?_
  refine g_iand dX0_bitsOf_41 ?_
  refine g_iconst (v := 1) dX0_bitsOf_42 (by decide) ?_
  refine g_aload_n dX0_bitsOf_43 rfl ?_
  refine g_getI dX0_bitsOf_44 fX0_35 rfl rfl ?_
  refine g_t h.2.2.2.1 ?_
  refine g_ishl dX0_bitsOf_47 ?_
  refine g_iconst (v := (-1)) dX0_bitsOf_48 (by decide) ?_
  refine g_ixor dX0_bitsOf_49 ?_
  refine g_iand dX0_bitsOf_50 ?_
  refine g_istore dX0_bitsOf_51 (by decide) rfl ?_
  refine g_iload dX0_bitsOf_53 rfl ?_
  refine g_iload_n dX0_bitsOf_55 rfl ?_
  refine g_aload_n dX0_bitsOf_56 rfl ?_
  refine g_getI dX0_bitsOf_57 fX0_62 rfl rfl ?_
  refine g_t h.2.2.1 ?_
  refine g_ishr dX0_bitsOf_60 ?_
  refine g_iconst (v := 1) dX0_bitsOf_61 (by decide) ?_
  refine g_iand dX0_bitsOf_62 ?_
  refine g_aload_n dX0_bitsOf_63 rfl ?_
  refine g_getI dX0_bitsOf_64 fX0_35 rfl rfl ?_
  refine g_t h.2.2.2.1 ?_
  refine g_ishl dX0_bitsOf_67 ?_
  refine g_ior dX0_bitsOf_68 ?_
  exact g_iret dX0_bitsOf_69 rfl ⟨rfl, rfl⟩

theorem ev_X0_bitsOf {σ : r_Sg} {w : Nat} {sb : Option Nat} {fr : Nat → Nat} {nr : Nat} {p v : Nat} (h : r_BH σ w sb fr nr) (hp : p < 4) (hv : v < 4) : Ev 2 MX0_bitsOf [.ref 5, .int (nI p), .int (nI v)] σ (some (.int (r_bo w sb (σ 7 (4 * fr p + v))))) σ := by
  cases sb with
  | none => exact ev_X0_bitsOf_n h hp hv
  | some s => exact ev_X0_bitsOf_s h hp hv

set_option maxRecDepth 4000 in
theorem ev_X0_putBits {σ : r_Sg} {w : Nat} {sb : Option Nat} {fr : Nat → Nat} {nr : Nat} {p v : Nat} {a : Int32} (h : r_BH σ w sb fr nr) (hp : p < 4) (hv : v < 4) : Ev 3 MX0_putBits [.ref 5, .int (nI p), .int (nI v), .int a] σ none (c_pb σ w sb (4 * fr p + v) a) := by
  have hfr := (h.2.2.2.2.2.1 p hp).2
  refine Ev_w [.ref 5, .int (nI p), .int (nI v), .int a] ?_ (by decide) rfl (Nat.le_of_ble_eq_true rfl) rfl
  refine g_aload_n dX0_putBits_0 rfl ?_
  refine g_getR dX0_putBits_1 fX0_12 rfl rfl ?_
  refine g_aload_n dX0_putBits_4 rfl ?_
  refine g_iload_n dX0_putBits_5 rfl ?_
  refine g_iload_n dX0_putBits_6 rfl ?_
  refine g_V2 dX0_putBits_7 vX0_83 rfl (Nat.le_of_ble_eq_true rfl) (by decide) (ev_X0_rowOf h hp) ?_
  refine g_aload_n dX0_putBits_10 rfl ?_
  refine g_iload_n dX0_putBits_11 rfl ?_
  refine g_V1 dX0_putBits_12 vX0_92 rfl (Nat.le_of_ble_eq_true rfl) (by decide) (ev_X0_placesOf h) ?_
  refine g_aload_n dX0_putBits_15 rfl ?_
  refine g_V0 dX0_putBits_16 vX0_162 rfl (Nat.le_of_ble_eq_true rfl) (by decide) (ev_X0_placesInUse h) ?_
  refine g_V3v dX0_putBits_19 vX0_165 rfl (Nat.le_of_ble_eq_true rfl) (by decide) (ev_X1_put (by omega)) ?_
  exact g_ret dX0_putBits_22 rfl ⟨rfl, rfl⟩

set_option maxRecDepth 4000 in
theorem ev_X0_turn {σ : r_Sg} {w : Nat} {sb : Option Nat} {fr : Nat → Nat} {nr : Nat} {p v : Nat} {a : Int32} (h : r_BH σ w sb fr nr) (hp : p < 4) (hv : v < 4) : Ev 2 MX0_turn [.ref 5, .int (nI p), .int (nI v), .int a] σ (some (.int (r_bc (r_po w sb a &&& (σ 8 (4 * fr p + v) ^^^ -1))))) (r_up σ 7 (4 * fr p + v) (σ 7 (4 * fr p + v) ^^^ (r_po w sb a &&& (σ 8 (4 * fr p + v) ^^^ -1)))) := by
  have hfr := (h.2.2.2.2.2.1 p hp).2
  refine Ev_w [.ref 5, .int (nI p), .int (nI v), .int a] ?_ (by decide) rfl (Nat.le_of_ble_eq_true rfl) rfl
  refine g_aload_n dX0_turn_0 rfl ?_
  refine g_getR dX0_turn_1 fX0_12 rfl rfl ?_
  refine g_aload_n dX0_turn_4 rfl ?_
  refine g_iload_n dX0_turn_5 rfl ?_
  refine g_iload_n dX0_turn_6 rfl ?_
  refine g_V2 dX0_turn_7 vX0_83 rfl (Nat.le_of_ble_eq_true rfl) (by decide) (ev_X0_rowOf h hp) ?_
  refine g_aload_n dX0_turn_10 rfl ?_
  refine g_iload_n dX0_turn_11 rfl ?_
  refine g_V1 dX0_turn_12 vX0_92 rfl (Nat.le_of_ble_eq_true rfl) (by decide) (ev_X0_placesOf h) ?_
  refine g_V2 dX0_turn_15 vX0_95 rfl (Nat.le_of_ble_eq_true rfl) (by decide) (ev_X1_turn (by omega)) ?_
  exact g_iret dX0_turn_18 rfl ⟨rfl, rfl⟩

set_option maxRecDepth 4000 in
theorem ev_X0_hold {σ : r_Sg} {w : Nat} {sb : Option Nat} {fr : Nat → Nat} {nr : Nat} {p v b : Nat} {a : Int32} (h : r_BH σ w sb fr nr) (hp : p < 4) (hv : v < 4) (hb : b < w) : Ev 2 MX0_hold [.ref 5, .int (nI p), .int (nI v), .int (nI b), .int a] σ (some (.int (r_b (σ 7 (4 * fr p + v)) (r_pl w sb b)))) (r_up (r_up σ 7 (4 * fr p + v) (r_sv (σ 7 (4 * fr p + v)) (r_pl w sb b) a)) 8 (4 * fr p + v) (r_hi (σ 8 (4 * fr p + v)) (r_pl w sb b))) := by
  have hfr := (h.2.2.2.2.2.1 p hp).2
  refine Ev_w [.ref 5, .int (nI p), .int (nI v), .int (nI b), .int a, .null, .null] ?_ (by decide) rfl (Nat.le_of_ble_eq_true rfl) rfl
  refine g_aload_n dX0_hold_0 rfl ?_
  refine g_iload_n dX0_hold_1 rfl ?_
  refine g_iload_n dX0_hold_2 rfl ?_
  refine g_V2 dX0_hold_3 vX0_83 rfl (Nat.le_of_ble_eq_true rfl) (by decide) (ev_X0_rowOf h hp) ?_
  refine g_istore dX0_hold_6 (by decide) rfl ?_
  refine g_aload_n dX0_hold_8 rfl ?_
  refine g_getR dX0_hold_9 fX0_12 rfl rfl ?_
  refine g_iload dX0_hold_12 rfl ?_
  refine g_aload_n dX0_hold_14 rfl ?_
  refine g_iload_n dX0_hold_15 rfl ?_
  refine g_V1 dX0_hold_16 vX0_98 rfl (Nat.le_of_ble_eq_true rfl) (by decide) (ev_X0_placeOf h hb) ?_
  refine g_V2 dX0_hold_19 vX0_101 rfl (Nat.le_of_ble_eq_true rfl) (by decide) (ev_X1_valueAt (by omega)) ?_
  refine g_istore dX0_hold_22 (by decide) rfl ?_
  refine g_aload_n dX0_hold_24 rfl ?_
  refine g_getR dX0_hold_25 fX0_12 rfl rfl ?_
  refine g_iload dX0_hold_28 rfl ?_
  refine g_aload_n dX0_hold_30 rfl ?_
  refine g_iload_n dX0_hold_31 rfl ?_
  refine g_V1 dX0_hold_32 vX0_98 rfl (Nat.le_of_ble_eq_true rfl) (by decide) (ev_X0_placeOf h hb) ?_
  refine g_iload dX0_hold_35 rfl ?_
  refine g_V3v dX0_hold_37 vX0_104 rfl (Nat.le_of_ble_eq_true rfl) (by decide) (ev_X1_hold (by omega)) ?_
  refine g_iload dX0_hold_40 rfl ?_
  exact g_iret dX0_hold_42 rfl ⟨rfl, rfl⟩

set_option maxRecDepth 4000 in
theorem ev_X0_loosen {σ : r_Sg} {w : Nat} {sb : Option Nat} {fr : Nat → Nat} {nr : Nat} {p v b : Nat} (h : r_BH σ w sb fr nr) (hp : p < 4) (hv : v < 4) (hb : b < w) : Ev 1 MX0_loosen [.ref 5, .int (nI p), .int (nI v), .int (nI b)] σ (some (.int (r_b (σ 7 (4 * fr p + v)) (r_pl w sb b)))) (r_up σ 8 (4 * fr p + v) (r_lo (σ 8 (4 * fr p + v)) (r_pl w sb b))) := by
  have hfr := (h.2.2.2.2.2.1 p hp).2
  refine Ev_w [.ref 5, .int (nI p), .int (nI v), .int (nI b), .null] ?_ (by decide) rfl (Nat.le_of_ble_eq_true rfl) rfl
  refine g_aload_n dX0_loosen_0 rfl ?_
  refine g_iload_n dX0_loosen_1 rfl ?_
  refine g_iload_n dX0_loosen_2 rfl ?_
  refine g_V2 dX0_loosen_3 vX0_83 rfl (Nat.le_of_ble_eq_true rfl) (by decide) (ev_X0_rowOf h hp) ?_
  refine g_istore dX0_loosen_6 (by decide) rfl ?_
  refine g_aload_n dX0_loosen_8 rfl ?_
  refine g_getR dX0_loosen_9 fX0_12 rfl rfl ?_
  refine g_iload dX0_loosen_12 rfl ?_
  refine g_aload_n dX0_loosen_14 rfl ?_
  refine g_iload_n dX0_loosen_15 rfl ?_
  refine g_V1 dX0_loosen_16 vX0_98 rfl (Nat.le_of_ble_eq_true rfl) (by decide) (ev_X0_placeOf h hb) ?_
  refine g_V2v dX0_loosen_19 vX0_107 rfl (Nat.le_of_ble_eq_true rfl) (by decide) (ev_X1_loosen (by omega)) ?_
  refine g_aload_n dX0_loosen_22 rfl ?_
  refine g_getR dX0_loosen_23 fX0_12 rfl rfl ?_
  refine g_iload dX0_loosen_26 rfl ?_
  refine g_aload_n dX0_loosen_28 rfl ?_
  refine g_iload_n dX0_loosen_29 rfl ?_
  refine g_V1 dX0_loosen_30 vX0_98 rfl (Nat.le_of_ble_eq_true rfl) (by decide) (ev_X0_placeOf (h.to rfl rfl rfl) hb) ?_
  refine g_V2 dX0_loosen_33 vX0_101 rfl (Nat.le_of_ble_eq_true rfl) (by decide) (ev_X1_valueAt (by omega)) ?_
  exact g_iret dX0_loosen_36 rfl ⟨rfl, rfl⟩

set_option maxRecDepth 4000 in
theorem ev_X0_keep {σ : r_Sg} {w : Nat} {sb : Option Nat} {fr : Nat → Nat} {nr : Nat} {p v : Nat} {a : Int32} (h : r_BH σ w sb fr nr) (hp : p < 4) (hv : v < 4) : Ev 4 MX0_keep [.ref 5, .int (nI p), .int (nI v), .int a] σ none (c_pb (r_up σ 15 (4 * p + v) a) w sb (4 * fr p + v) (a ||| (r_syn (σ 2) a w <<< (σ 1 3 &&& 31)))) := by
  refine Ev_w [.ref 5, .int (nI p), .int (nI v), .int a] ?_ (by decide) rfl (Nat.le_of_ble_eq_true rfl) rfl
  refine g_aload_n dX0_keep_0 rfl ?_
  refine g_getR dX0_keep_1 fX0_29 rfl rfl ?_
  refine g_iload_n dX0_keep_4 rfl ?_
  refine g_iconst (v := nI 4) dX0_keep_5 (by decide) ?_
  refine g_imul dX0_keep_6 ?_
  refine g_iload_n dX0_keep_7 rfl ?_
  refine g_iadd dX0_keep_8 ?_
  refine g_t (r_rx p v) ?_
  refine g_iload_n dX0_keep_9 rfl ?_
  refine g_ias _ dX0_keep_10 rfl rfl (by omega) ?_
  refine g_aload_n dX0_keep_11 rfl ?_
  refine g_iload_n dX0_keep_12 rfl ?_
  refine g_iload_n dX0_keep_13 rfl ?_
  refine g_aload_n dX0_keep_14 rfl ?_
  refine g_getR dX0_keep_15 fX0_39 rfl rfl ?_
  refine g_iload_n dX0_keep_18 rfl ?_
  refine g_V1 dX0_keep_19 vX0_75 rfl (Nat.le_of_ble_eq_true rfl) (by decide) (ev_X2_wordOf (σ := r_up σ 15 (4 * p + v) a) h.1 h.2.1) ?_
  refine g_V3v dX0_keep_22 vX0_79 rfl (Nat.le_of_ble_eq_true rfl) (by decide) (ev_X0_putBits (h.to rfl rfl rfl) hp hv) ?_
  exact g_ret dX0_keep_25 rfl ⟨rfl, rfl⟩

set_option maxRecDepth 4000 in
theorem ev_X0_keptValue {σ : r_Sg} {p v : Nat} (hp : p < 4) (hv : v < 4) : Ev 0 MX0_keptValue [.ref 5, .int (nI p), .int (nI v)] σ (some (.int (σ 15 (4 * p + v)))) σ := by
  refine Ev_w [.ref 5, .int (nI p), .int (nI v)] ?_ (by decide) rfl (Nat.le_of_ble_eq_true rfl) rfl
  refine g_aload_n dX0_keptValue_0 rfl ?_
  refine g_getR dX0_keptValue_1 fX0_29 rfl rfl ?_
  refine g_iload_n dX0_keptValue_4 rfl ?_
  refine g_iconst (v := nI 4) dX0_keptValue_5 (by decide) ?_
  refine g_imul dX0_keptValue_6 ?_
  refine g_iload_n dX0_keptValue_7 rfl ?_
  refine g_iadd dX0_keptValue_8 ?_
  refine g_t (r_rx p v) ?_
  refine g_ial _ dX0_keptValue_9 rfl rfl (by omega) ?_
  exact g_iret dX0_keptValue_10 rfl ⟨rfl, rfl⟩

set_option maxRecDepth 4000 in
theorem ev_X0_marksOf {σ : r_Sg} {f v q : Nat} (hf : f < 6) (hv : v < 4) (hq : q < 21) : Ev 1 MX0_marksOf [.ref 5, .int (nI f), .int (nI v), .int (nI q)] σ (some (.int (σ 9 (21 * (4 * f + v) + q)))) σ := by
  refine Ev_w [.ref 5, .int (nI f), .int (nI v), .int (nI q)] ?_ (by decide) rfl (Nat.le_of_ble_eq_true rfl) rfl
  refine g_aload_n dX0_marksOf_0 rfl ?_
  refine g_getR dX0_marksOf_1 fX0_12 rfl rfl ?_
  refine g_iload_n dX0_marksOf_4 rfl ?_
  refine g_iconst (v := nI 4) dX0_marksOf_5 (by decide) ?_
  refine g_imul dX0_marksOf_6 ?_
  refine g_iload_n dX0_marksOf_7 rfl ?_
  refine g_iadd dX0_marksOf_8 ?_
  refine g_t (r_rx f v) ?_
  refine g_iload_n dX0_marksOf_9 rfl ?_
  refine g_V2 dX0_marksOf_10 vX0_71 rfl (Nat.le_of_ble_eq_true rfl) (by decide) (ev_X1_marksAt (by omega) hq) ?_
  exact g_iret dX0_marksOf_13 rfl ⟨rfl, rfl⟩

set_option maxRecDepth 4000 in
theorem ev_X0_log {σ : r_Sg}  : Ev 0 MX0_log [.ref 5] σ (some (.ref 10)) σ := by
  refine Ev_w [.ref 5] ?_ (by decide) rfl (Nat.le_of_ble_eq_true rfl) rfl
  refine g_aload_n dX0_log_0 rfl ?_
  refine g_getR dX0_log_1 fX0_21 rfl rfl ?_
  exact g_aret dX0_log_4 rfl ⟨rfl, rfl⟩

set_option maxRecDepth 4000 in
theorem ev_X0_spareFramesLeft {σ : r_Sg} {nr : Nat} (hn : σ 5 6 = nI nr) : Ev 0 MX0_spareFramesLeft [.ref 5] σ (some (.int (2 - nI nr))) σ := by
  refine Ev_w [.ref 5] ?_ (by decide) rfl (Nat.le_of_ble_eq_true rfl) rfl
  refine g_iconst (v := 2) dX0_spareFramesLeft_0 (by decide) ?_
  refine g_aload_n dX0_spareFramesLeft_1 rfl ?_
  refine g_getI dX0_spareFramesLeft_2 fX0_53 rfl rfl ?_
  refine g_t hn ?_
  refine g_isub dX0_spareFramesLeft_5 ?_
  exact g_iret dX0_spareFramesLeft_6 rfl ⟨rfl, rfl⟩

set_option maxRecDepth 4000 in
theorem ev_X0_retiredFrame {σ : r_Sg} {n : Nat} {b : Int32} (hn : σ 5 6 = nI n) (hn2 : n ≤ 2) : Ev 0 MX0_retiredFrame [.ref 5, .int b] σ (some (.int (if 0 ≤ b ∧ b < nI n then σ 16 b.toNatClampNeg else -1))) σ := by
  refine Ev_w [.ref 5, .int b] ?_ (by decide) rfl (Nat.le_of_ble_eq_true rfl) rfl
  refine g_iload_n dX0_retiredFrame_0 rfl ?_
  refine g_iflt (tgt := 21) dX0_retiredFrame_1 (by decide) (fun c1 => ?_) (fun c1 => ?_)
  · have q9 : ¬ (0 ≤ b ∧ b < nI n) := fun z => absurd c1 (Int32.not_lt.mpr z.1)
    refine g_iconst (v := (-1)) dX0_retiredFrame_21 (by decide) ?_
    exact g_iret dX0_retiredFrame_22 rfl ⟨by first | rw [if_pos q9, nI_clamp (by omega)] | rw [if_neg q9], rfl⟩
  · refine g_iload_n dX0_retiredFrame_4 rfl ?_
    refine g_aload_n dX0_retiredFrame_5 rfl ?_
    refine g_getI dX0_retiredFrame_6 fX0_53 rfl rfl ?_
    refine g_t hn ?_
    refine g_icge (tgt := 21) dX0_retiredFrame_9 (by decide) (fun c9 => ?_) (fun c9 => ?_)
    · have q9 : ¬ (0 ≤ b ∧ b < nI n) := fun z => absurd z.2 (Int32.not_lt.mpr c9)
      refine g_iconst (v := (-1)) dX0_retiredFrame_21 (by decide) ?_
      exact g_iret dX0_retiredFrame_22 rfl ⟨by first | rw [if_pos q9, nI_clamp (by omega)] | rw [if_neg q9], rfl⟩
    · have q9 : 0 ≤ b ∧ b < nI n := ⟨Int32.not_lt.mp c1, Int32.not_le.mp c9⟩
      obtain ⟨j, hj, rfl⟩ := r_nat q9 (by omega)
      refine g_aload_n dX0_retiredFrame_12 rfl ?_
      refine g_getR dX0_retiredFrame_13 fX0_32 rfl rfl ?_
      refine g_iload_n dX0_retiredFrame_16 rfl ?_
      refine g_ial _ dX0_retiredFrame_17 rfl rfl (by omega) ?_
      refine g_goto (tgt := 22) dX0_retiredFrame_18 (by decide) ?_
      exact g_iret dX0_retiredFrame_22 rfl ⟨by first | rw [if_pos q9, nI_clamp (by omega)] | rw [if_neg q9], rfl⟩

set_option maxRecDepth 4000 in
theorem ev_X0_swapIfDue_n {σ : r_Sg} {w : Nat} {fr : Nat → Nat} {nr : Nat} {b : Nat} (h : r_BH σ w none fr nr) (hb : b < w) : Ev 3 MX0_swapIfDue [.ref 5, .int (nI b)] σ (some (.int (bI (c_du1 σ none b = true)))) (c_sw σ w none b) := by
  have hw := h.2.1
  refine Ev_w [.ref 5, .int (nI b)] ?_ (by decide) rfl (Nat.le_of_ble_eq_true rfl) rfl
  refine g_aload_n dX0_swapIfDue_0 rfl ?_
  refine g_getI dX0_swapIfDue_1 fX0_35 rfl rfl ?_
  refine g_t h.2.2.2.1 ?_
  refine g_bipush (v := (-9)) dX0_swapIfDue_4 (by decide) ?_
  refine g_icne (tgt := 21) dX0_swapIfDue_6 (by decide) (fun c6 => absurd rfl c6) (fun c6 => ?_)
  refine g_aload_n dX0_swapIfDue_9 rfl ?_
  refine g_getR dX0_swapIfDue_10 fX0_12 rfl rfl ?_
  refine g_iload_n dX0_swapIfDue_13 rfl ?_
  refine g_V1 dX0_swapIfDue_14 vX0_168 rfl (Nat.le_of_ble_eq_true rfl) (by decide) (ev_X1_badInPlace (by omega)) ?_
  refine g_iconst (v := 3) dX0_swapIfDue_17 (by decide) ?_
  refine g_icge (tgt := 23) dX0_swapIfDue_18 (by decide) (fun c18 => ?_) (fun c18 => ?_)
  · have q18 : c_du1 σ none b = true := decide_eq_true ⟨rfl, c18⟩
    refine g_aload_n dX0_swapIfDue_23 rfl ?_
    refine g_getR dX0_swapIfDue_24 fX0_12 rfl rfl ?_
    refine g_iload_n dX0_swapIfDue_27 rfl ?_
    refine g_aload_n dX0_swapIfDue_28 rfl ?_
    refine g_getI dX0_swapIfDue_29 fX0_62 rfl rfl ?_
    refine g_t h.2.2.1 ?_
    refine g_V2v dX0_swapIfDue_32 vX0_171 rfl (Nat.le_of_ble_eq_true rfl) (by decide) (ev_X1_copyPlace (by omega)) ?_
    refine g_aload_n dX0_swapIfDue_35 rfl ?_
    refine g_iload_n dX0_swapIfDue_36 rfl ?_
    refine g_putI dX0_swapIfDue_37 pX0_35 rfl rfl ?_
    refine g_iconst (v := 1) dX0_swapIfDue_40 (by decide) ?_
    exact g_zret dX0_swapIfDue_41 rfl (by first | exact Or.inl rfl | exact Or.inr rfl) ⟨by first | rw [bI_t q18] | rw [bI_f q18], by first | rw [c_sw, if_pos q18] | rw [c_sw, if_neg q18]⟩
  · have q18 : ¬ c_du1 σ none b = true := fun z => c18 (of_decide_eq_true z).2
    refine g_iconst (v := 0) dX0_swapIfDue_21 (by decide) ?_
    exact g_zret dX0_swapIfDue_22 rfl (by first | exact Or.inl rfl | exact Or.inr rfl) ⟨by first | rw [bI_t q18] | rw [bI_f q18], by first | rw [c_sw, if_pos q18] | rw [c_sw, if_neg q18]⟩

set_option maxRecDepth 4000 in
theorem ev_X0_swapIfDue_s {σ : r_Sg} {w s : Nat} {fr : Nat → Nat} {nr : Nat} {b : Nat} (h : r_BH σ w (some s) fr nr) (hb : b < w) : Ev 3 MX0_swapIfDue [.ref 5, .int (nI b)] σ (some (.int (bI (c_du1 σ (some s) b = true)))) (c_sw σ w (some s) b) := by
  have hsw := h.2.2.2.2.1 s rfl
  have hw20 := h.2.1
  have hw := h.2.1
  refine Ev_w [.ref 5, .int (nI b)] ?_ (by decide) rfl (Nat.le_of_ble_eq_true rfl) rfl
  refine g_aload_n dX0_swapIfDue_0 rfl ?_
  refine g_getI dX0_swapIfDue_1 fX0_35 rfl rfl ?_
  refine g_t h.2.2.2.1 ?_
  refine g_bipush (v := (-9)) dX0_swapIfDue_4 (by decide) ?_
  refine g_icne (tgt := 21) dX0_swapIfDue_6 (by decide) (fun c6 => ?_) (fun c6 => absurd c6 (r_nm9 (show s < 2 ^ 31 by omega)))
  refine g_iconst (v := 0) dX0_swapIfDue_21 (by decide) ?_
  exact g_zret dX0_swapIfDue_22 rfl (by first | exact Or.inl rfl | exact Or.inr rfl) ⟨by rw [bI_f (by simp [c_du1])], by rw [c_sw, if_neg (by simp [c_du1])]⟩

theorem ev_X0_swapIfDue {σ : r_Sg} {w : Nat} {sb : Option Nat} {fr : Nat → Nat} {nr : Nat} {b : Nat} (h : r_BH σ w sb fr nr) (hb : b < w) : Ev 3 MX0_swapIfDue [.ref 5, .int (nI b)] σ (some (.int (bI (c_du1 σ sb b = true)))) (c_sw σ w sb b) := by
  cases sb with
  | none => exact ev_X0_swapIfDue_n h hb
  | some s => exact ev_X0_swapIfDue_s h hb

set_option maxRecDepth 4000 in
theorem ev_X0_retireIfDue {σ : r_Sg} {w : Nat} {sb : Option Nat} {fr : Nat → Nat} {nr : Nat} {p : Nat} (h : r_BH σ w sb fr nr) (hp : p < 4) : Ev 3 MX0_retireIfDue [.ref 5, .int (nI p)] σ (some (.int (bI (c_du2 σ w sb fr nr p = true)))) (c_rt σ w sb fr nr p) := by
  have hfr := (h.2.2.2.2.2.1 p hp).2
  have hnr := h.2.2.2.2.2.2.2
  refine Ev_w [.ref 5, .int (nI p), .null, .null] ?_ (by decide) rfl (Nat.le_of_ble_eq_true rfl) rfl
  refine g_aload_n dX0_retireIfDue_0 rfl ?_
  refine g_getR dX0_retireIfDue_1 fX0_25 rfl rfl ?_
  refine g_iload_n dX0_retireIfDue_4 rfl ?_
  refine g_ial _ dX0_retireIfDue_5 rfl rfl (by omega) ?_
  refine g_t (h.2.2.2.2.2.1 p hp).1 ?_
  refine g_istore_n dX0_retireIfDue_6 (by decide) rfl ?_
  refine g_aload_n dX0_retireIfDue_7 rfl ?_
  refine g_V0 dX0_retireIfDue_8 vX0_159 rfl (Nat.le_of_ble_eq_true rfl) (by decide) (ev_X0_spareFramesLeft h.2.2.2.2.2.2.1) ?_
  refine g_ifeq (tgt := 30) dX0_retireIfDue_11 (by decide) (fun c11 => ?_) (fun c11 => ?_)
  · have q2 : nr = 2 := by rcases (show nr = 0 ∨ nr = 1 ∨ nr = 2 by omega) with z | z | z <;> subst z <;> first | rfl | exact absurd c11 (by decide)
    have q27 : ¬ c_du2 σ w sb fr nr p = true := by simp only [c_du2, decide_eq_true_eq]; exact fun z => z.1 q2
    refine g_iconst (v := 0) dX0_retireIfDue_30 (by decide) ?_
    exact g_zret dX0_retireIfDue_31 rfl (by first | exact Or.inl rfl | exact Or.inr rfl) ⟨by first | rw [bI_t q27] | rw [bI_f q27], by first | rw [c_rt, if_pos q27] | rw [c_rt, if_neg q27]⟩
  · have q2 : ¬ nr = 2 := by intro z; subst z; exact c11 (by decide)
    refine g_aload_n dX0_retireIfDue_14 rfl ?_
    refine g_getR dX0_retireIfDue_15 fX0_12 rfl rfl ?_
    refine g_iload_n dX0_retireIfDue_18 rfl ?_
    refine g_aload_n dX0_retireIfDue_19 rfl ?_
    refine g_V0 dX0_retireIfDue_20 vX0_162 rfl (Nat.le_of_ble_eq_true rfl) (by decide) (ev_X0_placesInUse h) ?_
    refine g_V2 dX0_retireIfDue_23 vX0_174 rfl (Nat.le_of_ble_eq_true rfl) (by decide) (ev_X1_badInFrame hfr) ?_
    refine g_iconst (v := 4) dX0_retireIfDue_26 (by decide) ?_
    refine g_icge (tgt := 32) dX0_retireIfDue_27 (by decide) (fun c27 => ?_) (fun c27 => ?_)
    · have q27 : c_du2 σ w sb fr nr p = true := by simp only [c_du2, decide_eq_true_eq]; exact ⟨q2, c27⟩
      refine g_iconst (v := nI 4) dX0_retireIfDue_32 (by decide) ?_
      refine g_aload_n dX0_retireIfDue_33 rfl ?_
      refine g_getI dX0_retireIfDue_34 fX0_53 rfl rfl ?_
      refine g_t h.2.2.2.2.2.2.1 ?_
      refine g_iadd dX0_retireIfDue_37 ?_
      refine g_t (nI_add 4 nr) ?_
      refine g_istore_n dX0_retireIfDue_38 (by decide) rfl ?_
      refine g_aload_n dX0_retireIfDue_39 rfl ?_
      refine g_getR dX0_retireIfDue_40 fX0_12 rfl rfl ?_
      refine g_iload_n dX0_retireIfDue_43 rfl ?_
      refine g_iload_n dX0_retireIfDue_44 rfl ?_
      refine g_V2v dX0_retireIfDue_45 vX0_177 rfl (Nat.le_of_ble_eq_true rfl) (by decide) (ev_X1_copyFrame hfr (by omega)) ?_
      refine g_aload_n dX0_retireIfDue_48 rfl ?_
      refine g_getR dX0_retireIfDue_49 fX0_25 rfl rfl ?_
      refine g_iload_n dX0_retireIfDue_52 rfl ?_
      refine g_iload_n dX0_retireIfDue_53 rfl ?_
      refine g_ias _ dX0_retireIfDue_54 rfl rfl (by omega) ?_
      refine g_aload_n dX0_retireIfDue_55 rfl ?_
      refine g_getR dX0_retireIfDue_56 fX0_32 rfl rfl ?_
      refine g_aload_n dX0_retireIfDue_59 rfl ?_
      refine g_getI dX0_retireIfDue_60 fX0_53 rfl rfl ?_
      refine g_t (show _ = nI nr from by simp only [r_up]; simp [c_cfo_o, h.2.2.2.2.2.2.1]) ?_
      refine g_iload_n dX0_retireIfDue_63 rfl ?_
      refine g_ias _ dX0_retireIfDue_64 rfl rfl (by omega) ?_
      refine g_aload_n dX0_retireIfDue_65 rfl ?_
      refine g_dup dX0_retireIfDue_66 rfl ?_
      refine g_getI dX0_retireIfDue_67 fX0_53 rfl rfl ?_
      refine g_t (show _ = nI nr from by simp only [r_up]; simp [c_cfo_o, h.2.2.2.2.2.2.1]) ?_
      refine g_iconst (v := 1) dX0_retireIfDue_70 (by decide) ?_
      refine g_iadd dX0_retireIfDue_71 ?_
      refine g_putI dX0_retireIfDue_72 pX0_53 rfl rfl ?_
      refine g_iconst (v := 1) dX0_retireIfDue_75 (by decide) ?_
      exact g_zret dX0_retireIfDue_76 rfl (by first | exact Or.inl rfl | exact Or.inr rfl) ⟨by first | rw [bI_t q27] | rw [bI_f q27], by first | rw [c_rt, if_pos q27] | rw [c_rt, if_neg q27]⟩
    · have q27 : ¬ c_du2 σ w sb fr nr p = true := by simp only [c_du2, decide_eq_true_eq]; exact fun z => c27 z.2
      refine g_iconst (v := 0) dX0_retireIfDue_30 (by decide) ?_
      exact g_zret dX0_retireIfDue_31 rfl (by first | exact Or.inl rfl | exact Or.inr rfl) ⟨by first | rw [bI_t q27] | rw [bI_f q27], by first | rw [c_rt, if_pos q27] | rw [c_rt, if_neg q27]⟩
