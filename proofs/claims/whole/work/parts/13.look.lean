/-! Bank: a look at a word, the scrubber, how many -/
theorem c_sw_o (σ : r_Sg) (w : Nat) (sb : Option Nat) (b : Nat) {q : Nat} (h5 : q ≠ 5) (h7 : q ≠ 7) (h8 : q ≠ 8) (h9 : q ≠ 9) : c_sw σ w sb b q = σ q := by
  unfold c_sw
  split
  · simp [r_up, h5, c_cp_o σ b w h7 h8 h9]
  · rfl
theorem c_rt_o (σ : r_Sg) (w : Nat) (sb : Option Nat) (fr : Nat → Nat) (nr p : Nat) {q : Nat} (h5 : q ≠ 5) (h7 : q ≠ 7) (h8 : q ≠ 8) (h9 : q ≠ 9) (h14 : q ≠ 14) (h16 : q ≠ 16) : c_rt σ w sb fr nr p q = σ q := by
  unfold c_rt
  split
  · simp [r_up, h5, h14, h16, c_cfo_o σ _ _ h7 h8 h9]
  · rfl
def c_fr (σ : r_Sg) (w : Nat) (sb : Option Nat) (fr : Nat → Nat) (nr p : Nat) : Nat → Nat := if c_du2 σ w sb fr nr p then fun x => if x = p then 4 + nr else fr x else fr
def c_nr (σ : r_Sg) (w : Nat) (sb : Option Nat) (fr : Nat → Nat) (nr p : Nat) : Nat := if c_du2 σ w sb fr nr p then nr + 1 else nr
theorem c_rtBH {σ : r_Sg} {w : Nat} {sb : Option Nat} {fr : Nat → Nat} {nr p : Nat} (h : r_BH σ w sb fr nr) (hp : p < 4) : r_BH (c_rt σ w sb fr nr p) w sb (c_fr σ w sb fr nr p) (c_nr σ w sb fr nr p) := by
  unfold c_rt c_fr c_nr
  by_cases hd : c_du2 σ w sb fr nr p = true
  · obtain ⟨h1, h2, h3, h4, h5, h6, h7, h8⟩ := h
    have hd2 : ¬ nr = 2 := (of_decide_eq_true hd).1
    have e : ∀ q, q ≠ 7 → q ≠ 8 → q ≠ 9 → c_cfo σ (fr p) (4 + nr) 4 q = σ q := fun q a b c => c_cfo_o σ _ _ a b c 4
    simp only [hd, if_true]
    refine ⟨?_, h2, ?_, ?_, h5, ?_, ?_, by omega⟩
    · simpa [r_up, e 1] using h1
    · simpa [r_up, upd, e 5] using h3
    · simpa [r_up, upd, e 5] using h4
    · intro x hx
      by_cases hxp : x = p
      · subst hxp
        simp [r_up, upd]
        omega
      · simpa [r_up, upd, e 14, hxp] using h6 x hx
    · simp [r_up, upd, nI_1]
  · simp only [hd, if_false]
    exact h
/-- the bit's cell gets a mark more -/
def c_mk (σ : r_Sg) (w : Nat) (sb : Option Nat) (fr : Nat → Nat) (p v b : Nat) : r_Sg := r_up (c_nl σ 1 (nI b) (nI p) (nI v)) 9 (21 * (4 * fr p + v) + r_pl w sb b) (σ 9 (21 * (4 * fr p + v) + r_pl w sb b) + 1)
def c_lk (σ : r_Sg) (w : Nat) (sb : Option Nat) (fr : Nat → Nat) (nr p v b tc : Nat) : r_Sg :=
  c_nm (c_rt (c_sw (c_mk σ w sb fr p v b) w sb b) w (c_swb (c_mk σ w sb fr p v b) sb b) fr nr p) p tc (bI (c_du1 (c_mk σ w sb fr p v b) sb b = true)) (bI (c_du2 (c_sw (c_mk σ w sb fr p v b) w sb b) w (c_swb (c_mk σ w sb fr p v b) sb b) fr nr p = true))
theorem c_nm_o (σ : r_Sg) (p tc : Nat) (a b : Int32) {q : Nat} (h10 : q ≠ 10) (h12 : q ≠ 12) (h13 : q ≠ 13) : c_nm σ p tc a b q = σ q := by
  simp only [c_nm]
  split <;> simp [r_up, h10, h12, h13]
theorem c_mkBH {σ : r_Sg} {w : Nat} {sb : Option Nat} {fr : Nat → Nat} {nr : Nat} (p v b : Nat) (h : r_BH σ w sb fr nr) : r_BH (c_mk σ w sb fr p v b) w sb fr nr := h.to rfl rfl rfl
def c_lkb (σ : r_Sg) (w : Nat) (sb : Option Nat) (fr : Nat → Nat) (p v b : Nat) : Option Nat := c_swb (c_mk σ w sb fr p v b) sb b
def c_lkf (σ : r_Sg) (w : Nat) (sb : Option Nat) (fr : Nat → Nat) (nr p v b : Nat) : Nat → Nat := c_fr (c_sw (c_mk σ w sb fr p v b) w sb b) w (c_lkb σ w sb fr p v b) fr nr p
def c_lkn (σ : r_Sg) (w : Nat) (sb : Option Nat) (fr : Nat → Nat) (nr p v b : Nat) : Nat := c_nr (c_sw (c_mk σ w sb fr p v b) w sb b) w (c_lkb σ w sb fr p v b) fr nr p
theorem c_lkBH {σ : r_Sg} {w : Nat} {sb : Option Nat} {fr : Nat → Nat} {nr p v b : Nat} (tc : Nat) (h : r_BH σ w sb fr nr) (hp : p < 4) (hb : b < w) : r_BH (c_lk σ w sb fr nr p v b tc) w (c_lkb σ w sb fr p v b) (c_lkf σ w sb fr nr p v b) (c_lkn σ w sb fr nr p v b) :=
  (c_rtBH (c_swBH (c_mkBH p v b h) hb) hp).to (c_nm_o _ _ _ _ _ (by decide) (by decide) (by decide)) (c_nm_o _ _ _ _ _ (by decide) (by decide) (by decide)) (c_nm_o _ _ _ _ _ (by decide) (by decide) (by decide))
def c_st (σ : r_Sg) (a b : Nat) : r_Sg := if b = 3 then r_up (r_up (r_up σ 5 10 (nI (b + 1))) 5 10 0) 5 9 (if a + 1 < 4 then nI (a + 1) else 0) else r_up σ 5 10 (nI (b + 1))
def c_bu (σ : r_Sg) (w : Nat) (sb : Option Nat) (fr : Nat → Nat) : Nat → Int32
  | 0 => 0
  | p + 1 => c_bu σ w sb fr p + c_bf σ (fr p) (r_po w sb (r_all w)) 4
def c_su (σ : r_Sg) (w : Nat) (sb : Option Nat) (fr : Nat → Nat) : Nat → Int32
  | 0 => 0
  | p + 1 => c_su σ w sb fr p + c_sf σ (fr p) (r_po w sb (r_all w)) 4
theorem c_stBH {σ : r_Sg} {w : Nat} {sb : Option Nat} {fr : Nat → Nat} {nr a b : Nat} (h : r_BH σ w sb fr nr) : r_BH (c_st σ a b) w sb fr nr := by
  obtain ⟨h1, h2, h3, h4, h5, h6, h7, h8⟩ := h
  unfold c_st
  split <;> exact ⟨h1, h2, h3, h4, h5, h6, h7, h8⟩
theorem c_st_o (σ : r_Sg) (a b : Nat) {q : Nat} (h : q ≠ 5) : c_st σ a b q = σ q := by
  unfold c_st
  split <;> simp [r_up, h]

set_option maxRecDepth 4000 in
theorem ev_X0_lookAt_c {σ : r_Sg} {w : Nat} {sb : Option Nat} {fr : Nat → Nat} {nr : Nat} {p v : Nat} (h : r_BH σ w sb fr nr) (hp : p < 4) (hv : v < 4) (hy : r_syn (σ 2) (r_bo w sb (σ 7 (4 * fr p + v))) w = nI 0) : Ev 3 MX0_lookAt [.ref 5, .int (nI p), .int (nI v)] σ (some (.int (r_bo w sb (σ 7 (4 * fr p + v))))) (c_nl σ 0 (-9) (nI p) (nI v)) := by
  refine Ev_w [.ref 5, .int (nI p), .int (nI v), .null, .null, .null, .null, .null] ?_ (by decide) rfl (Nat.le_of_ble_eq_true rfl) rfl
  refine g_aload_n dX0_lookAt_0 rfl ?_
  refine g_iload_n dX0_lookAt_1 rfl ?_
  refine g_iload_n dX0_lookAt_2 rfl ?_
  refine g_V2 dX0_lookAt_3 vX0_111 rfl (Nat.le_of_ble_eq_true rfl) (by decide) (ev_X0_bitsOf h hp hv) ?_
  refine g_istore_n dX0_lookAt_6 (by decide) rfl ?_
  refine g_aload_n dX0_lookAt_7 rfl ?_
  refine g_getR dX0_lookAt_8 fX0_39 rfl rfl ?_
  refine g_iload_n dX0_lookAt_11 rfl ?_
  refine g_V1 dX0_lookAt_12 vX0_114 rfl (Nat.le_of_ble_eq_true rfl) (by decide) (Ev_r (r' := some (.int (nI 0))) (ev_X2_syndromeOf h.1 h.2.1) (by rw [hy])) ?_
  refine g_istore dX0_lookAt_15 (by decide) rfl ?_
  refine g_iload dX0_lookAt_17 rfl ?_
  refine g_ifne (tgt := 36) dX0_lookAt_19 (by decide) (fun c19 => absurd rfl c19) (fun c19 => ?_)
  refine g_aload_n dX0_lookAt_22 rfl ?_
  refine g_getR dX0_lookAt_23 fX0_21 rfl rfl ?_
  refine g_iconst (v := 0) dX0_lookAt_26 (by decide) ?_
  refine g_bipush (v := (-9)) dX0_lookAt_27 (by decide) ?_
  refine g_iload_n dX0_lookAt_29 rfl ?_
  refine g_iload_n dX0_lookAt_30 rfl ?_
  refine g_V4v dX0_lookAt_31 vX0_117 rfl (Nat.le_of_ble_eq_true rfl) (by decide) (ev_X4_noteLook (k := 0) (by omega)) ?_
  refine g_iload_n dX0_lookAt_34 rfl ?_
  exact g_iret dX0_lookAt_35 rfl ⟨rfl, rfl⟩

set_option maxRecDepth 4000 in
theorem ev_X0_lookAt_f {σ : r_Sg} {w : Nat} {sb : Option Nat} {fr : Nat → Nat} {nr : Nat} {p v y : Nat} (h : r_BH σ w sb fr nr) (hp : p < 4) (hv : v < 4) (hy : r_syn (σ 2) (r_bo w sb (σ 7 (4 * fr p + v))) w = nI y) (hy64 : y < 64) (hy0 : 0 < y) (hb : σ 4 y = -9) : Ev 3 MX0_lookAt [.ref 5, .int (nI p), .int (nI v)] σ (some (.int (-5))) (c_nl σ 2 (-9) (nI p) (nI v)) := by
  refine Ev_w [.ref 5, .int (nI p), .int (nI v), .null, .null, .null, .null, .null] ?_ (by decide) rfl (Nat.le_of_ble_eq_true rfl) rfl
  refine g_aload_n dX0_lookAt_0 rfl ?_
  refine g_iload_n dX0_lookAt_1 rfl ?_
  refine g_iload_n dX0_lookAt_2 rfl ?_
  refine g_V2 dX0_lookAt_3 vX0_111 rfl (Nat.le_of_ble_eq_true rfl) (by decide) (ev_X0_bitsOf h hp hv) ?_
  refine g_istore_n dX0_lookAt_6 (by decide) rfl ?_
  refine g_aload_n dX0_lookAt_7 rfl ?_
  refine g_getR dX0_lookAt_8 fX0_39 rfl rfl ?_
  refine g_iload_n dX0_lookAt_11 rfl ?_
  refine g_V1 dX0_lookAt_12 vX0_114 rfl (Nat.le_of_ble_eq_true rfl) (by decide) (Ev_r (r' := some (.int (nI y))) (ev_X2_syndromeOf h.1 h.2.1) (by rw [hy])) ?_
  refine g_istore dX0_lookAt_15 (by decide) rfl ?_
  refine g_iload dX0_lookAt_17 rfl ?_
  refine g_ifne (tgt := 36) dX0_lookAt_19 (by decide) (fun c19 => ?_) (fun c19 => absurd c19 (nI_ne0 hy0 (by omega)))
  refine g_aload_n dX0_lookAt_36 rfl ?_
  refine g_getR dX0_lookAt_37 fX0_39 rfl rfl ?_
  refine g_iload dX0_lookAt_40 rfl ?_
  refine g_V1 dX0_lookAt_42 vX0_121 rfl (Nat.le_of_ble_eq_true rfl) (by decide) (Ev_r (r' := some (.int (-9))) (ev_X2_bitWithColumn hy64) (by rw [hb])) ?_
  refine g_istore dX0_lookAt_45 (by decide) rfl ?_
  refine g_iload dX0_lookAt_47 rfl ?_
  refine g_bipush (v := (-9)) dX0_lookAt_49 (by decide) ?_
  refine g_icne (tgt := 69) dX0_lookAt_51 (by decide) (fun c51 => absurd rfl c51) (fun c51 => ?_)
  refine g_aload_n dX0_lookAt_54 rfl ?_
  refine g_getR dX0_lookAt_55 fX0_21 rfl rfl ?_
  refine g_iconst (v := 2) dX0_lookAt_58 (by decide) ?_
  refine g_bipush (v := (-9)) dX0_lookAt_59 (by decide) ?_
  refine g_iload_n dX0_lookAt_61 rfl ?_
  refine g_iload_n dX0_lookAt_62 rfl ?_
  refine g_V4v dX0_lookAt_63 vX0_117 rfl (Nat.le_of_ble_eq_true rfl) (by decide) (ev_X4_noteLook (k := 2) (by omega)) ?_
  refine g_bipush (v := (-5)) dX0_lookAt_66 (by decide) ?_
  exact g_iret dX0_lookAt_68 rfl ⟨rfl, rfl⟩

set_option maxRecDepth 4000 in
theorem ev_X0_lookAt_m {σ : r_Sg} {w : Nat} {sb : Option Nat} {fr : Nat → Nat} {nr : Nat} {p v y b tc : Nat} (h : r_BH σ w sb fr nr) (hp : p < 4) (hv : v < 4) (hy : r_syn (σ 2) (r_bo w sb (σ 7 (4 * fr p + v))) w = nI y) (hy64 : y < 64) (hy0 : 0 < y) (hb : σ 4 y = nI b) (hbw : b < w) (htc : σ 10 3 = nI tc) (htc4 : tc ≤ 4) : Ev 4 MX0_lookAt [.ref 5, .int (nI p), .int (nI v)] σ (some (.int ((r_bo w sb (σ 7 (4 * fr p + v))) ^^^ r_bm b))) (c_lk σ w sb fr nr p v b tc) := by
  have hw20 := h.2.1
  have hfr := (h.2.2.2.2.2.1 p hp).2
  refine Ev_w [.ref 5, .int (nI p), .int (nI v), .null, .null, .null, .null, .null] ?_ (by decide) rfl (Nat.le_of_ble_eq_true rfl) rfl
  refine g_aload_n dX0_lookAt_0 rfl ?_
  refine g_iload_n dX0_lookAt_1 rfl ?_
  refine g_iload_n dX0_lookAt_2 rfl ?_
  refine g_V2 dX0_lookAt_3 vX0_111 rfl (Nat.le_of_ble_eq_true rfl) (by decide) (ev_X0_bitsOf h hp hv) ?_
  refine g_istore_n dX0_lookAt_6 (by decide) rfl ?_
  refine g_aload_n dX0_lookAt_7 rfl ?_
  refine g_getR dX0_lookAt_8 fX0_39 rfl rfl ?_
  refine g_iload_n dX0_lookAt_11 rfl ?_
  refine g_V1 dX0_lookAt_12 vX0_114 rfl (Nat.le_of_ble_eq_true rfl) (by decide) (Ev_r (r' := some (.int (nI y))) (ev_X2_syndromeOf h.1 h.2.1) (by rw [hy])) ?_
  refine g_istore dX0_lookAt_15 (by decide) rfl ?_
  refine g_iload dX0_lookAt_17 rfl ?_
  refine g_ifne (tgt := 36) dX0_lookAt_19 (by decide) (fun c19 => ?_) (fun c19 => absurd c19 (nI_ne0 hy0 (by omega)))
  refine g_aload_n dX0_lookAt_36 rfl ?_
  refine g_getR dX0_lookAt_37 fX0_39 rfl rfl ?_
  refine g_iload dX0_lookAt_40 rfl ?_
  refine g_V1 dX0_lookAt_42 vX0_121 rfl (Nat.le_of_ble_eq_true rfl) (by decide) (Ev_r (r' := some (.int (nI b))) (ev_X2_bitWithColumn hy64) (by rw [hb])) ?_
  refine g_istore dX0_lookAt_45 (by decide) rfl ?_
  refine g_iload dX0_lookAt_47 rfl ?_
  refine g_bipush (v := (-9)) dX0_lookAt_49 (by decide) ?_
  refine g_icne (tgt := 69) dX0_lookAt_51 (by decide) (fun c51 => ?_) (fun c51 => absurd c51 (r_nm9 (by omega)))
  refine g_aload_n dX0_lookAt_69 rfl ?_
  refine g_getR dX0_lookAt_70 fX0_21 rfl rfl ?_
  refine g_iconst (v := 1) dX0_lookAt_73 (by decide) ?_
  refine g_iload dX0_lookAt_74 rfl ?_
  refine g_iload_n dX0_lookAt_76 rfl ?_
  refine g_iload_n dX0_lookAt_77 rfl ?_
  refine g_V4v dX0_lookAt_78 vX0_117 rfl (Nat.le_of_ble_eq_true rfl) (by decide) (ev_X4_noteLook (k := 1) (by omega)) ?_
  refine g_aload_n dX0_lookAt_81 rfl ?_
  refine g_getR dX0_lookAt_82 fX0_12 rfl rfl ?_
  refine g_aload_n dX0_lookAt_85 rfl ?_
  refine g_iload_n dX0_lookAt_86 rfl ?_
  refine g_iload_n dX0_lookAt_87 rfl ?_
  refine g_V2 dX0_lookAt_88 vX0_83 rfl (Nat.le_of_ble_eq_true rfl) (by decide) (ev_X0_rowOf (h.to rfl rfl rfl) hp) ?_
  refine g_aload_n dX0_lookAt_91 rfl ?_
  refine g_iload dX0_lookAt_92 rfl ?_
  refine g_V1 dX0_lookAt_94 vX0_98 rfl (Nat.le_of_ble_eq_true rfl) (by decide) (ev_X0_placeOf (h.to rfl rfl rfl) hbw) ?_
  refine g_V2v dX0_lookAt_97 vX0_124 rfl (Nat.le_of_ble_eq_true rfl) (by decide) (ev_X1_addMark (by omega) (r_pl_lt sb hbw hw20)) ?_
  refine g_g (show _ = c_mk σ w sb fr p v b from rfl) ?_
  refine g_aload_n dX0_lookAt_100 rfl ?_
  refine g_iload dX0_lookAt_101 rfl ?_
  refine g_V1 dX0_lookAt_103 vX0_127 rfl (Nat.le_of_ble_eq_true rfl) (by decide) (ev_X0_swapIfDue (c_mkBH p v b h) hbw) ?_
  refine g_istore dX0_lookAt_106 (by decide) rfl ?_
  refine g_aload_n dX0_lookAt_108 rfl ?_
  refine g_iload_n dX0_lookAt_109 rfl ?_
  refine g_V1 dX0_lookAt_110 vX0_131 rfl (Nat.le_of_ble_eq_true rfl) (by decide) (ev_X0_retireIfDue (c_swBH (c_mkBH p v b h) hbw) hp) ?_
  refine g_istore dX0_lookAt_113 (by decide) rfl ?_
  refine g_aload_n dX0_lookAt_115 rfl ?_
  refine g_getR dX0_lookAt_116 fX0_21 rfl rfl ?_
  refine g_iload_n dX0_lookAt_119 rfl ?_
  refine g_iload dX0_lookAt_120 rfl ?_
  refine g_iload dX0_lookAt_122 rfl ?_
  refine g_V3v dX0_lookAt_124 vX0_134 rfl (Nat.le_of_ble_eq_true rfl) (by decide) (ev_X4_noteMending hp (tc := tc) (by rw [c_rt_o _ _ _ _ _ _ (by decide) (by decide) (by decide) (by decide) (by decide) (by decide), c_sw_o _ _ _ _ (by decide) (by decide) (by decide) (by decide)]; exact htc) htc4 (by unfold bI; split <;> simp) (by unfold bI; split <;> simp)) ?_
  refine g_iload_n dX0_lookAt_127 rfl ?_
  refine g_iconst (v := 1) dX0_lookAt_128 (by decide) ?_
  refine g_iload dX0_lookAt_129 rfl ?_
  refine g_ishl dX0_lookAt_131 ?_
  refine g_ixor dX0_lookAt_132 ?_
  exact g_iret dX0_lookAt_133 rfl ⟨rfl, rfl⟩

set_option maxRecDepth 4000 in
theorem ev_X0_stepScrubber {σ : r_Sg} {a b : Nat} (ha : σ 5 9 = nI a) (ha4 : a < 4) (hb : σ 5 10 = nI b) (hb4 : b < 4) : Ev 0 MX0_stepScrubber [.ref 5] σ none (c_st σ a b) := by
  refine Ev_w [.ref 5] ?_ (by decide) rfl (Nat.le_of_ble_eq_true rfl) rfl
  refine g_aload_n dX0_stepScrubber_0 rfl ?_
  refine g_dup dX0_stepScrubber_1 rfl ?_
  refine g_getI dX0_stepScrubber_2 fX0_68 rfl rfl ?_
  refine g_t hb ?_
  refine g_iconst (v := 1) dX0_stepScrubber_5 (by decide) ?_
  refine g_iadd dX0_stepScrubber_6 ?_
  refine g_t (nI_1 b) ?_
  refine g_putI dX0_stepScrubber_7 pX0_68 rfl rfl ?_
  refine g_aload_n dX0_stepScrubber_10 rfl ?_
  refine g_getI dX0_stepScrubber_11 fX0_68 rfl rfl ?_
  refine g_t (show _ = nI (b + 1) from by simp [r_up, upd]) ?_
  refine g_iconst (v := nI 4) dX0_stepScrubber_14 (by decide) ?_
  refine g_icne (tgt := 47) dX0_stepScrubber_15 (by decide) (fun c15 => ?_) (fun c15 => ?_)
  · have q : ¬ b = 3 := by intro z; subst z; exact c15 rfl
    exact g_ret dX0_stepScrubber_47 rfl ⟨rfl, by first | rw [c_st, if_neg q] | rw [c_st, if_pos q, if_pos q2] | rw [c_st, if_pos q, if_neg q2]⟩
  · have q : b = 3 := by have := (nI_eq (by omega) (by omega)).mp c15; omega
    refine g_aload_n dX0_stepScrubber_18 rfl ?_
    refine g_iconst (v := 0) dX0_stepScrubber_19 (by decide) ?_
    refine g_putI dX0_stepScrubber_20 pX0_68 rfl rfl ?_
    refine g_aload_n dX0_stepScrubber_23 rfl ?_
    refine g_aload_n dX0_stepScrubber_24 rfl ?_
    refine g_getI dX0_stepScrubber_25 fX0_65 rfl rfl ?_
    refine g_t (show _ = nI a from ha) ?_
    refine g_iconst (v := 1) dX0_stepScrubber_28 (by decide) ?_
    refine g_iadd dX0_stepScrubber_29 ?_
    refine g_t (nI_1 a) ?_
    refine g_iconst (v := nI 4) dX0_stepScrubber_30 (by decide) ?_
    refine g_icge (tgt := 43) dX0_stepScrubber_31 (by decide) (fun c31 => ?_) (fun c31 => ?_)
    · have q2 : ¬ a + 1 < 4 := fun z => absurd c31 (nI_ge z (by omega))
      refine g_iconst (v := 0) dX0_stepScrubber_43 (by decide) ?_
      refine g_putI dX0_stepScrubber_44 pX0_65 rfl rfl ?_
      exact g_ret dX0_stepScrubber_47 rfl ⟨rfl, by first | rw [c_st, if_neg q] | rw [c_st, if_pos q, if_pos q2] | rw [c_st, if_pos q, if_neg q2]⟩
    · have q2 : a + 1 < 4 := by rcases Nat.lt_or_ge (a + 1) 4 with z | z; exact z; exact absurd (nI_le z (by omega)) c31
      refine g_aload_n dX0_stepScrubber_34 rfl ?_
      refine g_getI dX0_stepScrubber_35 fX0_65 rfl rfl ?_
      refine g_t (show _ = nI a from ha) ?_
      refine g_iconst (v := 1) dX0_stepScrubber_38 (by decide) ?_
      refine g_iadd dX0_stepScrubber_39 ?_
      refine g_t (nI_1 a) ?_
      refine g_goto (tgt := 44) dX0_stepScrubber_40 (by decide) ?_
      refine g_putI dX0_stepScrubber_44 pX0_65 rfl rfl ?_
      exact g_ret dX0_stepScrubber_47 rfl ⟨rfl, by first | rw [c_st, if_neg q] | rw [c_st, if_pos q, if_pos q2] | rw [c_st, if_pos q, if_neg q2]⟩

set_option maxRecDepth 4000 in
theorem ev_X0_scrubNext_c {σ : r_Sg} {w : Nat} {sb : Option Nat} {fr : Nat → Nat} {nr : Nat} {p v : Nat} (h : r_BH σ w sb fr nr) (ha : σ 5 9 = nI p) (hp : p < 4) (hb5 : σ 5 10 = nI v) (hv : v < 4) (hy : r_syn (σ 2) (r_bo w sb (σ 7 (4 * fr p + v))) w = nI 0) : Ev 5 MX0_scrubNext [.ref 5] σ (some (.int 0)) (c_nl (c_st σ p v) 0 (-9) (nI p) (nI v)) := by
  have e7 : c_st σ p v 7 = σ 7 := c_st_o σ p v (by decide)
  have e2 : c_st σ p v 2 = σ 2 := c_st_o σ p v (by decide)
  have e4 : c_st σ p v 4 = σ 4 := c_st_o σ p v (by decide)
  have e10 : c_st σ p v 10 = σ 10 := c_st_o σ p v (by decide)
  refine Ev_w [.ref 5, .null, .null, .null] ?_ (by decide) rfl (Nat.le_of_ble_eq_true rfl) rfl
  refine g_aload_n dX0_scrubNext_0 rfl ?_
  refine g_getI dX0_scrubNext_1 fX0_65 rfl rfl ?_
  refine g_t ha ?_
  refine g_istore_n dX0_scrubNext_4 (by decide) rfl ?_
  refine g_aload_n dX0_scrubNext_5 rfl ?_
  refine g_getI dX0_scrubNext_6 fX0_68 rfl rfl ?_
  refine g_t hb5 ?_
  refine g_istore_n dX0_scrubNext_9 (by decide) rfl ?_
  refine g_aload_n dX0_scrubNext_10 rfl ?_
  refine g_V0v dX0_scrubNext_11 vX0_138 rfl (Nat.le_of_ble_eq_true rfl) (by decide) (ev_X0_stepScrubber ha hp hb5 hv) ?_
  refine g_aload_n dX0_scrubNext_14 rfl ?_
  refine g_iload_n dX0_scrubNext_15 rfl ?_
  refine g_iload_n dX0_scrubNext_16 rfl ?_
  refine g_V2 dX0_scrubNext_17 vX0_141 rfl (Nat.le_of_ble_eq_true rfl) (by decide) (ev_X0_lookAt_c (c_stBH h) hp hv (by rw [e2, e7]; exact hy)) ?_
  refine g_istore_n dX0_scrubNext_20 (by decide) rfl ?_
  refine g_aload_n dX0_scrubNext_21 rfl ?_
  refine g_getR dX0_scrubNext_22 fX0_21 rfl rfl ?_
  refine g_iconst (v := 0) dX0_scrubNext_25 (by decide) ?_
  refine g_V1 dX0_scrubNext_26 vX0_144 rfl (Nat.le_of_ble_eq_true rfl) (by decide) (ev_X4_latest_0) ?_
  refine g_iconst (v := 1) dX0_scrubNext_29 (by decide) ?_
  refine g_iceq (tgt := 35) dX0_scrubNext_30 (by decide) (fun c30 => absurd c30 (by simp [c_nl, r_up, upd]; decide)) (fun c30 => ?_)
  refine g_iconst (v := 0) dX0_scrubNext_33 (by decide) ?_
  exact g_zret dX0_scrubNext_34 rfl (by first | exact Or.inl rfl | exact Or.inr rfl) ⟨rfl, rfl⟩

set_option maxRecDepth 4000 in
theorem ev_X0_scrubNext_f {σ : r_Sg} {w : Nat} {sb : Option Nat} {fr : Nat → Nat} {nr : Nat} {p v y : Nat} (h : r_BH σ w sb fr nr) (ha : σ 5 9 = nI p) (hp : p < 4) (hb5 : σ 5 10 = nI v) (hv : v < 4) (hy : r_syn (σ 2) (r_bo w sb (σ 7 (4 * fr p + v))) w = nI y) (hy64 : y < 64) (hy0 : 0 < y) (hb : σ 4 y = -9) : Ev 5 MX0_scrubNext [.ref 5] σ (some (.int 0)) (c_nl (c_st σ p v) 2 (-9) (nI p) (nI v)) := by
  have e7 : c_st σ p v 7 = σ 7 := c_st_o σ p v (by decide)
  have e2 : c_st σ p v 2 = σ 2 := c_st_o σ p v (by decide)
  have e4 : c_st σ p v 4 = σ 4 := c_st_o σ p v (by decide)
  have e10 : c_st σ p v 10 = σ 10 := c_st_o σ p v (by decide)
  refine Ev_w [.ref 5, .null, .null, .null] ?_ (by decide) rfl (Nat.le_of_ble_eq_true rfl) rfl
  refine g_aload_n dX0_scrubNext_0 rfl ?_
  refine g_getI dX0_scrubNext_1 fX0_65 rfl rfl ?_
  refine g_t ha ?_
  refine g_istore_n dX0_scrubNext_4 (by decide) rfl ?_
  refine g_aload_n dX0_scrubNext_5 rfl ?_
  refine g_getI dX0_scrubNext_6 fX0_68 rfl rfl ?_
  refine g_t hb5 ?_
  refine g_istore_n dX0_scrubNext_9 (by decide) rfl ?_
  refine g_aload_n dX0_scrubNext_10 rfl ?_
  refine g_V0v dX0_scrubNext_11 vX0_138 rfl (Nat.le_of_ble_eq_true rfl) (by decide) (ev_X0_stepScrubber ha hp hb5 hv) ?_
  refine g_aload_n dX0_scrubNext_14 rfl ?_
  refine g_iload_n dX0_scrubNext_15 rfl ?_
  refine g_iload_n dX0_scrubNext_16 rfl ?_
  refine g_V2 dX0_scrubNext_17 vX0_141 rfl (Nat.le_of_ble_eq_true rfl) (by decide) (ev_X0_lookAt_f (c_stBH h) hp hv (by rw [e2, e7]; exact hy) hy64 hy0 (by rw [e4]; exact hb)) ?_
  refine g_istore_n dX0_scrubNext_20 (by decide) rfl ?_
  refine g_aload_n dX0_scrubNext_21 rfl ?_
  refine g_getR dX0_scrubNext_22 fX0_21 rfl rfl ?_
  refine g_iconst (v := 0) dX0_scrubNext_25 (by decide) ?_
  refine g_V1 dX0_scrubNext_26 vX0_144 rfl (Nat.le_of_ble_eq_true rfl) (by decide) (ev_X4_latest_0) ?_
  refine g_iconst (v := 1) dX0_scrubNext_29 (by decide) ?_
  refine g_iceq (tgt := 35) dX0_scrubNext_30 (by decide) (fun c30 => absurd c30 (by simp [c_nl, r_up, upd]; decide)) (fun c30 => ?_)
  refine g_iconst (v := 0) dX0_scrubNext_33 (by decide) ?_
  exact g_zret dX0_scrubNext_34 rfl (by first | exact Or.inl rfl | exact Or.inr rfl) ⟨rfl, rfl⟩

theorem c_lk_10 (σ : r_Sg) (w : Nat) (sb : Option Nat) (fr : Nat → Nat) (nr p v b tc : Nat) : c_lk σ w sb fr nr p v b tc 10 4 = 1 := by
  have e : ∀ (s : r_Sg) (a b : Int32), c_nm s p tc a b 10 4 = s 10 4 := by
    intro s a b
    simp only [c_nm]
    split <;> simp [r_up, upd]
  unfold c_lk
  rw [e, c_rt_o _ _ _ _ _ _ (by decide) (by decide) (by decide) (by decide) (by decide) (by decide), c_sw_o _ _ _ _ (by decide) (by decide) (by decide) (by decide)]
  rfl

set_option maxRecDepth 4000 in
theorem ev_X0_scrubNext_m {σ : r_Sg} {w : Nat} {sb : Option Nat} {fr : Nat → Nat} {nr : Nat} {p v y b tc : Nat} (h : r_BH σ w sb fr nr) (ha : σ 5 9 = nI p) (hp : p < 4) (hb5 : σ 5 10 = nI v) (hv : v < 4) (hy : r_syn (σ 2) (r_bo w sb (σ 7 (4 * fr p + v))) w = nI y) (hy64 : y < 64) (hy0 : 0 < y) (hb : σ 4 y = nI b) (hbw : b < w) (htc : σ 10 3 = nI tc) (htc4 : tc ≤ 4) : Ev 5 MX0_scrubNext [.ref 5] σ (some (.int 1)) (c_pb (c_lk (c_st σ p v) w sb fr nr p v b tc) w (c_lkb (c_st σ p v) w sb fr p v b) (4 * c_lkf (c_st σ p v) w sb fr nr p v b p + v) ((r_bo w sb (σ 7 (4 * fr p + v))) ^^^ r_bm b)) := by
  have e7 : c_st σ p v 7 = σ 7 := c_st_o σ p v (by decide)
  have e2 : c_st σ p v 2 = σ 2 := c_st_o σ p v (by decide)
  have e4 : c_st σ p v 4 = σ 4 := c_st_o σ p v (by decide)
  have e10 : c_st σ p v 10 = σ 10 := c_st_o σ p v (by decide)
  refine Ev_w [.ref 5, .null, .null, .null] ?_ (by decide) rfl (Nat.le_of_ble_eq_true rfl) rfl
  refine g_aload_n dX0_scrubNext_0 rfl ?_
  refine g_getI dX0_scrubNext_1 fX0_65 rfl rfl ?_
  refine g_t ha ?_
  refine g_istore_n dX0_scrubNext_4 (by decide) rfl ?_
  refine g_aload_n dX0_scrubNext_5 rfl ?_
  refine g_getI dX0_scrubNext_6 fX0_68 rfl rfl ?_
  refine g_t hb5 ?_
  refine g_istore_n dX0_scrubNext_9 (by decide) rfl ?_
  refine g_aload_n dX0_scrubNext_10 rfl ?_
  refine g_V0v dX0_scrubNext_11 vX0_138 rfl (Nat.le_of_ble_eq_true rfl) (by decide) (ev_X0_stepScrubber ha hp hb5 hv) ?_
  refine g_aload_n dX0_scrubNext_14 rfl ?_
  refine g_iload_n dX0_scrubNext_15 rfl ?_
  refine g_iload_n dX0_scrubNext_16 rfl ?_
  refine g_V2 dX0_scrubNext_17 vX0_141 rfl (Nat.le_of_ble_eq_true rfl) (by decide) (ev_X0_lookAt_m (c_stBH h) hp hv (by rw [e2, e7]; exact hy) hy64 hy0 (by rw [e4]; exact hb) hbw (by rw [e10]; exact htc) htc4) ?_
  refine g_istore_n dX0_scrubNext_20 (by decide) rfl ?_
  refine g_aload_n dX0_scrubNext_21 rfl ?_
  refine g_getR dX0_scrubNext_22 fX0_21 rfl rfl ?_
  refine g_iconst (v := 0) dX0_scrubNext_25 (by decide) ?_
  refine g_V1 dX0_scrubNext_26 vX0_144 rfl (Nat.le_of_ble_eq_true rfl) (by decide) (ev_X4_latest_0) ?_
  refine g_iconst (v := 1) dX0_scrubNext_29 (by decide) ?_
  refine g_iceq (tgt := 35) dX0_scrubNext_30 (by decide) (fun c30 => ?_) (fun c30 => absurd (c_lk_10 (c_st σ p v) w sb fr nr p v b tc) c30)
  refine g_aload_n dX0_scrubNext_35 rfl ?_
  refine g_iload_n dX0_scrubNext_36 rfl ?_
  refine g_iload_n dX0_scrubNext_37 rfl ?_
  refine g_iload_n dX0_scrubNext_38 rfl ?_
  refine g_V3v dX0_scrubNext_39 vX0_79 rfl (Nat.le_of_ble_eq_true rfl) (by decide) (ev_X0_putBits (c_lkBH tc (c_stBH h) hp hbw) hp hv) ?_
  refine g_iconst (v := 1) dX0_scrubNext_42 (by decide) ?_
  exact g_zret dX0_scrubNext_43 rfl (by first | exact Or.inl rfl | exact Or.inr rfl) ⟨rfl, by rw [e7]⟩

set_option maxRecDepth 4000 in
theorem ev_X0_badInUse {σ : r_Sg} {w : Nat} {sb : Option Nat} {fr : Nat → Nat} {nr : Nat} (h : r_BH σ w sb fr nr) : Ev 3 MX0_badInUse [.ref 5] σ (some (.int (c_bu σ w sb fr 4))) σ := by
  refine Ev_w [.ref 5, .null, .null] ?_ (by decide) rfl (Nat.le_of_ble_eq_true rfl) rfl
  refine g_iconst (v := 0) dX0_badInUse_0 (by decide) ?_
  refine g_istore_n dX0_badInUse_1 (by decide) rfl ?_
  refine g_iconst (v := 0) dX0_badInUse_2 (by decide) ?_
  refine g_istore_n dX0_badInUse_3 (by decide) rfl ?_
  refine r_loop (n := 4) (fun k => [.ref 5, .int (c_bu σ w sb fr k), .int (nI k)]) (fun k => σ) (fun k hk ih => ?_) ?_
  · refine g_iload_n dX0_badInUse_4 rfl ?_
    refine g_iconst (v := nI 4) dX0_badInUse_5 (by decide) ?_
    refine g_icge (tgt := 35) dX0_badInUse_6 (by decide) (fun c6 => absurd c6 (nI_ge hk (by omega))) (fun c6 => ?_)
    have hfr := (h.2.2.2.2.2.1 k hk).2
    refine g_iload_n dX0_badInUse_9 rfl ?_
    refine g_aload_n dX0_badInUse_10 rfl ?_
    refine g_getR dX0_badInUse_11 fX0_12 rfl rfl ?_
    refine g_aload_n dX0_badInUse_14 rfl ?_
    refine g_getR dX0_badInUse_15 fX0_25 rfl rfl ?_
    refine g_iload_n dX0_badInUse_18 rfl ?_
    refine g_ial _ dX0_badInUse_19 rfl rfl (by omega) ?_
    refine g_t (h.2.2.2.2.2.1 k hk).1 ?_
    refine g_aload_n dX0_badInUse_20 rfl ?_
    refine g_V0 dX0_badInUse_21 vX0_162 rfl (Nat.le_of_ble_eq_true rfl) (by decide) (ev_X0_placesInUse h) ?_
    refine g_V2 dX0_badInUse_24 vX0_174 rfl (Nat.le_of_ble_eq_true rfl) (by decide) (ev_X1_badInFrame hfr) ?_
    refine g_iadd dX0_badInUse_27 ?_
    refine g_istore_n dX0_badInUse_28 (by decide) rfl ?_
    refine g_iinc (v := nI (k + 1)) dX0_badInUse_29 rfl (nI_1 k) (by decide) rfl ?_
    refine g_goto (tgt := 4) dX0_badInUse_32 (by decide) ?_
    exact ih
  · refine g_iload_n dX0_badInUse_4 rfl ?_
    refine g_iconst (v := nI 4) dX0_badInUse_5 (by decide) ?_
    refine g_icge (tgt := 35) dX0_badInUse_6 (by decide) (fun c6 => ?_) (fun c6 => absurd (nI_le (Nat.le_refl _) (by omega)) c6)
    refine g_iload_n dX0_badInUse_35 rfl ?_
    exact g_iret dX0_badInUse_36 rfl ⟨rfl, rfl⟩

set_option maxRecDepth 4000 in
theorem ev_X0_stuckInUse {σ : r_Sg} {w : Nat} {sb : Option Nat} {fr : Nat → Nat} {nr : Nat} (h : r_BH σ w sb fr nr) : Ev 3 MX0_stuckInUse [.ref 5] σ (some (.int (c_su σ w sb fr 4))) σ := by
  refine Ev_w [.ref 5, .null, .null] ?_ (by decide) rfl (Nat.le_of_ble_eq_true rfl) rfl
  refine g_iconst (v := 0) dX0_stuckInUse_0 (by decide) ?_
  refine g_istore_n dX0_stuckInUse_1 (by decide) rfl ?_
  refine g_iconst (v := 0) dX0_stuckInUse_2 (by decide) ?_
  refine g_istore_n dX0_stuckInUse_3 (by decide) rfl ?_
  refine r_loop (n := 4) (fun k => [.ref 5, .int (c_su σ w sb fr k), .int (nI k)]) (fun k => σ) (fun k hk ih => ?_) ?_
  · refine g_iload_n dX0_stuckInUse_4 rfl ?_
    refine g_iconst (v := nI 4) dX0_stuckInUse_5 (by decide) ?_
    refine g_icge (tgt := 35) dX0_stuckInUse_6 (by decide) (fun c6 => absurd c6 (nI_ge hk (by omega))) (fun c6 => ?_)
    have hfr := (h.2.2.2.2.2.1 k hk).2
    refine g_iload_n dX0_stuckInUse_9 rfl ?_
    refine g_aload_n dX0_stuckInUse_10 rfl ?_
    refine g_getR dX0_stuckInUse_11 fX0_12 rfl rfl ?_
    refine g_aload_n dX0_stuckInUse_14 rfl ?_
    refine g_getR dX0_stuckInUse_15 fX0_25 rfl rfl ?_
    refine g_iload_n dX0_stuckInUse_18 rfl ?_
    refine g_ial _ dX0_stuckInUse_19 rfl rfl (by omega) ?_
    refine g_t (h.2.2.2.2.2.1 k hk).1 ?_
    refine g_aload_n dX0_stuckInUse_20 rfl ?_
    refine g_V0 dX0_stuckInUse_21 vX0_162 rfl (Nat.le_of_ble_eq_true rfl) (by decide) (ev_X0_placesInUse h) ?_
    refine g_V2 dX0_stuckInUse_24 vX0_180 rfl (Nat.le_of_ble_eq_true rfl) (by decide) (ev_X1_stuckInFrame hfr) ?_
    refine g_iadd dX0_stuckInUse_27 ?_
    refine g_istore_n dX0_stuckInUse_28 (by decide) rfl ?_
    refine g_iinc (v := nI (k + 1)) dX0_stuckInUse_29 rfl (nI_1 k) (by decide) rfl ?_
    refine g_goto (tgt := 4) dX0_stuckInUse_32 (by decide) ?_
    exact ih
  · refine g_iload_n dX0_stuckInUse_4 rfl ?_
    refine g_iconst (v := nI 4) dX0_stuckInUse_5 (by decide) ?_
    refine g_icge (tgt := 35) dX0_stuckInUse_6 (by decide) (fun c6 => ?_) (fun c6 => absurd (nI_le (Nat.le_refl _) (by omega)) c6)
    refine g_iload_n dX0_stuckInUse_35 rfl ?_
    exact g_iret dX0_stuckInUse_36 rfl ⟨rfl, rfl⟩

set_option maxRecDepth 4000 in
theorem ev_X0_tally_0 {σ : r_Sg} {w : Nat} {sb : Option Nat} {fr : Nat → Nat} {nr : Nat} (h : r_BH σ w sb fr nr) : Ev 4 MX0_tally [.ref 5, .int 0] σ (some (.int (σ 11 0 + σ 11 1 + σ 11 2))) σ := by
  refine Ev_w [.ref 5, .int 0] ?_ (by decide) rfl (Nat.le_of_ble_eq_true rfl) rfl
  refine g_iload_n dX0_tally_0 rfl ?_
  refine g_tabIn (tgt := 52) dX0_tally_1 (by decide) (by decide) (show _ = some 51 from rfl) (by decide) ?_
  refine g_aload_n dX0_tally_52 rfl ?_
  refine g_getR dX0_tally_53 fX0_21 rfl rfl ?_
  refine g_V0 dX0_tally_56 vX0_147 rfl (Nat.le_of_ble_eq_true rfl) (by decide) (ev_X4_allLooks) ?_
  exact g_iret dX0_tally_59 rfl ⟨rfl, rfl⟩

set_option maxRecDepth 4000 in
theorem ev_X0_tally_1 {σ : r_Sg} {w : Nat} {sb : Option Nat} {fr : Nat → Nat} {nr : Nat} (h : r_BH σ w sb fr nr) : Ev 4 MX0_tally [.ref 5, .int 1] σ (some (.int (σ 11 0))) σ := by
  refine Ev_w [.ref 5, .int 1] ?_ (by decide) rfl (Nat.le_of_ble_eq_true rfl) rfl
  refine g_iload_n dX0_tally_0 rfl ?_
  refine g_tabIn (tgt := 60) dX0_tally_1 (by decide) (by decide) (show _ = some 59 from rfl) (by decide) ?_
  refine g_aload_n dX0_tally_60 rfl ?_
  refine g_getR dX0_tally_61 fX0_21 rfl rfl ?_
  refine g_iconst (v := nI 0) dX0_tally_64 (by decide) ?_
  refine g_V1 dX0_tally_65 vX0_150 rfl (Nat.le_of_ble_eq_true rfl) (by decide) (ev_X4_looksOf (by omega)) ?_
  exact g_iret dX0_tally_68 rfl ⟨rfl, rfl⟩

set_option maxRecDepth 4000 in
theorem ev_X0_tally_2 {σ : r_Sg} {w : Nat} {sb : Option Nat} {fr : Nat → Nat} {nr : Nat} (h : r_BH σ w sb fr nr) : Ev 4 MX0_tally [.ref 5, .int 2] σ (some (.int (σ 11 1))) σ := by
  refine Ev_w [.ref 5, .int 2] ?_ (by decide) rfl (Nat.le_of_ble_eq_true rfl) rfl
  refine g_iload_n dX0_tally_0 rfl ?_
  refine g_tabIn (tgt := 69) dX0_tally_1 (by decide) (by decide) (show _ = some 68 from rfl) (by decide) ?_
  refine g_aload_n dX0_tally_69 rfl ?_
  refine g_getR dX0_tally_70 fX0_21 rfl rfl ?_
  refine g_iconst (v := nI 1) dX0_tally_73 (by decide) ?_
  refine g_V1 dX0_tally_74 vX0_150 rfl (Nat.le_of_ble_eq_true rfl) (by decide) (ev_X4_looksOf (by omega)) ?_
  exact g_iret dX0_tally_77 rfl ⟨rfl, rfl⟩

set_option maxRecDepth 4000 in
theorem ev_X0_tally_3 {σ : r_Sg} {w : Nat} {sb : Option Nat} {fr : Nat → Nat} {nr : Nat} (h : r_BH σ w sb fr nr) : Ev 4 MX0_tally [.ref 5, .int 3] σ (some (.int (σ 11 2))) σ := by
  refine Ev_w [.ref 5, .int 3] ?_ (by decide) rfl (Nat.le_of_ble_eq_true rfl) rfl
  refine g_iload_n dX0_tally_0 rfl ?_
  refine g_tabIn (tgt := 78) dX0_tally_1 (by decide) (by decide) (show _ = some 77 from rfl) (by decide) ?_
  refine g_aload_n dX0_tally_78 rfl ?_
  refine g_getR dX0_tally_79 fX0_21 rfl rfl ?_
  refine g_iconst (v := nI 2) dX0_tally_82 (by decide) ?_
  refine g_V1 dX0_tally_83 vX0_150 rfl (Nat.le_of_ble_eq_true rfl) (by decide) (ev_X4_looksOf (by omega)) ?_
  exact g_iret dX0_tally_86 rfl ⟨rfl, rfl⟩

set_option maxRecDepth 4000 in
theorem ev_X0_tally_4 {σ : r_Sg} {w : Nat} {sb : Option Nat} {fr : Nat → Nat} {nr : Nat} (h : r_BH σ w sb fr nr) : Ev 4 MX0_tally [.ref 5, .int 4] σ (some (.int (c_bu σ w sb fr 4))) σ := by
  refine Ev_w [.ref 5, .int 4] ?_ (by decide) rfl (Nat.le_of_ble_eq_true rfl) rfl
  refine g_iload_n dX0_tally_0 rfl ?_
  refine g_tabIn (tgt := 87) dX0_tally_1 (by decide) (by decide) (show _ = some 86 from rfl) (by decide) ?_
  refine g_aload_n dX0_tally_87 rfl ?_
  refine g_V0 dX0_tally_88 vX0_153 rfl (Nat.le_of_ble_eq_true rfl) (by decide) (ev_X0_badInUse h) ?_
  exact g_iret dX0_tally_91 rfl ⟨rfl, rfl⟩

set_option maxRecDepth 4000 in
theorem ev_X0_tally_5 {σ : r_Sg} {w : Nat} {sb : Option Nat} {fr : Nat → Nat} {nr : Nat} (h : r_BH σ w sb fr nr) : Ev 4 MX0_tally [.ref 5, .int 5] σ (some (.int (c_su σ w sb fr 4))) σ := by
  refine Ev_w [.ref 5, .int 5] ?_ (by decide) rfl (Nat.le_of_ble_eq_true rfl) rfl
  refine g_iload_n dX0_tally_0 rfl ?_
  refine g_tabIn (tgt := 92) dX0_tally_1 (by decide) (by decide) (show _ = some 91 from rfl) (by decide) ?_
  refine g_aload_n dX0_tally_92 rfl ?_
  refine g_V0 dX0_tally_93 vX0_156 rfl (Nat.le_of_ble_eq_true rfl) (by decide) (ev_X0_stuckInUse h) ?_
  exact g_iret dX0_tally_96 rfl ⟨rfl, rfl⟩

set_option maxRecDepth 4000 in
theorem ev_X0_tally_6 {σ : r_Sg} {w : Nat} {sb : Option Nat} {fr : Nat → Nat} {nr : Nat} (h : r_BH σ w sb fr nr) : Ev 4 MX0_tally [.ref 5, .int 6] σ (some (.int (bI (¬ sb = none)))) σ := by
  refine Ev_w [.ref 5, .int 6] ?_ (by decide) rfl (Nat.le_of_ble_eq_true rfl) rfl
  refine g_iload_n dX0_tally_0 rfl ?_
  refine g_tabIn (tgt := 97) dX0_tally_1 (by decide) (by decide) (show _ = some 96 from rfl) (by decide) ?_
  refine g_aload_n dX0_tally_97 rfl ?_
  refine g_getI dX0_tally_98 fX0_35 rfl rfl ?_
  refine g_t h.2.2.2.1 ?_
  refine g_bipush (v := (-9)) dX0_tally_101 (by decide) ?_
  refine g_icne (tgt := 110) dX0_tally_103 (by decide) (fun c103 => ?_) (fun c103 => ?_)
  · have q : ¬ sb = none := fun z => c103 (by rw [z]; rfl)
    refine g_iconst (v := 1) dX0_tally_110 (by decide) ?_
    exact g_iret dX0_tally_111 rfl ⟨by first | rw [bI_t q] | rw [bI_f q], rfl⟩
  · have q : ¬ ¬ sb = none := by intro z; cases sb with
      | none => exact z rfl
      | some s => have := h.2.2.2.2.1 s rfl; have := h.2.1; exact r_nm9 (show s < 2 ^ 31 by omega) c103
    refine g_iconst (v := 0) dX0_tally_106 (by decide) ?_
    refine g_goto (tgt := 111) dX0_tally_107 (by decide) ?_
    exact g_iret dX0_tally_111 rfl ⟨by first | rw [bI_t q] | rw [bI_f q], rfl⟩

set_option maxRecDepth 4000 in
theorem ev_X0_tally_7 {σ : r_Sg} {w : Nat} {sb : Option Nat} {fr : Nat → Nat} {nr : Nat} (h : r_BH σ w sb fr nr) : Ev 4 MX0_tally [.ref 5, .int 7] σ (some (.int (2 - nI nr))) σ := by
  refine Ev_w [.ref 5, .int 7] ?_ (by decide) rfl (Nat.le_of_ble_eq_true rfl) rfl
  refine g_iload_n dX0_tally_0 rfl ?_
  refine g_tabIn (tgt := 112) dX0_tally_1 (by decide) (by decide) (show _ = some 111 from rfl) (by decide) ?_
  refine g_aload_n dX0_tally_112 rfl ?_
  refine g_V0 dX0_tally_113 vX0_159 rfl (Nat.le_of_ble_eq_true rfl) (by decide) (ev_X0_spareFramesLeft h.2.2.2.2.2.2.1) ?_
  exact g_iret dX0_tally_116 rfl ⟨rfl, rfl⟩

set_option maxRecDepth 4000 in
theorem ev_X0_tally_8 {σ : r_Sg} {w : Nat} {sb : Option Nat} {fr : Nat → Nat} {nr : Nat} (h : r_BH σ w sb fr nr) : Ev 4 MX0_tally [.ref 5, .int 8] σ (some (.int (σ 5 9))) σ := by
  refine Ev_w [.ref 5, .int 8] ?_ (by decide) rfl (Nat.le_of_ble_eq_true rfl) rfl
  refine g_iload_n dX0_tally_0 rfl ?_
  refine g_tabIn (tgt := 117) dX0_tally_1 (by decide) (by decide) (show _ = some 116 from rfl) (by decide) ?_
  refine g_aload_n dX0_tally_117 rfl ?_
  refine g_getI dX0_tally_118 fX0_65 rfl rfl ?_
  exact g_iret dX0_tally_121 rfl ⟨rfl, rfl⟩

set_option maxRecDepth 4000 in
theorem ev_X0_tally_9 {σ : r_Sg} {w : Nat} {sb : Option Nat} {fr : Nat → Nat} {nr : Nat} (h : r_BH σ w sb fr nr) : Ev 4 MX0_tally [.ref 5, .int 9] σ (some (.int (σ 5 10))) σ := by
  refine Ev_w [.ref 5, .int 9] ?_ (by decide) rfl (Nat.le_of_ble_eq_true rfl) rfl
  refine g_iload_n dX0_tally_0 rfl ?_
  refine g_tabOut (tgt := 122) dX0_tally_1 (by decide) (by decide) ?_
  refine g_aload_n dX0_tally_122 rfl ?_
  refine g_getI dX0_tally_123 fX0_68 rfl rfl ?_
  exact g_iret dX0_tally_126 rfl ⟨rfl, rfl⟩
