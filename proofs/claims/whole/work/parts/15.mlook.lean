/-! the reference: a look at a word -/
def m_mk (σ : r_Sg) (w : Nat) (sb : Option Nat) (fr : Nat → Nat) (p v b : Nat) : r_Sg := r_up σ 24 (21 * (4 * fr p + v) + r_pl w sb b) (σ 24 (21 * (4 * fr p + v) + r_pl w sb b) + 1)
def m_t0 (σ : r_Sg) (p mt : Nat) : r_Sg := if σ 28 p = 0 then r_up (r_up σ 29 mt (nI p)) 19 12 (nI mt + 1) else σ
def m_tr (σ : r_Sg) (p mt : Nat) : r_Sg := r_up (m_t0 σ p mt) 28 p (m_t0 σ p mt 28 p + 1)
def m_d1 (σ : r_Sg) (sb : Option Nat) (b : Nat) : Bool := decide (sb = none ∧ 3 ≤ r_cna (fun r => decide (2 ≤ σ 24 (21 * r + b))) 0 24)
def m_s1 (σ : r_Sg) (w : Nat) (sb : Option Nat) (b : Nat) : r_Sg := if m_d1 σ sb b then r_up (m_sw σ w b) 32 2 1 else σ
def m_sb (σ : r_Sg) (sb : Option Nat) (b : Nat) : Option Nat := if m_d1 σ sb b then some b else sb
def m_d2 (σ : r_Sg) (w : Nat) (sb : Option Nat) (fr : Nat → Nat) (nr p : Nat) : Bool := decide (¬ nr = 2 ∧ 4 ≤ m_wb σ w sb (fr p) 4)
def m_r1 (σ : r_Sg) (w : Nat) (sb : Option Nat) (fr : Nat → Nat) (nr p : Nat) : r_Sg := if m_d2 σ w sb fr nr p then r_up (m_rt σ fr nr p) 32 3 1 else σ
def m_fr (σ : r_Sg) (w : Nat) (sb : Option Nat) (fr : Nat → Nat) (nr p : Nat) : Nat → Nat := if m_d2 σ w sb fr nr p then fun x => if x = p then 4 + nr else fr x else fr
def m_nr (σ : r_Sg) (w : Nat) (sb : Option Nat) (fr : Nat → Nat) (nr p : Nat) : Nat := if m_d2 σ w sb fr nr p then nr + 1 else nr
theorem m_t0_o (σ : r_Sg) (p mt : Nat) {q : Nat} (h1 : q ≠ 19) (h2 : q ≠ 29) : m_t0 σ p mt q = σ q := by unfold m_t0; split <;> simp [r_up, h1, h2]
theorem m_t0_19 (σ : r_Sg) (p mt : Nat) {i : Nat} (h : i ≠ 12) : m_t0 σ p mt 19 i = σ 19 i := by unfold m_t0; split <;> simp [r_up, upd, h]
theorem m_trMH {σ : r_Sg} {w : Nat} {sb : Option Nat} {fr : Nat → Nat} {nr : Nat} (h : r_MH σ w sb fr nr) (p mt : Nat) : r_MH (m_tr σ p mt) w sb fr nr := by
  have e : ∀ q, q ≠ 28 → m_tr σ p mt q = m_t0 σ p mt q := fun q hq => by simp [m_tr, r_up, hq]
  refine h.to ?_ ?_ ?_ ?_ ?_ ?_
  · rw [e 19 (by decide), m_t0_19 σ p mt (by decide)]
  · rw [e 19 (by decide), m_t0_19 σ p mt (by decide)]
  · rw [e 19 (by decide), m_t0_19 σ p mt (by decide)]
  · rw [e 19 (by decide), m_t0_19 σ p mt (by decide)]
  · rw [e 25 (by decide), m_t0_o σ p mt (by decide) (by decide)]
  · rw [e 26 (by decide), m_t0_o σ p mt (by decide) (by decide)]
theorem m_mkMH {σ : r_Sg} {w : Nat} {sb : Option Nat} {fr : Nat → Nat} {nr : Nat} (h : r_MH σ w sb fr nr) (p v b : Nat) : r_MH (m_mk σ w sb fr p v b) w sb fr nr := h.to rfl rfl rfl rfl rfl rfl
theorem m_s1MH {σ : r_Sg} {w : Nat} {sb : Option Nat} {fr : Nat → Nat} {nr b : Nat} (h : r_MH σ w sb fr nr) (hb : b < w) : r_MH (m_s1 σ w sb b) w (m_sb σ sb b) fr nr := by
  unfold m_s1 m_sb
  by_cases hd : m_d1 σ sb b = true
  · have hsb : sb = none := (of_decide_eq_true hd).1
    subst hsb
    obtain ⟨h1, h2, h3, h4, h5, h6, h7, h8⟩ := h
    have e : ∀ q, q ≠ 22 → q ≠ 23 → q ≠ 24 → m_cp σ b w 24 q = σ q := fun q a b c => m_cp_o σ _ _ a b c 24
    simp only [hd, if_true]
    refine ⟨?_, h2, ?_, ?_, ?_, ?_, h7, ?_⟩
    · simpa [r_up, upd, m_sw, e 19] using h1
    · intro x hx
      by_cases hxb : x = b
      · subst hxb; simp [r_up, upd, m_sw, r_pl]
      · have h9 := h3 x hx
        have h10 : ¬ b = x := fun z => hxb z.symm
        simp [r_up, upd, m_sw, hxb, e 26, r_pl, h10]
        simpa [r_pl] using h9
    · intro x hx; cases hx; exact hb
    · intro x hx; simpa [r_up, m_sw, e 25] using h5 x hx
    · simpa [r_up, upd, m_sw, e 19] using h6
    · simp [r_up, upd, m_sw, bI]
  · simp only [hd, if_false]
    exact h
theorem m_r1MH {σ : r_Sg} {w : Nat} {sb : Option Nat} {fr : Nat → Nat} {nr p : Nat} (h : r_MH σ w sb fr nr) (hp : p < 4) : r_MH (m_r1 σ w sb fr nr p) w sb (m_fr σ w sb fr nr p) (m_nr σ w sb fr nr p) := by
  unfold m_r1 m_fr m_nr
  by_cases hd : m_d2 σ w sb fr nr p = true
  · obtain ⟨h1, h2, h3, h4, h5, h6, h7, h8⟩ := h
    have hd2 : ¬ nr = 2 := (of_decide_eq_true hd).1
    have e : ∀ q, q ≠ 22 → q ≠ 23 → q ≠ 24 → m_rfo σ (fr p) (4 + nr) 4 q = σ q := fun q a b c => m_rfo_o σ _ _ a b c 4
    simp only [hd, if_true]
    refine ⟨?_, h2, ?_, h4, ?_, ?_, by omega, ?_⟩
    · simpa [r_up, upd, m_rt, e 19] using h1
    · intro x hx; simpa [r_up, m_rt, e 26] using h3 x hx
    · intro x hx
      by_cases hxp : x = p
      · subst hxp
        simp [r_up, upd, m_rt]
        omega
      · simpa [r_up, upd, m_rt, e 25, hxp] using h5 x hx
    · simp [r_up, upd, m_rt, nI_1]
    · simpa [r_up, upd, m_rt, e 19] using h8
  · simp only [hd, if_false]
    exact h
def m_mb (σ : r_Sg) (w : Nat) (sb : Option Nat) (fr : Nat → Nat) (nr p v b mt : Nat) : r_Sg :=
  m_r1 (m_s1 (m_tr (m_mk σ w sb fr p v b) p mt) w sb b) w (m_sb (m_tr (m_mk σ w sb fr p v b) p mt) sb b) fr nr p
def m_lkb (σ : r_Sg) (w : Nat) (sb : Option Nat) (fr : Nat → Nat) (p v b mt : Nat) : Option Nat := m_sb (m_tr (m_mk σ w sb fr p v b) p mt) sb b
def m_lkf (σ : r_Sg) (w : Nat) (sb : Option Nat) (fr : Nat → Nat) (nr p v b mt : Nat) : Nat → Nat := m_fr (m_s1 (m_tr (m_mk σ w sb fr p v b) p mt) w sb b) w (m_lkb σ w sb fr p v b mt) fr nr p
def m_lkn (σ : r_Sg) (w : Nat) (sb : Option Nat) (fr : Nat → Nat) (nr p v b mt : Nat) : Nat := m_nr (m_s1 (m_tr (m_mk σ w sb fr p v b) p mt) w sb b) w (m_lkb σ w sb fr p v b mt) fr nr p
theorem m_mbMH {σ : r_Sg} {w : Nat} {sb : Option Nat} {fr : Nat → Nat} {nr p v b : Nat} (mt : Nat) (h : r_MH σ w sb fr nr) (hp : p < 4) (hb : b < w) : r_MH (m_mb σ w sb fr nr p v b mt) w (m_lkb σ w sb fr p v b mt) (m_lkf σ w sb fr nr p v b mt) (m_lkn σ w sb fr nr p v b mt) :=
  m_r1MH (m_s1MH (m_trMH (m_mkMH h p v b) p mt) hb) hp

set_option maxRecDepth 4000 in
theorem ev_X6_marksBit {σ : r_Sg} {w : Nat} {sb : Option Nat} {fr : Nat → Nat} {nr : Nat} {p v b mt : Nat} (h : r_MH σ w sb fr nr) (hp : p < 4) (hv : v < 4) (hb : b < w) (hmt : σ 19 12 = nI mt) (hmt4 : σ 28 p = 0 → mt < 4) : Ev 3 MX6_marksBit [.ref 19, .int (nI p), .int (nI v), .int (nI b)] σ none (m_mb σ w sb fr nr p v b mt) := by
  have hw20 := h.2.1
  have hfr := (h.2.2.2.2.1 p hp).2
  have hnr := h.2.2.2.2.2.2.1
  have hbp := r_pl_lt sb hb hw20
  refine Ev_w [.ref 19, .int (nI p), .int (nI v), .int (nI b)] ?_ (by decide) rfl (Nat.le_of_ble_eq_true rfl) rfl
  refine g_aload_n dX6_marksBit_0 rfl ?_
  refine g_getR dX6_marksBit_1 fX6_23 rfl rfl ?_
  refine g_aload_n dX6_marksBit_4 rfl ?_
  refine g_iload_n dX6_marksBit_5 rfl ?_
  refine g_iload_n dX6_marksBit_6 rfl ?_
  refine g_iload_n dX6_marksBit_7 rfl ?_
  refine g_V3 dX6_marksBit_8 vX6_128 rfl (Nat.le_of_ble_eq_true rfl) (by decide) (ev_X6_cellOf h hp hb) ?_
  refine g_dup2 dX6_marksBit_11 rfl rfl ?_
  refine g_ial _ dX6_marksBit_12 rfl rfl (by omega) ?_
  refine g_iconst (v := 1) dX6_marksBit_13 (by decide) ?_
  refine g_iadd dX6_marksBit_14 ?_
  refine g_ias _ dX6_marksBit_15 rfl rfl (by omega) ?_
  refine g_g (show _ = (m_mk σ w sb fr p v b) from rfl) ?_
  refine g_aload_n dX6_marksBit_16 rfl ?_
  refine g_getR dX6_marksBit_17 fX6_35 rfl rfl ?_
  refine g_iload_n dX6_marksBit_20 rfl ?_
  refine g_ial _ dX6_marksBit_21 rfl rfl (by omega) ?_
  refine g_ifne (tgt := 45) dX6_marksBit_22 (by decide) (fun c22 => ?_) (fun c22 => ?_)
  · have e : ¬ (m_mk σ w sb fr p v b) 28 p = 0 := c22
    have et : m_t0 (m_mk σ w sb fr p v b) p mt = (m_mk σ w sb fr p v b) := by unfold m_t0; rw [if_neg e]
    rw [← et]
    refine g_aload_n dX6_marksBit_45 rfl ?_
    refine g_getR dX6_marksBit_46 fX6_35 rfl rfl ?_
    refine g_iload_n dX6_marksBit_49 rfl ?_
    refine g_dup2 dX6_marksBit_50 rfl rfl ?_
    refine g_ial _ dX6_marksBit_51 rfl rfl (by omega) ?_
    refine g_iconst (v := 1) dX6_marksBit_52 (by decide) ?_
    refine g_iadd dX6_marksBit_53 ?_
    refine g_ias _ dX6_marksBit_54 rfl rfl (by omega) ?_
    refine g_g (show _ = (m_tr (m_mk σ w sb fr p v b) p mt) from rfl) ?_
    have hT : r_MH (m_tr (m_mk σ w sb fr p v b) p mt) w sb fr nr := m_trMH (m_mkMH h p v b) p mt
    refine g_aload_n dX6_marksBit_55 rfl ?_
    refine g_getI dX6_marksBit_56 fX6_117 rfl rfl ?_
    refine g_t hT.2.2.2.2.2.2.2 ?_
    refine g_ifne (tgt := 88) dX6_marksBit_59 (by decide) (fun c59 => ?_) (fun c59 => ?_)
    · have e2 : ¬ m_d1 (m_tr (m_mk σ w sb fr p v b) p mt) sb b = true := fun z => (bI_1.mp c59) (of_decide_eq_true z).1
      have es : m_s1 (m_tr (m_mk σ w sb fr p v b) p mt) w sb b = (m_tr (m_mk σ w sb fr p v b) p mt) := by unfold m_s1; rw [if_neg e2]
      rw [← es]
      have hS : r_MH (m_s1 (m_tr (m_mk σ w sb fr p v b) p mt) w sb b) w (m_sb (m_tr (m_mk σ w sb fr p v b) p mt) sb b) fr nr := m_s1MH hT hb
      refine g_aload_n dX6_marksBit_88 rfl ?_
      refine g_getI dX6_marksBit_89 fX6_114 rfl rfl ?_
      refine g_t hS.2.2.2.2.2.1 ?_
      refine g_iconst (v := nI 2) dX6_marksBit_92 (by decide) ?_
      refine g_icge (tgt := 123) dX6_marksBit_93 (by decide) (fun c93 => ?_) (fun c93 => ?_)
      · have e3 : ¬ m_d2 (m_s1 (m_tr (m_mk σ w sb fr p v b) p mt) w sb b) w (m_sb (m_tr (m_mk σ w sb fr p v b) p mt) sb b) fr nr p = true := fun z => by have := (nI_leI (by omega) (by omega)).mp c93; have := (of_decide_eq_true z).1; omega
        exact g_ret dX6_marksBit_123 rfl ⟨rfl, by unfold m_mb m_r1; first | rw [if_pos e3] | rw [if_neg e3]⟩
      · have q93 : nr < 2 := by rcases Nat.lt_or_ge nr 2 with z | z; exact z; exact absurd (nI_le z (by omega)) c93
        refine g_aload_n dX6_marksBit_96 rfl ?_
        refine g_aload_n dX6_marksBit_97 rfl ?_
        refine g_getR dX6_marksBit_98 fX6_26 rfl rfl ?_
        refine g_iload_n dX6_marksBit_101 rfl ?_
        refine g_ial _ dX6_marksBit_102 rfl rfl (by omega) ?_
        refine g_t (hS.2.2.2.2.1 p hp).1 ?_
        refine g_iconst (v := 1) dX6_marksBit_103 (by decide) ?_
        refine g_V2 dX6_marksBit_104 vX6_152 rfl (Nat.le_of_ble_eq_true rfl) (by decide) (ev_X6_wrongIn_1 hS hfr) ?_
        refine g_iconst (v := 4) dX6_marksBit_107 (by decide) ?_
        refine g_iclt (tgt := 123) dX6_marksBit_108 (by decide) (fun c108 => ?_) (fun c108 => ?_)
        · have e3 : ¬ m_d2 (m_s1 (m_tr (m_mk σ w sb fr p v b) p mt) w sb b) w (m_sb (m_tr (m_mk σ w sb fr p v b) p mt) sb b) fr nr p = true := fun z => absurd c108 (Int32.not_lt.mpr (of_decide_eq_true z).2)
          exact g_ret dX6_marksBit_123 rfl ⟨rfl, by unfold m_mb m_r1; first | rw [if_pos e3] | rw [if_neg e3]⟩
        · have e3 : m_d2 (m_s1 (m_tr (m_mk σ w sb fr p v b) p mt) w sb b) w (m_sb (m_tr (m_mk σ w sb fr p v b) p mt) sb b) fr nr p = true := decide_eq_true ⟨by omega, Int32.not_lt.mp c108⟩
          refine g_aload_n dX6_marksBit_111 rfl ?_
          refine g_iload_n dX6_marksBit_112 rfl ?_
          refine g_V1v dX6_marksBit_113 vX6_156 rfl (Nat.le_of_ble_eq_true rfl) (by decide) (ev_X6_retires hS hp q93) ?_
          refine g_aload_n dX6_marksBit_116 rfl ?_
          refine g_getR dX6_marksBit_117 fX6_47 rfl rfl ?_
          refine g_iconst (v := nI 3) dX6_marksBit_120 (by decide) ?_
          refine g_iconst (v := 1) dX6_marksBit_121 (by decide) ?_
          refine g_ias _ dX6_marksBit_122 rfl rfl (by omega) ?_
          exact g_ret dX6_marksBit_123 rfl ⟨rfl, by unfold m_mb m_r1; first | rw [if_pos e3] | rw [if_neg e3]⟩
    · have hsb : sb = none := Decidable.of_not_not (bI_0.mp c59)
      have hN : r_MH (m_tr (m_mk σ w sb fr p v b) p mt) w none fr nr := by rw [← hsb]; exact hT
      refine g_aload_n dX6_marksBit_62 rfl ?_
      refine g_aload_n dX6_marksBit_63 rfl ?_
      refine g_getR dX6_marksBit_64 fX6_29 rfl rfl ?_
      refine g_iload_n dX6_marksBit_67 rfl ?_
      refine g_ial _ dX6_marksBit_68 rfl rfl (by omega) ?_
      refine g_t (hN.2.2.1 b hb) ?_
      refine g_t (show _ = nI b from rfl) ?_
      refine g_V1 dX6_marksBit_69 vX6_145 rfl (Nat.le_of_ble_eq_true rfl) (by decide) (ev_X6_badIn (by omega)) ?_
      refine g_iconst (v := 3) dX6_marksBit_72 (by decide) ?_
      refine g_iclt (tgt := 88) dX6_marksBit_73 (by decide) (fun c73 => ?_) (fun c73 => ?_)
      · have e2 : ¬ m_d1 (m_tr (m_mk σ w sb fr p v b) p mt) sb b = true := fun z => absurd c73 (Int32.not_lt.mpr (of_decide_eq_true z).2)
        have es : m_s1 (m_tr (m_mk σ w sb fr p v b) p mt) w sb b = (m_tr (m_mk σ w sb fr p v b) p mt) := by unfold m_s1; rw [if_neg e2]
        rw [← es]
        have hS : r_MH (m_s1 (m_tr (m_mk σ w sb fr p v b) p mt) w sb b) w (m_sb (m_tr (m_mk σ w sb fr p v b) p mt) sb b) fr nr := m_s1MH hT hb
        refine g_aload_n dX6_marksBit_88 rfl ?_
        refine g_getI dX6_marksBit_89 fX6_114 rfl rfl ?_
        refine g_t hS.2.2.2.2.2.1 ?_
        refine g_iconst (v := nI 2) dX6_marksBit_92 (by decide) ?_
        refine g_icge (tgt := 123) dX6_marksBit_93 (by decide) (fun c93 => ?_) (fun c93 => ?_)
        · have e3 : ¬ m_d2 (m_s1 (m_tr (m_mk σ w sb fr p v b) p mt) w sb b) w (m_sb (m_tr (m_mk σ w sb fr p v b) p mt) sb b) fr nr p = true := fun z => by have := (nI_leI (by omega) (by omega)).mp c93; have := (of_decide_eq_true z).1; omega
          exact g_ret dX6_marksBit_123 rfl ⟨rfl, by unfold m_mb m_r1; first | rw [if_pos e3] | rw [if_neg e3]⟩
        · have q93 : nr < 2 := by rcases Nat.lt_or_ge nr 2 with z | z; exact z; exact absurd (nI_le z (by omega)) c93
          refine g_aload_n dX6_marksBit_96 rfl ?_
          refine g_aload_n dX6_marksBit_97 rfl ?_
          refine g_getR dX6_marksBit_98 fX6_26 rfl rfl ?_
          refine g_iload_n dX6_marksBit_101 rfl ?_
          refine g_ial _ dX6_marksBit_102 rfl rfl (by omega) ?_
          refine g_t (hS.2.2.2.2.1 p hp).1 ?_
          refine g_iconst (v := 1) dX6_marksBit_103 (by decide) ?_
          refine g_V2 dX6_marksBit_104 vX6_152 rfl (Nat.le_of_ble_eq_true rfl) (by decide) (ev_X6_wrongIn_1 hS hfr) ?_
          refine g_iconst (v := 4) dX6_marksBit_107 (by decide) ?_
          refine g_iclt (tgt := 123) dX6_marksBit_108 (by decide) (fun c108 => ?_) (fun c108 => ?_)
          · have e3 : ¬ m_d2 (m_s1 (m_tr (m_mk σ w sb fr p v b) p mt) w sb b) w (m_sb (m_tr (m_mk σ w sb fr p v b) p mt) sb b) fr nr p = true := fun z => absurd c108 (Int32.not_lt.mpr (of_decide_eq_true z).2)
            exact g_ret dX6_marksBit_123 rfl ⟨rfl, by unfold m_mb m_r1; first | rw [if_pos e3] | rw [if_neg e3]⟩
          · have e3 : m_d2 (m_s1 (m_tr (m_mk σ w sb fr p v b) p mt) w sb b) w (m_sb (m_tr (m_mk σ w sb fr p v b) p mt) sb b) fr nr p = true := decide_eq_true ⟨by omega, Int32.not_lt.mp c108⟩
            refine g_aload_n dX6_marksBit_111 rfl ?_
            refine g_iload_n dX6_marksBit_112 rfl ?_
            refine g_V1v dX6_marksBit_113 vX6_156 rfl (Nat.le_of_ble_eq_true rfl) (by decide) (ev_X6_retires hS hp q93) ?_
            refine g_aload_n dX6_marksBit_116 rfl ?_
            refine g_getR dX6_marksBit_117 fX6_47 rfl rfl ?_
            refine g_iconst (v := nI 3) dX6_marksBit_120 (by decide) ?_
            refine g_iconst (v := 1) dX6_marksBit_121 (by decide) ?_
            refine g_ias _ dX6_marksBit_122 rfl rfl (by omega) ?_
            exact g_ret dX6_marksBit_123 rfl ⟨rfl, by unfold m_mb m_r1; first | rw [if_pos e3] | rw [if_neg e3]⟩
      · have e2 : m_d1 (m_tr (m_mk σ w sb fr p v b) p mt) sb b = true := decide_eq_true ⟨hsb, Int32.not_lt.mp c73⟩
        have es : m_s1 (m_tr (m_mk σ w sb fr p v b) p mt) w sb b = r_up (m_sw (m_tr (m_mk σ w sb fr p v b) p mt) w b) 32 2 1 := by unfold m_s1; rw [if_pos e2]
        refine g_aload_n dX6_marksBit_76 rfl ?_
        refine g_iload_n dX6_marksBit_77 rfl ?_
        refine g_V1v dX6_marksBit_78 vX6_148 rfl (Nat.le_of_ble_eq_true rfl) (by decide) (ev_X6_swaps hN hb) ?_
        refine g_aload_n dX6_marksBit_81 rfl ?_
        refine g_getR dX6_marksBit_82 fX6_47 rfl rfl ?_
        refine g_iconst (v := nI 2) dX6_marksBit_85 (by decide) ?_
        refine g_iconst (v := 1) dX6_marksBit_86 (by decide) ?_
        refine g_ias _ dX6_marksBit_87 rfl rfl (by omega) ?_
        rw [← es]
        have hS : r_MH (m_s1 (m_tr (m_mk σ w sb fr p v b) p mt) w sb b) w (m_sb (m_tr (m_mk σ w sb fr p v b) p mt) sb b) fr nr := m_s1MH hT hb
        refine g_aload_n dX6_marksBit_88 rfl ?_
        refine g_getI dX6_marksBit_89 fX6_114 rfl rfl ?_
        refine g_t hS.2.2.2.2.2.1 ?_
        refine g_iconst (v := nI 2) dX6_marksBit_92 (by decide) ?_
        refine g_icge (tgt := 123) dX6_marksBit_93 (by decide) (fun c93 => ?_) (fun c93 => ?_)
        · have e3 : ¬ m_d2 (m_s1 (m_tr (m_mk σ w sb fr p v b) p mt) w sb b) w (m_sb (m_tr (m_mk σ w sb fr p v b) p mt) sb b) fr nr p = true := fun z => by have := (nI_leI (by omega) (by omega)).mp c93; have := (of_decide_eq_true z).1; omega
          exact g_ret dX6_marksBit_123 rfl ⟨rfl, by unfold m_mb m_r1; first | rw [if_pos e3] | rw [if_neg e3]⟩
        · have q93 : nr < 2 := by rcases Nat.lt_or_ge nr 2 with z | z; exact z; exact absurd (nI_le z (by omega)) c93
          refine g_aload_n dX6_marksBit_96 rfl ?_
          refine g_aload_n dX6_marksBit_97 rfl ?_
          refine g_getR dX6_marksBit_98 fX6_26 rfl rfl ?_
          refine g_iload_n dX6_marksBit_101 rfl ?_
          refine g_ial _ dX6_marksBit_102 rfl rfl (by omega) ?_
          refine g_t (hS.2.2.2.2.1 p hp).1 ?_
          refine g_iconst (v := 1) dX6_marksBit_103 (by decide) ?_
          refine g_V2 dX6_marksBit_104 vX6_152 rfl (Nat.le_of_ble_eq_true rfl) (by decide) (ev_X6_wrongIn_1 hS hfr) ?_
          refine g_iconst (v := 4) dX6_marksBit_107 (by decide) ?_
          refine g_iclt (tgt := 123) dX6_marksBit_108 (by decide) (fun c108 => ?_) (fun c108 => ?_)
          · have e3 : ¬ m_d2 (m_s1 (m_tr (m_mk σ w sb fr p v b) p mt) w sb b) w (m_sb (m_tr (m_mk σ w sb fr p v b) p mt) sb b) fr nr p = true := fun z => absurd c108 (Int32.not_lt.mpr (of_decide_eq_true z).2)
            exact g_ret dX6_marksBit_123 rfl ⟨rfl, by unfold m_mb m_r1; first | rw [if_pos e3] | rw [if_neg e3]⟩
          · have e3 : m_d2 (m_s1 (m_tr (m_mk σ w sb fr p v b) p mt) w sb b) w (m_sb (m_tr (m_mk σ w sb fr p v b) p mt) sb b) fr nr p = true := decide_eq_true ⟨by omega, Int32.not_lt.mp c108⟩
            refine g_aload_n dX6_marksBit_111 rfl ?_
            refine g_iload_n dX6_marksBit_112 rfl ?_
            refine g_V1v dX6_marksBit_113 vX6_156 rfl (Nat.le_of_ble_eq_true rfl) (by decide) (ev_X6_retires hS hp q93) ?_
            refine g_aload_n dX6_marksBit_116 rfl ?_
            refine g_getR dX6_marksBit_117 fX6_47 rfl rfl ?_
            refine g_iconst (v := nI 3) dX6_marksBit_120 (by decide) ?_
            refine g_iconst (v := 1) dX6_marksBit_121 (by decide) ?_
            refine g_ias _ dX6_marksBit_122 rfl rfl (by omega) ?_
            exact g_ret dX6_marksBit_123 rfl ⟨rfl, by unfold m_mb m_r1; first | rw [if_pos e3] | rw [if_neg e3]⟩
  · have e : (m_mk σ w sb fr p v b) 28 p = 0 := c22
    have et : m_t0 (m_mk σ w sb fr p v b) p mt = r_up (r_up (m_mk σ w sb fr p v b) 29 mt (nI p)) 19 12 (nI mt + 1) := by unfold m_t0; rw [if_pos e]
    refine g_aload_n dX6_marksBit_25 rfl ?_
    refine g_getR dX6_marksBit_26 fX6_38 rfl rfl ?_
    refine g_aload_n dX6_marksBit_29 rfl ?_
    refine g_getI dX6_marksBit_30 fX6_111 rfl rfl ?_
    refine g_t (show _ = nI mt from hmt) ?_
    refine g_iload_n dX6_marksBit_33 rfl ?_
    refine g_ias _ dX6_marksBit_34 rfl rfl (hmt4 c22) ?_
    refine g_aload_n dX6_marksBit_35 rfl ?_
    refine g_dup dX6_marksBit_36 rfl ?_
    refine g_getI dX6_marksBit_37 fX6_111 rfl rfl ?_
    refine g_t (show _ = nI mt from hmt) ?_
    refine g_iconst (v := 1) dX6_marksBit_40 (by decide) ?_
    refine g_iadd dX6_marksBit_41 ?_
    refine g_putI dX6_marksBit_42 pX6_111 rfl rfl ?_
    rw [← et]
    refine g_aload_n dX6_marksBit_45 rfl ?_
    refine g_getR dX6_marksBit_46 fX6_35 rfl rfl ?_
    refine g_iload_n dX6_marksBit_49 rfl ?_
    refine g_dup2 dX6_marksBit_50 rfl rfl ?_
    refine g_ial _ dX6_marksBit_51 rfl rfl (by omega) ?_
    refine g_iconst (v := 1) dX6_marksBit_52 (by decide) ?_
    refine g_iadd dX6_marksBit_53 ?_
    refine g_ias _ dX6_marksBit_54 rfl rfl (by omega) ?_
    refine g_g (show _ = (m_tr (m_mk σ w sb fr p v b) p mt) from rfl) ?_
    have hT : r_MH (m_tr (m_mk σ w sb fr p v b) p mt) w sb fr nr := m_trMH (m_mkMH h p v b) p mt
    refine g_aload_n dX6_marksBit_55 rfl ?_
    refine g_getI dX6_marksBit_56 fX6_117 rfl rfl ?_
    refine g_t hT.2.2.2.2.2.2.2 ?_
    refine g_ifne (tgt := 88) dX6_marksBit_59 (by decide) (fun c59 => ?_) (fun c59 => ?_)
    · have e2 : ¬ m_d1 (m_tr (m_mk σ w sb fr p v b) p mt) sb b = true := fun z => (bI_1.mp c59) (of_decide_eq_true z).1
      have es : m_s1 (m_tr (m_mk σ w sb fr p v b) p mt) w sb b = (m_tr (m_mk σ w sb fr p v b) p mt) := by unfold m_s1; rw [if_neg e2]
      rw [← es]
      have hS : r_MH (m_s1 (m_tr (m_mk σ w sb fr p v b) p mt) w sb b) w (m_sb (m_tr (m_mk σ w sb fr p v b) p mt) sb b) fr nr := m_s1MH hT hb
      refine g_aload_n dX6_marksBit_88 rfl ?_
      refine g_getI dX6_marksBit_89 fX6_114 rfl rfl ?_
      refine g_t hS.2.2.2.2.2.1 ?_
      refine g_iconst (v := nI 2) dX6_marksBit_92 (by decide) ?_
      refine g_icge (tgt := 123) dX6_marksBit_93 (by decide) (fun c93 => ?_) (fun c93 => ?_)
      · have e3 : ¬ m_d2 (m_s1 (m_tr (m_mk σ w sb fr p v b) p mt) w sb b) w (m_sb (m_tr (m_mk σ w sb fr p v b) p mt) sb b) fr nr p = true := fun z => by have := (nI_leI (by omega) (by omega)).mp c93; have := (of_decide_eq_true z).1; omega
        exact g_ret dX6_marksBit_123 rfl ⟨rfl, by unfold m_mb m_r1; first | rw [if_pos e3] | rw [if_neg e3]⟩
      · have q93 : nr < 2 := by rcases Nat.lt_or_ge nr 2 with z | z; exact z; exact absurd (nI_le z (by omega)) c93
        refine g_aload_n dX6_marksBit_96 rfl ?_
        refine g_aload_n dX6_marksBit_97 rfl ?_
        refine g_getR dX6_marksBit_98 fX6_26 rfl rfl ?_
        refine g_iload_n dX6_marksBit_101 rfl ?_
        refine g_ial _ dX6_marksBit_102 rfl rfl (by omega) ?_
        refine g_t (hS.2.2.2.2.1 p hp).1 ?_
        refine g_iconst (v := 1) dX6_marksBit_103 (by decide) ?_
        refine g_V2 dX6_marksBit_104 vX6_152 rfl (Nat.le_of_ble_eq_true rfl) (by decide) (ev_X6_wrongIn_1 hS hfr) ?_
        refine g_iconst (v := 4) dX6_marksBit_107 (by decide) ?_
        refine g_iclt (tgt := 123) dX6_marksBit_108 (by decide) (fun c108 => ?_) (fun c108 => ?_)
        · have e3 : ¬ m_d2 (m_s1 (m_tr (m_mk σ w sb fr p v b) p mt) w sb b) w (m_sb (m_tr (m_mk σ w sb fr p v b) p mt) sb b) fr nr p = true := fun z => absurd c108 (Int32.not_lt.mpr (of_decide_eq_true z).2)
          exact g_ret dX6_marksBit_123 rfl ⟨rfl, by unfold m_mb m_r1; first | rw [if_pos e3] | rw [if_neg e3]⟩
        · have e3 : m_d2 (m_s1 (m_tr (m_mk σ w sb fr p v b) p mt) w sb b) w (m_sb (m_tr (m_mk σ w sb fr p v b) p mt) sb b) fr nr p = true := decide_eq_true ⟨by omega, Int32.not_lt.mp c108⟩
          refine g_aload_n dX6_marksBit_111 rfl ?_
          refine g_iload_n dX6_marksBit_112 rfl ?_
          refine g_V1v dX6_marksBit_113 vX6_156 rfl (Nat.le_of_ble_eq_true rfl) (by decide) (ev_X6_retires hS hp q93) ?_
          refine g_aload_n dX6_marksBit_116 rfl ?_
          refine g_getR dX6_marksBit_117 fX6_47 rfl rfl ?_
          refine g_iconst (v := nI 3) dX6_marksBit_120 (by decide) ?_
          refine g_iconst (v := 1) dX6_marksBit_121 (by decide) ?_
          refine g_ias _ dX6_marksBit_122 rfl rfl (by omega) ?_
          exact g_ret dX6_marksBit_123 rfl ⟨rfl, by unfold m_mb m_r1; first | rw [if_pos e3] | rw [if_neg e3]⟩
    · have hsb : sb = none := Decidable.of_not_not (bI_0.mp c59)
      have hN : r_MH (m_tr (m_mk σ w sb fr p v b) p mt) w none fr nr := by rw [← hsb]; exact hT
      refine g_aload_n dX6_marksBit_62 rfl ?_
      refine g_aload_n dX6_marksBit_63 rfl ?_
      refine g_getR dX6_marksBit_64 fX6_29 rfl rfl ?_
      refine g_iload_n dX6_marksBit_67 rfl ?_
      refine g_ial _ dX6_marksBit_68 rfl rfl (by omega) ?_
      refine g_t (hN.2.2.1 b hb) ?_
      refine g_t (show _ = nI b from rfl) ?_
      refine g_V1 dX6_marksBit_69 vX6_145 rfl (Nat.le_of_ble_eq_true rfl) (by decide) (ev_X6_badIn (by omega)) ?_
      refine g_iconst (v := 3) dX6_marksBit_72 (by decide) ?_
      refine g_iclt (tgt := 88) dX6_marksBit_73 (by decide) (fun c73 => ?_) (fun c73 => ?_)
      · have e2 : ¬ m_d1 (m_tr (m_mk σ w sb fr p v b) p mt) sb b = true := fun z => absurd c73 (Int32.not_lt.mpr (of_decide_eq_true z).2)
        have es : m_s1 (m_tr (m_mk σ w sb fr p v b) p mt) w sb b = (m_tr (m_mk σ w sb fr p v b) p mt) := by unfold m_s1; rw [if_neg e2]
        rw [← es]
        have hS : r_MH (m_s1 (m_tr (m_mk σ w sb fr p v b) p mt) w sb b) w (m_sb (m_tr (m_mk σ w sb fr p v b) p mt) sb b) fr nr := m_s1MH hT hb
        refine g_aload_n dX6_marksBit_88 rfl ?_
        refine g_getI dX6_marksBit_89 fX6_114 rfl rfl ?_
        refine g_t hS.2.2.2.2.2.1 ?_
        refine g_iconst (v := nI 2) dX6_marksBit_92 (by decide) ?_
        refine g_icge (tgt := 123) dX6_marksBit_93 (by decide) (fun c93 => ?_) (fun c93 => ?_)
        · have e3 : ¬ m_d2 (m_s1 (m_tr (m_mk σ w sb fr p v b) p mt) w sb b) w (m_sb (m_tr (m_mk σ w sb fr p v b) p mt) sb b) fr nr p = true := fun z => by have := (nI_leI (by omega) (by omega)).mp c93; have := (of_decide_eq_true z).1; omega
          exact g_ret dX6_marksBit_123 rfl ⟨rfl, by unfold m_mb m_r1; first | rw [if_pos e3] | rw [if_neg e3]⟩
        · have q93 : nr < 2 := by rcases Nat.lt_or_ge nr 2 with z | z; exact z; exact absurd (nI_le z (by omega)) c93
          refine g_aload_n dX6_marksBit_96 rfl ?_
          refine g_aload_n dX6_marksBit_97 rfl ?_
          refine g_getR dX6_marksBit_98 fX6_26 rfl rfl ?_
          refine g_iload_n dX6_marksBit_101 rfl ?_
          refine g_ial _ dX6_marksBit_102 rfl rfl (by omega) ?_
          refine g_t (hS.2.2.2.2.1 p hp).1 ?_
          refine g_iconst (v := 1) dX6_marksBit_103 (by decide) ?_
          refine g_V2 dX6_marksBit_104 vX6_152 rfl (Nat.le_of_ble_eq_true rfl) (by decide) (ev_X6_wrongIn_1 hS hfr) ?_
          refine g_iconst (v := 4) dX6_marksBit_107 (by decide) ?_
          refine g_iclt (tgt := 123) dX6_marksBit_108 (by decide) (fun c108 => ?_) (fun c108 => ?_)
          · have e3 : ¬ m_d2 (m_s1 (m_tr (m_mk σ w sb fr p v b) p mt) w sb b) w (m_sb (m_tr (m_mk σ w sb fr p v b) p mt) sb b) fr nr p = true := fun z => absurd c108 (Int32.not_lt.mpr (of_decide_eq_true z).2)
            exact g_ret dX6_marksBit_123 rfl ⟨rfl, by unfold m_mb m_r1; first | rw [if_pos e3] | rw [if_neg e3]⟩
          · have e3 : m_d2 (m_s1 (m_tr (m_mk σ w sb fr p v b) p mt) w sb b) w (m_sb (m_tr (m_mk σ w sb fr p v b) p mt) sb b) fr nr p = true := decide_eq_true ⟨by omega, Int32.not_lt.mp c108⟩
            refine g_aload_n dX6_marksBit_111 rfl ?_
            refine g_iload_n dX6_marksBit_112 rfl ?_
            refine g_V1v dX6_marksBit_113 vX6_156 rfl (Nat.le_of_ble_eq_true rfl) (by decide) (ev_X6_retires hS hp q93) ?_
            refine g_aload_n dX6_marksBit_116 rfl ?_
            refine g_getR dX6_marksBit_117 fX6_47 rfl rfl ?_
            refine g_iconst (v := nI 3) dX6_marksBit_120 (by decide) ?_
            refine g_iconst (v := 1) dX6_marksBit_121 (by decide) ?_
            refine g_ias _ dX6_marksBit_122 rfl rfl (by omega) ?_
            exact g_ret dX6_marksBit_123 rfl ⟨rfl, by unfold m_mb m_r1; first | rw [if_pos e3] | rw [if_neg e3]⟩
      · have e2 : m_d1 (m_tr (m_mk σ w sb fr p v b) p mt) sb b = true := decide_eq_true ⟨hsb, Int32.not_lt.mp c73⟩
        have es : m_s1 (m_tr (m_mk σ w sb fr p v b) p mt) w sb b = r_up (m_sw (m_tr (m_mk σ w sb fr p v b) p mt) w b) 32 2 1 := by unfold m_s1; rw [if_pos e2]
        refine g_aload_n dX6_marksBit_76 rfl ?_
        refine g_iload_n dX6_marksBit_77 rfl ?_
        refine g_V1v dX6_marksBit_78 vX6_148 rfl (Nat.le_of_ble_eq_true rfl) (by decide) (ev_X6_swaps hN hb) ?_
        refine g_aload_n dX6_marksBit_81 rfl ?_
        refine g_getR dX6_marksBit_82 fX6_47 rfl rfl ?_
        refine g_iconst (v := nI 2) dX6_marksBit_85 (by decide) ?_
        refine g_iconst (v := 1) dX6_marksBit_86 (by decide) ?_
        refine g_ias _ dX6_marksBit_87 rfl rfl (by omega) ?_
        rw [← es]
        have hS : r_MH (m_s1 (m_tr (m_mk σ w sb fr p v b) p mt) w sb b) w (m_sb (m_tr (m_mk σ w sb fr p v b) p mt) sb b) fr nr := m_s1MH hT hb
        refine g_aload_n dX6_marksBit_88 rfl ?_
        refine g_getI dX6_marksBit_89 fX6_114 rfl rfl ?_
        refine g_t hS.2.2.2.2.2.1 ?_
        refine g_iconst (v := nI 2) dX6_marksBit_92 (by decide) ?_
        refine g_icge (tgt := 123) dX6_marksBit_93 (by decide) (fun c93 => ?_) (fun c93 => ?_)
        · have e3 : ¬ m_d2 (m_s1 (m_tr (m_mk σ w sb fr p v b) p mt) w sb b) w (m_sb (m_tr (m_mk σ w sb fr p v b) p mt) sb b) fr nr p = true := fun z => by have := (nI_leI (by omega) (by omega)).mp c93; have := (of_decide_eq_true z).1; omega
          exact g_ret dX6_marksBit_123 rfl ⟨rfl, by unfold m_mb m_r1; first | rw [if_pos e3] | rw [if_neg e3]⟩
        · have q93 : nr < 2 := by rcases Nat.lt_or_ge nr 2 with z | z; exact z; exact absurd (nI_le z (by omega)) c93
          refine g_aload_n dX6_marksBit_96 rfl ?_
          refine g_aload_n dX6_marksBit_97 rfl ?_
          refine g_getR dX6_marksBit_98 fX6_26 rfl rfl ?_
          refine g_iload_n dX6_marksBit_101 rfl ?_
          refine g_ial _ dX6_marksBit_102 rfl rfl (by omega) ?_
          refine g_t (hS.2.2.2.2.1 p hp).1 ?_
          refine g_iconst (v := 1) dX6_marksBit_103 (by decide) ?_
          refine g_V2 dX6_marksBit_104 vX6_152 rfl (Nat.le_of_ble_eq_true rfl) (by decide) (ev_X6_wrongIn_1 hS hfr) ?_
          refine g_iconst (v := 4) dX6_marksBit_107 (by decide) ?_
          refine g_iclt (tgt := 123) dX6_marksBit_108 (by decide) (fun c108 => ?_) (fun c108 => ?_)
          · have e3 : ¬ m_d2 (m_s1 (m_tr (m_mk σ w sb fr p v b) p mt) w sb b) w (m_sb (m_tr (m_mk σ w sb fr p v b) p mt) sb b) fr nr p = true := fun z => absurd c108 (Int32.not_lt.mpr (of_decide_eq_true z).2)
            exact g_ret dX6_marksBit_123 rfl ⟨rfl, by unfold m_mb m_r1; first | rw [if_pos e3] | rw [if_neg e3]⟩
          · have e3 : m_d2 (m_s1 (m_tr (m_mk σ w sb fr p v b) p mt) w sb b) w (m_sb (m_tr (m_mk σ w sb fr p v b) p mt) sb b) fr nr p = true := decide_eq_true ⟨by omega, Int32.not_lt.mp c108⟩
            refine g_aload_n dX6_marksBit_111 rfl ?_
            refine g_iload_n dX6_marksBit_112 rfl ?_
            refine g_V1v dX6_marksBit_113 vX6_156 rfl (Nat.le_of_ble_eq_true rfl) (by decide) (ev_X6_retires hS hp q93) ?_
            refine g_aload_n dX6_marksBit_116 rfl ?_
            refine g_getR dX6_marksBit_117 fX6_47 rfl rfl ?_
            refine g_iconst (v := nI 3) dX6_marksBit_120 (by decide) ?_
            refine g_iconst (v := 1) dX6_marksBit_121 (by decide) ?_
            refine g_ias _ dX6_marksBit_122 rfl rfl (by omega) ?_
            exact g_ret dX6_marksBit_123 rfl ⟨rfl, by unfold m_mb m_r1; first | rw [if_pos e3] | rw [if_neg e3]⟩

set_option maxRecDepth 4000 in
theorem ev_X6_looksAt_c {σ : r_Sg} {w : Nat} {sb : Option Nat} {fr : Nat → Nat} {nr : Nat} {p v : Nat} (h : r_MH σ w sb fr nr) (hp : p < 4) (hv : v < 4) (hm : r_men (r_bit (σ 20) w) (r_rawF (fun b => σ 22 (21 * (4 * fr p + v) + r_pl w sb b)) w) (r_syn (σ 20) (r_rawF (fun b => σ 22 (21 * (4 * fr p + v) + r_pl w sb b)) w) w) = (r_rawF (fun b => σ 22 (21 * (4 * fr p + v) + r_pl w sb b)) w)) (hs : ¬ (r_rawF (fun b => σ 22 (21 * (4 * fr p + v) + r_pl w sb b)) w) = -5) : Ev 4 MX6_looksAt [.ref 19, .int (nI p), .int (nI v)] σ (some (.int (r_rawF (fun b => σ 22 (21 * (4 * fr p + v) + r_pl w sb b)) w))) (m_nl σ 0 (-9) (nI p) (nI v)) := by
  refine Ev_w [.ref 19, .int (nI p), .int (nI v), .null, .null, .null, .null] ?_ (by decide) rfl (Nat.le_of_ble_eq_true rfl) rfl
  refine g_aload_n dX6_looksAt_0 rfl ?_
  refine g_iload_n dX6_looksAt_1 rfl ?_
  refine g_iload_n dX6_looksAt_2 rfl ?_
  refine g_V2 dX6_looksAt_3 vX6_159 rfl (Nat.le_of_ble_eq_true rfl) (by decide) (ev_X6_rawOf h hp hv) ?_
  refine g_istore_n dX6_looksAt_6 (by decide) rfl ?_
  refine g_aload_n dX6_looksAt_7 rfl ?_
  refine g_iload_n dX6_looksAt_8 rfl ?_
  refine g_V1 dX6_looksAt_9 vX6_108 rfl (Nat.le_of_ble_eq_true rfl) (by decide) (Ev_r (r' := some (.int (r_rawF (fun b => σ 22 (21 * (4 * fr p + v) + r_pl w sb b)) w))) (ev_X6_mendedOf h.1 h.2.1) (by rw [hm])) ?_
  refine g_istore dX6_looksAt_12 (by decide) rfl ?_
  refine g_iload dX6_looksAt_14 rfl ?_
  refine g_bipush (v := (-5)) dX6_looksAt_16 (by decide) ?_
  refine g_icne (tgt := 25) dX6_looksAt_18 (by decide) (fun c18 => ?_) (fun c18 => absurd c18 hs)
  refine g_iload dX6_looksAt_25 rfl ?_
  refine g_iload_n dX6_looksAt_27 rfl ?_
  refine g_icne (tgt := 35) dX6_looksAt_28 (by decide) (fun c28 => absurd rfl c28) (fun c28 => ?_)
  refine g_iconst (v := nI 0) dX6_looksAt_31 (by decide) ?_
  refine g_goto (tgt := 36) dX6_looksAt_32 (by decide) ?_
  refine g_istore dX6_looksAt_36 (by decide) rfl ?_
  refine g_iload dX6_looksAt_38 rfl ?_
  refine g_iconst (v := 1) dX6_looksAt_40 (by decide) ?_
  refine g_icne (tgt := 56) dX6_looksAt_41 (by decide) (fun c41 => ?_) (fun c41 => absurd c41 (by decide))
  refine g_bipush (v := (-9)) dX6_looksAt_56 (by decide) ?_
  refine g_istore dX6_looksAt_58 (by decide) rfl ?_
  refine g_aload_n dX6_looksAt_60 rfl ?_
  refine g_getR dX6_looksAt_61 fX6_44 rfl rfl ?_
  refine g_iload dX6_looksAt_64 rfl ?_
  refine g_dup2 dX6_looksAt_66 rfl rfl ?_
  refine g_ial _ dX6_looksAt_67 rfl rfl (by omega) ?_
  refine g_iconst (v := 1) dX6_looksAt_68 (by decide) ?_
  refine g_iadd dX6_looksAt_69 ?_
  refine g_ias _ dX6_looksAt_70 rfl rfl (by omega) ?_
  refine g_aload_n dX6_looksAt_71 rfl ?_
  refine g_getR dX6_looksAt_72 fX6_47 rfl rfl ?_
  refine g_iconst (v := nI 0) dX6_looksAt_75 (by decide) ?_
  refine g_iload dX6_looksAt_76 rfl ?_
  refine g_ias _ dX6_looksAt_78 rfl rfl (by omega) ?_
  refine g_aload_n dX6_looksAt_79 rfl ?_
  refine g_getR dX6_looksAt_80 fX6_47 rfl rfl ?_
  refine g_iconst (v := nI 1) dX6_looksAt_83 (by decide) ?_
  refine g_iload dX6_looksAt_84 rfl ?_
  refine g_ias _ dX6_looksAt_86 rfl rfl (by omega) ?_
  refine g_aload_n dX6_looksAt_87 rfl ?_
  refine g_getR dX6_looksAt_88 fX6_47 rfl rfl ?_
  refine g_iconst (v := nI 2) dX6_looksAt_91 (by decide) ?_
  refine g_iconst (v := 0) dX6_looksAt_92 (by decide) ?_
  refine g_ias _ dX6_looksAt_93 rfl rfl (by omega) ?_
  refine g_aload_n dX6_looksAt_94 rfl ?_
  refine g_getR dX6_looksAt_95 fX6_47 rfl rfl ?_
  refine g_iconst (v := nI 3) dX6_looksAt_98 (by decide) ?_
  refine g_iconst (v := 0) dX6_looksAt_99 (by decide) ?_
  refine g_ias _ dX6_looksAt_100 rfl rfl (by omega) ?_
  refine g_aload_n dX6_looksAt_101 rfl ?_
  refine g_getR dX6_looksAt_102 fX6_47 rfl rfl ?_
  refine g_iconst (v := nI 4) dX6_looksAt_105 (by decide) ?_
  refine g_iload_n dX6_looksAt_106 rfl ?_
  refine g_ias _ dX6_looksAt_107 rfl rfl (by omega) ?_
  refine g_aload_n dX6_looksAt_108 rfl ?_
  refine g_getR dX6_looksAt_109 fX6_47 rfl rfl ?_
  refine g_iconst (v := nI 5) dX6_looksAt_112 (by decide) ?_
  refine g_iload_n dX6_looksAt_113 rfl ?_
  refine g_ias _ dX6_looksAt_114 rfl rfl (by omega) ?_
  refine g_iload dX6_looksAt_115 rfl ?_
  refine g_iconst (v := 1) dX6_looksAt_117 (by decide) ?_
  refine g_icne (tgt := 129) dX6_looksAt_118 (by decide) (fun c118 => ?_) (fun c118 => absurd c118 (by decide))
  refine g_iload dX6_looksAt_129 rfl ?_
  exact g_iret dX6_looksAt_131 rfl ⟨rfl, rfl⟩

set_option maxRecDepth 4000 in
theorem ev_X6_looksAt_f {σ : r_Sg} {w : Nat} {sb : Option Nat} {fr : Nat → Nat} {nr : Nat} {p v : Nat} (h : r_MH σ w sb fr nr) (hp : p < 4) (hv : v < 4) (hm : r_men (r_bit (σ 20) w) (r_rawF (fun b => σ 22 (21 * (4 * fr p + v) + r_pl w sb b)) w) (r_syn (σ 20) (r_rawF (fun b => σ 22 (21 * (4 * fr p + v) + r_pl w sb b)) w) w) = -5) : Ev 4 MX6_looksAt [.ref 19, .int (nI p), .int (nI v)] σ (some (.int (-5))) (m_nl σ 2 (-9) (nI p) (nI v)) := by
  refine Ev_w [.ref 19, .int (nI p), .int (nI v), .null, .null, .null, .null] ?_ (by decide) rfl (Nat.le_of_ble_eq_true rfl) rfl
  refine g_aload_n dX6_looksAt_0 rfl ?_
  refine g_iload_n dX6_looksAt_1 rfl ?_
  refine g_iload_n dX6_looksAt_2 rfl ?_
  refine g_V2 dX6_looksAt_3 vX6_159 rfl (Nat.le_of_ble_eq_true rfl) (by decide) (ev_X6_rawOf h hp hv) ?_
  refine g_istore_n dX6_looksAt_6 (by decide) rfl ?_
  refine g_aload_n dX6_looksAt_7 rfl ?_
  refine g_iload_n dX6_looksAt_8 rfl ?_
  refine g_V1 dX6_looksAt_9 vX6_108 rfl (Nat.le_of_ble_eq_true rfl) (by decide) (Ev_r (r' := some (.int (-5))) (ev_X6_mendedOf h.1 h.2.1) (by rw [hm])) ?_
  refine g_istore dX6_looksAt_12 (by decide) rfl ?_
  refine g_iload dX6_looksAt_14 rfl ?_
  refine g_bipush (v := (-5)) dX6_looksAt_16 (by decide) ?_
  refine g_icne (tgt := 25) dX6_looksAt_18 (by decide) (fun c18 => absurd rfl c18) (fun c18 => ?_)
  refine g_iconst (v := nI 2) dX6_looksAt_21 (by decide) ?_
  refine g_goto (tgt := 36) dX6_looksAt_22 (by decide) ?_
  refine g_istore dX6_looksAt_36 (by decide) rfl ?_
  refine g_iload dX6_looksAt_38 rfl ?_
  refine g_iconst (v := 1) dX6_looksAt_40 (by decide) ?_
  refine g_icne (tgt := 56) dX6_looksAt_41 (by decide) (fun c41 => ?_) (fun c41 => absurd c41 (by decide))
  refine g_bipush (v := (-9)) dX6_looksAt_56 (by decide) ?_
  refine g_istore dX6_looksAt_58 (by decide) rfl ?_
  refine g_aload_n dX6_looksAt_60 rfl ?_
  refine g_getR dX6_looksAt_61 fX6_44 rfl rfl ?_
  refine g_iload dX6_looksAt_64 rfl ?_
  refine g_dup2 dX6_looksAt_66 rfl rfl ?_
  refine g_ial _ dX6_looksAt_67 rfl rfl (by omega) ?_
  refine g_iconst (v := 1) dX6_looksAt_68 (by decide) ?_
  refine g_iadd dX6_looksAt_69 ?_
  refine g_ias _ dX6_looksAt_70 rfl rfl (by omega) ?_
  refine g_aload_n dX6_looksAt_71 rfl ?_
  refine g_getR dX6_looksAt_72 fX6_47 rfl rfl ?_
  refine g_iconst (v := nI 0) dX6_looksAt_75 (by decide) ?_
  refine g_iload dX6_looksAt_76 rfl ?_
  refine g_ias _ dX6_looksAt_78 rfl rfl (by omega) ?_
  refine g_aload_n dX6_looksAt_79 rfl ?_
  refine g_getR dX6_looksAt_80 fX6_47 rfl rfl ?_
  refine g_iconst (v := nI 1) dX6_looksAt_83 (by decide) ?_
  refine g_iload dX6_looksAt_84 rfl ?_
  refine g_ias _ dX6_looksAt_86 rfl rfl (by omega) ?_
  refine g_aload_n dX6_looksAt_87 rfl ?_
  refine g_getR dX6_looksAt_88 fX6_47 rfl rfl ?_
  refine g_iconst (v := nI 2) dX6_looksAt_91 (by decide) ?_
  refine g_iconst (v := 0) dX6_looksAt_92 (by decide) ?_
  refine g_ias _ dX6_looksAt_93 rfl rfl (by omega) ?_
  refine g_aload_n dX6_looksAt_94 rfl ?_
  refine g_getR dX6_looksAt_95 fX6_47 rfl rfl ?_
  refine g_iconst (v := nI 3) dX6_looksAt_98 (by decide) ?_
  refine g_iconst (v := 0) dX6_looksAt_99 (by decide) ?_
  refine g_ias _ dX6_looksAt_100 rfl rfl (by omega) ?_
  refine g_aload_n dX6_looksAt_101 rfl ?_
  refine g_getR dX6_looksAt_102 fX6_47 rfl rfl ?_
  refine g_iconst (v := nI 4) dX6_looksAt_105 (by decide) ?_
  refine g_iload_n dX6_looksAt_106 rfl ?_
  refine g_ias _ dX6_looksAt_107 rfl rfl (by omega) ?_
  refine g_aload_n dX6_looksAt_108 rfl ?_
  refine g_getR dX6_looksAt_109 fX6_47 rfl rfl ?_
  refine g_iconst (v := nI 5) dX6_looksAt_112 (by decide) ?_
  refine g_iload_n dX6_looksAt_113 rfl ?_
  refine g_ias _ dX6_looksAt_114 rfl rfl (by omega) ?_
  refine g_iload dX6_looksAt_115 rfl ?_
  refine g_iconst (v := 1) dX6_looksAt_117 (by decide) ?_
  refine g_icne (tgt := 129) dX6_looksAt_118 (by decide) (fun c118 => ?_) (fun c118 => absurd c118 (by decide))
  refine g_iload dX6_looksAt_129 rfl ?_
  exact g_iret dX6_looksAt_131 rfl ⟨rfl, rfl⟩

set_option maxRecDepth 4000 in
theorem ev_X6_looksAt_m {σ : r_Sg} {w : Nat} {sb : Option Nat} {fr : Nat → Nat} {nr : Nat} {p v b mt : Nat} (h : r_MH σ w sb fr nr) (hp : p < 4) (hv : v < 4) (hm : r_men (r_bit (σ 20) w) (r_rawF (fun b => σ 22 (21 * (4 * fr p + v) + r_pl w sb b)) w) (r_syn (σ 20) (r_rawF (fun b => σ 22 (21 * (4 * fr p + v) + r_pl w sb b)) w) w) = (r_rawF (fun b => σ 22 (21 * (4 * fr p + v) + r_pl w sb b)) w) ^^^ r_bm b) (hs : ¬ (r_rawF (fun b => σ 22 (21 * (4 * fr p + v) + r_pl w sb b)) w) ^^^ r_bm b = -5) (hs2 : ¬ (r_rawF (fun b => σ 22 (21 * (4 * fr p + v) + r_pl w sb b)) w) ^^^ r_bm b = (r_rawF (fun b => σ 22 (21 * (4 * fr p + v) + r_pl w sb b)) w)) (hbit : r_bit (σ 20) w (r_syn (σ 20) (r_rawF (fun b => σ 22 (21 * (4 * fr p + v) + r_pl w sb b)) w) w) = nI b) (hb : b < w) (hmt : σ 19 12 = nI mt) (hmt4 : σ 28 p = 0 → mt < 4) : Ev 4 MX6_looksAt [.ref 19, .int (nI p), .int (nI v)] σ (some (.int ((r_rawF (fun b => σ 22 (21 * (4 * fr p + v) + r_pl w sb b)) w) ^^^ r_bm b))) (m_mb (m_nl σ 1 (nI b) (nI p) (nI v)) w sb fr nr p v b mt) := by
  refine Ev_w [.ref 19, .int (nI p), .int (nI v), .null, .null, .null, .null] ?_ (by decide) rfl (Nat.le_of_ble_eq_true rfl) rfl
  refine g_aload_n dX6_looksAt_0 rfl ?_
  refine g_iload_n dX6_looksAt_1 rfl ?_
  refine g_iload_n dX6_looksAt_2 rfl ?_
  refine g_V2 dX6_looksAt_3 vX6_159 rfl (Nat.le_of_ble_eq_true rfl) (by decide) (ev_X6_rawOf h hp hv) ?_
  refine g_istore_n dX6_looksAt_6 (by decide) rfl ?_
  refine g_aload_n dX6_looksAt_7 rfl ?_
  refine g_iload_n dX6_looksAt_8 rfl ?_
  refine g_V1 dX6_looksAt_9 vX6_108 rfl (Nat.le_of_ble_eq_true rfl) (by decide) (Ev_r (r' := some (.int ((r_rawF (fun b => σ 22 (21 * (4 * fr p + v) + r_pl w sb b)) w) ^^^ r_bm b))) (ev_X6_mendedOf h.1 h.2.1) (by rw [hm])) ?_
  refine g_istore dX6_looksAt_12 (by decide) rfl ?_
  refine g_iload dX6_looksAt_14 rfl ?_
  refine g_bipush (v := (-5)) dX6_looksAt_16 (by decide) ?_
  refine g_icne (tgt := 25) dX6_looksAt_18 (by decide) (fun c18 => ?_) (fun c18 => absurd c18 hs)
  refine g_iload dX6_looksAt_25 rfl ?_
  refine g_iload_n dX6_looksAt_27 rfl ?_
  refine g_icne (tgt := 35) dX6_looksAt_28 (by decide) (fun c28 => ?_) (fun c28 => absurd c28 hs2)
  refine g_iconst (v := nI 1) dX6_looksAt_35 (by decide) ?_
  refine g_istore dX6_looksAt_36 (by decide) rfl ?_
  refine g_iload dX6_looksAt_38 rfl ?_
  refine g_iconst (v := 1) dX6_looksAt_40 (by decide) ?_
  refine g_icne (tgt := 56) dX6_looksAt_41 (by decide) (fun c41 => absurd rfl c41) (fun c41 => ?_)
  refine g_aload_n dX6_looksAt_44 rfl ?_
  refine g_aload_n dX6_looksAt_45 rfl ?_
  refine g_iload_n dX6_looksAt_46 rfl ?_
  refine g_V1 dX6_looksAt_47 vX6_96 rfl (Nat.le_of_ble_eq_true rfl) (by decide) (ev_X6_syndromeOf (by exact h.1) h.2.1) ?_
  refine g_V1 dX6_looksAt_50 vX6_99 rfl (Nat.le_of_ble_eq_true rfl) (by decide) (Ev_r (r' := some (.int (nI b))) (ev_X6_bitOf h.1 h.2.1) (by rw [hbit])) ?_
  refine g_goto (tgt := 58) dX6_looksAt_53 (by decide) ?_
  refine g_istore dX6_looksAt_58 (by decide) rfl ?_
  refine g_aload_n dX6_looksAt_60 rfl ?_
  refine g_getR dX6_looksAt_61 fX6_44 rfl rfl ?_
  refine g_iload dX6_looksAt_64 rfl ?_
  refine g_dup2 dX6_looksAt_66 rfl rfl ?_
  refine g_ial _ dX6_looksAt_67 rfl rfl (by omega) ?_
  refine g_iconst (v := 1) dX6_looksAt_68 (by decide) ?_
  refine g_iadd dX6_looksAt_69 ?_
  refine g_ias _ dX6_looksAt_70 rfl rfl (by omega) ?_
  refine g_aload_n dX6_looksAt_71 rfl ?_
  refine g_getR dX6_looksAt_72 fX6_47 rfl rfl ?_
  refine g_iconst (v := nI 0) dX6_looksAt_75 (by decide) ?_
  refine g_iload dX6_looksAt_76 rfl ?_
  refine g_ias _ dX6_looksAt_78 rfl rfl (by omega) ?_
  refine g_aload_n dX6_looksAt_79 rfl ?_
  refine g_getR dX6_looksAt_80 fX6_47 rfl rfl ?_
  refine g_iconst (v := nI 1) dX6_looksAt_83 (by decide) ?_
  refine g_iload dX6_looksAt_84 rfl ?_
  refine g_ias _ dX6_looksAt_86 rfl rfl (by omega) ?_
  refine g_aload_n dX6_looksAt_87 rfl ?_
  refine g_getR dX6_looksAt_88 fX6_47 rfl rfl ?_
  refine g_iconst (v := nI 2) dX6_looksAt_91 (by decide) ?_
  refine g_iconst (v := 0) dX6_looksAt_92 (by decide) ?_
  refine g_ias _ dX6_looksAt_93 rfl rfl (by omega) ?_
  refine g_aload_n dX6_looksAt_94 rfl ?_
  refine g_getR dX6_looksAt_95 fX6_47 rfl rfl ?_
  refine g_iconst (v := nI 3) dX6_looksAt_98 (by decide) ?_
  refine g_iconst (v := 0) dX6_looksAt_99 (by decide) ?_
  refine g_ias _ dX6_looksAt_100 rfl rfl (by omega) ?_
  refine g_aload_n dX6_looksAt_101 rfl ?_
  refine g_getR dX6_looksAt_102 fX6_47 rfl rfl ?_
  refine g_iconst (v := nI 4) dX6_looksAt_105 (by decide) ?_
  refine g_iload_n dX6_looksAt_106 rfl ?_
  refine g_ias _ dX6_looksAt_107 rfl rfl (by omega) ?_
  refine g_aload_n dX6_looksAt_108 rfl ?_
  refine g_getR dX6_looksAt_109 fX6_47 rfl rfl ?_
  refine g_iconst (v := nI 5) dX6_looksAt_112 (by decide) ?_
  refine g_iload_n dX6_looksAt_113 rfl ?_
  refine g_ias _ dX6_looksAt_114 rfl rfl (by omega) ?_
  refine g_iload dX6_looksAt_115 rfl ?_
  refine g_iconst (v := 1) dX6_looksAt_117 (by decide) ?_
  refine g_icne (tgt := 129) dX6_looksAt_118 (by decide) (fun c118 => absurd rfl c118) (fun c118 => ?_)
  refine g_aload_n dX6_looksAt_121 rfl ?_
  refine g_iload_n dX6_looksAt_122 rfl ?_
  refine g_iload_n dX6_looksAt_123 rfl ?_
  refine g_iload dX6_looksAt_124 rfl ?_
  have hM : r_MH (m_nl σ 1 (nI b) (nI p) (nI v)) w sb fr nr := h.to rfl rfl rfl rfl rfl rfl
  refine g_V3v dX6_looksAt_126 vX6_162 rfl (Nat.le_of_ble_eq_true rfl) (by decide) (ev_X6_marksBit (σ := m_nl σ 1 (nI b) (nI p) (nI v)) hM hp hv hb hmt hmt4) ?_
  refine g_iload dX6_looksAt_129 rfl ?_
  exact g_iret dX6_looksAt_131 rfl ⟨rfl, rfl⟩
