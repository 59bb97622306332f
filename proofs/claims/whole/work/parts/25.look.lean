/-! a mended look on both sides -/
theorem s1_o (α : r_Sg) (w : Nat) (sb : Option Nat) (b : Nat) {q : Nat} (h1 : q ≠ 19) (h2 : q ≠ 22) (h3 : q ≠ 23) (h4 : q ≠ 24) (h5 : q ≠ 26) (h6 : q ≠ 32) : m_s1 α w sb b q = α q := by
  unfold m_s1
  split
  · simp [r_up, m_sw, h1, h5, h6, m_cp_o α _ _ h2 h3 h4]
  · rfl
theorem s1_19 (α : r_Sg) (w : Nat) (sb : Option Nat) (b : Nat) {i : Nat} (h : i ≠ 15) : m_s1 α w sb b 19 i = α 19 i := by
  unfold m_s1
  split
  · simp [r_up, upd, m_sw, h, m_cp_o]
  · rfl
theorem s1_32 (α : r_Sg) (w : Nat) (sb : Option Nat) (b : Nat) : m_s1 α w sb b 32 = if m_d1 α sb b then upd (α 32) 2 1 else α 32 := by
  unfold m_s1
  split
  · simp [r_up, m_sw, m_cp_o]
  · rfl
theorem r1_o (α : r_Sg) (w : Nat) (sb : Option Nat) (fr : Nat → Nat) (nr p : Nat) {q : Nat} (h1 : q ≠ 19) (h2 : q ≠ 22) (h3 : q ≠ 23) (h4 : q ≠ 24) (h5 : q ≠ 25) (h6 : q ≠ 30) (h7 : q ≠ 32) : m_r1 α w sb fr nr p q = α q := by
  unfold m_r1
  split
  · simp [r_up, m_rt, h1, h5, h6, h7, m_rfo_o α _ _ h2 h3 h4]
  · rfl
theorem r1_19 (α : r_Sg) (w : Nat) (sb : Option Nat) (fr : Nat → Nat) (nr p : Nat) {i : Nat} (h : i ≠ 14) : m_r1 α w sb fr nr p 19 i = α 19 i := by
  unfold m_r1
  split
  · simp [r_up, upd, m_rt, h, m_rfo_o]
  · rfl
theorem r1_30 (α : r_Sg) (w : Nat) (sb : Option Nat) (fr : Nat → Nat) (nr p : Nat) : m_r1 α w sb fr nr p 30 = if m_d2 α w sb fr nr p then upd (α 30) nr (nI (fr p)) else α 30 := by
  unfold m_r1
  split
  · simp [r_up, m_rt, m_rfo_o]
  · rfl
theorem r1_32 (α : r_Sg) (w : Nat) (sb : Option Nat) (fr : Nat → Nat) (nr p : Nat) : m_r1 α w sb fr nr p 32 = if m_d2 α w sb fr nr p then upd (α 32) 3 1 else α 32 := by
  unfold m_r1
  split
  · simp [r_up, m_rt, m_rfo_o]
  · rfl
theorem tr_o (α : r_Sg) (p mt : Nat) {q : Nat} (h1 : q ≠ 19) (h2 : q ≠ 28) (h3 : q ≠ 29) : m_tr α p mt q = α q := by
  simp [m_tr, r_up, h2, m_t0_o α p mt h1 h3]
/-- the state ahead of the swap -/
def m_a2 (α : r_Sg) (w : Nat) (sb : Option Nat) (fr : Nat → Nat) (p v b mt : Nat) : r_Sg := m_tr (m_mk α w sb fr p v b) p mt
def m_y2 (α : r_Sg) (w : Nat) (sb : Option Nat) (fr : Nat → Nat) (nr p v b mt : Nat) : Bool := m_d2 (m_s1 (m_a2 α w sb fr p v b mt) w sb b) w (m_lkb α w sb fr p v b mt) fr nr p
theorem m_mb_eq (α : r_Sg) (w : Nat) (sb : Option Nat) (fr : Nat → Nat) (nr p v b mt : Nat) : m_mb α w sb fr nr p v b mt = m_r1 (m_s1 (m_a2 α w sb fr p v b mt) w sb b) w (m_lkb α w sb fr p v b mt) fr nr p := rfl
/-- the cells, and what was due -/
theorem sim_b {σ α : r_Sg} {w : Nat} {sb : Option Nat} {fr : Nat → Nat} {nr p v b : Nat} (mt : Nat) (hw : w ≤ 20) (hs : ∀ b, sb = some b → b < w) (hfr : ∀ p, p < 4 → fr p < 6) (hnr : nr ≤ 2) (hp : p < 4) (hv : v < 4) (hb : b < w) {bi pi vi : Int32}
    (hσ : RCb (c_nl σ 1 bi pi vi) α) (hbi : bi = nI b) (hpi : pi = nI p) (hvi : vi = nI v) :
    c_x1 σ w sb fr p v b = m_d1 (m_a2 α w sb fr p v b mt) sb b ∧ c_lkb σ w sb fr p v b = m_lkb α w sb fr p v b mt ∧ c_x2 σ w sb fr nr p v b = m_y2 α w sb fr nr p v b mt ∧ c_lkf σ w sb fr nr p v b = m_lkf α w sb fr nr p v b mt ∧ c_lkn σ w sb fr nr p v b = m_lkn α w sb fr nr p v b mt ∧ RCb (c_l4 σ w sb fr nr p v b) (m_mb α w sb fr nr p v b mt) := by
  subst hbi hpi hvi
  have hl := r_pl_lt sb hb hw
  have hR : 4 * fr p + v < 24 := by have := hfr p hp; omega
  have g2 : RCb (c_mk σ w sb fr p v b) (m_a2 α w sb fr p v b mt) := (RCb_mark hσ hR hl).to rfl rfl rfl (tr_o _ _ _ (by decide) (by decide) (by decide)) (tr_o _ _ _ (by decide) (by decide) (by decide)) (tr_o _ _ _ (by decide) (by decide) (by decide))
  have d1 : c_x1 σ w sb fr p v b = m_d1 (m_a2 α w sb fr p v b mt) sb b := by
    unfold c_x1 c_du1 m_d1
    rw [badp_eq g2 (show b < 21 by omega)]
  have eb : c_lkb σ w sb fr p v b = m_lkb α w sb fr p v b mt := by
    show (if c_x1 σ w sb fr p v b then some b else sb) = (if m_d1 (m_a2 α w sb fr p v b mt) sb b then some b else sb)
    rw [d1]
  have g3 : RCb (c_sw (c_mk σ w sb fr p v b) w sb b) (m_s1 (m_a2 α w sb fr p v b mt) w sb b) := by
    have d1' : c_du1 (c_mk σ w sb fr p v b) sb b = m_d1 (m_a2 α w sb fr p v b mt) sb b := d1
    unfold c_sw m_s1
    rw [d1']
    split
    · exact (RCb_cp g2 (show b < 21 by omega) (show w < 21 by omega) 24 (by omega)).to (r_up_ne _ _ _ (by decide)) (r_up_ne _ _ _ (by decide)) (r_up_ne _ _ _ (by decide)) (by simp [r_up, m_sw]) (by simp [r_up, m_sw]) (by simp [r_up, m_sw])
    · exact g2
  have hs' : ∀ x, c_lkb σ w sb fr p v b = some x → x < w := by
    intro x hx
    unfold c_lkb c_swb at hx
    split at hx
    · cases hx; exact hb
    · exact hs x hx
  have d2 : c_x2 σ w sb fr nr p v b = m_y2 α w sb fr nr p v b mt := by
    unfold c_x2 c_du2 m_y2 m_d2
    rw [← eb, bad_eq g3 hw hs' (hfr p hp) 4 (by omega)]
  refine ⟨d1, eb, d2, ?_, ?_, ?_⟩
  · show (if c_x2 σ w sb fr nr p v b then fun x => if x = p then 4 + nr else fr x else fr) = (if m_y2 α w sb fr nr p v b mt then fun x => if x = p then 4 + nr else fr x else fr)
    rw [d2]
  · show (if c_x2 σ w sb fr nr p v b then nr + 1 else nr) = (if m_y2 α w sb fr nr p v b mt then nr + 1 else nr)
    rw [d2]
  · have d2' : c_du2 (c_sw (c_mk σ w sb fr p v b) w sb b) w (c_lkb σ w sb fr p v b) fr nr p = m_d2 (m_s1 (m_a2 α w sb fr p v b mt) w sb b) w (m_lkb α w sb fr p v b mt) fr nr p := d2
    rw [m_mb_eq]
    unfold c_l4 c_rt m_r1
    rw [d2']
    split
    · rename_i hd
      have h2 : ¬ nr = 2 := (of_decide_eq_true hd).1
      exact (RCb_cfo g3 (hfr p hp) (show 4 + nr < 6 by omega) 4 (by omega)).to (by simp [r_up]) (by simp [r_up]) (by simp [r_up]) (by simp [r_up, m_rt]) (by simp [r_up, m_rt]) (by simp [r_up, m_rt])
    · exact g3
theorem a2_28 (α : r_Sg) (w : Nat) (sb : Option Nat) (fr : Nat → Nat) (p v b mt : Nat) : m_a2 α w sb fr p v b mt 28 = upd (α 28) p (α 28 p + 1) := by
  have e : m_t0 (m_mk α w sb fr p v b) p mt 28 = α 28 := by rw [m_t0_o _ _ _ (by decide) (by decide)]; rfl
  simp [m_a2, m_tr, r_up, e]
theorem a2_29 (α : r_Sg) (w : Nat) (sb : Option Nat) (fr : Nat → Nat) (p v b mt : Nat) : m_a2 α w sb fr p v b mt 29 = if α 28 p = 0 then upd (α 29) mt (nI p) else α 29 := by
  have e28 : m_mk α w sb fr p v b 28 = α 28 := rfl
  have e29 : m_mk α w sb fr p v b 29 = α 29 := rfl
  simp only [m_a2, m_tr, m_t0, e28]
  split <;> simp [r_up, e29]
theorem a2_1912 (α : r_Sg) (w : Nat) (sb : Option Nat) (fr : Nat → Nat) (p v b mt : Nat) : m_a2 α w sb fr p v b mt 19 12 = if α 28 p = 0 then nI mt + 1 else α 19 12 := by
  have e28 : m_mk α w sb fr p v b 28 = α 28 := rfl
  have e19 : m_mk α w sb fr p v b 19 = α 19 := rfl
  simp only [m_a2, m_tr, m_t0, e28]
  split <;> simp [r_up, upd, e19]
def upd_n (f : Nat → Nat) (p : Nat) : Nat → Nat := fun x => if x = p then f p + 1 else f x
theorem p4 (P : Nat → Bool) : p_n P 4 = (if P 0 then 1 else 0) + (if P 1 then 1 else 0) + (if P 2 then 1 else 0) + (if P 3 then 1 else 0) := by simp [p_n]
theorem p4_new {mn : Nat → Nat} {p : Nat} (hp : p < 4) : p_n (fun x => decide (¬ upd_n mn p x = 0)) 4 = (if mn p = 0 then p_n (fun x => decide (¬ mn x = 0)) 4 + 1 else p_n (fun x => decide (¬ mn x = 0)) 4) ∧ (mn p = 0 → p_n (fun x => decide (¬ mn x = 0)) 4 < 4) := by
  rw [p4, p4]
  rcases (show p = 0 ∨ p = 1 ∨ p = 2 ∨ p = 3 by omega) with rfl | rfl | rfl | rfl <;>
    · simp only [upd_n]
      by_cases h0 : mn 0 = 0 <;> by_cases h1 : mn 1 = 0 <;> by_cases h2 : mn 2 = 0 <;> by_cases h3 : mn 3 = 0 <;> simp [h0, h1, h2, h3]
