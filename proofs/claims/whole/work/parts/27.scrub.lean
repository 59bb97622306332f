/-! putting, flipping, sticking, scrubbing on both sides -/
theorem pb_CI {σ : r_Sg} {d c : Nat} {sb : Option Nat} {fr : Nat → Nat} {nr tc nx : Nat} (h : CI σ d c sb fr nr tc nx) (w : Nat) (sb' : Option Nat) (R : Nat) (set : Int32) : CI (c_pb σ w sb' R set) d c sb fr nr tc nx := by
  obtain ⟨h1, h2, h3, h4, h5, h6, h7, h8⟩ := h
  exact ⟨h1, h2, h3, h4, h5.to rfl rfl rfl, h6, h7, h8⟩
theorem pb_RC {σ α : r_Sg} {d c : Nat} {sb : Option Nat} {fr : Nat → Nat} {nr tc nx B : Nat} (h : RC σ α d c sb fr nr tc nx B) {R : Nat} (hR : R < 24) {set : Int32} (hset : ∀ i, i < 32 → d + c ≤ i → bt set i = false) : RC (c_pb σ (d + c) sb R set) (m_pu α R (r_pl (d + c) sb) set (d + c)) d c sb fr nr tc nx B := by
  obtain ⟨h1, h2, h3, h4, h5, h6, h7, h8⟩ := h
  have e : ∀ q, q ≠ 22 → m_pu α R (r_pl (d + c) sb) set (d + c) q = α q := fun q hq => m_pu_o α R _ set hq _
  refine ⟨?_, m_puMH h2 _ _ _ _, RCb_put h3 h2.2.1 h2.2.2.2.1 hR hset, ?_, ?_, ?_, ?_, ?_⟩
  · unfold RD; rw [e 19 (by decide), e 20 (by decide), e 21 (by decide)]; exact h1
  · unfold RW; rw [e 27 (by decide)]; exact h4
  · unfold RLg; rw [e 28 (by decide), e 29 (by decide), e 19 (by decide)]; exact h5
  · unfold RT; rw [e 30 (by decide)]; exact h6
  · unfold RK; rw [e 31 (by decide), e 32 (by decide)]; exact h7
  · rw [e 19 (by decide)]; exact h8
theorem pb_fr (σ : r_Sg) (w : Nat) (sb : Option Nat) (R : Nat) (set : Int32) {q : Nat} (hq : 19 ≤ q) : c_pb σ w sb R set q = σ q := by
  unfold c_pb; exact r_up_ne _ _ _ (by omega)
theorem st_BH_CI {σ : r_Sg} {d c : Nat} {sb : Option Nat} {fr : Nat → Nat} {nr tc nx : Nat} (h : CI σ d c sb fr nr tc nx) : CI (c_st σ (nx / 4) (nx % 4)) d c sb fr nr tc ((nx + 1) % 16) := by
  obtain ⟨h1, h2, h3, h4, h5, h6, h7, h8⟩ := h
  have e : ∀ q, q ≠ 5 → c_st σ (nx / 4) (nx % 4) q = σ q := fun q hq => c_st_o σ _ _ hq
  refine ⟨h1, by rw [e 1 (by decide)]; exact h2, by rw [e 2 (by decide)]; exact h3, by rw [e 4 (by decide)]; exact h4, c_stBH h5, by rw [e 10 (by decide)]; exact h6, ?_, by unfold TB; rw [e 17 (by decide), e 18 (by decide)]; exact h8⟩
  have hx := h7.2.2
  unfold c_st
  by_cases hb : nx % 4 = 3
  · rw [if_pos hb]
    by_cases ha : nx / 4 + 1 < 4
    · rw [if_pos ha]
      have e1 : (nx + 1) % 16 / 4 = nx / 4 + 1 := by omega
      have e2 : (nx + 1) % 16 % 4 = 0 := by omega
      rw [e1, e2]
      exact ⟨by simp [r_up, upd], by simp [r_up, upd]; rfl, by omega⟩
    · rw [if_neg ha]
      have e1 : (nx + 1) % 16 / 4 = 0 := by omega
      have e2 : (nx + 1) % 16 % 4 = 0 := by omega
      rw [e1, e2]
      exact ⟨by simp [r_up, upd]; rfl, by simp [r_up, upd]; rfl, by omega⟩
  · rw [if_neg hb]
    have e1 : (nx + 1) % 16 / 4 = nx / 4 := by omega
    have e2 : (nx + 1) % 16 % 4 = nx % 4 + 1 := by omega
    rw [e1, e2]
    exact ⟨by simpa [r_up, upd] using h7.1, by simp [r_up, upd], by omega⟩
theorem RC.st {σ α : r_Sg} {d c : Nat} {sb : Option Nat} {fr : Nat → Nat} {nr tc nx B : Nat} (h : RC σ α d c sb fr nr tc nx B) (a b : Nat) : RC (c_st σ a b) α d c sb fr nr tc nx B := by
  have e : ∀ q, q ≠ 5 → c_st σ a b q = σ q := fun q hq => c_st_o σ _ _ hq
  unfold RC RD RCb RW RLg RT RK at *
  rw [e 3 (by decide), e 7 (by decide), e 8 (by decide), e 9 (by decide), e 10 (by decide), e 11 (by decide), e 12 (by decide), e 13 (by decide), e 15 (by decide), e 16 (by decide)]
  exact h
theorem lk_fr (σ : r_Sg) (w : Nat) (sb : Option Nat) (fr : Nat → Nat) (nr p v b tc : Nat) {q : Nat} (hq : 19 ≤ q) : c_lk σ w sb fr nr p v b tc q = σ q := by
  rw [c_lk_eq, c_nm_o _ _ _ _ _ (by omega) (by omega) (by omega), c_l4_o _ _ _ _ _ _ _ _ (by omega) (by omega) (by omega) (by omega) (by omega) (by omega), mk_o _ _ _ _ _ _ _ (by omega) (by omega) (by omega)]
theorem mb_fm (σ : r_Sg) (w : Nat) (sb : Option Nat) (fr : Nat → Nat) (nr p v b mt : Nat) {q : Nat} (hq : q < 19) : m_mb σ w sb fr nr p v b mt q = σ q := by
  rw [m_mb_eq, r1_o _ _ _ _ _ _ (by omega) (by omega) (by omega) (by omega) (by omega) (by omega) (by omega), s1_o _ _ _ _ (by omega) (by omega) (by omega) (by omega) (by omega) (by omega)]
  unfold m_a2
  rw [tr_o _ _ _ (by omega) (by omega) (by omega)]
  have h4 : q ≠ 24 := by omega
  simp [m_mk, r_up, h4]
/-- the three ways of a look -/
theorem look3 {σ : r_Sg} {d c : Nat} {sb : Option Nat} {fr : Nat → Nat} {nr tc nx : Nat} (h : CI σ d c sb fr nr tc nx) (set : Int32) :
    (r_syn (σ 2) set (d + c) = nI 0) ∨ (∃ y, y < 64 ∧ 0 < y ∧ r_syn (σ 2) set (d + c) = nI y ∧ σ 4 y = -9) ∨ (∃ y b, y < 64 ∧ 0 < y ∧ r_syn (σ 2) set (d + c) = nI y ∧ σ 4 y = nI b ∧ b < d + c) := by
  obtain ⟨h1, h2, h3, h4, -⟩ := h
  have e := syn_n set h3
  have hy : n_syn (r_CO c d) set (d + c) < 64 := n_syn_lt (k := 6) set (fun j hj => (co_lt h1 hj).2.2)
  generalize n_syn (r_CO c d) set (d + c) = y at *
  by_cases hy0 : y = 0
  · left; rw [e, hy0]
  · right
    rcases bf_cases h1 hy with hb | ⟨b, hb1, hb2⟩
    · left; exact ⟨y, hy, by omega, e, by rw [h4 y hy, hb]⟩
    · right; exact ⟨y, b, hy, by omega, e, by rw [h4 y hy, hb2], hb1⟩
/-- of the reference: what its look sees -/
theorem mlook {σ α : r_Sg} {d c : Nat} {sb : Option Nat} {fr : Nat → Nat} {nr tc nx nx' B : Nat} (hC : CI σ d c sb fr nr tc nx) (h : RC σ α d c sb fr nr tc nx' B) {p v : Nat} (hp : p < 4) (hv : v < 4) :
    r_rawF (fun b => α 22 (21 * (4 * fr p + v) + r_pl (d + c) sb b)) (d + c) = r_bo (d + c) sb (σ 7 (4 * fr p + v)) ∧ (∀ set, r_syn (α 20) set (d + c) = r_syn (σ 2) set (d + c)) ∧ (∀ set y, y < 64 → r_men (r_bit (α 20) (d + c)) set (nI y) = r_men (fun z => σ 4 z.toNatClampNeg) set (nI y)) ∧ (∀ y, y < 64 → r_bit (α 20) (d + c) (nI y) = σ 4 y) := by
  have hM := h.2.1
  have hfr := (hM.2.2.2.2.1 p hp).2
  refine ⟨RCb_raw h.2.2.1 hM.2.1 hM.2.2.2.1 (by omega), fun set => ?_, fun set y hy => (men_eq hC.1 hC.2.2.2.1 h.1.2.1 set hy).symm, fun y hy => ?_⟩
  · rw [syn_n set h.1.2.1, syn_n set hC.2.2.1]
  · rw [hC.2.2.2.1 y hy, bf_ok hC.1 hy]
    exact r_bit_congr (fun j hj => h.1.2.1 j hj) _
