/-! the class beside the reference: what holds between the calls -/
/-- how many sets of n of the first j bits have a syndrome -/
def f_c (col : Nat → Nat) : Nat → Nat → Nat → Nat
  | 0, n, s => if n = 0 ∧ s = 0 then 1 else 0
  | j + 1, n, s => f_c col j n s + (if n = 0 then 0 else f_c col j (n - 1) (s ^^^ col j))
def TB (σ : r_Sg) (d c : Nat) : Prop := σ 17 2 = 0 ∨ (¬ σ 17 2 = 0 ∧ ∀ n, n ≤ 4 → ∀ s, s < 64 → σ 18 (64 * n + s) = nI (f_c (r_CO c d) (d + c) n s))
/-- the class by itself -/
def CI (σ : r_Sg) (d c : Nat) (sb : Option Nat) (fr : Nat → Nat) (nr tc nx : Nat) : Prop :=
  r_ok d c ∧ (σ 1 3 = nI d ∧ σ 1 4 = nI c) ∧ (∀ j, j < d + c → σ 2 j = nI (r_CO c d j)) ∧ (∀ y, y < 64 → σ 4 y = r_BF c d c y) ∧ r_BH σ (d + c) sb fr nr ∧ (σ 10 3 = nI tc ∧ tc ≤ 4) ∧ (σ 5 9 = nI (nx / 4) ∧ σ 5 10 = nI (nx % 4) ∧ nx < 16) ∧ TB σ d c
def RD (σ α : r_Sg) (d c : Nat) : Prop := (α 19 0 = nI d ∧ α 19 1 = nI c) ∧ (∀ j, j < d + c → α 20 j = nI (r_CO c d j)) ∧ (∀ i, i < 6 → σ 3 i = α 21 i)
def RW (σ α : r_Sg) : Prop := ∀ i, i < 16 → σ 15 i = α 27 i
def RLg (σ α : r_Sg) (tc B : Nat) : Prop := (∃ mn : Nat → Nat, (∀ p, p < 4 → σ 12 p = nI (mn p) ∧ α 28 p = nI (mn p) ∧ mn p ≤ B) ∧ tc = p_n (fun p => decide (¬ mn p = 0)) 4) ∧ α 19 12 = nI tc ∧ (∀ i, i < tc → σ 13 i = α 29 i)
def RT (σ α : r_Sg) (nr : Nat) : Prop := ∀ i, i < nr → σ 16 i = α 30 i
def RK (σ α : r_Sg) : Prop := (∀ j, j < 3 → σ 11 j = α 31 j) ∧ σ 10 4 = α 32 0 ∧ σ 10 5 = α 32 1 ∧ σ 10 8 = α 32 2 ∧ σ 10 9 = α 32 3 ∧ σ 10 6 = α 32 4 ∧ σ 10 7 = α 32 5
/-- the class's cells of σ beside the reference's of α -/
def RC (σ α : r_Sg) (d c : Nat) (sb : Option Nat) (fr : Nat → Nat) (nr tc nx B : Nat) : Prop :=
  RD σ α d c ∧ r_MH α (d + c) sb fr nr ∧ RCb σ α ∧ RW σ α ∧ RLg σ α tc B ∧ RT σ α nr ∧ RK σ α ∧ α 19 16 = nI nx
theorem CI.congr {σ σ' : r_Sg} {d c : Nat} {sb : Option Nat} {fr : Nat → Nat} {nr tc nx : Nat} (h : CI σ d c sb fr nr tc nx) (e : ∀ q, q < 19 → σ' q = σ q) : CI σ' d c sb fr nr tc nx := by
  unfold CI TB r_BH at *
  rw [e 1 (by omega), e 2 (by omega), e 4 (by omega), e 5 (by omega), e 10 (by omega), e 14 (by omega), e 17 (by omega), e 18 (by omega)]
  exact h
theorem RC.congr {σ σ' α α' : r_Sg} {d c : Nat} {sb : Option Nat} {fr : Nat → Nat} {nr tc nx B : Nat} (h : RC σ α d c sb fr nr tc nx B) (e : ∀ q, q < 19 → σ' q = σ q) (f : ∀ q, 19 ≤ q → α' q = α q) : RC σ' α' d c sb fr nr tc nx B := by
  unfold RC RD r_MH RCb RW RLg RT RK at *
  rw [e 3 (by omega), e 7 (by omega), e 8 (by omega), e 9 (by omega), e 10 (by omega), e 11 (by omega), e 12 (by omega), e 13 (by omega), e 15 (by omega), e 16 (by omega), f 19 (by omega), f 20 (by omega), f 21 (by omega), f 22 (by omega), f 23 (by omega), f 24 (by omega), f 25 (by omega), f 26 (by omega), f 27 (by omega), f 28 (by omega), f 29 (by omega), f 30 (by omega), f 31 (by omega), f 32 (by omega)]
  exact h
theorem RC.grow {σ α : r_Sg} {d c : Nat} {sb : Option Nat} {fr : Nat → Nat} {nr tc nx B B' : Nat} (h : RC σ α d c sb fr nr tc nx B) (hB : B ≤ B') : RC σ α d c sb fr nr tc nx B' := by
  obtain ⟨h1, h2, h3, h4, ⟨⟨mn, h5, h6⟩, h7, h8⟩, h9⟩ := h
  exact ⟨h1, h2, h3, h4, ⟨⟨mn, fun p hp => ⟨(h5 p hp).1, (h5 p hp).2.1, Nat.le_trans (h5 p hp).2.2 hB⟩, h6⟩, h7, h8⟩, h9⟩
/-- of no code -/
def NI (σ : r_Sg) : Prop := σ 1 3 = 0 ∧ σ 1 4 = 0 ∧ σ 19 0 = 0 ∧ σ 19 1 = 0 ∧ σ 5 6 = 0 ∧ σ 19 14 = 0 ∧ σ 10 3 = 0 ∧ σ 19 12 = 0 ∧ (∀ j, j < 3 → σ 31 j = 0) ∧ σ 19 15 = 0 ∧ σ 19 16 = 0 ∧ (σ 10 4 = σ 32 0 ∧ σ 10 5 = σ 32 1 ∧ σ 10 8 = σ 32 2 ∧ σ 10 9 = σ 32 3 ∧ σ 10 6 = σ 32 4 ∧ σ 10 7 = σ 32 5)
def Inv (σ : r_Sg) (B : Nat) : Prop := NI σ ∨ ∃ d c sb fr nr tc nx, CI σ d c sb fr nr tc nx ∧ RC σ σ d c sb fr nr tc nx B
-- a look is noted
theorem nl_CI {σ : r_Sg} {d c : Nat} {sb : Option Nat} {fr : Nat → Nat} {nr tc nx : Nat} (h : CI σ d c sb fr nr tc nx) (k : Nat) (a p v : Int32) : CI (c_nl σ k a p v) d c sb fr nr tc nx := by
  obtain ⟨h1, h2, h3, h4, h5, h6, h7, h8⟩ := h
  exact ⟨h1, h2, h3, h4, h5.to rfl rfl rfl, h6, h7, h8⟩
theorem nl_RC {σ α : r_Sg} {d c : Nat} {sb : Option Nat} {fr : Nat → Nat} {nr tc nx B : Nat} (h : RC σ α d c sb fr nr tc nx B) {k : Nat} (hk : k < 3) (a p v : Int32) : RC (c_nl σ k a p v) (m_nl α k a p v) d c sb fr nr tc nx B := by
  obtain ⟨h1, h2, h3, h4, h5, h6, h7, h8⟩ := h
  refine ⟨h1, h2.to rfl rfl rfl rfl rfl rfl, h3.to rfl rfl rfl rfl rfl rfl, h4, h5, h6, ⟨?_, ?_⟩, h8⟩
  · intro j hj
    have e := h7.1 j hj
    have e2 := h7.1 k hk
    by_cases hjk : j = k
    · subst hjk; simp [c_nl, m_nl, r_up, upd, e]
    · simp [c_nl, m_nl, r_up, upd, hjk, e]
  · refine ⟨?_, ?_, ?_, ?_, ?_, ?_⟩ <;> simp [c_nl, m_nl, r_up, upd]
theorem nl_fr (σ : r_Sg) (k : Nat) (a p v : Int32) {q : Nat} (hq : 19 ≤ q) : c_nl σ k a p v q = σ q := by
  have h1 : q ≠ 11 := by omega
  have h2 : q ≠ 10 := by omega
  simp [c_nl, r_up, h1, h2]
theorem nl_fm (σ : r_Sg) (k : Nat) (a p v : Int32) {q : Nat} (hq : q < 19) : m_nl σ k a p v q = σ q := by
  have h1 : q ≠ 31 := by omega
  have h2 : q ≠ 32 := by omega
  simp [m_nl, r_up, h1, h2]
-- what of a mended look stays
theorem mk_o (σ : r_Sg) (w : Nat) (sb : Option Nat) (fr : Nat → Nat) (p v b : Nat) {q : Nat} (h9 : q ≠ 9) (h10 : q ≠ 10) (h11 : q ≠ 11) : c_mk σ w sb fr p v b q = σ q := by simp [c_mk, c_nl, r_up, h9, h10, h11]
/-- the state ahead of the last note -/
def c_l4 (σ : r_Sg) (w : Nat) (sb : Option Nat) (fr : Nat → Nat) (nr p v b : Nat) : r_Sg := c_rt (c_sw (c_mk σ w sb fr p v b) w sb b) w (c_lkb σ w sb fr p v b) fr nr p
def c_x1 (σ : r_Sg) (w : Nat) (sb : Option Nat) (fr : Nat → Nat) (p v b : Nat) : Bool := c_du1 (c_mk σ w sb fr p v b) sb b
def c_x2 (σ : r_Sg) (w : Nat) (sb : Option Nat) (fr : Nat → Nat) (nr p v b : Nat) : Bool := c_du2 (c_sw (c_mk σ w sb fr p v b) w sb b) w (c_lkb σ w sb fr p v b) fr nr p
theorem c_lk_eq (σ : r_Sg) (w : Nat) (sb : Option Nat) (fr : Nat → Nat) (nr p v b tc : Nat) : c_lk σ w sb fr nr p v b tc = c_nm (c_l4 σ w sb fr nr p v b) p tc (bI (c_x1 σ w sb fr p v b = true)) (bI (c_x2 σ w sb fr nr p v b = true)) := rfl
theorem c_l4_o (σ : r_Sg) (w : Nat) (sb : Option Nat) (fr : Nat → Nat) (nr p v b : Nat) {q : Nat} (h5 : q ≠ 5) (h7 : q ≠ 7) (h8 : q ≠ 8) (h9 : q ≠ 9) (h14 : q ≠ 14) (h16 : q ≠ 16) : c_l4 σ w sb fr nr p v b q = c_mk σ w sb fr p v b q := by
  unfold c_l4
  rw [c_rt_o _ _ _ _ _ _ h5 h7 h8 h9 h14 h16, c_sw_o _ _ _ _ h5 h7 h8 h9]
theorem c_l4_s (σ : r_Sg) (w : Nat) (sb : Option Nat) (fr : Nat → Nat) (nr p v b : Nat) {i : Nat} (h6 : i ≠ 6) (h7 : i ≠ 7) : c_l4 σ w sb fr nr p v b 5 i = σ 5 i := by
  have e1 : ∀ (s : r_Sg) (sb' : Option Nat), c_rt s w sb' fr nr p 5 i = s 5 i := by
    intro s sb'
    unfold c_rt
    split
    · simp [r_up, upd, h6, c_cfo_o]
    · rfl
  have e2 : ∀ (s : r_Sg), c_sw s w sb b 5 i = s 5 i := by
    intro s
    unfold c_sw
    split
    · simp [r_up, upd, h7, c_cp_o]
    · rfl
  unfold c_l4
  rw [e1, e2, mk_o _ _ _ _ _ _ _ (by decide) (by decide) (by decide)]
theorem c_l4_16 (σ : r_Sg) (w : Nat) (sb : Option Nat) (fr : Nat → Nat) (nr p v b : Nat) : c_l4 σ w sb fr nr p v b 16 = if c_x2 σ w sb fr nr p v b then upd (σ 16) nr (nI (fr p)) else σ 16 := by
  have e0 : c_sw (c_mk σ w sb fr p v b) w sb b 16 = σ 16 := by rw [c_sw_o _ _ _ _ (by decide) (by decide) (by decide) (by decide), mk_o _ _ _ _ _ _ _ (by decide) (by decide) (by decide)]
  unfold c_l4 c_rt c_x2
  split
  · simp [r_up, c_cfo_o, e0]
  · exact e0
-- the last note
def tc_n (z : Bool) (tc : Nat) : Nat := if z then tc + 1 else tc
theorem nm_10 (s : r_Sg) (p tc : Nat) (a b : Int32) {i : Nat} (h3 : i ≠ 3) (h8 : i ≠ 8) (h9 : i ≠ 9) : c_nm s p tc a b 10 i = s 10 i := by
  simp only [c_nm]
  split <;> simp [r_up, upd, h3, h8, h9]
theorem nm_108 (s : r_Sg) (p tc : Nat) (a b : Int32) : c_nm s p tc a b 10 8 = a ∧ c_nm s p tc a b 10 9 = b := by
  simp only [c_nm]
  split <;> simp [r_up, upd]
theorem nm_103 (s : r_Sg) (p tc : Nat) (a b : Int32) (h : s 10 3 = nI tc) : c_nm s p tc a b 10 3 = nI (tc_n (decide (s 12 p = 0 ∧ tc < 4)) tc) := by
  by_cases hc : s 12 p = 0 ∧ tc < 4
  · simp only [c_nm, if_pos hc, tc_n, decide_eq_true hc, if_true]; simp [r_up, upd, nI_1]
  · simp only [c_nm, if_neg hc, tc_n, decide_eq_false hc, Bool.false_eq_true, if_false]; simp [r_up, upd, h]
theorem nm_12 (s : r_Sg) (p tc : Nat) (a b : Int32) : c_nm s p tc a b 12 = upd (s 12) p (s 12 p + 1) := by
  simp only [c_nm]
  split <;> simp [r_up]
theorem nm_13 (s : r_Sg) (p tc : Nat) (a b : Int32) : c_nm s p tc a b 13 = if s 12 p = 0 ∧ tc < 4 then upd (s 13) tc (nI p) else s 13 := by
  simp only [c_nm]
  split <;> simp [r_up]
theorem lk_CI {σ : r_Sg} {d c : Nat} {sb : Option Nat} {fr : Nat → Nat} {nr tc nx p v b : Nat} (h : CI σ d c sb fr nr tc nx) (hp : p < 4) (hb : b < d + c) :
    CI (c_lk σ (d + c) sb fr nr p v b tc) d c (c_lkb σ (d + c) sb fr p v b) (c_lkf σ (d + c) sb fr nr p v b) (c_lkn σ (d + c) sb fr nr p v b) (tc_n (decide (σ 12 p = 0 ∧ tc < 4)) tc) nx := by
  obtain ⟨h1, h2, h3, h4, h5, h6, h7, h8⟩ := h
  have e : ∀ q, q ≠ 5 → q ≠ 7 → q ≠ 8 → q ≠ 9 → q ≠ 10 → q ≠ 11 → q ≠ 12 → q ≠ 13 → q ≠ 14 → q ≠ 16 → c_lk σ (d + c) sb fr nr p v b tc q = σ q := by
    intro q a1 a2 a3 a4 a5 a6 a7 a8 a9 a10
    rw [c_lk_eq, c_nm_o _ _ _ _ _ a5 a7 a8, c_l4_o _ _ _ _ _ _ _ _ a1 a2 a3 a4 a9 a10, mk_o _ _ _ _ _ _ _ a4 a5 a6]
  have e5 : ∀ i, i ≠ 6 → i ≠ 7 → c_lk σ (d + c) sb fr nr p v b tc 5 i = σ 5 i := by
    intro i a1 a2
    rw [c_lk_eq, c_nm_o _ _ _ _ _ (by decide) (by decide) (by decide), c_l4_s _ _ _ _ _ _ _ _ a1 a2]
  have e12 : c_l4 σ (d + c) sb fr nr p v b 12 = σ 12 := by rw [c_l4_o _ _ _ _ _ _ _ _ (by decide) (by decide) (by decide) (by decide) (by decide) (by decide), mk_o _ _ _ _ _ _ _ (by decide) (by decide) (by decide)]
  have e103 : c_l4 σ (d + c) sb fr nr p v b 10 3 = nI tc := by rw [c_l4_o _ _ _ _ _ _ _ _ (by decide) (by decide) (by decide) (by decide) (by decide) (by decide)]; exact h6.1
  have e1 := e 1 (by decide) (by decide) (by decide) (by decide) (by decide) (by decide) (by decide) (by decide) (by decide) (by decide)
  have e2 := e 2 (by decide) (by decide) (by decide) (by decide) (by decide) (by decide) (by decide) (by decide) (by decide) (by decide)
  have e4 := e 4 (by decide) (by decide) (by decide) (by decide) (by decide) (by decide) (by decide) (by decide) (by decide) (by decide)
  have e17 := e 17 (by decide) (by decide) (by decide) (by decide) (by decide) (by decide) (by decide) (by decide) (by decide) (by decide)
  have e18 := e 18 (by decide) (by decide) (by decide) (by decide) (by decide) (by decide) (by decide) (by decide) (by decide) (by decide)
  refine ⟨h1, by rw [e1]; exact h2, by rw [e2]; exact h3, by rw [e4]; exact h4, c_lkBH tc h5 hp hb, ⟨?_, ?_⟩, ?_, ?_⟩
  · rw [c_lk_eq, nm_103 _ _ _ _ _ e103, e12]
  · unfold tc_n
    by_cases hc : σ 12 p = 0 ∧ tc < 4
    · rw [decide_eq_true hc]; simp; omega
    · rw [decide_eq_false hc]; simp; exact h6.2
  · rw [e5 9 (by decide) (by decide), e5 10 (by decide) (by decide)]; exact h7
  · unfold TB; rw [e17, e18]; exact h8
