/-! the calls that change the bank, on both sides -/
theorem lk_RC {σ α : r_Sg} {d c : Nat} {sb : Option Nat} {fr : Nat → Nat} {nr tc nx B p v b : Nat} (h : RC σ α d c sb fr nr tc nx B) (hB : B < 2 ^ 30) (hp : p < 4) (hv : v < 4) (hb : b < d + c) :
    RC (c_lk σ (d + c) sb fr nr p v b tc) (m_mb (m_nl α 1 (nI b) (nI p) (nI v)) (d + c) sb fr nr p v b tc) d c (c_lkb σ (d + c) sb fr p v b) (c_lkf σ (d + c) sb fr nr p v b) (c_lkn σ (d + c) sb fr nr p v b) (tc_n (decide (σ 12 p = 0 ∧ tc < 4)) tc) nx (B + 1) := by
  have h' := nl_RC h (k := 1) (by omega) (nI b) (nI p) (nI v)
  obtain ⟨hD, hM, hb1, hW, ⟨⟨mn, hmn, htc⟩, h12, h13⟩, hT, hK, h16⟩ := h
  have hM' := h'.2.1
  have hb2 := h'.2.2.1
  have hK' := h'.2.2.2.2.2.2.1
  generalize hα1 : m_nl α 1 (nI b) (nI p) (nI v) = α1 at *
  have f1 : ∀ q, q ≠ 31 → q ≠ 32 → α1 q = α q := by
    intro q a1 a2; rw [← hα1]; simp [m_nl, r_up, a1, a2]
  have hw := hM.2.1
  have hs := hM.2.2.2.1
  have hfr : ∀ p, p < 4 → fr p < 6 := fun p hp => (hM.2.2.2.2.1 p hp).2
  have hnr := hM.2.2.2.2.2.2.1
  obtain ⟨d1, eb, d2, ef, en, g4⟩ := sim_b (fr := fr) (nr := nr) (p := p) (v := v) (b := b) tc hw hs hfr hnr hp hv hb hb2 rfl rfl rfl
  have hmp := hmn p hp
  have ez : σ 12 p = 0 ↔ mn p = 0 := by rw [hmp.1]; exact nI_eq (b := 0) (by omega) (by omega)
  have ez' : α1 28 p = 0 ↔ mn p = 0 := by rw [f1 28 (by decide) (by decide), hmp.2.1]; exact nI_eq (b := 0) (by omega) (by omega)
  have hp4 := p4_new (mn := mn) hp
  have e12 : c_l4 σ (d + c) sb fr nr p v b 12 = σ 12 := by rw [c_l4_o _ _ _ _ _ _ _ _ (by decide) (by decide) (by decide) (by decide) (by decide) (by decide), mk_o _ _ _ _ _ _ _ (by decide) (by decide) (by decide)]
  have e13 : c_l4 σ (d + c) sb fr nr p v b 13 = σ 13 := by rw [c_l4_o _ _ _ _ _ _ _ _ (by decide) (by decide) (by decide) (by decide) (by decide) (by decide), mk_o _ _ _ _ _ _ _ (by decide) (by decide) (by decide)]
  have e3 : c_lk σ (d + c) sb fr nr p v b tc 3 = σ 3 := by rw [c_lk_eq, c_nm_o _ _ _ _ _ (by decide) (by decide) (by decide), c_l4_o _ _ _ _ _ _ _ _ (by decide) (by decide) (by decide) (by decide) (by decide) (by decide), mk_o _ _ _ _ _ _ _ (by decide) (by decide) (by decide)]
  have e15 : c_lk σ (d + c) sb fr nr p v b tc 15 = σ 15 := by rw [c_lk_eq, c_nm_o _ _ _ _ _ (by decide) (by decide) (by decide), c_l4_o _ _ _ _ _ _ _ _ (by decide) (by decide) (by decide) (by decide) (by decide) (by decide), mk_o _ _ _ _ _ _ _ (by decide) (by decide) (by decide)]
  have m_o : ∀ q, q ≠ 19 → q ≠ 22 → q ≠ 23 → q ≠ 24 → q ≠ 25 → q ≠ 26 → q ≠ 28 → q ≠ 29 → q ≠ 30 → q ≠ 32 → m_mb α1 (d + c) sb fr nr p v b tc q = α1 q := by
    intro q a1 a2 a3 a4 a5 a6 a7 a8 a9 a10
    rw [m_mb_eq, r1_o _ _ _ _ _ _ a1 a2 a3 a4 a5 a9 a10, s1_o _ _ _ _ a1 a2 a3 a4 a6 a10]
    unfold m_a2
    rw [tr_o _ _ _ a1 a7 a8]
    simp [m_mk, r_up, a4]
  refine ⟨⟨⟨?_, ?_⟩, ?_, ?_⟩, ?_, ?_, ?_, ⟨⟨upd_n mn p, ?_, ?_⟩, ?_, ?_⟩, ?_, ⟨?_, ?_, ?_, ?_, ?_, ?_, ?_⟩, ?_⟩
  · rw [m_mb_19 _ _ _ _ _ _ _ _ _ (by decide) (by decide) (by decide), f1 19 (by decide) (by decide)]; exact hD.1.1
  · rw [m_mb_19 _ _ _ _ _ _ _ _ _ (by decide) (by decide) (by decide), f1 19 (by decide) (by decide)]; exact hD.1.2
  · rw [m_o 20 (by decide) (by decide) (by decide) (by decide) (by decide) (by decide) (by decide) (by decide) (by decide) (by decide), f1 20 (by decide) (by decide)]; exact hD.2.1
  · rw [e3, m_o 21 (by decide) (by decide) (by decide) (by decide) (by decide) (by decide) (by decide) (by decide) (by decide) (by decide), f1 21 (by decide) (by decide)]; exact hD.2.2
  · rw [eb, ef, en]; exact m_mbMH tc hM' hp hb
  · exact g4.to (by rw [c_lk_eq, c_nm_o _ _ _ _ _ (by decide) (by decide) (by decide)]) (by rw [c_lk_eq, c_nm_o _ _ _ _ _ (by decide) (by decide) (by decide)]) (by rw [c_lk_eq, c_nm_o _ _ _ _ _ (by decide) (by decide) (by decide)]) rfl rfl rfl
  · unfold RW
    rw [e15, m_o 27 (by decide) (by decide) (by decide) (by decide) (by decide) (by decide) (by decide) (by decide) (by decide) (by decide), f1 27 (by decide) (by decide)]; exact hW
  · intro x hx
    have hmx := hmn x hx
    rw [c_lk_eq, nm_12, e12, m_mb_eq, r1_o _ _ _ _ _ _ (by decide) (by decide) (by decide) (by decide) (by decide) (by decide) (by decide), s1_o _ _ _ _ (by decide) (by decide) (by decide) (by decide) (by decide) (by decide), a2_28, f1 28 (by decide) (by decide)]
    by_cases hxp : x = p
    · subst hxp
      simp only [upd, upd_n, if_true]
      rw [hmx.1, hmx.2.1, nI_1]
      exact ⟨rfl, rfl, by omega⟩
    · simp only [upd, upd_n, if_neg hxp]
      exact ⟨hmx.1, hmx.2.1, by omega⟩
  · rw [hp4.1]
    by_cases hz : mn p = 0
    · have h4 := hp4.2 hz
      rw [if_pos hz, tc_n, decide_eq_true (show σ 12 p = 0 ∧ tc < 4 from ⟨ez.mpr hz, by omega⟩), if_pos rfl, htc]
    · rw [if_neg hz, tc_n, decide_eq_false (fun z => hz (ez.mp z.1))]
      exact htc
  · rw [m_mb_eq, r1_19 _ _ _ _ _ _ (by decide), s1_19 _ _ _ _ (by decide), a2_1912]
    by_cases hz : mn p = 0
    · have h4 := hp4.2 hz
      rw [if_pos (ez'.mpr hz), tc_n, decide_eq_true (show σ 12 p = 0 ∧ tc < 4 from ⟨ez.mpr hz, by omega⟩), if_pos rfl, nI_1]
    · rw [if_neg (fun z => hz (ez'.mp z)), tc_n, decide_eq_false (fun z => hz (ez.mp z.1)), f1 19 (by decide) (by decide)]
      exact h12
  · intro i hi
    rw [c_lk_eq, nm_13, e12, e13, m_mb_eq, r1_o _ _ _ _ _ _ (by decide) (by decide) (by decide) (by decide) (by decide) (by decide) (by decide), s1_o _ _ _ _ (by decide) (by decide) (by decide) (by decide) (by decide) (by decide), a2_29, f1 29 (by decide) (by decide)]
    by_cases hz : mn p = 0
    · have h4 := hp4.2 hz
      have hc : σ 12 p = 0 ∧ tc < 4 := ⟨ez.mpr hz, by omega⟩
      rw [tc_n, decide_eq_true hc, if_pos rfl] at hi
      rw [if_pos hc, if_pos (ez'.mpr hz)]
      by_cases hit : i = tc
      · simp [upd, hit]
      · simp only [upd, if_neg hit]; exact h13 i (by omega)
    · have hc : ¬ (σ 12 p = 0 ∧ tc < 4) := fun z => hz (ez.mp z.1)
      rw [tc_n, decide_eq_false hc] at hi
      rw [if_neg hc, if_neg (fun z => hz (ez'.mp z))]
      exact h13 i hi
  · intro i hi
    have e16 : c_lk σ (d + c) sb fr nr p v b tc 16 = c_l4 σ (d + c) sb fr nr p v b 16 := by rw [c_lk_eq, c_nm_o _ _ _ _ _ (by decide) (by decide) (by decide)]
    have hn : c_lkn σ (d + c) sb fr nr p v b = if c_x2 σ (d + c) sb fr nr p v b then nr + 1 else nr := rfl
    rw [hn] at hi
    have e30 : m_s1 (m_a2 α1 (d + c) sb fr p v b tc) (d + c) sb b 30 = α 30 := by
      rw [s1_o _ _ _ _ (by decide) (by decide) (by decide) (by decide) (by decide) (by decide)]
      unfold m_a2
      rw [tr_o _ _ _ (by decide) (by decide) (by decide)]
      show α1 30 = α 30
      exact f1 30 (by decide) (by decide)
    rw [e16, c_l4_16, m_mb_eq, r1_30, e30]
    have d2' : m_d2 (m_s1 (m_a2 α1 (d + c) sb fr p v b tc) (d + c) sb b) (d + c) (m_lkb α1 (d + c) sb fr p v b tc) fr nr p = c_x2 σ (d + c) sb fr nr p v b := d2.symm
    rw [d2']
    cases hx : c_x2 σ (d + c) sb fr nr p v b with
    | true =>
      rw [hx] at hi
      simp only [if_true] at hi ⊢
      by_cases hin : i = nr
      · simp [upd, hin]
      · simp only [upd, if_neg hin]; exact hT i (by omega)
    | false =>
      rw [hx] at hi
      simp only [Bool.false_eq_true, if_false] at hi ⊢
      exact hT i hi
  · intro j hj
    have e11 : c_lk σ (d + c) sb fr nr p v b tc 11 = c_nl σ 1 (nI b) (nI p) (nI v) 11 := by
      rw [c_lk_eq, c_nm_o _ _ _ _ _ (by decide) (by decide) (by decide), c_l4_o _ _ _ _ _ _ _ _ (by decide) (by decide) (by decide) (by decide) (by decide) (by decide)]
      simp [c_mk, r_up]
    rw [e11, m_o 31 (by decide) (by decide) (by decide) (by decide) (by decide) (by decide) (by decide) (by decide) (by decide) (by decide)]
    exact hK'.1 j hj
  all_goals first
    | (rw [m_mb_19 _ _ _ _ _ _ _ _ _ (by decide) (by decide) (by decide), f1 19 (by decide) (by decide)]; exact h16)
    | skip
  all_goals
    have e32 : m_mb α1 (d + c) sb fr nr p v b tc 32 = if c_x2 σ (d + c) sb fr nr p v b then upd (if c_x1 σ (d + c) sb fr p v b then upd (α1 32) 2 1 else α1 32) 3 1 else (if c_x1 σ (d + c) sb fr p v b then upd (α1 32) 2 1 else α1 32) := by
      have ea : m_a2 α1 (d + c) sb fr p v b tc 32 = α1 32 := by
        unfold m_a2
        rw [tr_o _ _ _ (by decide) (by decide) (by decide)]
        rfl
      rw [m_mb_eq, r1_32, s1_32, ea, ← d1]
      have d2' : m_d2 (m_s1 (m_a2 α1 (d + c) sb fr p v b tc) (d + c) sb b) (d + c) (m_lkb α1 (d + c) sb fr p v b tc) fr nr p = c_x2 σ (d + c) sb fr nr p v b := d2.symm
      rw [d2']
    have e10 : ∀ i, i ≠ 3 → i ≠ 8 → i ≠ 9 → c_lk σ (d + c) sb fr nr p v b tc 10 i = c_nl σ 1 (nI b) (nI p) (nI v) 10 i := by
      intro i a1 a2 a3
      rw [c_lk_eq, nm_10 _ _ _ _ _ a1 a2 a3, c_l4_o _ _ _ _ _ _ _ _ (by decide) (by decide) (by decide) (by decide) (by decide) (by decide)]
      simp [c_mk, r_up]
    rw [e32]
  · rw [e10 4 (by decide) (by decide) (by decide), hK'.2.1]
    cases c_x1 σ (d + c) sb fr p v b <;> cases c_x2 σ (d + c) sb fr nr p v b <;> simp [upd]
  · rw [e10 5 (by decide) (by decide) (by decide), hK'.2.2.1]
    cases c_x1 σ (d + c) sb fr p v b <;> cases c_x2 σ (d + c) sb fr nr p v b <;> simp [upd]
  · rw [c_lk_eq, (nm_108 _ _ _ _ _).1]
    have z : α1 32 2 = 0 := by rw [← hα1]; simp [m_nl, r_up, upd]
    cases c_x1 σ (d + c) sb fr p v b <;> cases c_x2 σ (d + c) sb fr nr p v b <;> simp [upd, bI, z]
  · rw [c_lk_eq, (nm_108 _ _ _ _ _).2]
    have z : α1 32 3 = 0 := by rw [← hα1]; simp [m_nl, r_up, upd]
    cases c_x1 σ (d + c) sb fr p v b <;> cases c_x2 σ (d + c) sb fr nr p v b <;> simp [upd, bI, z]
  · rw [e10 6 (by decide) (by decide) (by decide), hK'.2.2.2.2.2.1]
    cases c_x1 σ (d + c) sb fr p v b <;> cases c_x2 σ (d + c) sb fr nr p v b <;> simp [upd]
  · rw [e10 7 (by decide) (by decide) (by decide), hK'.2.2.2.2.2.2]
    cases c_x1 σ (d + c) sb fr p v b <;> cases c_x2 σ (d + c) sb fr nr p v b <;> simp [upd]
