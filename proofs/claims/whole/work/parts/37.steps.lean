/-! patterns, safe, code -/
theorem RC.c33 {σ α α' : r_Sg} {d c : Nat} {sb : Option Nat} {fr : Nat → Nat} {nr tc nx B : Nat} (h : RC σ α d c sb fr nr tc nx B) (f : ∀ q, q ≠ 33 → α' q = α q) : RC σ α' d c sb fr nr tc nx B := by
  unfold RC RD r_MH RCb RW RLg RT RK at *
  rw [f 19 (by omega), f 20 (by omega), f 21 (by omega), f 22 (by omega), f 23 (by omega), f 24 (by omega), f 25 (by omega), f 26 (by omega), f 27 (by omega), f 28 (by omega), f 29 (by omega), f 30 (by omega), f 31 (by omega), f 32 (by omega)]
  exact h
theorem RC.c17 {σ σ' α : r_Sg} {d c : Nat} {sb : Option Nat} {fr : Nat → Nat} {nr tc nx B : Nat} (h : RC σ α d c sb fr nr tc nx B) (e : ∀ q, q ≠ 17 → q ≠ 18 → σ' q = σ q) : RC σ' α d c sb fr nr tc nx B := by
  unfold RC RD r_MH RCb RW RLg RT RK at *
  rw [e 3 (by omega) (by omega), e 7 (by omega) (by omega), e 8 (by omega) (by omega), e 9 (by omega) (by omega), e 10 (by omega) (by omega), e 11 (by omega) (by omega), e 12 (by omega) (by omega), e 13 (by omega) (by omega), e 15 (by omega) (by omega), e 16 (by omega) (by omega)]
  exact h
theorem CI.c17 {σ σ' : r_Sg} {d c : Nat} {sb : Option Nat} {fr : Nat → Nat} {nr tc nx : Nat} (h : CI σ d c sb fr nr tc nx) (e : ∀ q, q ≠ 17 → q ≠ 18 → σ' q = σ q) (t : TB σ' d c) : CI σ' d c sb fr nr tc nx := by
  unfold CI r_BH at *
  rw [e 1 (by omega) (by omega), e 2 (by omega) (by omega), e 4 (by omega) (by omega), e 5 (by omega) (by omega), e 10 (by omega) (by omega), e 14 (by omega) (by omega)]
  exact ⟨h.1, h.2.1, h.2.2.1, h.2.2.2.1, h.2.2.2.2.1, h.2.2.2.2.2.1, h.2.2.2.2.2.2.1, t⟩
theorem pat_cls {σ : r_Sg} {d c : Nat} {sb : Option Nat} {fr : Nat → Nat} {nr tc nx : Nat} (hC : CI σ d c sb fr nr tc nx) {n q : Nat} (hn : n ≤ 4) (hq : q ≤ 4) :
    ∃ σ1, Ev 5 MX5_patterns [.ref 0, .int (nI n), .int (nI q)] σ (some (.int (f_a σ1 (d + c) (r_CO c d) n q))) σ1 ∧ CI σ1 d c sb fr nr tc nx ∧ (∀ q, q ≠ 17 → q ≠ 18 → σ1 q = σ q) ∧ (∀ n s, n ≤ 4 → s < 64 → σ1 18 (64 * n + s) = nI (f_c (r_CO c d) (d + c) n s)) := by
  have hc := r_ok_c hC.1
  have hw : σ 1 3 + σ 1 4 = nI (d + c) := by rw [hC.2.1.1, hC.2.1.2, nI_add]
  have hst : 0 < σ 1 4 := by rw [hC.2.1.2]; exact (c0_iff (by omega)).mpr (by omega)
  have hcol : ∀ b, b < d + c → σ 2 b = nI (r_CO c d b) ∧ r_CO c d b < 64 := fun b hb => ⟨hC.2.2.1 b hb, (co_lt hC.1 hb).2.2⟩
  rcases hC.2.2.2.2.2.2.2 with ht | ⟨ht, hT⟩
  · have ha : ∀ n s, n ≤ 4 → s < 64 → r_up (f_b σ (r_CO c d) (d + c)) 17 2 1 18 (64 * n + s) = nI (f_c (r_CO c d) (d + c) n s) := fun n s hn hs => by
      rw [r_up_ne _ _ _ (by decide)]
      exact f_b_at σ (d + c) (fun b hb => (hcol b hb).2) n s hn hs
    have he : ∀ q, q ≠ 17 → q ≠ 18 → r_up (f_b σ (r_CO c d) (d + c)) 17 2 1 q = σ q := fun q h7 h8 => by rw [r_up_ne _ _ _ h7, f_b_o σ _ h8]
    have hT : TB (r_up (f_b σ (r_CO c d) (d + c)) 17 2 1) d c := Or.inr ⟨by simp [r_up, upd], fun n hn s hs => ha n s hn hs⟩
    refine ⟨r_up (f_b σ (r_CO c d) (d + c)) 17 2 1, ?_, hC.c17 he hT, he, ha⟩
    rcases (show q = 0 ∨ q = 1 ∨ q = 2 ∨ q = 3 ∨ q = 4 by omega) with rfl | rfl | rfl | rfl | rfl
    · exact ev_X5_patterns_c0 hw (by omega) hcol hn hst ht
    · exact ev_X5_patterns_c1 hw (by omega) hcol hn hst ht
    · exact ev_X5_patterns_c2 hw (by omega) hcol hn hst ht
    · exact ev_X5_patterns_c3 hw (by omega) hcol hn hst ht
    · exact ev_X5_patterns_c4 hw (by omega) hcol hn hst ht
  · refine ⟨σ, ?_, hC, fun _ _ _ => rfl, fun n s hn hs => hT n hn s hs⟩
    rcases (show q = 0 ∨ q = 1 ∨ q = 2 ∨ q = 3 ∨ q = 4 by omega) with rfl | rfl | rfl | rfl | rfl
    · exact ev_X5_patterns_d0 hw (by omega) hcol hn hst ht
    · exact ev_X5_patterns_d1 hw (by omega) hcol hn hst ht
    · exact ev_X5_patterns_d2 hw (by omega) hcol hn hst ht
    · exact ev_X5_patterns_d3 hw (by omega) hcol hn hst ht
    · exact ev_X5_patterns_d4 hw (by omega) hcol hn hst ht
theorem st_patterns {σ : r_Sg} {B : Nat} (hI : Inv σ B) (n q : Int32) : St MX5_patterns MX6_patterns [.int n, .int q] σ B := by
  by_cases hg : (0 ≤ n ∧ n ≤ 4) ∧ 0 ≤ q ∧ q ≤ 4
  · have hI0 := hI
    rcases hI with hN | ⟨d, c, sb, fr, nr, tc, nx, hC, hR⟩
    · exact St.same hI0 (ev_X5_patterns_s hg (by rw [hN.2.1]; decide)) (ev_X6_patterns_s hg hN.2.2.1) rfl
    · have hc := r_ok_c hC.1
      obtain ⟨i, hi, rfl⟩ := r_nat (w := 5) ((r_le1 (w := 5) (by omega)).mp hg.1) (by omega)
      obtain ⟨j, hj, rfl⟩ := r_nat (w := 5) ((r_le1 (w := 5) (by omega)).mp hg.2) (by omega)
      obtain ⟨σ1, e1, hC1, he, ha⟩ := pat_cls hC (n := i) (q := j) (by omega) (by omega)
      have hR0 := hR.fr (σ1 := σ1) (fun q hq => he q (by omega) (by omega))
      have hR1 := hR0.c17 he
      have hp20 := pow20 (w := d + c) (by omega)
      have e2 := ev_X6_patterns_k (σ := σ1) (w := d + c) (n := i) (q := j) (N := h_N (d + c) i) (Ls := h_L i) (by rw [hR1.1.1.1, hR1.1.1.2, nI_add]) (by omega) (by omega) (by omega) (by rw [hR1.1.1.1]; exact fun z => by have := (d0_iff (by omega)).mp z; omega) (by omega) (by
          by_cases h0 : i = 0
          · subst h0; unfold h_N; rw [h_N0]; decide
          · have := h_len (w := d + c) (n := i) (by omega) (by omega) (by omega)
            unfold h_N; omega) (fun k hk => h_bd (by omega) (by omega) (by omega) hk) (h_0 (by omega)) (fun k hk => h_go (by omega) (by omega) (by omega) hk) (fun k hk => h_nz (by omega) (by omega) (by omega) hk) (h_fin (by omega) (by omega) (by omega)) (fun k _ => (m_ps_at σ1 (d + c) (h_L i) k).1)
      refine St.go e1 e2 ?_ hC1 (hR1.c33 (fun q hq => m_ps_o _ _ _ hq _)) (by omega) (fun q hq => m_ps_o _ _ _ (by omega) _)
      rw [f_a_n (fun b hb => (co_lt hC.1 hb).2.2) ha (by omega) j]
      exact (pat_eq hC.1 hR1.1.2.1 (by omega) (by omega) rfl).symm
  · exact St.same hI (ev_X5_patterns_o hg) (ev_X6_patterns_o hg) rfl
/-- the call that answers a long -/
theorem st_safe {σ : r_Sg} (t s q : Int32) : ∃ x : Int64, Ev 5 MX5_safe [.ref 0, .int t, .int s, .int q] σ (some (.long x)) σ ∧ Ev 5 MX6_safe [.ref 19, .int t, .int s, .int q] σ (some (.long x)) σ := by
  by_cases hg : (0 ≤ t ∧ t ≤ 12) ∧ (1 ≤ s ∧ s ≤ 12) ∧ 0 ≤ q ∧ q ≤ 1
  · obtain ⟨h1, h2, h3⟩ := hg
    obtain ⟨i, hi, rfl⟩ := r_nat (w := 13) ((r_le1 (w := 13) (by omega)).mp h1) (by omega)
    have h2' : 0 ≤ s ∧ s ≤ 12 := ⟨Int32.le_trans (by decide) h2.1, h2.2⟩
    obtain ⟨j, hj, rfl⟩ := r_nat (w := 13) ((r_le1 (w := 13) (by omega)).mp h2') (by omega)
    have hj1 : 1 ≤ j := (nI_leI (a := 1) (by omega) (by omega)).mp h2.1
    obtain ⟨k1, k2, k3⟩ := s_ok i hi (j - 1) (by omega)
    rw [show j - 1 + 1 = j by omega] at k1 k2 k3
    obtain ⟨k, hk, rfl⟩ := r_nat (w := 2) ((r_le1 (w := 2) (by omega)).mp h3) (by omega)
    rcases (show k = 0 ∨ k = 1 by omega) with rfl | rfl
    · exact ⟨_, ev_X5_safe_0 (by omega) hj1 (by omega), by rw [k2]; exact ev_X6_safe_0 (by omega) hj1 (by omega) k1⟩
    · exact ⟨_, ev_X5_safe_1 (by omega) hj1 (by omega), by rw [k3]; exact ev_X6_safe_1 (by omega) hj1 (by omega) k1⟩
  · exact ⟨_, ev_X5_safe_o hg, ev_X6_safe_o hg⟩
/-- a new code: both sides begin anew -/
theorem st_code {σ : r_Sg} {B : Nat} (hI : Inv σ B) (d' c' : Int32) : St MX5_code MX6_code [.int d', .int c'] σ B := by
  by_cases hg : ∃ a b : Nat, r_ok a b ∧ d' = nI a ∧ c' = nI b
  · obtain ⟨d, c, hok, rfl, rfl⟩ := hg
    have hc := r_ok_c hok
    have e1 := ev_X5_code_ok (σ := σ) hok
    generalize hs1 : r_up (r_ren (r_cf (r_up (r_up σ 1 3 (nI d)) 1 4 (nI c)) c d c) (d + c)) 17 2 0 = σ1 at *
    have e2 := ev_X6_code_ok (σ := σ1) hok
    generalize hs2 : r_beg (r_mf (r_up (r_up σ1 19 0 (nI d)) 19 1 (nI c)) c d c) (d + c) = σ2 at *
    have hC : CI σ1 d c none id 0 0 0 := by
      subst hs1
      refine ⟨hok, ⟨?_, ?_⟩, ?_, ?_, ⟨?_, ?_, ?_, ?_, ?_, ?_, ?_, ?_⟩, ⟨?_, ?_⟩, ⟨?_, ?_, ?_⟩, Or.inl ?_⟩
      · simp [r_up, upd, r_ren, r_fill, r_idn, r_lclr, r_clr, r_cf]
      · simp [r_up, upd, r_ren, r_fill, r_idn, r_lclr, r_clr, r_cf]
      · intro j hj; simp [r_up, upd, r_ren, r_fill, r_idn, r_lclr, r_clr, r_cf, hj]
      · intro y hy; simp [r_up, upd, r_ren, r_fill, r_idn, r_lclr, r_clr, r_cf, hy]
      · simp [r_up, upd, r_ren, r_fill, r_idn, r_lclr, r_clr, r_cf, nI_add]
      · omega
      · simp [r_up, upd, r_ren, r_fill, r_idn, r_lclr, r_clr, r_cf]
      · simp [r_up, upd, r_ren, r_fill, r_idn, r_lclr, r_clr, r_cf, r_sbI]
      · intro b hb; exact absurd hb (by simp)
      · intro p hp; exact ⟨by simp [r_up, upd, r_ren, r_fill, r_idn, r_lclr, r_clr, r_cf, hp], by simp; omega⟩
      · simp [r_up, upd, r_ren, r_fill, r_idn, r_lclr, r_clr, r_cf]; rfl
      · omega
      · simp [r_up, upd, r_ren, r_fill, r_idn, r_lclr, r_clr, r_cf]; rfl
      · omega
      · simp [r_up, upd, r_ren, r_fill, r_idn, r_lclr, r_clr, r_cf]; rfl
      · simp [r_up, upd, r_ren, r_fill, r_idn, r_lclr, r_clr, r_cf]; rfl
      · omega
      · simp [r_up, upd]
    have c3 : ∀ i, i < 6 → σ1 3 i = nI (r_RO c d i) := by
      intro i hi; rw [← hs1]; simp [r_up, upd, r_ren, r_fill, r_idn, r_lclr, r_clr, r_cf, hi]
    have c7 : ∀ i, i < 24 → σ1 7 i = 0 := by
      intro i hi; rw [← hs1]; simp [r_up, upd, r_ren, r_fill, r_idn, r_lclr, r_clr, r_cf, hi]
    have c8 : ∀ i, i < 24 → σ1 8 i = 0 := by
      intro i hi; rw [← hs1]; simp [r_up, upd, r_ren, r_fill, r_idn, r_lclr, r_clr, r_cf, hi]
    have c9 : ∀ i, i < 504 → σ1 9 i = 0 := by
      intro i hi; rw [← hs1]; simp [r_up, upd, r_ren, r_fill, r_idn, r_lclr, r_clr, r_cf, hi]
    have c11 : ∀ i, i < 3 → σ1 11 i = 0 := by
      intro i hi; rw [← hs1]; simp [r_up, upd, r_ren, r_fill, r_idn, r_lclr, r_clr, r_cf, hi]
    have c12 : ∀ i, i < 4 → σ1 12 i = 0 := by
      intro i hi; rw [← hs1]; simp [r_up, upd, r_ren, r_fill, r_idn, r_lclr, r_clr, r_cf, hi]
    have c15 : ∀ i, i < 16 → σ1 15 i = 0 := by
      intro i hi; rw [← hs1]; simp [r_up, upd, r_ren, r_fill, r_idn, r_lclr, r_clr, r_cf, hi]
    have c10 : σ1 10 4 = -9 ∧ σ1 10 5 = -9 ∧ σ1 10 8 = -9 ∧ σ1 10 9 = -9 ∧ σ1 10 6 = -9 ∧ σ1 10 7 = -9 := by
      rw [← hs1]; simp [r_up, upd, r_ren, r_fill, r_idn, r_lclr, r_clr, r_cf]
    have hR : RC σ1 σ2 d c none id 0 0 0 0 := by
      refine ⟨⟨⟨?_, ?_⟩, ?_, ?_⟩, ⟨?_, ?_, ?_, ?_, ?_, ?_, ?_, ?_⟩, ?_, ?_, ⟨⟨fun _ => 0, ?_, ?_⟩, ?_, ?_⟩, ?_, ⟨?_, ?_⟩, ?_⟩
      · rw [← hs2]; simp [r_up, upd, r_beg, r_fill, r_idn, r_mf]
      · rw [← hs2]; simp [r_up, upd, r_beg, r_fill, r_idn, r_mf]
      · intro j hj; rw [← hs2]; simp [r_up, upd, r_beg, r_fill, r_idn, r_mf, hj]
      · intro i hi; rw [c3 i hi, ← hs2]; simp [r_up, upd, r_beg, r_fill, r_idn, r_mf, hi]
      · rw [← hs2]; simp [r_up, upd, r_beg, r_fill, r_idn, r_mf, nI_add]
      · omega
      · intro b hb; rw [← hs2]; simp [r_up, upd, r_beg, r_fill, r_idn, r_mf, hb, r_pl]
      · intro b hb; exact absurd hb (by simp)
      · intro p hp; exact ⟨by rw [← hs2]; simp [r_up, upd, r_beg, r_fill, r_idn, r_mf, hp], by simp; omega⟩
      · rw [← hs2]; simp [r_up, upd, r_beg, r_fill, r_idn, r_mf]; rfl
      · omega
      · rw [← hs2]; simp [r_up, upd, r_beg, r_fill, r_idn, r_mf, bI]
      · intro r hr q hq
        have hi : 21 * r + q < 504 := by omega
        rw [c7 r hr, c8 r hr, c9 _ hi, (r_b_0 (show q < 32 by omega)).mpr (b_0 q), ← hs2]
        simp [r_up, upd, r_beg, r_fill, r_idn, r_mf, hi]
      · intro i hi; rw [c15 i hi, ← hs2]; simp [r_up, upd, r_beg, r_fill, r_idn, r_mf, hi]
      · intro p hp; rw [c12 p hp, ← hs2]; exact ⟨rfl, by simp [r_up, upd, r_beg, r_fill, r_idn, r_mf, hp]; rfl, Nat.le_refl 0⟩
      · rfl
      · rw [← hs2]; simp [r_up, upd, r_beg, r_fill, r_idn, r_mf]; rfl
      · intro i hi; omega
      · intro i hi; omega
      · intro j hj; rw [c11 j hj, ← hs2]; simp [r_up, upd, r_beg, r_fill, r_idn, r_mf, hj]
      · obtain ⟨a1, a2, a3, a4, a5, a6⟩ := c10
        rw [a1, a2, a3, a4, a5, a6, ← hs2]; simp [r_up, upd, r_beg, r_fill, r_idn, r_mf]
      · rw [← hs2]; simp [r_up, upd, r_beg, r_fill, r_idn, r_mf]; rfl
    refine St.go e1 e2 rfl hC hR (by omega) (fun q hq => ?_)
    rw [← hs2]
    funext i
    have : ∀ k, 19 ≤ k → ¬ q = k := fun k hk => by omega
    simp [r_up, r_beg, r_fill, r_idn, r_mf, this]
  · exact St.same hI (ev_X5_code_no hg) (ev_X6_code_no hg) rfl
