/-! scrubbing on both sides -/
theorem RC.nxt {σ α : r_Sg} {d c : Nat} {sb : Option Nat} {fr : Nat → Nat} {nr tc nx B : Nat} (h : RC σ α d c sb fr nr tc nx B) (n' : Nat) : RC σ (r_up α 19 16 (nI n')) d c sb fr nr tc n' B := by
  obtain ⟨h1, h2, h3, h4, h5, h6, h7, h8⟩ := h
  exact ⟨h1, h2.to rfl rfl rfl rfl rfl rfl, h3.to rfl rfl rfl rfl rfl rfl, h4, h5, h6, h7, by simp [r_up, upd]⟩
theorem scrub_step {σ : r_Sg} {d c : Nat} {sb : Option Nat} {fr : Nat → Nat} {nr tc nx : Nat} (h : CI σ d c sb fr nr tc nx) {B : Nat} (hB : B < 2 ^ 30) :
    ∃ x σ' sb' fr' nr' tc', Ev 5 MX0_scrubNext [.ref 5] σ (some (.int x)) σ' ∧ (x = 0 ∨ x = 1) ∧ CI σ' d c sb' fr' nr' tc' ((nx + 1) % 16) ∧ (∀ q, 19 ≤ q → σ' q = σ q) ∧ ∀ α, RC σ α d c sb fr nr tc nx B → ∃ α', m_scr α x α' ∧ RC σ' α' d c sb' fr' nr' tc' ((nx + 1) % 16) (B + 1) ∧ (∀ q, q < 19 → α' q = α q) := by
  have hBH := h.2.2.2.2.1
  have hw := hBH.2.1
  have hs := hBH.2.2.2.2.1
  have h5 := h.2.2.2.2.2.2.1
  have hx := h5.2.2
  have hp : nx / 4 < 4 := by omega
  have hv : nx % 4 < 4 := by omega
  have hfr := (hBH.2.2.2.2.2.1 (nx / 4) hp).2
  have hst := st_BH_CI h
  have e7 : c_st σ (nx / 4) (nx % 4) 7 = σ 7 := c_st_o σ _ _ (by decide)
  have e12 : c_st σ (nx / 4) (nx % 4) 12 = σ 12 := c_st_o σ _ _ (by decide)
  have est : ∀ q, 19 ≤ q → c_st σ (nx / 4) (nx % 4) q = σ q := fun q hq => c_st_o σ _ _ (by omega)
  have sbits := bo_bits hw hs (σ 7 (4 * fr (nx / 4) + nx % 4))
  rcases look3 h (r_bo (d + c) sb (σ 7 (4 * fr (nx / 4) + nx % 4))) with hy | ⟨y, hy64, hy0, hy, hb⟩ | ⟨y, b, hy64, hy0, hy, hb, hbw⟩
  · refine ⟨0, _, sb, fr, nr, tc, ev_X0_scrubNext_c hBH h5.1 hp h5.2.1 hv hy, Or.inl rfl, nl_CI hst _ _ _ _, fun q hq => by rw [nl_fr _ _ _ _ _ hq, est q hq], fun α hR => ?_⟩
    obtain ⟨m1, m2, m3, m4⟩ := mlook h hR hp hv
    have hR2 := nl_RC (hR.st (nx / 4) (nx % 4)) (k := 0) (by omega) (-9) (nI (nx / 4)) (nI (nx % 4))
    refine ⟨_, ⟨nx, _, _, _, hR.2.2.2.2.2.2.2, hx, ev_X6_looksAt_c hR.2.1 hp hv (by rw [m1, m2, hy]; rfl) (by rw [m1]; exact no_m5 hw sbits), Or.inr ⟨?_, rfl, rfl⟩, hR2.2.2.2.2.2.2.2, rfl⟩, (hR2.nxt _).grow (by omega), fun q hq => ?_⟩
    · simp [m_nl, r_up, upd]; decide
    · rw [r_up_ne _ _ _ (by omega), nl_fm _ _ _ _ _ hq]
  · refine ⟨0, _, sb, fr, nr, tc, ev_X0_scrubNext_f hBH h5.1 hp h5.2.1 hv hy hy64 hy0 hb, Or.inl rfl, nl_CI hst _ _ _ _, fun q hq => by rw [nl_fr _ _ _ _ _ hq, est q hq], fun α hR => ?_⟩
    obtain ⟨m1, m2, m3, m4⟩ := mlook h hR hp hv
    have hR2 := nl_RC (hR.st (nx / 4) (nx % 4)) (k := 2) (by omega) (-9) (nI (nx / 4)) (nI (nx % 4))
    refine ⟨_, ⟨nx, _, _, _, hR.2.2.2.2.2.2.2, hx, ev_X6_looksAt_f hR.2.1 hp hv ?_, Or.inr ⟨?_, rfl, rfl⟩, hR2.2.2.2.2.2.2.2, rfl⟩, (hR2.nxt _).grow (by omega), fun q hq => ?_⟩
    · rw [m1, m2, hy, m3 _ y hy64]
      simp only [r_men, nI_clamp (show y < 2 ^ 31 by omega), hb, if_neg (nI_ne0 hy0 (show y < 2 ^ 31 by omega)), if_true]
    · simp [m_nl, r_up, upd]; decide
    · rw [r_up_ne _ _ _ (by omega), nl_fm _ _ _ _ _ hq]
  · have htc := h.2.2.2.2.2.1
    have hlc := lk_CI (v := nx % 4) hst hp hbw
    rw [e12] at hlc
    refine ⟨1, _, _, _, _, _, ev_X0_scrubNext_m hBH h5.1 hp h5.2.1 hv hy hy64 hy0 hb hbw htc.1 htc.2, Or.inr rfl, pb_CI hlc _ _ _ _, fun q hq => by rw [pb_fr _ _ _ _ _ hq, lk_fr _ _ _ _ _ _ _ _ _ hq, est q hq], fun α hR => ?_⟩
    obtain ⟨m1, m2, m3, m4⟩ := mlook h hR hp hv
    have hR2 := lk_RC (hR.st (nx / 4) (nx % 4)) hB hp hv hbw
    rw [e12] at hR2
    have hfr2 := (hR2.2.1.2.2.2.2.1 (nx / 4) hp).2
    have xb := xor_bits sbits (bm_bits hbw hw)
    have hR3 := pb_RC (R := 4 * c_lkf (c_st σ (nx / 4) (nx % 4)) (d + c) sb fr nr (nx / 4) (nx % 4) b (nx / 4) + nx % 4) hR2 (by omega) xb
    have hbit : r_bit (α 20) (d + c) (r_syn (α 20) (r_rawF (fun b => α 22 (21 * (4 * fr (nx / 4) + nx % 4) + r_pl (d + c) sb b)) (d + c)) (d + c)) = nI b := by rw [m1, m2, hy, m4 y hy64, hb]
    have hmn := hR.2.2.2.2.1
    have hev := ev_X6_looksAt_m (mt := tc) hR.2.1 hp hv (by
      rw [m1, m2, hy, m3 _ y hy64]
      simp only [r_men, nI_clamp (show y < 2 ^ 31 by omega), hb, if_neg (nI_ne0 hy0 (show y < 2 ^ 31 by omega)), if_neg (r_nm9 (show b < 2 ^ 31 by omega))]
      rfl) (by rw [m1]; exact no_m5 hw xb) (ne_bm (by omega)) hbit hbw hmn.2.1 (fun z => by
        obtain ⟨⟨mn, hm1, hm2⟩, -⟩ := hmn
        have hq := hm1 (nx / 4) hp
        rw [hq.2.1] at z
        have z2 : mn (nx / 4) = 0 := (nI_eq (b := 0) (by omega) (by omega)).mp z
        rw [hm2]
        exact (p4_new hp).2 z2)
    rw [m1] at hev
    refine ⟨_, ⟨nx, _, _, _, hR.2.2.2.2.2.2.2, hx, hev, Or.inl ⟨?_, ev_X6_puts hR2.2.1 hp hv, rfl⟩, hR3.2.2.2.2.2.2.2, rfl⟩, hR3.nxt _, fun q hq => ?_⟩
    · have := hR2.2.2.2.2.2.2.1.2.1
      rw [← this, c_lk_10]
    · rw [r_up_ne _ _ _ (by omega), m_pu_o _ _ _ _ (by omega), mb_fm _ _ _ _ _ _ _ _ _ hq, nl_fm _ _ _ _ _ hq]
theorem scrub_n : ∀ (n : Nat) {σ : r_Sg} {d c : Nat} {sb : Option Nat} {fr : Nat → Nat} {nr tc nx : Nat}, CI σ d c sb fr nr tc nx → ∀ {B : Nat}, B + n < 2 ^ 30 →
    ∃ (sq : Nat → r_Sg) (xq : Nat → Int32) (sb' : Option Nat) (fr' : Nat → Nat) (nr' tc' nx' : Nat), sq 0 = σ ∧ (∀ k, k < n → Ev 5 MX0_scrubNext [.ref 5] (sq k) (some (.int (xq k))) (sq (k + 1)) ∧ (xq k = 0 ∨ xq k = 1)) ∧ CI (sq n) d c sb' fr' nr' tc' nx' ∧ (∀ q, 19 ≤ q → sq n q = σ q) ∧
      ∀ α, RC σ α d c sb fr nr tc nx B → ∃ aq : Nat → r_Sg, aq 0 = α ∧ (∀ k, k < n → m_scr (aq k) (xq k) (aq (k + 1))) ∧ RC (sq n) (aq n) d c sb' fr' nr' tc' nx' (B + n) ∧ (∀ q, q < 19 → aq n q = α q)
  | 0, σ, d, c, sb, fr, nr, tc, nx, h, B, hB => ⟨fun _ => σ, fun _ => 0, sb, fr, nr, tc, nx, rfl, fun k hk => by omega, h, fun _ _ => rfl, fun α hR => ⟨fun _ => α, rfl, fun k hk => by omega, hR, fun _ _ => rfl⟩⟩
  | n + 1, σ, d, c, sb, fr, nr, tc, nx, h, B, hB => by
    obtain ⟨x, σ', sb1, fr1, nr1, tc1, h1, h2, h3, h4, h5⟩ := scrub_step h (B := B) (by omega)
    obtain ⟨sq, xq, sb', fr', nr', tc', nx', g1, g2, g3, g4, g5⟩ := scrub_n n h3 (B := B + 1) (by omega)
    refine ⟨fun k => match k with
      | 0 => σ
      | k + 1 => sq k, fun k => match k with
      | 0 => x
      | k + 1 => xq k, sb', fr', nr', tc', nx', rfl, ?_, g3, fun q hq => (g4 q hq).trans (h4 q hq), ?_⟩
    · intro k hk
      cases k with
      | zero => exact ⟨by rw [← g1] at h1; exact h1, h2⟩
      | succ k => exact g2 k (by omega)
    · intro α hR
      obtain ⟨α', f1, f2, f3⟩ := h5 α hR
      obtain ⟨aq, k1, k2, k3, k4⟩ := g5 α' f2
      refine ⟨fun k => match k with
        | 0 => α
        | k + 1 => aq k, rfl, ?_, ?_, fun q hq => (k4 q hq).trans (f3 q hq)⟩
      · intro k hk
        cases k with
        | zero => rw [← k1] at f1; exact f1
        | succ k => exact k2 k (by omega)
      · rw [show B + (n + 1) = B + 1 + n by omega]; exact k3
