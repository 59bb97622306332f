/-! the rest of the calls -/
theorem RCb_loose {σ α : r_Sg} (h : RCb σ α) {R P : Nat} (hR : R < 24) (hP : P < 21) : RCb (r_up σ 8 R (r_lo (σ 8 R) P)) (r_up (r_up α 22 (21 * R + P) (α 22 (21 * R + P))) 23 (21 * R + P) 0) := by
  intro r hr q hq
  have h0 := h r hr q hq
  have e22 : r_up (r_up α 22 (21 * R + P) (α 22 (21 * R + P))) 23 (21 * R + P) 0 22 (21 * r + q) = α 22 (21 * r + q) := by
    by_cases hi : 21 * r + q = 21 * R + P
    · simp [r_up, upd, hi]
    · simp [r_up, upd, hi]
  rw [e22]
  refine ⟨h0.1, ?_, h0.2.2⟩
  by_cases hrr : r = R
  · subst hrr
    by_cases hqq : q = P
    · subst hqq
      simp [r_up, upd, rb_lo _ (show q < 32 by omega) (show q < 32 by omega)]
    · have hi : ¬ 21 * r + q = 21 * r + P := by omega
      simp [r_up, upd, rb_lo _ (show P < 32 by omega) (show q < 32 by omega), hqq, h0]
  · have hi : ¬ 21 * r + q = 21 * R + P := by omega
    simp [r_up, upd, hrr, hi, h0]
theorem RCb_hold {σ α : r_Sg} (h : RCb σ α) {R P : Nat} (hR : R < 24) (hP : P < 21) {a : Int32} (ha : a = 0 ∨ a = 1) : RCb (r_up (r_up σ 7 R (r_sv (σ 7 R) P a)) 8 R (r_hi (σ 8 R) P)) (r_up (r_up α 22 (21 * R + P) a) 23 (21 * R + P) 1) := by
  intro r hr q hq
  have h0 := h r hr q hq
  by_cases hrr : r = R
  · subst hrr
    by_cases hqq : q = P
    · subst hqq
      simp [r_up, upd, rb_hi _ (show q < 32 by omega) (show q < 32 by omega), rb_sv _ ha (show q < 32 by omega) (show q < 32 by omega), h0]
    · have hi : ¬ 21 * r + q = 21 * r + P := by omega
      simp [r_up, upd, rb_hi _ (show P < 32 by omega) (show q < 32 by omega), rb_sv _ ha (show P < 32 by omega) (show q < 32 by omega), hqq, h0]
  · have hi : ¬ 21 * r + q = 21 * R + P := by omega
    simp [r_up, upd, hrr, hi, h0]
theorem i2 {a : Int32} (h : 0 ≤ a ∧ a ≤ 2) : a = 2 ∨ a = 0 ∨ a = 1 := by
  obtain ⟨j, hj, rfl⟩ := r_nat (w := 3) ((r_le1 (w := 3) (by omega)).mp h) (by omega)
  rcases (show j = 0 ∨ j = 1 ∨ j = 2 by omega) with rfl | rfl | rfl
  · exact Or.inr (Or.inl rfl)
  · exact Or.inr (Or.inr rfl)
  · exact Or.inl rfl
theorem st_stick {σ : r_Sg} {B : Nat} (hI : Inv σ B) (p v b a : Int32) : St MX5_stick MX6_stick [.int p, .int v, .int b, .int a] σ B := by
  rcases wd hI p v with ⟨g5, g6⟩ | ⟨d, c, sb, fr, nr, tc, nx, i, j, hC, hR, hi, hj, rfl, rfl, s5, s6⟩
  · exact St.same hI (ev_X5_stick_u (fun z => g5 z.1)) (ev_X6_stick_u (fun z => g6 z.1)) rfl
  · have hBH := hC.2.2.2.2.1
    have hw := hBH.2.1
    have hs := hBH.2.2.2.2.1
    have hfr := (hBH.2.2.2.2.2.1 i hi).2
    have e2 : ∀ σ1 : r_Sg, σ1 19 = σ 19 → ((0 ≤ b ∧ b ≤ σ1 19 0 + σ1 19 1 - 1) ↔ (0 ≤ b ∧ b < σ 1 3 + σ 1 4)) := fun σ1 h => by rw [h, hC.2.1.1, hC.2.1.2, hR.1.1.1, hR.1.1.2]; exact bits_iff hw
    by_cases hb : 0 ≤ b ∧ b < σ 1 3 + σ 1 4
    · by_cases ha : 0 ≤ a ∧ a ≤ 2
      · have hb' := hb
        rw [hC.2.1.1, hC.2.1.2, nI_add] at hb'
        obtain ⟨k, hk, rfl⟩ := r_nat hb' (by omega)
        have hpl := r_pl_lt sb hk hw
        have hct := (hR.2.2.1 (4 * fr i + j) (by omega) (r_pl (d + c) sb k) hpl).1
        rcases i2 ha with rfl | ha2
        · have hf : ∀ q, 19 ≤ q → r_up σ 8 (4 * fr i + j) (r_lo (σ 8 (4 * fr i + j)) (r_pl (d + c) sb k)) q = σ q := fun q hq => r_up_ne _ _ _ (by omega)
          have hR1 := hR.fr hf
          have e3 := ev_X5_stick_l hBH s5 hi hj hb hk
          have hC1 : CI (r_up σ 8 (4 * fr i + j) (r_lo (σ 8 (4 * fr i + j)) (r_pl (d + c) sb k))) d c sb fr nr tc nx := hC.b (fun q _ h8 _ => r_up_ne _ _ _ h8)
          have hb1 := RCb_loose hR1.2.2.1 (R := 4 * fr i + j) (by omega) hpl
          have hR2 := hR1.b hb1 (fun q _ h8 _ => r_up_ne _ _ _ h8) (fun q h22 h23 _ => by rw [r_up_ne _ _ _ h23, r_up_ne _ _ _ h22])
          have s19 := hf 19 (by omega)
          have s22 := hf 22 (by omega)
          generalize r_up σ 8 (4 * fr i + j) (r_lo (σ 8 (4 * fr i + j)) (r_pl (d + c) sb k)) = σ1 at *
          exact St.go e3 (ev_X6_stick_l hR1.2.1 (by rw [s19]; exact s6) hi hj ((e2 σ1 s19).mpr hb) hk) (by rw [s22, hct]) hC1 hR2 (by omega) (fun q hq => by rw [r_up_ne _ _ _ (by omega), r_up_ne _ _ _ (by omega)])
        · have hf : ∀ q, 19 ≤ q → r_up (r_up σ 7 (4 * fr i + j) (r_sv (σ 7 (4 * fr i + j)) (r_pl (d + c) sb k) a)) 8 (4 * fr i + j) (r_hi (σ 8 (4 * fr i + j)) (r_pl (d + c) sb k)) q = σ q := fun q hq => by rw [r_up_ne _ _ _ (by omega), r_up_ne _ _ _ (by omega)]
          have hR1 := hR.fr hf
          have e3 := ev_X5_stick_h hBH s5 hi hj hb hk ha2
          have hC1 : CI (r_up (r_up σ 7 (4 * fr i + j) (r_sv (σ 7 (4 * fr i + j)) (r_pl (d + c) sb k) a)) 8 (4 * fr i + j) (r_hi (σ 8 (4 * fr i + j)) (r_pl (d + c) sb k))) d c sb fr nr tc nx := hC.b (fun q h7 h8 _ => by rw [r_up_ne _ _ _ h8, r_up_ne _ _ _ h7])
          have hb1 := RCb_hold hR1.2.2.1 (R := 4 * fr i + j) (by omega) hpl ha2
          have hR2 := hR1.b hb1 (fun q h7 h8 _ => by rw [r_up_ne _ _ _ h8, r_up_ne _ _ _ h7]) (fun q h22 h23 _ => by rw [r_up_ne _ _ _ h23, r_up_ne _ _ _ h22])
          have s19 := hf 19 (by omega)
          have s22 := hf 22 (by omega)
          generalize r_up (r_up σ 7 (4 * fr i + j) (r_sv (σ 7 (4 * fr i + j)) (r_pl (d + c) sb k) a)) 8 (4 * fr i + j) (r_hi (σ 8 (4 * fr i + j)) (r_pl (d + c) sb k)) = σ1 at *
          exact St.go e3 (ev_X6_stick_h hR1.2.1 (by rw [s19]; exact s6) hi hj ((e2 σ1 s19).mpr hb) hk ha2) (by rw [s22, hct]) hC1 hR2 (by omega) (fun q hq => by rw [r_up_ne _ _ _ (by omega), r_up_ne _ _ _ (by omega)])
      · have hb' := hb
        rw [hC.2.1.1, hC.2.1.2, nI_add] at hb'
        obtain ⟨k, hk, rfl⟩ := r_nat hb' (by omega)
        exact St.same hI (ev_X5_stick_o s5 hi hj hb ha) (ev_X6_stick_o s6 hi hj ((e2 σ rfl).mpr hb) ha) rfl
    · exact St.same hI (ev_X5_stick_u (fun z => hb z.2)) (ev_X6_stick_u (fun z => hb ((e2 σ rfl).mp z.2))) rfl
theorem st_scrub {σ : r_Sg} {B : Nat} (hI : Inv σ B) (hB : B + 64 < 2 ^ 30) (n : Int32) : St MX5_scrub MX6_scrub [.int n] σ B := by
  by_cases hg : 0 ≤ n ∧ n ≤ 64
  · have hI0 := hI
    rcases hI with hN | ⟨d, c, sb, fr, nr, tc, nx, hC, hR⟩
    · exact St.same hI0 (ev_X5_scrub_s hg (by rw [hN.2.1]; decide)) (ev_X6_scrub_s hg hN.2.2.1) rfl
    · obtain ⟨j, hj, rfl⟩ := r_nat (w := 65) ((r_le1 (w := 65) (by omega)).mp hg) (by omega)
      have hc := r_ok_c hC.1
      obtain ⟨sq, xq, sb', fr', nr', tc', nx', g1, g2, g3, g4, g5⟩ := scrub_n j hC (B := B) (by omega)
      have hR1 := hR.fr g4
      obtain ⟨aq, k1, k2, k3, k4⟩ := g5 _ hR1
      have e1 := ev_X5_scrub_k (n := j) (by omega) (by rw [g1, hC.2.1.2]; exact (c0_iff (by omega)).mpr (by omega)) g2
      have e2 := ev_X6_scrub_k (n := j) (by omega) (by rw [k1, hR1.1.1.1]; exact fun z => by have := (d0_iff (by omega)).mp z; omega) k2
      rw [g1] at e1
      rw [k1] at e2
      exact St.go e1 e2 rfl g3 k3 (by omega) k4
  · exact St.same hI (ev_X5_scrub_o hg) (ev_X6_scrub_o hg) rfl
theorem Inv.lk {σ : r_Sg} {B : Nat} (h : Inv σ B) : σ 10 4 = σ 32 0 ∧ σ 10 5 = σ 32 1 ∧ σ 10 8 = σ 32 2 ∧ σ 10 9 = σ 32 3 ∧ σ 10 6 = σ 32 4 ∧ σ 10 7 = σ 32 5 := by
  rcases h with hN | ⟨d, c, sb, fr, nr, tc, nx, hC, hR⟩
  · exact hN.2.2.2.2.2.2.2.2.2.2.2
  · exact hR.2.2.2.2.2.2.1.2
theorem st_look {σ : r_Sg} {B : Nat} (hI : Inv σ B) (n : Int32) : St MX5_look MX6_look [.int n] σ B := by
  by_cases hg : 0 ≤ n ∧ n ≤ 5
  · obtain ⟨j, hj, rfl⟩ := r_nat (w := 6) ((r_le1 (w := 6) (by omega)).mp hg) (by omega)
    obtain ⟨l0, l1, l2, l3, l4, l5⟩ := hI.lk
    rcases (show j = 0 ∨ j = 1 ∨ j = 2 ∨ j = 3 ∨ j = 4 ∨ j = 5 by omega) with rfl | rfl | rfl | rfl | rfl | rfl
    · exact St.same hI ev_X5_look_0 (ev_X6_look_k (n := 0) (by omega)) l0.symm
    · exact St.same hI ev_X5_look_1 (ev_X6_look_k (n := 1) (by omega)) l1.symm
    · exact St.same hI ev_X5_look_2 (ev_X6_look_k (n := 2) (by omega)) l2.symm
    · exact St.same hI ev_X5_look_3 (ev_X6_look_k (n := 3) (by omega)) l3.symm
    · exact St.same hI ev_X5_look_4 (ev_X6_look_k (n := 4) (by omega)) l4.symm
    · exact St.same hI ev_X5_look_5 (ev_X6_look_k (n := 5) (by omega)) l5.symm
  · exact St.same hI (ev_X5_look_o hg) (ev_X6_look_o hg) rfl
theorem st_marks {σ : r_Sg} {B : Nat} (hI : Inv σ B) (f v q : Int32) : St MX5_marks MX6_marks [.int f, .int v, .int q] σ B := by
  have hI0 := hI
  rcases hI with hN | ⟨d, c, sb, fr, nr, tc, nx, hC, hR⟩
  · exact St.same hI0 (ev_X5_marks_u (fun z => by have := z.2.2.1; rw [hN.2.1] at this; exact absurd this (by decide))) (ev_X6_marks_u (fun z => z.1 hN.2.2.1)) rfl
  · have hc := r_ok_c hC.1
    have s5 : 0 < σ 1 4 := by rw [hC.2.1.2]; exact (c0_iff (by omega)).mpr (by omega)
    have s6 : ¬ σ 19 0 = 0 := by rw [hR.1.1.1]; exact fun z => by have := (d0_iff (by omega)).mp z; omega
    have ew : σ 1 3 + σ 1 4 = nI (d + c) := by rw [hC.2.1.1, hC.2.1.2, nI_add]
    have ew' : σ 19 0 + σ 19 1 = nI (d + c) := by rw [hR.1.1.1, hR.1.1.2, nI_add]
    have i5 : ∀ x : Int32, (0 ≤ x ∧ x ≤ 5) ↔ (0 ≤ x ∧ x < 6) := fun x => r_le1 (w := 6) (by omega)
    by_cases hg : (0 ≤ f ∧ f < 6) ∧ (0 ≤ v ∧ v < 4) ∧ 0 < σ 1 4 ∧ 0 ≤ q ∧ q ≤ σ 1 3 + σ 1 4
    · obtain ⟨g1, g2, -, g3⟩ := hg
      obtain ⟨i, hi, rfl⟩ := r_nat (w := 6) g1 (by omega)
      obtain ⟨j, hj, rfl⟩ := i4.mp g2
      have g4 := g3
      rw [ew] at g4
      have e3 : (0 ≤ q ∧ q ≤ nI (d + c)) ↔ (0 ≤ q ∧ q < nI (d + c + 1)) := by
        have := r_le1 (b := q) (w := d + c + 1) (by omega)
        rwa [show nI (d + c + 1) - 1 = nI (d + c) by rw [show (1 : Int32) = nI 1 from rfl, pk_sub (by omega)]; rfl] at this
      obtain ⟨k, hk, rfl⟩ := r_nat (e3.mp g4) (by omega)
      exact St.same hI0 (ev_X5_marks_k hi hj (by omega) ⟨s5, g3⟩) (ev_X6_marks_k hi hj (by omega) s6 (by rw [ew']; exact g4)) (hR.2.2.1 (4 * i + j) (by omega) k (by omega)).2.2
    · exact St.same hI0 (ev_X5_marks_u hg) (ev_X6_marks_u (fun z => hg ⟨(i5 f).mp z.2.1, i4.mpr (i3.mp z.2.2.1), s5, by rw [ew]; rw [ew'] at z; exact z.2.2.2⟩)) rfl
theorem bu_eq {σ α : r_Sg} (h : RCb σ α) {w : Nat} {sb : Option Nat} (hw : w ≤ 20) (hs : ∀ b, sb = some b → b < w) {fr : Nat → Nat} (hf : ∀ p, p < 4 → fr p < 6) : ∀ n, n ≤ 4 → m_bu α w sb fr n = c_bu σ w sb fr n
  | 0, _ => rfl
  | n + 1, hn => by simp only [m_bu, c_bu]; rw [bu_eq h hw hs hf n (by omega), bad_eq h hw hs (hf n (by omega)) 4 (by omega)]
theorem su_eq {σ α : r_Sg} (h : RCb σ α) {w : Nat} {sb : Option Nat} (hw : w ≤ 20) (hs : ∀ b, sb = some b → b < w) {fr : Nat → Nat} (hf : ∀ p, p < 4 → fr p < 6) : ∀ n, n ≤ 4 → m_su α w sb fr n = c_su σ w sb fr n
  | 0, _ => rfl
  | n + 1, hn => by simp only [m_su, c_su]; rw [su_eq h hw hs hf n (by omega), stuck_eq h hw hs (hf n (by omega)) 4 (by omega)]
theorem i10 {n : Int32} (hg : 0 ≤ n ∧ n ≤ 9) : n = 0 ∨ n = 1 ∨ n = 2 ∨ n = 3 ∨ n = 4 ∨ n = 5 ∨ n = 6 ∨ n = 7 ∨ n = 8 ∨ n = 9 := by
  obtain ⟨j, hj, rfl⟩ := r_nat (w := 10) ((r_le1 (w := 10) (by omega)).mp hg) (by omega)
  have key : ∀ j, j < 10 → (nI j = 0 ∨ nI j = 1 ∨ nI j = 2 ∨ nI j = 3 ∨ nI j = 4 ∨ nI j = 5 ∨ nI j = 6 ∨ nI j = 7 ∨ nI j = 8 ∨ nI j = 9) := by decide
  exact key j hj
theorem st_many {σ : r_Sg} {B : Nat} (hI : Inv σ B) (n : Int32) : St MX5_many MX6_many [.int n] σ B := by
  by_cases hg : 0 ≤ n ∧ n ≤ 9
  · have hI0 := hI
    rcases hI with hN | ⟨d, c, sb, fr, nr, tc, nx, hC, hR⟩
    · have a5 := ev_X5_many_n (σ := σ) hg (by rw [hN.2.1]; decide)
      obtain ⟨n1, n2, n3, n4, n5, n6, n7, n8, n9, n10, n11, n12⟩ := hN
      rcases i10 hg with rfl | rfl | rfl | rfl | rfl | rfl | rfl | rfl | rfl | rfl
      · exact St.same hI0 a5 (ev_X6_many_n0 n3 n9 n10 n11) rfl
      · exact St.same hI0 a5 (ev_X6_many_n1 n3 n9 n10 n11) rfl
      · exact St.same hI0 a5 (ev_X6_many_n2 n3 n9 n10 n11) rfl
      · exact St.same hI0 a5 (ev_X6_many_n3 n3 n9 n10 n11) rfl
      · exact St.same hI0 a5 (ev_X6_many_n4 n3 n9 n10 n11) rfl
      · exact St.same hI0 a5 (ev_X6_many_n5 n3 n9 n10 n11) rfl
      · exact St.same hI0 a5 (ev_X6_many_n6 n3 n9 n10 n11) rfl
      · exact St.same hI0 a5 (ev_X6_many_n7 n3 n9 n10 n11) rfl
      · exact St.same hI0 a5 (ev_X6_many_n8 n3 n9 n10 n11) rfl
      · exact St.same hI0 a5 (ev_X6_many_n9 n3 n9 n10 n11) rfl
    · have hc := r_ok_c hC.1
      have s5 : 0 < σ 1 4 := by rw [hC.2.1.2]; exact (c0_iff (by omega)).mpr (by omega)
      have s6 : 0 < σ 19 0 := by rw [hR.1.1.1]; exact (c0_iff (by omega)).mpr (by omega)
      have hBH := hC.2.2.2.2.1
      have hw := hBH.2.1
      have hs := hBH.2.2.2.2.1
      have hf : ∀ p, p < 4 → fr p < 6 := fun p hp => (hBH.2.2.2.2.2.1 p hp).2
      have h5 := hC.2.2.2.2.2.2.1
      have h16 := hR.2.2.2.2.2.2.2
      have l0 := hR.2.2.2.2.2.2.1.1 0 (by omega)
      have l1 := hR.2.2.2.2.2.2.1.1 1 (by omega)
      have l2 := hR.2.2.2.2.2.2.1.1 2 (by omega)
      rcases i10 hg with rfl | rfl | rfl | rfl | rfl | rfl | rfl | rfl | rfl | rfl
      · exact St.same hI0 (ev_X5_many_0 hBH s5) (ev_X6_many_0 hR.2.1 s6 h16 h5.2.2) (by rw [l0, l1, l2])
      · exact St.same hI0 (ev_X5_many_1 hBH s5) (ev_X6_many_1 hR.2.1 s6 h16 h5.2.2) l0.symm
      · exact St.same hI0 (ev_X5_many_2 hBH s5) (ev_X6_many_2 hR.2.1 s6 h16 h5.2.2) l1.symm
      · exact St.same hI0 (ev_X5_many_3 hBH s5) (ev_X6_many_3 hR.2.1 s6 h16 h5.2.2) l2.symm
      · exact St.same hI0 (ev_X5_many_4 hBH s5) (ev_X6_many_4 hR.2.1 s6 h16 h5.2.2) (bu_eq hR.2.2.1 hw hs hf 4 (by omega))
      · exact St.same hI0 (ev_X5_many_5 hBH s5) (ev_X6_many_5 hR.2.1 s6 h16 h5.2.2) (su_eq hR.2.2.1 hw hs hf 4 (by omega))
      · exact St.same hI0 (ev_X5_many_6 hBH s5) (ev_X6_many_6 hR.2.1 s6 h16 h5.2.2) rfl
      · exact St.same hI0 (ev_X5_many_7 hBH s5) (ev_X6_many_7 hR.2.1 s6 h16 h5.2.2) rfl
      · exact St.same hI0 (ev_X5_many_8 hBH s5) (ev_X6_many_8 hR.2.1 s6 h16 h5.2.2) h5.1.symm
      · exact St.same hI0 (ev_X5_many_9 hBH s5) (ev_X6_many_9 hR.2.1 s6 h16 h5.2.2) h5.2.1.symm
  · exact St.same hI (ev_X5_many_o hg) (ev_X6_many_o hg) rfl
