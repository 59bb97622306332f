/-! each call on both sides: the same answer, and what holds between the calls holds again -/
def St (M5 M6 : r_M) (as : List Value) (σ : r_Sg) (B : Nat) : Prop := ∃ (h1 h2 : Nat) (x : Int32) (σ1 σ2 : r_Sg), h1 ≤ 7 ∧ h2 ≤ 7 ∧ Ev h1 M5 (.ref 0 :: as) σ (some (.int x)) σ1 ∧ Ev h2 M6 (.ref 19 :: as) σ1 (some (.int x)) σ2 ∧ Inv σ2 (B + 64)
theorem Inv.up {σ : r_Sg} {B B' : Nat} (h : Inv σ B) (hB : B ≤ B') : Inv σ B' := by
  rcases h with h | ⟨d, c, sb, fr, nr, tc, nx, h1, h2⟩
  · exact Or.inl h
  · exact Or.inr ⟨d, c, sb, fr, nr, tc, nx, h1, h2.grow hB⟩
theorem St.same {M5 M6 : r_M} {as : List Value} {σ : r_Sg} {B h1 h2 : Nat} {x y : Int32} (hI : Inv σ B) (e1 : Ev h1 M5 (.ref 0 :: as) σ (some (.int x)) σ) (e2 : Ev h2 M6 (.ref 19 :: as) σ (some (.int y)) σ) (hxy : y = x) (g1 : h1 ≤ 7 := by decide) (g2 : h2 ≤ 7 := by decide) : St M5 M6 as σ B := by
  subst hxy
  exact ⟨h1, h2, y, σ, σ, g1, g2, e1, e2, hI.up (by omega)⟩
theorem Inv.of {σ1 σ2 : r_Sg} {d c : Nat} {sb : Option Nat} {fr : Nat → Nat} {nr tc nx B : Nat} (hC : CI σ1 d c sb fr nr tc nx) (hR : RC σ1 σ2 d c sb fr nr tc nx B) (f : ∀ q, q < 19 → σ2 q = σ1 q) : Inv σ2 B :=
  Or.inr ⟨d, c, sb, fr, nr, tc, nx, hC.congr f, hR.congr f (fun _ _ => rfl)⟩
theorem c0_iff {c : Nat} (hc : c < 2 ^ 31) : 0 < nI c ↔ ¬ c = 0 := by
  rw [show (0 : Int32) = nI 0 from nI_0.symm, nI_ltI (by omega) hc]; omega
theorem d0_iff {d : Nat} (hd : d < 2 ^ 31) : nI d = 0 ↔ d = 0 := nI_eq (b := 0) hd (by omega)
/-- what both sides have of the code -/
theorem Inv.cd {σ : r_Sg} {B : Nat} (h : Inv σ B) : ∃ d c, σ 1 3 = nI d ∧ σ 1 4 = nI c ∧ σ 19 0 = nI d ∧ σ 19 1 = nI c ∧ d + c ≤ 20 ∧ c ≤ 6 ∧ (d = 0 ↔ c = 0) ∧ (∀ j, j < d + c → σ 2 j = nI (r_CO c d j) ∧ σ 20 j = nI (r_CO c d j)) ∧ (∀ i, i < c → σ 3 i = σ 21 i) ∧ (¬ c = 0 → r_ok d c ∧ ∀ y, y < 64 → σ 4 y = r_BF c d c y) := by
  rcases h with ⟨h1, h2, h3, h4, -⟩ | ⟨d, c, sb, fr, nr, tc, nx, hC, hR⟩
  · exact ⟨0, 0, h1, h2, h3, h4, by omega, by omega, by omega, fun j hj => by omega, fun i hi => by omega, fun z => absurd rfl z⟩
  · have hc := r_ok_c hC.1
    exact ⟨d, c, hC.2.1.1, hC.2.1.2, hR.1.1.1, hR.1.1.2, by omega, by omega, by omega, fun j hj => ⟨hC.2.2.1 j hj, hR.1.2.1 j hj⟩, fun i hi => hR.1.2.2 i (by omega), fun _ => ⟨hC.1, hC.2.2.2.1⟩⟩
theorem st_column {σ : r_Sg} {B : Nat} (hI : Inv σ B) (b : Int32) : St MX5_column MX6_column [.int b] σ B := by
  obtain ⟨d, c, h1, h2, h3, h4, h5, h6, h7, h8, h9, h10⟩ := hI.cd
  refine St.same hI (ev_X5_column (w := d + c) (by rw [h1, h2, nI_add]) h5) (ev_X6_column (w := d + c) (by rw [h3, h4, nI_add]) h5) ?_
  by_cases hg : 0 ≤ b ∧ b < nI (d + c)
  · rw [if_pos hg, if_pos hg]
    obtain ⟨j, hj, rfl⟩ := r_nat hg (by omega)
    rw [nI_clamp (by omega), (h8 j hj).1, (h8 j hj).2]
  · rw [if_neg hg, if_neg hg]
theorem st_ones {σ : r_Sg} {B : Nat} (hI : Inv σ B) (b : Int32) : St MX5_ones MX6_ones [.int b] σ B := by
  obtain ⟨d, c, h1, h2, h3, h4, h5, h6, h7, h8, h9, h10⟩ := hI.cd
  refine St.same hI (ev_X5_ones h2 h6) (ev_X6_ones h4 h6) ?_
  by_cases hg : 0 ≤ b ∧ b < nI c
  · rw [if_pos hg, if_pos hg]
    obtain ⟨j, hj, rfl⟩ := r_nat hg (by omega)
    rw [nI_clamp (by omega), h9 j hj]
  · rw [if_neg hg, if_neg hg]
theorem syn_same {σ : r_Sg} {d c : Nat} (h : ∀ j, j < d + c → σ 2 j = nI (r_CO c d j) ∧ σ 20 j = nI (r_CO c d j)) (v : Int32) : r_syn (σ 20) v (d + c) = r_syn (σ 2) v (d + c) := by
  rw [syn_n v (fun j hj => (h j hj).1), syn_n v (fun j hj => (h j hj).2)]
theorem st_word {σ : r_Sg} {B : Nat} (hI : Inv σ B) (v : Int32) : St MX5_word MX6_word [.int v] σ B := by
  obtain ⟨d, c, h1, h2, h3, h4, h5, h6, h7, h8, h9, h10⟩ := hI.cd
  refine St.same hI (ev_X5_word (w := d + c) (by rw [h1, h2, nI_add]) h5) (ev_X6_word (w := d + c) (by rw [h3, h4, nI_add]) h5) ?_
  rw [h1, h2, h3, syn_same h8]
  by_cases hc : c = 0
  · rw [if_pos ((d0_iff (by omega)).mpr (h7.mpr hc)), if_neg (fun z => (c0_iff (by omega)).mp z hc)]
  · rw [if_neg (fun z => hc (h7.mp ((d0_iff (by omega)).mp z))), if_pos ((c0_iff (by omega)).mpr hc)]
    simp only [val_iff (show d ≤ 20 by omega)]
theorem st_syndrome {σ : r_Sg} {B : Nat} (hI : Inv σ B) (v : Int32) : St MX5_syndrome MX6_syndrome [.int v] σ B := by
  obtain ⟨d, c, h1, h2, h3, h4, h5, h6, h7, h8, h9, h10⟩ := hI.cd
  refine St.same hI (ev_X5_syndrome (w := d + c) (by rw [h1, h2, nI_add]) h5) (ev_X6_syndrome (w := d + c) (by rw [h3, h4, nI_add]) h5) ?_
  rw [h1, h2, h3, h4, syn_same h8]
  by_cases hc : c = 0
  · rw [if_pos ((d0_iff (by omega)).mpr (h7.mpr hc)), if_neg (fun z => (c0_iff (by omega)).mp z hc)]
  · rw [if_neg (fun z => hc (h7.mp ((d0_iff (by omega)).mp z))), if_pos ((c0_iff (by omega)).mpr hc)]
theorem syn64 {σ : r_Sg} {d c : Nat} (hz : d = 0 ↔ c = 0) (h : ∀ j, j < d + c → σ 2 j = nI (r_CO c d j) ∧ σ 20 j = nI (r_CO c d j)) (hok : ¬ c = 0 → r_ok d c) (v : Int32) : ∃ y, y < 64 ∧ r_syn (σ 2) v (d + c) = nI y := by
  by_cases hc : c = 0
  · subst hc
    have hd := hz.mpr rfl
    subst hd
    exact ⟨0, by omega, rfl⟩
  · exact ⟨_, n_syn_lt (k := 6) v (fun j hj => (co_lt (hok hc) hj).2.2), syn_n v (fun j hj => (h j hj).1)⟩
theorem st_mended {σ : r_Sg} {B : Nat} (hI : Inv σ B) (v : Int32) : St MX5_mended MX6_mended [.int v] σ B := by
  obtain ⟨d, c, h1, h2, h3, h4, h5, h6, h7, h8, h9, h10⟩ := hI.cd
  refine St.same hI (ev_X5_mended (w := d + c) (by rw [h1, h2, nI_add]) h5 (syn64 h7 h8 (fun z => (h10 z).1))) (ev_X6_mended (w := d + c) (by rw [h3, h4, nI_add]) h5) ?_
  rw [h1, h2, h3, h4, syn_same h8]
  by_cases hc : c = 0
  · rw [if_pos ((d0_iff (by omega)).mpr (h7.mpr hc)), if_neg (fun z => (c0_iff (by omega)).mp z hc)]
  · rw [if_neg (fun z => hc (h7.mp ((d0_iff (by omega)).mp z))), if_pos ((c0_iff (by omega)).mpr hc)]
    obtain ⟨y, hy, e⟩ := syn64 h7 h8 (fun z => (h10 z).1) v
    rw [e, men_eq (h10 hc).1 (h10 hc).2 (fun j hj => (h8 j hj).2) v hy]
theorem st_weight {σ : r_Sg} {B : Nat} (hI : Inv σ B) : St MX5_weight MX6_weight [] σ B := by
  obtain ⟨d, c, h1, h2, h3, h4, h5, h6, h7, h8, h9, h10⟩ := hI.cd
  refine St.same hI (ev_X5_weight h2 h6) (ev_X6_weight h4 h6) ?_
  have e : r_sum (σ 21) c = r_sum (σ 3) c := by
    have key : ∀ n, n ≤ c → r_sum (σ 21) n = r_sum (σ 3) n := by
      intro n
      induction n with
      | zero => intro _; rfl
      | succ n ih => intro hn; simp only [r_sum]; rw [ih (by omega), h9 n (by omega)]
    exact key c (Nat.le_refl c)
  rw [h2, h3, e]
  by_cases hc : c = 0
  · rw [if_pos ((d0_iff (by omega)).mpr (h7.mpr hc)), if_neg (fun z => (c0_iff (by omega)).mp z hc)]
  · rw [if_neg (fun z => hc (h7.mp ((d0_iff (by omega)).mp z))), if_pos ((c0_iff (by omega)).mpr hc)]
-- numbers that are places
theorem i4 {p : Int32} : (0 ≤ p ∧ p < 4) ↔ ∃ j, j < 4 ∧ p = nI j := ⟨fun h => r_nat (w := 4) h (by omega), fun ⟨j, hj, e⟩ => by rw [e]; exact r_in4 hj⟩
theorem i3 {p : Int32} : (0 ≤ p ∧ p ≤ 3) ↔ ∃ j, j < 4 ∧ p = nI j := by
  rw [← i4]
  exact r_le1 (w := 4) (by omega)
theorem st_frame {σ : r_Sg} {B : Nat} (hI : Inv σ B) (p : Int32) : St MX5_frame MX6_frame [.int p] σ B := by
  rcases hI with hN | ⟨d, c, sb, fr, nr, tc, nx, hC, hR⟩
  · exact St.same (Or.inl hN) (ev_X5_frame_u (by rw [hN.2.1]; exact fun z => absurd z.1 (by decide))) (ev_X6_frame_u (by rw [hN.2.2.1]; exact fun z => absurd z.1 (by decide))) rfl
  · have hc := r_ok_c hC.1
    have s5 : 0 < σ 1 4 := by rw [hC.2.1.2]; exact (c0_iff (by omega)).mpr (by omega)
    have s6 : 0 < σ 19 0 := by rw [hR.1.1.1]; exact (c0_iff (by omega)).mpr (by omega)
    by_cases hp : ∃ j, j < 4 ∧ p = nI j
    · obtain ⟨j, hj, rfl⟩ := hp
      exact St.same (Or.inr ⟨d, c, sb, fr, nr, tc, nx, hC, hR⟩) (ev_X5_frame_k s5 hj) (ev_X6_frame_k s6 hj) (by rw [(hR.2.1.2.2.2.2.1 j hj).1, (hC.2.2.2.2.1.2.2.2.2.2.1 j hj).1])
    · exact St.same (Or.inr ⟨d, c, sb, fr, nr, tc, nx, hC, hR⟩) (ev_X5_frame_u (fun z => hp (i4.mp z.2))) (ev_X6_frame_u (fun z => hp (i3.mp z.2))) rfl
theorem st_mends {σ : r_Sg} {B : Nat} (hI : Inv σ B) (p : Int32) : St MX5_mends MX6_mends [.int p] σ B := by
  rcases hI with hN | ⟨d, c, sb, fr, nr, tc, nx, hC, hR⟩
  · exact St.same (Or.inl hN) (ev_X5_mends_u (by rw [hN.2.1]; exact fun z => absurd z.1 (by decide))) (ev_X6_mends_u (by rw [hN.2.2.1]; exact fun z => absurd z.1 (by decide))) rfl
  · have hc := r_ok_c hC.1
    have s5 : 0 < σ 1 4 := by rw [hC.2.1.2]; exact (c0_iff (by omega)).mpr (by omega)
    have s6 : 0 < σ 19 0 := by rw [hR.1.1.1]; exact (c0_iff (by omega)).mpr (by omega)
    by_cases hp : ∃ j, j < 4 ∧ p = nI j
    · obtain ⟨j, hj, rfl⟩ := hp
      obtain ⟨mn, hm, -⟩ := hR.2.2.2.2.1.1
      exact St.same (Or.inr ⟨d, c, sb, fr, nr, tc, nx, hC, hR⟩) (ev_X5_mends_k s5 hj) (ev_X6_mends_k s6 hj) (by rw [(hm j hj).1, (hm j hj).2.1])
    · exact St.same (Or.inr ⟨d, c, sb, fr, nr, tc, nx, hC, hR⟩) (ev_X5_mends_u (fun z => hp (i4.mp z.2))) (ev_X6_mends_u (fun z => hp (i3.mp z.2))) rfl
theorem bits_iff {d c : Nat} {b : Int32} (h : d + c ≤ 20) : (0 ≤ b ∧ b ≤ nI d + nI c - 1) ↔ (0 ≤ b ∧ b < nI d + nI c) := by rw [nI_add]; exact r_le1 (by omega)
theorem st_place {σ : r_Sg} {B : Nat} (hI : Inv σ B) (b : Int32) : St MX5_place MX6_place [.int b] σ B := by
  have hI0 := hI
  obtain ⟨d', c', h1, h2, h3, h4, h5, h6, h7, h8, h9, h10⟩ := hI.cd
  by_cases hg : 0 ≤ b ∧ b < σ 1 3 + σ 1 4
  · rcases hI with hN | ⟨d, c, sb, fr, nr, tc, nx, hC, hR⟩
    · rw [hN.1, hN.2.1] at hg
      exfalso
      have e : (0 : Int32) + 0 = 0 := rfl
      rw [e, Int32.le_iff_toInt_le, Int32.lt_iff_toInt_lt] at hg
      omega
    · have hg' := hg
      rw [hC.2.1.1, hC.2.1.2, nI_add] at hg
      have hc := r_ok_c hC.1
      obtain ⟨j, hj, rfl⟩ := r_nat hg (by omega)
      exact St.same hI0 (ev_X5_place_k hC.2.2.2.2.1 hg' hj) (ev_X6_place_k hR.2.1 (by rw [hR.1.1.1, hR.1.1.2]; exact (bits_iff (by omega)).mpr (by rw [nI_add]; exact hg)) hj) rfl
  · exact St.same hI0 (ev_X5_place_u hg) (ev_X6_place_u (fun z => hg (by rw [h3, h4] at z; rw [h1, h2]; exact (bits_iff h5).mp z))) rfl
theorem st_retired {σ : r_Sg} {B : Nat} (hI : Inv σ B) (b : Int32) : St MX5_retired MX6_retired [.int b] σ B := by
  rcases hI with hN | ⟨d, c, sb, fr, nr, tc, nx, hC, hR⟩
  · refine St.same (Or.inl hN) (ev_X5_retired (n := 0) hN.2.2.2.2.1 (by omega)) (ev_X6_retired (n := 0) hN.2.2.2.2.2.1 (by omega)) ?_
    have hg : ¬ (0 ≤ b ∧ b < nI 0) := fun z => absurd (r_nat z (by omega)) (fun ⟨j, hj, _⟩ => by omega)
    rw [if_neg hg, if_neg hg]
  · refine St.same (Or.inr ⟨d, c, sb, fr, nr, tc, nx, hC, hR⟩) (ev_X5_retired hC.2.2.2.2.1.2.2.2.2.2.2.1 hC.2.2.2.2.1.2.2.2.2.2.2.2) (ev_X6_retired hR.2.1.2.2.2.2.2.1 hR.2.1.2.2.2.2.2.2.1) ?_
    have hnr := hR.2.1.2.2.2.2.2.2.1
    by_cases hg : 0 ≤ b ∧ b < nI nr
    · rw [if_pos hg, if_pos hg]
      obtain ⟨j, hj, rfl⟩ := r_nat hg (by omega)
      rw [nI_clamp (by omega), hR.2.2.2.2.2.1 j hj]
    · rw [if_neg hg, if_neg hg]
theorem st_troubled {σ : r_Sg} {B : Nat} (hI : Inv σ B) (b : Int32) : St MX5_troubled MX6_troubled [.int b] σ B := by
  rcases hI with hN | ⟨d, c, sb, fr, nr, tc, nx, hC, hR⟩
  · refine St.same (Or.inl hN) (ev_X5_troubled (n := 0) hN.2.2.2.2.2.2.1 (by omega)) (ev_X6_troubled (n := 0) hN.2.2.2.2.2.2.2.1 (by omega)) ?_
    have hg : ¬ (0 ≤ b ∧ b < nI 0) := fun z => absurd (r_nat z (by omega)) (fun ⟨j, hj, _⟩ => by omega)
    rw [if_neg hg, if_neg hg]
  · have htc := hC.2.2.2.2.2.1
    refine St.same (Or.inr ⟨d, c, sb, fr, nr, tc, nx, hC, hR⟩) (ev_X5_troubled htc.1 htc.2) (ev_X6_troubled hR.2.2.2.2.1.2.1 htc.2) ?_
    by_cases hg : 0 ≤ b ∧ b < nI tc
    · rw [if_pos hg, if_pos hg]
      obtain ⟨j, hj, rfl⟩ := r_nat hg (by omega)
      rw [nI_clamp (by omega), hR.2.2.2.2.1.2.2 j hj]
    · rw [if_neg hg, if_neg hg]
