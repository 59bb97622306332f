/-! the calls that change something -/
theorem St.go {M5 M6 : r_M} {as : List Value} {σ σ1 σ2 : r_Sg} {B h1 h2 : Nat} {x y : Int32} {d c : Nat} {sb : Option Nat} {fr : Nat → Nat} {nr tc nx B' : Nat} (e1 : Ev h1 M5 (.ref 0 :: as) σ (some (.int x)) σ1) (e2 : Ev h2 M6 (.ref 19 :: as) σ1 (some (.int y)) σ2) (hxy : y = x) (hC : CI σ1 d c sb fr nr tc nx) (hR : RC σ1 σ2 d c sb fr nr tc nx B') (hB : B' ≤ B + 64) (f : ∀ q, q < 19 → σ2 q = σ1 q) (g1 : h1 ≤ 7 := by decide) (g2 : h2 ≤ 7 := by decide) : St M5 M6 as σ B := by
  subst hxy
  exact ⟨h1, h2, y, σ1, σ2, g1, g2, e1, e2, (Inv.of hC hR f).up hB⟩
theorem RC.fr {σ σ1 : r_Sg} {d c : Nat} {sb : Option Nat} {fr : Nat → Nat} {nr tc nx B : Nat} (h : RC σ σ d c sb fr nr tc nx B) (f : ∀ q, 19 ≤ q → σ1 q = σ q) : RC σ σ1 d c sb fr nr tc nx B := h.congr (fun _ _ => rfl) f
/-- a page and a word that are there, on both sides -/
theorem wd {σ : r_Sg} {B : Nat} (hI : Inv σ B) (p v : Int32) : (¬ ((0 < σ 1 4 ∧ 0 ≤ p ∧ p < 4) ∧ 0 ≤ v ∧ v < 4) ∧ ¬ (0 < σ 19 0 ∧ (0 ≤ p ∧ p ≤ 3) ∧ 0 ≤ v ∧ v ≤ 3)) ∨ ∃ d c sb fr nr tc nx i j, CI σ d c sb fr nr tc nx ∧ RC σ σ d c sb fr nr tc nx B ∧ i < 4 ∧ j < 4 ∧ p = nI i ∧ v = nI j ∧ 0 < σ 1 4 ∧ 0 < σ 19 0 := by
  rcases hI with hN | ⟨d, c, sb, fr, nr, tc, nx, hC, hR⟩
  · left
    exact ⟨fun z => by rw [hN.2.1] at z; exact absurd z.1.1 (by decide), fun z => by rw [hN.2.2.1] at z; exact absurd z.1 (by decide)⟩
  · have hc := r_ok_c hC.1
    have s5 : 0 < σ 1 4 := by rw [hC.2.1.2]; exact (c0_iff (by omega)).mpr (by omega)
    have s6 : 0 < σ 19 0 := by rw [hR.1.1.1]; exact (c0_iff (by omega)).mpr (by omega)
    by_cases hp : ∃ j, j < 4 ∧ p = nI j
    · by_cases hv : ∃ j, j < 4 ∧ v = nI j
      · obtain ⟨i, hi, rfl⟩ := hp
        obtain ⟨j, hj, rfl⟩ := hv
        exact Or.inr ⟨d, c, sb, fr, nr, tc, nx, i, j, hC, hR, hi, hj, rfl, rfl, s5, s6⟩
      · exact Or.inl ⟨fun z => hv (i4.mp z.2), fun z => hv (i3.mp z.2.2)⟩
    · exact Or.inl ⟨fun z => hp (i4.mp z.1.2), fun z => hp (i3.mp z.2.1)⟩
theorem st_raw {σ : r_Sg} {B : Nat} (hI : Inv σ B) (p v : Int32) : St MX5_raw MX6_raw [.int p, .int v] σ B := by
  rcases wd hI p v with ⟨g5, g6⟩ | ⟨d, c, sb, fr, nr, tc, nx, i, j, hC, hR, hi, hj, rfl, rfl, s5, s6⟩
  · exact St.same hI (ev_X5_raw_u g5) (ev_X6_raw_u g6) rfl
  · exact St.same hI (ev_X5_raw_k hC.2.2.2.2.1 s5 hi hj) (ev_X6_raw_k hR.2.1 s6 hi hj) (mlook hC hR hi hj).1
theorem st_fate {σ : r_Sg} {B : Nat} (hI : Inv σ B) (p v a : Int32) : St MX5_fate MX6_fate [.int p, .int v, .int a] σ B := by
  rcases wd hI p v with ⟨g5, g6⟩ | ⟨d, c, sb, fr, nr, tc, nx, i, j, hC, hR, hi, hj, rfl, rfl, s5, s6⟩
  · exact St.same hI (ev_X5_fate_u g5) (ev_X6_fate_u g6) rfl
  · have e1 : σ 1 3 + σ 1 4 = σ 19 0 + σ 19 1 := by rw [hC.2.1.1, hC.2.1.2, hR.1.1.1, hR.1.1.2]
    have e2 : σ 1 3 = σ 19 0 := by rw [hC.2.1.1, hR.1.1.1]
    have hfr := (hC.2.2.2.2.1.2.2.2.2.2.1 i hi).2
    by_cases ha : 0 ≤ a ∧ a ≤ (1 <<< ((σ 1 3 + σ 1 4) &&& 31)) - 1
    · have hs : ∀ v, ∃ y, y < 64 ∧ r_syn (σ 2) v (d + c) = nI y := fun v => ⟨_, n_syn_lt (k := 6) v (fun j hj => (co_lt hC.1 hj).2.2), syn_n v hC.2.2.1⟩
      obtain ⟨m1, m2, m3, m4⟩ := mlook hC hR hi hj
      refine St.same hI (ev_X5_fate_k hC.2.2.2.2.1 s5 hi hj ha hs) (ev_X6_fate_k hR.2.1 s6 hi hj (by rw [← e1]; exact ha)) ?_
      rw [m1, m2, ← e2]
      obtain ⟨y, hy, e⟩ := hs (r_bo (d + c) sb (σ 7 (4 * fr i + j)) ^^^ a)
      rw [e, m3 _ y hy, hR.2.2.2.1 (4 * i + j) (by omega)]
    · exact St.same hI (ev_X5_fate_o s5 hi hj ha) (ev_X6_fate_o s6 hi hj (by rw [← e1]; exact ha)) rfl
theorem pb_15 (σ : r_Sg) (i : Nat) (a : Int32) (w : Nat) (sb : Option Nat) (R : Nat) (set : Int32) : c_pb (r_up σ 15 i a) w sb R set = r_up (c_pb σ w sb R set) 15 i a := by
  unfold c_pb
  rw [r_up_ne σ _ _ (show 7 ≠ 15 by decide), r_up_ne σ _ _ (show 8 ≠ 15 by decide)]
  funext q
  by_cases h7 : q = 7
  · subst h7; simp [r_up]
  · by_cases h15 : q = 15
    · subst h15; simp [r_up]
    · simp [r_up, h7, h15]
theorem RC.wr {σ α : r_Sg} {d c : Nat} {sb : Option Nat} {fr : Nat → Nat} {nr tc nx B : Nat} (h : RC σ α d c sb fr nr tc nx B) (k : Nat) (a : Int32) : RC (r_up σ 15 k a) (r_up α 27 k a) d c sb fr nr tc nx B := by
  obtain ⟨h1, h2, h3, h4, h5, h6, h7, h8⟩ := h
  refine ⟨h1, h2.to rfl rfl rfl rfl rfl rfl, h3.to rfl rfl rfl rfl rfl rfl, ?_, h5, h6, h7, h8⟩
  intro i hi
  have := h4 i hi
  by_cases hik : i = k
  · subst hik; simp [r_up, upd]
  · simp [r_up, upd, hik, this]
theorem CI.wr {σ : r_Sg} {d c : Nat} {sb : Option Nat} {fr : Nat → Nat} {nr tc nx : Nat} (h : CI σ d c sb fr nr tc nx) (k : Nat) (a : Int32) : CI (r_up σ 15 k a) d c sb fr nr tc nx := by
  obtain ⟨h1, h2, h3, h4, h5, h6, h7, h8⟩ := h
  exact ⟨h1, h2, h3, h4, h5.to rfl rfl rfl, h6, h7, h8⟩
theorem st_write {σ : r_Sg} {B : Nat} (hI : Inv σ B) (p v a : Int32) : St MX5_write MX6_write [.int p, .int v, .int a] σ B := by
  rcases wd hI p v with ⟨g5, g6⟩ | ⟨d, c, sb, fr, nr, tc, nx, i, j, hC, hR, hi, hj, rfl, rfl, s5, s6⟩
  · exact St.same hI (ev_X5_write_u g5) (ev_X6_write_u g6) rfl
  · have hc := r_ok_c hC.1
    have hfr := (hC.2.2.2.2.1.2.2.2.2.2.1 i hi).2
    by_cases ha : 0 ≤ a ∧ a < 1 <<< (σ 1 3 &&& 31)
    · have e1 := ev_X5_write_k hC.2.2.2.2.1 s5 hi hj ha
      have hR1 := hR.fr (σ1 := c_pb (r_up σ 15 (4 * i + j) a) (d + c) sb (4 * fr i + j) (a ||| (r_syn (σ 2) a (d + c) <<< (σ 1 3 &&& 31)))) (fun q hq => by rw [pb_fr _ _ _ _ _ hq, r_up_ne _ _ _ (by omega)])
      have hC1 : CI (c_pb (r_up σ 15 (4 * i + j) a) (d + c) sb (4 * fr i + j) (a ||| (r_syn (σ 2) a (d + c) <<< (σ 1 3 &&& 31)))) d c sb fr nr tc nx := pb_CI (hC.wr _ _) _ _ _ _
      rw [pb_15] at hR1 hC1 e1
      generalize hs1 : r_up (c_pb σ (d + c) sb (4 * fr i + j) (a ||| (r_syn (σ 2) a (d + c) <<< (σ 1 3 &&& 31)))) 15 (4 * i + j) a = σ1 at *
      have e190 : σ1 19 0 = nI d := hR1.1.1.1
      have ha' := ha
      rw [hC.2.1.1] at ha'
      have e2 := ev_X6_write_k (a := a) hR1.2.1 (by rw [e190]; exact (c0_iff (by omega)).mpr (by omega)) hi hj (by rw [e190]; exact (val_iff (by omega)).mpr ha')
      obtain ⟨m1, m2, m3, m4⟩ := mlook hC hR1 hi hj
      rw [m2, e190] at e2
      rw [hC.2.1.1] at hs1
      have hR2 := (pb_RC (R := 4 * fr i + j) hR1 (by omega) (word_bits hC.1 hC.2.2.1 ha')).wr (4 * i + j) a
      rw [hs1] at hR2
      exact St.go e1 e2 rfl hC1 hR2 (by omega) (fun q hq => by rw [r_up_ne _ _ _ (by omega), m_pu_o _ _ _ _ (by omega)])
    · refine St.same hI (ev_X5_write_o s5 hi hj ha) (ev_X6_write_o s6 hi hj (fun z => ha ?_)) rfl
      rw [hR.1.1.1] at z
      rw [hC.2.1.1]
      exact (val_iff (by omega)).mp z
theorem st_read {σ : r_Sg} {B : Nat} (hI : Inv σ B) (hB : B + 64 < 2 ^ 30) (p v : Int32) : St MX5_read MX6_read [.int p, .int v] σ B := by
  rcases wd hI p v with ⟨g5, g6⟩ | ⟨d, c, sb, fr, nr, tc, nx, i, j, hC, hR, hi, hj, rfl, rfl, s5, s6⟩
  · exact St.same hI (ev_X5_read_u g5) (ev_X6_read_u g6) rfl
  · have hBH := hC.2.2.2.2.1
    have hw := hBH.2.1
    have hs := hBH.2.2.2.2.1
    have hfr := (hBH.2.2.2.2.2.1 i hi).2
    have sbits := bo_bits hw hs (σ 7 (4 * fr i + j))
    rcases look3 hC (r_bo (d + c) sb (σ 7 (4 * fr i + j))) with hy | ⟨y, hy64, hy0, hy, hb⟩ | ⟨y, b, hy64, hy0, hy, hb, hbw⟩
    · have hR1 := hR.fr (σ1 := c_nl σ 0 (-9) (nI i) (nI j)) (fun q hq => nl_fr _ _ _ _ _ hq)
      obtain ⟨m1, m2, m3, m4⟩ := mlook hC hR1 hi hj
      have e190 : c_nl σ 0 (-9) (nI i) (nI j) 19 0 = σ 1 3 := by rw [hR1.1.1.1, hC.2.1.1]
      have s6' : 0 < c_nl σ 0 (-9) (nI i) (nI j) 19 0 := by rw [nl_fr _ _ _ _ _ (by omega)]; exact s6
      refine St.go (ev_X5_read_c hBH s5 hi hj hy (no_m5 hw sbits)) (ev_X6_read_c hR1.2.1 s6' hi hj (by rw [m1, m2, hy]; rfl) (by rw [m1]; exact no_m5 hw sbits)) ?_ (nl_CI hC _ _ _ _) (nl_RC hR1 (by omega) _ _ _) (by omega) (fun q hq => nl_fm _ _ _ _ _ hq)
      rw [m1, e190]
    · have hR1 := hR.fr (σ1 := c_nl σ 2 (-9) (nI i) (nI j)) (fun q hq => nl_fr _ _ _ _ _ hq)
      obtain ⟨m1, m2, m3, m4⟩ := mlook hC hR1 hi hj
      have s6' : 0 < c_nl σ 2 (-9) (nI i) (nI j) 19 0 := by rw [nl_fr _ _ _ _ _ (by omega)]; exact s6
      refine St.go (ev_X5_read_f hBH s5 hi hj hy hy64 hy0 hb) (ev_X6_read_f hR1.2.1 s6' hi hj ?_) rfl (nl_CI hC _ _ _ _) (nl_RC hR1 (by omega) _ _ _) (by omega) (fun q hq => nl_fm _ _ _ _ _ hq)
      rw [m1, m2, hy, m3 _ y hy64]
      simp only [r_men, nI_clamp (show y < 2 ^ 31 by omega), hb, if_neg (nI_ne0 hy0 (show y < 2 ^ 31 by omega)), if_true]
    · have htc := hC.2.2.2.2.2.1
      have hlc := lk_CI (v := j) hC hi hbw
      have hR1 := hR.fr (σ1 := c_lk σ (d + c) sb fr nr i j b tc) (fun q hq => lk_fr _ _ _ _ _ _ _ _ _ hq)
      have e1 := ev_X5_read_m hBH s5 hi hj hy hy64 hy0 hb hbw htc.1 htc.2 (no_m5 hw (xor_bits sbits (bm_bits hbw hw)))
      have hR2 := lk_RC hR1 (by omega) hi hj hbw
      have s6' : 0 < c_lk σ (d + c) sb fr nr i j b tc 19 0 := by rw [lk_fr _ _ _ _ _ _ _ _ _ (by omega)]; exact s6
      generalize c_lk σ (d + c) sb fr nr i j b tc = σ1 at *
      obtain ⟨m1, m2, m3, m4⟩ := mlook hC hR1 hi hj
      have e190 : σ1 19 0 = σ 1 3 := by rw [hR1.1.1.1, hC.2.1.1]
      have xb := xor_bits sbits (bm_bits hbw hw)
      have hbit : r_bit (σ1 20) (d + c) (r_syn (σ1 20) (r_rawF (fun b => σ1 22 (21 * (4 * fr i + j) + r_pl (d + c) sb b)) (d + c)) (d + c)) = nI b := by rw [m1, m2, hy, m4 y hy64, hb]
      have hmn := hR1.2.2.2.2.1
      have hev := ev_X6_read_m (mt := tc) hR1.2.1 s6' hi hj (by
        rw [m1, m2, hy, m3 _ y hy64]
        simp only [r_men, nI_clamp (show y < 2 ^ 31 by omega), hb, if_neg (nI_ne0 hy0 (show y < 2 ^ 31 by omega)), if_neg (r_nm9 (show b < 2 ^ 31 by omega))]
        rfl) (by rw [m1]; exact no_m5 hw xb) (ne_bm (by omega)) hbit hbw hmn.2.1 (fun z => by
          obtain ⟨⟨mn, hm1, hm2⟩, -⟩ := hmn
          have hq := hm1 i hi
          rw [hq.2.1] at z
          have z2 : mn i = 0 := (nI_eq (b := 0) (by omega) (by omega)).mp z
          rw [hm2]
          exact (p4_new hi).2 z2)
      rw [m1, e190] at hev
      exact St.go e1 hev rfl hlc hR2 (by omega) (fun q hq => by rw [mb_fm _ _ _ _ _ _ _ _ _ hq, nl_fm _ _ _ _ _ hq])
theorem RC.b {σ σ' α α' : r_Sg} {d c : Nat} {sb : Option Nat} {fr : Nat → Nat} {nr tc nx B : Nat} (h : RC σ α d c sb fr nr tc nx B) (hb : RCb σ' α') (e : ∀ q, q ≠ 7 → q ≠ 8 → q ≠ 9 → σ' q = σ q) (f : ∀ q, q ≠ 22 → q ≠ 23 → q ≠ 24 → α' q = α q) : RC σ' α' d c sb fr nr tc nx B := by
  obtain ⟨h1, h2, -, h4, h5, h6, h7, h8⟩ := h
  have f19 := f 19 (by decide) (by decide) (by decide)
  refine ⟨?_, h2.to (by rw [f19]) (by rw [f19]) (by rw [f19]) (by rw [f19]) (f 25 (by decide) (by decide) (by decide)) (f 26 (by decide) (by decide) (by decide)), hb, ?_, ?_, ?_, ?_, ?_⟩
  · unfold RD; rw [f19, f 20 (by decide) (by decide) (by decide), f 21 (by decide) (by decide) (by decide), e 3 (by decide) (by decide) (by decide)]; exact h1
  · unfold RW; rw [f 27 (by decide) (by decide) (by decide), e 15 (by decide) (by decide) (by decide)]; exact h4
  · unfold RLg; rw [f19, f 28 (by decide) (by decide) (by decide), f 29 (by decide) (by decide) (by decide), e 12 (by decide) (by decide) (by decide), e 13 (by decide) (by decide) (by decide)]; exact h5
  · unfold RT; rw [f 30 (by decide) (by decide) (by decide), e 16 (by decide) (by decide) (by decide)]; exact h6
  · unfold RK; rw [f 31 (by decide) (by decide) (by decide), f 32 (by decide) (by decide) (by decide), e 10 (by decide) (by decide) (by decide), e 11 (by decide) (by decide) (by decide)]; exact h7
  · rw [f19]; exact h8
theorem CI.b {σ σ' : r_Sg} {d c : Nat} {sb : Option Nat} {fr : Nat → Nat} {nr tc nx : Nat} (h : CI σ d c sb fr nr tc nx) (e : ∀ q, q ≠ 7 → q ≠ 8 → q ≠ 9 → σ' q = σ q) : CI σ' d c sb fr nr tc nx := by
  unfold CI TB r_BH at *
  rw [e 1 (by decide) (by decide) (by decide), e 2 (by decide) (by decide) (by decide), e 4 (by decide) (by decide) (by decide), e 5 (by decide) (by decide) (by decide), e 10 (by decide) (by decide) (by decide), e 14 (by decide) (by decide) (by decide), e 17 (by decide) (by decide) (by decide), e 18 (by decide) (by decide) (by decide)]
  exact h
theorem st_flip {σ : r_Sg} {B : Nat} (hI : Inv σ B) (p v a : Int32) : St MX5_flip MX6_flip [.int p, .int v, .int a] σ B := by
  rcases wd hI p v with ⟨g5, g6⟩ | ⟨d, c, sb, fr, nr, tc, nx, i, j, hC, hR, hi, hj, rfl, rfl, s5, s6⟩
  · exact St.same hI (ev_X5_flip_u g5) (ev_X6_flip_u g6) rfl
  · have e1 : σ 1 3 + σ 1 4 = nI (d + c) := by rw [hC.2.1.1, hC.2.1.2, nI_add]
    have e2 : ∀ σ1 : r_Sg, σ1 19 = σ 19 → σ1 19 0 + σ1 19 1 = σ 1 3 + σ 1 4 := fun σ1 h => by rw [h, hC.2.1.1, hC.2.1.2, hR.1.1.1, hR.1.1.2]
    have hBH := hC.2.2.2.2.1
    have hw := hBH.2.1
    have hs := hBH.2.2.2.2.1
    have hfr := (hBH.2.2.2.2.2.1 i hi).2
    by_cases ha : 0 ≤ a ∧ a ≤ (1 <<< ((σ 1 3 + σ 1 4) &&& 31)) - 1
    · have ha' := ha
      rw [e1] at ha'
      have hbits := set_bits hw ha'
      have e3 := ev_X5_flip_k hBH s5 hi hj ha
      have hf : ∀ q, 19 ≤ q → r_up σ 7 (4 * fr i + j) (σ 7 (4 * fr i + j) ^^^ (r_po (d + c) sb a &&& (σ 8 (4 * fr i + j) ^^^ -1))) q = σ q := fun q hq => r_up_ne _ _ _ (by omega)
      have hR1 := hR.fr hf
      have hC1 : CI (r_up σ 7 (4 * fr i + j) (σ 7 (4 * fr i + j) ^^^ (r_po (d + c) sb a &&& (σ 8 (4 * fr i + j) ^^^ -1)))) d c sb fr nr tc nx := hC.b (fun q h7 _ _ => r_up_ne _ _ _ h7)
      have hb := RCb_flip hR1.2.2.1 hw hs (R := 4 * fr i + j) (by omega) hbits
      have hct := flip_cnt hR1.2.2.1 hw hs (R := 4 * fr i + j) (by omega) hbits
      have hR2 := hR1.b hb (fun q h7 _ _ => r_up_ne _ _ _ h7) (fun q h22 _ _ => m_fs_o _ _ _ _ h22 _)
      have s19 := hf 19 (by omega)
      generalize r_up σ 7 (4 * fr i + j) (σ 7 (4 * fr i + j) ^^^ (r_po (d + c) sb a &&& (σ 8 (4 * fr i + j) ^^^ -1))) = σ1 at *
      exact St.go e3 (ev_X6_flip_k hR1.2.1 (by rw [s19]; exact s6) hi hj (by rw [e2 σ1 s19]; exact ha)) hct.symm hC1 hR2 (by omega) (fun q hq => m_fs_o _ _ _ _ (by omega) _)
    · exact St.same hI (ev_X5_flip_o s5 hi hj ha) (ev_X6_flip_o s6 hi hj (by rw [e2 σ rfl]; exact ha)) rfl
