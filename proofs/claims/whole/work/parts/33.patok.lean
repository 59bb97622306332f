/-! patterns: what the class answers is what the reference answers -/
theorem r_nm5 {n : Nat} (h : n < 2 ^ 31) : ¬ nI n = -5 := by
  intro e
  have h1 := congrArg Int32.toInt e
  rw [nI_toInt h] at h1
  have h2 : (-5 : Int32).toInt = -5 := rfl
  omega
theorem hs_cls {α : r_Sg} {d c : Nat} (hok : r_ok d c) (hα : ∀ j, j < d + c → α 20 j = nI (r_CO c d j)) {n X : Nat} (hX : X ∈ h_l (d + c) n) :
    m_hs α (d + c) X = (if n_syn (r_CO c d) (nI X) (d + c) = 0 then (if n = 0 then 2 else 1) else if r_BF c d c (n_syn (r_CO c d) (nI X) (d + c)) = -9 then 4 else if n = 1 then 2 else 3) := by
  have hc := r_ok_c hok
  have hlt := h_lt hX
  have hp := pow20 (show d + c ≤ 20 by omega)
  have hs := syn_n (nI X) hα
  have hy : n_syn (r_CO c d) (nI X) (d + c) < 64 := n_syn_lt (k := 6) _ (fun j hj => (co_lt hok hj).2.2)
  have hsyn1 : ∀ j, j < d + c → X = 2 ^ j → n_syn (r_CO c d) (nI X) (d + c) = r_CO c d j := fun j hj e => by rw [e]; exact syn_one _ (by omega) hj
  unfold m_hs
  rw [hs]
  generalize n_syn (r_CO c d) (nI X) (d + c) = y at *
  by_cases hy0 : y = 0
  · subst hy0
    rw [if_pos rfl]
    have e : r_men (r_bit (α 20) (d + c)) (nI X) (nI 0) = nI X := by unfold r_men; exact if_pos nI_0
    rw [e, m_hw, if_neg (r_nm5 (by omega))]
    by_cases hn : n = 0
    · subst hn
      rw [h_N0] at hX
      have : X = 0 := by simpa using hX
      subst this
      rfl
    · have hX0 : ¬ X = 0 := by intro z; subst z; exact hn (z_in hX)
      rw [if_neg (nI_ne0 (by omega) (by omega)), if_pos rfl, if_neg hn]
  · rw [if_neg hy0]
    have hb : r_bit (α 20) (d + c) (nI y) = r_BF c d c y := by rw [bf_ok hok hy]; exact r_bit_congr hα _
    have hyn : ¬ nI y = 0 := nI_ne0 (by omega) (by omega)
    by_cases hB : r_BF c d c y = -9
    · rw [if_pos hB]
      have e : r_men (r_bit (α 20) (d + c)) (nI X) (nI y) = -5 := by unfold r_men; rw [if_neg hyn, hb, if_pos hB]
      rw [e, m_hw, if_pos rfl]
    · rw [if_neg hB]
      obtain ⟨b, hbw, hyb⟩ := (bf_iff hok hy).mp hB
      have hBb : r_BF c d c y = nI b := by rw [hyb]; exact bj_ok hok hbw
      have e : r_men (r_bit (α 20) (d + c)) (nI X) (nI y) = nI X ^^^ r_bm b := by unfold r_men; rw [if_neg hyn, hb, if_neg hB, hBb]; rfl
      have hbm : r_bm b = nI (2 ^ b) := r_shl1 b (by omega)
      have hb2 : 2 ^ b < 2 ^ (d + c) := Nat.pow_lt_pow_right (by omega) hbw
      have hxl : X ^^^ 2 ^ b < 2 ^ (d + c) := Nat.xor_lt_two_pow hlt hb2
      have hx : nI X ^^^ r_bm b = nI (X ^^^ 2 ^ b) := by rw [hbm, r_xor]
      have h5 : ¬ nI X ^^^ r_bm b = -5 := by rw [hx]; exact r_nm5 (by omega)
      have hz : nI X ^^^ r_bm b = 0 ↔ X = 2 ^ b := by
        rw [hx]
        constructor
        · intro z
          have z2 : X ^^^ 2 ^ b = 0 := (nI_eq (b := 0) (by omega) (by omega)).mp z
          have := x_inv.mp z2
          rwa [Nat.zero_xor] at this
        · intro z; rw [z, Nat.xor_self]; rfl
      rw [e, m_hw, if_neg h5]
      by_cases hn : n = 1
      · subst hn
        obtain ⟨j, hj, hXj⟩ := one_in hX
        have : b = j := co_inj hok hbw hj (by rw [← hyb, hsyn1 j hj hXj])
        subst this
        rw [if_pos (hz.mpr hXj), if_pos rfl]
      · have hXb : ¬ X = 2 ^ b := by intro z; rw [z] at hX; exact hn (o_in hbw hX)
        rw [if_neg (fun z => hXb (hz.mp z)), if_neg (ne_bm (by omega)), if_neg hn]
theorem pat_eq {α : r_Sg} {d c : Nat} (hok : r_ok d c) (hα : ∀ j, j < d + c → α 20 j = nI (r_CO c d j)) {n : Nat} (hn : n ≤ 4) {what : Nat} (hwh : what ≤ 4) {F : Nat → Nat → Nat} (hFd : F = f_c (r_CO c d) (d + c)) :
    (if what = 0 then nI (n_sum (F n) 64) else if what = 1 then (if n = 0 then nI 0 else nI (F n 0)) else if what = 2 then (if 1 < n then nI 0 else if n = 0 then nI 1 else nI (n_sum (fun b => F n (r_CO c d b)) (d + c))) else if what = 3 then (if n = 0 then nI 1 else nI (n_sum (fun b => F n (r_CO c d b)) (d + c))) - (if 1 < n then nI 0 else if n = 0 then nI 1 else nI (n_sum (fun b => F n (r_CO c d b)) (d + c))) else nI (n_sum (F n) 64) - (if n = 0 then nI 0 else nI (F n 0)) - (if n = 0 then nI 1 else nI (n_sum (fun b => F n (r_CO c d b)) (d + c)))) = (m_ps α (d + c) (h_L n) (h_N (d + c) n)) 33 what := by
  have hc := r_ok_c hok
  have hw : d + c ≤ 20 := by omega
  have hy : ∀ X, n_syn (r_CO c d) (nI X) (d + c) < 64 := fun X => n_syn_lt (k := 6) _ (fun j hj => (co_lt hok hj).2.2)
  obtain ⟨ps0, psh⟩ := m_ps_at α (d + c) (h_L n) (h_N (d + c) n)
  have hcnt : ∀ s, F n s = (h_l (d + c) n).countP (fun X => decide (n_syn (r_CO c d) (nI X) (d + c) = s)) := fun s => by rw [hFd, cnt_syn _ hw]
  have hN : n_sum (F n) 64 = h_N (d + c) n := by
    have e : n_sum (F n) 64 = n_sum (fun s => (h_l (d + c) n).countP (fun X => decide (n_syn (r_CO c d) (nI X) (d + c) = id s))) 64 := by
      congr 1; funext s; exact hcnt s
    rw [e, sum_cp (g := id) (fun a b _ _ z => z), h_N]
    apply List.countP_eq_length.mpr
    intro X _
    exact ex_iff.mpr ⟨_, hy X, rfl⟩
  have hM : n_sum (fun b => F n (r_CO c d b)) (d + c) = (h_l (d + c) n).countP (fun X => ex_c (r_CO c d) (n_syn (r_CO c d) (nI X) (d + c)) (d + c)) := by
    rw [← sum_cp (fun a b ha hb z => co_inj hok ha hb z)]
    congr 1; funext b; exact hcnt _
  have hexB : ∀ X, ex_c (r_CO c d) (n_syn (r_CO c d) (nI X) (d + c)) (d + c) = true ↔ ¬ r_BF c d c (n_syn (r_CO c d) (nI X) (d + c)) = -9 := fun X => by rw [ex_iff, bf_iff hok (hy X)]
  have hex0 : ∀ X, ex_c (r_CO c d) (n_syn (r_CO c d) (nI X) (d + c)) (d + c) = true → ¬ n_syn (r_CO c d) (nI X) (d + c) = 0 := fun X h z => by
    obtain ⟨b, hb, e⟩ := ex_iff.mp h
    have := (co_lt hok hb).2.1
    omega
  have hp : ∀ h, p_n (fun j => decide (m_hs α (d + c) (h_L n j) = h)) (h_N (d + c) n) = (h_l (d + c) n).countP (fun X => decide (m_hs α (d + c) X = h)) := fun h => p_cnt (fun X => decide (m_hs α (d + c) X = h)) hw
  rcases (show n = 0 ∨ n = 1 ∨ 2 ≤ n by omega) with hn0 | hn1 | hn2
  · -- the empty set alone
    subst hn0
    have hl : h_l (d + c) 0 = [0] := h_N0 _
    have h2 : m_hs α (d + c) 0 = 2 := by
      rw [hs_cls hok hα (n := 0) (X := 0) (by rw [hl]; simp)]
      have z : n_syn (r_CO c d) (nI 0) (d + c) = 0 := by
        have e := hcnt (n_syn (r_CO c d) (nI 0) (d + c))
        rw [hl] at e
        have e2 : F 0 (n_syn (r_CO c d) (nI 0) (d + c)) = 1 := by rw [e]; simp
        rw [hFd] at e2
        have key : ∀ w s, f_c (r_CO c d) w 0 s = if s = 0 then 1 else 0 := by
          intro w
          induction w with
          | zero => intro s; simp [f_c]
          | succ w ih => intro s; simp [f_c, ih]
        rw [key] at e2
        by_cases hz : n_syn (r_CO c d) (nI 0) (d + c) = 0
        · exact hz
        · rw [if_neg hz] at e2; omega
      rw [if_pos z, if_pos rfl]
    have hN1 : h_N (d + c) 0 = 1 := by unfold h_N; rw [hl]; rfl
    have hq : ∀ h, (h_l (d + c) 0).countP (fun X => decide (m_hs α (d + c) X = h)) = if h = 2 then 1 else 0 := by
      intro h
      rw [hl]
      by_cases hh : h = 2
      · subst hh; simp [h2]
      · have : ¬ 2 = h := fun z => hh z.symm
        simp [h2, this, hh]
    rcases (show what = 0 ∨ what = 1 ∨ what = 2 ∨ what = 3 ∨ what = 4 by omega) with rfl | rfl | rfl | rfl | rfl
    · rw [ps0, if_pos rfl, hN]
    · rw [psh 1 (by omega) (by omega), hp, hq]; simp
    · rw [psh 2 (by omega) (by omega), hp, hq]; simp
    · rw [psh 3 (by omega) (by omega), hp, hq]; simp; decide
    · rw [psh 4 (by omega) (by omega), hp, hq, hN, hN1]; simp; decide
  · -- one bit: always mended rightly
    subst hn1
    have h2 : ∀ X ∈ h_l (d + c) 1, m_hs α (d + c) X = 2 ∧ ex_c (r_CO c d) (n_syn (r_CO c d) (nI X) (d + c)) (d + c) = true := by
      intro X hX
      obtain ⟨j, hj, hXj⟩ := one_in hX
      have e : n_syn (r_CO c d) (nI X) (d + c) = r_CO c d j := by rw [hXj]; exact syn_one _ hw hj
      have hx : ex_c (r_CO c d) (n_syn (r_CO c d) (nI X) (d + c)) (d + c) = true := ex_iff.mpr ⟨j, hj, e⟩
      refine ⟨?_, hx⟩
      rw [hs_cls hok hα hX, if_neg (hex0 X hx), if_neg ((hexB X).mp hx), if_pos rfl]
    have hq : ∀ h, (h_l (d + c) 1).countP (fun X => decide (m_hs α (d + c) X = h)) = if h = 2 then h_N (d + c) 1 else 0 := by
      intro h
      by_cases hh : h = 2
      · subst hh
        rw [if_pos rfl, h_N]
        exact List.countP_eq_length.mpr (fun X hX => by simp [(h2 X hX).1])
      · rw [if_neg hh]
        refine List.countP_eq_zero.mpr (fun X hX => ?_)
        have : ¬ 2 = h := fun z => hh z.symm
        simp [(h2 X hX).1, this]
    have hM1 : n_sum (fun b => F 1 (r_CO c d b)) (d + c) = h_N (d + c) 1 := by
      rw [hM, h_N]
      exact List.countP_eq_length.mpr (fun X hX => (h2 X hX).2)
    have h00 : F 1 0 = 0 := by
      rw [hcnt 0]
      refine List.countP_eq_zero.mpr (fun X hX => ?_)
      have := hex0 X (h2 X hX).2
      simp [this]
    rcases (show what = 0 ∨ what = 1 ∨ what = 2 ∨ what = 3 ∨ what = 4 by omega) with rfl | rfl | rfl | rfl | rfl
    · rw [ps0, if_pos rfl, hN]
    · rw [psh 1 (by omega) (by omega), hp, hq, h00]; simp
    · rw [psh 2 (by omega) (by omega), hp, hq, hM1]; simp
    · rw [psh 3 (by omega) (by omega), hp, hq, hM1]; simp; rfl
    · rw [psh 4 (by omega) (by omega), hp, hq, hN, hM1, h00]; simp; rw [pk_sub (by omega), pk_sub (by omega)]; congr 1; omega
  · -- more: missed, mended wrongly, or found
    have hcl : ∀ X ∈ h_l (d + c) n, m_hs α (d + c) X = (if n_syn (r_CO c d) (nI X) (d + c) = 0 then 1 else if r_BF c d c (n_syn (r_CO c d) (nI X) (d + c)) = -9 then 4 else 3) := by
      intro X hX
      rw [hs_cls hok hα hX, if_neg (show ¬ n = 0 by omega), if_neg (show ¬ n = 1 by omega)]
    have q1 : (h_l (d + c) n).countP (fun X => decide (m_hs α (d + c) X = 1)) = F n 0 := by
      rw [hcnt 0]
      apply cp_congr
      intro X hX
      rw [hcl X hX]
      by_cases h0 : n_syn (r_CO c d) (nI X) (d + c) = 0
      · simp [h0]
      · by_cases hB : r_BF c d c (n_syn (r_CO c d) (nI X) (d + c)) = -9 <;> simp [h0, hB]
    have q2 : (h_l (d + c) n).countP (fun X => decide (m_hs α (d + c) X = 2)) = 0 := by
      refine List.countP_eq_zero.mpr (fun X hX => ?_)
      rw [hcl X hX]
      by_cases h0 : n_syn (r_CO c d) (nI X) (d + c) = 0
      · simp [h0]
      · by_cases hB : r_BF c d c (n_syn (r_CO c d) (nI X) (d + c)) = -9 <;> simp [h0, hB]
    have q3 : (h_l (d + c) n).countP (fun X => decide (m_hs α (d + c) X = 3)) = n_sum (fun b => F n (r_CO c d b)) (d + c) := by
      rw [hM]
      apply cp_congr
      intro X hX
      rw [hcl X hX]
      by_cases hB : r_BF c d c (n_syn (r_CO c d) (nI X) (d + c)) = -9
      · have hx : ex_c (r_CO c d) (n_syn (r_CO c d) (nI X) (d + c)) (d + c) = false := by
          cases hz : ex_c (r_CO c d) (n_syn (r_CO c d) (nI X) (d + c)) (d + c) with
          | false => rfl
          | true => exact absurd hB ((hexB X).mp hz)
        rw [hx]
        by_cases h0 : n_syn (r_CO c d) (nI X) (d + c) = 0
        · simp [h0]
        · simp [h0, hB]
      · have hx := (hexB X).mpr hB
        have h0 := hex0 X hx
        rw [hx]
        simp [h0, hB]
    have q4 : h_N (d + c) n = F n 0 + n_sum (fun b => F n (r_CO c d b)) (d + c) + (h_l (d + c) n).countP (fun X => decide (m_hs α (d + c) X = 4)) := by
      rw [← q1, ← q3, h_N, ← cp_or (by
        rintro X - ⟨h1, h2⟩
        have := of_decide_eq_true h1
        have := of_decide_eq_true h2
        omega), ← cp_or (by
        rintro X - ⟨h1, h2⟩
        have h4 := of_decide_eq_true h2
        simp only [Bool.or_eq_true, decide_eq_true_eq] at h1
        omega)]
      refine (List.countP_eq_length.mpr (fun X hX => ?_)).symm
      rw [hcl X hX]
      by_cases h0 : n_syn (r_CO c d) (nI X) (d + c) = 0
      · simp [h0]
      · by_cases hB : r_BF c d c (n_syn (r_CO c d) (nI X) (d + c)) = -9 <;> simp [h0, hB]
    have n0 : ¬ n = 0 := by omega
    have n1 : 1 < n := by omega
    rcases (show what = 0 ∨ what = 1 ∨ what = 2 ∨ what = 3 ∨ what = 4 by omega) with rfl | rfl | rfl | rfl | rfl
    · rw [ps0, if_pos rfl, hN]
    · rw [psh 1 (by omega) (by omega), hp, q1]; simp [n0]
    · rw [psh 2 (by omega) (by omega), hp, q2]; simp [n1]
    · rw [psh 3 (by omega) (by omega), hp, q3]; simp only [n0, n1, if_true, if_false]; simp; exact pk_sub (b := 0) (by omega)
    · rw [psh 4 (by omega) (by omega), hp, hN]
      simp only [n0, if_false, show ¬ (4 : Nat) = 0 by omega, show ¬ (4 : Nat) = 1 by omega, show ¬ (4 : Nat) = 2 by omega, show ¬ (4 : Nat) = 3 by omega]
      rw [pk_sub (by omega), pk_sub (by omega)]
      congr 1
      omega
