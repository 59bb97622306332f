/-! the cells of the class (sets of places) and of the reference (one by one) -/
def RCb (σ α : r_Sg) : Prop := ∀ r, r < 24 → ∀ q, q < 21 → α 22 (21 * r + q) = r_b (σ 7 r) q ∧ α 23 (21 * r + q) = r_b (σ 8 r) q ∧ α 24 (21 * r + q) = σ 9 (21 * r + q)
theorem RCb.to {σ σ' α α' : r_Sg} (h : RCb σ α) (h7 : σ' 7 = σ 7) (h8 : σ' 8 = σ 8) (h9 : σ' 9 = σ 9) (h2 : α' 22 = α 22) (h3 : α' 23 = α 23) (h4 : α' 24 = α 24) : RCb σ' α' := by
  unfold RCb
  rw [h7, h8, h9, h2, h3, h4]
  exact h
theorem ix_inj {r q r' q' : Nat} (hq : q < 21) (hq' : q' < 21) (h : 21 * r + q = 21 * r' + q') : r = r' ∧ q = q' := by omega
theorem rb_sv (x : Int32) {v : Int32} (hv : v = 0 ∨ v = 1) {p q : Nat} (hp : p < 32) (hq : q < 32) : r_b (r_sv x p v) q = if q = p then v else r_b x q := by
  rw [r_b_bt _ hq, b_sv x hv hp hq]
  by_cases h : q = p
  · rcases hv with rfl | rfl
    · simp [h, b_0]
    · simp [h, b_1 0 (by omega)]
  · simp [h, r_b_bt x hq]
theorem rb_lo (x : Int32) {p q : Nat} (hp : p < 32) (hq : q < 32) : r_b (r_lo x p) q = if q = p then 0 else r_b x q := by
  rw [r_b_bt _ hq, b_lo x hp hq]
  by_cases h : q = p
  · simp [h]
  · simp [h, r_b_bt x hq]
theorem rb_hi (x : Int32) {p q : Nat} (hp : p < 32) (hq : q < 32) : r_b (r_hi x p) q = if q = p then 1 else r_b x q := by
  rw [r_b_bt _ hq, b_hi x hp hq]
  by_cases h : q = p
  · simp [h]
  · simp [h, r_b_bt x hq]
/-- a cell made anew -/
theorem RCb_ren {σ α : r_Sg} (h : RCb σ α) {r p sr sq : Nat} (hr : r < 24) (hp : p < 21) (hsr : sr < 24) (hsq : sq < 21) : RCb (c_ren σ r p (r_b (σ 7 sr) sq)) (m_to α (21 * r + p) (21 * sr + sq)) := by
  intro r' hr' q' hq'
  have h0 := h r' hr' q' hq'
  have hs := h sr hsr sq hsq
  by_cases hrr : r' = r
  · subst hrr
    by_cases hqq : q' = p
    · subst hqq
      simp [c_ren, m_to, r_up, upd, rb_sv _ (r_b01 _ _) (show q' < 32 by omega) (show q' < 32 by omega), rb_lo _ (show q' < 32 by omega) (show q' < 32 by omega), hs.1]
    · have hi : ¬ 21 * r' + q' = 21 * r' + p := by omega
      simp [c_ren, m_to, r_up, upd, rb_sv _ (r_b01 _ _) (show p < 32 by omega) (show q' < 32 by omega), rb_lo _ (show p < 32 by omega) (show q' < 32 by omega), hqq, h0]
  · have hi : ¬ 21 * r' + q' = 21 * r + p := by omega
    simp [c_ren, m_to, r_up, upd, hrr, hi, h0]
theorem RCb_cp {σ α : r_Sg} (h : RCb σ α) {a b : Nat} (ha : a < 21) (hb : b < 21) : ∀ n, n ≤ 24 → RCb (c_cp σ a b n) (m_cp α a b n)
  | 0, _ => h
  | n + 1, hn => RCb_ren (RCb_cp h ha hb n (by omega)) (by omega) hb (by omega) ha
theorem RCb_cfi {σ α : r_Sg} (h : RCb σ α) {sr tr : Nat} (ha : sr < 24) (hb : tr < 24) : ∀ n, n ≤ 21 → RCb (c_cfi σ sr tr n) (m_rfi α sr tr n)
  | 0, _ => h
  | n + 1, hn => RCb_ren (RCb_cfi h ha hb n (by omega)) hb (by omega) ha (by omega)
theorem RCb_cfo {σ α : r_Sg} (h : RCb σ α) {f g : Nat} (ha : f < 6) (hb : g < 6) : ∀ n, n ≤ 4 → RCb (c_cfo σ f g n) (m_rfo α f g n)
  | 0, _ => h
  | n + 1, hn => RCb_cfi (RCb_cfo h ha hb n (by omega)) (by omega) (by omega) 21 (by omega)
/-- a mark more -/
theorem RCb_mark {σ α : r_Sg} (h : RCb σ α) {r p : Nat} (hr : r < 24) (hp : p < 21) : RCb (r_up σ 9 (21 * r + p) (σ 9 (21 * r + p) + 1)) (r_up α 24 (21 * r + p) (α 24 (21 * r + p) + 1)) := by
  intro r' hr' q' hq'
  have h0 := h r' hr' q' hq'
  have h1 := h r hr p hp
  by_cases hi : 21 * r' + q' = 21 * r + p
  · simp [r_up, upd, hi, h1]
    have := ix_inj hq' hp hi
    rw [this.1, this.2]
    exact ⟨rfl, rfl⟩
  · simp [r_up, upd, hi, h0]
-- which places are in use
theorem us_iff {w : Nat} {sb : Option Nat} {q : Nat} : m_us w sb q = true ↔ ∃ b, b < w ∧ r_pl w sb b = q := by
  unfold m_us
  rw [decide_eq_true_eq]
  constructor
  · intro h
    exact ⟨_, h, of_decide_eq_true (r_fst_at h)⟩
  · rintro ⟨b, hb, hq⟩
    rcases Nat.lt_or_ge (r_fst (fun b => decide (r_pl w sb b = q)) w) w with h | h
    · exact h
    · have := r_fst_not (P := fun b => decide (r_pl w sb b = q)) (n := w) (k := b) (by omega)
      simp [hq] at this
theorem pl_inj {w : Nat} {sb : Option Nat} {a b : Nat} (ha : a < w) (hb : b < w) (h : r_pl w sb a = r_pl w sb b) : a = b := by
  unfold r_pl at h
  split at h <;> split at h
  · rename_i h1 h2; rw [h1] at h2; cases h2; rfl
  · omega
  · omega
  · exact h
theorem b_use {w : Nat} {sb : Option Nat} (hw : w ≤ 20) (hs : ∀ b, sb = some b → b < w) {q : Nat} (hq : q < 32) : bt (r_po w sb (r_all w)) q = m_us w sb q := by
  rw [b_po hw hs _ hq]
  apply Bool.eq_iff_iff.mpr
  rw [us_iff]
  cases sb with
  | none =>
    simp only [b_all w (by omega) q hq, decide_eq_true_eq, r_pl]
    constructor
    · intro h; exact ⟨q, h, by simp⟩
    · rintro ⟨b, h1, h2⟩
      simp at h2
      omega
  | some s =>
    have := hs s rfl
    simp only [b_all w (by omega) q hq, b_all w (by omega) s (by omega), r_pl]
    simp only [Bool.or_eq_true, Bool.and_eq_true, decide_eq_true_eq, Bool.not_eq_true', decide_eq_false_iff_not]
    constructor
    · rintro (⟨h1, h2⟩ | ⟨h1, h2⟩)
      · refine ⟨q, h1, ?_⟩
        rw [if_neg (fun z => h2 (by cases z; rfl))]
      · exact ⟨s, this, by rw [if_pos rfl, h1]⟩
    · rintro ⟨b, h1, h2⟩
      split at h2
      · rename_i h3; cases h3; exact Or.inr ⟨h2.symm, this⟩
      · rename_i h3; subst h2; exact Or.inl ⟨h1, fun z => h3 (by rw [z])⟩
/-- the bit of a set that goes to a place in use -/
theorem b_put {w : Nat} {sb : Option Nat} (hw : w ≤ 20) (hs : ∀ b, sb = some b → b < w) {set : Int32} (hset : ∀ i, i < 32 → w ≤ i → bt set i = false) {b : Nat} (hb : b < w) : bt (r_po w sb set) (r_pl w sb b) = bt set b := by
  have hl := r_pl_lt sb hb hw
  rw [b_po hw hs _ (by omega)]
  cases sb with
  | none => rfl
  | some s =>
    have := hs s rfl
    simp only [r_pl]
    by_cases h : s = b
    · subst h
      simp [hset w (by omega) (Nat.le_refl w)]
    · have h1 : ¬ some s = some b := fun z => h (by cases z; rfl)
      have h2 : ¬ b = s := fun z => h z.symm
      have h3 : ¬ b = w := by omega
      simp [h1, h2, h3]
theorem b_po_us {w : Nat} {sb : Option Nat} (hw : w ≤ 20) (hs : ∀ b, sb = some b → b < w) {set : Int32} (hset : ∀ i, i < 32 → w ≤ i → bt set i = false) {q : Nat} (hq : q < 32) (h : bt (r_po w sb set) q = true) : ∃ b, b < w ∧ r_pl w sb b = q ∧ bt set b = true := by
  rw [b_po hw hs _ hq] at h
  cases sb with
  | none =>
    refine ⟨q, ?_, rfl, h⟩
    rcases Nat.lt_or_ge q w with h1 | h1
    · exact h1
    · rw [hset q hq h1] at h; cases h
  | some s =>
    have := hs s rfl
    simp only [Bool.or_eq_true, Bool.and_eq_true, decide_eq_true_eq, Bool.not_eq_true', decide_eq_false_iff_not] at h
    rcases h with ⟨h1, h2⟩ | ⟨h1, h2⟩
    · refine ⟨q, ?_, ?_, h1⟩
      · rcases Nat.lt_or_ge q w with h3 | h3
        · exact h3
        · rw [hset q hq h3] at h1; cases h1
      · unfold r_pl; rw [if_neg (fun z => h2 (by cases z; rfl))]
    · exact ⟨s, this, by unfold r_pl; rw [if_pos rfl, h1], h2⟩
-- what puts does to the cells
theorem m_pu_out (α : r_Sg) (R : Nat) (pl : Nat → Nat) (set : Int32) {i : Nat} : ∀ n, (∀ b, b < n → i ≠ 21 * R + pl b) → m_pu α R pl set n 22 i = α 22 i
  | 0, _ => rfl
  | n + 1, h => by
    have := h n (by omega)
    simp only [m_pu]
    simp [r_up, upd, this, m_pu_out α R pl set n (fun b hb => h b (by omega))]
theorem m_pu_in (α : r_Sg) (R : Nat) {pl : Nat → Nat} (set : Int32) {w : Nat} (hpl : ∀ a b, a < w → b < w → pl a = pl b → a = b) : ∀ n, n ≤ w → ∀ b, b < n → m_pu α R pl set n 22 (21 * R + pl b) = if α 23 (21 * R + pl b) = 0 then r_b set b else α 22 (21 * R + pl b)
  | 0, _, b, hb => by omega
  | n + 1, hn, b, hb => by
    have e23 : m_pu α R pl set n 23 = α 23 := m_pu_o α R pl set (by decide) n
    simp only [m_pu]
    rw [e23]
    by_cases hbn : b = n
    · subst hbn
      have e22 : m_pu α R pl set b 22 (21 * R + pl b) = α 22 (21 * R + pl b) := m_pu_out α R pl set b (fun a ha z => by have := hpl a b (by omega) (by omega) (by omega); omega)
      simp [r_up, upd, e22]
    · have hne : ¬ 21 * R + pl b = 21 * R + pl n := fun z => hbn (hpl b n (by omega) (by omega) (by omega))
      have ih := m_pu_in α R set hpl n (by omega) b (by omega)
      have hne2 : ¬ pl b = pl n := fun z => hne (by rw [z])
      simp [r_up, upd, hne2, ih]
theorem RCb_put {σ α : r_Sg} (h : RCb σ α) {w : Nat} {sb : Option Nat} (hw : w ≤ 20) (hs : ∀ b, sb = some b → b < w) {R : Nat} (hR : R < 24) {set : Int32} (hset : ∀ i, i < 32 → w ≤ i → bt set i = false) : RCb (c_pb σ w sb R set) (m_pu α R (r_pl w sb) set w) := by
  intro r hr q hq
  have h0 := h r hr q hq
  have e23 : m_pu α R (r_pl w sb) set w 23 = α 23 := m_pu_o α R _ set (by decide) w
  have e24 : m_pu α R (r_pl w sb) set w 24 = α 24 := m_pu_o α R _ set (by decide) w
  have e8 : c_pb σ w sb R set 8 = σ 8 := rfl
  have e9 : c_pb σ w sb R set 9 = σ 9 := rfl
  rw [e23, e24, e8, e9]
  refine ⟨?_, h0.2⟩
  by_cases hrR : r = R
  · subst hrR
    have e7 : c_pb σ w sb r set 7 r = r_pt (σ 7 r) (σ 8 r) (r_po w sb set) (r_po w sb (r_all w)) := by simp [c_pb, r_up, upd]
    rw [e7, r_b_bt _ (show q < 32 by omega), b_pt _ _ _ _ (show q < 32 by omega), b_use hw hs (show q < 32 by omega)]
    by_cases hu : m_us w sb q = true
    · obtain ⟨b, hb, hbq⟩ := us_iff.mp hu
      subst hbq
      rw [m_pu_in α r set (fun a b ha hb hab => pl_inj ha hb hab) w (Nat.le_refl w) b hb, b_put hw hs hset hb, h0.1, h0.2.1]
      cases hk : bt (σ 8 r) (r_pl w sb b) with
      | false =>
        rw [if_pos ((r_b_0 (by omega)).mpr hk), r_b_bt _ (by omega)]
        simp [hu]
      | true =>
        rw [if_neg (fun z => by rw [(r_b_0 (by omega)).mp z] at hk; cases hk), r_b_bt _ (by omega)]
        simp
    · rw [m_pu_out α r _ set w (fun b hb z => hu (us_iff.mpr ⟨b, hb, by omega⟩)), h0.1, r_b_bt _ (by omega)]
      simp [hu]
  · have e7 : c_pb σ w sb R set 7 r = σ 7 r := by simp [c_pb, r_up, upd, hrR]
    rw [e7, m_pu_out α R _ set w (fun b hb z => hrR (ix_inj hq (r_pl_lt sb hb hw) z).1)]
    exact h0.1
theorem RCb_raw {σ α : r_Sg} (h : RCb σ α) {w : Nat} {sb : Option Nat} (hw : w ≤ 20) (hs : ∀ b, sb = some b → b < w) {R : Nat} (hR : R < 24) : r_rawF (fun b => α 22 (21 * R + r_pl w sb b)) w = r_bo w sb (σ 7 R) := by
  rw [r_raw_eq hw hs]
  exact r_rawF_congr (fun b hb => (h R hR _ (r_pl_lt sb hb hw)).1)

-- flips
theorem m_fs_out (α : r_Sg) (R : Nat) (pl : Nat → Nat) (a : Int32) {i : Nat} : ∀ n, (∀ b, b < n → i ≠ 21 * R + pl b) → m_fs α R pl a n 22 i = α 22 i
  | 0, _ => rfl
  | n + 1, h => by
    have := h n (by omega)
    have ih := m_fs_out α R pl a n (fun b hb => h b (by omega))
    simp only [m_fs]
    split
    · simp [r_up, upd, this, ih]
    · exact ih
theorem m_fs_in (α : r_Sg) (R : Nat) {pl : Nat → Nat} (a : Int32) {w : Nat} (hpl : ∀ a b, a < w → b < w → pl a = pl b → a = b) : ∀ n, n ≤ w → ∀ b, b < n → m_fs α R pl a n 22 (21 * R + pl b) = if r_b a b = 1 ∧ α 23 (21 * R + pl b) = 0 then 1 - α 22 (21 * R + pl b) else α 22 (21 * R + pl b)
  | 0, _, b, hb => by omega
  | n + 1, hn, b, hb => by
    by_cases hbn : b = n
    · subst hbn
      have e22 : m_fs α R pl a b 22 (21 * R + pl b) = α 22 (21 * R + pl b) := m_fs_out α R pl a b (fun x hx z => by have := hpl x b (by omega) (by omega) (by omega); omega)
      simp only [m_fs]
      by_cases hc : r_b a b = 1 ∧ α 23 (21 * R + pl b) = 0
      · rw [if_pos hc, if_pos hc]; simp [r_up, upd, e22]
      · rw [if_neg hc, if_neg hc, e22]
    · have hne : ¬ pl b = pl n := fun z => hbn (hpl b n (by omega) (by omega) z)
      have ih := m_fs_in α R a hpl n (by omega) b (by omega)
      simp only [m_fs]
      by_cases hc : r_b a n = 1 ∧ α 23 (21 * R + pl n) = 0
      · rw [if_pos hc]; simp [r_up, upd, hne, ih]
      · rw [if_neg hc, ih]
theorem RCb_flip {σ α : r_Sg} (h : RCb σ α) {w : Nat} {sb : Option Nat} (hw : w ≤ 20) (hs : ∀ b, sb = some b → b < w) {R : Nat} (hR : R < 24) {a : Int32} (ha : ∀ i, i < 32 → w ≤ i → bt a i = false) : RCb (r_up σ 7 R (σ 7 R ^^^ (r_po w sb a &&& (σ 8 R ^^^ -1)))) (m_fs α R (r_pl w sb) a w) := by
  intro r hr q hq
  have h0 := h r hr q hq
  have e23 : m_fs α R (r_pl w sb) a w 23 = α 23 := m_fs_o α R _ a (by decide) w
  have e24 : m_fs α R (r_pl w sb) a w 24 = α 24 := m_fs_o α R _ a (by decide) w
  rw [e23, e24, r_up_ne _ _ _ (show 8 ≠ 7 by decide), r_up_ne _ _ _ (show 9 ≠ 7 by decide)]
  refine ⟨?_, h0.2⟩
  by_cases hrR : r = R
  · subst hrR
    have e7 : r_up σ 7 r (σ 7 r ^^^ (r_po w sb a &&& (σ 8 r ^^^ -1))) 7 r = σ 7 r ^^^ (r_po w sb a &&& (σ 8 r ^^^ -1)) := by simp [r_up, upd]
    rw [e7, r_b_bt _ (show q < 32 by omega), b_tn _ _ _ (show q < 32 by omega)]
    by_cases hu : m_us w sb q = true
    · obtain ⟨b, hb, hbq⟩ := us_iff.mp hu
      subst hbq
      rw [m_fs_in α r a (fun a b ha hb hab => pl_inj ha hb hab) w (Nat.le_refl w) b hb, b_put hw hs ha hb, h0.1, h0.2.1]
      rw [r_b_bt (σ 7 r) (show r_pl w sb b < 32 by omega)]
      simp only [r_b_1 (show b < 32 by omega), r_b_0 (show r_pl w sb b < 32 by omega)]
      cases bt a b <;> cases bt (σ 8 r) (r_pl w sb b) <;> cases bt (σ 7 r) (r_pl w sb b) <;> simp
    · have hn : bt (r_po w sb a) q = false := by
        cases hz : bt (r_po w sb a) q with
        | false => rfl
        | true =>
          obtain ⟨b, h1, h2, h3⟩ := b_po_us hw hs ha (show q < 32 by omega) hz
          exact absurd (us_iff.mpr ⟨b, h1, h2⟩) hu
      rw [m_fs_out α r _ a w (fun b hb z => hu (us_iff.mpr ⟨b, hb, by omega⟩)), h0.1, r_b_bt _ (by omega), hn]
      simp
  · have e7 : r_up σ 7 R (σ 7 R ^^^ (r_po w sb a &&& (σ 8 R ^^^ -1))) 7 r = σ 7 r := by simp [r_up, upd, hrR]
    rw [e7, m_fs_out α R _ a w (fun b hb z => hrR (ix_inj hq (r_pl_lt sb hb hw) z).1)]
    exact h0.1
theorem m_fc_p (α : r_Sg) (R : Nat) (pl : Nat → Nat) (a : Int32) : ∀ n, m_fc α R pl a n = nI (p_n (fun b => decide (r_b a b = 1 ∧ α 23 (21 * R + pl b) = 0)) n)
  | 0 => rfl
  | n + 1 => by
    simp only [m_fc, p_n]
    rw [m_fc_p α R pl a n]
    by_cases hc : r_b a n = 1 ∧ α 23 (21 * R + pl n) = 0
    · rw [if_pos hc, nI_1]; simp [hc]
    · rw [if_neg hc]; simp [hc]
theorem flip_cnt {σ α : r_Sg} (h : RCb σ α) {w : Nat} {sb : Option Nat} (hw : w ≤ 20) (hs : ∀ b, sb = some b → b < w) {R : Nat} (hR : R < 24) {a : Int32} (ha : ∀ i, i < 32 → w ≤ i → bt a i = false) : r_bc (r_po w sb a &&& (σ 8 R ^^^ -1)) = m_fc α R (r_pl w sb) a w := by
  have hb : ∀ q, q < 32 → bt (r_po w sb a &&& (σ 8 R ^^^ -1)) q = (bt (r_po w sb a) q && !bt (σ 8 R) q) := fun q hq => by
    rw [b_and, b_xor, b_m1 q hq]; simp
  rw [r_bc_p _ (fun i hi h21 => by
    rw [hb i hi]
    cases hz : bt (r_po w sb a) i with
    | false => rfl
    | true =>
      obtain ⟨b, h1, h2, h3⟩ := b_po_us hw hs ha hi hz
      have := r_pl_lt sb h1 hw
      omega), m_fc_p]
  congr 1
  rw [p_pl (sb := sb) (w := w) hw hs (fun q hq hz => by
    rw [hb q (by omega)] at hz
    obtain ⟨b, h1, h2, h3⟩ := b_po_us hw hs ha (show q < 32 by omega) (Bool.and_eq_true_iff.mp hz).1
    exact ⟨b, h1, h2⟩)]
  apply p_n_congr
  intro b hbw
  have hl := r_pl_lt sb hbw hw
  rw [hb _ (by omega), b_put hw hs ha hbw, (h R hR _ hl).2.1]
  simp only [r_b_1 (show b < 32 by omega), r_b_0 (show r_pl w sb b < 32 by omega)]
  cases bt a b <;> cases bt (σ 8 R) (r_pl w sb b) <;> simp
-- how many are bad, or stuck
theorem r_cna_congr {P Q : Nat → Bool} {a : Int32} : ∀ {n : Nat}, (∀ i, i < n → P i = Q i) → r_cna P a n = r_cna Q a n
  | 0, _ => rfl
  | n + 1, h => by simp only [r_cna]; rw [r_cna_congr (fun i hi => h i (by omega)), h n (by omega)]
theorem us_le {w : Nat} {sb : Option Nat} {q : Nat} (hw : w ≤ 20) (h : m_us w sb q = true) : q ≤ w := by
  obtain ⟨b, h1, h2⟩ := us_iff.mp h
  unfold r_pl at h2
  split at h2 <;> omega
theorem bad_eq {σ α : r_Sg} (h : RCb σ α) {w : Nat} {sb : Option Nat} (hw : w ≤ 20) (hs : ∀ b, sb = some b → b < w) {f : Nat} (hf : f < 6) : ∀ n, n ≤ 4 → c_bf σ f (r_po w sb (r_all w)) n = m_wb α w sb f n
  | 0, _ => rfl
  | n + 1, hn => by
    simp only [c_bf, m_wb]
    rw [bad_eq h hw hs hf n (by omega), r_cna_p, r_cna_p]
    congr 2
    have e1 : p_n (fun q => decide (¬ r_b (r_po w sb (r_all w)) q = 0 ∧ 2 ≤ σ 9 (21 * (4 * f + n) + q))) 21 = p_n (fun q => decide (2 ≤ α 24 (21 * (4 * f + n) + q) ∧ m_us w sb q = true)) 21 := by
      apply p_n_congr
      intro q hq
      have h0 := (h (4 * f + n) (by omega) q hq).2.2
      rw [h0]
      have e : (¬ r_b (r_po w sb (r_all w)) q = 0) ↔ m_us w sb q = true := by
        rw [r_b_0 (show q < 32 by omega), b_use hw hs (show q < 32 by omega)]; simp
      simp only [e, And.comm]
    rw [e1]
    have := p_n_ext (fun q => decide (2 ≤ α 24 (21 * (4 * f + n) + q) ∧ m_us w sb q = true)) (w + 1) (20 - w) (fun i h1 h2 => by
      have hu : ¬ m_us w sb i = true := fun z => by have := us_le hw z; omega
      simp [hu])
    rwa [show w + 1 + (20 - w) = 21 by omega] at this
theorem stuck_eq {σ α : r_Sg} (h : RCb σ α) {w : Nat} {sb : Option Nat} (hw : w ≤ 20) (hs : ∀ b, sb = some b → b < w) {f : Nat} (hf : f < 6) : ∀ n, n ≤ 4 → c_sf σ f (r_po w sb (r_all w)) n = m_ws α w sb f n
  | 0, _ => rfl
  | n + 1, hn => by
    simp only [c_sf, m_ws]
    have hb : ∀ q, q < 32 → bt (σ 8 (4 * f + n) &&& r_po w sb (r_all w)) q = (bt (σ 8 (4 * f + n)) q && m_us w sb q) := fun q hq => by
      rw [b_and, b_use hw hs hq]
    rw [stuck_eq h hw hs hf n (by omega), r_cna_p, r_bc_p _ (fun i hi h21 => by
      rw [hb i hi]
      have hu : ¬ m_us w sb i = true := fun z => by have := us_le hw z; omega
      simp [hu])]
    congr 2
    have e1 : p_n (bt (σ 8 (4 * f + n) &&& r_po w sb (r_all w))) 21 = p_n (fun q => decide (¬ α 23 (21 * (4 * f + n) + q) = 0 ∧ m_us w sb q = true)) 21 := by
      apply p_n_congr
      intro q hq
      rw [hb q (by omega), (h (4 * f + n) (by omega) q hq).2.1]
      simp only [r_b_0 (show q < 32 by omega)]
      cases bt (σ 8 (4 * f + n)) q <;> cases m_us w sb q <;> simp
    rw [e1]
    have := p_n_ext (fun q => decide (¬ α 23 (21 * (4 * f + n) + q) = 0 ∧ m_us w sb q = true)) (w + 1) (20 - w) (fun i h1 h2 => by
      have hu : ¬ m_us w sb i = true := fun z => by have := us_le hw z; omega
      simp [hu])
    rwa [show w + 1 + (20 - w) = 21 by omega] at this
theorem badp_eq {σ α : r_Sg} (h : RCb σ α) {p : Nat} (hp : p < 21) : r_cna (fun r => decide (2 ≤ σ 9 (21 * r + p))) 0 24 = r_cna (fun r => decide (2 ≤ α 24 (21 * r + p))) 0 24 :=
  r_cna_congr (fun r hr => by rw [(h r hr p hp).2.2])
