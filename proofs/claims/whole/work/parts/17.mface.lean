/-! the reference's face: the bank's calls -/
def m_fs (σ : r_Sg) (R : Nat) (pl : Nat → Nat) (a : Int32) : Nat → r_Sg
  | 0 => σ
  | b + 1 => if r_b a b = 1 ∧ σ 23 (21 * R + pl b) = 0 then r_up (m_fs σ R pl a b) 22 (21 * R + pl b) (1 - m_fs σ R pl a b 22 (21 * R + pl b)) else m_fs σ R pl a b
def m_fc (σ : r_Sg) (R : Nat) (pl : Nat → Nat) (a : Int32) : Nat → Int32
  | 0 => 0
  | b + 1 => if r_b a b = 1 ∧ σ 23 (21 * R + pl b) = 0 then m_fc σ R pl a b + 1 else m_fc σ R pl a b
theorem m_fs_o (σ : r_Sg) (R : Nat) (pl : Nat → Nat) (a : Int32) {q : Nat} (h : q ≠ 22) : ∀ n, m_fs σ R pl a n q = σ q
  | 0 => rfl
  | n + 1 => by
    unfold m_fs
    split
    · rw [r_up_ne _ _ _ h, m_fs_o σ R pl a h n]
    · exact m_fs_o σ R pl a h n
theorem m_fsMH {σ : r_Sg} {w : Nat} {sb : Option Nat} {fr : Nat → Nat} {nr : Nat} (h : r_MH σ w sb fr nr) (R : Nat) (pl : Nat → Nat) (a : Int32) (n : Nat) : r_MH (m_fs σ R pl a n) w sb fr nr := by
  have e : ∀ q, q ≠ 22 → m_fs σ R pl a n q = σ q := fun q hq => m_fs_o σ R pl a hq n
  exact h.to (by rw [e 19 (by decide)]) (by rw [e 19 (by decide)]) (by rw [e 19 (by decide)]) (by rw [e 19 (by decide)]) (e 25 (by decide)) (e 26 (by decide))
/-- one word scrubbed -/
def m_scr (s : r_Sg) (x : Int32) (s' : r_Sg) : Prop := ∃ (nx : Nat) (i : Int32) (t u : r_Sg), s 19 16 = nI nx ∧ nx < 16 ∧ Ev 4 MX6_looksAt [.ref 19, .int (nI (nx / 4)), .int (nI (nx % 4))] s (some (.int i)) t ∧
  ((t 32 0 = 1 ∧ Ev 2 MX6_puts [.ref 19, .int (nI (nx / 4)), .int (nI (nx % 4)), .int i] t none u ∧ x = 1) ∨ (¬ t 32 0 = 1 ∧ u = t ∧ x = 0)) ∧ u 19 16 = nI nx ∧ s' = r_up u 19 16 (nI ((nx + 1) % 16))
def m_bu (σ : r_Sg) (w : Nat) (sb : Option Nat) (fr : Nat → Nat) : Nat → Int32
  | 0 => 0
  | p + 1 => m_bu σ w sb fr p + m_wb σ w sb (fr p) 4
def m_su (σ : r_Sg) (w : Nat) (sb : Option Nat) (fr : Nat → Nat) : Nat → Int32
  | 0 => 0
  | p + 1 => m_su σ w sb fr p + m_ws σ w sb (fr p) 4

set_option maxRecDepth 4000 in
theorem ev_X6_write_u {σ : r_Sg} {p v : Int32} {a : Int32} (hg : ¬ (0 < σ 19 0 ∧ (0 ≤ p ∧ p ≤ 3) ∧ 0 ≤ v ∧ v ≤ 3)) : Ev 5 MX6_write [.ref 19, .int p, .int v, .int a] σ (some (.int (-1))) σ := by
  refine Ev_w [.ref 19, .int p, .int v, .int a] ?_ (by decide) rfl (Nat.le_of_ble_eq_true rfl) rfl
  refine g_aload_n dX6_write_0 rfl ?_
  refine g_iload_n dX6_write_1 rfl ?_
  refine g_iload_n dX6_write_2 rfl ?_
  refine g_V2 dX6_write_3 vX6_131 rfl (Nat.le_of_ble_eq_true rfl) (by decide) (ev_X6_isWord) ?_
  refine g_ifne (tgt := 11) dX6_write_6 (by decide) (fun c6 => absurd (bI_0.mpr hg) c6) (fun c6 => ?_)
  refine g_iconst (v := (-1)) dX6_write_9 (by decide) ?_
  exact g_iret dX6_write_10 rfl ⟨rfl, rfl⟩

set_option maxRecDepth 4000 in
theorem ev_X6_write_o {σ : r_Sg} {p v : Nat} {a : Int32} (hst : 0 < σ 19 0) (hp : p < 4) (hv : v < 4) (ha : ¬ (0 ≤ a ∧ a ≤ (1 <<< (σ 19 0 &&& 31)) - 1)) : Ev 5 MX6_write [.ref 19, .int (nI p), .int (nI v), .int a] σ (some (.int (-2))) σ := by
  refine Ev_w [.ref 19, .int (nI p), .int (nI v), .int a] ?_ (by decide) rfl (Nat.le_of_ble_eq_true rfl) rfl
  refine g_aload_n dX6_write_0 rfl ?_
  refine g_iload_n dX6_write_1 rfl ?_
  refine g_iload_n dX6_write_2 rfl ?_
  refine g_V2 dX6_write_3 vX6_131 rfl (Nat.le_of_ble_eq_true rfl) (by decide) (ev_X6_isWord) ?_
  refine g_ifne (tgt := 11) dX6_write_6 (by decide) (fun c6 => ?_) (fun c6 => absurd c6 (bI_1.mpr ⟨hst, r_in3 hp, r_in3 hv⟩))
  refine g_iload_n dX6_write_11 rfl ?_
  refine g_iconst (v := 0) dX6_write_12 (by decide) ?_
  refine g_iconst (v := 1) dX6_write_13 (by decide) ?_
  refine g_aload_n dX6_write_14 rfl ?_
  refine g_getI dX6_write_15 fX6_57 rfl rfl ?_
  refine g_ishl dX6_write_18 ?_
  refine g_iconst (v := 1) dX6_write_19 (by decide) ?_
  refine g_isub dX6_write_20 ?_
  refine g_S3 dX6_write_21 vX6_68 (Nat.le_of_ble_eq_true rfl) (by decide) (ev_X6_within) ?_
  refine g_ifne (tgt := 30) dX6_write_24 (by decide) (fun c24 => absurd (bI_0.mpr ha) c24) (fun c24 => ?_)
  refine g_bipush (v := (-2)) dX6_write_27 (by decide) ?_
  exact g_iret dX6_write_29 rfl ⟨rfl, rfl⟩

set_option maxRecDepth 4000 in
theorem ev_X6_write_k {σ : r_Sg} {w : Nat} {sb : Option Nat} {fr : Nat → Nat} {nr : Nat} {p v : Nat} {a : Int32} (h : r_MH σ w sb fr nr) (hst : 0 < σ 19 0) (hp : p < 4) (hv : v < 4) (ha : 0 ≤ a ∧ a ≤ (1 <<< (σ 19 0 &&& 31)) - 1) : Ev 5 MX6_write [.ref 19, .int (nI p), .int (nI v), .int a] σ (some (.int 1)) (r_up (m_pu σ (4 * fr p + v) (r_pl w sb) (a ||| (r_syn (σ 20) a w <<< (σ 19 0 &&& 31))) w) 27 (4 * p + v) a) := by
  refine Ev_w [.ref 19, .int (nI p), .int (nI v), .int a] ?_ (by decide) rfl (Nat.le_of_ble_eq_true rfl) rfl
  refine g_aload_n dX6_write_0 rfl ?_
  refine g_iload_n dX6_write_1 rfl ?_
  refine g_iload_n dX6_write_2 rfl ?_
  refine g_V2 dX6_write_3 vX6_131 rfl (Nat.le_of_ble_eq_true rfl) (by decide) (ev_X6_isWord) ?_
  refine g_ifne (tgt := 11) dX6_write_6 (by decide) (fun c6 => ?_) (fun c6 => absurd c6 (bI_1.mpr ⟨hst, r_in3 hp, r_in3 hv⟩))
  refine g_iload_n dX6_write_11 rfl ?_
  refine g_iconst (v := 0) dX6_write_12 (by decide) ?_
  refine g_iconst (v := 1) dX6_write_13 (by decide) ?_
  refine g_aload_n dX6_write_14 rfl ?_
  refine g_getI dX6_write_15 fX6_57 rfl rfl ?_
  refine g_ishl dX6_write_18 ?_
  refine g_iconst (v := 1) dX6_write_19 (by decide) ?_
  refine g_isub dX6_write_20 ?_
  refine g_S3 dX6_write_21 vX6_68 (Nat.le_of_ble_eq_true rfl) (by decide) (ev_X6_within) ?_
  refine g_ifne (tgt := 30) dX6_write_24 (by decide) (fun c24 => ?_) (fun c24 => absurd c24 (bI_1.mpr ha))
  refine g_aload_n dX6_write_30 rfl ?_
  refine g_iload_n dX6_write_31 rfl ?_
  refine g_iload_n dX6_write_32 rfl ?_
  refine g_aload_n dX6_write_33 rfl ?_
  refine g_iload_n dX6_write_34 rfl ?_
  refine g_V1 dX6_write_35 vX6_102 rfl (Nat.le_of_ble_eq_true rfl) (by decide) (ev_X6_wordOf h.1 h.2.1) ?_
  refine g_V3v dX6_write_38 vX6_134 rfl (Nat.le_of_ble_eq_true rfl) (by decide) (ev_X6_puts h hp hv) ?_
  refine g_aload_n dX6_write_41 rfl ?_
  refine g_getR dX6_write_42 fX6_32 rfl rfl ?_
  refine g_iconst (v := nI 4) dX6_write_45 (by decide) ?_
  refine g_iload_n dX6_write_46 rfl ?_
  refine g_imul dX6_write_47 ?_
  refine g_iload_n dX6_write_48 rfl ?_
  refine g_iadd dX6_write_49 ?_
  refine g_t (show _ = nI (4 * p + v) from by rw [pk_mul, nI_add]) ?_
  refine g_iload_n dX6_write_50 rfl ?_
  refine g_ias _ dX6_write_51 rfl rfl (by omega) ?_
  refine g_iconst (v := 1) dX6_write_52 (by decide) ?_
  exact g_iret dX6_write_53 rfl ⟨rfl, rfl⟩

set_option maxRecDepth 4000 in
theorem ev_X6_read_u {σ : r_Sg} {p v : Int32} (hg : ¬ (0 < σ 19 0 ∧ (0 ≤ p ∧ p ≤ 3) ∧ 0 ≤ v ∧ v ≤ 3)) : Ev 5 MX6_read [.ref 19, .int p, .int v] σ (some (.int (-1))) σ := by
  refine Ev_w [.ref 19, .int p, .int v, .null] ?_ (by decide) rfl (Nat.le_of_ble_eq_true rfl) rfl
  refine g_aload_n dX6_read_0 rfl ?_
  refine g_iload_n dX6_read_1 rfl ?_
  refine g_iload_n dX6_read_2 rfl ?_
  refine g_V2 dX6_read_3 vX6_131 rfl (Nat.le_of_ble_eq_true rfl) (by decide) (ev_X6_isWord) ?_
  refine g_ifne (tgt := 11) dX6_read_6 (by decide) (fun c6 => absurd (bI_0.mpr hg) c6) (fun c6 => ?_)
  refine g_iconst (v := (-1)) dX6_read_9 (by decide) ?_
  exact g_iret dX6_read_10 rfl ⟨rfl, rfl⟩

set_option maxRecDepth 4000 in
theorem ev_X6_read_c {σ : r_Sg} {w : Nat} {sb : Option Nat} {fr : Nat → Nat} {nr : Nat} {p v : Nat} (h : r_MH σ w sb fr nr) (hst : 0 < σ 19 0) (hp : p < 4) (hv : v < 4) (hm : r_men (r_bit (σ 20) w) (r_rawF (fun b => σ 22 (21 * (4 * fr p + v) + r_pl w sb b)) w) (r_syn (σ 20) (r_rawF (fun b => σ 22 (21 * (4 * fr p + v) + r_pl w sb b)) w) w) = (r_rawF (fun b => σ 22 (21 * (4 * fr p + v) + r_pl w sb b)) w)) (hs : ¬ (r_rawF (fun b => σ 22 (21 * (4 * fr p + v) + r_pl w sb b)) w) = -5) : Ev 5 MX6_read [.ref 19, .int (nI p), .int (nI v)] σ (some (.int ((r_rawF (fun b => σ 22 (21 * (4 * fr p + v) + r_pl w sb b)) w) &&& ((1 <<< (σ 19 0 &&& 31)) - 1)))) (m_nl σ 0 (-9) (nI p) (nI v)) := by
  refine Ev_w [.ref 19, .int (nI p), .int (nI v), .null] ?_ (by decide) rfl (Nat.le_of_ble_eq_true rfl) rfl
  refine g_aload_n dX6_read_0 rfl ?_
  refine g_iload_n dX6_read_1 rfl ?_
  refine g_iload_n dX6_read_2 rfl ?_
  refine g_V2 dX6_read_3 vX6_131 rfl (Nat.le_of_ble_eq_true rfl) (by decide) (ev_X6_isWord) ?_
  refine g_ifne (tgt := 11) dX6_read_6 (by decide) (fun c6 => ?_) (fun c6 => absurd c6 (bI_1.mpr ⟨hst, r_in3 hp, r_in3 hv⟩))
  refine g_aload_n dX6_read_11 rfl ?_
  refine g_iload_n dX6_read_12 rfl ?_
  refine g_iload_n dX6_read_13 rfl ?_
  refine g_V2 dX6_read_14 vX6_165 rfl (Nat.le_of_ble_eq_true rfl) (by decide) (ev_X6_looksAt_c h hp hv hm hs) ?_
  refine g_istore_n dX6_read_17 (by decide) rfl ?_
  refine g_iload_n dX6_read_18 rfl ?_
  refine g_bipush (v := (-5)) dX6_read_19 (by decide) ?_
  refine g_icne (tgt := 29) dX6_read_21 (by decide) (fun c21 => ?_) (fun c21 => absurd c21 hs)
  refine g_iload_n dX6_read_29 rfl ?_
  refine g_iconst (v := 1) dX6_read_30 (by decide) ?_
  refine g_aload_n dX6_read_31 rfl ?_
  refine g_getI dX6_read_32 fX6_57 rfl rfl ?_
  refine g_ishl dX6_read_35 ?_
  refine g_iconst (v := 1) dX6_read_36 (by decide) ?_
  refine g_isub dX6_read_37 ?_
  refine g_iand dX6_read_38 ?_
  exact g_iret dX6_read_39 rfl ⟨rfl, rfl⟩

set_option maxRecDepth 4000 in
theorem ev_X6_read_f {σ : r_Sg} {w : Nat} {sb : Option Nat} {fr : Nat → Nat} {nr : Nat} {p v : Nat} (h : r_MH σ w sb fr nr) (hst : 0 < σ 19 0) (hp : p < 4) (hv : v < 4) (hm : r_men (r_bit (σ 20) w) (r_rawF (fun b => σ 22 (21 * (4 * fr p + v) + r_pl w sb b)) w) (r_syn (σ 20) (r_rawF (fun b => σ 22 (21 * (4 * fr p + v) + r_pl w sb b)) w) w) = -5) : Ev 5 MX6_read [.ref 19, .int (nI p), .int (nI v)] σ (some (.int (-5))) (m_nl σ 2 (-9) (nI p) (nI v)) := by
  refine Ev_w [.ref 19, .int (nI p), .int (nI v), .null] ?_ (by decide) rfl (Nat.le_of_ble_eq_true rfl) rfl
  refine g_aload_n dX6_read_0 rfl ?_
  refine g_iload_n dX6_read_1 rfl ?_
  refine g_iload_n dX6_read_2 rfl ?_
  refine g_V2 dX6_read_3 vX6_131 rfl (Nat.le_of_ble_eq_true rfl) (by decide) (ev_X6_isWord) ?_
  refine g_ifne (tgt := 11) dX6_read_6 (by decide) (fun c6 => ?_) (fun c6 => absurd c6 (bI_1.mpr ⟨hst, r_in3 hp, r_in3 hv⟩))
  refine g_aload_n dX6_read_11 rfl ?_
  refine g_iload_n dX6_read_12 rfl ?_
  refine g_iload_n dX6_read_13 rfl ?_
  refine g_V2 dX6_read_14 vX6_165 rfl (Nat.le_of_ble_eq_true rfl) (by decide) (ev_X6_looksAt_f h hp hv hm) ?_
  refine g_istore_n dX6_read_17 (by decide) rfl ?_
  refine g_iload_n dX6_read_18 rfl ?_
  refine g_bipush (v := (-5)) dX6_read_19 (by decide) ?_
  refine g_icne (tgt := 29) dX6_read_21 (by decide) (fun c21 => absurd rfl c21) (fun c21 => ?_)
  refine g_bipush (v := (-5)) dX6_read_24 (by decide) ?_
  refine g_goto (tgt := 39) dX6_read_26 (by decide) ?_
  exact g_iret dX6_read_39 rfl ⟨rfl, rfl⟩

theorem m_mb_19 (σ : r_Sg) (w : Nat) (sb : Option Nat) (fr : Nat → Nat) (nr p v b mt : Nat) {i : Nat} (h12 : i ≠ 12) (h14 : i ≠ 14) (h15 : i ≠ 15) : m_mb σ w sb fr nr p v b mt 19 i = σ 19 i := by
  have e1 : ∀ (s : r_Sg) (sb' : Option Nat), m_r1 s w sb' fr nr p 19 i = s 19 i := by
    intro s sb'
    unfold m_r1
    split
    · simp [r_up, upd, m_rt, h14, m_rfo_o]
    · rfl
  have e2 : ∀ (s : r_Sg), m_s1 s w sb b 19 i = s 19 i := by
    intro s
    unfold m_s1
    split
    · simp [r_up, upd, m_sw, h15, m_cp_o]
    · rfl
  unfold m_mb
  rw [e1, e2]
  have e3 : ∀ (s : r_Sg), m_tr s p mt 19 i = s 19 i := fun s => by
    have : m_tr s p mt 19 = m_t0 s p mt 19 := by simp [m_tr, r_up]
    rw [this, m_t0_19 s p mt h12]
  rw [e3]
  rfl

set_option maxRecDepth 4000 in
theorem ev_X6_read_m {σ : r_Sg} {w : Nat} {sb : Option Nat} {fr : Nat → Nat} {nr : Nat} {p v b mt : Nat} (h : r_MH σ w sb fr nr) (hst : 0 < σ 19 0) (hp : p < 4) (hv : v < 4) (hm : r_men (r_bit (σ 20) w) (r_rawF (fun b => σ 22 (21 * (4 * fr p + v) + r_pl w sb b)) w) (r_syn (σ 20) (r_rawF (fun b => σ 22 (21 * (4 * fr p + v) + r_pl w sb b)) w) w) = (r_rawF (fun b => σ 22 (21 * (4 * fr p + v) + r_pl w sb b)) w) ^^^ r_bm b) (hs : ¬ (r_rawF (fun b => σ 22 (21 * (4 * fr p + v) + r_pl w sb b)) w) ^^^ r_bm b = -5) (hs2 : ¬ (r_rawF (fun b => σ 22 (21 * (4 * fr p + v) + r_pl w sb b)) w) ^^^ r_bm b = (r_rawF (fun b => σ 22 (21 * (4 * fr p + v) + r_pl w sb b)) w)) (hbit : r_bit (σ 20) w (r_syn (σ 20) (r_rawF (fun b => σ 22 (21 * (4 * fr p + v) + r_pl w sb b)) w) w) = nI b) (hb : b < w) (hmt : σ 19 12 = nI mt) (hmt4 : σ 28 p = 0 → mt < 4) : Ev 5 MX6_read [.ref 19, .int (nI p), .int (nI v)] σ (some (.int (((r_rawF (fun b => σ 22 (21 * (4 * fr p + v) + r_pl w sb b)) w) ^^^ r_bm b) &&& ((1 <<< (σ 19 0 &&& 31)) - 1)))) (m_mb (m_nl σ 1 (nI b) (nI p) (nI v)) w sb fr nr p v b mt) := by
  refine Ev_w [.ref 19, .int (nI p), .int (nI v), .null] ?_ (by decide) rfl (Nat.le_of_ble_eq_true rfl) rfl
  refine g_aload_n dX6_read_0 rfl ?_
  refine g_iload_n dX6_read_1 rfl ?_
  refine g_iload_n dX6_read_2 rfl ?_
  refine g_V2 dX6_read_3 vX6_131 rfl (Nat.le_of_ble_eq_true rfl) (by decide) (ev_X6_isWord) ?_
  refine g_ifne (tgt := 11) dX6_read_6 (by decide) (fun c6 => ?_) (fun c6 => absurd c6 (bI_1.mpr ⟨hst, r_in3 hp, r_in3 hv⟩))
  refine g_aload_n dX6_read_11 rfl ?_
  refine g_iload_n dX6_read_12 rfl ?_
  refine g_iload_n dX6_read_13 rfl ?_
  refine g_V2 dX6_read_14 vX6_165 rfl (Nat.le_of_ble_eq_true rfl) (by decide) (ev_X6_looksAt_m h hp hv hm hs hs2 hbit hb hmt hmt4) ?_
  refine g_istore_n dX6_read_17 (by decide) rfl ?_
  refine g_iload_n dX6_read_18 rfl ?_
  refine g_bipush (v := (-5)) dX6_read_19 (by decide) ?_
  refine g_icne (tgt := 29) dX6_read_21 (by decide) (fun c21 => ?_) (fun c21 => absurd c21 hs)
  refine g_iload_n dX6_read_29 rfl ?_
  refine g_iconst (v := 1) dX6_read_30 (by decide) ?_
  refine g_aload_n dX6_read_31 rfl ?_
  refine g_getI dX6_read_32 fX6_57 rfl rfl ?_
  refine g_t (show _ = σ 19 0 from by rw [m_mb_19 _ _ _ _ _ _ _ _ _ (by decide) (by decide) (by decide)]; rfl) ?_
  refine g_ishl dX6_read_35 ?_
  refine g_iconst (v := 1) dX6_read_36 (by decide) ?_
  refine g_isub dX6_read_37 ?_
  refine g_iand dX6_read_38 ?_
  exact g_iret dX6_read_39 rfl ⟨rfl, rfl⟩

set_option maxRecDepth 4000 in
theorem ev_X6_raw_u {σ : r_Sg} {p v : Int32} (hg : ¬ (0 < σ 19 0 ∧ (0 ≤ p ∧ p ≤ 3) ∧ 0 ≤ v ∧ v ≤ 3)) : Ev 5 MX6_raw [.ref 19, .int p, .int v] σ (some (.int (-1))) σ := by
  refine Ev_w [.ref 19, .int p, .int v] ?_ (by decide) rfl (Nat.le_of_ble_eq_true rfl) rfl
  refine g_aload_n dX6_raw_0 rfl ?_
  refine g_iload_n dX6_raw_1 rfl ?_
  refine g_iload_n dX6_raw_2 rfl ?_
  refine g_V2 dX6_raw_3 vX6_131 rfl (Nat.le_of_ble_eq_true rfl) (by decide) (ev_X6_isWord) ?_
  refine g_ifeq (tgt := 18) dX6_raw_6 (by decide) (fun c6 => ?_) (fun c6 => absurd (bI_0.mpr hg) c6)
  refine g_iconst (v := (-1)) dX6_raw_18 (by decide) ?_
  exact g_iret dX6_raw_19 rfl ⟨rfl, rfl⟩

set_option maxRecDepth 4000 in
theorem ev_X6_raw_k {σ : r_Sg} {w : Nat} {sb : Option Nat} {fr : Nat → Nat} {nr : Nat} {p v : Nat} (h : r_MH σ w sb fr nr) (hst : 0 < σ 19 0) (hp : p < 4) (hv : v < 4) : Ev 5 MX6_raw [.ref 19, .int (nI p), .int (nI v)] σ (some (.int (r_rawF (fun b => σ 22 (21 * (4 * fr p + v) + r_pl w sb b)) w))) σ := by
  refine Ev_w [.ref 19, .int (nI p), .int (nI v)] ?_ (by decide) rfl (Nat.le_of_ble_eq_true rfl) rfl
  refine g_aload_n dX6_raw_0 rfl ?_
  refine g_iload_n dX6_raw_1 rfl ?_
  refine g_iload_n dX6_raw_2 rfl ?_
  refine g_V2 dX6_raw_3 vX6_131 rfl (Nat.le_of_ble_eq_true rfl) (by decide) (ev_X6_isWord) ?_
  refine g_ifeq (tgt := 18) dX6_raw_6 (by decide) (fun c6 => absurd c6 (bI_1.mpr ⟨hst, r_in3 hp, r_in3 hv⟩)) (fun c6 => ?_)
  refine g_aload_n dX6_raw_9 rfl ?_
  refine g_iload_n dX6_raw_10 rfl ?_
  refine g_iload_n dX6_raw_11 rfl ?_
  refine g_V2 dX6_raw_12 vX6_159 rfl (Nat.le_of_ble_eq_true rfl) (by decide) (ev_X6_rawOf h hp hv) ?_
  refine g_goto (tgt := 19) dX6_raw_15 (by decide) ?_
  exact g_iret dX6_raw_19 rfl ⟨rfl, rfl⟩

set_option maxRecDepth 4000 in
theorem ev_X6_flip_u {σ : r_Sg} {p v : Int32} {a : Int32} (hg : ¬ (0 < σ 19 0 ∧ (0 ≤ p ∧ p ≤ 3) ∧ 0 ≤ v ∧ v ≤ 3)) : Ev 5 MX6_flip [.ref 19, .int p, .int v, .int a] σ (some (.int (-1))) σ := by
  refine Ev_w [.ref 19, .int p, .int v, .int a, .null, .null, .null] ?_ (by decide) rfl (Nat.le_of_ble_eq_true rfl) rfl
  refine g_aload_n dX6_flip_0 rfl ?_
  refine g_iload_n dX6_flip_1 rfl ?_
  refine g_iload_n dX6_flip_2 rfl ?_
  refine g_V2 dX6_flip_3 vX6_131 rfl (Nat.le_of_ble_eq_true rfl) (by decide) (ev_X6_isWord) ?_
  refine g_ifne (tgt := 11) dX6_flip_6 (by decide) (fun c6 => absurd (bI_0.mpr hg) c6) (fun c6 => ?_)
  refine g_iconst (v := (-1)) dX6_flip_9 (by decide) ?_
  exact g_iret dX6_flip_10 rfl ⟨rfl, rfl⟩

set_option maxRecDepth 4000 in
theorem ev_X6_flip_o {σ : r_Sg} {p v : Nat} {a : Int32} (hst : 0 < σ 19 0) (hp : p < 4) (hv : v < 4) (ha : ¬ (0 ≤ a ∧ a ≤ (1 <<< ((σ 19 0 + σ 19 1) &&& 31)) - 1)) : Ev 5 MX6_flip [.ref 19, .int (nI p), .int (nI v), .int a] σ (some (.int (-2))) σ := by
  refine Ev_w [.ref 19, .int (nI p), .int (nI v), .int a, .null, .null, .null] ?_ (by decide) rfl (Nat.le_of_ble_eq_true rfl) rfl
  refine g_aload_n dX6_flip_0 rfl ?_
  refine g_iload_n dX6_flip_1 rfl ?_
  refine g_iload_n dX6_flip_2 rfl ?_
  refine g_V2 dX6_flip_3 vX6_131 rfl (Nat.le_of_ble_eq_true rfl) (by decide) (ev_X6_isWord) ?_
  refine g_ifne (tgt := 11) dX6_flip_6 (by decide) (fun c6 => ?_) (fun c6 => absurd c6 (bI_1.mpr ⟨hst, r_in3 hp, r_in3 hv⟩))
  refine g_aload_n dX6_flip_11 rfl ?_
  refine g_iload_n dX6_flip_12 rfl ?_
  refine g_V1 dX6_flip_13 vX6_105 rfl (Nat.le_of_ble_eq_true rfl) (by decide) (ev_X6_isSet) ?_
  refine g_ifne (tgt := 22) dX6_flip_16 (by decide) (fun c16 => absurd (bI_0.mpr ha) c16) (fun c16 => ?_)
  refine g_bipush (v := (-2)) dX6_flip_19 (by decide) ?_
  exact g_iret dX6_flip_21 rfl ⟨rfl, rfl⟩

set_option maxRecDepth 4000 in
theorem ev_X6_flip_k {σ : r_Sg} {w : Nat} {sb : Option Nat} {fr : Nat → Nat} {nr : Nat} {p v : Nat} {a : Int32} (h : r_MH σ w sb fr nr) (hst : 0 < σ 19 0) (hp : p < 4) (hv : v < 4) (ha : 0 ≤ a ∧ a ≤ (1 <<< ((σ 19 0 + σ 19 1) &&& 31)) - 1) : Ev 5 MX6_flip [.ref 19, .int (nI p), .int (nI v), .int a] σ (some (.int (m_fc σ (4 * fr p + v) (r_pl w sb) a w))) (m_fs σ (4 * fr p + v) (r_pl w sb) a w) := by
  have hw20 := h.2.1
  have hfr := (h.2.2.2.2.1 p hp).2
  refine Ev_w [.ref 19, .int (nI p), .int (nI v), .int a, .null, .null, .null] ?_ (by decide) rfl (Nat.le_of_ble_eq_true rfl) rfl
  refine g_aload_n dX6_flip_0 rfl ?_
  refine g_iload_n dX6_flip_1 rfl ?_
  refine g_iload_n dX6_flip_2 rfl ?_
  refine g_V2 dX6_flip_3 vX6_131 rfl (Nat.le_of_ble_eq_true rfl) (by decide) (ev_X6_isWord) ?_
  refine g_ifne (tgt := 11) dX6_flip_6 (by decide) (fun c6 => ?_) (fun c6 => absurd c6 (bI_1.mpr ⟨hst, r_in3 hp, r_in3 hv⟩))
  refine g_aload_n dX6_flip_11 rfl ?_
  refine g_iload_n dX6_flip_12 rfl ?_
  refine g_V1 dX6_flip_13 vX6_105 rfl (Nat.le_of_ble_eq_true rfl) (by decide) (ev_X6_isSet) ?_
  refine g_ifne (tgt := 22) dX6_flip_16 (by decide) (fun c16 => ?_) (fun c16 => absurd c16 (bI_1.mpr ha))
  refine g_iconst (v := 0) dX6_flip_22 (by decide) ?_
  refine g_istore dX6_flip_23 (by decide) rfl ?_
  refine g_iconst (v := 0) dX6_flip_25 (by decide) ?_
  refine g_istore dX6_flip_26 (by decide) rfl ?_
  refine r_loop (n := w) (fun k => [.ref 19, .int (nI p), .int (nI v), .int a, .int (m_fc σ (4 * fr p + v) (r_pl w sb) a k), .int (nI k), .null]) (fun k => m_fs σ (4 * fr p + v) (r_pl w sb) a k) (fun k hk ih => ?_) ?_
  · refine g_iload dX6_flip_28 rfl ?_
    refine g_aload_n dX6_flip_30 rfl ?_
    refine g_V0 dX6_flip_31 vX6_64 rfl (Nat.le_of_ble_eq_true rfl) (by decide) (Ev_r (r' := some (.int (nI w))) ev_X6_bits (by rw [(m_fsMH h _ _ _ _).1])) ?_
    refine g_icge (tgt := 92) dX6_flip_34 (by decide) (fun c34 => absurd c34 (nI_ge hk (by omega))) (fun c34 => ?_)
    have e23 : m_fs σ (4 * fr p + v) (r_pl w sb) a k 23 = σ 23 := m_fs_o σ _ _ a (by decide) k
    have hkp := r_pl_lt sb hk hw20
    refine g_aload_n dX6_flip_37 rfl ?_
    refine g_iload_n dX6_flip_38 rfl ?_
    refine g_iload_n dX6_flip_39 rfl ?_
    refine g_iload dX6_flip_40 rfl ?_
    refine g_V3 dX6_flip_42 vX6_128 rfl (Nat.le_of_ble_eq_true rfl) (by decide) (ev_X6_cellOf (m_fsMH h _ _ _ _) hp hk) ?_
    refine g_istore dX6_flip_45 (by decide) rfl ?_
    refine g_iload_n dX6_flip_47 rfl ?_
    refine g_iload dX6_flip_48 rfl ?_
    refine g_S2 dX6_flip_50 vX6_53 (Nat.le_of_ble_eq_true rfl) (by decide) (ev_X6_isIn) ?_
    refine g_iconst (v := 1) dX6_flip_53 (by decide) ?_
    refine g_icne (tgt := 86) dX6_flip_54 (by decide) (fun c54 => ?_) (fun c54 => ?_)
    · have e : ¬ (r_b a k = 1 ∧ σ 23 (21 * (4 * fr p + v) + r_pl w sb k) = 0) := fun z => c54 z.1
      refine g_iinc (v := nI (k + 1)) dX6_flip_86 rfl (nI_1 k) (by decide) rfl ?_
      refine g_goto (tgt := 28) dX6_flip_89 (by decide) ?_
      refine g_w [.ref 19, .int (nI p), .int (nI v), .int a, .int (m_fc σ (4 * fr p + v) (r_pl w sb) a (k + 1)), .int (nI (k + 1)), .null] (And.intro (Or.inr rfl) (And.intro (Or.inr rfl) (And.intro (Or.inr rfl) (And.intro (Or.inr rfl) (And.intro (Or.inr (by simp [m_fc, e])) (And.intro (Or.inr rfl) (And.intro (Or.inl rfl) True.intro))))))) ?_
      exact g_g (by simp [m_fs, e]) ih
    · refine g_aload_n dX6_flip_57 rfl ?_
      refine g_getR dX6_flip_58 fX6_19 rfl rfl ?_
      refine g_iload dX6_flip_61 rfl ?_
      refine g_zal _ dX6_flip_63 rfl rfl (by omega) ?_
      refine g_ifne (tgt := 86) dX6_flip_64 (by decide) (fun c64 => ?_) (fun c64 => ?_)
      · have e : ¬ (r_b a k = 1 ∧ σ 23 (21 * (4 * fr p + v) + r_pl w sb k) = 0) := fun z => c64 (by rw [e23]; exact z.2)
        refine g_iinc (v := nI (k + 1)) dX6_flip_86 rfl (nI_1 k) (by decide) rfl ?_
        refine g_goto (tgt := 28) dX6_flip_89 (by decide) ?_
        refine g_w [.ref 19, .int (nI p), .int (nI v), .int a, .int (m_fc σ (4 * fr p + v) (r_pl w sb) a (k + 1)), .int (nI (k + 1)), .null] (And.intro (Or.inr rfl) (And.intro (Or.inr rfl) (And.intro (Or.inr rfl) (And.intro (Or.inr rfl) (And.intro (Or.inr (by simp [m_fc, e])) (And.intro (Or.inr rfl) (And.intro (Or.inl rfl) True.intro))))))) ?_
        exact g_g (by simp [m_fs, e]) ih
      · have e : r_b a k = 1 ∧ σ 23 (21 * (4 * fr p + v) + r_pl w sb k) = 0 := ⟨c54, by rw [← e23]; exact c64⟩
        refine g_aload_n dX6_flip_67 rfl ?_
        refine g_getR dX6_flip_68 fX6_16 rfl rfl ?_
        refine g_iload dX6_flip_71 rfl ?_
        refine g_iconst (v := 1) dX6_flip_73 (by decide) ?_
        refine g_aload_n dX6_flip_74 rfl ?_
        refine g_getR dX6_flip_75 fX6_16 rfl rfl ?_
        refine g_iload dX6_flip_78 rfl ?_
        refine g_ial _ dX6_flip_80 rfl rfl (by omega) ?_
        refine g_isub dX6_flip_81 ?_
        refine g_ias _ dX6_flip_82 rfl rfl (by omega) ?_
        refine g_iinc (v := _ + 1) dX6_flip_83 rfl rfl (by decide) rfl ?_
        refine g_iinc (v := nI (k + 1)) dX6_flip_86 rfl (nI_1 k) (by decide) rfl ?_
        refine g_goto (tgt := 28) dX6_flip_89 (by decide) ?_
        refine g_w [.ref 19, .int (nI p), .int (nI v), .int a, .int (m_fc σ (4 * fr p + v) (r_pl w sb) a (k + 1)), .int (nI (k + 1)), .null] (And.intro (Or.inr rfl) (And.intro (Or.inr rfl) (And.intro (Or.inr rfl) (And.intro (Or.inr rfl) (And.intro (Or.inr (by simp [m_fc, e])) (And.intro (Or.inr rfl) (And.intro (Or.inl rfl) True.intro))))))) ?_
        exact g_g (by simp [m_fs, e]) ih
  · refine g_iload dX6_flip_28 rfl ?_
    refine g_aload_n dX6_flip_30 rfl ?_
    refine g_V0 dX6_flip_31 vX6_64 rfl (Nat.le_of_ble_eq_true rfl) (by decide) (Ev_r (r' := some (.int (nI w))) ev_X6_bits (by rw [(m_fsMH h _ _ _ _).1])) ?_
    refine g_icge (tgt := 92) dX6_flip_34 (by decide) (fun c34 => ?_) (fun c34 => absurd (nI_le (Nat.le_refl _) (by omega)) c34)
    refine g_iload dX6_flip_92 rfl ?_
    exact g_iret dX6_flip_94 rfl ⟨rfl, rfl⟩

set_option maxRecDepth 4000 in
theorem ev_X6_stick_u {σ : r_Sg} {p v : Int32} {b a : Int32} (hg : ¬ ((0 < σ 19 0 ∧ (0 ≤ p ∧ p ≤ 3) ∧ 0 ≤ v ∧ v ≤ 3) ∧ (0 ≤ b ∧ b ≤ σ 19 0 + σ 19 1 - 1))) : Ev 5 MX6_stick [.ref 19, .int p, .int v, .int b, .int a] σ (some (.int (-1))) σ := by
  refine Ev_w [.ref 19, .int p, .int v, .int b, .int a, .null, .null] ?_ (by decide) rfl (Nat.le_of_ble_eq_true rfl) rfl
  refine g_aload_n dX6_stick_0 rfl ?_
  refine g_iload_n dX6_stick_1 rfl ?_
  refine g_iload_n dX6_stick_2 rfl ?_
  refine g_V2 dX6_stick_3 vX6_131 rfl (Nat.le_of_ble_eq_true rfl) (by decide) (ev_X6_isWord) ?_
  refine g_ifeq (tgt := 17) dX6_stick_6 (by decide) (fun c6 => ?_) (fun c6 => ?_)
  · refine g_iconst (v := (-1)) dX6_stick_17 (by decide) ?_
    exact g_iret dX6_stick_18 rfl ⟨rfl, rfl⟩
  · refine g_aload_n dX6_stick_9 rfl ?_
    refine g_iload_n dX6_stick_10 rfl ?_
    refine g_V1 dX6_stick_11 vX6_92 rfl (Nat.le_of_ble_eq_true rfl) (by decide) (ev_X6_isBit) ?_
    refine g_ifne (tgt := 19) dX6_stick_14 (by decide) (fun c14 => absurd (bI_0.mpr (fun z => hg ⟨bI_1.mp c6, z⟩)) c14) (fun c14 => ?_)
    refine g_iconst (v := (-1)) dX6_stick_17 (by decide) ?_
    exact g_iret dX6_stick_18 rfl ⟨rfl, rfl⟩

set_option maxRecDepth 4000 in
theorem ev_X6_stick_o {σ : r_Sg} {p v b : Nat} {a : Int32} (hst : 0 < σ 19 0) (hp : p < 4) (hv : v < 4) (hb : 0 ≤ nI b ∧ nI b ≤ σ 19 0 + σ 19 1 - 1) (ha : ¬ (0 ≤ a ∧ a ≤ 2)) : Ev 5 MX6_stick [.ref 19, .int (nI p), .int (nI v), .int (nI b), .int a] σ (some (.int (-2))) σ := by
  refine Ev_w [.ref 19, .int (nI p), .int (nI v), .int (nI b), .int a, .null, .null] ?_ (by decide) rfl (Nat.le_of_ble_eq_true rfl) rfl
  refine g_aload_n dX6_stick_0 rfl ?_
  refine g_iload_n dX6_stick_1 rfl ?_
  refine g_iload_n dX6_stick_2 rfl ?_
  refine g_V2 dX6_stick_3 vX6_131 rfl (Nat.le_of_ble_eq_true rfl) (by decide) (ev_X6_isWord) ?_
  refine g_ifeq (tgt := 17) dX6_stick_6 (by decide) (fun c6 => absurd c6 (bI_1.mpr ⟨hst, r_in3 hp, r_in3 hv⟩)) (fun c6 => ?_)
  refine g_aload_n dX6_stick_9 rfl ?_
  refine g_iload_n dX6_stick_10 rfl ?_
  refine g_V1 dX6_stick_11 vX6_92 rfl (Nat.le_of_ble_eq_true rfl) (by decide) (ev_X6_isBit) ?_
  refine g_ifne (tgt := 19) dX6_stick_14 (by decide) (fun c14 => ?_) (fun c14 => absurd c14 (bI_1.mpr hb))
  refine g_iload dX6_stick_19 rfl ?_
  refine g_iconst (v := 0) dX6_stick_21 (by decide) ?_
  refine g_iconst (v := 2) dX6_stick_22 (by decide) ?_
  refine g_S3 dX6_stick_23 vX6_68 (Nat.le_of_ble_eq_true rfl) (by decide) (ev_X6_within) ?_
  refine g_ifne (tgt := 32) dX6_stick_26 (by decide) (fun c26 => absurd (bI_0.mpr ha) c26) (fun c26 => ?_)
  refine g_bipush (v := (-2)) dX6_stick_29 (by decide) ?_
  exact g_iret dX6_stick_31 rfl ⟨rfl, rfl⟩

set_option maxRecDepth 4000 in
theorem ev_X6_stick_l {σ : r_Sg} {w : Nat} {sb : Option Nat} {fr : Nat → Nat} {nr : Nat} {p v b : Nat} (h : r_MH σ w sb fr nr) (hst : 0 < σ 19 0) (hp : p < 4) (hv : v < 4) (hb : 0 ≤ nI b ∧ nI b ≤ σ 19 0 + σ 19 1 - 1) (hbw : b < w) : Ev 5 MX6_stick [.ref 19, .int (nI p), .int (nI v), .int (nI b), .int 2] σ (some (.int (σ 22 (21 * (4 * fr p + v) + r_pl w sb b)))) (r_up (r_up σ 22 (21 * (4 * fr p + v) + r_pl w sb b) (σ 22 (21 * (4 * fr p + v) + r_pl w sb b))) 23 (21 * (4 * fr p + v) + r_pl w sb b) 0) := by
  have hw20 := h.2.1
  have hfr := (h.2.2.2.2.1 p hp).2
  have hbp := r_pl_lt sb hbw hw20
  refine Ev_w [.ref 19, .int (nI p), .int (nI v), .int (nI b), .int 2, .null, .null] ?_ (by decide) rfl (Nat.le_of_ble_eq_true rfl) rfl
  refine g_aload_n dX6_stick_0 rfl ?_
  refine g_iload_n dX6_stick_1 rfl ?_
  refine g_iload_n dX6_stick_2 rfl ?_
  refine g_V2 dX6_stick_3 vX6_131 rfl (Nat.le_of_ble_eq_true rfl) (by decide) (ev_X6_isWord) ?_
  refine g_ifeq (tgt := 17) dX6_stick_6 (by decide) (fun c6 => absurd c6 (bI_1.mpr ⟨hst, r_in3 hp, r_in3 hv⟩)) (fun c6 => ?_)
  refine g_aload_n dX6_stick_9 rfl ?_
  refine g_iload_n dX6_stick_10 rfl ?_
  refine g_V1 dX6_stick_11 vX6_92 rfl (Nat.le_of_ble_eq_true rfl) (by decide) (ev_X6_isBit) ?_
  refine g_ifne (tgt := 19) dX6_stick_14 (by decide) (fun c14 => ?_) (fun c14 => absurd c14 (bI_1.mpr hb))
  refine g_iload dX6_stick_19 rfl ?_
  refine g_iconst (v := 0) dX6_stick_21 (by decide) ?_
  refine g_iconst (v := 2) dX6_stick_22 (by decide) ?_
  refine g_S3 dX6_stick_23 vX6_68 (Nat.le_of_ble_eq_true rfl) (by decide) (ev_X6_within) ?_
  refine g_ifne (tgt := 32) dX6_stick_26 (by decide) (fun c26 => ?_) (fun c26 => absurd c26 (bI_1.mpr (by decide)))
  refine g_aload_n dX6_stick_32 rfl ?_
  refine g_iload_n dX6_stick_33 rfl ?_
  refine g_iload_n dX6_stick_34 rfl ?_
  refine g_iload_n dX6_stick_35 rfl ?_
  refine g_V3 dX6_stick_36 vX6_128 rfl (Nat.le_of_ble_eq_true rfl) (by decide) (ev_X6_cellOf h hp hbw) ?_
  refine g_istore dX6_stick_39 (by decide) rfl ?_
  refine g_aload_n dX6_stick_41 rfl ?_
  refine g_getR dX6_stick_42 fX6_16 rfl rfl ?_
  refine g_iload dX6_stick_45 rfl ?_
  refine g_ial _ dX6_stick_47 rfl rfl (by omega) ?_
  refine g_istore dX6_stick_48 (by decide) rfl ?_
  refine g_aload_n dX6_stick_50 rfl ?_
  refine g_getR dX6_stick_51 fX6_16 rfl rfl ?_
  refine g_iload dX6_stick_54 rfl ?_
  refine g_iload dX6_stick_56 rfl ?_
  refine g_iconst (v := 2) dX6_stick_58 (by decide) ?_
  refine g_icne (tgt := 67) dX6_stick_59 (by decide) (fun c59 => absurd rfl c59) (fun c59 => ?_)
  refine g_iload dX6_stick_62 rfl ?_
  refine g_goto (tgt := 69) dX6_stick_64 (by decide) ?_
  refine g_ias _ dX6_stick_69 rfl rfl (by omega) ?_
  refine g_aload_n dX6_stick_70 rfl ?_
  refine g_getR dX6_stick_71 fX6_19 rfl rfl ?_
  refine g_iload dX6_stick_74 rfl ?_
  refine g_iload dX6_stick_76 rfl ?_
  refine g_iconst (v := 2) dX6_stick_78 (by decide) ?_
  refine g_iceq (tgt := 86) dX6_stick_79 (by decide) (fun c79 => ?_) (fun c79 => absurd rfl c79)
  refine g_iconst (v := 0) dX6_stick_86 (by decide) ?_
  refine g_zas _ dX6_stick_87 rfl rfl (by omega) (by decide) ?_
  refine g_iload dX6_stick_88 rfl ?_
  exact g_iret dX6_stick_90 rfl ⟨rfl, rfl⟩

set_option maxRecDepth 4000 in
theorem ev_X6_stick_h {σ : r_Sg} {w : Nat} {sb : Option Nat} {fr : Nat → Nat} {nr : Nat} {p v b : Nat} {a : Int32} (h : r_MH σ w sb fr nr) (hst : 0 < σ 19 0) (hp : p < 4) (hv : v < 4) (hb : 0 ≤ nI b ∧ nI b ≤ σ 19 0 + σ 19 1 - 1) (hbw : b < w) (ha : a = 0 ∨ a = 1) : Ev 5 MX6_stick [.ref 19, .int (nI p), .int (nI v), .int (nI b), .int a] σ (some (.int (σ 22 (21 * (4 * fr p + v) + r_pl w sb b)))) (r_up (r_up σ 22 (21 * (4 * fr p + v) + r_pl w sb b) a) 23 (21 * (4 * fr p + v) + r_pl w sb b) 1) := by
  have hw20 := h.2.1
  have hfr := (h.2.2.2.2.1 p hp).2
  have hbp := r_pl_lt sb hbw hw20
  refine Ev_w [.ref 19, .int (nI p), .int (nI v), .int (nI b), .int a, .null, .null] ?_ (by decide) rfl (Nat.le_of_ble_eq_true rfl) rfl
  refine g_aload_n dX6_stick_0 rfl ?_
  refine g_iload_n dX6_stick_1 rfl ?_
  refine g_iload_n dX6_stick_2 rfl ?_
  refine g_V2 dX6_stick_3 vX6_131 rfl (Nat.le_of_ble_eq_true rfl) (by decide) (ev_X6_isWord) ?_
  refine g_ifeq (tgt := 17) dX6_stick_6 (by decide) (fun c6 => absurd c6 (bI_1.mpr ⟨hst, r_in3 hp, r_in3 hv⟩)) (fun c6 => ?_)
  refine g_aload_n dX6_stick_9 rfl ?_
  refine g_iload_n dX6_stick_10 rfl ?_
  refine g_V1 dX6_stick_11 vX6_92 rfl (Nat.le_of_ble_eq_true rfl) (by decide) (ev_X6_isBit) ?_
  refine g_ifne (tgt := 19) dX6_stick_14 (by decide) (fun c14 => ?_) (fun c14 => absurd c14 (bI_1.mpr hb))
  refine g_iload dX6_stick_19 rfl ?_
  refine g_iconst (v := 0) dX6_stick_21 (by decide) ?_
  refine g_iconst (v := 2) dX6_stick_22 (by decide) ?_
  refine g_S3 dX6_stick_23 vX6_68 (Nat.le_of_ble_eq_true rfl) (by decide) (ev_X6_within) ?_
  refine g_ifne (tgt := 32) dX6_stick_26 (by decide) (fun c26 => ?_) (fun c26 => absurd c26 (bI_1.mpr (by rcases ha with rfl | rfl <;> decide)))
  refine g_aload_n dX6_stick_32 rfl ?_
  refine g_iload_n dX6_stick_33 rfl ?_
  refine g_iload_n dX6_stick_34 rfl ?_
  refine g_iload_n dX6_stick_35 rfl ?_
  refine g_V3 dX6_stick_36 vX6_128 rfl (Nat.le_of_ble_eq_true rfl) (by decide) (ev_X6_cellOf h hp hbw) ?_
  refine g_istore dX6_stick_39 (by decide) rfl ?_
  refine g_aload_n dX6_stick_41 rfl ?_
  refine g_getR dX6_stick_42 fX6_16 rfl rfl ?_
  refine g_iload dX6_stick_45 rfl ?_
  refine g_ial _ dX6_stick_47 rfl rfl (by omega) ?_
  refine g_istore dX6_stick_48 (by decide) rfl ?_
  refine g_aload_n dX6_stick_50 rfl ?_
  refine g_getR dX6_stick_51 fX6_16 rfl rfl ?_
  refine g_iload dX6_stick_54 rfl ?_
  refine g_iload dX6_stick_56 rfl ?_
  refine g_iconst (v := 2) dX6_stick_58 (by decide) ?_
  refine g_icne (tgt := 67) dX6_stick_59 (by decide) (fun c59 => ?_) (fun c59 => absurd c59 (by rcases ha with rfl | rfl <;> decide))
  refine g_iload dX6_stick_67 rfl ?_
  refine g_ias _ dX6_stick_69 rfl rfl (by omega) ?_
  refine g_aload_n dX6_stick_70 rfl ?_
  refine g_getR dX6_stick_71 fX6_19 rfl rfl ?_
  refine g_iload dX6_stick_74 rfl ?_
  refine g_iload dX6_stick_76 rfl ?_
  refine g_iconst (v := 2) dX6_stick_78 (by decide) ?_
  refine g_iceq (tgt := 86) dX6_stick_79 (by decide) (fun c79 => absurd c79 (by rcases ha with rfl | rfl <;> decide)) (fun c79 => ?_)
  refine g_iconst (v := 1) dX6_stick_82 (by decide) ?_
  refine g_goto (tgt := 87) dX6_stick_83 (by decide) ?_
  refine g_zas _ dX6_stick_87 rfl rfl (by omega) (by decide) ?_
  refine g_iload dX6_stick_88 rfl ?_
  exact g_iret dX6_stick_90 rfl ⟨rfl, rfl⟩

set_option maxRecDepth 4000 in
theorem ev_X6_scrub_o {σ : r_Sg} {n : Int32} (hg : ¬ (0 ≤ n ∧ n ≤ 64)) : Ev 6 MX6_scrub [.ref 19, .int n] σ (some (.int (-2))) σ := by
  refine Ev_w [.ref 19, .int n, .null, .null, .null, .null, .null] ?_ (by decide) rfl (Nat.le_of_ble_eq_true rfl) rfl
  refine g_iload_n dX6_scrub_0 rfl ?_
  refine g_iconst (v := 0) dX6_scrub_1 (by decide) ?_
  refine g_bipush (v := 64) dX6_scrub_2 (by decide) ?_
  refine g_S3 dX6_scrub_4 vX6_68 (Nat.le_of_ble_eq_true rfl) (by decide) (ev_X6_within) ?_
  refine g_ifne (tgt := 13) dX6_scrub_7 (by decide) (fun c7 => absurd (bI_0.mpr hg) c7) (fun c7 => ?_)
  refine g_bipush (v := (-2)) dX6_scrub_10 (by decide) ?_
  exact g_iret dX6_scrub_12 rfl ⟨rfl, rfl⟩

set_option maxRecDepth 4000 in
theorem ev_X6_scrub_s {σ : r_Sg} {n : Int32} (hg : 0 ≤ n ∧ n ≤ 64) (hst : σ 19 0 = 0) : Ev 6 MX6_scrub [.ref 19, .int n] σ (some (.int (-3))) σ := by
  refine Ev_w [.ref 19, .int n, .null, .null, .null, .null, .null] ?_ (by decide) rfl (Nat.le_of_ble_eq_true rfl) rfl
  refine g_iload_n dX6_scrub_0 rfl ?_
  refine g_iconst (v := 0) dX6_scrub_1 (by decide) ?_
  refine g_bipush (v := 64) dX6_scrub_2 (by decide) ?_
  refine g_S3 dX6_scrub_4 vX6_68 (Nat.le_of_ble_eq_true rfl) (by decide) (ev_X6_within) ?_
  refine g_ifne (tgt := 13) dX6_scrub_7 (by decide) (fun c7 => ?_) (fun c7 => absurd c7 (bI_1.mpr hg))
  refine g_aload_n dX6_scrub_13 rfl ?_
  refine g_getI dX6_scrub_14 fX6_57 rfl rfl ?_
  refine g_ifne (tgt := 23) dX6_scrub_17 (by decide) (fun c17 => absurd hst c17) (fun c17 => ?_)
  refine g_bipush (v := (-3)) dX6_scrub_20 (by decide) ?_
  exact g_iret dX6_scrub_22 rfl ⟨rfl, rfl⟩

set_option maxRecDepth 4000 in
theorem ev_X6_scrub_k {sq : Nat → r_Sg} {xq : Nat → Int32} {n : Nat} (hn : n ≤ 64) (hst : ¬ (sq 0) 19 0 = 0) (hq : ∀ k, k < n → m_scr (sq k) (xq k) (sq (k + 1))) : Ev 6 MX6_scrub [.ref 19, .int (nI n)] (sq 0) (some (.int (r_sum xq n))) (sq n) := by
  refine Ev_w [.ref 19, .int (nI n), .null, .null, .null, .null, .null] ?_ (by decide) rfl (Nat.le_of_ble_eq_true rfl) rfl
  refine g_iload_n dX6_scrub_0 rfl ?_
  refine g_iconst (v := 0) dX6_scrub_1 (by decide) ?_
  refine g_bipush (v := 64) dX6_scrub_2 (by decide) ?_
  refine g_S3 dX6_scrub_4 vX6_68 (Nat.le_of_ble_eq_true rfl) (by decide) (ev_X6_within) ?_
  refine g_ifne (tgt := 13) dX6_scrub_7 (by decide) (fun c7 => ?_) (fun c7 => absurd c7 (bI_1.mpr ⟨nI_pos' (by omega), nI_le (b := 64) hn (by omega)⟩))
  refine g_aload_n dX6_scrub_13 rfl ?_
  refine g_getI dX6_scrub_14 fX6_57 rfl rfl ?_
  refine g_ifne (tgt := 23) dX6_scrub_17 (by decide) (fun c17 => ?_) (fun c17 => absurd c17 hst)
  refine g_iconst (v := 0) dX6_scrub_23 (by decide) ?_
  refine g_istore_n dX6_scrub_24 (by decide) rfl ?_
  refine g_iconst (v := 0) dX6_scrub_25 (by decide) ?_
  refine g_istore_n dX6_scrub_26 (by decide) rfl ?_
  refine r_loop (n := n) (fun k => [.ref 19, .int (nI n), .int (r_sum xq k), .int (nI k), .null, .null, .null]) (fun k => sq k) (fun k hk ih => ?_) ?_
  · refine g_iload_n dX6_scrub_27 rfl ?_
    refine g_iload_n dX6_scrub_28 rfl ?_
    refine g_icge (tgt := 100) dX6_scrub_29 (by decide) (fun c29 => absurd c29 (nI_ge hk (by omega))) (fun c29 => ?_)
    obtain ⟨nx, i, t, u, h1, h2, h3, h4, h5, h6⟩ := hq k hk
    refine g_aload_n dX6_scrub_32 rfl ?_
    refine g_getI dX6_scrub_33 fX6_121 rfl rfl ?_
    refine g_t h1 ?_
    refine g_iconst (v := nI 4) dX6_scrub_36 (by decide) ?_
    refine g_idiv dX6_scrub_37 (by decide) ?_
    refine g_t (pk_div (show nx < 2 ^ 31 by omega) (by omega) (by omega)) ?_
    refine g_istore dX6_scrub_38 (by decide) rfl ?_
    refine g_aload_n dX6_scrub_40 rfl ?_
    refine g_getI dX6_scrub_41 fX6_121 rfl rfl ?_
    refine g_t h1 ?_
    refine g_iconst (v := nI 4) dX6_scrub_44 (by decide) ?_
    refine g_irem dX6_scrub_45 (by decide) ?_
    refine g_t (pk_rem (show nx < 2 ^ 31 by omega) (by omega) (by omega)) ?_
    refine g_istore dX6_scrub_46 (by decide) rfl ?_
    refine g_aload_n dX6_scrub_48 rfl ?_
    refine g_iload dX6_scrub_49 rfl ?_
    refine g_iload dX6_scrub_51 rfl ?_
    refine g_V2 dX6_scrub_53 vX6_165 rfl (Nat.le_of_ble_eq_true rfl) (by decide) (h3) ?_
    refine g_istore dX6_scrub_56 (by decide) rfl ?_
    refine g_aload_n dX6_scrub_58 rfl ?_
    refine g_getR dX6_scrub_59 fX6_47 rfl rfl ?_
    refine g_iconst (v := nI 0) dX6_scrub_62 (by decide) ?_
    refine g_ial _ dX6_scrub_63 rfl rfl (by omega) ?_
    refine g_iconst (v := 1) dX6_scrub_64 (by decide) ?_
    refine g_icne (tgt := 81) dX6_scrub_65 (by decide) (fun c65 => ?_) (fun c65 => ?_)
    · have h4 := h4.resolve_left (fun z => c65 z.1)
      obtain ⟨-, h7, h8⟩ := h4
      subst h7
      refine g_aload_n dX6_scrub_81 rfl ?_
      refine g_aload_n dX6_scrub_82 rfl ?_
      refine g_getI dX6_scrub_83 fX6_121 rfl rfl ?_
      refine g_t h5 ?_
      refine g_iconst (v := 1) dX6_scrub_86 (by decide) ?_
      refine g_iadd dX6_scrub_87 ?_
      refine g_t (nI_1 nx) ?_
      refine g_bipush (v := nI 16) dX6_scrub_88 (by decide) ?_
      refine g_irem dX6_scrub_90 (by decide) ?_
      refine g_t (pk_rem (show nx + 1 < 2 ^ 31 by omega) (by omega) (by omega)) ?_
      refine g_putI dX6_scrub_91 pX6_121 rfl rfl ?_
      refine g_iinc (v := nI (k + 1)) dX6_scrub_94 rfl (nI_1 k) (by decide) rfl ?_
      refine g_goto (tgt := 27) dX6_scrub_97 (by decide) ?_
      rw [← h6]
      refine g_w [.ref 19, .int (nI n), .int (r_sum xq (k + 1)), .int (nI (k + 1)), .null, .null, .null] (And.intro (Or.inr rfl) (And.intro (Or.inr rfl) (And.intro (Or.inr (by simp [r_sum, h8])) (And.intro (Or.inr rfl) (And.intro (Or.inl rfl) (And.intro (Or.inl rfl) (And.intro (Or.inl rfl) True.intro))))))) ?_
      exact ih
    · have h4 := h4.resolve_right (fun z => z.1 c65)
      obtain ⟨-, h7, h8⟩ := h4
      refine g_aload_n dX6_scrub_68 rfl ?_
      refine g_iload dX6_scrub_69 rfl ?_
      refine g_iload dX6_scrub_71 rfl ?_
      refine g_iload dX6_scrub_73 rfl ?_
      refine g_V3v dX6_scrub_75 vX6_134 rfl (Nat.le_of_ble_eq_true rfl) (by decide) (h7) ?_
      refine g_iinc (v := _ + 1) dX6_scrub_78 rfl rfl (by decide) rfl ?_
      refine g_aload_n dX6_scrub_81 rfl ?_
      refine g_aload_n dX6_scrub_82 rfl ?_
      refine g_getI dX6_scrub_83 fX6_121 rfl rfl ?_
      refine g_t h5 ?_
      refine g_iconst (v := 1) dX6_scrub_86 (by decide) ?_
      refine g_iadd dX6_scrub_87 ?_
      refine g_t (nI_1 nx) ?_
      refine g_bipush (v := nI 16) dX6_scrub_88 (by decide) ?_
      refine g_irem dX6_scrub_90 (by decide) ?_
      refine g_t (pk_rem (show nx + 1 < 2 ^ 31 by omega) (by omega) (by omega)) ?_
      refine g_putI dX6_scrub_91 pX6_121 rfl rfl ?_
      refine g_iinc (v := nI (k + 1)) dX6_scrub_94 rfl (nI_1 k) (by decide) rfl ?_
      refine g_goto (tgt := 27) dX6_scrub_97 (by decide) ?_
      rw [← h6]
      refine g_w [.ref 19, .int (nI n), .int (r_sum xq (k + 1)), .int (nI (k + 1)), .null, .null, .null] (And.intro (Or.inr rfl) (And.intro (Or.inr rfl) (And.intro (Or.inr (by simp [r_sum, h8])) (And.intro (Or.inr rfl) (And.intro (Or.inl rfl) (And.intro (Or.inl rfl) (And.intro (Or.inl rfl) True.intro))))))) ?_
      exact ih
  · refine g_iload_n dX6_scrub_27 rfl ?_
    refine g_iload_n dX6_scrub_28 rfl ?_
    refine g_icge (tgt := 100) dX6_scrub_29 (by decide) (fun c29 => ?_) (fun c29 => absurd (nI_le (Nat.le_refl _) (by omega)) c29)
    refine g_iload_n dX6_scrub_100 rfl ?_
    exact g_iret dX6_scrub_101 rfl ⟨rfl, rfl⟩

set_option maxRecDepth 4000 in
theorem ev_X6_look_o {σ : r_Sg} {n : Int32} (hg : ¬ (0 ≤ n ∧ n ≤ 5)) : Ev 5 MX6_look [.ref 19, .int n] σ (some (.int (-2))) σ := by
  refine Ev_w [.ref 19, .int n] ?_ (by decide) rfl (Nat.le_of_ble_eq_true rfl) rfl
  refine g_iload_n dX6_look_0 rfl ?_
  refine g_iconst (v := 0) dX6_look_1 (by decide) ?_
  refine g_iconst (v := 5) dX6_look_2 (by decide) ?_
  refine g_S3 dX6_look_3 vX6_68 (Nat.le_of_ble_eq_true rfl) (by decide) (ev_X6_within) ?_
  refine g_ifeq (tgt := 18) dX6_look_6 (by decide) (fun c6 => ?_) (fun c6 => absurd (bI_0.mpr hg) c6)
  refine g_bipush (v := (-2)) dX6_look_18 (by decide) ?_
  exact g_iret dX6_look_20 rfl ⟨rfl, rfl⟩

set_option maxRecDepth 4000 in
theorem ev_X6_look_k {σ : r_Sg} {n : Nat} (hn : n < 6) : Ev 5 MX6_look [.ref 19, .int (nI n)] σ (some (.int (σ 32 n))) σ := by
  refine Ev_w [.ref 19, .int (nI n)] ?_ (by decide) rfl (Nat.le_of_ble_eq_true rfl) rfl
  refine g_iload_n dX6_look_0 rfl ?_
  refine g_iconst (v := 0) dX6_look_1 (by decide) ?_
  refine g_iconst (v := 5) dX6_look_2 (by decide) ?_
  refine g_S3 dX6_look_3 vX6_68 (Nat.le_of_ble_eq_true rfl) (by decide) (ev_X6_within) ?_
  refine g_ifeq (tgt := 18) dX6_look_6 (by decide) (fun c6 => absurd c6 (bI_1.mpr ⟨nI_pos' (by omega), nI_le (b := 5) (by omega) (by omega)⟩)) (fun c6 => ?_)
  refine g_aload_n dX6_look_9 rfl ?_
  refine g_getR dX6_look_10 fX6_47 rfl rfl ?_
  refine g_iload_n dX6_look_13 rfl ?_
  refine g_ial _ dX6_look_14 rfl rfl (by omega) ?_
  refine g_goto (tgt := 20) dX6_look_15 (by decide) ?_
  exact g_iret dX6_look_20 rfl ⟨rfl, rfl⟩

set_option maxRecDepth 4000 in
theorem ev_X6_fate_u {σ : r_Sg} {p v : Int32} {a : Int32} (hg : ¬ (0 < σ 19 0 ∧ (0 ≤ p ∧ p ≤ 3) ∧ 0 ≤ v ∧ v ≤ 3)) : Ev 5 MX6_fate [.ref 19, .int p, .int v, .int a] σ (some (.int (-1))) σ := by
  refine Ev_w [.ref 19, .int p, .int v, .int a, .null, .null, .null] ?_ (by decide) rfl (Nat.le_of_ble_eq_true rfl) rfl
  refine g_aload_n dX6_fate_0 rfl ?_
  refine g_iload_n dX6_fate_1 rfl ?_
  refine g_iload_n dX6_fate_2 rfl ?_
  refine g_V2 dX6_fate_3 vX6_131 rfl (Nat.le_of_ble_eq_true rfl) (by decide) (ev_X6_isWord) ?_
  refine g_ifne (tgt := 11) dX6_fate_6 (by decide) (fun c6 => absurd (bI_0.mpr hg) c6) (fun c6 => ?_)
  refine g_iconst (v := (-1)) dX6_fate_9 (by decide) ?_
  exact g_iret dX6_fate_10 rfl ⟨rfl, rfl⟩

set_option maxRecDepth 4000 in
theorem ev_X6_fate_o {σ : r_Sg} {p v : Nat} {a : Int32} (hst : 0 < σ 19 0) (hp : p < 4) (hv : v < 4) (ha : ¬ (0 ≤ a ∧ a ≤ (1 <<< ((σ 19 0 + σ 19 1) &&& 31)) - 1)) : Ev 5 MX6_fate [.ref 19, .int (nI p), .int (nI v), .int a] σ (some (.int (-2))) σ := by
  refine Ev_w [.ref 19, .int (nI p), .int (nI v), .int a, .null, .null, .null] ?_ (by decide) rfl (Nat.le_of_ble_eq_true rfl) rfl
  refine g_aload_n dX6_fate_0 rfl ?_
  refine g_iload_n dX6_fate_1 rfl ?_
  refine g_iload_n dX6_fate_2 rfl ?_
  refine g_V2 dX6_fate_3 vX6_131 rfl (Nat.le_of_ble_eq_true rfl) (by decide) (ev_X6_isWord) ?_
  refine g_ifne (tgt := 11) dX6_fate_6 (by decide) (fun c6 => ?_) (fun c6 => absurd c6 (bI_1.mpr ⟨hst, r_in3 hp, r_in3 hv⟩))
  refine g_aload_n dX6_fate_11 rfl ?_
  refine g_iload_n dX6_fate_12 rfl ?_
  refine g_V1 dX6_fate_13 vX6_105 rfl (Nat.le_of_ble_eq_true rfl) (by decide) (ev_X6_isSet) ?_
  refine g_ifne (tgt := 22) dX6_fate_16 (by decide) (fun c16 => absurd (bI_0.mpr ha) c16) (fun c16 => ?_)
  refine g_bipush (v := (-2)) dX6_fate_19 (by decide) ?_
  exact g_iret dX6_fate_21 rfl ⟨rfl, rfl⟩

set_option maxRecDepth 4000 in
theorem ev_X6_fate_k {σ : r_Sg} {w : Nat} {sb : Option Nat} {fr : Nat → Nat} {nr : Nat} {p v : Nat} {a : Int32} (h : r_MH σ w sb fr nr) (hst : 0 < σ 19 0) (hp : p < 4) (hv : v < 4) (ha : 0 ≤ a ∧ a ≤ (1 <<< ((σ 19 0 + σ 19 1) &&& 31)) - 1) : Ev 5 MX6_fate [.ref 19, .int (nI p), .int (nI v), .int a] σ (some (.int (r_fate ((r_rawF (fun b => σ 22 (21 * (4 * fr p + v) + r_pl w sb b)) w) ^^^ a) (r_men (r_bit (σ 20) w) ((r_rawF (fun b => σ 22 (21 * (4 * fr p + v) + r_pl w sb b)) w) ^^^ a) (r_syn (σ 20) ((r_rawF (fun b => σ 22 (21 * (4 * fr p + v) + r_pl w sb b)) w) ^^^ a) w)) ((r_men (r_bit (σ 20) w) ((r_rawF (fun b => σ 22 (21 * (4 * fr p + v) + r_pl w sb b)) w) ^^^ a) (r_syn (σ 20) ((r_rawF (fun b => σ 22 (21 * (4 * fr p + v) + r_pl w sb b)) w) ^^^ a) w)) &&& ((1 <<< (σ 19 0 &&& 31)) - 1)) (σ 27 (4 * p + v))))) σ := by
  refine Ev_w [.ref 19, .int (nI p), .int (nI v), .int a, .null, .null, .null] ?_ (by decide) rfl (Nat.le_of_ble_eq_true rfl) rfl
  refine g_aload_n dX6_fate_0 rfl ?_
  refine g_iload_n dX6_fate_1 rfl ?_
  refine g_iload_n dX6_fate_2 rfl ?_
  refine g_V2 dX6_fate_3 vX6_131 rfl (Nat.le_of_ble_eq_true rfl) (by decide) (ev_X6_isWord) ?_
  refine g_ifne (tgt := 11) dX6_fate_6 (by decide) (fun c6 => ?_) (fun c6 => absurd c6 (bI_1.mpr ⟨hst, r_in3 hp, r_in3 hv⟩))
  refine g_aload_n dX6_fate_11 rfl ?_
  refine g_iload_n dX6_fate_12 rfl ?_
  refine g_V1 dX6_fate_13 vX6_105 rfl (Nat.le_of_ble_eq_true rfl) (by decide) (ev_X6_isSet) ?_
  refine g_ifne (tgt := 22) dX6_fate_16 (by decide) (fun c16 => ?_) (fun c16 => absurd c16 (bI_1.mpr ha))
  refine g_aload_n dX6_fate_22 rfl ?_
  refine g_iload_n dX6_fate_23 rfl ?_
  refine g_iload_n dX6_fate_24 rfl ?_
  refine g_V2 dX6_fate_25 vX6_159 rfl (Nat.le_of_ble_eq_true rfl) (by decide) (ev_X6_rawOf h hp hv) ?_
  refine g_iload_n dX6_fate_28 rfl ?_
  refine g_ixor dX6_fate_29 ?_
  refine g_istore dX6_fate_30 (by decide) rfl ?_
  refine g_aload_n dX6_fate_32 rfl ?_
  refine g_iload dX6_fate_33 rfl ?_
  refine g_V1 dX6_fate_35 vX6_108 rfl (Nat.le_of_ble_eq_true rfl) (by decide) (ev_X6_mendedOf h.1 h.2.1) ?_
  refine g_istore dX6_fate_38 (by decide) rfl ?_
  refine g_iload dX6_fate_40 rfl ?_
  refine g_bipush (v := (-5)) dX6_fate_42 (by decide) ?_
  refine g_icne (tgt := 49) dX6_fate_44 (by decide) (fun c44 => ?_) (fun c44 => ?_)
  · refine g_iload dX6_fate_49 rfl ?_
    refine g_iconst (v := 1) dX6_fate_51 (by decide) ?_
    refine g_aload_n dX6_fate_52 rfl ?_
    refine g_getI dX6_fate_53 fX6_57 rfl rfl ?_
    refine g_ishl dX6_fate_56 ?_
    refine g_iconst (v := 1) dX6_fate_57 (by decide) ?_
    refine g_isub dX6_fate_58 ?_
    refine g_iand dX6_fate_59 ?_
    refine g_aload_n dX6_fate_60 rfl ?_
    refine g_getR dX6_fate_61 fX6_32 rfl rfl ?_
    refine g_iconst (v := nI 4) dX6_fate_64 (by decide) ?_
    refine g_iload_n dX6_fate_65 rfl ?_
    refine g_imul dX6_fate_66 ?_
    refine g_iload_n dX6_fate_67 rfl ?_
    refine g_iadd dX6_fate_68 ?_
    refine g_t (show _ = nI (4 * p + v) from by rw [pk_mul, nI_add]) ?_
    refine g_ial _ dX6_fate_69 rfl rfl (by omega) ?_
    refine g_icne (tgt := 77) dX6_fate_70 (by decide) (fun c70 => ?_) (fun c70 => ?_)
    · refine g_iconst (v := 0) dX6_fate_77 (by decide) ?_
      refine g_istore dX6_fate_78 (by decide) rfl ?_
      refine g_iload dX6_fate_80 rfl ?_
      refine g_ifne (tgt := 89) dX6_fate_82 (by decide) (fun c82 => absurd (by decide) c82) (fun c82 => ?_)
      refine g_iconst (v := 3) dX6_fate_85 (by decide) ?_
      refine g_goto (tgt := 101) dX6_fate_86 (by decide) ?_
      exact g_iret dX6_fate_101 rfl ⟨by rw [r_fate, if_neg c44]; first | rw [if_pos c70] | (rw [if_neg (fun z => z c70)]; first | rw [if_pos c93] | rw [if_neg c93]), rfl⟩
    · refine g_iconst (v := 1) dX6_fate_73 (by decide) ?_
      refine g_goto (tgt := 78) dX6_fate_74 (by decide) ?_
      refine g_istore dX6_fate_78 (by decide) rfl ?_
      refine g_iload dX6_fate_80 rfl ?_
      refine g_ifne (tgt := 89) dX6_fate_82 (by decide) (fun c82 => ?_) (fun c82 => absurd c82 (by decide))
      refine g_iload dX6_fate_89 rfl ?_
      refine g_iload dX6_fate_91 rfl ?_
      refine g_icne (tgt := 100) dX6_fate_93 (by decide) (fun c93 => ?_) (fun c93 => ?_)
      · refine g_iconst (v := 1) dX6_fate_100 (by decide) ?_
        exact g_iret dX6_fate_101 rfl ⟨by rw [r_fate, if_neg c44]; first | rw [if_pos c70] | (rw [if_neg (fun z => z c70)]; first | rw [if_pos c93] | rw [if_neg c93]), rfl⟩
      · refine g_iconst (v := 0) dX6_fate_96 (by decide) ?_
        refine g_goto (tgt := 101) dX6_fate_97 (by decide) ?_
        exact g_iret dX6_fate_101 rfl ⟨by rw [r_fate, if_neg c44]; first | rw [if_pos c70] | (rw [if_neg (fun z => z c70)]; first | rw [if_pos c93] | rw [if_neg c93]), rfl⟩
  · refine g_iconst (v := 2) dX6_fate_47 (by decide) ?_
    exact g_iret dX6_fate_48 rfl ⟨by rw [r_fate, if_pos c44], rfl⟩

set_option maxRecDepth 4000 in
theorem ev_X6_marks_u {σ : r_Sg} {f v q : Int32} (hg : ¬ (¬ σ 19 0 = 0 ∧ (0 ≤ f ∧ f ≤ 5) ∧ (0 ≤ v ∧ v ≤ 3) ∧ 0 ≤ q ∧ q ≤ σ 19 0 + σ 19 1)) : Ev 5 MX6_marks [.ref 19, .int f, .int v, .int q] σ (some (.int (-1))) σ := by
  refine Ev_w [.ref 19, .int f, .int v, .int q] ?_ (by decide) rfl (Nat.le_of_ble_eq_true rfl) rfl
  refine g_aload_n dX6_marks_0 rfl ?_
  refine g_getI dX6_marks_1 fX6_57 rfl rfl ?_
  refine g_ifeq (tgt := 37) dX6_marks_4 (by decide) (fun c4 => ?_) (fun c4 => ?_)
  · refine g_iconst (v := (-1)) dX6_marks_37 (by decide) ?_
    exact g_iret dX6_marks_38 rfl ⟨rfl, rfl⟩
  · refine g_iload_n dX6_marks_7 rfl ?_
    refine g_iconst (v := 0) dX6_marks_8 (by decide) ?_
    refine g_iconst (v := 5) dX6_marks_9 (by decide) ?_
    refine g_S3 dX6_marks_10 vX6_68 (Nat.le_of_ble_eq_true rfl) (by decide) (ev_X6_within) ?_
    refine g_ifeq (tgt := 37) dX6_marks_13 (by decide) (fun c13 => ?_) (fun c13 => ?_)
    · refine g_iconst (v := (-1)) dX6_marks_37 (by decide) ?_
      exact g_iret dX6_marks_38 rfl ⟨rfl, rfl⟩
    · refine g_iload_n dX6_marks_16 rfl ?_
      refine g_iconst (v := 0) dX6_marks_17 (by decide) ?_
      refine g_iconst (v := 3) dX6_marks_18 (by decide) ?_
      refine g_S3 dX6_marks_19 vX6_68 (Nat.le_of_ble_eq_true rfl) (by decide) (ev_X6_within) ?_
      refine g_ifeq (tgt := 37) dX6_marks_22 (by decide) (fun c22 => ?_) (fun c22 => ?_)
      · refine g_iconst (v := (-1)) dX6_marks_37 (by decide) ?_
        exact g_iret dX6_marks_38 rfl ⟨rfl, rfl⟩
      · refine g_iload_n dX6_marks_25 rfl ?_
        refine g_iconst (v := 0) dX6_marks_26 (by decide) ?_
        refine g_aload_n dX6_marks_27 rfl ?_
        refine g_V0 dX6_marks_28 vX6_64 rfl (Nat.le_of_ble_eq_true rfl) (by decide) (ev_X6_bits) ?_
        refine g_S3 dX6_marks_31 vX6_68 (Nat.le_of_ble_eq_true rfl) (by decide) (ev_X6_within) ?_
        refine g_ifne (tgt := 39) dX6_marks_34 (by decide) (fun c34 => absurd (bI_0.mpr (fun z => hg ⟨c4, bI_1.mp c13, bI_1.mp c22, z⟩)) c34) (fun c34 => ?_)
        refine g_iconst (v := (-1)) dX6_marks_37 (by decide) ?_
        exact g_iret dX6_marks_38 rfl ⟨rfl, rfl⟩

set_option maxRecDepth 4000 in
theorem ev_X6_marks_k {σ : r_Sg} {f v q : Nat} (hf : f < 6) (hv : v < 4) (hq : q < 21) (hst : ¬ σ 19 0 = 0) (hqb : 0 ≤ nI q ∧ nI q ≤ σ 19 0 + σ 19 1) : Ev 5 MX6_marks [.ref 19, .int (nI f), .int (nI v), .int (nI q)] σ (some (.int (σ 24 (21 * (4 * f + v) + q)))) σ := by
  refine Ev_w [.ref 19, .int (nI f), .int (nI v), .int (nI q)] ?_ (by decide) rfl (Nat.le_of_ble_eq_true rfl) rfl
  refine g_aload_n dX6_marks_0 rfl ?_
  refine g_getI dX6_marks_1 fX6_57 rfl rfl ?_
  refine g_ifeq (tgt := 37) dX6_marks_4 (by decide) (fun c4 => absurd c4 hst) (fun c4 => ?_)
  refine g_iload_n dX6_marks_7 rfl ?_
  refine g_iconst (v := 0) dX6_marks_8 (by decide) ?_
  refine g_iconst (v := 5) dX6_marks_9 (by decide) ?_
  refine g_S3 dX6_marks_10 vX6_68 (Nat.le_of_ble_eq_true rfl) (by decide) (ev_X6_within) ?_
  refine g_ifeq (tgt := 37) dX6_marks_13 (by decide) (fun c13 => absurd c13 (bI_1.mpr ⟨nI_pos' (by omega), nI_le (b := 5) (by omega) (by omega)⟩)) (fun c13 => ?_)
  refine g_iload_n dX6_marks_16 rfl ?_
  refine g_iconst (v := 0) dX6_marks_17 (by decide) ?_
  refine g_iconst (v := 3) dX6_marks_18 (by decide) ?_
  refine g_S3 dX6_marks_19 vX6_68 (Nat.le_of_ble_eq_true rfl) (by decide) (ev_X6_within) ?_
  refine g_ifeq (tgt := 37) dX6_marks_22 (by decide) (fun c22 => absurd c22 (bI_1.mpr (r_in3 hv))) (fun c22 => ?_)
  refine g_iload_n dX6_marks_25 rfl ?_
  refine g_iconst (v := 0) dX6_marks_26 (by decide) ?_
  refine g_aload_n dX6_marks_27 rfl ?_
  refine g_V0 dX6_marks_28 vX6_64 rfl (Nat.le_of_ble_eq_true rfl) (by decide) (ev_X6_bits) ?_
  refine g_S3 dX6_marks_31 vX6_68 (Nat.le_of_ble_eq_true rfl) (by decide) (ev_X6_within) ?_
  refine g_ifne (tgt := 39) dX6_marks_34 (by decide) (fun c34 => ?_) (fun c34 => absurd c34 (bI_1.mpr hqb))
  refine g_aload_n dX6_marks_39 rfl ?_
  refine g_getR dX6_marks_40 fX6_23 rfl rfl ?_
  refine g_iload_n dX6_marks_43 rfl ?_
  refine g_iload_n dX6_marks_44 rfl ?_
  refine g_iload_n dX6_marks_45 rfl ?_
  refine g_S3 dX6_marks_46 vX6_124 (Nat.le_of_ble_eq_true rfl) (by decide) (ev_X6_at) ?_
  refine g_ial _ dX6_marks_49 rfl rfl (by omega) ?_
  exact g_iret dX6_marks_50 rfl ⟨rfl, rfl⟩

set_option maxRecDepth 4000 in
theorem ev_X6_frame_u {σ : r_Sg} {p : Int32} (hg : ¬ (0 < σ 19 0 ∧ 0 ≤ p ∧ p ≤ 3)) : Ev 5 MX6_frame [.ref 19, .int p] σ (some (.int (-1))) σ := by
  refine Ev_w [.ref 19, .int p] ?_ (by decide) rfl (Nat.le_of_ble_eq_true rfl) rfl
  refine g_aload_n dX6_frame_0 rfl ?_
  refine g_getI dX6_frame_1 fX6_57 rfl rfl ?_
  refine g_ifle (tgt := 25) dX6_frame_4 (by decide) (fun c4 => ?_) (fun c4 => ?_)
  · refine g_iconst (v := (-1)) dX6_frame_25 (by decide) ?_
    exact g_iret dX6_frame_26 rfl ⟨rfl, rfl⟩
  · refine g_iload_n dX6_frame_7 rfl ?_
    refine g_iconst (v := 0) dX6_frame_8 (by decide) ?_
    refine g_iconst (v := 3) dX6_frame_9 (by decide) ?_
    refine g_S3 dX6_frame_10 vX6_68 (Nat.le_of_ble_eq_true rfl) (by decide) (ev_X6_within) ?_
    refine g_ifeq (tgt := 25) dX6_frame_13 (by decide) (fun c13 => ?_) (fun c13 => absurd (bI_0.mpr (fun z => hg ⟨Int32.not_le.mp c4, z⟩)) c13)
    refine g_iconst (v := (-1)) dX6_frame_25 (by decide) ?_
    exact g_iret dX6_frame_26 rfl ⟨rfl, rfl⟩

set_option maxRecDepth 4000 in
theorem ev_X6_frame_k {σ : r_Sg} {p : Nat} (hst : 0 < σ 19 0) (hp : p < 4) : Ev 5 MX6_frame [.ref 19, .int (nI p)] σ (some (.int (σ 25 p))) σ := by
  refine Ev_w [.ref 19, .int (nI p)] ?_ (by decide) rfl (Nat.le_of_ble_eq_true rfl) rfl
  refine g_aload_n dX6_frame_0 rfl ?_
  refine g_getI dX6_frame_1 fX6_57 rfl rfl ?_
  refine g_ifle (tgt := 25) dX6_frame_4 (by decide) (fun c4 => absurd c4 (Int32.not_le.mpr hst)) (fun c4 => ?_)
  refine g_iload_n dX6_frame_7 rfl ?_
  refine g_iconst (v := 0) dX6_frame_8 (by decide) ?_
  refine g_iconst (v := 3) dX6_frame_9 (by decide) ?_
  refine g_S3 dX6_frame_10 vX6_68 (Nat.le_of_ble_eq_true rfl) (by decide) (ev_X6_within) ?_
  refine g_ifeq (tgt := 25) dX6_frame_13 (by decide) (fun c13 => absurd c13 (bI_1.mpr (r_in3 hp))) (fun c13 => ?_)
  refine g_aload_n dX6_frame_16 rfl ?_
  refine g_getR dX6_frame_17 fX6_26 rfl rfl ?_
  refine g_iload_n dX6_frame_20 rfl ?_
  refine g_ial _ dX6_frame_21 rfl rfl (by omega) ?_
  refine g_goto (tgt := 26) dX6_frame_22 (by decide) ?_
  exact g_iret dX6_frame_26 rfl ⟨rfl, rfl⟩

set_option maxRecDepth 4000 in
theorem ev_X6_mends_u {σ : r_Sg} {p : Int32} (hg : ¬ (0 < σ 19 0 ∧ 0 ≤ p ∧ p ≤ 3)) : Ev 5 MX6_mends [.ref 19, .int p] σ (some (.int (-1))) σ := by
  refine Ev_w [.ref 19, .int p] ?_ (by decide) rfl (Nat.le_of_ble_eq_true rfl) rfl
  refine g_aload_n dX6_mends_0 rfl ?_
  refine g_getI dX6_mends_1 fX6_57 rfl rfl ?_
  refine g_ifle (tgt := 25) dX6_mends_4 (by decide) (fun c4 => ?_) (fun c4 => ?_)
  · refine g_iconst (v := (-1)) dX6_mends_25 (by decide) ?_
    exact g_iret dX6_mends_26 rfl ⟨rfl, rfl⟩
  · refine g_iload_n dX6_mends_7 rfl ?_
    refine g_iconst (v := 0) dX6_mends_8 (by decide) ?_
    refine g_iconst (v := 3) dX6_mends_9 (by decide) ?_
    refine g_S3 dX6_mends_10 vX6_68 (Nat.le_of_ble_eq_true rfl) (by decide) (ev_X6_within) ?_
    refine g_ifeq (tgt := 25) dX6_mends_13 (by decide) (fun c13 => ?_) (fun c13 => absurd (bI_0.mpr (fun z => hg ⟨Int32.not_le.mp c4, z⟩)) c13)
    refine g_iconst (v := (-1)) dX6_mends_25 (by decide) ?_
    exact g_iret dX6_mends_26 rfl ⟨rfl, rfl⟩

set_option maxRecDepth 4000 in
theorem ev_X6_mends_k {σ : r_Sg} {p : Nat} (hst : 0 < σ 19 0) (hp : p < 4) : Ev 5 MX6_mends [.ref 19, .int (nI p)] σ (some (.int (σ 28 p))) σ := by
  refine Ev_w [.ref 19, .int (nI p)] ?_ (by decide) rfl (Nat.le_of_ble_eq_true rfl) rfl
  refine g_aload_n dX6_mends_0 rfl ?_
  refine g_getI dX6_mends_1 fX6_57 rfl rfl ?_
  refine g_ifle (tgt := 25) dX6_mends_4 (by decide) (fun c4 => absurd c4 (Int32.not_le.mpr hst)) (fun c4 => ?_)
  refine g_iload_n dX6_mends_7 rfl ?_
  refine g_iconst (v := 0) dX6_mends_8 (by decide) ?_
  refine g_iconst (v := 3) dX6_mends_9 (by decide) ?_
  refine g_S3 dX6_mends_10 vX6_68 (Nat.le_of_ble_eq_true rfl) (by decide) (ev_X6_within) ?_
  refine g_ifeq (tgt := 25) dX6_mends_13 (by decide) (fun c13 => absurd c13 (bI_1.mpr (r_in3 hp))) (fun c13 => ?_)
  refine g_aload_n dX6_mends_16 rfl ?_
  refine g_getR dX6_mends_17 fX6_35 rfl rfl ?_
  refine g_iload_n dX6_mends_20 rfl ?_
  refine g_ial _ dX6_mends_21 rfl rfl (by omega) ?_
  refine g_goto (tgt := 26) dX6_mends_22 (by decide) ?_
  exact g_iret dX6_mends_26 rfl ⟨rfl, rfl⟩

set_option maxRecDepth 4000 in
theorem ev_X6_place_u {σ : r_Sg} {b : Int32} (hg : ¬ (0 ≤ b ∧ b ≤ σ 19 0 + σ 19 1 - 1)) : Ev 5 MX6_place [.ref 19, .int b] σ (some (.int (-1))) σ := by
  refine Ev_w [.ref 19, .int b] ?_ (by decide) rfl (Nat.le_of_ble_eq_true rfl) rfl
  refine g_aload_n dX6_place_0 rfl ?_
  refine g_iload_n dX6_place_1 rfl ?_
  refine g_V1 dX6_place_2 vX6_92 rfl (Nat.le_of_ble_eq_true rfl) (by decide) (ev_X6_isBit) ?_
  refine g_ifeq (tgt := 17) dX6_place_5 (by decide) (fun c5 => ?_) (fun c5 => absurd (bI_0.mpr hg) c5)
  refine g_iconst (v := (-1)) dX6_place_17 (by decide) ?_
  exact g_iret dX6_place_18 rfl ⟨rfl, rfl⟩

set_option maxRecDepth 4000 in
theorem ev_X6_place_k {σ : r_Sg} {w : Nat} {sb : Option Nat} {fr : Nat → Nat} {nr : Nat} {b : Nat} (h : r_MH σ w sb fr nr) (hb : 0 ≤ nI b ∧ nI b ≤ σ 19 0 + σ 19 1 - 1) (hbw : b < w) : Ev 5 MX6_place [.ref 19, .int (nI b)] σ (some (.int (nI (r_pl w sb b)))) σ := by
  have hw20 := h.2.1
  refine Ev_w [.ref 19, .int (nI b)] ?_ (by decide) rfl (Nat.le_of_ble_eq_true rfl) rfl
  refine g_aload_n dX6_place_0 rfl ?_
  refine g_iload_n dX6_place_1 rfl ?_
  refine g_V1 dX6_place_2 vX6_92 rfl (Nat.le_of_ble_eq_true rfl) (by decide) (ev_X6_isBit) ?_
  refine g_ifeq (tgt := 17) dX6_place_5 (by decide) (fun c5 => absurd c5 (bI_1.mpr hb)) (fun c5 => ?_)
  refine g_aload_n dX6_place_8 rfl ?_
  refine g_getR dX6_place_9 fX6_29 rfl rfl ?_
  refine g_iload_n dX6_place_12 rfl ?_
  refine g_ial _ dX6_place_13 rfl rfl (by omega) ?_
  refine g_t (h.2.2.1 b hbw) ?_
  refine g_goto (tgt := 18) dX6_place_14 (by decide) ?_
  exact g_iret dX6_place_18 rfl ⟨rfl, rfl⟩

set_option maxRecDepth 4000 in
theorem ev_X6_retired {σ : r_Sg} {n : Nat} {b : Int32} (hn : σ 19 14 = nI n) (hn2 : n ≤ 2) : Ev 5 MX6_retired [.ref 19, .int b] σ (some (.int (if 0 ≤ b ∧ b < nI n then σ 30 b.toNatClampNeg else -1))) σ := by
  refine Ev_w [.ref 19, .int b] ?_ (by decide) rfl (Nat.le_of_ble_eq_true rfl) rfl
  refine g_iload_n dX6_retired_0 rfl ?_
  refine g_iconst (v := 0) dX6_retired_1 (by decide) ?_
  refine g_aload_n dX6_retired_2 rfl ?_
  refine g_getI dX6_retired_3 fX6_114 rfl rfl ?_
  refine g_t hn ?_
  refine g_iconst (v := 1) dX6_retired_6 (by decide) ?_
  refine g_isub dX6_retired_7 ?_
  refine g_S3 dX6_retired_8 vX6_68 (Nat.le_of_ble_eq_true rfl) (by decide) (ev_X6_within) ?_
  refine g_ifeq (tgt := 23) dX6_retired_11 (by decide) (fun c11 => ?_) (fun c11 => ?_)
  · have q := bI_0.mp c11
    rw [r_le1 (by omega)] at q
    refine g_iconst (v := (-1)) dX6_retired_23 (by decide) ?_
    exact g_iret dX6_retired_24 rfl ⟨by first | rw [if_neg q] | rw [if_pos q, nI_clamp (by omega)], rfl⟩
  · have q := bI_1.mp c11
    rw [r_le1 (by omega)] at q
    obtain ⟨j, hj, rfl⟩ := r_nat q (by omega)
    refine g_aload_n dX6_retired_14 rfl ?_
    refine g_getR dX6_retired_15 fX6_41 rfl rfl ?_
    refine g_iload_n dX6_retired_18 rfl ?_
    refine g_ial _ dX6_retired_19 rfl rfl (by omega) ?_
    refine g_goto (tgt := 24) dX6_retired_20 (by decide) ?_
    exact g_iret dX6_retired_24 rfl ⟨by first | rw [if_neg q] | rw [if_pos q, nI_clamp (by omega)], rfl⟩

set_option maxRecDepth 4000 in
theorem ev_X6_troubled {σ : r_Sg} {n : Nat} {b : Int32} (hn : σ 19 12 = nI n) (hn2 : n ≤ 4) : Ev 5 MX6_troubled [.ref 19, .int b] σ (some (.int (if 0 ≤ b ∧ b < nI n then σ 29 b.toNatClampNeg else -1))) σ := by
  refine Ev_w [.ref 19, .int b] ?_ (by decide) rfl (Nat.le_of_ble_eq_true rfl) rfl
  refine g_iload_n dX6_troubled_0 rfl ?_
  refine g_iconst (v := 0) dX6_troubled_1 (by decide) ?_
  refine g_aload_n dX6_troubled_2 rfl ?_
  refine g_getI dX6_troubled_3 fX6_111 rfl rfl ?_
  refine g_t hn ?_
  refine g_iconst (v := 1) dX6_troubled_6 (by decide) ?_
  refine g_isub dX6_troubled_7 ?_
  refine g_S3 dX6_troubled_8 vX6_68 (Nat.le_of_ble_eq_true rfl) (by decide) (ev_X6_within) ?_
  refine g_ifeq (tgt := 23) dX6_troubled_11 (by decide) (fun c11 => ?_) (fun c11 => ?_)
  · have q := bI_0.mp c11
    rw [r_le1 (by omega)] at q
    refine g_iconst (v := (-1)) dX6_troubled_23 (by decide) ?_
    exact g_iret dX6_troubled_24 rfl ⟨by first | rw [if_neg q] | rw [if_pos q, nI_clamp (by omega)], rfl⟩
  · have q := bI_1.mp c11
    rw [r_le1 (by omega)] at q
    obtain ⟨j, hj, rfl⟩ := r_nat q (by omega)
    refine g_aload_n dX6_troubled_14 rfl ?_
    refine g_getR dX6_troubled_15 fX6_38 rfl rfl ?_
    refine g_iload_n dX6_troubled_18 rfl ?_
    refine g_ial _ dX6_troubled_19 rfl rfl (by omega) ?_
    refine g_goto (tgt := 24) dX6_troubled_20 (by decide) ?_
    exact g_iret dX6_troubled_24 rfl ⟨by first | rw [if_neg q] | rw [if_pos q, nI_clamp (by omega)], rfl⟩

set_option maxRecDepth 4000 in
theorem ev_X6_weight {σ : r_Sg} {c : Nat} (hc : σ 19 1 = nI c) (hc6 : c ≤ 6) : Ev 5 MX6_weight [.ref 19] σ (some (.int (if σ 19 0 = 0 then -3 else r_sum (σ 21) c))) σ := by
  refine Ev_w [.ref 19, .null, .null] ?_ (by decide) rfl (Nat.le_of_ble_eq_true rfl) rfl
  refine g_aload_n dX6_weight_0 rfl ?_
  refine g_getI dX6_weight_1 fX6_57 rfl rfl ?_
  refine g_ifne (tgt := 10) dX6_weight_4 (by decide) (fun c4 => ?_) (fun c4 => ?_)
  · refine g_iconst (v := 0) dX6_weight_10 (by decide) ?_
    refine g_istore_n dX6_weight_11 (by decide) rfl ?_
    refine g_iconst (v := 0) dX6_weight_12 (by decide) ?_
    refine g_istore_n dX6_weight_13 (by decide) rfl ?_
    refine r_loop (n := c) (fun k => [.ref 19, .int (r_sum (σ 21) k), .int (nI k)]) (fun k => σ) (fun k hk ih => ?_) ?_
    · refine g_iload_n dX6_weight_14 rfl ?_
      refine g_aload_n dX6_weight_15 rfl ?_
      refine g_getI dX6_weight_16 fX6_61 rfl rfl ?_
      refine g_t hc ?_
      refine g_icge (tgt := 37) dX6_weight_19 (by decide) (fun c19 => absurd c19 (nI_ge hk (by omega))) (fun c19 => ?_)
      refine g_iload_n dX6_weight_22 rfl ?_
      refine g_aload_n dX6_weight_23 rfl ?_
      refine g_getR dX6_weight_24 fX6_13 rfl rfl ?_
      refine g_iload_n dX6_weight_27 rfl ?_
      refine g_ial _ dX6_weight_28 rfl rfl (by omega) ?_
      refine g_iadd dX6_weight_29 ?_
      refine g_istore_n dX6_weight_30 (by decide) rfl ?_
      refine g_iinc (v := nI (k + 1)) dX6_weight_31 rfl (nI_1 k) (by decide) rfl ?_
      refine g_goto (tgt := 14) dX6_weight_34 (by decide) ?_
      exact ih
    · refine g_iload_n dX6_weight_14 rfl ?_
      refine g_aload_n dX6_weight_15 rfl ?_
      refine g_getI dX6_weight_16 fX6_61 rfl rfl ?_
      refine g_t hc ?_
      refine g_icge (tgt := 37) dX6_weight_19 (by decide) (fun c19 => ?_) (fun c19 => absurd (nI_le (Nat.le_refl _) (by omega)) c19)
      refine g_iload_n dX6_weight_37 rfl ?_
      exact g_iret dX6_weight_38 rfl ⟨by rw [if_neg c4], rfl⟩
  · refine g_bipush (v := (-3)) dX6_weight_7 (by decide) ?_
    exact g_iret dX6_weight_9 rfl ⟨by rw [if_pos c4], rfl⟩

set_option maxRecDepth 4000 in
theorem ev_X6_wrongInUse_1 {σ : r_Sg} {w : Nat} {sb : Option Nat} {fr : Nat → Nat} {nr : Nat} (h : r_MH σ w sb fr nr) (hst : 0 < σ 19 0) : Ev 3 MX6_wrongInUse [.ref 19, .int 1] σ (some (.int (m_bu σ w sb fr 4))) σ := by
  refine Ev_w [.ref 19, .int 1, .null, .null] ?_ (by decide) rfl (Nat.le_of_ble_eq_true rfl) rfl
  refine g_iconst (v := 0) dX6_wrongInUse_0 (by decide) ?_
  refine g_istore_n dX6_wrongInUse_1 (by decide) rfl ?_
  refine g_iconst (v := 0) dX6_wrongInUse_2 (by decide) ?_
  refine g_istore_n dX6_wrongInUse_3 (by decide) rfl ?_
  refine r_loop (n := 4) (fun k => [.ref 19, .int 1, .int (m_bu σ w sb fr k), .int (nI k)]) (fun k => σ) (fun k hk ih => ?_) ?_
  · refine g_iload_n dX6_wrongInUse_4 rfl ?_
    refine g_iconst (v := nI 4) dX6_wrongInUse_5 (by decide) ?_
    refine g_icge (tgt := 36) dX6_wrongInUse_6 (by decide) (fun c6 => absurd c6 (nI_ge hk (by omega))) (fun c6 => ?_)
    have hfr := (h.2.2.2.2.1 k hk).2
    refine g_aload_n dX6_wrongInUse_9 rfl ?_
    refine g_getI dX6_wrongInUse_10 fX6_57 rfl rfl ?_
    refine g_ifle (tgt := 36) dX6_wrongInUse_13 (by decide) (fun c13 => absurd c13 (Int32.not_le.mpr hst)) (fun c13 => ?_)
    refine g_iload_n dX6_wrongInUse_16 rfl ?_
    refine g_aload_n dX6_wrongInUse_17 rfl ?_
    refine g_aload_n dX6_wrongInUse_18 rfl ?_
    refine g_getR dX6_wrongInUse_19 fX6_26 rfl rfl ?_
    refine g_iload_n dX6_wrongInUse_22 rfl ?_
    refine g_ial _ dX6_wrongInUse_23 rfl rfl (by omega) ?_
    refine g_t (h.2.2.2.2.1 k hk).1 ?_
    refine g_iload_n dX6_wrongInUse_24 rfl ?_
    refine g_V2 dX6_wrongInUse_25 vX6_152 rfl (Nat.le_of_ble_eq_true rfl) (by decide) (ev_X6_wrongIn_1 h hfr) ?_
    refine g_iadd dX6_wrongInUse_28 ?_
    refine g_istore_n dX6_wrongInUse_29 (by decide) rfl ?_
    refine g_iinc (v := nI (k + 1)) dX6_wrongInUse_30 rfl (nI_1 k) (by decide) rfl ?_
    refine g_goto (tgt := 4) dX6_wrongInUse_33 (by decide) ?_
    exact ih
  · refine g_iload_n dX6_wrongInUse_4 rfl ?_
    refine g_iconst (v := nI 4) dX6_wrongInUse_5 (by decide) ?_
    refine g_icge (tgt := 36) dX6_wrongInUse_6 (by decide) (fun c6 => ?_) (fun c6 => absurd (nI_le (Nat.le_refl _) (by omega)) c6)
    refine g_iload_n dX6_wrongInUse_36 rfl ?_
    exact g_iret dX6_wrongInUse_37 rfl ⟨rfl, rfl⟩

set_option maxRecDepth 4000 in
theorem ev_X6_wrongInUse_0 {σ : r_Sg} {w : Nat} {sb : Option Nat} {fr : Nat → Nat} {nr : Nat} (h : r_MH σ w sb fr nr) (hst : 0 < σ 19 0) : Ev 3 MX6_wrongInUse [.ref 19, .int 0] σ (some (.int (m_su σ w sb fr 4))) σ := by
  refine Ev_w [.ref 19, .int 0, .null, .null] ?_ (by decide) rfl (Nat.le_of_ble_eq_true rfl) rfl
  refine g_iconst (v := 0) dX6_wrongInUse_0 (by decide) ?_
  refine g_istore_n dX6_wrongInUse_1 (by decide) rfl ?_
  refine g_iconst (v := 0) dX6_wrongInUse_2 (by decide) ?_
  refine g_istore_n dX6_wrongInUse_3 (by decide) rfl ?_
  refine r_loop (n := 4) (fun k => [.ref 19, .int 0, .int (m_su σ w sb fr k), .int (nI k)]) (fun k => σ) (fun k hk ih => ?_) ?_
  · refine g_iload_n dX6_wrongInUse_4 rfl ?_
    refine g_iconst (v := nI 4) dX6_wrongInUse_5 (by decide) ?_
    refine g_icge (tgt := 36) dX6_wrongInUse_6 (by decide) (fun c6 => absurd c6 (nI_ge hk (by omega))) (fun c6 => ?_)
    have hfr := (h.2.2.2.2.1 k hk).2
    refine g_aload_n dX6_wrongInUse_9 rfl ?_
    refine g_getI dX6_wrongInUse_10 fX6_57 rfl rfl ?_
    refine g_ifle (tgt := 36) dX6_wrongInUse_13 (by decide) (fun c13 => absurd c13 (Int32.not_le.mpr hst)) (fun c13 => ?_)
    refine g_iload_n dX6_wrongInUse_16 rfl ?_
    refine g_aload_n dX6_wrongInUse_17 rfl ?_
    refine g_aload_n dX6_wrongInUse_18 rfl ?_
    refine g_getR dX6_wrongInUse_19 fX6_26 rfl rfl ?_
    refine g_iload_n dX6_wrongInUse_22 rfl ?_
    refine g_ial _ dX6_wrongInUse_23 rfl rfl (by omega) ?_
    refine g_t (h.2.2.2.2.1 k hk).1 ?_
    refine g_iload_n dX6_wrongInUse_24 rfl ?_
    refine g_V2 dX6_wrongInUse_25 vX6_152 rfl (Nat.le_of_ble_eq_true rfl) (by decide) (ev_X6_wrongIn_0 h hfr) ?_
    refine g_iadd dX6_wrongInUse_28 ?_
    refine g_istore_n dX6_wrongInUse_29 (by decide) rfl ?_
    refine g_iinc (v := nI (k + 1)) dX6_wrongInUse_30 rfl (nI_1 k) (by decide) rfl ?_
    refine g_goto (tgt := 4) dX6_wrongInUse_33 (by decide) ?_
    exact ih
  · refine g_iload_n dX6_wrongInUse_4 rfl ?_
    refine g_iconst (v := nI 4) dX6_wrongInUse_5 (by decide) ?_
    refine g_icge (tgt := 36) dX6_wrongInUse_6 (by decide) (fun c6 => ?_) (fun c6 => absurd (nI_le (Nat.le_refl _) (by omega)) c6)
    refine g_iload_n dX6_wrongInUse_36 rfl ?_
    exact g_iret dX6_wrongInUse_37 rfl ⟨rfl, rfl⟩

set_option maxRecDepth 4000 in
theorem ev_X6_wrongInUse_n {σ : r_Sg} {a : Int32} (hst : σ 19 0 = 0) : Ev 3 MX6_wrongInUse [.ref 19, .int a] σ (some (.int 0)) σ := by
  refine Ev_w [.ref 19, .int a, .null, .null] ?_ (by decide) rfl (Nat.le_of_ble_eq_true rfl) rfl
  refine g_iconst (v := 0) dX6_wrongInUse_0 (by decide) ?_
  refine g_istore_n dX6_wrongInUse_1 (by decide) rfl ?_
  refine g_iconst (v := 0) dX6_wrongInUse_2 (by decide) ?_
  refine g_istore_n dX6_wrongInUse_3 (by decide) rfl ?_
  refine g_iload_n dX6_wrongInUse_4 rfl ?_
  refine g_iconst (v := 4) dX6_wrongInUse_5 (by decide) ?_
  refine g_icge (tgt := 36) dX6_wrongInUse_6 (by decide) (fun c6 => absurd c6 (by decide)) (fun c6 => ?_)
  refine g_aload_n dX6_wrongInUse_9 rfl ?_
  refine g_getI dX6_wrongInUse_10 fX6_57 rfl rfl ?_
  refine g_ifle (tgt := 36) dX6_wrongInUse_13 (by decide) (fun c13 => ?_) (fun c13 => absurd (by rw [hst]; decide) c13)
  refine g_iload_n dX6_wrongInUse_36 rfl ?_
  exact g_iret dX6_wrongInUse_37 rfl ⟨rfl, rfl⟩

set_option maxRecDepth 4000 in
theorem ev_X6_many_o {σ : r_Sg} {n : Int32} (hg : ¬ (0 ≤ n ∧ n ≤ 9)) : Ev 5 MX6_many [.ref 19, .int n] σ (some (.int (-2))) σ := by
  refine Ev_w [.ref 19, .int n] ?_ (by decide) rfl (Nat.le_of_ble_eq_true rfl) rfl
  refine g_iload_n dX6_many_0 rfl ?_
  refine g_tabOut (tgt := 143) dX6_many_1 (by have e0 : (0 : Int32).toInt = 0 := rfl; have e9 : (9 : Int32).toInt = 9 := rfl; rw [Int32.le_iff_toInt_le, Int32.le_iff_toInt_le, e0, e9] at hg; omega) (by decide) ?_
  refine g_bipush (v := (-2)) dX6_many_143 (by decide) ?_
  exact g_iret dX6_many_145 rfl ⟨rfl, rfl⟩

set_option maxRecDepth 4000 in
theorem ev_X6_many_0 {σ : r_Sg} {w : Nat} {sb : Option Nat} {fr : Nat → Nat} {nr : Nat} {nx : Nat} (h : r_MH σ w sb fr nr) (hst : 0 < σ 19 0) (hnx : σ 19 16 = nI nx) (hnx16 : nx < 16) : Ev 5 MX6_many [.ref 19, .int 0] σ (some (.int (σ 31 0 + σ 31 1 + σ 31 2))) σ := by
  refine Ev_w [.ref 19, .int 0] ?_ (by decide) rfl (Nat.le_of_ble_eq_true rfl) rfl
  refine g_iload_n dX6_many_0 rfl ?_
  refine g_tabIn (tgt := 56) dX6_many_1 (by decide) (by decide) (show _ = some 55 from rfl) (by decide) ?_
  refine g_aload_n dX6_many_56 rfl ?_
  refine g_getR dX6_many_57 fX6_44 rfl rfl ?_
  refine g_iconst (v := nI 0) dX6_many_60 (by decide) ?_
  refine g_ial _ dX6_many_61 rfl rfl (by omega) ?_
  refine g_aload_n dX6_many_62 rfl ?_
  refine g_getR dX6_many_63 fX6_44 rfl rfl ?_
  refine g_iconst (v := nI 1) dX6_many_66 (by decide) ?_
  refine g_ial _ dX6_many_67 rfl rfl (by omega) ?_
  refine g_iadd dX6_many_68 ?_
  refine g_aload_n dX6_many_69 rfl ?_
  refine g_getR dX6_many_70 fX6_44 rfl rfl ?_
  refine g_iconst (v := nI 2) dX6_many_73 (by decide) ?_
  refine g_ial _ dX6_many_74 rfl rfl (by omega) ?_
  refine g_iadd dX6_many_75 ?_
  exact g_iret dX6_many_76 rfl ⟨rfl, rfl⟩

set_option maxRecDepth 4000 in
theorem ev_X6_many_n0 {σ : r_Sg} (h0 : σ 19 0 = 0) (hlk : ∀ j, j < 3 → σ 31 j = 0) (h15 : σ 19 15 = 0) (h16 : σ 19 16 = 0) : Ev 5 MX6_many [.ref 19, .int 0] σ (some (.int 0)) σ := by
  refine Ev_w [.ref 19, .int 0] ?_ (by decide) rfl (Nat.le_of_ble_eq_true rfl) rfl
  refine g_iload_n dX6_many_0 rfl ?_
  refine g_tabIn (tgt := 56) dX6_many_1 (by decide) (by decide) (show _ = some 55 from rfl) (by decide) ?_
  refine g_aload_n dX6_many_56 rfl ?_
  refine g_getR dX6_many_57 fX6_44 rfl rfl ?_
  refine g_iconst (v := nI 0) dX6_many_60 (by decide) ?_
  refine g_ial _ dX6_many_61 rfl rfl (by omega) ?_
  refine g_t (hlk 0 (by omega)) ?_
  refine g_aload_n dX6_many_62 rfl ?_
  refine g_getR dX6_many_63 fX6_44 rfl rfl ?_
  refine g_iconst (v := nI 1) dX6_many_66 (by decide) ?_
  refine g_ial _ dX6_many_67 rfl rfl (by omega) ?_
  refine g_t (hlk 1 (by omega)) ?_
  refine g_iadd dX6_many_68 ?_
  refine g_aload_n dX6_many_69 rfl ?_
  refine g_getR dX6_many_70 fX6_44 rfl rfl ?_
  refine g_iconst (v := nI 2) dX6_many_73 (by decide) ?_
  refine g_ial _ dX6_many_74 rfl rfl (by omega) ?_
  refine g_t (hlk 2 (by omega)) ?_
  refine g_iadd dX6_many_75 ?_
  exact g_iret dX6_many_76 rfl ⟨rfl, rfl⟩

set_option maxRecDepth 4000 in
theorem ev_X6_many_1 {σ : r_Sg} {w : Nat} {sb : Option Nat} {fr : Nat → Nat} {nr : Nat} {nx : Nat} (h : r_MH σ w sb fr nr) (hst : 0 < σ 19 0) (hnx : σ 19 16 = nI nx) (hnx16 : nx < 16) : Ev 5 MX6_many [.ref 19, .int 1] σ (some (.int (σ 31 0))) σ := by
  refine Ev_w [.ref 19, .int 1] ?_ (by decide) rfl (Nat.le_of_ble_eq_true rfl) rfl
  refine g_iload_n dX6_many_0 rfl ?_
  refine g_tabIn (tgt := 77) dX6_many_1 (by decide) (by decide) (show _ = some 76 from rfl) (by decide) ?_
  refine g_aload_n dX6_many_77 rfl ?_
  refine g_getR dX6_many_78 fX6_44 rfl rfl ?_
  refine g_iload_n dX6_many_81 rfl ?_
  refine g_iconst (v := 1) dX6_many_82 (by decide) ?_
  refine g_isub dX6_many_83 ?_
  refine g_t (show _ = nI 0 from rfl) ?_
  refine g_ial _ dX6_many_84 rfl rfl (by omega) ?_
  exact g_iret dX6_many_85 rfl ⟨rfl, rfl⟩

set_option maxRecDepth 4000 in
theorem ev_X6_many_n1 {σ : r_Sg} (h0 : σ 19 0 = 0) (hlk : ∀ j, j < 3 → σ 31 j = 0) (h15 : σ 19 15 = 0) (h16 : σ 19 16 = 0) : Ev 5 MX6_many [.ref 19, .int 1] σ (some (.int 0)) σ := by
  refine Ev_w [.ref 19, .int 1] ?_ (by decide) rfl (Nat.le_of_ble_eq_true rfl) rfl
  refine g_iload_n dX6_many_0 rfl ?_
  refine g_tabIn (tgt := 77) dX6_many_1 (by decide) (by decide) (show _ = some 76 from rfl) (by decide) ?_
  refine g_aload_n dX6_many_77 rfl ?_
  refine g_getR dX6_many_78 fX6_44 rfl rfl ?_
  refine g_iload_n dX6_many_81 rfl ?_
  refine g_iconst (v := 1) dX6_many_82 (by decide) ?_
  refine g_isub dX6_many_83 ?_
  refine g_t (show _ = nI 0 from rfl) ?_
  refine g_ial _ dX6_many_84 rfl rfl (by omega) ?_
  refine g_t (hlk 0 (by omega)) ?_
  exact g_iret dX6_many_85 rfl ⟨rfl, rfl⟩

set_option maxRecDepth 4000 in
theorem ev_X6_many_2 {σ : r_Sg} {w : Nat} {sb : Option Nat} {fr : Nat → Nat} {nr : Nat} {nx : Nat} (h : r_MH σ w sb fr nr) (hst : 0 < σ 19 0) (hnx : σ 19 16 = nI nx) (hnx16 : nx < 16) : Ev 5 MX6_many [.ref 19, .int 2] σ (some (.int (σ 31 1))) σ := by
  refine Ev_w [.ref 19, .int 2] ?_ (by decide) rfl (Nat.le_of_ble_eq_true rfl) rfl
  refine g_iload_n dX6_many_0 rfl ?_
  refine g_tabIn (tgt := 77) dX6_many_1 (by decide) (by decide) (show _ = some 76 from rfl) (by decide) ?_
  refine g_aload_n dX6_many_77 rfl ?_
  refine g_getR dX6_many_78 fX6_44 rfl rfl ?_
  refine g_iload_n dX6_many_81 rfl ?_
  refine g_iconst (v := 1) dX6_many_82 (by decide) ?_
  refine g_isub dX6_many_83 ?_
  refine g_t (show _ = nI 1 from rfl) ?_
  refine g_ial _ dX6_many_84 rfl rfl (by omega) ?_
  exact g_iret dX6_many_85 rfl ⟨rfl, rfl⟩

set_option maxRecDepth 4000 in
theorem ev_X6_many_n2 {σ : r_Sg} (h0 : σ 19 0 = 0) (hlk : ∀ j, j < 3 → σ 31 j = 0) (h15 : σ 19 15 = 0) (h16 : σ 19 16 = 0) : Ev 5 MX6_many [.ref 19, .int 2] σ (some (.int 0)) σ := by
  refine Ev_w [.ref 19, .int 2] ?_ (by decide) rfl (Nat.le_of_ble_eq_true rfl) rfl
  refine g_iload_n dX6_many_0 rfl ?_
  refine g_tabIn (tgt := 77) dX6_many_1 (by decide) (by decide) (show _ = some 76 from rfl) (by decide) ?_
  refine g_aload_n dX6_many_77 rfl ?_
  refine g_getR dX6_many_78 fX6_44 rfl rfl ?_
  refine g_iload_n dX6_many_81 rfl ?_
  refine g_iconst (v := 1) dX6_many_82 (by decide) ?_
  refine g_isub dX6_many_83 ?_
  refine g_t (show _ = nI 1 from rfl) ?_
  refine g_ial _ dX6_many_84 rfl rfl (by omega) ?_
  refine g_t (hlk 1 (by omega)) ?_
  exact g_iret dX6_many_85 rfl ⟨rfl, rfl⟩

set_option maxRecDepth 4000 in
theorem ev_X6_many_3 {σ : r_Sg} {w : Nat} {sb : Option Nat} {fr : Nat → Nat} {nr : Nat} {nx : Nat} (h : r_MH σ w sb fr nr) (hst : 0 < σ 19 0) (hnx : σ 19 16 = nI nx) (hnx16 : nx < 16) : Ev 5 MX6_many [.ref 19, .int 3] σ (some (.int (σ 31 2))) σ := by
  refine Ev_w [.ref 19, .int 3] ?_ (by decide) rfl (Nat.le_of_ble_eq_true rfl) rfl
  refine g_iload_n dX6_many_0 rfl ?_
  refine g_tabIn (tgt := 77) dX6_many_1 (by decide) (by decide) (show _ = some 76 from rfl) (by decide) ?_
  refine g_aload_n dX6_many_77 rfl ?_
  refine g_getR dX6_many_78 fX6_44 rfl rfl ?_
  refine g_iload_n dX6_many_81 rfl ?_
  refine g_iconst (v := 1) dX6_many_82 (by decide) ?_
  refine g_isub dX6_many_83 ?_
  refine g_t (show _ = nI 2 from rfl) ?_
  refine g_ial _ dX6_many_84 rfl rfl (by omega) ?_
  exact g_iret dX6_many_85 rfl ⟨rfl, rfl⟩

set_option maxRecDepth 4000 in
theorem ev_X6_many_n3 {σ : r_Sg} (h0 : σ 19 0 = 0) (hlk : ∀ j, j < 3 → σ 31 j = 0) (h15 : σ 19 15 = 0) (h16 : σ 19 16 = 0) : Ev 5 MX6_many [.ref 19, .int 3] σ (some (.int 0)) σ := by
  refine Ev_w [.ref 19, .int 3] ?_ (by decide) rfl (Nat.le_of_ble_eq_true rfl) rfl
  refine g_iload_n dX6_many_0 rfl ?_
  refine g_tabIn (tgt := 77) dX6_many_1 (by decide) (by decide) (show _ = some 76 from rfl) (by decide) ?_
  refine g_aload_n dX6_many_77 rfl ?_
  refine g_getR dX6_many_78 fX6_44 rfl rfl ?_
  refine g_iload_n dX6_many_81 rfl ?_
  refine g_iconst (v := 1) dX6_many_82 (by decide) ?_
  refine g_isub dX6_many_83 ?_
  refine g_t (show _ = nI 2 from rfl) ?_
  refine g_ial _ dX6_many_84 rfl rfl (by omega) ?_
  refine g_t (hlk 2 (by omega)) ?_
  exact g_iret dX6_many_85 rfl ⟨rfl, rfl⟩

set_option maxRecDepth 4000 in
theorem ev_X6_many_4 {σ : r_Sg} {w : Nat} {sb : Option Nat} {fr : Nat → Nat} {nr : Nat} {nx : Nat} (h : r_MH σ w sb fr nr) (hst : 0 < σ 19 0) (hnx : σ 19 16 = nI nx) (hnx16 : nx < 16) : Ev 5 MX6_many [.ref 19, .int 4] σ (some (.int (m_bu σ w sb fr 4))) σ := by
  refine Ev_w [.ref 19, .int 4] ?_ (by decide) rfl (Nat.le_of_ble_eq_true rfl) rfl
  refine g_iload_n dX6_many_0 rfl ?_
  refine g_tabIn (tgt := 86) dX6_many_1 (by decide) (by decide) (show _ = some 85 from rfl) (by decide) ?_
  refine g_aload_n dX6_many_86 rfl ?_
  refine g_iconst (v := 1) dX6_many_87 (by decide) ?_
  refine g_V1 dX6_many_88 vX6_180 rfl (Nat.le_of_ble_eq_true rfl) (by decide) (ev_X6_wrongInUse_1 h hst) ?_
  exact g_iret dX6_many_91 rfl ⟨rfl, rfl⟩

set_option maxRecDepth 4000 in
theorem ev_X6_many_n4 {σ : r_Sg} (h0 : σ 19 0 = 0) (hlk : ∀ j, j < 3 → σ 31 j = 0) (h15 : σ 19 15 = 0) (h16 : σ 19 16 = 0) : Ev 5 MX6_many [.ref 19, .int 4] σ (some (.int 0)) σ := by
  refine Ev_w [.ref 19, .int 4] ?_ (by decide) rfl (Nat.le_of_ble_eq_true rfl) rfl
  refine g_iload_n dX6_many_0 rfl ?_
  refine g_tabIn (tgt := 86) dX6_many_1 (by decide) (by decide) (show _ = some 85 from rfl) (by decide) ?_
  refine g_aload_n dX6_many_86 rfl ?_
  refine g_iconst (v := 1) dX6_many_87 (by decide) ?_
  refine g_V1 dX6_many_88 vX6_180 rfl (Nat.le_of_ble_eq_true rfl) (by decide) (ev_X6_wrongInUse_n h0) ?_
  exact g_iret dX6_many_91 rfl ⟨rfl, rfl⟩

set_option maxRecDepth 4000 in
theorem ev_X6_many_5 {σ : r_Sg} {w : Nat} {sb : Option Nat} {fr : Nat → Nat} {nr : Nat} {nx : Nat} (h : r_MH σ w sb fr nr) (hst : 0 < σ 19 0) (hnx : σ 19 16 = nI nx) (hnx16 : nx < 16) : Ev 5 MX6_many [.ref 19, .int 5] σ (some (.int (m_su σ w sb fr 4))) σ := by
  refine Ev_w [.ref 19, .int 5] ?_ (by decide) rfl (Nat.le_of_ble_eq_true rfl) rfl
  refine g_iload_n dX6_many_0 rfl ?_
  refine g_tabIn (tgt := 92) dX6_many_1 (by decide) (by decide) (show _ = some 91 from rfl) (by decide) ?_
  refine g_aload_n dX6_many_92 rfl ?_
  refine g_iconst (v := 0) dX6_many_93 (by decide) ?_
  refine g_V1 dX6_many_94 vX6_180 rfl (Nat.le_of_ble_eq_true rfl) (by decide) (ev_X6_wrongInUse_0 h hst) ?_
  exact g_iret dX6_many_97 rfl ⟨rfl, rfl⟩

set_option maxRecDepth 4000 in
theorem ev_X6_many_n5 {σ : r_Sg} (h0 : σ 19 0 = 0) (hlk : ∀ j, j < 3 → σ 31 j = 0) (h15 : σ 19 15 = 0) (h16 : σ 19 16 = 0) : Ev 5 MX6_many [.ref 19, .int 5] σ (some (.int 0)) σ := by
  refine Ev_w [.ref 19, .int 5] ?_ (by decide) rfl (Nat.le_of_ble_eq_true rfl) rfl
  refine g_iload_n dX6_many_0 rfl ?_
  refine g_tabIn (tgt := 92) dX6_many_1 (by decide) (by decide) (show _ = some 91 from rfl) (by decide) ?_
  refine g_aload_n dX6_many_92 rfl ?_
  refine g_iconst (v := 0) dX6_many_93 (by decide) ?_
  refine g_V1 dX6_many_94 vX6_180 rfl (Nat.le_of_ble_eq_true rfl) (by decide) (ev_X6_wrongInUse_n h0) ?_
  exact g_iret dX6_many_97 rfl ⟨rfl, rfl⟩

set_option maxRecDepth 4000 in
theorem ev_X6_many_6 {σ : r_Sg} {w : Nat} {sb : Option Nat} {fr : Nat → Nat} {nr : Nat} {nx : Nat} (h : r_MH σ w sb fr nr) (hst : 0 < σ 19 0) (hnx : σ 19 16 = nI nx) (hnx16 : nx < 16) : Ev 5 MX6_many [.ref 19, .int 6] σ (some (.int (bI (¬ sb = none)))) σ := by
  refine Ev_w [.ref 19, .int 6] ?_ (by decide) rfl (Nat.le_of_ble_eq_true rfl) rfl
  refine g_iload_n dX6_many_0 rfl ?_
  refine g_tabIn (tgt := 98) dX6_many_1 (by decide) (by decide) (show _ = some 97 from rfl) (by decide) ?_
  refine g_aload_n dX6_many_98 rfl ?_
  refine g_getI dX6_many_99 fX6_117 rfl rfl ?_
  refine g_t h.2.2.2.2.2.2.2 ?_
  refine g_ifeq (tgt := 109) dX6_many_102 (by decide) (fun c102 => ?_) (fun c102 => ?_)
  · have q := bI_0.mp c102
    refine g_iconst (v := 0) dX6_many_109 (by decide) ?_
    exact g_iret dX6_many_110 rfl ⟨by first | rw [bI_t q] | rw [bI_f q], rfl⟩
  · have q := bI_1.mp c102
    refine g_iconst (v := 1) dX6_many_105 (by decide) ?_
    refine g_goto (tgt := 110) dX6_many_106 (by decide) ?_
    exact g_iret dX6_many_110 rfl ⟨by first | rw [bI_t q] | rw [bI_f q], rfl⟩

set_option maxRecDepth 4000 in
theorem ev_X6_many_n6 {σ : r_Sg} (h0 : σ 19 0 = 0) (hlk : ∀ j, j < 3 → σ 31 j = 0) (h15 : σ 19 15 = 0) (h16 : σ 19 16 = 0) : Ev 5 MX6_many [.ref 19, .int 6] σ (some (.int 0)) σ := by
  refine Ev_w [.ref 19, .int 6] ?_ (by decide) rfl (Nat.le_of_ble_eq_true rfl) rfl
  refine g_iload_n dX6_many_0 rfl ?_
  refine g_tabIn (tgt := 98) dX6_many_1 (by decide) (by decide) (show _ = some 97 from rfl) (by decide) ?_
  refine g_aload_n dX6_many_98 rfl ?_
  refine g_getI dX6_many_99 fX6_117 rfl rfl ?_
  refine g_t h15 ?_
  refine g_ifeq (tgt := 109) dX6_many_102 (by decide) (fun c102 => ?_) (fun c102 => absurd rfl c102)
  refine g_iconst (v := 0) dX6_many_109 (by decide) ?_
  exact g_iret dX6_many_110 rfl ⟨rfl, rfl⟩

set_option maxRecDepth 4000 in
theorem ev_X6_many_7 {σ : r_Sg} {w : Nat} {sb : Option Nat} {fr : Nat → Nat} {nr : Nat} {nx : Nat} (h : r_MH σ w sb fr nr) (hst : 0 < σ 19 0) (hnx : σ 19 16 = nI nx) (hnx16 : nx < 16) : Ev 5 MX6_many [.ref 19, .int 7] σ (some (.int (2 - nI nr))) σ := by
  refine Ev_w [.ref 19, .int 7] ?_ (by decide) rfl (Nat.le_of_ble_eq_true rfl) rfl
  refine g_iload_n dX6_many_0 rfl ?_
  refine g_tabIn (tgt := 111) dX6_many_1 (by decide) (by decide) (show _ = some 110 from rfl) (by decide) ?_
  refine g_aload_n dX6_many_111 rfl ?_
  refine g_getI dX6_many_112 fX6_57 rfl rfl ?_
  refine g_ifne (tgt := 122) dX6_many_115 (by decide) (fun c115 => ?_) (fun c115 => absurd c115 (fun z => by rw [z] at hst; exact absurd hst (by decide)))
  refine g_iconst (v := 2) dX6_many_122 (by decide) ?_
  refine g_aload_n dX6_many_123 rfl ?_
  refine g_getI dX6_many_124 fX6_114 rfl rfl ?_
  refine g_t h.2.2.2.2.2.1 ?_
  refine g_isub dX6_many_127 ?_
  exact g_iret dX6_many_128 rfl ⟨rfl, rfl⟩

set_option maxRecDepth 4000 in
theorem ev_X6_many_n7 {σ : r_Sg} (h0 : σ 19 0 = 0) (hlk : ∀ j, j < 3 → σ 31 j = 0) (h15 : σ 19 15 = 0) (h16 : σ 19 16 = 0) : Ev 5 MX6_many [.ref 19, .int 7] σ (some (.int 0)) σ := by
  refine Ev_w [.ref 19, .int 7] ?_ (by decide) rfl (Nat.le_of_ble_eq_true rfl) rfl
  refine g_iload_n dX6_many_0 rfl ?_
  refine g_tabIn (tgt := 111) dX6_many_1 (by decide) (by decide) (show _ = some 110 from rfl) (by decide) ?_
  refine g_aload_n dX6_many_111 rfl ?_
  refine g_getI dX6_many_112 fX6_57 rfl rfl ?_
  refine g_ifne (tgt := 122) dX6_many_115 (by decide) (fun c115 => absurd h0 c115) (fun c115 => ?_)
  refine g_iconst (v := 0) dX6_many_118 (by decide) ?_
  refine g_goto (tgt := 128) dX6_many_119 (by decide) ?_
  exact g_iret dX6_many_128 rfl ⟨rfl, rfl⟩

set_option maxRecDepth 4000 in
theorem ev_X6_many_8 {σ : r_Sg} {w : Nat} {sb : Option Nat} {fr : Nat → Nat} {nr : Nat} {nx : Nat} (h : r_MH σ w sb fr nr) (hst : 0 < σ 19 0) (hnx : σ 19 16 = nI nx) (hnx16 : nx < 16) : Ev 5 MX6_many [.ref 19, .int 8] σ (some (.int (nI (nx / 4)))) σ := by
  refine Ev_w [.ref 19, .int 8] ?_ (by decide) rfl (Nat.le_of_ble_eq_true rfl) rfl
  refine g_iload_n dX6_many_0 rfl ?_
  refine g_tabIn (tgt := 129) dX6_many_1 (by decide) (by decide) (show _ = some 128 from rfl) (by decide) ?_
  refine g_aload_n dX6_many_129 rfl ?_
  refine g_getI dX6_many_130 fX6_121 rfl rfl ?_
  refine g_t hnx ?_
  refine g_iconst (v := nI 4) dX6_many_133 (by decide) ?_
  refine g_idiv dX6_many_134 (by decide) ?_
  refine g_t (pk_div (show nx < 2 ^ 31 by omega) (by omega) (by omega)) ?_
  exact g_iret dX6_many_135 rfl ⟨rfl, rfl⟩

set_option maxRecDepth 4000 in
theorem ev_X6_many_n8 {σ : r_Sg} (h0 : σ 19 0 = 0) (hlk : ∀ j, j < 3 → σ 31 j = 0) (h15 : σ 19 15 = 0) (h16 : σ 19 16 = 0) : Ev 5 MX6_many [.ref 19, .int 8] σ (some (.int 0)) σ := by
  refine Ev_w [.ref 19, .int 8] ?_ (by decide) rfl (Nat.le_of_ble_eq_true rfl) rfl
  refine g_iload_n dX6_many_0 rfl ?_
  refine g_tabIn (tgt := 129) dX6_many_1 (by decide) (by decide) (show _ = some 128 from rfl) (by decide) ?_
  refine g_aload_n dX6_many_129 rfl ?_
  refine g_getI dX6_many_130 fX6_121 rfl rfl ?_
  refine g_t h16 ?_
  refine g_iconst (v := nI 4) dX6_many_133 (by decide) ?_
  refine g_idiv dX6_many_134 (by decide) ?_
  exact g_iret dX6_many_135 rfl ⟨rfl, rfl⟩

set_option maxRecDepth 4000 in
theorem ev_X6_many_9 {σ : r_Sg} {w : Nat} {sb : Option Nat} {fr : Nat → Nat} {nr : Nat} {nx : Nat} (h : r_MH σ w sb fr nr) (hst : 0 < σ 19 0) (hnx : σ 19 16 = nI nx) (hnx16 : nx < 16) : Ev 5 MX6_many [.ref 19, .int 9] σ (some (.int (nI (nx % 4)))) σ := by
  refine Ev_w [.ref 19, .int 9] ?_ (by decide) rfl (Nat.le_of_ble_eq_true rfl) rfl
  refine g_iload_n dX6_many_0 rfl ?_
  refine g_tabIn (tgt := 136) dX6_many_1 (by decide) (by decide) (show _ = some 135 from rfl) (by decide) ?_
  refine g_aload_n dX6_many_136 rfl ?_
  refine g_getI dX6_many_137 fX6_121 rfl rfl ?_
  refine g_t hnx ?_
  refine g_iconst (v := nI 4) dX6_many_140 (by decide) ?_
  refine g_irem dX6_many_141 (by decide) ?_
  refine g_t (pk_rem (show nx < 2 ^ 31 by omega) (by omega) (by omega)) ?_
  exact g_iret dX6_many_142 rfl ⟨rfl, rfl⟩

set_option maxRecDepth 4000 in
theorem ev_X6_many_n9 {σ : r_Sg} (h0 : σ 19 0 = 0) (hlk : ∀ j, j < 3 → σ 31 j = 0) (h15 : σ 19 15 = 0) (h16 : σ 19 16 = 0) : Ev 5 MX6_many [.ref 19, .int 9] σ (some (.int 0)) σ := by
  refine Ev_w [.ref 19, .int 9] ?_ (by decide) rfl (Nat.le_of_ble_eq_true rfl) rfl
  refine g_iload_n dX6_many_0 rfl ?_
  refine g_tabIn (tgt := 136) dX6_many_1 (by decide) (by decide) (show _ = some 135 from rfl) (by decide) ?_
  refine g_aload_n dX6_many_136 rfl ?_
  refine g_getI dX6_many_137 fX6_121 rfl rfl ?_
  refine g_t h16 ?_
  refine g_iconst (v := nI 4) dX6_many_140 (by decide) ?_
  refine g_irem dX6_many_141 (by decide) ?_
  exact g_iret dX6_many_142 rfl ⟨rfl, rfl⟩
