/-! ===== Int32 by its bits: bt x i ===== -/
def bt (x : Int32) (i : Nat) : Bool := x.toBitVec.getLsbD i
theorem b_ext {x y : Int32} (h : ∀ i, i < 32 → bt x i = bt y i) : x = y := Int32.toBitVec_inj.mp (BitVec.eq_of_getLsbD_eq (fun i hi => h i hi))
theorem b_or (x y : Int32) (i : Nat) : bt (x ||| y) i = (bt x i || bt y i) := by unfold bt; rw [Int32.toBitVec_or, BitVec.getLsbD_or]
theorem b_and (x y : Int32) (i : Nat) : bt (x &&& y) i = (bt x i && bt y i) := by unfold bt; rw [Int32.toBitVec_and, BitVec.getLsbD_and]
theorem b_xor (x y : Int32) (i : Nat) : bt (x ^^^ y) i = (bt x i ^^ bt y i) := by unfold bt; rw [Int32.toBitVec_xor, BitVec.getLsbD_xor]
theorem b_big {x : Int32} {i : Nat} (h : 32 ≤ i) : bt x i = false := BitVec.getLsbD_of_ge _ _ h
theorem b_m1 : ∀ i, i < 32 → bt (-1) i = true := by decide +kernel
theorem b_0 (i : Nat) : bt 0 i = false := BitVec.getLsbD_zero
theorem s_u : ∀ n, n < 32 → (((nI n).toUInt32 &&& Int32.toUInt32 31).toBitVec % 32).toNat = n := by decide +kernel
theorem b_shl (n : Nat) (hn : n < 32) (x : Int32) {i : Nat} (hi : i < 32) : bt (x <<< (nI n &&& 31)) i = (decide (n ≤ i) && bt x (i - n)) := by
  unfold bt
  rw [Int32.toBitVec_shiftLeft]
  show (x.toBitVec <<< ((nI n &&& 31).toBitVec.smod 32).toNat).getLsbD i = _
  rw [r_smod n hn, BitVec.getLsbD_shiftLeft]
  rcases Nat.lt_or_ge i n with h | h
  · simp [h, Nat.not_le.mpr h]
  · simp [hi, h, Nat.not_lt.mpr h]
theorem b_ushr (n : Nat) (hn : n < 32) (x : Int32) (i : Nat) : bt ((x.toUInt32 >>> ((nI n).toUInt32 &&& Int32.toUInt32 31)).toInt32) i = bt x (n + i) := by
  show (x.toUInt32 >>> ((nI n).toUInt32 &&& Int32.toUInt32 31)).toBitVec.getLsbD i = x.toUInt32.toBitVec.getLsbD (n + i)
  rw [UInt32.toBitVec_shiftRight]
  show (x.toUInt32.toBitVec >>> (((nI n).toUInt32 &&& Int32.toUInt32 31).toBitVec % 32).toNat).getLsbD i = _
  rw [s_u n hn, BitVec.getLsbD_ushiftRight]
theorem b_sshr (n : Nat) (hn : n < 32) (x : Int32) {i : Nat} (hi : i < 32) : bt (x >>> (nI n &&& 31)) i = if n + i < 32 then bt x (n + i) else bt x 31 := by
  unfold bt
  rw [Int32.toBitVec_shiftRight]
  show (x.toBitVec.sshiftRight ((nI n &&& 31).toBitVec.smod 32).toNat).getLsbD i = _
  rw [r_smod n hn, BitVec.getLsbD_sshiftRight, BitVec.msb_eq_getLsbD_last]
  simp [hi]
/-! ===== nI under and ===== -/
theorem nx_and (a b : Nat) : nI a &&& nI b = nI (a &&& b) := by
  apply Int32.toBitVec_inj.1
  show BitVec.ofNat 32 a &&& BitVec.ofNat 32 b = BitVec.ofNat 32 (a &&& b)
  apply BitVec.eq_of_getLsbD_eq
  intro i hi
  simp [hi]
/-! ===== bits of what the class and the reference keep ===== -/
theorem b_1 : ∀ i, i < 32 → bt 1 i = decide (i = 0) := by decide +kernel
theorem r_b_bt (x : Int32) {q : Nat} (hq : q < 32) : r_b x q = if bt x q then 1 else 0 := by
  have h : bt (r_b x q) 0 = bt x q := by
    unfold r_b
    rw [b_and, b_sshr q hq x (show 0 < 32 by omega), b_1 0 (by omega)]
    simp [hq]
  rcases r_b01 x q with e | e
  · rw [e, b_0] at h
    rw [e, ← h]; rfl
  · rw [e, b_1 0 (by omega)] at h
    rw [e, ← h]; rfl
theorem r_b_0 {x : Int32} {q : Nat} (hq : q < 32) : r_b x q = 0 ↔ bt x q = false := by
  rw [r_b_bt x hq]; cases bt x q <;> simp
theorem r_b_1 {x : Int32} {q : Nat} (hq : q < 32) : r_b x q = 1 ↔ bt x q = true := by
  rw [r_b_bt x hq]; cases bt x q <;> simp
theorem r_b_eq {x y : Int32} {q s : Nat} (hq : q < 32) (hs : s < 32) : r_b x q = r_b y s ↔ bt x q = bt y s := by
  rw [r_b_bt x hq, r_b_bt y hs]; cases bt x q <;> cases bt y s <;> simp
theorem b_bm {p i : Nat} (hp : p < 32) (hi : i < 32) : bt (r_bm p) i = decide (i = p) := by
  unfold r_bm
  rw [b_shl p hp 1 hi]
  by_cases h : p ≤ i
  · rw [b_1 (i - p) (by omega)]
    by_cases h2 : i = p
    · simp [h2]
    · have : ¬ i - p = 0 := by omega
      simp [h, h2, this]
  · have : ¬ i = p := by omega
    simp [h, this]
theorem b_all : ∀ w, w < 31 → ∀ i, i < 32 → bt (r_all w) i = decide (i < w) := by decide +kernel
theorem b_01s {v : Int32} (hv : v = 0 ∨ v = 1) {p i : Nat} (hp : p < 32) (hi : i < 32) : bt (v <<< (nI p &&& 31)) i = (decide (i = p) && bt v 0) := by
  rw [b_shl p hp v hi]
  by_cases h : i = p
  · subst h; simp
  · by_cases h2 : p ≤ i
    · have h3 : ¬ i - p = 0 := by omega
      rcases hv with rfl | rfl
      · simp [b_0, h]
      · rw [b_1 (i - p) (by omega)]; simp [h, h3]
    · simp [h, h2]
theorem b_rb0 (x : Int32) {q : Nat} (hq : q < 32) : bt (r_b x q) 0 = bt x q := by
  rw [r_b_bt x hq]; cases bt x q
  · exact b_0 0
  · exact b_1 0 (by omega)
theorem b_po {w : Nat} {sb : Option Nat} (hw : w ≤ 20) (hs : ∀ b, sb = some b → b < w) (set : Int32) {q : Nat} (hq : q < 32) : bt (r_po w sb set) q = match sb with
    | none => bt set q
    | some s => (bt set q && !decide (q = s)) || (decide (q = w) && bt set s) := by
  cases sb with
  | none => rfl
  | some s =>
    have := hs s rfl
    simp only [r_po]
    rw [b_or, b_and, b_xor, b_m1 q hq, b_bm (by omega) hq, b_01s (r_b01 set s) (by omega) hq, b_rb0 set (by omega)]
    simp
theorem b_bo {w : Nat} {sb : Option Nat} (hw : w ≤ 20) (hs : ∀ b, sb = some b → b < w) (x : Int32) {b : Nat} (hb : b < 32) : bt (r_bo w sb x) b = (decide (b < w) && bt x (r_pl w sb b)) := by
  cases sb with
  | none =>
    simp only [r_bo, r_pl]
    rw [b_and, b_all w (by omega) b hb]
    simp [Bool.and_comm]
  | some s =>
    have := hs s rfl
    simp only [r_bo, r_pl]
    rw [b_or, b_and, b_and, b_xor, b_m1 b hb, b_bm (by omega) hb, b_all w (by omega) b hb, b_01s (r_b01 x w) (by omega) hb, b_rb0 x (by omega)]
    by_cases h : b = s
    · subst h; simp [this]
    · have h2 : ¬ some s = some b := fun z => h (by cases z; rfl)
      simp [h, h2, Bool.and_comm]
theorem b_rawF {f : Nat → Int32} : ∀ {n : Nat}, n ≤ 31 → (∀ b, b < n → f b = 0 ∨ f b = 1) → ∀ {i : Nat}, i < 32 → bt (r_rawF f n) i = (decide (i < n) && bt (f i) 0)
  | 0, _, _, i, hi => by simp [r_rawF, b_0]
  | n + 1, hn, hf, i, hi => by
    have ih := b_rawF (f := f) (n := n) (by omega) (fun b hb => hf b (by omega)) hi
    simp only [r_rawF]
    rw [b_or, ih, b_01s (hf n (by omega)) (by omega) hi]
    by_cases h : i = n
    · subst h; simp
    · have : (i < n + 1) ↔ i < n := by omega
      simp [h, this]
/-- the bits of a word, on both sides -/
theorem r_raw_eq {w : Nat} {sb : Option Nat} (hw : w ≤ 20) (hs : ∀ b, sb = some b → b < w) (x : Int32) : r_bo w sb x = r_rawF (fun b => r_b x (r_pl w sb b)) w := by
  apply b_ext
  intro i hi
  rw [b_bo hw hs x hi, b_rawF (by omega) (fun b _ => r_b01 x _) hi]
  by_cases h : i < w
  · have := r_pl_lt sb h hw
    simp [h, b_rb0 x (show r_pl w sb i < 32 by omega)]
  · simp [h]
theorem r_rawF_congr {f g : Nat → Int32} : ∀ {n : Nat}, (∀ b, b < n → f b = g b) → r_rawF f n = r_rawF g n
  | 0, _ => rfl
  | n + 1, h => by simp only [r_rawF]; rw [r_rawF_congr (fun b hb => h b (by omega)), h n (by omega)]
theorem b_sv (x : Int32) {v : Int32} (hv : v = 0 ∨ v = 1) {p q : Nat} (hp : p < 32) (hq : q < 32) : bt (r_sv x p v) q = if q = p then bt v 0 else bt x q := by
  unfold r_sv
  rw [b_or, b_and, b_xor, b_m1 q hq, b_bm hp hq, b_01s hv hp hq]
  by_cases h : q = p <;> simp [h]
theorem b_lo (x : Int32) {p q : Nat} (hp : p < 32) (hq : q < 32) : bt (r_lo x p) q = if q = p then false else bt x q := by
  unfold r_lo
  rw [b_and, b_xor, b_m1 q hq, b_bm hp hq]
  by_cases h : q = p <;> simp [h]
theorem b_hi (x : Int32) {p q : Nat} (hp : p < 32) (hq : q < 32) : bt (r_hi x p) q = if q = p then true else bt x q := by
  unfold r_hi
  rw [b_or, b_bm hp hq]
  by_cases h : q = p <;> simp [h]
theorem b_pt (x k a pl : Int32) {q : Nat} (hq : q < 32) : bt (r_pt x k a pl) q = if bt pl q = true ∧ bt k q = false then bt a q else bt x q := by
  unfold r_pt
  simp only [b_or, b_and, b_xor, b_m1 q hq]
  cases bt pl q <;> cases bt k q <;> simp
theorem b_tn (x k pl : Int32) {q : Nat} (hq : q < 32) : bt (x ^^^ (pl &&& (k ^^^ -1))) q = if bt pl q = true ∧ bt k q = false then !bt x q else bt x q := by
  simp only [b_and, b_xor, b_m1 q hq]
  cases bt pl q <;> cases bt k q <;> simp
