/-! The walk of a method over ONE pool of 34 cells whose numbers are fixed ahead (class and reference together), its ints a function s c i (cell c, place i): 'G' (go on from here), 'Ev' (a call comes to its end), a row an instruction. -/
abbrev r_Sg : Type := Nat → Nat → Int32
abbrev r_Sh : Type := (Nat × Bool) ⊕ (Nat × List (Option Nat))
/-- the cells: 0 MendedBank, 1 Code (2 columns, 3 rowOnes, 4 bitByColumn), 5 Bank (6 Cells: 7 values, 8 stuck, 9 marks; 10 Log: 11 looks, 12 mends, 13 troubled; 14 frames, 15 kept, 16 retired), 17 FlipTable (18 counts), 19 the reference and its arrays -/
def r_SH : List r_Sh := [.inr (5, [some 1, some 5, some 17]), .inr (2, [some 2, some 3, some 4, none, none]), .inl (20, false), .inl (6, false), .inl (64, false),
  .inr (0, [some 1, some 6, some 10, some 14, some 15, some 16, none, none, none, none, none]), .inr (1, [some 7, some 8, some 9]), .inl (24, false), .inl (24, false), .inl (504, false),
  .inr (4, [some 11, some 12, some 13, none, none, none, none, none, none, none]), .inl (3, false), .inl (4, false), .inl (4, false), .inl (4, false), .inl (16, false), .inl (2, false),
  .inr (3, [some 1, some 18, none]), .inl (320, false),
  .inr (6, [none, none, some 20, some 21, some 22, some 23, some 24, some 25, some 26, some 27, some 28, some 29, none, some 30, none, none, none, some 31, some 32, some 33]),
  .inl (20, false), .inl (6, false), .inl (504, false), .inl (504, true), .inl (504, false), .inl (4, false), .inl (20, false), .inl (16, false), .inl (4, false), .inl (4, false), .inl (2, false), .inl (3, false), .inl (6, false), .inl (5, false)]
abbrev r_En : Type := ((Nat → ClassId) × (Nat → Nat → Nat)) × (Nat → Nat) × ClassId × ClassId
def r_fs (ad : Nat → Nat) (s : r_Sg) (k : Nat) (fl : List (Option Nat)) : List Value := fl.mapIdx (fun i o => match o with
  | some j => .ref (ad j)
  | none => .int (s k i))
def r_e (E : r_En) (s : r_Sg) (k : Nat) (sh : r_Sh) : Nat × va_E := (E.2.1 k, match sh with
  | .inl q => .inl (bif q.2 then E.2.2.2 else E.2.2.1, q.1, .inl (s k))
  | .inr q => .inr (q.1, r_fs E.2.1 s k q.2))
def r_W (E : r_En) (s : r_Sg) : va_W := r_SH.mapIdx (r_e E s)
def r_up (s : r_Sg) (k i : Nat) (v : Int32) : r_Sg := fun k' => if k' = k then upd (s k') i v else s k'
theorem r_at (E : r_En) (s : r_Sg) {k : Nat} {sh : r_Sh} (h : r_SH[k]? = some sh) : (r_W E s)[k]? = some (r_e E s k sh) := by simp [r_W, List.getElem?_mapIdx, h]
theorem r_at_inv {E : r_En} {s : r_Sg} {k : Nat} {q : Nat × va_E} (h : (r_W E s)[k]? = some q) : ∃ sh, r_SH[k]? = some sh ∧ q = r_e E s k sh := by
  simp only [r_W, List.getElem?_mapIdx] at h
  cases hs : r_SH[k]? with
  | none => rw [hs] at h; cases h
  | some sh => rw [hs] at h; exact ⟨sh, rfl, (Option.some.inj h).symm⟩
theorem r_len (E : r_En) (s : r_Sg) : (r_W E s).length = 34 := by simp [r_W, r_SH]
theorem r_kk {k : Nat} {sh : r_Sh} (h : r_SH[k]? = some sh) : k < 34 := (List.getElem?_eq_some_iff.mp h).1
theorem r_up_ne (s : r_Sg) {k c : Nat} (i : Nat) (v : Int32) (h : c ≠ k) : r_up s k i v c = s c := by simp [r_up, h]
theorem r_up_eq (s : r_Sg) (k i : Nat) (v : Int32) : r_up s k i v k = upd (s k) i v := by simp [r_up]
theorem r_set (E : r_En) (s : r_Sg) {k : Nat} {sh : r_Sh} (h : r_SH[k]? = some sh) (i : Nat) (v : Int32) {e : va_E} (he : r_e E (r_up s k i v) k sh = (E.2.1 k, e)) : (r_W E s).set k (E.2.1 k, e) = r_W E (r_up s k i v) := by
  have hl : k < (r_W E s).length := by rw [r_len]; exact r_kk h
  apply List.ext_getElem?
  intro j
  by_cases hj : j = k
  · subst hj
    rw [List.getElem?_set_self hl, r_at E (r_up s j i v) h, he]
  · rw [List.getElem?_set_ne (Ne.symm hj)]
    simp only [r_W, List.getElem?_mapIdx]
    cases hs : r_SH[j]? with
    | none => rfl
    | some sh2 =>
      simp only [Option.map_some]
      congr 1
      unfold r_e
      cases sh2 with
      | inl q => simp only [r_up_ne s i v hj]
      | inr q =>
        simp only [r_fs]
        rw [r_up_ne s i v hj]
theorem r_setF (E : r_En) (s : r_Sg) {k ci i : Nat} {fl : List (Option Nat)} (h : r_SH[k]? = some (.inr (ci, fl))) (hf : fl[i]? = some none) (v : Int32) : (r_W E s).set k (E.2.1 k, .inr (ci, (r_fs E.2.1 s k fl).set i (.int v))) = r_W E (r_up s k i v) := by
  refine r_set E s h i v ?_
  refine Prod.ext rfl (congrArg Sum.inr (Prod.ext rfl ?_))
  show r_fs E.2.1 (r_up s k i v) k fl = (r_fs E.2.1 s k fl).set i (.int v)
  apply List.ext_getElem?
  intro j
  by_cases hj : j = i
  · subst hj
    have hl : j < fl.length := (List.getElem?_eq_some_iff.mp hf).1
    rw [List.getElem?_set_self (by simpa [r_fs] using hl)]
    simp only [r_fs, List.getElem?_mapIdx, hf, Option.map_some, r_up_eq]
    simp [upd]
  · rw [List.getElem?_set_ne (Ne.symm hj)]
    simp only [r_fs, List.getElem?_mapIdx, r_up_eq]
    cases fl[j]? with
    | none => rfl
    | some o => cases o with
      | none => simp [upd, hj]
      | some x => rfl
theorem r_setA (E : r_En) (s : r_Sg) {k n : Nat} {b : Bool} (h : r_SH[k]? = some (.inl (n, b))) (i : Nat) (v : Int32) : (r_W E s).set k (E.2.1 k, .inl (bif b then E.2.2.2 else E.2.2.1, n, .inl (upd (s k) i v))) = r_W E (r_up s k i v) := by
  refine r_set E s h i v ?_
  simp [r_e, r_up_eq]
/-- which cells a call may change -/
def r_A (ad : Nat → Nat) (sz : Nat) : Nat → Prop := fun q => (∃ k, k < 34 ∧ q = ad k) ∨ sz ≤ q
def r_v (ad : Nat → Nat) : Value → Value
  | .ref k => .ref (ad k)
  | v => v
theorem r_v_cat (ad : Nat → Nat) (v : Value) : (r_v ad v).category = v.category := by cases v <;> rfl
/-- the locals: null is 'nothing known' -/
def r_L (ad : Nat → Nat) (ls : Array Slot) (nL : Nat) (L : List Value) : Prop := ls.size = nL ∧ lv_wf ls ∧ ∀ (i : Nat) (v : Value), L[i]? = some v → v ≠ .null → ls[i]? = some (.val (r_v ad v))
def r_lv (ad : Nat → Nat) : Nat → List Value → List (Nat × Value)
  | _, [] => []
  | k, v :: L => if v = .null then r_lv ad (k + 1) L else (k, r_v ad v) :: r_lv ad (k + 1) L
theorem r_lv_mem (ad : Nat → Nat) : ∀ (L : List Value) (k i : Nat) (v : Value), L[i]? = some v → v ≠ .null → (k + i, r_v ad v) ∈ r_lv ad k L
  | [], k, i, v, h, _ => by simp at h
  | w :: L, k, i, v, h, hv => by
    cases i with
    | zero =>
      simp at h
      subst h
      simp [r_lv, hv]
    | succ i =>
      have h2 : L[i]? = some v := by simpa using h
      have h3 := r_lv_mem ad L (k + 1) i v h2 hv
      rw [show k + 1 + i = k + (i + 1) by omega] at h3
      unfold r_lv
      split
      · exact h3
      · exact List.mem_cons_of_mem _ h3
theorem r_lv_inv (ad : Nat → Nat) : ∀ (L : List Value) (k : Nat) (q : Nat × Value), q ∈ r_lv ad k L → ∃ i v, L[i]? = some v ∧ v ≠ .null ∧ q = (k + i, r_v ad v)
  | [], k, q, h => by simp [r_lv] at h
  | w :: L, k, q, h => by
    unfold r_lv at h
    split at h
    · obtain ⟨i, v, h1, h2, h3⟩ := r_lv_inv ad L (k + 1) q h
      exact ⟨i + 1, v, by simpa using h1, h2, by rw [h3]; congr 1; omega⟩
    · rcases List.mem_cons.mp h with rfl | h
      · exact ⟨0, w, by simp, by assumption, rfl⟩
      · obtain ⟨i, v, h1, h2, h3⟩ := r_lv_inv ad L (k + 1) q h
        exact ⟨i + 1, v, by simpa using h1, h2, by rw [h3]; congr 1; omega⟩
theorem r_L.has {ad : Nat → Nat} {ls : Array Slot} {nL : Nat} {L : List Value} (h : r_L ad ls nL L) : lv_has ls nL (r_lv ad 0 L) := by
  refine ⟨h.1, h.2.1, fun q hq => ?_⟩
  obtain ⟨i, v, h1, h2, h3⟩ := r_lv_inv ad L 0 q hq
  subst h3
  simpa using h.2.2 i v h1 h2
/-- a local by its place -/
def r_lg : List Value → Nat → Value
  | [], _ => .null
  | v :: _, 0 => v
  | _ :: L, i + 1 => r_lg L i
theorem r_lg_some : ∀ {L : List Value} {i : Nat} {v : Value}, r_lg L i = v → v ≠ .null → L[i]? = some v
  | [], i, v, h, hv => absurd h.symm hv
  | w :: L, 0, v, h, hv => by simpa [r_lg] using h
  | w :: L, i + 1, v, h, hv => by simpa using r_lg_some (L := L) (i := i) h hv
/-- a store of one place: the place before it holds no long -/
def r_ls : List Value → Nat → Value → List Value
  | [], _, _ => []
  | _ :: L, 0, v => v :: L
  | w :: L, i + 1, v => w :: r_ls L i v
theorem r_ls_set : ∀ (L : List Value) (i : Nat) (v : Value), r_ls L i v = L.set i v
  | [], _, _ => rfl
  | _ :: _, 0, _ => rfl
  | w :: L, i + 1, v => by simp [r_ls, r_ls_set L i v]
def r_lg2 : Value → Bool
  | .long _ => true
  | .double _ => true
  | _ => false
def r_pv (L : List Value) : Nat → Bool
  | 0 => true
  | i + 1 => !(r_lg2 (r_lg L i))
theorem r_lg2_cat {v : Value} (h : r_lg2 v = false) : ¬ v.category = 2 := by cases v <;> simp_all [r_lg2, Value.category]
theorem r_lg_get {L : List Value} {i : Nat} {v : Value} (h : L[i]? = some v) : r_lg L i = v := by
  induction L generalizing i with
  | nil => simp at h
  | cons w L ih =>
    cases i with
    | zero => simpa [r_lg] using h
    | succ i => exact ih (by simpa using h)
theorem r_L.set {ad : Nat → Nat} {ls ls' : Array Slot} {nL : Nat} {L : List Value} (h : r_L ad ls nL L) {i : Nat} {v : Value} (hp : r_pv L i = true) (h2 : lv_has ls' nL ((i, r_v ad v) :: (r_lv ad 0 L).filter (fun q => !(q.1 == i) && !(q.1 + 1 == i && q.2.category == 2)))) : r_L ad ls' nL (r_ls L i v) := by
  refine ⟨h2.1, h2.2.1, fun j w hj hw => ?_⟩
  rw [r_ls_set] at hj
  by_cases hji : j = i
  · subst hji
    have hl : j < L.length := by
      have := (List.getElem?_eq_some_iff.mp hj).1
      simpa using this
    rw [List.getElem?_set_self hl] at hj
    cases hj
    exact h2.2.2 (j, r_v ad v) (List.mem_cons_self)
  · rw [List.getElem?_set_ne (Ne.symm hji)] at hj
    refine h2.2.2 (j, r_v ad w) (List.mem_cons_of_mem _ (List.mem_filter.mpr ⟨by simpa using r_lv_mem ad L 0 j w hj hw, ?_⟩))
    simp only [r_v_cat]
    by_cases hc : j + 1 = i
    · subst hc
      have h3 : r_lg2 w = false := by
        simp only [r_pv, r_lg_get hj] at hp
        simpa using hp
      have h4 := r_lg2_cat h3
      simp [h4]
    · simp [hji, hc]
theorem r_L.set2 {ad : Nat → Nat} {ls ls' : Array Slot} {nL : Nat} {L : List Value} (h : r_L ad ls nL L) {i : Nat} {v : Value} (hp : r_pv L i = true) (h2 : lv_has ls' nL ((i, r_v ad v) :: (r_lv ad 0 L).filter (fun q => !(q.1 == i) && (!(q.1 == i + 1) && !(q.1 + 1 == i && q.2.category == 2))))) : r_L ad ls' nL (r_ls (r_ls L i v) (i + 1) .null) := by
  refine ⟨h2.1, h2.2.1, fun j w hj hw => ?_⟩
  rw [r_ls_set, r_ls_set] at hj
  by_cases hj1 : j = i + 1
  · subst hj1
    rw [List.getElem?_set] at hj
    simp only [if_true] at hj
    split at hj
    · cases hj; exact absurd rfl hw
    · cases hj
  · rw [List.getElem?_set_ne (Ne.symm hj1)] at hj
    by_cases hji : j = i
    · subst hji
      have hl : j < L.length := by
        have := (List.getElem?_eq_some_iff.mp hj).1
        simpa using this
      rw [List.getElem?_set_self hl] at hj
      cases hj
      exact h2.2.2 (j, r_v ad v) (List.mem_cons_self)
    · rw [List.getElem?_set_ne (Ne.symm hji)] at hj
      refine h2.2.2 (j, r_v ad w) (List.mem_cons_of_mem _ (List.mem_filter.mpr ⟨by simpa using r_lv_mem ad L 0 j w hj hw, ?_⟩))
      simp only [r_v_cat]
      by_cases hc : j + 1 = i
      · subst hc
        have h3 : r_lg2 w = false := by
          simp only [r_pv, r_lg_get hj] at hp
          simpa using hp
        have h4 := r_lg2_cat h3
        simp [h4, hj1]
      · simp [hji, hc, hj1]
/-- the static array of the class: 4, 11, 14; it is 'cell 98', the script 'cell 99' -/
def r_md : Nat → Value := fun j => .int (if j = 0 then 4 else if j = 1 then 11 else 14)
def r_St (ad : Nat → Nat) (A : Nat → Prop) (U : State) (H : Heap) : Prop := va_Z "MendedBank$Code" "MOST_DATA" "[I" (.ref (ad 98)) A U H ∧ va_T .int (ad 98) 3 r_md A U H
abbrev r_X : Type := Option (Nat × (Nat → Int32))
def r_XF (ad : Nat → Nat) (A : Nat → Prop) (s : State) (X : r_X) : Prop := ∀ q, X = some q → va_X (ad 99) q.1 q.2 s s.heap ∧ ad 99 < s.heap.size ∧ ¬ A (ad 99)
abbrev r_ty (E : r_En) : List (ClassId × FieldType) := [(E.2.2.1, .int), (E.2.2.2, .boolean)]
abbrev r_rm (h : Nat) : Room := { frames := h, cells := 0, slots := 0, locals := 30 * h }
/-- a call of a method comes to its end: its answer, and what the ints are then -/
def Ev (h : Nat) (M : r_M) (as : List Value) (s : r_Sg) (r : Option Value) (s' : r_Sg) : Prop := ∀ (l : Launch) (E : r_En) (sz : Nat),
  Met l M.1 (.code M.1 M.2.1 M.2.2.1 M.2.2.2 :: r_tbl) (r_rm h) (va_Pc (as.map (r_v E.2.1)) (fun U => U.heap.size = sz ∧ va_P E.1 vwCl (r_W E s) U.heap ∧ va_K E.1 vwCl (r_ty E) U ∧ va_D (fun _ => True) (r_W E s) ∧ r_St E.2.1 (r_A E.2.1 sz) U U.heap))
    (fun _ st oc t => (oc = .returned (r.map (r_v E.2.1)) ∧ va_P E.1 vwCl (r_W E s') t.heap) ∧ va_F (r_A E.2.1 sz) st t) 0 0 (r_A E.2.1 sz)
/-- what a return gives -/
def r_rt : Option FieldType → Option Value → Prop
  | none, none => True
  | some ty, some (.int v) => narrow ty (.int v) = .int v ∧ (ty = .int ∨ ty = .boolean)
  | some ty, some (.long _) => ty = .long
  | some ty, some (.ref _) => ∃ n, ty = .object n
  | _, _ => False
def r_ri : Instr → List Value → Option Value → Prop
  | .ireturn, [.int v], some (.int w) => v = w
  | .lreturn, [.long v], some (.long w) => v = w
  | .areturn, [.ref v], some (.ref w) => v = w
  | .return_, [], none => True
  | _, _, _ => False
/-- what stands fast while a method runs -/
def r_C (M : r_M) (h : Nat) (X : r_X) (Post : Option Value → r_Sg → Prop) (E : r_En) (p : Program) (l : Launch) (e : Env) (R : Room) (s : State) (m : MethodId) (args : Array Value) (below : List Frame) (meth : Method) (c : Code) (A : Nat → Prop) (cells slots : Nat) (Q : State → Prop) : Prop :=
  p.tables.exec = Jvm.exec ∧ c.code = M.2.1 ∧ c.maxLocals = M.2.2.1 ∧ s.vm.findClass M.1.cls = some m.cls ∧ (∀ w ∈ r_tbl, w.before args s = true) ∧ va_K E.1 vwCl (r_ty E) s ∧ (∀ q, s.heap.size ≤ q → A q) ∧ (∀ k, k < 34 → A (E.2.1 k)) ∧ r_St E.2.1 A s s.heap ∧ r_XF E.2.1 A s X ∧
  (h ≤ R.frames ∧ 30 * h ≤ R.locals) ∧ (cells ≤ R.cells ∧ slots ≤ R.slots) ∧
  (∀ (pc : Nat) (i : Instr) (r : Option Value) (σ : r_Sg) (S : List Value) (H : Heap) (locs : List Loc) (ls : Array Slot), decode M.2.1 pc = .ok (i, 1) → r_ri i S r → r_rt M.2.2.2 r → Post r σ → va_P E.1 vwCl (r_W E σ) H → va_D A (r_W E σ) → va_S A s.heap H locs →
    W p l e R s m args below meth c H locs cells slots Q (F0 m pc ls (S.map (r_v E.2.1))))
/-- from here the method comes to its end, with Post of its answer and its ints -/
def G (M : r_M) (h : Nat) (X : r_X) (Post : Option Value → r_Sg → Prop) (pc : Nat) (L S : List Value) (σ : r_Sg) : Prop :=
  ∀ (E : r_En) (p : Program) (l : Launch) (e : Env) (R : Room) (s : State) (m : MethodId) (args : Array Value) (below : List Frame) (meth : Method) (c : Code) (A : Nat → Prop) (cells slots : Nat) (Q : State → Prop), r_C M h X Post E p l e R s m args below meth c A cells slots Q →
  ∀ (H : Heap) (locs : List Loc) (ls : Array Slot), va_P E.1 vwCl (r_W E σ) H → va_D A (r_W E σ) → va_S A s.heap H locs → r_L E.2.1 ls M.2.2.1 L → W p l e R s m args below meth c H locs cells slots Q (F0 m pc ls (S.map (r_v E.2.1)))
