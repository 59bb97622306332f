/-! calls; a method's walk gives its call -/
theorem r_good {ws : List Cond} (h : ∀ w ∈ ws, w ∈ r_tbl) : GoodIn r_tbl ws := fun w hw => ⟨h w hw, good_of_word (List.mem_filter.mp (h w hw)).2⟩
def r_Vl (own : String) (idx : Nat) (M : r_M) (ci n : Nat) : Prop := Cond.methodLink own idx M.1 ∈ r_tbl ∧ Cond.instanceMethod M.1 ∈ r_tbl ∧ Cond.selects M.1.cls M.1 M.1 ∈ r_tbl ∧ Cond.initialized M.1.cls ∈ r_tbl ∧ Cond.code M.1 M.2.1 M.2.2.1 M.2.2.2 ∈ r_tbl ∧ (vwCl[ci]?).map (fun q => q.1) = some M.1.cls ∧ M.1.cls ≠ "java/lang/invoke/MethodHandle" ∧ M.1.cls ≠ "java/lang/invoke/VarHandle" ∧ (parseMethodDescriptor M.1.desc).map (fun d => d.parameters.length) = some n ∧ M.2.2.1 ≤ 11
def r_Sl (own : String) (idx : Nat) (M : r_M) (n : Nat) : Prop := Cond.methodLink own idx M.1 ∈ r_tbl ∧ Cond.static M.1 ∈ r_tbl ∧ Cond.initialized M.1.cls ∈ r_tbl ∧ Cond.code M.1 M.2.1 M.2.2.1 M.2.2.2 ∈ r_tbl ∧ M.1.cls ≠ "java/lang/invoke/MethodHandle" ∧ M.1.cls ≠ "java/lang/invoke/VarHandle" ∧ (parseMethodDescriptor M.1.desc).map (fun d => d.parameters.length) = some n ∧ M.2.2.1 ≤ 11
theorem r_D {A : Nat → Prop} {E : r_En} {σ : r_Sg} (h : va_D A (r_W E σ)) (σ' : r_Sg) : va_D A (r_W E σ') := by
  have key : ∀ (k : Nat) (q : Nat × va_E), (r_W E σ')[k]? = some q → ∃ q0, (r_W E σ)[k]? = some q0 ∧ q0.1 = q.1 := by
    intro k q hq
    obtain ⟨sh, h1, h2⟩ := r_at_inv hq
    exact ⟨_, r_at E σ h1, by rw [h2]; rfl⟩
  refine ⟨fun i j x y hi hj hxy => ?_, fun k q hk => ?_⟩
  · obtain ⟨x0, h1, h2⟩ := key i x hi
    obtain ⟨y0, h3, h4⟩ := key j y hj
    exact h.1 i j x0 y0 h1 h3 (h2.trans (hxy.trans h4.symm))
  · obtain ⟨q0, h1, h2⟩ := key k q hk
    rw [← h2]
    exact h.2 k q0 h1
theorem r_St.at {ad : Nat → Nat} {A : Nat → Prop} {s U : State} {H : Heap} {locs : List Loc} (h : r_St ad A s s.heap) (hS : va_S A s.heap H locs) (hA : ∀ q, s.heap.size ≤ q → A q) (hC : ∀ k, k < 34 → A (ad k)) (hU : U.heap = H) (hv : s.vm.Alike U.vm) : r_St ad (r_A ad H.size) U U.heap := by
  have hn : ∀ q, r_A ad H.size q → A q := by
    intro q hq
    rcases hq with ⟨k, hk, rfl⟩ | hq
    · exact hC k hk
    · exact hA q (Nat.le_trans hS.1 hq)
  rw [hU]
  exact ⟨((h.1.kept (fun a h1 h2 => hS.2.1 a h1 h2)).moved hv).narrow hn, ((h.2.kept (fun a h1 h2 => hS.2.1 a h1 h2)).moved hv).narrow hn⟩
def r_Pc (E : r_En) (σ : r_Sg) (sz : Nat) (as : List Value) : Array Value → State → Prop := va_Pc (as.map (r_v E.2.1)) (fun U => U.heap.size = sz ∧ va_P E.1 vwCl (r_W E σ) U.heap ∧ va_K E.1 vwCl (r_ty E) U ∧ va_D (fun _ => True) (r_W E σ) ∧ r_St E.2.1 (r_A E.2.1 sz) U U.heap)
theorem r_blind (E : r_En) (σ : r_Sg) (sz : Nat) (as : List Value) : FrameBlind (r_Pc E σ sz as) := by
  intro a U g mk q
  obtain ⟨q0, q1, qP, qK, qD, qS⟩ := q
  exact ⟨q0, q1, qP, va_K.moved (u := U) (U := U.calling g mk a) (Vm.Alike.refl U.vm) qK, qD, va_Z.moved (u := U) (U := U.calling g mk a) (Vm.Alike.refl U.vm) qS.1, va_T.moved (u := U) (U := U.calling g mk a) (Vm.Alike.refl U.vm) qS.2⟩
section Calls
variable {M : r_M} {h : Nat} {X : r_X} {Post : Option Value → r_Sg → Prop} {pc : Nat} {L S : List Value} {σ σ' : r_Sg}
theorem r_behind {p : Program} {l : Launch} {e : Env} {R : Room} {s : State} {m : MethodId} {args : Array Value} {below : List Frame} {meth : Method} {c : Code} {A : Nat → Prop} {cells slots : Nat} {Q : State → Prop} {E : r_En} {H : Heap} {locs : List Loc} {ls : Array Slot} {r : Option Value} {rest st0 : List Value}
    (k : G M h X Post (pc + 3) L (r.toList ++ rest) σ') (C : r_C M h X Post E p l e R s m args below meth c A cells slots Q) (hD : va_D A (r_W E σ)) (hS : va_S A s.heap H locs) (hL : r_L E.2.1 ls M.2.2.1 L)
    (hr : va_Run p l e R s m args below meth c H locs cells slots 0 0 (F0 m pc ls st0) (rest.map (r_v E.2.1)) (fun st oc t => (oc = .returned (r.map (r_v E.2.1)) ∧ va_P E.1 vwCl (r_W E σ') t.heap) ∧ va_F (r_A E.2.1 H.size) st t) (r_A E.2.1 H.size)) : W p l e R s m args below meth c H locs cells slots Q (F0 m pc ls st0) := by
  have hn : ∀ q, r_A E.2.1 H.size q → A q := by
    intro q hq
    rcases hq with ⟨k, hk, rfl⟩ | hq
    · exact C.2.2.2.2.2.2.2.1 k hk
    · exact C.2.2.2.2.2.2.1 q (Nat.le_trans hS.1 hq)
  intro T hT X0
  obtain ⟨v, st₀, t, T', L2, h0, X', hL2, e1, e2, ⟨⟨hv, hP1⟩, hz, hk⟩, st⟩ := hr T hT X0
  cases hv
  rw [h0] at hz hk
  have e3 : (r.map (r_v E.2.1)).toList ++ rest.map (r_v E.2.1) = (r.toList ++ rest).map (r_v E.2.1) := by cases r <;> simp
  obtain ⟨t2, a1, b1⟩ := k E p l e R s m args below meth c A cells slots Q C T'.heap (locs ++ L2) ls (by rw [e1]; exact hP1) (r_D hD σ')
    ⟨Nat.le_trans hS.1 (by rw [e1]; exact hz), fun q h1 h2 => by rw [e1, hk q (Nat.lt_of_lt_of_le h1 hS.1) (fun z => h2 (hn q z))]; exact hS.2.1 q h1 h2, fun q hq => by
      rcases List.mem_append.mp hq with h | h
      · exact hS.2.2 q h
      · exact hn _ (hL2 q h)⟩ hL T' rfl X'
  refine ⟨t2, st t2 ?_, b1⟩
  rw [e3]
  exact a1
theorem r_cats (ad : Nat → Nat) (rest : List Value) : ((rest.map (r_v ad)).map fun v => v.category).sum = (rest.map fun v => v.category).sum := by
  rw [List.map_map]
  congr 1
  apply List.map_congr_left
  intro v _
  exact r_v_cat ad v
theorem g_callV {idx ci q n h' : Nat} {M' : r_M} {fl : List (Option Nat)} {As rest : List Value} {r : Option Value} (d : decode M.2.1 pc = .ok (.invokevirtual idx, 3)) (hv : r_Vl M.1.cls idx M' ci n) (hs : r_SH[q]? = some (.inr (ci, fl))) (hn : As.length = n) (hc : (rest.map fun v => v.category).sum ≤ 8) (hh : h' + 1 ≤ h) (hev : Ev h' M' (.ref q :: As) σ r σ') (k : G M h X Post (pc + 3) L (r.toList ++ rest) σ') : G M h X Post pc L (As.reverse ++ .ref q :: rest) σ := by
  intro E p l e R s m args below meth c A cells slots Q C H locs ls hP hD hS hL
  obtain ⟨v1, v2, v3, v4, v5, v6, v7, v8, v9, v10⟩ := hv
  obtain ⟨hx, hb, hml, hown, hts, hK, hA, hC, hSt, hXF, ⟨hR1, hR2⟩, ⟨hc1, hc2⟩, hret⟩ := id C
  obtain ⟨cq, hcq, hcn⟩ : ∃ cq, vwCl[ci]? = some cq ∧ cq.1 = M'.1.cls := by
    cases hq : vwCl[ci]? with
    | none => rw [hq] at v6; cases v6
    | some cq => rw [hq] at v6; exact ⟨cq, rfl, Option.some.inj v6⟩
  have hM := hev l E H.size
  have hrec := va_recv hK hP hcq (r_at E σ hs)
  rw [hcn] at hrec
  refine r_behind k C hD hS hL (va_runV (As := As.map (r_v E.2.1)) (rest := rest.map (r_v E.2.1)) (b := E.2.1 q) ⟨hx, hb, hml, hown, hts⟩ hM (cwV n hts (r_good ?_) rfl rfl rfl ⟨rfl, v7, v8, v9⟩ ⟨Nat.le_trans hh hR1, ?_⟩) ⟨r_blind E σ H.size _, hrec, fun U hU hW => ⟨rfl, by rw [hU], by rw [hU]; exact hP, va_K.moved hW.alike hK, hD.weaken (fun _ _ _ _ => trivial), hSt.at hS hA hC hU hW.alike⟩⟩ rfl (by simpa using hn) hL.1 (by simp [List.map_reverse]; rfl) (lv_room (by rw [r_cats]; exact hc)) d ⟨hc1, hc2⟩)
  · intro w hw
    simp only [wsV, List.cons_append, List.nil_append, List.mem_cons] at hw
    rcases hw with rfl | rfl | rfl | rfl | rfl | hw
    · exact v1
    · exact v2
    · exact v3
    · exact v4
    · exact v5
    · exact hw
  · show 8 + (M'.2.2.1 + 11) + 30 * h' ≤ R.locals
    omega
theorem g_callS {idx n h' : Nat} {M' : r_M} {As rest : List Value} {r : Option Value} (d : decode M.2.1 pc = .ok (.invokestatic idx, 3)) (hv : r_Sl M.1.cls idx M' n) (hn : As.length = n) (hc : (rest.map fun v => v.category).sum ≤ 8) (hh : h' + 1 ≤ h) (hev : Ev h' M' As σ r σ') (k : G M h X Post (pc + 3) L (r.toList ++ rest) σ') : G M h X Post pc L (As.reverse ++ rest) σ := by
  intro E p l e R s m args below meth c A cells slots Q C H locs ls hP hD hS hL
  obtain ⟨v1, v2, v4, v5, v7, v8, v9, v10⟩ := hv
  obtain ⟨hx, hb, hml, hown, hts, hK, hA, hC, hSt, hXF, ⟨hR1, hR2⟩, ⟨hc1, hc2⟩, hret⟩ := id C
  have hM := hev l E H.size
  refine r_behind k C hD hS hL (va_runS (As := As.map (r_v E.2.1)) (rest := rest.map (r_v E.2.1)) ⟨hx, hb, hml, hown, hts⟩ hM (va_cwS n hts (r_good ?_) rfl rfl rfl ⟨v7, v8, v9⟩ ⟨Nat.le_trans hh hR1, ?_⟩) ⟨r_blind E σ H.size _, fun U hU hW => ⟨rfl, by rw [hU], by rw [hU]; exact hP, va_K.moved hW.alike hK, hD.weaken (fun _ _ _ _ => trivial), hSt.at hS hA hC hU hW.alike⟩⟩ rfl (by simpa using hn) hL.1 (by simp [List.map_reverse]) (lv_room (by rw [r_cats]; exact hc)) d ⟨hc1, hc2⟩)
  · intro w hw
    simp only [va_wsS, List.cons_append, List.nil_append, List.mem_cons] at hw
    rcases hw with rfl | rfl | rfl | rfl | hw
    · exact v1
    · exact v2
    · exact v4
    · exact v5
    · exact hw
  · show 8 + (M'.2.2.1 + 11) + 30 * h' ≤ R.locals
    omega
theorem g_lcmp {x y : Int64} (d : decode M.2.1 pc = .ok (.lcmp, 1)) (k : G M h X Post (pc + 1) L (.int (lg_cmp x y) :: S) σ) : G M h X Post pc L (.long y :: .long x :: S) σ := by
  intro E p l e R s m args below meth c A cells slots Q C H locs ls hP hD hS hL
  exact W.lcmp C.1 C.2.1 d (k E p l e R s m args below meth c A cells slots Q C H locs ls hP hD hS hL)
end Calls
theorem r_args : ∀ (vs : List Value) (k i : Nat) (v : Value), (∀ w ∈ vs, w.category = 1) → vs[i]? = some v → (k + i, v) ∈ lv_args k vs
  | [], k, i, v, _, h => by simp at h
  | w :: vs, k, i, v, hc, h => by
    have h1 : ¬ w.category = 2 := by rw [hc w List.mem_cons_self]; decide
    cases i with
    | zero =>
      simp at h
      subst h
      simp [lv_args]
    | succ i =>
      have h3 := r_args vs (k + 1) i v (fun z hz => hc z (List.mem_cons_of_mem _ hz)) (by simpa using h)
      simp only [lv_args, h1, if_false]
      refine List.mem_cons_of_mem _ ?_
      rw [show k + (i + 1) = k + 1 + i by omega]
      exact h3
theorem r_sl : ∀ (vs : List Value), (∀ w ∈ vs, w.category = 1) → (lg_sl vs).length = vs.length
  | [], _ => rfl
  | w :: vs, hc => by
    have h1 : ¬ w.category = 2 := by rw [hc w List.mem_cons_self]; decide
    have h2 := r_sl vs (fun z hz => hc z (List.mem_cons_of_mem _ hz))
    simp only [lg_sl, List.flatMap_cons, h1, if_false, List.length_append, List.length_cons] at h2 ⊢
    simp only [List.length_nil]
    omega
theorem r_entry (ad : Nat → Nat) (as : List Value) (n : Nat) (hc : ∀ w ∈ as, w.category = 1) (hl : as.length ≤ n) : r_L ad ((lg_sl (as.map (r_v ad)) ++ List.replicate (n - (lg_sl (as.map (r_v ad))).length) Slot.unset).toArray) n (as ++ List.replicate (n - as.length) .null) := by
  have hc2 : ∀ w ∈ as.map (r_v ad), w.category = 1 := by
    intro w hw
    obtain ⟨v, hv, rfl⟩ := List.mem_map.mp hw
    rw [r_v_cat]
    exact hc v hv
  have he := lv_entry (as.map (r_v ad)) (n := n) (by rw [r_sl _ hc2]; simpa using hl)
  refine ⟨he.1, he.2.1, fun i v hi hv => ?_⟩
  by_cases hil : i < as.length
  · rw [List.getElem?_append_left hil] at hi
    have h1 := r_args (as.map (r_v ad)) 0 i (r_v ad v) hc2 (by rw [List.getElem?_map, hi]; rfl)
    have h2 := he.2.2 _ h1
    simpa using h2
  · rw [List.getElem?_append_right (by omega)] at hi
    exact absurd (List.eq_of_mem_replicate (List.mem_of_getElem? hi)) hv
theorem Ev_of {h : Nat} {M : r_M} {as : List Value} {σ σ' : r_Sg} {r : Option Value} (hp : plainName M.1.cls = true) (hc : ∀ w ∈ as, w.category = 1) (hl : as.length ≤ M.2.2.1) (hg : G M h none (fun r1 s1 => r1 = r ∧ s1 = σ') 0 (as ++ List.replicate (M.2.2.1 - as.length) .null) [] σ) : Ev h M as σ r σ' := by
  intro l E sz
  refine Met.ofW (cc := M.2.1) (maxL := M.2.2.1) (ret := M.2.2.2) hp rfl ?_
  intro p e s m args below meth c s₁ B hml hv
  obtain ⟨rfl, hsz, hP, hK, hD0, hSt⟩ := hv
  subst hsz
  have hts := atoms_spec (ws := .code M.1 M.2.1 M.2.2.1 M.2.2.2 :: r_tbl) B.pre
  have hr := B.returns
  have hlocks := B.notSynchronized
  have hx := B.exec
  have hb := B.bytes
  rw [lg_entry_eq]
  refine hg E p l e _ s m _ below meth c (r_A E.2.1 s.heap.size) 0 0 _ ⟨B.exec, B.bytes, hml, findClass_of_methodNamed B.named, fun w hw => hts w (List.mem_cons_of_mem _ hw), hK, fun q h => Or.inr h, fun k hk => Or.inl ⟨k, hk, rfl⟩, hSt, (fun q h => by cases h), ⟨Nat.le_refl _, Nat.le_refl _⟩, ⟨Nat.zero_le _, Nat.zero_le _⟩, ?_⟩ s.heap [] _ hP ?_ va_S.rf (r_entry E.2.1 as _ hc hl)
  · intro pc i r2 σ2 S H locs ls d hri hrt hpost hP2 hD2 hS2
    obtain ⟨rfl, rfl⟩ := hpost
    unfold r_ri at hri
    split at hri
    · subst hri
      rename_i v
      cases hM : M.2.2.2 with
      | none => rw [hM] at hrt; exact absurd hrt (by simp [r_rt])
      | some ty =>
        rw [hM] at hrt hr
        exact W.zret hx hb hr hrt.1 (fun t ht hW => ⟨⟨rfl, by rw [ht]; exact hP2⟩, hS2.F ht⟩) hS2.2.2 d
    · subst hri
      cases hM : M.2.2.2 with
      | none => rw [hM] at hrt; exact absurd hrt (by simp [r_rt])
      | some ty =>
        rw [hM] at hrt hr
        have h9 : ty = .long := hrt
        subst h9
        exact W.lret hx hb hr (fun t ht hW => ⟨⟨rfl, by rw [ht]; exact hP2⟩, hS2.F ht⟩) hS2.2.2 d
    · subst hri
      cases hM : M.2.2.2 with
      | none => rw [hM] at hrt; exact absurd hrt (by simp [r_rt])
      | some ty =>
        rw [hM] at hrt hr
        exact W.aret hx hb hr (Or.inl hrt) (Or.inr ⟨_, rfl⟩) (fun t ht hW => ⟨⟨rfl, by rw [ht]; exact hP2⟩, hS2.F ht⟩) hS2.2.2 d
    · cases hM : M.2.2.2 with
      | some ty => rw [hM] at hrt; exact absurd hrt (by simp [r_rt])
      | none =>
        rw [hM] at hr
        exact W.vret hx hb hr (fun t ht hW => ⟨⟨rfl, by rw [ht]; exact hP2⟩, hS2.F ht⟩) hS2.2.2 d
    · exact absurd hri (by simp)
  · refine ⟨hD0.1, fun k q hk => ?_⟩
    obtain ⟨sh, h1, h2⟩ := r_at_inv hk
    rw [h2]
    exact Or.inl ⟨k, r_kk h1, rfl⟩
