/-! the law from its entry -/
set_option maxHeartbeats 8000000 in
set_option maxRecDepth 100000 in
theorem whole_start {p : Program} {e : Env} {s : State} {m : MethodId} {below : List Frame} {meth : Method} {c : Code} (l : Launch) (hflags : l.flags = flags0) {b L : Nat} {xs : Nat → Int32} (hL : L ≤ 2560) (C0 : lw_At p s m meth c b L xs) : W p l e room_1 s m #[Value.ref b] below meth c s.heap [] 0 0 (lw_Z below #[Value.ref b] s) (entryFrame m ([Value.ref b] : List Value).toArray 4) := by
  obtain ⟨hx, hb, hr, hml, hown, htl, hX, hbl, hlocks, hgv⟩ := id C0
  have hts : ∀ w ∈ r_tbl, w.before #[Value.ref b] s = true := fun w hw => htl w (List.mem_filter.mp hw).1
  have hA : ∀ q : Nat, s.heap.size ≤ q → (fun q : Nat => s.heap.size ≤ q) q := fun _ h => h
  have hbA : ¬ (fun q : Nat => s.heap.size ≤ q) b := Nat.not_le.mpr hbl
  have hAn : ∀ a : Nat, a < s.heap.size → ¬ (fun q : Nat => s.heap.size ≤ q) a := fun a h => Nat.not_le.mpr h
  obtain ⟨c0, iS0, hKn0⟩ := u_known (C := RX0) (T := TX0) (N := 11) (n := 11) hts iwX0 (hts (.instantiable RX0 11) (lk 43 (by decide +kernel)))
  obtain ⟨c1, iS1, hKn1⟩ := u_known (C := RX1) (T := TX1) (N := 3) (n := 3) hts iwX1 (hts (.instantiable RX1 3) (lk 49 (by decide +kernel)))
  obtain ⟨c2, iS2, hKn2⟩ := u_known (C := RX2) (T := TX2) (N := 5) (n := 5) hts iwX2 (hts (.instantiable RX2 5) (lk 20 (by decide +kernel)))
  obtain ⟨c3, iS3, hKn3⟩ := u_known (C := RX3) (T := TX3) (N := 3) (n := 3) hts iwX3 (hts (.instantiable RX3 3) (lk 136 (by decide +kernel)))
  obtain ⟨c4, iS4, hKn4⟩ := u_known (C := RX4) (T := TX4) (N := 10) (n := 10) hts iwX4 (hts (.instantiable RX4 10) (lk 65 (by decide +kernel)))
  obtain ⟨c5, iS5, hKn5⟩ := u_known (C := RX5) (T := TX5) (N := 3) (n := 3) hts iwX5 (hts (.instantiable RX5 3) (lk 12 (by decide +kernel)))
  obtain ⟨c6, iS6, hKn6⟩ := u_known (C := RX6) (T := TX6) (N := 20) (n := 20) hts iwX6 (hts (.instantiable RX6 20) (lk 619 (by decide +kernel)))
  obtain ⟨D, hKc⟩ : ∃ D : va_G, ∀ (k : Nat) (q : vw_C), vwCl[k]? = some q → u_Kn s q.1 q.2.1 q.2.2 (D.1 k) (D.2 k) := by
    refine ⟨(fun k => if k = 0 then c0 else if k = 1 then c1 else if k = 2 then c2 else if k = 3 then c3 else if k = 4 then c4 else if k = 5 then c5 else c6, fun k => if k = 0 then iS0 else if k = 1 then iS1 else if k = 2 then iS2 else if k = 3 then iS3 else if k = 4 then iS4 else if k = 5 then iS5 else iS6), ?_⟩
    intro k q hq
    match k, hq with
    | 0, hq => cases hq; exact hKn0
    | 1, hq => cases hq; exact hKn1
    | 2, hq => cases hq; exact hKn2
    | 3, hq => cases hq; exact hKn3
    | 4, hq => cases hq; exact hKn4
    | 5, hq => cases hq; exact hKn5
    | 6, hq => cases hq; exact hKn6
    | k + 7, hq => simp [vwCl] at hq
  obtain ⟨cI, kI, compI, hI1, hI2, hI3⟩ := Cond.arrayClass_spec (hts _ kAI)
  obtain ⟨cB, kB, compB, hB1, hB2, hB3⟩ := Cond.arrayClass_spec (hts _ kAZ)
  have hK : va_K D vwCl [(cI, .int), (cB, .boolean)] s := by
    refine ⟨hKc, fun k q h => ?_⟩
    match k, h with
    | 0, h => cases h; exact ⟨fun n z => ⟨fun k h => (by cases h), kI, hI2, compI, hI3⟩, hI1⟩
    | 1, h => cases h; exact ⟨fun n z => ⟨fun k h => (by cases h), kB, hB2, compB, hB3⟩, hB1⟩
    | k + 2, h => simp at h
  have hN_X5_11 : va_Nw (.methodLinkNest RX5 11 yX2_init "MendedBank") s := va_Nw.of rfl (htl _ (List.mem_append_right _ (List.mem_of_getElem? (i := 21) (by decide +kernel))))
  have hN_X0_11 : va_Nw (.methodLinkNest RX0 11 yX1_init "MendedBank") s := va_Nw.of rfl (htl _ (List.mem_append_right _ (List.mem_of_getElem? (i := 50) (by decide +kernel))))
  have hN_X0_20 : va_Nw (.methodLinkNest RX0 20 yX4_init "MendedBank") s := va_Nw.of rfl (htl _ (List.mem_append_right _ (List.mem_of_getElem? (i := 66) (by decide +kernel))))
  have hfl := flat_of_before _ hgv
  obtain ⟨st, hst, hT⟩ := va_Tof (tm := (.static "MendedBank$Code" "MOST_DATA" "[I")) (ty := .int) (N := 3) (f := r_md) (A := (fun q : Nat => s.heap.size ≤ q)) (by decide) (hfl (Cond.arrayOf (.static "MendedBank$Code" "MOST_DATA" "[I") .int) (by decide +kernel)) (va_eqt (hfl (Cond.eq (.length (.static "MendedBank$Code" "MOST_DATA" "[I")) (.int 3)) (by decide +kernel))) (fun j hj => by
    rcases (show j = 0 ∨ j = 1 ∨ j = 2 by omega) with rfl | rfl | rfl
    · exact va_eqt (hfl (Cond.eq (.elem (.static "MendedBank$Code" "MOST_DATA" "[I") (.int 0)) (.int 4)) (by decide +kernel))
    · exact va_eqt (hfl (Cond.eq (.elem (.static "MendedBank$Code" "MOST_DATA" "[I") (.int 1)) (.int 11)) (by decide +kernel))
    · exact va_eqt (hfl (Cond.eq (.elem (.static "MendedBank$Code" "MOST_DATA" "[I") (.int 2)) (.int 14)) (by decide +kernel))) hAn
  have hZ : va_Z "MendedBank$Code" "MOST_DATA" "[I" (.ref st) (fun q : Nat => s.heap.size ≤ q) s s.heap := va_Zref (htl (.laysStatic "MendedBank$Code" "MOST_DATA" "[I") (List.mem_append_right _ (List.mem_of_getElem? (i := 169) (by decide +kernel)))) (hts (.initialized RX2) (lk 2 (by decide +kernel))) hst hAn
  have hS : va_S (fun q : Nat => s.heap.size ≤ q) s.heap s.heap [] := va_S.rf
  have hP : va_P D vwCl [] s.heap := fun k q h => by simp at h
  have hD : va_D (fun q : Nat => s.heap.size ≤ q) [] := ⟨fun i j p q h => by simp at h, fun k q h => by simp at h⟩
  have hl := lv_entry ([.ref b]) (n := 4) (Nat.le_of_ble_eq_true rfl)
  rw [lg_entry_eq]
  generalize (lg_sl ([.ref b]) ++ List.replicate (4 - (lg_sl ([.ref b])).length) Slot.unset).toArray = ls at hl ⊢
  have hl : lv_has ls 4 [(0, .ref b)] := hl
  refine va_new (ci := 5) (fs := [.null, .null, .null]) (C := RX5) (T := TX5) (N := 3) hx hb hts iwX5 tyX5 tyX5_ok hown (hts (.classLink RL 7 RX5) (lk 11 (by decide +kernel))) (hts (.instantiable RX5 3) (lk 12 (by decide +kernel))) (hts (.initialized RX5) (lk 1 (by decide +kernel))) hK hP hD hS hA rfl (fun j hj => by rcases (show j = 0 ∨ j = 1 ∨ j = 2 by omega) with rfl | rfl | rfl <;> rfl) (Nat.le_of_ble_eq_true rfl) (Nat.le_of_ble_eq_true rfl) dL_law_0 (fun q100 H hP hD hS => ?_)
  have hP : va_P D vwCl [(q100, .inr (5, [.null, .null, .null]))] H := hP
  have hD : va_D (fun q : Nat => s.heap.size ≤ q) [(q100, .inr (5, [.null, .null, .null]))] := hD
  refine W.widen (k := 1) (n := 3) (Nat.le_refl _) (Nat.le_refl _) ?_
  refine lv_dup hx hb dL_law_3 rfl ?_
  have hPc := hP.sub (ws' := [(q100, .inr (5, [.null, .null, .null]))]) [0] rfl
  have hDc := hD.sub (ws' := [(q100, .inr (5, [.null, .null, .null]))]) [0] (by decide) rfl
  have hFc := va_free (wc := [(q100, .inr (5, [.null, .null, .null]))]) hD hS hA [0] rfl
  refine va_callv (va_runI (As := []) (rest := [.ref q100]) ⟨hx, hb, hml, hown, hts⟩ (c_X5 l D cI cB q100 H.size) (cwI 0 hts (g_ct (lk 15 (by decide +kernel))) rfl rfl rfl (hts (.initialized RX5) (lk 1 (by decide +kernel))) (hts (.methodLink RL 9 yX5_init) (lk 13 (by decide +kernel))) (hts (.instanceMethod yX5_init) (lk 14 (by decide +kernel))) rfl (by decide +kernel) ⟨Nat.le_of_ble_eq_true rfl, Nat.le_of_ble_eq_true rfl⟩) ⟨fun a U g mk q => by obtain ⟨q0, q1, qP, qK, qD, qN0, qN1, qN2⟩ := q; exact ⟨q0, q1, qP, va_K.moved (u := U) (U := U.calling g mk a) (Vm.Alike.refl U.vm) qK, qD, va_Nw.same (w := (.methodLinkNest RX5 11 yX2_init "MendedBank")) rfl rfl qN0, va_Nw.same (w := (.methodLinkNest RX0 11 yX1_init "MendedBank")) rfl rfl qN1, va_Nw.same (w := (.methodLinkNest RX0 20 yX4_init "MendedBank")) rfl rfl qN2⟩, fun U hU hW => ⟨rfl, by rw [hU], by rw [hU]; exact hPc, va_K.moved hW.alike hK, hDc.weaken (fun _ _ _ _ => trivial), va_Nw.warmM hW hN_X5_11, va_Nw.warmM hW hN_X0_11, va_Nw.warmM hW hN_X0_20⟩⟩ rfl rfl hl.1 rfl (lv_room (Nat.le_of_ble_eq_true rfl)) dL_law_4 ⟨Nat.le_of_ble_eq_true rfl, Nat.le_of_ble_eq_true rfl⟩) hS (fun q _ h => hFc q h) hFc (fun u t H1 locs ht hvm hw hB hz1 hk1 hS => ?_)
  obtain ⟨q101, q102, q103, q104, q105, q106, q107, q108, q109, q110, q111, q112, q113, q114, q115, q116, q117, q118⟩ := u
  obtain ⟨hP1, hD1⟩ := hB
  rw [ht] at hP1
  obtain ⟨hP, hD⟩ := va_join (wr := []) (w1 := [(q100, .inr (5, [.ref q101, .ref q105, .ref q117])), (q101, .inr (2, [.ref q102, .ref q103, .ref q104, .int 0, .int 0])), (q102, .inl (cI, 20, .inl r_z)), (q103, .inl (cI, 6, .inl r_z)), (q104, .inl (cI, 64, .inl r_z)), (q105, .inr (0, [.ref q101, .ref q106, .ref q110, .ref q114, .ref q115, .ref q116, .int 0, .int (-9), .int 0, .int 0, .int 0])), (q106, .inr (1, [.ref q107, .ref q108, .ref q109])), (q107, .inl (cI, 24, .inl r_z)), (q108, .inl (cI, 24, .inl r_z)), (q109, .inl (cI, 504, .inl r_z)), (q110, .inr (4, [.ref q111, .ref q112, .ref q113, .int 0, .int (-9), .int (-9), .int (-9), .int (-9), .int (-9), .int (-9)])), (q111, .inl (cI, 3, .inl r_z)), (q112, .inl (cI, 4, .inl r_z)), (q113, .inl (cI, 4, .inl r_z)), (q114, .inl (cI, 4, .inl r_z)), (q115, .inl (cI, 16, .inl r_z)), (q116, .inl (cI, 2, .inl r_z)), (q117, .inr (3, [.ref q101, .ref q118, .int 0])), (q118, .inl (cI, 320, .inl r_z))]) hP hD [0] [] rfl rfl (by decide) (by decide) hk1 hFc hP1 hD1
  clear hPc hDc hFc hk1 hz1 hP1 hD1
  generalize H1 = H at hP hS ht ⊢
  have hP : va_P D vwCl [(q100, .inr (5, [.ref q101, .ref q105, .ref q117])), (q101, .inr (2, [.ref q102, .ref q103, .ref q104, .int 0, .int 0])), (q102, .inl (cI, 20, .inl r_z)), (q103, .inl (cI, 6, .inl r_z)), (q104, .inl (cI, 64, .inl r_z)), (q105, .inr (0, [.ref q101, .ref q106, .ref q110, .ref q114, .ref q115, .ref q116, .int 0, .int (-9), .int 0, .int 0, .int 0])), (q106, .inr (1, [.ref q107, .ref q108, .ref q109])), (q107, .inl (cI, 24, .inl r_z)), (q108, .inl (cI, 24, .inl r_z)), (q109, .inl (cI, 504, .inl r_z)), (q110, .inr (4, [.ref q111, .ref q112, .ref q113, .int 0, .int (-9), .int (-9), .int (-9), .int (-9), .int (-9), .int (-9)])), (q111, .inl (cI, 3, .inl r_z)), (q112, .inl (cI, 4, .inl r_z)), (q113, .inl (cI, 4, .inl r_z)), (q114, .inl (cI, 4, .inl r_z)), (q115, .inl (cI, 16, .inl r_z)), (q116, .inl (cI, 2, .inl r_z)), (q117, .inr (3, [.ref q101, .ref q118, .int 0])), (q118, .inl (cI, 320, .inl r_z))] H := hP
  have hD : va_D (fun q : Nat => s.heap.size ≤ q) [(q100, .inr (5, [.ref q101, .ref q105, .ref q117])), (q101, .inr (2, [.ref q102, .ref q103, .ref q104, .int 0, .int 0])), (q102, .inl (cI, 20, .inl r_z)), (q103, .inl (cI, 6, .inl r_z)), (q104, .inl (cI, 64, .inl r_z)), (q105, .inr (0, [.ref q101, .ref q106, .ref q110, .ref q114, .ref q115, .ref q116, .int 0, .int (-9), .int 0, .int 0, .int 0])), (q106, .inr (1, [.ref q107, .ref q108, .ref q109])), (q107, .inl (cI, 24, .inl r_z)), (q108, .inl (cI, 24, .inl r_z)), (q109, .inl (cI, 504, .inl r_z)), (q110, .inr (4, [.ref q111, .ref q112, .ref q113, .int 0, .int (-9), .int (-9), .int (-9), .int (-9), .int (-9), .int (-9)])), (q111, .inl (cI, 3, .inl r_z)), (q112, .inl (cI, 4, .inl r_z)), (q113, .inl (cI, 4, .inl r_z)), (q114, .inl (cI, 4, .inl r_z)), (q115, .inl (cI, 16, .inl r_z)), (q116, .inl (cI, 2, .inl r_z)), (q117, .inr (3, [.ref q101, .ref q118, .int 0])), (q118, .inl (cI, 320, .inl r_z))] := hD
  refine W.widen (k := 19) (n := 1030) (Nat.le_refl _) (Nat.le_refl _) ?_
  refine lv_astore_n (lv' := [(1, .ref q100), (0, .ref b)]) hx hb dL_law_7 rfl hl (by decide) rfl (fun ls hl => ?_)
  refine va_new (ci := 6) (fs := [.int 0, .int 0, .null, .null, .null, .null, .null, .null, .null, .null, .null, .null, .int 0, .null, .int 0, .int 0, .int 0, .null, .null, .null]) (C := RX6) (T := TX6) (N := 20) hx hb hts iwX6 tyX6 tyX6_ok hown (hts (.classLink RL 10 RX6) (lk 618 (by decide +kernel))) (hts (.instantiable RX6 20) (lk 619 (by decide +kernel))) (hts (.initialized RX6) (lk 7 (by decide +kernel))) hK hP hD hS hA rfl (fun j hj => by rcases (show j = 0 ∨ j = 1 ∨ j = 2 ∨ j = 3 ∨ j = 4 ∨ j = 5 ∨ j = 6 ∨ j = 7 ∨ j = 8 ∨ j = 9 ∨ j = 10 ∨ j = 11 ∨ j = 12 ∨ j = 13 ∨ j = 14 ∨ j = 15 ∨ j = 16 ∨ j = 17 ∨ j = 18 ∨ j = 19 by omega) with rfl | rfl | rfl | rfl | rfl | rfl | rfl | rfl | rfl | rfl | rfl | rfl | rfl | rfl | rfl | rfl | rfl | rfl | rfl | rfl <;> rfl) (Nat.le_of_ble_eq_true rfl) (Nat.le_of_ble_eq_true rfl) dL_law_8 (fun q200 H hP hD hS => ?_)
  have hP : va_P D vwCl [(q100, .inr (5, [.ref q101, .ref q105, .ref q117])), (q101, .inr (2, [.ref q102, .ref q103, .ref q104, .int 0, .int 0])), (q102, .inl (cI, 20, .inl r_z)), (q103, .inl (cI, 6, .inl r_z)), (q104, .inl (cI, 64, .inl r_z)), (q105, .inr (0, [.ref q101, .ref q106, .ref q110, .ref q114, .ref q115, .ref q116, .int 0, .int (-9), .int 0, .int 0, .int 0])), (q106, .inr (1, [.ref q107, .ref q108, .ref q109])), (q107, .inl (cI, 24, .inl r_z)), (q108, .inl (cI, 24, .inl r_z)), (q109, .inl (cI, 504, .inl r_z)), (q110, .inr (4, [.ref q111, .ref q112, .ref q113, .int 0, .int (-9), .int (-9), .int (-9), .int (-9), .int (-9), .int (-9)])), (q111, .inl (cI, 3, .inl r_z)), (q112, .inl (cI, 4, .inl r_z)), (q113, .inl (cI, 4, .inl r_z)), (q114, .inl (cI, 4, .inl r_z)), (q115, .inl (cI, 16, .inl r_z)), (q116, .inl (cI, 2, .inl r_z)), (q117, .inr (3, [.ref q101, .ref q118, .int 0])), (q118, .inl (cI, 320, .inl r_z)), (q200, .inr (6, [.int 0, .int 0, .null, .null, .null, .null, .null, .null, .null, .null, .null, .null, .int 0, .null, .int 0, .int 0, .int 0, .null, .null, .null]))] H := hP
  have hD : va_D (fun q : Nat => s.heap.size ≤ q) [(q100, .inr (5, [.ref q101, .ref q105, .ref q117])), (q101, .inr (2, [.ref q102, .ref q103, .ref q104, .int 0, .int 0])), (q102, .inl (cI, 20, .inl r_z)), (q103, .inl (cI, 6, .inl r_z)), (q104, .inl (cI, 64, .inl r_z)), (q105, .inr (0, [.ref q101, .ref q106, .ref q110, .ref q114, .ref q115, .ref q116, .int 0, .int (-9), .int 0, .int 0, .int 0])), (q106, .inr (1, [.ref q107, .ref q108, .ref q109])), (q107, .inl (cI, 24, .inl r_z)), (q108, .inl (cI, 24, .inl r_z)), (q109, .inl (cI, 504, .inl r_z)), (q110, .inr (4, [.ref q111, .ref q112, .ref q113, .int 0, .int (-9), .int (-9), .int (-9), .int (-9), .int (-9), .int (-9)])), (q111, .inl (cI, 3, .inl r_z)), (q112, .inl (cI, 4, .inl r_z)), (q113, .inl (cI, 4, .inl r_z)), (q114, .inl (cI, 4, .inl r_z)), (q115, .inl (cI, 16, .inl r_z)), (q116, .inl (cI, 2, .inl r_z)), (q117, .inr (3, [.ref q101, .ref q118, .int 0])), (q118, .inl (cI, 320, .inl r_z)), (q200, .inr (6, [.int 0, .int 0, .null, .null, .null, .null, .null, .null, .null, .null, .null, .null, .int 0, .null, .int 0, .int 0, .int 0, .null, .null, .null]))] := hD
  refine W.widen (k := 20) (n := 1050) (Nat.le_refl _) (Nat.le_refl _) ?_
  refine lv_dup hx hb dL_law_11 rfl ?_
  have hPc := hP.sub (ws' := [(q200, .inr (6, [.int 0, .int 0, .null, .null, .null, .null, .null, .null, .null, .null, .null, .null, .int 0, .null, .int 0, .int 0, .int 0, .null, .null, .null]))]) [19] rfl
  have hDc := hD.sub (ws' := [(q200, .inr (6, [.int 0, .int 0, .null, .null, .null, .null, .null, .null, .null, .null, .null, .null, .int 0, .null, .int 0, .int 0, .int 0, .null, .null, .null]))]) [19] (by decide) rfl
  have hFc := va_free (wc := [(q200, .inr (6, [.int 0, .int 0, .null, .null, .null, .null, .null, .null, .null, .null, .null, .null, .int 0, .null, .int 0, .int 0, .int 0, .null, .null, .null]))]) hD hS hA [19] rfl
  refine va_callv (va_runI (As := []) (rest := [.ref q200]) ⟨hx, hb, hml, hown, hts⟩ (c_X6 l D cI cB q200 H.size) (cwI 0 hts (g_ct (lk 622 (by decide +kernel))) rfl rfl rfl (hts (.initialized RX6) (lk 7 (by decide +kernel))) (hts (.methodLink RL 12 yX6_init) (lk 620 (by decide +kernel))) (hts (.instanceMethod yX6_init) (lk 621 (by decide +kernel))) rfl (by decide +kernel) ⟨Nat.le_of_ble_eq_true rfl, Nat.le_of_ble_eq_true rfl⟩) ⟨fun a U g mk q => by obtain ⟨q0, q1, qP, qK, qD⟩ := q; exact ⟨q0, q1, qP, va_K.moved (u := U) (U := U.calling g mk a) (Vm.Alike.refl U.vm) qK, qD⟩, fun U hU hW => ⟨rfl, by rw [hU], by rw [hU]; exact hPc, va_K.moved hW.alike hK, hDc.weaken (fun _ _ _ _ => trivial)⟩⟩ rfl rfl hl.1 rfl (lv_room (Nat.le_of_ble_eq_true rfl)) dL_law_12 ⟨Nat.le_of_ble_eq_true rfl, Nat.le_of_ble_eq_true rfl⟩) hS (fun q _ h => hFc q h) hFc (fun u t H1 locs ht hvm hw hB hz1 hk1 hS => ?_)
  obtain ⟨q201, q202, q203, q204, q205, q206, q207, q208, q209, q210, q211, q212, q213, q214⟩ := u
  obtain ⟨hP1, hD1⟩ := hB
  rw [ht] at hP1
  obtain ⟨hP, hD⟩ := va_join (wr := [(q100, .inr (5, [.ref q101, .ref q105, .ref q117])), (q101, .inr (2, [.ref q102, .ref q103, .ref q104, .int 0, .int 0])), (q102, .inl (cI, 20, .inl r_z)), (q103, .inl (cI, 6, .inl r_z)), (q104, .inl (cI, 64, .inl r_z)), (q105, .inr (0, [.ref q101, .ref q106, .ref q110, .ref q114, .ref q115, .ref q116, .int 0, .int (-9), .int 0, .int 0, .int 0])), (q106, .inr (1, [.ref q107, .ref q108, .ref q109])), (q107, .inl (cI, 24, .inl r_z)), (q108, .inl (cI, 24, .inl r_z)), (q109, .inl (cI, 504, .inl r_z)), (q110, .inr (4, [.ref q111, .ref q112, .ref q113, .int 0, .int (-9), .int (-9), .int (-9), .int (-9), .int (-9), .int (-9)])), (q111, .inl (cI, 3, .inl r_z)), (q112, .inl (cI, 4, .inl r_z)), (q113, .inl (cI, 4, .inl r_z)), (q114, .inl (cI, 4, .inl r_z)), (q115, .inl (cI, 16, .inl r_z)), (q116, .inl (cI, 2, .inl r_z)), (q117, .inr (3, [.ref q101, .ref q118, .int 0])), (q118, .inl (cI, 320, .inl r_z))]) (w1 := [(q200, .inr (6, [.int 0, .int 0, .ref q201, .ref q202, .ref q203, .ref q204, .ref q205, .ref q206, .ref q207, .ref q208, .ref q209, .ref q210, .int 0, .ref q211, .int 0, .int 0, .int 0, .ref q212, .ref q213, .ref q214])), (q201, .inl (cI, 20, .inl r_z)), (q202, .inl (cI, 6, .inl r_z)), (q203, .inl (cI, 504, .inl r_z)), (q204, .inl (cB, 504, .inl r_z)), (q205, .inl (cI, 504, .inl r_z)), (q206, .inl (cI, 4, .inl r_z)), (q207, .inl (cI, 20, .inl r_z)), (q208, .inl (cI, 16, .inl r_z)), (q209, .inl (cI, 4, .inl r_z)), (q210, .inl (cI, 4, .inl r_z)), (q211, .inl (cI, 2, .inl r_z)), (q212, .inl (cI, 3, .inl r_z)), (q213, .inl (cI, 6, .inl (r_la 6))), (q214, .inl (cI, 5, .inl r_z))]) hP hD [19] [0, 1, 2, 3, 4, 5, 6, 7, 8, 9, 10, 11, 12, 13, 14, 15, 16, 17, 18] rfl rfl (by decide) (by decide) hk1 hFc hP1 hD1
  clear hPc hDc hFc hk1 hz1 hP1 hD1
  generalize H1 = H at hP hS ht ⊢
  have hP : va_P D vwCl [(q100, .inr (5, [.ref q101, .ref q105, .ref q117])), (q101, .inr (2, [.ref q102, .ref q103, .ref q104, .int 0, .int 0])), (q102, .inl (cI, 20, .inl r_z)), (q103, .inl (cI, 6, .inl r_z)), (q104, .inl (cI, 64, .inl r_z)), (q105, .inr (0, [.ref q101, .ref q106, .ref q110, .ref q114, .ref q115, .ref q116, .int 0, .int (-9), .int 0, .int 0, .int 0])), (q106, .inr (1, [.ref q107, .ref q108, .ref q109])), (q107, .inl (cI, 24, .inl r_z)), (q108, .inl (cI, 24, .inl r_z)), (q109, .inl (cI, 504, .inl r_z)), (q110, .inr (4, [.ref q111, .ref q112, .ref q113, .int 0, .int (-9), .int (-9), .int (-9), .int (-9), .int (-9), .int (-9)])), (q111, .inl (cI, 3, .inl r_z)), (q112, .inl (cI, 4, .inl r_z)), (q113, .inl (cI, 4, .inl r_z)), (q114, .inl (cI, 4, .inl r_z)), (q115, .inl (cI, 16, .inl r_z)), (q116, .inl (cI, 2, .inl r_z)), (q117, .inr (3, [.ref q101, .ref q118, .int 0])), (q118, .inl (cI, 320, .inl r_z)), (q200, .inr (6, [.int 0, .int 0, .ref q201, .ref q202, .ref q203, .ref q204, .ref q205, .ref q206, .ref q207, .ref q208, .ref q209, .ref q210, .int 0, .ref q211, .int 0, .int 0, .int 0, .ref q212, .ref q213, .ref q214])), (q201, .inl (cI, 20, .inl r_z)), (q202, .inl (cI, 6, .inl r_z)), (q203, .inl (cI, 504, .inl r_z)), (q204, .inl (cB, 504, .inl r_z)), (q205, .inl (cI, 504, .inl r_z)), (q206, .inl (cI, 4, .inl r_z)), (q207, .inl (cI, 20, .inl r_z)), (q208, .inl (cI, 16, .inl r_z)), (q209, .inl (cI, 4, .inl r_z)), (q210, .inl (cI, 4, .inl r_z)), (q211, .inl (cI, 2, .inl r_z)), (q212, .inl (cI, 3, .inl r_z)), (q213, .inl (cI, 6, .inl (r_la 6))), (q214, .inl (cI, 5, .inl r_z))] H := hP
  have hD : va_D (fun q : Nat => s.heap.size ≤ q) [(q100, .inr (5, [.ref q101, .ref q105, .ref q117])), (q101, .inr (2, [.ref q102, .ref q103, .ref q104, .int 0, .int 0])), (q102, .inl (cI, 20, .inl r_z)), (q103, .inl (cI, 6, .inl r_z)), (q104, .inl (cI, 64, .inl r_z)), (q105, .inr (0, [.ref q101, .ref q106, .ref q110, .ref q114, .ref q115, .ref q116, .int 0, .int (-9), .int 0, .int 0, .int 0])), (q106, .inr (1, [.ref q107, .ref q108, .ref q109])), (q107, .inl (cI, 24, .inl r_z)), (q108, .inl (cI, 24, .inl r_z)), (q109, .inl (cI, 504, .inl r_z)), (q110, .inr (4, [.ref q111, .ref q112, .ref q113, .int 0, .int (-9), .int (-9), .int (-9), .int (-9), .int (-9), .int (-9)])), (q111, .inl (cI, 3, .inl r_z)), (q112, .inl (cI, 4, .inl r_z)), (q113, .inl (cI, 4, .inl r_z)), (q114, .inl (cI, 4, .inl r_z)), (q115, .inl (cI, 16, .inl r_z)), (q116, .inl (cI, 2, .inl r_z)), (q117, .inr (3, [.ref q101, .ref q118, .int 0])), (q118, .inl (cI, 320, .inl r_z)), (q200, .inr (6, [.int 0, .int 0, .ref q201, .ref q202, .ref q203, .ref q204, .ref q205, .ref q206, .ref q207, .ref q208, .ref q209, .ref q210, .int 0, .ref q211, .int 0, .int 0, .int 0, .ref q212, .ref q213, .ref q214])), (q201, .inl (cI, 20, .inl r_z)), (q202, .inl (cI, 6, .inl r_z)), (q203, .inl (cI, 504, .inl r_z)), (q204, .inl (cB, 504, .inl r_z)), (q205, .inl (cI, 504, .inl r_z)), (q206, .inl (cI, 4, .inl r_z)), (q207, .inl (cI, 20, .inl r_z)), (q208, .inl (cI, 16, .inl r_z)), (q209, .inl (cI, 4, .inl r_z)), (q210, .inl (cI, 4, .inl r_z)), (q211, .inl (cI, 2, .inl r_z)), (q212, .inl (cI, 3, .inl r_z)), (q213, .inl (cI, 6, .inl (r_la 6))), (q214, .inl (cI, 5, .inl r_z))] := hD
  refine W.widen (k := 34) (n := 2652) (Nat.le_refl _) (Nat.le_refl _) ?_
  refine lv_astore_n (lv' := [(2, .ref q200), (1, .ref q100), (0, .ref b)]) hx hb dL_law_15 rfl hl (by decide) rfl (fun ls hl => ?_)
  refine lv_iconst (v := 0) hx hb dL_law_16 (by decide) ?_
  refine lv_istore_n (lv' := [(3, .int 0), (2, .ref q200), (1, .ref q100), (0, .ref b)]) hx hb dL_law_17 rfl hl (by decide) rfl (fun ls hl => ?_)
  obtain ⟨E, hE⟩ : ∃ E : r_En, E = (D, r_ad st b [q100, q101, q102, q103, q104, q105, q106, q107, q108, q109, q110, q111, q112, q113, q114, q115, q116, q117, q118, q200, q201, q202, q203, q204, q205, q206, q207, q208, q209, q210, q211, q212, q213, q214], cI, cB) := ⟨_, rfl⟩
  have hP : va_P D vwCl (r_W E r_s0) H := by rw [hE]; exact r_P0 hP
  have hD : va_D (fun q : Nat => s.heap.size ≤ q) (r_W E r_s0) := by rw [hE]; exact r_D0 hD
  have hE1 : E.1 = D := by rw [hE]
  rw [← hE1] at hP hK
  have e98 : E.2.1 98 = st := by rw [hE]; rfl
  have e99 : E.2.1 99 = b := by rw [hE]; rfl
  have e0 : E.2.1 0 = q100 := by rw [hE]; rfl
  have e19 : E.2.1 19 = q200 := by rw [hE]; rfl
  have hy : r_ty E = [(cI, .int), (cB, .boolean)] := by rw [hE]
  have hK : va_K E.1 vwCl (r_ty E) s := by rw [hy]; exact hK
  have hrL : r_L E.2.1 ls ML.2.2.1 [.ref 99, .ref 0, .ref 19, .int (nI 0)] := by
    refine ⟨hl.1, hl.2.1, fun i v hi hv => ?_⟩
    match i, hi with
    | 0, hi => cases hi; show ls[0]? = some (.val (.ref (E.2.1 99))); rw [e99]; exact hl.2.2 (0, .ref b) (by simp)
    | 1, hi => cases hi; show ls[1]? = some (.val (.ref (E.2.1 0))); rw [e0]; exact hl.2.2 (1, .ref q100) (by simp)
    | 2, hi => cases hi; show ls[2]? = some (.val (.ref (E.2.1 19))); rw [e19]; exact hl.2.2 (2, .ref q200) (by simp)
    | 3, hi => cases hi; exact hl.2.2 (3, .int 0) (by simp)
    | k + 4, hi => simp at hi
  have hC34 : ∀ k, k < 34 → (fun q : Nat => s.heap.size ≤ q) (E.2.1 k) := fun k hk => hD.2 k _ (r_at E r_s0 (List.getElem?_eq_getElem (show k < r_SH.length from hk)))
  have hSt : r_St E.2.1 (fun q : Nat => s.heap.size ≤ q) s s.heap := ⟨by rw [e98]; exact hZ, by rw [e98]; exact hT⟩
  have hXF : r_XF E.2.1 (fun q : Nat => s.heap.size ≤ q) s (some (L, xs)) := fun q hq => by cases hq; rw [e99]; exact ⟨hX, hbl, hbA⟩
  refine lw_loop (N := L) (xs := xs) (Post := fun r _ => r = some (.int 1)) hL (fun _ => rfl) L 0 0 r_s0 (by omega) (by omega) (by omega) (Or.inl r_NI0) E p l e room_1 s m #[Value.ref b] below meth c (fun q : Nat => s.heap.size ≤ q) 34 2652 (lw_Z below #[Value.ref b] s) ⟨hx, hb, hml, hown, hts, hK, hA, hC34, hSt, hXF, ⟨Nat.le_of_ble_eq_true rfl, Nat.le_of_ble_eq_true rfl⟩, ⟨Nat.le_of_ble_eq_true rfl, Nat.le_of_ble_eq_true rfl⟩, ?_⟩ H locs ls hP hD hS hrL
  intro pc i r σ S H locs ls d hri hrt hpost hP hD hS
  subst hpost
  obtain ⟨rfl, rfl⟩ := r_ri1 hri
  refine va_forget (fun q hq => hS.2.2 q hq) ?_
  exact lw_ret hx hb hr hlocks d
