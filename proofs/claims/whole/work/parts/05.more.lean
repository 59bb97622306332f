/-! calls by the number of their arguments; arrays by a counted place; loops -/
section More
variable {M : r_M} {h : Nat} {X : r_X} {Post : Option Value → r_Sg → Prop} {pc : Nat} {L S : List Value} {σ σ' : r_Sg}
variable {idx ci q h' : Nat} {M' : r_M} {fl : List (Option Nat)} {rest : List Value} {v a b c e : Value}
theorem g_V0 (d : decode M.2.1 pc = .ok (.invokevirtual idx, 3)) (hv : r_Vl M.1.cls idx M' ci 0) (hs : r_SH[q]? = some (.inr (ci, fl))) (hc : (rest.map fun v => v.category).sum ≤ 8) (hh : h' + 1 ≤ h) (hev : Ev h' M' [.ref q] σ (some v) σ') (k : G M h X Post (pc + 3) L (v :: rest) σ') : G M h X Post pc L (.ref q :: rest) σ := g_callV (As := []) d hv hs rfl hc hh hev k
theorem g_V1 (d : decode M.2.1 pc = .ok (.invokevirtual idx, 3)) (hv : r_Vl M.1.cls idx M' ci 1) (hs : r_SH[q]? = some (.inr (ci, fl))) (hc : (rest.map fun v => v.category).sum ≤ 8) (hh : h' + 1 ≤ h) (hev : Ev h' M' [.ref q, a] σ (some v) σ') (k : G M h X Post (pc + 3) L (v :: rest) σ') : G M h X Post pc L (a :: .ref q :: rest) σ := g_callV (As := [a]) d hv hs rfl hc hh hev k
theorem g_V2 (d : decode M.2.1 pc = .ok (.invokevirtual idx, 3)) (hv : r_Vl M.1.cls idx M' ci 2) (hs : r_SH[q]? = some (.inr (ci, fl))) (hc : (rest.map fun v => v.category).sum ≤ 8) (hh : h' + 1 ≤ h) (hev : Ev h' M' [.ref q, a, b] σ (some v) σ') (k : G M h X Post (pc + 3) L (v :: rest) σ') : G M h X Post pc L (b :: a :: .ref q :: rest) σ := g_callV (As := [a, b]) d hv hs rfl hc hh hev k
theorem g_V3 (d : decode M.2.1 pc = .ok (.invokevirtual idx, 3)) (hv : r_Vl M.1.cls idx M' ci 3) (hs : r_SH[q]? = some (.inr (ci, fl))) (hc : (rest.map fun v => v.category).sum ≤ 8) (hh : h' + 1 ≤ h) (hev : Ev h' M' [.ref q, a, b, c] σ (some v) σ') (k : G M h X Post (pc + 3) L (v :: rest) σ') : G M h X Post pc L (c :: b :: a :: .ref q :: rest) σ := g_callV (As := [a, b, c]) d hv hs rfl hc hh hev k
theorem g_V4 (d : decode M.2.1 pc = .ok (.invokevirtual idx, 3)) (hv : r_Vl M.1.cls idx M' ci 4) (hs : r_SH[q]? = some (.inr (ci, fl))) (hc : (rest.map fun v => v.category).sum ≤ 8) (hh : h' + 1 ≤ h) (hev : Ev h' M' [.ref q, a, b, c, e] σ (some v) σ') (k : G M h X Post (pc + 3) L (v :: rest) σ') : G M h X Post pc L (e :: c :: b :: a :: .ref q :: rest) σ := g_callV (As := [a, b, c, e]) d hv hs rfl hc hh hev k
theorem g_V0v (d : decode M.2.1 pc = .ok (.invokevirtual idx, 3)) (hv : r_Vl M.1.cls idx M' ci 0) (hs : r_SH[q]? = some (.inr (ci, fl))) (hc : (rest.map fun v => v.category).sum ≤ 8) (hh : h' + 1 ≤ h) (hev : Ev h' M' [.ref q] σ none σ') (k : G M h X Post (pc + 3) L rest σ') : G M h X Post pc L (.ref q :: rest) σ := g_callV (As := []) d hv hs rfl hc hh hev k
theorem g_V1v (d : decode M.2.1 pc = .ok (.invokevirtual idx, 3)) (hv : r_Vl M.1.cls idx M' ci 1) (hs : r_SH[q]? = some (.inr (ci, fl))) (hc : (rest.map fun v => v.category).sum ≤ 8) (hh : h' + 1 ≤ h) (hev : Ev h' M' [.ref q, a] σ none σ') (k : G M h X Post (pc + 3) L rest σ') : G M h X Post pc L (a :: .ref q :: rest) σ := g_callV (As := [a]) d hv hs rfl hc hh hev k
theorem g_V2v (d : decode M.2.1 pc = .ok (.invokevirtual idx, 3)) (hv : r_Vl M.1.cls idx M' ci 2) (hs : r_SH[q]? = some (.inr (ci, fl))) (hc : (rest.map fun v => v.category).sum ≤ 8) (hh : h' + 1 ≤ h) (hev : Ev h' M' [.ref q, a, b] σ none σ') (k : G M h X Post (pc + 3) L rest σ') : G M h X Post pc L (b :: a :: .ref q :: rest) σ := g_callV (As := [a, b]) d hv hs rfl hc hh hev k
theorem g_V3v (d : decode M.2.1 pc = .ok (.invokevirtual idx, 3)) (hv : r_Vl M.1.cls idx M' ci 3) (hs : r_SH[q]? = some (.inr (ci, fl))) (hc : (rest.map fun v => v.category).sum ≤ 8) (hh : h' + 1 ≤ h) (hev : Ev h' M' [.ref q, a, b, c] σ none σ') (k : G M h X Post (pc + 3) L rest σ') : G M h X Post pc L (c :: b :: a :: .ref q :: rest) σ := g_callV (As := [a, b, c]) d hv hs rfl hc hh hev k
theorem g_V4v (d : decode M.2.1 pc = .ok (.invokevirtual idx, 3)) (hv : r_Vl M.1.cls idx M' ci 4) (hs : r_SH[q]? = some (.inr (ci, fl))) (hc : (rest.map fun v => v.category).sum ≤ 8) (hh : h' + 1 ≤ h) (hev : Ev h' M' [.ref q, a, b, c, e] σ none σ') (k : G M h X Post (pc + 3) L rest σ') : G M h X Post pc L (e :: c :: b :: a :: .ref q :: rest) σ := g_callV (As := [a, b, c, e]) d hv hs rfl hc hh hev k
theorem g_S1 (d : decode M.2.1 pc = .ok (.invokestatic idx, 3)) (hv : r_Sl M.1.cls idx M' 1) (hc : (rest.map fun v => v.category).sum ≤ 8) (hh : h' + 1 ≤ h) (hev : Ev h' M' [a] σ (some v) σ') (k : G M h X Post (pc + 3) L (v :: rest) σ') : G M h X Post pc L (a :: rest) σ := g_callS (As := [a]) d hv rfl hc hh hev k
theorem g_S2 (d : decode M.2.1 pc = .ok (.invokestatic idx, 3)) (hv : r_Sl M.1.cls idx M' 2) (hc : (rest.map fun v => v.category).sum ≤ 8) (hh : h' + 1 ≤ h) (hev : Ev h' M' [a, b] σ (some v) σ') (k : G M h X Post (pc + 3) L (v :: rest) σ') : G M h X Post pc L (b :: a :: rest) σ := g_callS (As := [a, b]) d hv rfl hc hh hev k
theorem g_S3 (d : decode M.2.1 pc = .ok (.invokestatic idx, 3)) (hv : r_Sl M.1.cls idx M' 3) (hc : (rest.map fun v => v.category).sum ≤ 8) (hh : h' + 1 ≤ h) (hev : Ev h' M' [a, b, c] σ (some v) σ') (k : G M h X Post (pc + 3) L (v :: rest) σ') : G M h X Post pc L (c :: b :: a :: rest) σ := g_callS (As := [a, b, c]) d hv rfl hc hh hev k
theorem g_S2v (d : decode M.2.1 pc = .ok (.invokestatic idx, 3)) (hv : r_Sl M.1.cls idx M' 2) (hc : (rest.map fun v => v.category).sum ≤ 8) (hh : h' + 1 ≤ h) (hev : Ev h' M' [a, b] σ none σ') (k : G M h X Post (pc + 3) L rest σ') : G M h X Post pc L (b :: a :: rest) σ := g_callS (As := [a, b]) d hv rfl hc hh hev k
theorem r_SHn {q n : Nat} {z : Bool} (hs : r_SH[q]? = some (.inl (n, z))) : n ≤ 504 := by
  have h : r_SH.all (fun sh => match sh with
    | .inl p => decide (p.1 ≤ 504)
    | .inr _ => true) = true := by decide
  have := List.all_eq_true.mp h _ (List.mem_of_getElem? hs)
  simpa using this
theorem g_ial {q n : Nat} {i : Int32} (j : Nat) (d : decode M.2.1 pc = .ok (.iaload, 1)) (hs : r_SH[q]? = some (.inl (n, false))) (hi : i = nI j) (hj : j < n) (k : G M h X Post (pc + 1) L (.int (σ q j) :: S) σ) : G M h X Post pc L (.int i :: .ref q :: S) σ := by
  subst hi
  have hn := r_SHn hs
  refine g_iald d hs (vp_in_nI hj (by omega)) ?_
  rw [nI_clamp (by omega)]
  exact k
theorem g_zal {q n : Nat} {i : Int32} (j : Nat) (d : decode M.2.1 pc = .ok (.baload, 1)) (hs : r_SH[q]? = some (.inl (n, true))) (hi : i = nI j) (hj : j < n) (k : G M h X Post (pc + 1) L (.int (σ q j) :: S) σ) : G M h X Post pc L (.int i :: .ref q :: S) σ := by
  subst hi
  have hn := r_SHn hs
  refine g_zald d hs (vp_in_nI hj (by omega)) ?_
  rw [nI_clamp (by omega)]
  exact k
theorem g_ias {q n : Nat} {i v : Int32} (j : Nat) (d : decode M.2.1 pc = .ok (.iastore, 1)) (hs : r_SH[q]? = some (.inl (n, false))) (hi : i = nI j) (hj : j < n) (k : G M h X Post (pc + 1) L S (r_up σ q j v)) : G M h X Post pc L (.int v :: .int i :: .ref q :: S) σ := by
  subst hi
  have hn := r_SHn hs
  refine g_iast d hs (vp_in_nI hj (by omega)) ?_
  rw [nI_clamp (by omega)]
  exact k
theorem g_zas {q n : Nat} {i v : Int32} (j : Nat) (d : decode M.2.1 pc = .ok (.bastore, 1)) (hs : r_SH[q]? = some (.inl (n, true))) (hi : i = nI j) (hj : j < n) (hv : v = 0 ∨ v = 1) (k : G M h X Post (pc + 1) L S (r_up σ q j v)) : G M h X Post pc L (.int v :: .int i :: .ref q :: S) σ := by
  subst hi
  have hn := r_SHn hs
  refine g_zast d hs (vp_in_nI hj (by omega)) hv ?_
  rw [nI_clamp (by omega)]
  exact k
/-- a counted loop: n rounds from its head back to it -/
theorem r_loop {n : Nat} (Lf : Nat → List Value) (sf : Nat → r_Sg) (hstep : ∀ k, k < n → G M h X Post pc (Lf (k + 1)) S (sf (k + 1)) → G M h X Post pc (Lf k) S (sf k)) (hend : G M h X Post pc (Lf n) S (sf n)) : G M h X Post pc (Lf 0) S (sf 0) := by
  have key : ∀ k, k ≤ n → G M h X Post pc (Lf (n - k)) S (sf (n - k)) := by
    intro k
    induction k with
    | zero => intro _; exact hend
    | succ k ih =>
      intro hk
      refine hstep (n - (k + 1)) (by omega) ?_
      rw [show n - (k + 1) + 1 = n - k by omega]
      exact ih (by omega)
  have := key n (Nat.le_refl n)
  rwa [Nat.sub_self] at this
/-- names: another form of what is on the stack, of the ints -/
theorem g_s {S' : List Value} (e : S = S') (k : G M h X Post pc L S' σ) : G M h X Post pc L S σ := e ▸ k
theorem g_l {L' : List Value} (e : L = L') (k : G M h X Post pc L' S σ) : G M h X Post pc L S σ := e ▸ k
theorem g_g {σ' : r_Sg} (e : σ = σ') (k : G M h X Post pc L S σ') : G M h X Post pc L S σ := e ▸ k
theorem g_t {x y : Int32} (e : x = y) (k : G M h X Post pc L (.int y :: S) σ) : G M h X Post pc L (.int x :: S) σ := e ▸ k
theorem Ev_r {r r' : Option Value} {as : List Value} (h1 : Ev h M as σ r σ') (e : r = r') : Ev h M as σ r' σ' := e ▸ h1
/-- a walk by what its end must be -/
theorem Ev_w {as : List Value} {r : Option Value} (L0 : List Value) (hg : G M h none (fun r1 s1 => r1 = r ∧ s1 = σ') 0 L0 [] σ) (hp : plainName M.1.cls = true) (hc : as.all (fun w => !(r_lg2 w)) = true) (hl : as.length ≤ M.2.2.1) (hL : L0 = as ++ List.replicate (M.2.2.1 - as.length) .null) : Ev h M as σ r σ' := by
  subst hL
  refine Ev_of hp (fun w hw => ?_) hl hg
  have h1 := List.all_eq_true.mp hc w hw
  have h2 : r_lg2 w = false := by simpa using h1
  have h3 := r_lg2_cat h2
  rcases lv_cat w with h | h
  · exact h
  · exact absurd h h3
end More
