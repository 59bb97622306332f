/-! the pool at the start -/
def r_s0 : r_Sg := fun q => if q = 5 then (fun i => if i = 7 then -9 else 0) else if q = 10 then (fun i => if i = 3 then 0 else -9) else if q = 32 then r_la 6 else r_z
theorem r_NI0 : NI r_s0 := by
  refine ⟨rfl, rfl, rfl, rfl, rfl, rfl, rfl, rfl, fun j _ => rfl, rfl, rfl, rfl, rfl, rfl, rfl, rfl, rfl⟩
theorem r_ri1 {i : Instr} {S : List Value} (h : r_ri i S (some (.int 1))) : i = .ireturn ∧ S = [.int 1] := by
  unfold r_ri at h
  split at h <;> simp_all
def r_ad (st b : Nat) (l : List Nat) : Nat → Nat := fun k => if k = 98 then st else if k = 99 then b else l.getD k 0
set_option maxRecDepth 100000 in
theorem r_W0 {D : va_G} {cI cB : ClassId} {st b a0 a1 a2 a3 a4 a5 a6 a7 a8 a9 a10 a11 a12 a13 a14 a15 a16 a17 a18 a19 a20 a21 a22 a23 a24 a25 a26 a27 a28 a29 a30 a31 a32 a33 : Nat} {k : Nat} {q : Nat × va_E} (hq : (r_W (D, r_ad st b [a0, a1, a2, a3, a4, a5, a6, a7, a8, a9, a10, a11, a12, a13, a14, a15, a16, a17, a18, a19, a20, a21, a22, a23, a24, a25, a26, a27, a28, a29, a30, a31, a32, a33], cI, cB) r_s0)[k]? = some q) : ([(a0, .inr (5, [.ref a1, .ref a5, .ref a17])), (a1, .inr (2, [.ref a2, .ref a3, .ref a4, .int 0, .int 0])), (a2, .inl (cI, 20, .inl r_z)), (a3, .inl (cI, 6, .inl r_z)), (a4, .inl (cI, 64, .inl r_z)), (a5, .inr (0, [.ref a1, .ref a6, .ref a10, .ref a14, .ref a15, .ref a16, .int 0, .int (-9), .int 0, .int 0, .int 0])), (a6, .inr (1, [.ref a7, .ref a8, .ref a9])), (a7, .inl (cI, 24, .inl r_z)), (a8, .inl (cI, 24, .inl r_z)), (a9, .inl (cI, 504, .inl r_z)), (a10, .inr (4, [.ref a11, .ref a12, .ref a13, .int 0, .int (-9), .int (-9), .int (-9), .int (-9), .int (-9), .int (-9)])), (a11, .inl (cI, 3, .inl r_z)), (a12, .inl (cI, 4, .inl r_z)), (a13, .inl (cI, 4, .inl r_z)), (a14, .inl (cI, 4, .inl r_z)), (a15, .inl (cI, 16, .inl r_z)), (a16, .inl (cI, 2, .inl r_z)), (a17, .inr (3, [.ref a1, .ref a18, .int 0])), (a18, .inl (cI, 320, .inl r_z)), (a19, .inr (6, [.int 0, .int 0, .ref a20, .ref a21, .ref a22, .ref a23, .ref a24, .ref a25, .ref a26, .ref a27, .ref a28, .ref a29, .int 0, .ref a30, .int 0, .int 0, .int 0, .ref a31, .ref a32, .ref a33])), (a20, .inl (cI, 20, .inl r_z)), (a21, .inl (cI, 6, .inl r_z)), (a22, .inl (cI, 504, .inl r_z)), (a23, .inl (cB, 504, .inl r_z)), (a24, .inl (cI, 504, .inl r_z)), (a25, .inl (cI, 4, .inl r_z)), (a26, .inl (cI, 20, .inl r_z)), (a27, .inl (cI, 16, .inl r_z)), (a28, .inl (cI, 4, .inl r_z)), (a29, .inl (cI, 4, .inl r_z)), (a30, .inl (cI, 2, .inl r_z)), (a31, .inl (cI, 3, .inl r_z)), (a32, .inl (cI, 6, .inl (r_la 6))), (a33, .inl (cI, 5, .inl r_z))] : va_W)[k]? = some q := by
  obtain ⟨sh, h1, rfl⟩ := r_at_inv hq
  have hk := r_kk h1
  clear hq
  rcases (show k = 0 ∨ k = 1 ∨ k = 2 ∨ k = 3 ∨ k = 4 ∨ k = 5 ∨ k = 6 ∨ k = 7 ∨ k = 8 ∨ k = 9 ∨ k = 10 ∨ k = 11 ∨ k = 12 ∨ k = 13 ∨ k = 14 ∨ k = 15 ∨ k = 16 ∨ k = 17 ∨ k = 18 ∨ k = 19 ∨ k = 20 ∨ k = 21 ∨ k = 22 ∨ k = 23 ∨ k = 24 ∨ k = 25 ∨ k = 26 ∨ k = 27 ∨ k = 28 ∨ k = 29 ∨ k = 30 ∨ k = 31 ∨ k = 32 ∨ k = 33 by omega) with rfl | rfl | rfl | rfl | rfl | rfl | rfl | rfl | rfl | rfl | rfl | rfl | rfl | rfl | rfl | rfl | rfl | rfl | rfl | rfl | rfl | rfl | rfl | rfl | rfl | rfl | rfl | rfl | rfl | rfl | rfl | rfl | rfl | rfl
  · cases h1; rfl
  · cases h1; rfl
  · cases h1; rfl
  · cases h1; rfl
  · cases h1; rfl
  · cases h1; rfl
  · cases h1; rfl
  · cases h1; rfl
  · cases h1; rfl
  · cases h1; rfl
  · cases h1; rfl
  · cases h1; rfl
  · cases h1; rfl
  · cases h1; rfl
  · cases h1; rfl
  · cases h1; rfl
  · cases h1; rfl
  · cases h1; rfl
  · cases h1; rfl
  · cases h1; rfl
  · cases h1; rfl
  · cases h1; rfl
  · cases h1; rfl
  · cases h1; rfl
  · cases h1; rfl
  · cases h1; rfl
  · cases h1; rfl
  · cases h1; rfl
  · cases h1; rfl
  · cases h1; rfl
  · cases h1; rfl
  · cases h1; rfl
  · cases h1; rfl
  · cases h1; rfl
theorem r_P0 {D : va_G} {cI cB : ClassId} {st b a0 a1 a2 a3 a4 a5 a6 a7 a8 a9 a10 a11 a12 a13 a14 a15 a16 a17 a18 a19 a20 a21 a22 a23 a24 a25 a26 a27 a28 a29 a30 a31 a32 a33 : Nat} {H : Heap} (h : va_P D vwCl [(a0, .inr (5, [.ref a1, .ref a5, .ref a17])), (a1, .inr (2, [.ref a2, .ref a3, .ref a4, .int 0, .int 0])), (a2, .inl (cI, 20, .inl r_z)), (a3, .inl (cI, 6, .inl r_z)), (a4, .inl (cI, 64, .inl r_z)), (a5, .inr (0, [.ref a1, .ref a6, .ref a10, .ref a14, .ref a15, .ref a16, .int 0, .int (-9), .int 0, .int 0, .int 0])), (a6, .inr (1, [.ref a7, .ref a8, .ref a9])), (a7, .inl (cI, 24, .inl r_z)), (a8, .inl (cI, 24, .inl r_z)), (a9, .inl (cI, 504, .inl r_z)), (a10, .inr (4, [.ref a11, .ref a12, .ref a13, .int 0, .int (-9), .int (-9), .int (-9), .int (-9), .int (-9), .int (-9)])), (a11, .inl (cI, 3, .inl r_z)), (a12, .inl (cI, 4, .inl r_z)), (a13, .inl (cI, 4, .inl r_z)), (a14, .inl (cI, 4, .inl r_z)), (a15, .inl (cI, 16, .inl r_z)), (a16, .inl (cI, 2, .inl r_z)), (a17, .inr (3, [.ref a1, .ref a18, .int 0])), (a18, .inl (cI, 320, .inl r_z)), (a19, .inr (6, [.int 0, .int 0, .ref a20, .ref a21, .ref a22, .ref a23, .ref a24, .ref a25, .ref a26, .ref a27, .ref a28, .ref a29, .int 0, .ref a30, .int 0, .int 0, .int 0, .ref a31, .ref a32, .ref a33])), (a20, .inl (cI, 20, .inl r_z)), (a21, .inl (cI, 6, .inl r_z)), (a22, .inl (cI, 504, .inl r_z)), (a23, .inl (cB, 504, .inl r_z)), (a24, .inl (cI, 504, .inl r_z)), (a25, .inl (cI, 4, .inl r_z)), (a26, .inl (cI, 20, .inl r_z)), (a27, .inl (cI, 16, .inl r_z)), (a28, .inl (cI, 4, .inl r_z)), (a29, .inl (cI, 4, .inl r_z)), (a30, .inl (cI, 2, .inl r_z)), (a31, .inl (cI, 3, .inl r_z)), (a32, .inl (cI, 6, .inl (r_la 6))), (a33, .inl (cI, 5, .inl r_z))] H) : va_P D vwCl (r_W (D, r_ad st b [a0, a1, a2, a3, a4, a5, a6, a7, a8, a9, a10, a11, a12, a13, a14, a15, a16, a17, a18, a19, a20, a21, a22, a23, a24, a25, a26, a27, a28, a29, a30, a31, a32, a33], cI, cB) r_s0) H := fun k q hq => h k q (r_W0 hq)
theorem r_D0 {A : Nat → Prop} {D : va_G} {cI cB : ClassId} {st b a0 a1 a2 a3 a4 a5 a6 a7 a8 a9 a10 a11 a12 a13 a14 a15 a16 a17 a18 a19 a20 a21 a22 a23 a24 a25 a26 a27 a28 a29 a30 a31 a32 a33 : Nat} (h : va_D A [(a0, .inr (5, [.ref a1, .ref a5, .ref a17])), (a1, .inr (2, [.ref a2, .ref a3, .ref a4, .int 0, .int 0])), (a2, .inl (cI, 20, .inl r_z)), (a3, .inl (cI, 6, .inl r_z)), (a4, .inl (cI, 64, .inl r_z)), (a5, .inr (0, [.ref a1, .ref a6, .ref a10, .ref a14, .ref a15, .ref a16, .int 0, .int (-9), .int 0, .int 0, .int 0])), (a6, .inr (1, [.ref a7, .ref a8, .ref a9])), (a7, .inl (cI, 24, .inl r_z)), (a8, .inl (cI, 24, .inl r_z)), (a9, .inl (cI, 504, .inl r_z)), (a10, .inr (4, [.ref a11, .ref a12, .ref a13, .int 0, .int (-9), .int (-9), .int (-9), .int (-9), .int (-9), .int (-9)])), (a11, .inl (cI, 3, .inl r_z)), (a12, .inl (cI, 4, .inl r_z)), (a13, .inl (cI, 4, .inl r_z)), (a14, .inl (cI, 4, .inl r_z)), (a15, .inl (cI, 16, .inl r_z)), (a16, .inl (cI, 2, .inl r_z)), (a17, .inr (3, [.ref a1, .ref a18, .int 0])), (a18, .inl (cI, 320, .inl r_z)), (a19, .inr (6, [.int 0, .int 0, .ref a20, .ref a21, .ref a22, .ref a23, .ref a24, .ref a25, .ref a26, .ref a27, .ref a28, .ref a29, .int 0, .ref a30, .int 0, .int 0, .int 0, .ref a31, .ref a32, .ref a33])), (a20, .inl (cI, 20, .inl r_z)), (a21, .inl (cI, 6, .inl r_z)), (a22, .inl (cI, 504, .inl r_z)), (a23, .inl (cB, 504, .inl r_z)), (a24, .inl (cI, 504, .inl r_z)), (a25, .inl (cI, 4, .inl r_z)), (a26, .inl (cI, 20, .inl r_z)), (a27, .inl (cI, 16, .inl r_z)), (a28, .inl (cI, 4, .inl r_z)), (a29, .inl (cI, 4, .inl r_z)), (a30, .inl (cI, 2, .inl r_z)), (a31, .inl (cI, 3, .inl r_z)), (a32, .inl (cI, 6, .inl (r_la 6))), (a33, .inl (cI, 5, .inl r_z))]) : va_D A (r_W (D, r_ad st b [a0, a1, a2, a3, a4, a5, a6, a7, a8, a9, a10, a11, a12, a13, a14, a15, a16, a17, a18, a19, a20, a21, a22, a23, a24, a25, a26, a27, a28, a29, a30, a31, a32, a33], cI, cB) r_s0) := ⟨fun i j p q hi hj => h.1 i j p q (r_W0 hi) (r_W0 hj), fun k q hk => h.2 k q (r_W0 hk)⟩
