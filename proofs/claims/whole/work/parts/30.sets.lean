/-! the reference's sets, one by one -/
/-- the sets of n of w bits, by their numbers -/
def h_l : Nat → Nat → List Nat
  | 0, 0 => [0]
  | 0, _ + 1 => []
  | w + 1, 0 => h_l w 0
  | w + 1, n + 1 => h_l w (n + 1) ++ (h_l w n).map (fun x => x + 2 ^ w)
def h_ck : List Nat → Bool
  | a :: b :: r => (decide (m_nx (nI a) = nI b) && !decide ((nI a &&& - nI a) = 0)) && h_ck (b :: r)
  | _ => true
theorem h_k1 : h_ck (h_l 21 1) = true := by decide +kernel
theorem h_k2 : h_ck (h_l 21 2) = true := by decide +kernel
theorem h_k3 : h_ck (h_l 21 3) = true := by decide +kernel
theorem h_k4 : h_ck (h_l 21 4) = true := by decide +kernel
