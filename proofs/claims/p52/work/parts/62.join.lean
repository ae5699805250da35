/-! joining: the last loop -/
theorem L_1040 {xs : Nat → Int32} {Ln : Nat} {B to un la td w : Nat} {M : mj_M} (hr : Rg B to un la td w) (hL : Ln ≤ 260) (h : S_D1 B to un la td w M) : vb_L_law_1040 xs Ln 1100 (ad B 0) (nI (td + 30 + w)) 0 M := sorry
