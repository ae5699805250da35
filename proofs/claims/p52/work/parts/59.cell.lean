/-! the law's own numbers out of the script -/
theorem n_rem {a b : Nat} (ha : a < 2147483648) (hb : b < 2147483648) (h : 0 < b) : nI a - nI a / nI b * nI b = nI (a % b) := sorry
theorem c_cell {xs : Nat → Int32} {Ln k n : Nat} {M : mj_M} {post : Int32 → mj_M → Prop} (hL : Ln ≤ 260) (hk : k < 100) (hn : 0 < n ∧ n < 2147483648 ∨ 0 < n ∧ n < 40000) (h : ∀ c, c < n → post (nI c) M) : vc_L_cell xs Ln (nI k) (nI n) M post := sorry
