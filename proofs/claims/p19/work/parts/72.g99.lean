/-! methods on any state that keeps the invariant -/
/-! together: what all of them leave -/
theorem has_kt {K : Nat → Bool} {j : Nat} (hj : j < 20) (h : (bsI K 20 >>> (nI j &&& 31)) &&& 1 = 1) : K j = true := by
  have q := has_t (by omega) h
  rw [tb_bs 20 (by omega), decide_eq_true hj] at q; exact q
theorem has_kf {K : Nat → Bool} {j : Nat} (hj : j < 20) (h : ¬ (bsI K 20 >>> (nI j &&& 31)) &&& 1 = 1) : K j = false := by
  have q := has_f (by omega) h
  rw [tb_bs 20 (by omega), decide_eq_true hj] at q; exact q
