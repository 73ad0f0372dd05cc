/-! methods on any state that keeps the invariant -/
/-! together: what all of them leave -/
theorem lab_20 {R : Nat → Nat → Bool} {σ : Sg} {c : Nat} (hc : AMp σ c = true) : lab R (AMp σ) c < 20 := by
  have c20 : c < 20 := Nat.lt_of_lt_of_le (of_decide_eq_true hc) (tm_le _ _ _)
  have := (lab_p (R := R) (A := AMp σ) c20).2.1
  omega
