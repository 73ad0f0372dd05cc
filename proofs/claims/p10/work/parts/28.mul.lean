/-! a constant times an int -/
theorem ti_mulc {a c l1 h1 l h : Int32} (k : Nat) (hc : c.toInt = k) (x : inR a l1 h1) (hl : l.toInt = k * l1.toInt) (hh : h.toInt = k * h1.toInt) : (c * a).toInt = k * a.toInt := by
  have q := ti_in x; have := ti_rng l; have := ti_rng h
  have m1 : (k : Int) * l1.toInt ≤ k * a.toInt := Int.mul_le_mul_of_nonneg_left q.1 (by omega)
  have m2 : (k : Int) * a.toInt ≤ k * h1.toInt := Int.mul_le_mul_of_nonneg_left q.2 (by omega)
  rw [Int32.toInt_mul, hc]; exact Int.bmod_eq_of_le (by omega) (by omega)
theorem inR_mulc {a c l1 h1 l h : Int32} (k : Nat) (hc : c.toInt = k) (x : inR a l1 h1) (hl : l.toInt = k * l1.toInt) (hh : h.toInt = k * h1.toInt) : inR (c * a) l h := by
  have q := ti_in x
  have m1 : (k : Int) * l1.toInt ≤ k * a.toInt := Int.mul_le_mul_of_nonneg_left q.1 (by omega)
  have m2 : (k : Int) * a.toInt ≤ k * h1.toInt := Int.mul_le_mul_of_nonneg_left q.2 (by omega)
  have e := ti_mulc k hc x hl hh
  exact of_ti (by omega) (by omega)
