/-! methods on any state that keeps the invariant -/
theorem thC_sz {σ : Sg} {c : Int32} (hI : Inv σ) (h : thC σ c = true) : c.toNatClampNeg < sz σ := by
  have hr := thC_r hI h
  have hs := ti_in (iv_110 hI)
  have h1 := ti_in hr
  unfold thC at h
  simp only [Bool.and_eq_true, Bool.not_eq_true', decide_eq_false_iff_not] at h
  have h2 := ti_nle h.2.1
  have z : (0 : Int32).toInt = 0 := by decide
  show c.toInt.toNat < (σ.1 110).toInt.toNat
  omega
