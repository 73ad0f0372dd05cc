/-! methods on any state that keeps the invariant -/
theorem ttC_p {σ : Sg} {a b : Int32} (h : ttC σ a b = true) : ¬ a = b ∧ thC σ a = true ∧ thC σ b = true := by
  unfold ttC at h
  simp only [Bool.and_eq_true, Bool.not_eq_true', decide_eq_false_iff_not] at h
  exact h
theorem chD_at {σ : Sg} {a b : Int32} (hI : Inv σ) (hD : ChD σ) (h : ttC σ a b = true) : σ.2.2.1 (14 + (Int32.toNatClampNeg a)) (Int32.toNatClampNeg b) = DV σ (Int32.toNatClampNeg a) (Int32.toNatClampNeg b) := hD _ _ (clamp19 (thC_r hI (ttC_p h).2.1)) (clamp19 (thC_r hI (ttC_p h).2.2)) (thC_sz hI (ttC_p h).2.1) (thC_sz hI (ttC_p h).2.2)
theorem dif_eq {σ σ2 : Sg} (hT : Tie σ) (h1 : Cor σ σ2) (a b : Nat) : (uoF (σ2.2.2.2.1 145 a) (σ2.2.2.2.1 145 b) (σ2.2.2.1 146 a) (σ2.2.2.1 146 b)) = DV σ a b := by
  unfold DV
  rw [h1.2.2.2.1 145, h1.2.2.1 146 rfl, t_pict hT, t_sky hT]
