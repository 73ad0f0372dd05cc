/-! methods on any state that keeps the invariant -/
theorem thC_sz {σ : Sg} {c : Int32} (hI : Inv σ) (h : thC σ c = true) : c.toNatClampNeg < sz σ := by
  have hr := thC_r hI h
  have hs := ti_in (iv_110 hI)
  have h1 := ti_in hr
  unfold thC at h
  simp only [Bool.and_eq_true, Bool.not_eq_true', decide_eq_false_iff_not] at h
  have h2 := ti_nle h.2.1
  have z : (0 : Int32).toInt = 0 := by decide
  show c.toInt.toNat < (σ.1 110).toInt.toNat
  omega
theorem chL_at {σ : Sg} {a b : Int32} (hI : Inv σ) (hL : ChL σ) (ha : thC σ a = true) (hb : thC σ b = true) : σ.2.2.1 (35 + (Int32.toNatClampNeg a)) (Int32.toNatClampNeg b) = LVI σ (Int32.toNatClampNeg a) (Int32.toNatClampNeg b) := hL _ _ (clamp19 (thC_r hI ha)) (clamp19 (thC_r hI hb)) (thC_sz hI ha) (thC_sz hI hb)
theorem far_eq {σ σ2 : Sg} {a b : Int32} (hT : Tie σ) (h1 : Cor σ σ2) (ha : inR a 0 19) (hb : inR b 0 19) : (nI (lev (wM σ2 a) (wM σ2 b) (Int32.toNatClampNeg (σ2.2.2.1 149 (Int32.toNatClampNeg a))) (Int32.toNatClampNeg (σ2.2.2.1 149 (Int32.toNatClampNeg b))))) = LVI σ (Int32.toNatClampNeg a) (Int32.toNatClampNeg b) := by
  unfold LVI LV
  rw [h1.2.2.1 149 rfl, t_lett hT]
  congr 1
  refine lev_congr (a := (σ.2.2.1 11 (Int32.toNatClampNeg a)).toNatClampNeg) (b := (σ.2.2.1 11 (Int32.toNatClampNeg b)).toNatClampNeg) ?_ ?_ _ _ _ (Nat.le_refl _) (Nat.le_refl _) (Nat.le_refl _)
  · intro i hi
    show σ2.2.2.1 150 (8 * (Int32.toNatClampNeg a) + i) = _
    rw [h1.2.2.1 150 rfl]
    exact t_capt hT _ i (clamp19 ha) hi
  · intro i hi
    show σ2.2.2.1 150 (8 * (Int32.toNatClampNeg b) + i) = _
    rw [h1.2.2.1 150 rfl]
    exact t_capt hT _ i (clamp19 hb) hi
