/-! methods on any state that keeps the invariant -/
def catF (f : Nat → Int32) (n : Nat) : Int32 := bif decide (rdR f n = -1) then rdZ f n else -4
theorem catF_t {f : Nat → Int32} {n : Nat} (h : rdR f n = -1) : catF f n = rdZ f n := by unfold catF; rw [decide_eq_true h, cond_true]
theorem catF_f {f : Nat → Int32} {n : Nat} (h : ¬ rdR f n = -1) : catF f n = -4 := by unfold catF; rw [decide_eq_false h, cond_false]
theorem by_n {σ : Sg} (hI : Inv σ) : σ.1 11701 = nI (Int32.toNatClampNeg (σ.1 11701)) ∧ Int32.toNatClampNeg (σ.1 11701) ≤ 160 := by
  obtain ⟨k, hk, e⟩ := nI_inR (M := 160) (iv_11701 hI) (by decide)
  rw [e, nI_clamp (by omega)]
  exact ⟨rfl, hk⟩
