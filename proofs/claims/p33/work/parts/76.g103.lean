/-! methods on any state that keeps the invariant -/
/-! the reference's own words, from its tables -/
theorem TMn_c {σ τ : Sg} (h : Cor σ τ) : TMn τ = TMn σ := cor_tm h
/-! both sides alike -/
