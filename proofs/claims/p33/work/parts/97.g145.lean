/-! methods on any state that keeps the invariant -/
/-! leaders: the least CARD of a NEGATIVE -/
abbrev RC0 (σ : Sg) : Nat → Nat → Bool := fun a b => lkC σ (nI a) (nI b)
