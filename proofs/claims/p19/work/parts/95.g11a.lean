/-! methods on any state that keeps the invariant -/
/-! fault, catalogue: both sides alike -/
theorem cat_w9 {σ σ2 : Sg} (h : ¬ rdR (σ.2.2.1 170) (Int32.toNatClampNeg (σ.1 14037)) = -1 ∧ Cor σ σ2 ∨ rdR (σ.2.2.1 170) (Int32.toNatClampNeg (σ.1 14037)) = -1 ∧ ∃ g, RC g (σ.2.2.1 170) (Int32.toNatClampNeg (σ.1 14037)) ∧ Cor (uI (uA σ 172 g) 14047 (rdZ (σ.2.2.1 170) (Int32.toNatClampNeg (σ.1 14037)))) σ2) : Cor σ σ2 ∨ ∃ f n, Cor (uI (uA σ 172 f) 14047 n) σ2 := by
  rcases h with ⟨-, h⟩ | ⟨-, g, -, h⟩
  · exact Or.inl h
  · exact Or.inr ⟨g, _, h⟩
