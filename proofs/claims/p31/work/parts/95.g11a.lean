/-! methods on any state that keeps the invariant -/
/-! fault, catalogue: both sides alike -/
theorem ans_catalogue {σ σ2 : Sg} (hI : Inv σ) (hT : Tie σ) (h1 : ∃ a b, (CoL (uN σ a b) σ2 ∨ CoM (uN σ a b) σ2)) : catF (σ.2.2.1 118) (Int32.toNatClampNeg (σ.1 11701)) = catF (σ2.2.2.1 170) (Int32.toNatClampNeg (σ2.1 14037)) := by
  obtain ⟨a, b, h1⟩ := h1
  have w : CoW (uN σ a b) σ2 := h1.elim col_w com_w
  rw [show σ2.2.2.1 170 = σ.2.2.1 170 from w.2.2.1 170 rfl, t_text hT, show σ2.1 14037 = σ.1 14037 from w.1 14037 rfl, t_bytes hT]
theorem cat_w9 {σ σ2 : Sg} (h : ¬ rdR (σ.2.2.1 170) (Int32.toNatClampNeg (σ.1 14037)) = -1 ∧ Cor σ σ2 ∨ rdR (σ.2.2.1 170) (Int32.toNatClampNeg (σ.1 14037)) = -1 ∧ ∃ g, RC g (σ.2.2.1 170) (Int32.toNatClampNeg (σ.1 14037)) ∧ Cor (uI (uA σ 172 g) 14047 (rdZ (σ.2.2.1 170) (Int32.toNatClampNeg (σ.1 14037)))) σ2) : Cor σ σ2 ∨ ∃ f n, Cor (uI (uA σ 172 f) 14047 n) σ2 := by
  rcases h with ⟨-, h⟩ | ⟨-, g, -, h⟩
  · exact Or.inl h
  · exact Or.inr ⟨g, _, h⟩
