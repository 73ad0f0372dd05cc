/-! methods on any state that keeps the invariant -/
/-- only the arrays of P have changed -/
def Fq (P : Nat → Bool) (σ τ : Sg) : Prop := τ.1 = σ.1 ∧ τ.2.1 = σ.2.1 ∧ (∀ p : Nat, P p = false → τ.2.2.1 p = σ.2.2.1 p) ∧ τ.2.2.2 = σ.2.2.2
theorem fq_rfl (P : Nat → Bool) (σ : Sg) : Fq P σ σ := ⟨rfl, rfl, fun _ _ => rfl, rfl⟩
theorem fq_a {P : Nat → Bool} {σ τ : Sg} (p : Nat) (f : Nat → Int32) (h : Fq P σ τ) (hp : P p = true) : Fq P σ (uA τ p f) := by
  refine ⟨h.1, h.2.1, fun q hq => ?_, h.2.2.2⟩
  show va_up τ.2.2.1 p f q = _
  rw [up_ne _ (fun e => by rw [e, hp] at hq; cases hq)]
  exact h.2.2.1 q hq
