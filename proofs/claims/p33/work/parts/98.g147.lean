/-! methods on any state that keeps the invariant -/
/-! the reference's spans -/
def FlM (D : Dt) (σ τ : Sg) : Prop := τ.1 14032 = σ.1 14032 ∧ τ.2.2.1 163 = σ.2.2.1 163 ∧ τ.2.2.1 164 = σ.2.2.1 164 ∧ τ.2.2.1 165 = σ.2.2.1 165 ∧ τ.2.2.1 166 = σ.2.2.1 166 ∨ τ.1 14032 = 1 ∧ ScX D (XM σ) (XM τ)
def StM (D : Dt) (σ τ : Sg) : Prop := NwX D (XM σ) (XM τ) ∧ FlM D σ τ ∧ τ.2.2.1 152 = σ.2.2.1 152
theorem StM.rfl' (D : Dt) (σ : Sg) : StM D σ σ := ⟨NwX.rfl' _ _, Or.inl ⟨rfl, rfl, rfl, rfl, rfl⟩, rfl⟩
/-- a card of the reference's round -/
def RcM (D : Dt) (X Y : Xs) (c : Nat) : Prop := Rc D X Y c ∧ (∀ v, dI D c v → v ≤ yf Y c) ∧ (∀ v, dJ D c v → yt Y c ≤ v)
theorem RcM.up {D : Dt} {X Y Z : Xs} {c : Nat} (h : RcM D X Y c) (hc : dA D c = true) (k : LeX D Y Z) : RcM D X Z c := ⟨h.1.up hc k, fun v hv => Int.le_trans (h.2.1 v hv) (k c hc).2.2.1, fun v hv => Int.le_trans (k c hc).2.2.2 (h.2.2 v hv)⟩
