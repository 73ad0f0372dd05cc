/-! methods on any state that keeps the invariant -/
/-! what the answers of quarrel and span say -/
def BL (D : Dt) : Prop := Bad D ∨ Lng D
theorem bl_no {D : Dt} {X : Xs} (h20 : ∀ c, dA D c = true → c < 20) (h : Good D X) (k : BL D) : False := k.elim (fun q => good_bad h q) (fun q => lng_no h20 h q)
