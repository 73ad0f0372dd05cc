/-! methods on any state that keeps the invariant -/
/-! the reference's spans -/
def FlM (D : Dt) (σ τ : Sg) : Prop := τ.1 14032 = σ.1 14032 ∧ τ.2.2.1 163 = σ.2.2.1 163 ∧ τ.2.2.1 164 = σ.2.2.1 164 ∧ τ.2.2.1 165 = σ.2.2.1 165 ∧ τ.2.2.1 166 = σ.2.2.1 166 ∨ τ.1 14032 = 1 ∧ ScX D (XM σ) (XM τ)
def StM (D : Dt) (σ τ : Sg) : Prop := NwX D (XM σ) (XM τ) ∧ FlM D σ τ ∧ τ.2.2.1 152 = σ.2.2.1 152
theorem StM.rfl' (D : Dt) (σ : Sg) : StM D σ σ := ⟨NwX.rfl' _ _, Or.inl ⟨rfl, rfl, rfl, rfl, rfl⟩, rfl⟩
theorem StM.tr {D : Dt} {σ τ υ : Sg} (h : StM D σ τ) (k : StM D τ υ) : StM D σ υ := by
  obtain ⟨h1, h2, h4⟩ := h
  obtain ⟨k1, k2, k4⟩ := k
  refine ⟨h1.tr k1, ?_, k4.trans h4⟩
  rcases k2 with ⟨a, b, c, d, e⟩ | ⟨a, b⟩
  · rcases h2 with ⟨p, q, r, s, t⟩ | ⟨p, q⟩
    · exact Or.inl ⟨a.trans p, b.trans q, c.trans r, d.trans s, e.trans t⟩
    · exact Or.inr ⟨a.trans p, q.up k1.1⟩
  · exact Or.inr ⟨a, ScX.dn h1.1 b⟩
theorem stM_1 {D : Dt} {σ τ : Sg} {c i : Nat} {d : Int32} {m : Int} (e : τ = nbT 163 14032 σ i d) (hi : i = (dg D c)) (hc : dA D c = true) (hv : ∀ Z, Sol D Z → LeX D (XM σ) Z → d.toInt ≤ xf Z (dg D c)) (hd : d.toInt ≤ 20000 + m) : StM D σ τ ∧ (d.toInt ≤ xf (XM τ) (dg D c)) ∧ (BnX D (XM σ) m → BnX D (XM τ) m) := by
  rw [hi] at e
  obtain ⟨v, hO, h2, h3, h4⟩ := nb_op 163 14032 σ (dg D c) d
  rw [← e] at hO
  have eo := hO.2.2.1
  have en := hO.2.2.2.1
  have q := nwx_1 (D := D) (X := XM σ) (Y := XM τ) (c := c) (d := d.toInt) (m := m) (fun j hj => congrArg Int32.toInt (hO.2.1 j hj)) (by show (σ.2.2.1 163 (dg D c)).toInt ≤ (τ.2.2.1 163 (dg D c)).toInt; omega) (by show (τ.2.2.1 163 (dg D c)).toInt = (σ.2.2.1 163 (dg D c)).toInt ∨ (τ.2.2.1 163 (dg D c)).toInt = d.toInt; rw [en]; exact h4) (fun j => congrArg (fun q : Nat → Int32 => (q j).toInt) (hO.1 164 (by decide))) (fun j => congrArg (fun q : Nat → Int32 => (q j).toInt) (hO.1 165 (by decide))) (fun j => congrArg (fun q : Nat → Int32 => (q j).toInt) (hO.1 166 (by decide))) hv hc
  refine ⟨⟨q.1, hO.2.2.2.2.2.elim (fun q => Or.inl ⟨q.1, q.2.1, hO.1 164 (by decide), hO.1 165 (by decide), hO.1 166 (by decide)⟩) (fun q => Or.inr ⟨q.1, c, hc, Or.inl (by show (σ.2.2.1 163 (dg D c)).toInt < (τ.2.2.1 163 (dg D c)).toInt; have e1 := hO.2.2.1; have e2 := hO.2.2.2.1; have e3 := q.2; omega)⟩), hO.1 152 (by decide)⟩, ?_, q.2 hd⟩
  show d.toInt ≤ (τ.2.2.1 163 (dg D c)).toInt
  rw [en]; exact h3
theorem stM_2 {D : Dt} {σ τ : Sg} {c i : Nat} {d : Int32} {m : Int} (e : τ = nhT 164 14032 σ i d) (hi : i = (dg D c)) (hc : dA D c = true) (hv : ∀ Z, Sol D Z → LeX D (XM σ) Z → xt Z (dg D c) ≤ d.toInt) (hd : -m ≤ d.toInt) : StM D σ τ ∧ (xt (XM τ) (dg D c) ≤ d.toInt) ∧ (BnX D (XM σ) m → BnX D (XM τ) m) := by
  rw [hi] at e
  obtain ⟨v, hO, h2, h3, h4⟩ := nh_op 164 14032 σ (dg D c) d
  rw [← e] at hO
  have eo := hO.2.2.1
  have en := hO.2.2.2.1
  have q := nwx_2 (D := D) (X := XM σ) (Y := XM τ) (c := c) (d := d.toInt) (m := m) (fun j hj => congrArg Int32.toInt (hO.2.1 j hj)) (by show (τ.2.2.1 164 (dg D c)).toInt ≤ (σ.2.2.1 164 (dg D c)).toInt; omega) (by show (τ.2.2.1 164 (dg D c)).toInt = (σ.2.2.1 164 (dg D c)).toInt ∨ (τ.2.2.1 164 (dg D c)).toInt = d.toInt; rw [en]; exact h4) (fun j => congrArg (fun q : Nat → Int32 => (q j).toInt) (hO.1 163 (by decide))) (fun j => congrArg (fun q : Nat → Int32 => (q j).toInt) (hO.1 165 (by decide))) (fun j => congrArg (fun q : Nat → Int32 => (q j).toInt) (hO.1 166 (by decide))) hv hc
  refine ⟨⟨q.1, hO.2.2.2.2.2.elim (fun q => Or.inl ⟨q.1, hO.1 163 (by decide), q.2.1, hO.1 165 (by decide), hO.1 166 (by decide)⟩) (fun q => Or.inr ⟨q.1, c, hc, Or.inr (Or.inl (by show (τ.2.2.1 164 (dg D c)).toInt < (σ.2.2.1 164 (dg D c)).toInt; have e1 := hO.2.2.1; have e2 := hO.2.2.2.1; have e3 := q.2; omega))⟩), hO.1 152 (by decide)⟩, ?_, q.2 hd⟩
  show (τ.2.2.1 164 (dg D c)).toInt ≤ d.toInt
  rw [en]; exact h3
theorem stM_3 {D : Dt} {σ τ : Sg} {c i : Nat} {d : Int32} {m : Int} (e : τ = nbT 165 14032 σ i d) (hi : i = c) (hc : dA D c = true) (hv : ∀ Z, Sol D Z → LeX D (XM σ) Z → d.toInt ≤ yf Z c) (hd : d.toInt ≤ 20000 + m) : StM D σ τ ∧ (d.toInt ≤ yf (XM τ) c) ∧ (BnX D (XM σ) m → BnX D (XM τ) m) := by
  rw [hi] at e
  obtain ⟨v, hO, h2, h3, h4⟩ := nb_op 165 14032 σ c d
  rw [← e] at hO
  have eo := hO.2.2.1
  have en := hO.2.2.2.1
  have q := nwx_3 (D := D) (X := XM σ) (Y := XM τ) (c := c) (d := d.toInt) (m := m) (fun j hj => congrArg Int32.toInt (hO.2.1 j hj)) (by show (σ.2.2.1 165 c).toInt ≤ (τ.2.2.1 165 c).toInt; omega) (by show (τ.2.2.1 165 c).toInt = (σ.2.2.1 165 c).toInt ∨ (τ.2.2.1 165 c).toInt = d.toInt; rw [en]; exact h4) (fun j => congrArg (fun q : Nat → Int32 => (q j).toInt) (hO.1 163 (by decide))) (fun j => congrArg (fun q : Nat → Int32 => (q j).toInt) (hO.1 164 (by decide))) (fun j => congrArg (fun q : Nat → Int32 => (q j).toInt) (hO.1 166 (by decide))) hv hc
  refine ⟨⟨q.1, hO.2.2.2.2.2.elim (fun q => Or.inl ⟨q.1, hO.1 163 (by decide), hO.1 164 (by decide), q.2.1, hO.1 166 (by decide)⟩) (fun q => Or.inr ⟨q.1, c, hc, Or.inr (Or.inr (Or.inl (by show (σ.2.2.1 165 c).toInt < (τ.2.2.1 165 c).toInt; have e1 := hO.2.2.1; have e2 := hO.2.2.2.1; have e3 := q.2; omega)))⟩), hO.1 152 (by decide)⟩, ?_, q.2 hd⟩
  show d.toInt ≤ (τ.2.2.1 165 c).toInt
  rw [en]; exact h3
theorem stM_4 {D : Dt} {σ τ : Sg} {c i : Nat} {d : Int32} {m : Int} (e : τ = nhT 166 14032 σ i d) (hi : i = c) (hc : dA D c = true) (hv : ∀ Z, Sol D Z → LeX D (XM σ) Z → yt Z c ≤ d.toInt) (hd : -m ≤ d.toInt) : StM D σ τ ∧ (yt (XM τ) c ≤ d.toInt) ∧ (BnX D (XM σ) m → BnX D (XM τ) m) := by
  rw [hi] at e
  obtain ⟨v, hO, h2, h3, h4⟩ := nh_op 166 14032 σ c d
  rw [← e] at hO
  have eo := hO.2.2.1
  have en := hO.2.2.2.1
  have q := nwx_4 (D := D) (X := XM σ) (Y := XM τ) (c := c) (d := d.toInt) (m := m) (fun j hj => congrArg Int32.toInt (hO.2.1 j hj)) (by show (τ.2.2.1 166 c).toInt ≤ (σ.2.2.1 166 c).toInt; omega) (by show (τ.2.2.1 166 c).toInt = (σ.2.2.1 166 c).toInt ∨ (τ.2.2.1 166 c).toInt = d.toInt; rw [en]; exact h4) (fun j => congrArg (fun q : Nat → Int32 => (q j).toInt) (hO.1 163 (by decide))) (fun j => congrArg (fun q : Nat → Int32 => (q j).toInt) (hO.1 164 (by decide))) (fun j => congrArg (fun q : Nat → Int32 => (q j).toInt) (hO.1 165 (by decide))) hv hc
  refine ⟨⟨q.1, hO.2.2.2.2.2.elim (fun q => Or.inl ⟨q.1, hO.1 163 (by decide), hO.1 164 (by decide), hO.1 165 (by decide), q.2.1⟩) (fun q => Or.inr ⟨q.1, c, hc, Or.inr (Or.inr (Or.inr (by show (τ.2.2.1 166 c).toInt < (σ.2.2.1 166 c).toInt; have e1 := hO.2.2.1; have e2 := hO.2.2.2.1; have e3 := q.2; omega)))⟩), hO.1 152 (by decide)⟩, ?_, q.2 hd⟩
  show (τ.2.2.1 166 c).toInt ≤ d.toInt
  rw [en]; exact h3
theorem stM_t {D : Dt} {σ τ : Sg} {c i : Nat} {d1 d2 : Int32} {m : Int} (e : τ = nhT 164 14032 (nbT 163 14032 σ i d1) i d2) (hi : i = (dg D c)) (hc : dA D c = true) (hv1 : ∀ Z, Sol D Z → LeX D (XM σ) Z → d1.toInt ≤ xf Z (dg D c)) (hv2 : ∀ Z, Sol D Z → LeX D (XM σ) Z → xt Z (dg D c) ≤ d2.toInt) (hd1 : d1.toInt ≤ 20000 + m) (hd2 : -m ≤ d2.toInt) : StM D σ τ ∧ (d1.toInt ≤ xf (XM τ) (dg D c) ∧ xt (XM τ) (dg D c) ≤ d2.toInt) ∧ (BnX D (XM σ) m → BnX D (XM τ) m) := by
  have a := stM_1 (D := D) (c := c) (m := m) (τ := nbT 163 14032 σ i d1) rfl hi hc hv1 hd1
  have b := stM_2 (D := D) (c := c) (m := m) e hi hc (fun Z hZ hle => hv2 Z hZ (a.1.1.1.tr hle)) hd2
  have q := (b.1.1.1 c hc)
  have r := a.2.1
  exact ⟨a.1.tr b.1, ⟨by omega, b.2.1⟩, fun h => b.2.2 (a.2.2 h)⟩
theorem stM_o {D : Dt} {σ τ : Sg} {c i : Nat} {d1 d2 : Int32} {m : Int} (e : τ = nhT 166 14032 (nbT 165 14032 σ i d1) i d2) (hi : i = c) (hc : dA D c = true) (hv1 : ∀ Z, Sol D Z → LeX D (XM σ) Z → d1.toInt ≤ yf Z c) (hv2 : ∀ Z, Sol D Z → LeX D (XM σ) Z → yt Z c ≤ d2.toInt) (hd1 : d1.toInt ≤ 20000 + m) (hd2 : -m ≤ d2.toInt) : StM D σ τ ∧ (d1.toInt ≤ yf (XM τ) c ∧ yt (XM τ) c ≤ d2.toInt) ∧ (BnX D (XM σ) m → BnX D (XM τ) m) := by
  have a := stM_3 (D := D) (c := c) (m := m) (τ := nbT 165 14032 σ i d1) rfl hi hc hv1 hd1
  have b := stM_4 (D := D) (c := c) (m := m) e hi hc (fun Z hZ hle => hv2 Z hZ (a.1.1.1.tr hle)) hd2
  have q := (b.1.1.1 c hc)
  have r := a.2.1
  exact ⟨a.1.tr b.1, ⟨by omega, b.2.1⟩, fun h => b.2.2 (a.2.2 h)⟩
def LmF (σ : Sg) (c k : Nat) : Prop := σ.2.2.1 172 (6 * k + 3) = 1 ∧ σ.2.2.1 172 (6 * k) = σ.2.2.1 142 c ∧ inB (σ.2.2.1 143 c) (σ.2.2.1 172 (6 * k + 1)) (σ.2.2.1 172 (6 * k + 2)) = true
def ImI (b : Int32) (σ : Sg) (c j : Nat) (v : Int) : Prop := v = (σ.2.2.1 159 (σ.2.2.1 144 c).toNatClampNeg).toInt ∨ ∃ k, ¬ b = 0 ∧ k < j ∧ LmF σ c k ∧ v = (σ.2.2.1 172 (6 * k + 4)).toInt
def ImJ (b : Int32) (σ : Sg) (c j : Nat) (v : Int) : Prop := v = (σ.2.2.1 160 (σ.2.2.1 144 c).toNatClampNeg).toInt ∨ (¬ σ.2.2.1 147 c = -1 ∧ v = (σ.2.2.1 147 c).toInt) ∨ ∃ k, ¬ b = 0 ∧ k < j ∧ LmF σ c k ∧ v = (σ.2.2.1 172 (6 * k + 5)).toInt
/-- the reference's cells that bounds come of -/
def LkM (D : Dt) (u b : Int32) (σ : Sg) : Prop := (∀ c, dA D c = (decide (c < TMn σ) && !decide (nI c = u))) ∧ (∀ c, dA D c = true → c < 20 ∧ dg D c < 20 ∧ σ.2.2.1 152 c = nI (dg D c)) ∧ (∀ c f, dA D c = true → f < 8 → (dS D c f ↔ σ.2.2.1 158 (8 * c + f) = 1) ∧ (dH D c f ↔ σ.2.2.1 158 (8 * c + f) = 0)) ∧ (∀ f, f < 8 → (σ.2.2.1 156 f).toInt = dff D f ∧ (σ.2.2.1 157 f).toInt = dft D f ∧ 0 ≤ dff D f ∧ dff D f ≤ 20000 ∧ 0 ≤ dft D f ∧ dft D f ≤ 20000) ∧ (∀ a b, dA D a = true → dA D b = true → (dL D a b ↔ ∃ k, k < (σ.1 14025).toNatClampNeg ∧ σ.2.2.1 161 k = nI a ∧ σ.2.2.1 162 k = nI b)) ∧ (∀ c v, dA D c = true → (dI D c v ↔ ImI b σ c (σ.1 14047).toNatClampNeg v) ∧ (dJ D c v ↔ ImJ b σ c (σ.1 14047).toNatClampNeg v)) ∧ (∀ c v, dA D c = true → (dI D c v → 0 ≤ v ∧ v ≤ 20000) ∧ (dJ D c v → 0 ≤ v ∧ v ≤ 20000))
theorem im_cor {b : Int32} {σ τ : Sg} {c j : Nat} (k : Cor σ τ) (v : Int) : (ImI b τ c j v ↔ ImI b σ c j v) ∧ (ImJ b τ c j v ↔ ImJ b σ c j v) := by
  unfold ImI ImJ LmF
  rw [k.2.2.1 159 rfl, k.2.2.1 160 rfl, k.2.2.1 144 rfl, k.2.2.1 147 rfl, k.2.2.1 172 rfl, k.2.2.1 142 rfl, k.2.2.1 143 rfl]
  exact ⟨Iff.rfl, Iff.rfl⟩
theorem lkm_st {D : Dt} {u b : Int32} {σ τ : Sg} (h : LkM D u b σ) (k : Cor σ τ) (e : τ.2.2.1 152 = σ.2.2.1 152) : LkM D u b τ := by
  obtain ⟨h1, h2, h3, h4, h5, h6, h7⟩ := h
  refine ⟨fun c => ?_, fun c hc => by rw [e]; exact h2 c hc, fun c f hc hf => ?_, fun f hf => ?_, fun a b ha hb => ?_, fun c v hc => ?_, h7⟩
  · unfold TMn
    rw [k.1 14000 rfl, k.1 14013 rfl, k.2.2.1 148 rfl]; exact h1 c
  · rw [k.2.2.1 158 rfl]; exact h3 c f hc hf
  · rw [k.2.2.1 156 rfl, k.2.2.1 157 rfl]; exact h4 f hf
  · rw [k.1 14025 rfl, k.2.2.1 161 rfl, k.2.2.1 162 rfl]; exact h5 a b ha hb
  · rw [k.1 14047 rfl]
    exact ⟨(h6 c v hc).1.trans (im_cor k v).1.symm, (h6 c v hc).2.trans (im_cor k v).2.symm⟩
/-- a card of the reference's round -/
def RcM (D : Dt) (X Y : Xs) (c : Nat) : Prop := Rc D X Y c ∧ (∀ v, dI D c v → v ≤ yf Y c) ∧ (∀ v, dJ D c v → yt Y c ≤ v)
theorem RcM.up {D : Dt} {X Y Z : Xs} {c : Nat} (h : RcM D X Y c) (hc : dA D c = true) (k : LeX D Y Z) : RcM D X Z c := ⟨h.1.up hc k, fun v hv => Int.le_trans (h.2.1 v hv) (k c hc).2.2.1, fun v hv => Int.le_trans (k c hc).2.2.2 (h.2.2 v hv)⟩
theorem rcm_s {D : Dt} {X Y Z : Xs} {j : Nat} (h : ∀ c, c < j → dA D c = true → RcM D X Y c) (k : LeX D Y Z) (hj : dA D j = true → RcM D X Z j) : ∀ c, c < j + 1 → dA D c = true → RcM D X Z c := by
  intro c hc ha
  by_cases e : c = j
  · rw [e] at ha ⊢; exact hj ha
  · exact (h c (by omega) ha).up ha k
theorem RcM.dn {D : Dt} {W X Y : Xs} {c : Nat} (h : RcM D X Y c) (hc : dA D c = true) (k : LeX D W X) (k2 : LeX D X Y) : RcM D W Y c := by
  have a := k c hc
  have b1 := h.1.1
  have b2 := h.1.2.1
  exact ⟨⟨by omega, by omega, fun f hf => (h.1.2.2 f hf).dn hc k k2⟩, h.2⟩
/-- how many days the spans have lost -/
def phD (D : Dt) (X : Xs) : Int := sm (fun c => if dA D c = true then (yf X c - yt X c) + (xf X (dg D c) - xt X (dg D c)) else 0) 20
theorem phD_lt {D : Dt} {X Y : Xs} (h20 : ∀ c, dA D c = true → c < 20) (k : LeX D X Y) (h : ScX D X Y) : phD D X + 1 ≤ phD D Y := by
  obtain ⟨c, hc, h⟩ := h
  refine sm_strict 20 (fun d _ => ?_) c (h20 c hc) ?_
  · by_cases h : dA D d = true
    · have a := k d h
      simp only [if_pos h]
      omega
    · simp only [if_neg h]; exact Int.le_refl _
  · have a := k c hc
    simp only [if_pos hc]
    omega
theorem phD_0 {D : Dt} {X : Xs} (h : NeX D X) : phD D X ≤ 0 := by
  refine sm_le0 20 (fun c _ => ?_)
  by_cases hc : dA D c = true
  · have a := h c hc
    simp only [if_pos hc]
    omega
  · simp only [if_neg hc]; exact Int.le_refl _
theorem phD_b {D : Dt} {X : Xs} (h : ∀ c, dA D c = true → -40000 ≤ (yf X c - yt X c) + (xf X (dg D c) - xt X (dg D c))) : -800000 ≤ phD D X := by
  have := sm_mono (f := fun _ => (-40000 : Int)) (g := fun c => if dA D c = true then (yf X c - yt X c) + (xf X (dg D c) - xt X (dg D c)) else 0) 20 (fun c _ => by
    by_cases hc : dA D c = true
    · simp only [if_pos hc]; exact h c hc
    · simp only [if_neg hc]; omega)
  rw [sm_const (k := -40000) 20 (fun _ _ => rfl)] at this
  unfold phD
  omega
theorem xm_eq {σ τ : Sg} (h1 : τ.2.2.1 163 = σ.2.2.1 163) (h2 : τ.2.2.1 164 = σ.2.2.1 164) (h3 : τ.2.2.1 165 = σ.2.2.1 165) (h4 : τ.2.2.1 166 = σ.2.2.1 166) : XM τ = XM σ := by
  unfold XM
  rw [h1, h2, h3, h4]
/-- a round that changes nothing -/
theorem sol_m {D : Dt} {X Y : Xs} (h0 : ∀ c, dA D c = true → 0 ≤ xf X (dg D c) ∧ xt X (dg D c) ≤ 20000) (hN : NwX D X Y) (hC : ∀ c, c < 20 → dA D c = true → RcM D X Y c) (hL : ∀ c, dA D c = true → ∀ b, dA D b = true → dL D c b → Rl D X Y c b) (h20 : ∀ c, dA D c = true → c < 20) (e : Y = X) : Sol D Y := by
  subst e
  refine sol_of (fun c hc => ⟨(h0 c hc).1, (h0 c hc).2, (hC c (h20 c hc) hc).2.1, (hC c (h20 c hc) hc).2.2⟩) ⟨hN, fun c hc => ⟨(hC c (h20 c hc) hc).1, hL c hc⟩⟩
set_option maxRecDepth 100000 in
set_option maxHeartbeats 40000000 in
theorem ge_X9_takenIn {G : vG} {l : Launch} (σ : Sg) (i d f : Int32) (hI : Inv σ) (hi : inR i 0 19) : Sp G l yX9_takenIn cX9_takenIn 4 none 0 0 0 [.ref 140, .int i, .int d, .int f] (WW σ) (QV (fun w2 => ∃ σ2, w2 = WW σ2 ∧ Inv σ2 ∧ Cor σ σ2 ∧ σ2 = nhT 164 14032 (nbT 163 14032 σ (Int32.toNatClampNeg i) d) (Int32.toNatClampNeg i) f)) := by
  refine Sp_of_R [(some (.ref 140)), (some (.int i)), (some (.int d)), (some (.int f))] [] rfl (by simp) rfl (Nat.le_of_ble_eq_true rfl) ?_
  refine R_iload_n (pc := 0) dX9_takenIn_0 rfl rfl ?_
  refine R_aload_n (pc := 1) dX9_takenIn_1 rfl rfl ?_
  refine g_X9_87 (pc := 2) (v := .ref 163) rfl dX9_takenIn_2 (c_140 _) rfl ?_
  refine R_iload_n (pc := 5) dX9_takenIn_5 rfl rfl ?_
  have hx1 : vp_in i 20 := (vp_of_inR hi (by decide))
  refine R_iaload (pc := 6) dX9_takenIn_6 (c_163 _) hx1 ?_
  refine R_icle (pc := 7) 22 dX9_takenIn_7 (by decide) (fun b7_2 => ?_) (fun b7_2 => ?_)
  · skip
    refine R_iload_n (pc := 22) dX9_takenIn_22 rfl rfl ?_
    refine R_aload_n (pc := 23) dX9_takenIn_23 rfl rfl ?_
    refine g_X9_90 (pc := 24) (v := .ref 164) rfl dX9_takenIn_24 (c_140 _) rfl ?_
    refine R_iload_n (pc := 27) dX9_takenIn_27 rfl rfl ?_
    have hx3 : vp_in i 20 := (vp_of_inR hi (by decide))
    refine R_iaload (pc := 28) dX9_takenIn_28 (c_164 _) hx3 ?_
    refine R_icge (pc := 29) 44 dX9_takenIn_29 (by decide) (fun b29_4 => ?_) (fun b29_4 => ?_)
    · skip
      exact R_vret (pc := 44) dX9_takenIn_44 rfl (Nat.zero_le _) (Nat.zero_le _) ⟨rfl, _, rfl, hI, (show Cor σ σ from Cor.rfl' σ), (by rw [nb_t b7_2]; exact (nh_t (σ := σ) (fl := 14032) (i := Int32.toNatClampNeg i) b29_4).symm)⟩
    · skip
      refine R_aload_n (pc := 32) dX9_takenIn_32 rfl rfl ?_
      refine g_X9_90 (pc := 33) (v := .ref 164) rfl dX9_takenIn_33 (c_140 _) rfl ?_
      refine R_iload_n (pc := 36) dX9_takenIn_36 rfl rfl ?_
      refine R_iload_n (pc := 37) dX9_takenIn_37 rfl rfl ?_
      have hx5 : vp_in i 20 := (vp_of_inR hi (by decide))
      refine W_iastore (pc := 38) dX9_takenIn_38 (c_164 _) hx5 (a_164 _ _) ?_
      have hW6 := cor_sa 164 (upd (σ.2.2.1 164) (Int32.toNatClampNeg i) f) (show Cor σ σ from Cor.rfl' σ) rfl
      refine R_aload_n (pc := 39) dX9_takenIn_39 rfl rfl ?_
      refine R_iconst (pc := 40) (v := 1) dX9_takenIn_40 (by decide) ?_
      refine p_X9_204 (pc := 41) rfl dX9_takenIn_41 (c_140 _) (Nat.le_of_ble_eq_true rfl) rfl rfl (s_140_32 _ _) ?_
      have hW7 := cor_si 14032 1 hW6 rfl
      exact R_vret (pc := 44) dX9_takenIn_44 rfl (Nat.zero_le _) (Nat.zero_le _) ⟨rfl, _, rfl, hI, hW7, (by rw [nb_t b7_2]; exact (nh_f (σ := σ) (fl := 14032) (i := Int32.toNatClampNeg i) b29_4).symm)⟩
  · skip
    refine R_aload_n (pc := 10) dX9_takenIn_10 rfl rfl ?_
    refine g_X9_87 (pc := 11) (v := .ref 163) rfl dX9_takenIn_11 (c_140 _) rfl ?_
    refine R_iload_n (pc := 14) dX9_takenIn_14 rfl rfl ?_
    refine R_iload_n (pc := 15) dX9_takenIn_15 rfl rfl ?_
    have hx8 : vp_in i 20 := (vp_of_inR hi (by decide))
    refine W_iastore (pc := 16) dX9_takenIn_16 (c_163 _) hx8 (a_163 _ _) ?_
    have hW9 := cor_sa 163 (upd (σ.2.2.1 163) (Int32.toNatClampNeg i) d) (show Cor σ σ from Cor.rfl' σ) rfl
    refine R_aload_n (pc := 17) dX9_takenIn_17 rfl rfl ?_
    refine R_iconst (pc := 18) (v := 1) dX9_takenIn_18 (by decide) ?_
    refine p_X9_204 (pc := 19) rfl dX9_takenIn_19 (c_140 _) (Nat.le_of_ble_eq_true rfl) rfl rfl (s_140_32 _ _) ?_
    have hW10 := cor_si 14032 1 hW9 rfl
    refine R_iload_n (pc := 22) dX9_takenIn_22 rfl rfl ?_
    refine R_aload_n (pc := 23) dX9_takenIn_23 rfl rfl ?_
    refine g_X9_90 (pc := 24) (v := .ref 164) rfl dX9_takenIn_24 (c_140 _) rfl ?_
    refine R_iload_n (pc := 27) dX9_takenIn_27 rfl rfl ?_
    have hx11 : vp_in i 20 := (vp_of_inR hi (by decide))
    refine W_iaload (pc := 28) (σ.2.2.1 164 (Int32.toNatClampNeg i)) dX9_takenIn_28 (c_164 _) hx11 rfl ?_
    refine R_icge (pc := 29) 44 dX9_takenIn_29 (by decide) (fun b29_12 => ?_) (fun b29_12 => ?_)
    · skip
      exact R_vret (pc := 44) dX9_takenIn_44 rfl (Nat.zero_le _) (Nat.zero_le _) ⟨rfl, _, rfl, hI, hW10, (by rw [nb_f b7_2]; exact (nh_t (σ := (uI (uA σ 163 (upd (σ.2.2.1 163) (Int32.toNatClampNeg i) d)) 14032 1)) (fl := 14032) (i := Int32.toNatClampNeg i) b29_12).symm)⟩
    · skip
      refine R_aload_n (pc := 32) dX9_takenIn_32 rfl rfl ?_
      refine g_X9_90 (pc := 33) (v := .ref 164) rfl dX9_takenIn_33 (c_140 _) rfl ?_
      refine R_iload_n (pc := 36) dX9_takenIn_36 rfl rfl ?_
      refine R_iload_n (pc := 37) dX9_takenIn_37 rfl rfl ?_
      have hx13 : vp_in i 20 := (vp_of_inR hi (by decide))
      refine W_iastore (pc := 38) dX9_takenIn_38 (c_164 _) hx13 (a_164 _ _) ?_
      have hW14 := cor_sa 164 (upd ((uI (uA σ 163 (upd (σ.2.2.1 163) (Int32.toNatClampNeg i) d)) 14032 1).2.2.1 164) (Int32.toNatClampNeg i) f) hW10 rfl
      refine R_aload_n (pc := 39) dX9_takenIn_39 rfl rfl ?_
      refine R_iconst (pc := 40) (v := 1) dX9_takenIn_40 (by decide) ?_
      refine p_X9_204 (pc := 41) rfl dX9_takenIn_41 (c_140 _) (Nat.le_of_ble_eq_true rfl) rfl rfl (s_140_32 _ _) ?_
      have hW15 := cor_si 14032 1 hW14 rfl
      exact R_vret (pc := 44) dX9_takenIn_44 rfl (Nat.zero_le _) (Nat.zero_le _) ⟨rfl, _, rfl, hI, hW15, (by rw [nb_f b7_2]; exact (nh_f (σ := (uI (uA σ 163 (upd (σ.2.2.1 163) (Int32.toNatClampNeg i) d)) 14032 1)) (fl := 14032) (i := Int32.toNatClampNeg i) b29_12).symm)⟩
set_option maxRecDepth 100000 in
set_option maxHeartbeats 40000000 in
theorem ge_X9_outIn {G : vG} {l : Launch} (σ : Sg) (i d f : Int32) (hI : Inv σ) (hi : inR i 0 19) : Sp G l yX9_outIn cX9_outIn 4 none 0 0 0 [.ref 140, .int i, .int d, .int f] (WW σ) (QV (fun w2 => ∃ σ2, w2 = WW σ2 ∧ Inv σ2 ∧ Cor σ σ2 ∧ σ2 = nhT 166 14032 (nbT 165 14032 σ (Int32.toNatClampNeg i) d) (Int32.toNatClampNeg i) f)) := by
  refine Sp_of_R [(some (.ref 140)), (some (.int i)), (some (.int d)), (some (.int f))] [] rfl (by simp) rfl (Nat.le_of_ble_eq_true rfl) ?_
  refine R_iload_n (pc := 0) dX9_outIn_0 rfl rfl ?_
  refine R_aload_n (pc := 1) dX9_outIn_1 rfl rfl ?_
  refine g_X9_93 (pc := 2) (v := .ref 165) rfl dX9_outIn_2 (c_140 _) rfl ?_
  refine R_iload_n (pc := 5) dX9_outIn_5 rfl rfl ?_
  have hx1 : vp_in i 20 := (vp_of_inR hi (by decide))
  refine R_iaload (pc := 6) dX9_outIn_6 (c_165 _) hx1 ?_
  refine R_icle (pc := 7) 22 dX9_outIn_7 (by decide) (fun b7_2 => ?_) (fun b7_2 => ?_)
  · skip
    refine R_iload_n (pc := 22) dX9_outIn_22 rfl rfl ?_
    refine R_aload_n (pc := 23) dX9_outIn_23 rfl rfl ?_
    refine g_X9_96 (pc := 24) (v := .ref 166) rfl dX9_outIn_24 (c_140 _) rfl ?_
    refine R_iload_n (pc := 27) dX9_outIn_27 rfl rfl ?_
    have hx3 : vp_in i 20 := (vp_of_inR hi (by decide))
    refine R_iaload (pc := 28) dX9_outIn_28 (c_166 _) hx3 ?_
    refine R_icge (pc := 29) 44 dX9_outIn_29 (by decide) (fun b29_4 => ?_) (fun b29_4 => ?_)
    · skip
      exact R_vret (pc := 44) dX9_outIn_44 rfl (Nat.zero_le _) (Nat.zero_le _) ⟨rfl, _, rfl, hI, (show Cor σ σ from Cor.rfl' σ), (by rw [nb_t b7_2]; exact (nh_t (σ := σ) (fl := 14032) (i := Int32.toNatClampNeg i) b29_4).symm)⟩
    · skip
      refine R_aload_n (pc := 32) dX9_outIn_32 rfl rfl ?_
      refine g_X9_96 (pc := 33) (v := .ref 166) rfl dX9_outIn_33 (c_140 _) rfl ?_
      refine R_iload_n (pc := 36) dX9_outIn_36 rfl rfl ?_
      refine R_iload_n (pc := 37) dX9_outIn_37 rfl rfl ?_
      have hx5 : vp_in i 20 := (vp_of_inR hi (by decide))
      refine W_iastore (pc := 38) dX9_outIn_38 (c_166 _) hx5 (a_166 _ _) ?_
      have hW6 := cor_sa 166 (upd (σ.2.2.1 166) (Int32.toNatClampNeg i) f) (show Cor σ σ from Cor.rfl' σ) rfl
      refine R_aload_n (pc := 39) dX9_outIn_39 rfl rfl ?_
      refine R_iconst (pc := 40) (v := 1) dX9_outIn_40 (by decide) ?_
      refine p_X9_204 (pc := 41) rfl dX9_outIn_41 (c_140 _) (Nat.le_of_ble_eq_true rfl) rfl rfl (s_140_32 _ _) ?_
      have hW7 := cor_si 14032 1 hW6 rfl
      exact R_vret (pc := 44) dX9_outIn_44 rfl (Nat.zero_le _) (Nat.zero_le _) ⟨rfl, _, rfl, hI, hW7, (by rw [nb_t b7_2]; exact (nh_f (σ := σ) (fl := 14032) (i := Int32.toNatClampNeg i) b29_4).symm)⟩
  · skip
    refine R_aload_n (pc := 10) dX9_outIn_10 rfl rfl ?_
    refine g_X9_93 (pc := 11) (v := .ref 165) rfl dX9_outIn_11 (c_140 _) rfl ?_
    refine R_iload_n (pc := 14) dX9_outIn_14 rfl rfl ?_
    refine R_iload_n (pc := 15) dX9_outIn_15 rfl rfl ?_
    have hx8 : vp_in i 20 := (vp_of_inR hi (by decide))
    refine W_iastore (pc := 16) dX9_outIn_16 (c_165 _) hx8 (a_165 _ _) ?_
    have hW9 := cor_sa 165 (upd (σ.2.2.1 165) (Int32.toNatClampNeg i) d) (show Cor σ σ from Cor.rfl' σ) rfl
    refine R_aload_n (pc := 17) dX9_outIn_17 rfl rfl ?_
    refine R_iconst (pc := 18) (v := 1) dX9_outIn_18 (by decide) ?_
    refine p_X9_204 (pc := 19) rfl dX9_outIn_19 (c_140 _) (Nat.le_of_ble_eq_true rfl) rfl rfl (s_140_32 _ _) ?_
    have hW10 := cor_si 14032 1 hW9 rfl
    refine R_iload_n (pc := 22) dX9_outIn_22 rfl rfl ?_
    refine R_aload_n (pc := 23) dX9_outIn_23 rfl rfl ?_
    refine g_X9_96 (pc := 24) (v := .ref 166) rfl dX9_outIn_24 (c_140 _) rfl ?_
    refine R_iload_n (pc := 27) dX9_outIn_27 rfl rfl ?_
    have hx11 : vp_in i 20 := (vp_of_inR hi (by decide))
    refine W_iaload (pc := 28) (σ.2.2.1 166 (Int32.toNatClampNeg i)) dX9_outIn_28 (c_166 _) hx11 rfl ?_
    refine R_icge (pc := 29) 44 dX9_outIn_29 (by decide) (fun b29_12 => ?_) (fun b29_12 => ?_)
    · skip
      exact R_vret (pc := 44) dX9_outIn_44 rfl (Nat.zero_le _) (Nat.zero_le _) ⟨rfl, _, rfl, hI, hW10, (by rw [nb_f b7_2]; exact (nh_t (σ := (uI (uA σ 165 (upd (σ.2.2.1 165) (Int32.toNatClampNeg i) d)) 14032 1)) (fl := 14032) (i := Int32.toNatClampNeg i) b29_12).symm)⟩
    · skip
      refine R_aload_n (pc := 32) dX9_outIn_32 rfl rfl ?_
      refine g_X9_96 (pc := 33) (v := .ref 166) rfl dX9_outIn_33 (c_140 _) rfl ?_
      refine R_iload_n (pc := 36) dX9_outIn_36 rfl rfl ?_
      refine R_iload_n (pc := 37) dX9_outIn_37 rfl rfl ?_
      have hx13 : vp_in i 20 := (vp_of_inR hi (by decide))
      refine W_iastore (pc := 38) dX9_outIn_38 (c_166 _) hx13 (a_166 _ _) ?_
      have hW14 := cor_sa 166 (upd ((uI (uA σ 165 (upd (σ.2.2.1 165) (Int32.toNatClampNeg i) d)) 14032 1).2.2.1 166) (Int32.toNatClampNeg i) f) hW10 rfl
      refine R_aload_n (pc := 39) dX9_outIn_39 rfl rfl ?_
      refine R_iconst (pc := 40) (v := 1) dX9_outIn_40 (by decide) ?_
      refine p_X9_204 (pc := 41) rfl dX9_outIn_41 (c_140 _) (Nat.le_of_ble_eq_true rfl) rfl rfl (s_140_32 _ _) ?_
      have hW15 := cor_si 14032 1 hW14 rfl
      exact R_vret (pc := 44) dX9_outIn_44 rfl (Nat.zero_le _) (Nat.zero_le _) ⟨rfl, _, rfl, hI, hW15, (by rw [nb_f b7_2]; exact (nh_f (σ := (uI (uA σ 165 (upd (σ.2.2.1 165) (Int32.toNatClampNeg i) d)) 14032 1)) (fl := 14032) (i := Int32.toNatClampNeg i) b29_12).symm)⟩
theorem dAm_t {D : Dt} {u b : Int32} {σ : Sg} {c : Nat} (hK : LkM D u b σ) (h1 : c < TMn σ) (h2 : ¬ nI c = u) : dA D c = true := by rw [hK.1 c, decide_eq_true h1, decide_eq_false h2]; rfl
theorem dAm_f {D : Dt} {u b : Int32} {σ : Sg} {c : Nat} (hK : LkM D u b σ) (h2 : nI c = u) : dA D c = false := by rw [hK.1 c, decide_eq_true h2]; simp
theorem dAm_i {D : Dt} {u b : Int32} {σ : Sg} {c : Nat} (hK : LkM D u b σ) (h : dA D c = true) : c < TMn σ ∧ ¬ nI c = u := by
  rw [hK.1 c] at h
  simp only [Bool.and_eq_true, decide_eq_true_eq, Bool.not_eq_true', decide_eq_false_iff_not] at h
  exact h
theorem tm_ltJ {n a : Int32} {f : Nat → Int32} {j : Nat} (hj : j < 20) (h : ¬ nI (tm n a f) ≤ nI j) : j < tm n a f := Nat.not_le.mp (fun q => h ((nI_leI (by have := tm_le n a f; omega) (by omega)).mpr q))
def EmM (D : Dt) (X : Xs) : Prop := ∃ c, dA D c = true ∧ (yt X c < yf X c ∨ xt X (dg D c) < xf X (dg D c))
def NoM (D : Dt) (X : Xs) (j : Nat) : Prop := ∀ c, c < j → dA D c = true → yf X c ≤ yt X c ∧ xf X (dg D c) ≤ xt X (dg D c)
set_option maxRecDepth 100000 in
set_option maxHeartbeats 40000000 in
theorem gd_X9_isEmpty {G : vG} {l : Launch} (σ : Sg) (D : Dt) (u b : Int32)  (hI : Inv σ) (hK : LkM D u b σ) : Sp G l yX9_isEmpty cX9_isEmpty 4 (some .boolean) 1 0 0 [.ref 140, .int u] (WW σ) (QI (fun x w2 => w2 = WW σ ∧ (x = 1 ∧ EmM D (XM σ) ∨ x = 0 ∧ NeX D (XM σ)))) := by
  refine Sp_of_R [(some (.ref 140)), (some (.int u)), none, none] [none, none] rfl (by simp) rfl (Nat.le_of_ble_eq_true rfl) ?_
  refine R_iconst (pc := 0) (v := 0) dX9_isEmpty_0 (by decide) ?_
  refine st_4_2_i_i (pc := 1) dX9_isEmpty_1 ?_
  refine R_iconst (pc := 2) (v := 0) dX9_isEmpty_2 (by decide) ?_
  refine st_4_3_i_i (pc := 3) dX9_isEmpty_3 ?_
  have HL4 : ∀ (q j4 : Nat) (g2_4 : Int32), j4 + q = 20 → 0 ≤ j4 → inR g2_4 0 1 → (g2_4 = 1 ∧ EmM D (XM σ) ∨ g2_4 = 0 ∧ NoM D (XM σ) j4) → R G l yX9_isEmpty cX9_isEmpty 4 (some .boolean) 1 0 0 (QI (fun x w2 => w2 = WW σ ∧ (x = 1 ∧ EmM D (XM σ) ∨ x = 0 ∧ NeX D (XM σ)))) 4 [(some (.ref 140)), (some (.int u)), (some (.int g2_4)), (some (.int (nI j4)))] [] (WW σ) 0 0 := by
    intro q
    induction q with
    | zero =>
      intro j4 g2_4 hj hs4 hg2_4 hX4_0
      obtain rfl : j4 = 20 := by omega
      refine R_iload_n (pc := 4) dX9_isEmpty_4 rfl rfl ?_
      refine R_aload_n (pc := 5) dX9_isEmpty_5 rfl rfl ?_
      refine k_X9_120 (pc := 6) (ge_X9_thereMany _ hI) rfl (c_140 _) (by decide) (Nat.le_refl _) (Nat.le_refl _) (Nat.le_of_ble_eq_true rfl) dX9_isEmpty_6 (fun x w2 h => ?_)
      obtain ⟨rfl, rfl⟩ := h
      refine R_icge (pc := 9) 73 dX9_isEmpty_9 (by decide) (fun _ => ?_) (fun h => absurd (Int32.not_lt.mp (inR_up (tm_in (σ.1 14000) (σ.1 14013) (σ.2.2.1 148)) (Int32.le_refl _) (by decide)).2) h)
      refine R_iload_n (pc := 73) dX9_isEmpty_73 rfl rfl ?_
      exact R_iret (pc := 74) dX9_isEmpty_74 rfl (nar01 hg2_4) (Nat.zero_le _) (Nat.zero_le _) ⟨_, rfl, rfl, hX4_0.imp (fun q => q) (fun q => ⟨q.1, fun c hc => q.2 c (by have z := (dAm_i hK hc).1; have z2 : (tm (σ.1 14000) (σ.1 14013) (σ.2.2.1 148)) ≤ 20 := (by first | exact tm_le _ _ _ | exact tm_leJ (by omega) (by assumption)); unfold TMn at z; omega) hc⟩)⟩
    | succ q ih4 =>
      intro j4 g2_4 hj hs4 hg2_4 hX4_0
      have hrg4 : inR (nI j4) 0 19 := inR_ix hs4 (show j4 < 20 by omega) (by decide) (by decide) (by decide)
      have hlt4 : j4 < 20 := by omega
      refine R_iload_n (pc := 4) dX9_isEmpty_4 rfl rfl ?_
      refine R_aload_n (pc := 5) dX9_isEmpty_5 rfl rfl ?_
      refine k_X9_120 (pc := 6) (ge_X9_thereMany _ hI) rfl (c_140 _) (by decide) (Nat.le_refl _) (Nat.le_refl _) (Nat.le_of_ble_eq_true rfl) dX9_isEmpty_6 (fun x w2 h => ?_)
      obtain ⟨rfl, rfl⟩ := h
      refine R_icge (pc := 9) 73 dX9_isEmpty_9 (by decide) (fun b9_2 => ?_) (fun b9_2 => ?_)
      · skip
        refine R_iload_n (pc := 73) dX9_isEmpty_73 rfl rfl ?_
        exact R_iret (pc := 74) dX9_isEmpty_74 rfl (nar01 hg2_4) (Nat.zero_le _) (Nat.zero_le _) ⟨_, rfl, rfl, hX4_0.imp (fun q => q) (fun q => ⟨q.1, fun c hc => q.2 c (by have z := (dAm_i hK hc).1; have z2 : (tm (σ.1 14000) (σ.1 14013) (σ.2.2.1 148)) ≤ j4 := (by first | exact tm_le _ _ _ | exact tm_leJ (by omega) (by assumption)); unfold TMn at z; omega) hc⟩)⟩
      · skip
        refine R_iload_n (pc := 12) dX9_isEmpty_12 rfl rfl ?_
        refine R_ifne (pc := 13) 61 dX9_isEmpty_13 (by decide) (fun b13_3 => ?_) (fun b13_3 => ?_)
        · skip
          refine R_iconst (pc := 61) (v := 1) dX9_isEmpty_61 (by decide) ?_
          refine R_goto (pc := 62) 66 dX9_isEmpty_62 (by decide) ?_
          refine st_4_2_i_i (pc := 66) dX9_isEmpty_66 ?_
          refine inc_4_3_1_i (pc := 67) dX9_isEmpty_67 ?_
          have r4 : inR ((nI j4) + 1) 1 20 := inR_add (show inR (nI j4) 0 19 from hrg4) (show inR 1 1 1 from (inR_self _)) (by decide) (by decide)
          have e5 := ti_add (l := 1) (h := 20) (show inR (nI j4) 0 19 from hrg4) (show inR 1 1 1 from (inR_self _)) (by decide) (by decide)
          refine R_goto (pc := 70) 4 dX9_isEmpty_70 (by decide) ?_
          rw [nI_1]
          exact ih4 (j4 + 1) _ (by omega) (by omega) (show inR 1 0 1 from ⟨by decide, by decide⟩) (Or.inl ⟨rfl, (hX4_0.resolve_right (fun q => absurd q.1 b13_3)).2⟩)
        · skip
          refine R_iload_n (pc := 16) dX9_isEmpty_16 rfl rfl ?_
          refine R_iload_n (pc := 17) dX9_isEmpty_17 rfl rfl ?_
          refine R_iceq (pc := 18) 65 dX9_isEmpty_18 (by decide) (fun b18_6 => ?_) (fun b18_6 => ?_)
          · skip
            refine R_iconst (pc := 65) (v := 0) dX9_isEmpty_65 (by decide) ?_
            refine st_4_2_i_i (pc := 66) dX9_isEmpty_66 ?_
            refine inc_4_3_1_i (pc := 67) dX9_isEmpty_67 ?_
            have r7 : inR ((nI j4) + 1) 1 20 := inR_add (show inR (nI j4) 0 19 from hrg4) (show inR 1 1 1 from (inR_self _)) (by decide) (by decide)
            have e8 := ti_add (l := 1) (h := 20) (show inR (nI j4) 0 19 from hrg4) (show inR 1 1 1 from (inR_self _)) (by decide) (by decide)
            refine R_goto (pc := 70) 4 dX9_isEmpty_70 (by decide) ?_
            rw [nI_1]
            exact ih4 (j4 + 1) _ (by omega) (by omega) (show inR 0 0 1 from ⟨by decide, by decide⟩) (Or.inr ⟨rfl, ne_s (hX4_0.resolve_left (fun q => absurd (q.1.symm.trans b13_3) (by decide))).2 (fun q => absurd (q.symm.trans (dAm_f hK b18_6)) (by decide))⟩)
          · skip
            have hA9 : dA D j4 = true := dAm_t hK (tm_ltJ (by omega) b9_2) b18_6
            refine R_aload_n (pc := 21) dX9_isEmpty_21 rfl rfl ?_
            refine g_X9_93 (pc := 22) (v := .ref 165) rfl dX9_isEmpty_22 (c_140 _) rfl ?_
            refine R_iload_n (pc := 25) dX9_isEmpty_25 rfl rfl ?_
            have hx9 : vp_in (nI j4) 20 := (vp_in_nI (by omega) (by decide))
            refine R_iaload (pc := 26) dX9_isEmpty_26 (c_165 _) hx9 ?_
            refine R_cv (σ.2.2.1 165 j4) (by rw [nI_clamp (by omega)]) ?_
            refine R_aload_n (pc := 27) dX9_isEmpty_27 rfl rfl ?_
            refine g_X9_96 (pc := 28) (v := .ref 166) rfl dX9_isEmpty_28 (c_140 _) rfl ?_
            refine R_iload_n (pc := 31) dX9_isEmpty_31 rfl rfl ?_
            have hx10 : vp_in (nI j4) 20 := (vp_in_nI (by omega) (by decide))
            refine R_iaload (pc := 32) dX9_isEmpty_32 (c_166 _) hx10 ?_
            refine R_cv (σ.2.2.1 166 j4) (by rw [nI_clamp (by omega)]) ?_
            refine R_icgt (pc := 33) 61 dX9_isEmpty_33 (by decide) (fun b33_11 => ?_) (fun b33_11 => ?_)
            · skip
              refine R_iconst (pc := 61) (v := 1) dX9_isEmpty_61 (by decide) ?_
              refine R_goto (pc := 62) 66 dX9_isEmpty_62 (by decide) ?_
              refine st_4_2_i_i (pc := 66) dX9_isEmpty_66 ?_
              refine inc_4_3_1_i (pc := 67) dX9_isEmpty_67 ?_
              have r12 : inR ((nI j4) + 1) 1 20 := inR_add (show inR (nI j4) 0 19 from hrg4) (show inR 1 1 1 from (inR_self _)) (by decide) (by decide)
              have e13 := ti_add (l := 1) (h := 20) (show inR (nI j4) 0 19 from hrg4) (show inR 1 1 1 from (inR_self _)) (by decide) (by decide)
              refine R_goto (pc := 70) 4 dX9_isEmpty_70 (by decide) ?_
              rw [nI_1]
              exact ih4 (j4 + 1) _ (by omega) (by omega) (show inR 1 0 1 from ⟨by decide, by decide⟩) (Or.inl ⟨rfl, j4, hA9, Or.inl (show (σ.2.2.1 166 j4).toInt < (σ.2.2.1 165 j4).toInt from ti_lt b33_11)⟩)
            · skip
              refine R_aload_n (pc := 36) dX9_isEmpty_36 rfl rfl ?_
              refine g_X9_87 (pc := 37) (v := .ref 163) rfl dX9_isEmpty_37 (c_140 _) rfl ?_
              refine R_aload_n (pc := 40) dX9_isEmpty_40 rfl rfl ?_
              refine g_X9_54 (pc := 41) (v := .ref 152) rfl dX9_isEmpty_41 (c_140 _) rfl ?_
              refine R_iload_n (pc := 44) dX9_isEmpty_44 rfl rfl ?_
              have hx14 : vp_in (nI j4) 20 := (vp_in_nI (by omega) (by decide))
              refine R_iaload (pc := 45) dX9_isEmpty_45 (c_152 _) hx14 ?_
              refine R_cv (nI (dg D j4)) (by show (σ.2.2.1 152 (Int32.toNatClampNeg (nI j4))) = _; rw [nI_clamp (by omega)]; exact (hK.2.1 j4 hA9).2.2) ?_
              have hx15 : vp_in (nI (dg D j4)) 20 := (vp_of_inR (show inR (nI (dg D j4)) 0 19 from inR_nI (M := 19) (Nat.le_of_lt_succ (hK.2.1 j4 hA9).2.1) (by decide)) (by decide))
              refine R_iaload (pc := 46) dX9_isEmpty_46 (c_163 _) hx15 ?_
              refine R_cv (σ.2.2.1 163 (dg D j4)) (by rw [nI_clamp (by have q := (hK.2.1 j4 hA9).2.1; omega)]) ?_
              refine R_aload_n (pc := 47) dX9_isEmpty_47 rfl rfl ?_
              refine g_X9_90 (pc := 48) (v := .ref 164) rfl dX9_isEmpty_48 (c_140 _) rfl ?_
              refine R_aload_n (pc := 51) dX9_isEmpty_51 rfl rfl ?_
              refine g_X9_54 (pc := 52) (v := .ref 152) rfl dX9_isEmpty_52 (c_140 _) rfl ?_
              refine R_iload_n (pc := 55) dX9_isEmpty_55 rfl rfl ?_
              have hx16 : vp_in (nI j4) 20 := (vp_in_nI (by omega) (by decide))
              refine R_iaload (pc := 56) dX9_isEmpty_56 (c_152 _) hx16 ?_
              refine R_cv (nI (dg D j4)) (by show (σ.2.2.1 152 (Int32.toNatClampNeg (nI j4))) = _; rw [nI_clamp (by omega)]; exact (hK.2.1 j4 hA9).2.2) ?_
              have hx17 : vp_in (nI (dg D j4)) 20 := (vp_of_inR (show inR (nI (dg D j4)) 0 19 from inR_nI (M := 19) (Nat.le_of_lt_succ (hK.2.1 j4 hA9).2.1) (by decide)) (by decide))
              refine R_iaload (pc := 57) dX9_isEmpty_57 (c_164 _) hx17 ?_
              refine R_cv (σ.2.2.1 164 (dg D j4)) (by rw [nI_clamp (by have q := (hK.2.1 j4 hA9).2.1; omega)]) ?_
              refine R_icle (pc := 58) 65 dX9_isEmpty_58 (by decide) (fun b58_18 => ?_) (fun b58_18 => ?_)
              · skip
                refine R_iconst (pc := 65) (v := 0) dX9_isEmpty_65 (by decide) ?_
                refine st_4_2_i_i (pc := 66) dX9_isEmpty_66 ?_
                refine inc_4_3_1_i (pc := 67) dX9_isEmpty_67 ?_
                have r19 : inR ((nI j4) + 1) 1 20 := inR_add (show inR (nI j4) 0 19 from hrg4) (show inR 1 1 1 from (inR_self _)) (by decide) (by decide)
                have e20 := ti_add (l := 1) (h := 20) (show inR (nI j4) 0 19 from hrg4) (show inR 1 1 1 from (inR_self _)) (by decide) (by decide)
                refine R_goto (pc := 70) 4 dX9_isEmpty_70 (by decide) ?_
                rw [nI_1]
                exact ih4 (j4 + 1) _ (by omega) (by omega) (show inR 0 0 1 from ⟨by decide, by decide⟩) (Or.inr ⟨rfl, ne_s (hX4_0.resolve_left (fun q => absurd (q.1.symm.trans b13_3) (by decide))).2 (fun _ => ⟨(show (σ.2.2.1 165 j4).toInt ≤ (σ.2.2.1 166 j4).toInt from ti_nlt b33_11), (show (σ.2.2.1 163 (dg D j4)).toInt ≤ (σ.2.2.1 164 (dg D j4)).toInt from ti_le b58_18)⟩)⟩)
              · skip
                refine R_iconst (pc := 61) (v := 1) dX9_isEmpty_61 (by decide) ?_
                refine R_goto (pc := 62) 66 dX9_isEmpty_62 (by decide) ?_
                refine st_4_2_i_i (pc := 66) dX9_isEmpty_66 ?_
                refine inc_4_3_1_i (pc := 67) dX9_isEmpty_67 ?_
                have r21 : inR ((nI j4) + 1) 1 20 := inR_add (show inR (nI j4) 0 19 from hrg4) (show inR 1 1 1 from (inR_self _)) (by decide) (by decide)
                have e22 := ti_add (l := 1) (h := 20) (show inR (nI j4) 0 19 from hrg4) (show inR 1 1 1 from (inR_self _)) (by decide) (by decide)
                refine R_goto (pc := 70) 4 dX9_isEmpty_70 (by decide) ?_
                rw [nI_1]
                exact ih4 (j4 + 1) _ (by omega) (by omega) (show inR 1 0 1 from ⟨by decide, by decide⟩) (Or.inl ⟨rfl, j4, hA9, Or.inr (show (σ.2.2.1 164 (dg D j4)).toInt < (σ.2.2.1 163 (dg D j4)).toInt from ti_nle b58_18)⟩)
  exact HL4 20 0 _ (by omega) (by omega) (show inR 0 0 1 from ⟨by decide, by decide⟩) (Or.inr ⟨rfl, (fun c hc => absurd hc (by omega))⟩)
