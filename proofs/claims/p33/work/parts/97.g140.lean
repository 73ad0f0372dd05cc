/-! methods on any state that keeps the invariant -/
/-! SPANS: taken from, to (by the leader), published from, to (by the card) -/
abbrev Xs : Type := (Nat → Int) × (Nat → Int) × (Nat → Int) × (Nat → Int)
/-- cards, leaders, shown, hidden, features from, to, lower bounds, upper bounds, laters -/
abbrev Dt : Type := (Nat → Bool) × (Nat → Nat) × (Nat → Nat → Prop) × (Nat → Nat → Prop) × (Nat → Int) × (Nat → Int) × (Nat → Int → Prop) × (Nat → Int → Prop) × (Nat → Nat → Prop)
def dA (D : Dt) (c : Nat) : Bool := D.1 c
def dg (D : Dt) (c : Nat) : Nat := D.2.1 c
def dS (D : Dt) (c f : Nat) : Prop := D.2.2.1 c f
def dH (D : Dt) (c f : Nat) : Prop := D.2.2.2.1 c f
def dff (D : Dt) (f : Nat) : Int := D.2.2.2.2.1 f
def dft (D : Dt) (f : Nat) : Int := D.2.2.2.2.2.1 f
def dI (D : Dt) (c : Nat) (v : Int) : Prop := D.2.2.2.2.2.2.1 c v
def dJ (D : Dt) (c : Nat) (v : Int) : Prop := D.2.2.2.2.2.2.2.1 c v
def dL (D : Dt) (a b : Nat) : Prop := D.2.2.2.2.2.2.2.2 a b
def xf (X : Xs) (g : Nat) : Int := X.1 g
def xt (X : Xs) (g : Nat) : Int := X.2.1 g
def yf (X : Xs) (c : Nat) : Int := X.2.2.1 c
def yt (X : Xs) (c : Nat) : Int := X.2.2.2 c
/-- what holds from the start -/
def BsX (D : Dt) (X : Xs) : Prop := ∀ c, dA D c = true → 0 ≤ xf X (dg D c) ∧ xt X (dg D c) ≤ 20000 ∧ (∀ v, dI D c v → v ≤ yf X c) ∧ (∀ v, dJ D c v → yt X c ≤ v)
def FtX (D : Dt) (X : Xs) (c f : Nat) : Prop := (dS D c f → dff D f ≤ xf X (dg D c) ∧ xt X (dg D c) ≤ dft D f) ∧ (dH D c f → ¬ (dff D f ≤ xf X (dg D c) ∧ xf X (dg D c) ≤ dft D f) ∧ ¬ (dff D f ≤ xt X (dg D c) ∧ xt X (dg D c) ≤ dft D f))
def Sol (D : Dt) (X : Xs) : Prop := BsX D X ∧ ∀ c, dA D c = true → xf X (dg D c) ≤ yf X c ∧ xt X (dg D c) ≤ yt X c ∧ (∀ f, f < 8 → FtX D X c f) ∧ (∀ b, dA D b = true → dL D c b → yf X b + 1 ≤ yf X c ∧ yt X b ≤ yt X c - 1)
def LeX (D : Dt) (X Y : Xs) : Prop := ∀ c, dA D c = true → xf X (dg D c) ≤ xf Y (dg D c) ∧ xt Y (dg D c) ≤ xt X (dg D c) ∧ yf X c ≤ yf Y c ∧ yt Y c ≤ yt X c
def NwX (D : Dt) (X Y : Xs) : Prop := LeX D X Y ∧ ∀ Z, Sol D Z → LeX D X Z → LeX D Y Z
/-- one has become narrower -/
def ScX (D : Dt) (X Y : Xs) : Prop := ∃ c, dA D c = true ∧ (xf X (dg D c) < xf Y (dg D c) ∨ xt Y (dg D c) < xt X (dg D c) ∨ yf X c < yf Y c ∨ yt Y c < yt X c)
theorem LeX.rfl' (D : Dt) (X : Xs) : LeX D X X := fun _ _ => ⟨Int.le_refl _, Int.le_refl _, Int.le_refl _, Int.le_refl _⟩
theorem NwX.rfl' (D : Dt) (X : Xs) : NwX D X X := ⟨LeX.rfl' D X, fun _ _ h => h⟩
theorem ScX.up {D : Dt} {X Y Z : Xs} (h : ScX D X Y) (k : LeX D Y Z) : ScX D X Z := by
  obtain ⟨c, hc, h⟩ := h
  have b := k c hc
  exact ⟨c, hc, by omega⟩
theorem BsX.up {D : Dt} {X Y : Xs} (h : BsX D X) (k : LeX D X Y) : BsX D Y := fun c hc => by
  have a := h c hc
  have b := k c hc
  exact ⟨by omega, by omega, fun v hv => Int.le_trans (a.2.2.1 v hv) b.2.2.1, fun v hv => Int.le_trans b.2.2.2 (a.2.2.2 v hv)⟩
/-- what a round does: to a feature of a card, to a card, to laters -/
def Rf (D : Dt) (X Y : Xs) (c f : Nat) : Prop := (dS D c f → dff D f ≤ xf Y (dg D c) ∧ xt Y (dg D c) ≤ dft D f) ∧ (dH D c f → (dff D f ≤ xf X (dg D c) → xf X (dg D c) ≤ dft D f → dft D f + 1 ≤ xf Y (dg D c)) ∧ (dff D f ≤ xt X (dg D c) → xt X (dg D c) ≤ dft D f → xt Y (dg D c) ≤ dff D f - 1))
def Rc (D : Dt) (X Y : Xs) (c : Nat) : Prop := xf X (dg D c) ≤ yf Y c ∧ xt Y (dg D c) ≤ yt X c ∧ ∀ f, f < 8 → Rf D X Y c f
def Rl (D : Dt) (X Y : Xs) (c b : Nat) : Prop := yf X b + 1 ≤ yf Y c ∧ yt Y b ≤ yt X c - 1
theorem Rf.up {D : Dt} {X Y Z : Xs} {c f : Nat} (h : Rf D X Y c f) (hc : dA D c = true) (k : LeX D Y Z) : Rf D X Z c f := by
  have b := k c hc
  refine ⟨fun q => ?_, fun q => ⟨fun q1 q2 => ?_, fun q1 q2 => ?_⟩⟩
  · have a := h.1 q; omega
  · have a := (h.2 q).1 q1 q2; omega
  · have a := (h.2 q).2 q1 q2; omega
theorem Rc.up {D : Dt} {X Y Z : Xs} {c : Nat} (h : Rc D X Y c) (hc : dA D c = true) (k : LeX D Y Z) : Rc D X Z c := by
  have b := k c hc
  have a1 := h.1
  have a2 := h.2.1
  exact ⟨by omega, by omega, fun f hf => (h.2.2 f hf).up hc k⟩
theorem Rl.up {D : Dt} {X Y Z : Xs} {c d : Nat} (h : Rl D X Y c d) (hc : dA D c = true) (hd : dA D d = true) (k : LeX D Y Z) : Rl D X Z c d := by
  have b1 := k c hc
  have b2 := k d hd
  have a1 := h.1
  have a2 := h.2
  exact ⟨by omega, by omega⟩
/-! after so many rounds nothing changes -/
/-! spans in the machine's cells -/
def BnX (D : Dt) (X : Xs) (m : Int) : Prop := ∀ c, dA D c = true → xf X (dg D c) ≤ 20000 + m ∧ -m ≤ xt X (dg D c) ∧ yf X c ≤ 20000 + m ∧ -m ≤ yt X c
theorem BnX.up {D : Dt} {X : Xs} {m k : Int} (h : BnX D X m) (hk : m ≤ k) : BnX D X k := fun c hc => by
  have a := h c hc
  exact ⟨by omega, by omega, by omega, by omega⟩
def XC (σ : Sg) : Xs := (fun g => (σ.2.2.1 87 g).toInt, fun g => (σ.2.2.1 88 g).toInt, fun c => (σ.2.2.1 90 c).toInt, fun c => (σ.2.2.1 91 c).toInt)
def XM (σ : Sg) : Xs := (fun g => (σ.2.2.1 163 g).toInt, fun g => (σ.2.2.1 164 g).toInt, fun c => (σ.2.2.1 165 c).toInt, fun c => (σ.2.2.1 166 c).toInt)
/-- the class: whether something has changed -/
def Fl1 (D : Dt) (σ τ : Sg) : Prop := τ.1 8602 = σ.1 8602 ∧ τ.2.2.1 87 = σ.2.2.1 87 ∧ τ.2.2.1 88 = σ.2.2.1 88 ∨ τ.1 8602 = 1 ∧ ScX D (XC σ) (XC τ)
def Fl2 (D : Dt) (σ τ : Sg) : Prop := τ.1 8902 = σ.1 8902 ∧ τ.2.2.1 90 = σ.2.2.1 90 ∧ τ.2.2.1 91 = σ.2.2.1 91 ∨ τ.1 8902 = 1 ∧ ScX D (XC σ) (XC τ)
def StC (D : Dt) (σ τ : Sg) : Prop := NwX D (XC σ) (XC τ) ∧ Fl1 D σ τ ∧ Fl2 D σ τ ∧ τ.2.2.1 92 = σ.2.2.1 92
theorem StC.rfl' (D : Dt) (σ : Sg) : StC D σ σ := ⟨NwX.rfl' _ _, Or.inl ⟨rfl, rfl, rfl⟩, Or.inl ⟨rfl, rfl, rfl⟩, rfl⟩
