/-! methods on any state that keeps the invariant -/
/-! SPANS: taken from, to (by the leader), published from, to (by the card) -/
abbrev Xs : Type := (Nat → Int) × (Nat → Int) × (Nat → Int) × (Nat → Int)
/-- cards, leaders, shown, hidden, features from, to, lower bounds, upper bounds, laters -/
abbrev Dt : Type := (Nat → Bool) × (Nat → Nat) × (Nat → Nat → Prop) × (Nat → Nat → Prop) × (Nat → Int) × (Nat → Int) × (Nat → Int → Prop) × (Nat → Int → Prop) × (Nat → Nat → Prop)
def dA (D : Dt) (c : Nat) : Bool := D.1 c
def dg (D : Dt) (c : Nat) : Nat := D.2.1 c
def dS (D : Dt) (c f : Nat) : Prop := D.2.2.1 c f
def dH (D : Dt) (c f : Nat) : Prop := D.2.2.2.1 c f
def dff (D : Dt) (f : Nat) : Int := D.2.2.2.2.1 f
def dft (D : Dt) (f : Nat) : Int := D.2.2.2.2.2.1 f
def dI (D : Dt) (c : Nat) (v : Int) : Prop := D.2.2.2.2.2.2.1 c v
def dJ (D : Dt) (c : Nat) (v : Int) : Prop := D.2.2.2.2.2.2.2.1 c v
def dL (D : Dt) (a b : Nat) : Prop := D.2.2.2.2.2.2.2.2 a b
def xf (X : Xs) (g : Nat) : Int := X.1 g
def xt (X : Xs) (g : Nat) : Int := X.2.1 g
def yf (X : Xs) (c : Nat) : Int := X.2.2.1 c
def yt (X : Xs) (c : Nat) : Int := X.2.2.2 c
/-- what holds from the start -/
def BsX (D : Dt) (X : Xs) : Prop := ∀ c, dA D c = true → 0 ≤ xf X (dg D c) ∧ xt X (dg D c) ≤ 20000 ∧ (∀ v, dI D c v → v ≤ yf X c) ∧ (∀ v, dJ D c v → yt X c ≤ v)
def FtX (D : Dt) (X : Xs) (c f : Nat) : Prop := (dS D c f → dff D f ≤ xf X (dg D c) ∧ xt X (dg D c) ≤ dft D f) ∧ (dH D c f → ¬ (dff D f ≤ xf X (dg D c) ∧ xf X (dg D c) ≤ dft D f) ∧ ¬ (dff D f ≤ xt X (dg D c) ∧ xt X (dg D c) ≤ dft D f))
def Sol (D : Dt) (X : Xs) : Prop := BsX D X ∧ ∀ c, dA D c = true → xf X (dg D c) ≤ yf X c ∧ xt X (dg D c) ≤ yt X c ∧ (∀ f, f < 8 → FtX D X c f) ∧ (∀ b, dA D b = true → dL D c b → yf X b + 1 ≤ yf X c ∧ yt X b ≤ yt X c - 1)
def LeX (D : Dt) (X Y : Xs) : Prop := ∀ c, dA D c = true → xf X (dg D c) ≤ xf Y (dg D c) ∧ xt Y (dg D c) ≤ xt X (dg D c) ∧ yf X c ≤ yf Y c ∧ yt Y c ≤ yt X c
def NeX (D : Dt) (X : Xs) : Prop := ∀ c, dA D c = true → yf X c ≤ yt X c ∧ xf X (dg D c) ≤ xt X (dg D c)
def NwX (D : Dt) (X Y : Xs) : Prop := LeX D X Y ∧ ∀ Z, Sol D Z → LeX D X Z → LeX D Y Z
/-- one has become narrower -/
def ScX (D : Dt) (X Y : Xs) : Prop := ∃ c, dA D c = true ∧ (xf X (dg D c) < xf Y (dg D c) ∨ xt Y (dg D c) < xt X (dg D c) ∨ yf X c < yf Y c ∨ yt Y c < yt X c)
theorem LeX.rfl' (D : Dt) (X : Xs) : LeX D X X := fun _ _ => ⟨Int.le_refl _, Int.le_refl _, Int.le_refl _, Int.le_refl _⟩
theorem LeX.tr {D : Dt} {X Y Z : Xs} (h : LeX D X Y) (k : LeX D Y Z) : LeX D X Z := fun c hc => by
  have a := h c hc
  have b := k c hc
  exact ⟨by omega, by omega, by omega, by omega⟩
theorem NwX.rfl' (D : Dt) (X : Xs) : NwX D X X := ⟨LeX.rfl' D X, fun _ _ h => h⟩
theorem NwX.tr {D : Dt} {X Y Z : Xs} (h : NwX D X Y) (k : NwX D Y Z) : NwX D X Z := ⟨h.1.tr k.1, fun W hW hX => k.2 W hW (h.2 W hW hX)⟩
theorem ScX.up {D : Dt} {X Y Z : Xs} (h : ScX D X Y) (k : LeX D Y Z) : ScX D X Z := by
  obtain ⟨c, hc, h⟩ := h
  have b := k c hc
  exact ⟨c, hc, by omega⟩
theorem BsX.up {D : Dt} {X Y : Xs} (h : BsX D X) (k : LeX D X Y) : BsX D Y := fun c hc => by
  have a := h c hc
  have b := k c hc
  exact ⟨by omega, by omega, fun v hv => Int.le_trans (a.2.2.1 v hv) b.2.2.1, fun v hv => Int.le_trans b.2.2.2 (a.2.2.2 v hv)⟩
/-- what a round does: to a feature of a card, to a card, to laters -/
def Rf (D : Dt) (X Y : Xs) (c f : Nat) : Prop := (dS D c f → dff D f ≤ xf Y (dg D c) ∧ xt Y (dg D c) ≤ dft D f) ∧ (dH D c f → (dff D f ≤ xf X (dg D c) → xf X (dg D c) ≤ dft D f → dft D f + 1 ≤ xf Y (dg D c)) ∧ (dff D f ≤ xt X (dg D c) → xt X (dg D c) ≤ dft D f → xt Y (dg D c) ≤ dff D f - 1))
def Rc (D : Dt) (X Y : Xs) (c : Nat) : Prop := xf X (dg D c) ≤ yf Y c ∧ xt Y (dg D c) ≤ yt X c ∧ ∀ f, f < 8 → Rf D X Y c f
def Rl (D : Dt) (X Y : Xs) (c b : Nat) : Prop := yf X b + 1 ≤ yf Y c ∧ yt Y b ≤ yt X c - 1
def Rs (D : Dt) (X Y : Xs) : Prop := NwX D X Y ∧ ∀ c, dA D c = true → Rc D X Y c ∧ ∀ b, dA D b = true → dL D c b → Rl D X Y c b
theorem Rf.up {D : Dt} {X Y Z : Xs} {c f : Nat} (h : Rf D X Y c f) (hc : dA D c = true) (k : LeX D Y Z) : Rf D X Z c f := by
  have b := k c hc
  refine ⟨fun q => ?_, fun q => ⟨fun q1 q2 => ?_, fun q1 q2 => ?_⟩⟩
  · have a := h.1 q; omega
  · have a := (h.2 q).1 q1 q2; omega
  · have a := (h.2 q).2 q1 q2; omega
theorem Rc.up {D : Dt} {X Y Z : Xs} {c : Nat} (h : Rc D X Y c) (hc : dA D c = true) (k : LeX D Y Z) : Rc D X Z c := by
  have b := k c hc
  have a1 := h.1
  have a2 := h.2.1
  exact ⟨by omega, by omega, fun f hf => (h.2.2 f hf).up hc k⟩
theorem Rl.up {D : Dt} {X Y Z : Xs} {c d : Nat} (h : Rl D X Y c d) (hc : dA D c = true) (hd : dA D d = true) (k : LeX D Y Z) : Rl D X Z c d := by
  have b1 := k c hc
  have b2 := k d hd
  have a1 := h.1
  have a2 := h.2
  exact ⟨by omega, by omega⟩
/-- a round that starts later: what it does, it does from before too -/
theorem Rf.dn {D : Dt} {W X Y : Xs} {c f : Nat} (h : Rf D X Y c f) (hc : dA D c = true) (k : LeX D W X) (k2 : LeX D X Y) : Rf D W Y c f := by
  have b := k c hc
  have b2 := k2 c hc
  refine ⟨h.1, fun q => ⟨fun q1 q2 => ?_, fun q1 q2 => ?_⟩⟩
  · by_cases e : xf X (dg D c) ≤ dft D f
    · exact (h.2 q).1 (by omega) e
    · omega
  · by_cases e : dff D f ≤ xt X (dg D c)
    · exact (h.2 q).2 e (by omega)
    · omega
/-- a round that changes nothing -/
theorem sol_of {D : Dt} {X : Xs} (hB : BsX D X) (h : Rs D X X) : Sol D X := by
  refine ⟨hB, fun c hc => ?_⟩
  obtain ⟨⟨h1, h2, h3⟩, h4⟩ := h.2 c hc
  refine ⟨h1, h2, fun f hf => ⟨(h3 f hf).1, fun q => ⟨fun e => ?_, fun e => ?_⟩⟩, fun b hb hl => h4 b hb hl⟩
  · have := ((h3 f hf).2 q).1 e.1 e.2; omega
  · have := ((h3 f hf).2 q).2 e.1 e.2; omega
/-- the narrowest that all bounds let be, and none is empty -/
def Good (D : Dt) (X : Xs) : Prop := Sol D X ∧ NeX D X ∧ ∀ Y, Sol D Y → LeX D X Y
def Bad (D : Dt) : Prop := ∀ Y, Sol D Y → ¬ NeX D Y
theorem good_bad {D : Dt} {X : Xs} (h : Good D X) (k : Bad D) : False := k X h.1 h.2.1
theorem good_eq {D : Dt} {X Y : Xs} (h : Good D X) (k : Good D Y) {c : Nat} (hc : dA D c = true) : xf X (dg D c) = xf Y (dg D c) ∧ xt X (dg D c) = xt Y (dg D c) ∧ yf X c = yf Y c ∧ yt X c = yt Y c := by
  have a := h.2.2 Y k.1 c hc
  have b := k.2.2 X h.1 c hc
  exact ⟨by omega, by omega, by omega, by omega⟩
/-! after so many rounds nothing changes -/
/-- after n rounds that have each changed something -/
def TrX (D : Dt) (X0 : Xs) : Nat → Xs → Prop
  | 0, X => X = X0
  | n + 1, X => ∃ W, TrX D X0 n W ∧ Rs D W X ∧ ScX D W X
theorem tr_le {D : Dt} {X0 L : Xs} (hL : Sol D L) (h0 : LeX D X0 L) : ∀ (n : Nat) (X : Xs), TrX D X0 n X → LeX D X0 X ∧ LeX D X L := by
  intro n
  induction n with
  | zero => intro X h; rw [show X = X0 from h]; exact ⟨LeX.rfl' D X0, h0⟩
  | succ n ih =>
    intro X h
    obtain ⟨W, hW, hR, -⟩ := h
    have q := ih W hW
    exact ⟨q.1.tr hR.1.1, hR.1.2 L hL q.2⟩
/-- how many features are passed -/
def cp (f : Nat → Bool) : Nat → Nat
  | 0 => 0
  | n + 1 => cp f n + (if f n = true then 1 else 0)
theorem cp_le (f : Nat → Bool) : ∀ n : Nat, cp f n ≤ n := by
  intro n
  induction n with
  | zero => exact Nat.le_refl _
  | succ n ih =>
    show cp f n + (if f n = true then 1 else 0) ≤ n + 1
    split <;> omega
theorem cp_mono {f g : Nat → Bool} : ∀ n : Nat, (∀ i, i < n → f i = true → g i = true) → cp f n ≤ cp g n := by
  intro n
  induction n with
  | zero => intro _; exact Nat.le_refl _
  | succ n ih =>
    intro h
    have h1 := ih (fun i hi => h i (by omega))
    have h2 := h n (by omega)
    show cp f n + (if f n = true then 1 else 0) ≤ cp g n + (if g n = true then 1 else 0)
    by_cases e : f n = true
    · rw [if_pos e, if_pos (h2 e)]; omega
    · rw [if_neg e]; split <;> omega
theorem cp_lt {f g : Nat → Bool} : ∀ n : Nat, (∀ i, i < n → f i = true → g i = true) → ∀ i, i < n → f i = false → g i = true → cp f n + 1 ≤ cp g n := by
  intro n
  induction n with
  | zero => intro _ i hi; omega
  | succ n ih =>
    intro h i hi e1 e2
    have h2 := h n (by omega)
    show cp f n + (if f n = true then 1 else 0) + 1 ≤ cp g n + (if g n = true then 1 else 0)
    by_cases e : i = n
    · subst e
      have h1 := cp_mono i (fun j hj => h j (by omega))
      rw [e1, if_pos e2, if_neg (by decide)]; omega
    · have h1 := ih (fun j hj => h j (by omega)) i (by omega) e1 e2
      by_cases e3 : f n = true
      · rw [if_pos e3, if_pos (h2 e3)]; omega
      · rw [if_neg e3]; split <;> omega
theorem cp_0 {f : Nat → Bool} : ∀ n : Nat, cp f n = 0 → ∀ i, i < n → f i = false := by
  intro n
  induction n with
  | zero => intro _ i hi; omega
  | succ n ih =>
    intro h i hi
    have h1 : cp f n + (if f n = true then 1 else 0) = 0 := h
    by_cases e : i = n
    · subst e
      cases q : f i
      · rfl
      · rw [if_pos q] at h1; omega
    · exact ih (by omega) i (by omega)
/-- one with the least, of some -/
theorem arg_min (P : Nat → Prop) (v : Nat → Int) : ∀ n : Nat, (∃ i, i < n ∧ P i) → ∃ i, i < n ∧ P i ∧ ∀ j, j < n → P j → v i ≤ v j := by
  intro n
  induction n with
  | zero => rintro ⟨i, hi, -⟩; omega
  | succ n ih =>
    rintro ⟨i, hi, hP⟩
    by_cases q : ∃ i, i < n ∧ P i
    · obtain ⟨k, hk, hPk, hm⟩ := ih q
      by_cases r : P n ∧ v n < v k
      · refine ⟨n, by omega, r.1, fun j hj hPj => ?_⟩
        by_cases e : j = n
        · rw [e]; exact Int.le_refl _
        · have := hm j (by omega) hPj; omega
      · refine ⟨k, by omega, hPk, fun j hj hPj => ?_⟩
        by_cases e : j = n
        · rw [e] at hPj ⊢
          exact Int.not_lt.mp (fun s => r ⟨hPj, s⟩)
        · exact hm j (by omega) hPj
    · have e : i = n := by
        by_cases e : i = n
        · exact e
        · exact absurd ⟨i, by omega, hP⟩ q
      refine ⟨i, hi, hP, fun j hj hPj => ?_⟩
      by_cases e2 : j = n
      · rw [e2, e]; exact Int.le_refl _
      · exact absurd ⟨j, by omega, hPj⟩ q
def uA1 (f : Nat → Int) (k : Nat) (v : Int) : Nat → Int := fun j => if j = k then v else f j
theorem uA1_at (f : Nat → Int) (k : Nat) (v : Int) : uA1 f k v k = v := if_pos rfl
theorem uA1_ne {f : Nat → Int} {k j : Nat} (v : Int) (h : ¬ j = k) : uA1 f k v j = f j := if_neg h
/-- the least first day of TAKEN that nothing bars -/
theorem fin_xf {D : Dt} {X L : Xs} (hL : Good D L) (hB : BsX D X) (hX : LeX D X L) {c : Nat} (hc : dA D c = true) (hs : ∀ d, dA D d = true → dg D d = dg D c → ∀ f, f < 8 → dS D d f → dff D f ≤ xf X (dg D c)) (hh : ∀ d, dA D d = true → dg D d = dg D c → ∀ f, f < 8 → dH D d f → ¬ (dff D f ≤ xf X (dg D c) ∧ xf X (dg D c) ≤ dft D f)) : xf X (dg D c) = xf L (dg D c) := by
  have hle := (hX c hc).1
  have hS : Sol D (uA1 L.1 (dg D c) (xf X (dg D c)), L.2) := by
    refine ⟨fun d hd => ?_, fun d hd => ?_⟩
    · have b := hL.1.1 d hd
      refine ⟨?_, b.2.1, b.2.2.1, b.2.2.2⟩
      show 0 ≤ uA1 L.1 (dg D c) (xf X (dg D c)) (dg D d)
      by_cases e : dg D d = dg D c
      · rw [e, uA1_at]; exact (hB c hc).1
      · rw [uA1_ne _ e]; exact b.1
    · obtain ⟨b1, b2, b3, b4⟩ := hL.1.2 d hd
      refine ⟨?_, b2, fun f hf => ?_, b4⟩
      · show uA1 L.1 (dg D c) (xf X (dg D c)) (dg D d) ≤ yf L d
        by_cases e : dg D d = dg D c
        · rw [e, uA1_at]; rw [e] at b1; omega
        · rw [uA1_ne _ e]; exact b1
      · have b := b3 f hf
        by_cases e : dg D d = dg D c
        · have e2 : xf (uA1 L.1 (dg D c) (xf X (dg D c)), L.2) (dg D d) = xf X (dg D c) := by
            show uA1 L.1 (dg D c) (xf X (dg D c)) (dg D d) = _
            rw [e, uA1_at]
          refine ⟨fun q => ⟨by rw [e2]; exact hs d hd e f hf q, (b.1 q).2⟩, fun q => ⟨by rw [e2]; exact hh d hd e f hf q, (b.2 q).2⟩⟩
        · have e2 : xf (uA1 L.1 (dg D c) (xf X (dg D c)), L.2) (dg D d) = xf L (dg D d) := uA1_ne _ e
          refine ⟨fun q => ⟨by rw [e2]; exact (b.1 q).1, (b.1 q).2⟩, fun q => ⟨by rw [e2]; exact (b.2 q).1, (b.2 q).2⟩⟩
  have h2 : xf L (dg D c) ≤ uA1 L.1 (dg D c) (xf X (dg D c)) (dg D c) := (hL.2.2 _ hS c hc).1
  rw [uA1_at] at h2
  omega
theorem fin_xt {D : Dt} {X L : Xs} (hL : Good D L) (hB : BsX D X) (hX : LeX D X L) {c : Nat} (hc : dA D c = true) (hp : ∀ d, dA D d = true → dg D d = dg D c → xt X (dg D c) ≤ yt L d) (hs : ∀ d, dA D d = true → dg D d = dg D c → ∀ f, f < 8 → dS D d f → xt X (dg D c) ≤ dft D f) (hh : ∀ d, dA D d = true → dg D d = dg D c → ∀ f, f < 8 → dH D d f → ¬ (dff D f ≤ xt X (dg D c) ∧ xt X (dg D c) ≤ dft D f)) : xt X (dg D c) = xt L (dg D c) := by
  have hle := (hX c hc).2.1
  have hS : Sol D (L.1, uA1 L.2.1 (dg D c) (xt X (dg D c)), L.2.2) := by
    refine ⟨fun d hd => ?_, fun d hd => ?_⟩
    · have b := hL.1.1 d hd
      refine ⟨b.1, ?_, b.2.2.1, b.2.2.2⟩
      show uA1 L.2.1 (dg D c) (xt X (dg D c)) (dg D d) ≤ 20000
      by_cases e : dg D d = dg D c
      · rw [e, uA1_at]; exact (hB c hc).2.1
      · rw [uA1_ne _ e]; exact b.2.1
    · obtain ⟨b1, b2, b3, b4⟩ := hL.1.2 d hd
      refine ⟨b1, ?_, fun f hf => ?_, b4⟩
      · show uA1 L.2.1 (dg D c) (xt X (dg D c)) (dg D d) ≤ yt L d
        by_cases e : dg D d = dg D c
        · rw [e, uA1_at]; exact hp d hd e
        · rw [uA1_ne _ e]; exact b2
      · have b := b3 f hf
        by_cases e : dg D d = dg D c
        · have e2 : xt (L.1, uA1 L.2.1 (dg D c) (xt X (dg D c)), L.2.2) (dg D d) = xt X (dg D c) := by
            show uA1 L.2.1 (dg D c) (xt X (dg D c)) (dg D d) = _
            rw [e, uA1_at]
          refine ⟨fun q => ⟨(b.1 q).1, by rw [e2]; exact hs d hd e f hf q⟩, fun q => ⟨(b.2 q).1, by rw [e2]; exact hh d hd e f hf q⟩⟩
        · have e2 : xt (L.1, uA1 L.2.1 (dg D c) (xt X (dg D c)), L.2.2) (dg D d) = xt L (dg D d) := uA1_ne _ e
          refine ⟨fun q => ⟨(b.1 q).1, by rw [e2]; exact (b.1 q).2⟩, fun q => ⟨(b.2 q).1, by rw [e2]; exact (b.2 q).2⟩⟩
  have h2 : uA1 L.2.1 (dg D c) (xt X (dg D c)) (dg D c) ≤ xt L (dg D c) := (hL.2.2 _ hS c hc).2.1
  rw [uA1_at] at h2
  omega
/-- what holds the first day of PUBLISHED where it is -/
theorem sup_yf {D : Dt} {L : Xs} (hL : Good D L) {c : Nat} (hc : dA D c = true) : (∃ v, dI D c v ∧ v = yf L c) ∨ xf L (dg D c) = yf L c ∨ ∃ b, dA D b = true ∧ dL D c b ∧ yf L b + 1 = yf L c := by
  by_cases q1 : ∃ v, dI D c v ∧ v = yf L c
  · exact Or.inl q1
  · by_cases q2 : xf L (dg D c) = yf L c
    · exact Or.inr (Or.inl q2)
    · by_cases q3 : ∃ b, dA D b = true ∧ dL D c b ∧ yf L b + 1 = yf L c
      · exact Or.inr (Or.inr q3)
      · exfalso
        have hS : Sol D (L.1, L.2.1, uA1 L.2.2.1 c (yf L c - 1), L.2.2.2) := by
          refine ⟨fun d hd => ?_, fun d hd => ?_⟩
          · have b := hL.1.1 d hd
            refine ⟨b.1, b.2.1, fun v hv => ?_, b.2.2.2⟩
            show v ≤ uA1 L.2.2.1 c (yf L c - 1) d
            by_cases e : d = c
            · rw [e, uA1_at]
              have h1 := b.2.2.1 v hv
              have h2 : ¬ v = yf L c := fun h => q1 ⟨v, by rw [← e]; exact hv, h⟩
              rw [e] at h1; omega
            · rw [uA1_ne _ e]; exact b.2.2.1 v hv
          · obtain ⟨b1, b2, b3, b4⟩ := hL.1.2 d hd
            refine ⟨?_, b2, b3, fun b hb hl => ⟨?_, (b4 b hb hl).2⟩⟩
            · show xf L (dg D d) ≤ uA1 L.2.2.1 c (yf L c - 1) d
              by_cases e : d = c
              · rw [e, uA1_at]; rw [e] at b1; omega
              · rw [uA1_ne _ e]; exact b1
            · show uA1 L.2.2.1 c (yf L c - 1) b + 1 ≤ uA1 L.2.2.1 c (yf L c - 1) d
              have h1 := (b4 b hb hl).1
              by_cases e : d = c
              · have h2 : ¬ yf L b + 1 = yf L c := fun h => q3 ⟨b, hb, by rw [← e]; exact hl, h⟩
                rw [e] at h1
                rw [e, uA1_at]
                by_cases e2 : b = c
                · rw [e2] at h1; omega
                · rw [uA1_ne _ e2]
                  have h3 : L.2.2.1 b = yf L b := rfl
                  omega
              · rw [uA1_ne _ e]
                have h3 : L.2.2.1 d = yf L d := rfl
                by_cases e2 : b = c
                · rw [e2, uA1_at]; rw [e2] at h1; omega
                · rw [uA1_ne _ e2]
                  have h4 : L.2.2.1 b = yf L b := rfl
                  omega
        have h2 : yf L c ≤ uA1 L.2.2.1 c (yf L c - 1) c := (hL.2.2 _ hS c hc).2.2.1
        rw [uA1_at] at h2
        omega
theorem sup_yt {D : Dt} {L : Xs} (hL : Good D L) {c : Nat} (hc : dA D c = true) : (∃ v, dJ D c v ∧ v = yt L c) ∨ ∃ b, dA D b = true ∧ dL D b c ∧ yt L c = yt L b - 1 := by
  by_cases q1 : ∃ v, dJ D c v ∧ v = yt L c
  · exact Or.inl q1
  · by_cases q3 : ∃ b, dA D b = true ∧ dL D b c ∧ yt L c = yt L b - 1
    · exact Or.inr q3
    · exfalso
      have hS : Sol D (L.1, L.2.1, L.2.2.1, uA1 L.2.2.2 c (yt L c + 1)) := by
        refine ⟨fun d hd => ?_, fun d hd => ?_⟩
        · have b := hL.1.1 d hd
          refine ⟨b.1, b.2.1, b.2.2.1, fun v hv => ?_⟩
          show uA1 L.2.2.2 c (yt L c + 1) d ≤ v
          by_cases e : d = c
          · rw [e, uA1_at]
            have h1 := b.2.2.2 v hv
            have h2 : ¬ v = yt L c := fun h => q1 ⟨v, by rw [← e]; exact hv, h⟩
            rw [e] at h1; omega
          · rw [uA1_ne _ e]; exact b.2.2.2 v hv
        · obtain ⟨b1, b2, b3, b4⟩ := hL.1.2 d hd
          refine ⟨b1, ?_, b3, fun b hb hl => ⟨(b4 b hb hl).1, ?_⟩⟩
          · show xt L (dg D d) ≤ uA1 L.2.2.2 c (yt L c + 1) d
            by_cases e : d = c
            · rw [e, uA1_at]; rw [e] at b2; omega
            · rw [uA1_ne _ e]; exact b2
          · show uA1 L.2.2.2 c (yt L c + 1) b ≤ uA1 L.2.2.2 c (yt L c + 1) d - 1
            have h1 := (b4 b hb hl).2
            by_cases e : b = c
            · have h2 : ¬ yt L c = yt L d - 1 := fun h => q3 ⟨d, hd, by rw [← e]; exact hl, h⟩
              rw [e] at h1
              rw [e, uA1_at]
              by_cases e2 : d = c
              · rw [e2] at h1; omega
              · rw [uA1_ne _ e2]
                have h3 : L.2.2.2 d = yt L d := rfl
                omega
            · rw [uA1_ne _ e]
              have h3 : L.2.2.2 b = yt L b := rfl
              by_cases e2 : d = c
              · rw [e2, uA1_at]; rw [e2] at h1; omega
              · rw [uA1_ne _ e2]
                have h4 : L.2.2.2 d = yt L d := rfl
                omega
      have h2 : uA1 L.2.2.2 c (yt L c + 1) c ≤ yt L c := (hL.2.2 _ hS c hc).2.2.2
      rw [uA1_at] at h2
      omega

def nfB (D : Dt) (v w : Nat → Int) (c : Nat) : Bool := dA D c && !decide (v c = w c)
theorem nf_t {D : Dt} {v w : Nat → Int} {c : Nat} (h : dA D c = true) (h2 : ¬ v c = w c) : nfB D v w c = true := by unfold nfB; rw [h, decide_eq_false h2]; rfl
theorem nf_f {D : Dt} {v w : Nat → Int} {c : Nat} (h2 : v c = w c) : nfB D v w c = false := by unfold nfB; rw [decide_eq_true h2]; cases dA D c <;> rfl
theorem nf_i {D : Dt} {v w : Nat → Int} {c : Nat} (h : nfB D v w c = true) : dA D c = true ∧ ¬ v c = w c := by
  unfold nfB at h
  simp only [Bool.and_eq_true, Bool.not_eq_true', decide_eq_false_iff_not] at h
  exact h
theorem nf_0 {D : Dt} {v w : Nat → Int} (h : cp (nfB D v w) 20 = 0) {c : Nat} (hc : dA D c = true) (h20 : c < 20) : v c = w c := by
  have q := cp_0 20 h c h20
  by_cases e : v c = w c
  · exact e
  · rw [nf_t hc e] at q; cases q
theorem nf_ex {D : Dt} {v w : Nat → Int} (h : ¬ cp (nfB D v w) 20 = 0) : ∃ i, i < 20 ∧ nfB D v w i = true := by
  by_cases q : ∃ i, i < 20 ∧ nfB D v w i = true
  · exact q
  · exfalso
    apply h
    have : ∀ n : Nat, n ≤ 20 → cp (nfB D v w) n = 0 := by
      intro n
      induction n with
      | zero => intro _; rfl
      | succ n ih =>
        intro hn
        show cp (nfB D v w) n + (if nfB D v w n = true then 1 else 0) = 0
        rw [ih (by omega), if_neg (fun e => q ⟨n, by omega, e⟩)]
    exact this 20 (Nat.le_refl _)
theorem tr_A {D : Dt} {X0 L : Xs} (hL : Good D L) (hB : BsX D X0) (h0 : LeX D X0 L) : ∀ (n : Nat) (X : Xs), TrX D X0 (n + 1) X → (∀ c, dA D c = true → ∀ f, f < 8 → dS D c f → dff D f ≤ xf X (dg D c) ∧ xt X (dg D c) ≤ dft D f) ∧ ∀ c, dA D c = true → xf X (dg D c) = xf L (dg D c) ∨ n ≤ cp (fun f => decide (dft D f < xf X (dg D c))) 8 := by
  intro n
  induction n with
  | zero =>
    rintro X ⟨W, hW, hR, -⟩
    exact ⟨fun c hc f hf => (((hR.2 c hc).1.2.2 f hf).1), fun c hc => Or.inr (Nat.zero_le _)⟩
  | succ n ih =>
    rintro X ⟨W, hW, hR, -⟩
    refine ⟨fun c hc f hf => (((hR.2 c hc).1.2.2 f hf).1), fun c hc => ?_⟩
    obtain ⟨i1, i2⟩ := ih W hW
    have hWL := tr_le hL.1 h0 _ W hW
    have hXL : LeX D X L := hR.1.2 L hL.1 hWL.2
    have hWX := hR.1.1
    by_cases e : xf W (dg D c) = xf L (dg D c)
    · have a := (hWX c hc).1
      have b := (hXL c hc).1
      exact Or.inl (by omega)
    · refine Or.inr ?_
      have hn := (i2 c hc).resolve_left e
      by_cases q : ∃ d, dA D d = true ∧ dg D d = dg D c ∧ ∃ f, f < 8 ∧ dH D d f ∧ dff D f ≤ xf W (dg D c) ∧ xf W (dg D c) ≤ dft D f
      · obtain ⟨d, hd, hdg, f, hf, hH, h1, h2⟩ := q
        have h3 := ((((hR.2 d hd).1.2.2 f hf).2 hH).1 (by rw [hdg]; exact h1) (by rw [hdg]; exact h2))
        rw [hdg] at h3
        have := cp_lt (f := fun f => decide (dft D f < xf W (dg D c))) (g := fun f => decide (dft D f < xf X (dg D c))) 8 (fun i _ hi => by
          have a := (hWX c hc).1
          have b := of_decide_eq_true hi
          exact decide_eq_true (by omega)) f hf (decide_eq_false (by omega)) (decide_eq_true (by omega))
        omega
      · exact absurd (fin_xf hL (hB.up hWL.1) hWL.2 hc (fun d hd hg f hf hs => by rw [← hg]; exact (i1 d hd f hf hs).1) (fun d hd hg f hf hh h => q ⟨d, hd, hg, f, hf, hh, h.1, h.2⟩)) e
theorem tr_xf {D : Dt} {X0 L : Xs} (hL : Good D L) (hB : BsX D X0) (h0 : LeX D X0 L) {n : Nat} {X : Xs} (h : TrX D X0 n X) (hn : 10 ≤ n) {c : Nat} (hc : dA D c = true) : xf X (dg D c) = xf L (dg D c) := by
  obtain ⟨k, rfl⟩ : ∃ k, n = k + 1 := ⟨n - 1, by omega⟩
  rcases (tr_A hL hB h0 k X h).2 c hc with q | q
  · exact q
  · have := cp_le (fun f => decide (dft D f < xf X (dg D c))) 8
    omega
theorem tr_C {D : Dt} {X0 L : Xs} (h20 : ∀ c, dA D c = true → c < 20) (hL : Good D L) (hB : BsX D X0) (h0 : LeX D X0 L) : ∀ (n : Nat) (X : Xs), TrX D X0 n X → cp (nfB D (yt X) (yt L)) 20 + n ≤ 20 ∨ cp (nfB D (yt X) (yt L)) 20 = 0 := by
  intro n
  induction n with
  | zero => intro X _; exact Or.inl (cp_le _ _)
  | succ n ih =>
    rintro X ⟨W, hW, hR, -⟩
    have hWL := tr_le hL.1 h0 _ W hW
    have hXL : LeX D X L := hR.1.2 L hL.1 hWL.2
    have keep : ∀ i, i < 20 → nfB D (yt X) (yt L) i = true → nfB D (yt W) (yt L) i = true := by
      intro i hi h
      obtain ⟨ha, hne⟩ := nf_i h
      refine nf_t ha (fun e => hne ?_)
      have a := (hR.1.1 i ha).2.2.2
      have b := (hXL i ha).2.2.2
      omega
    by_cases z : cp (nfB D (yt W) (yt L)) 20 = 0
    · have := cp_mono 20 keep
      exact Or.inr (by omega)
    · obtain ⟨c, hc20, hcn, hmin⟩ := arg_min (fun i => nfB D (yt W) (yt L) i = true) (fun i => - yt L i) 20 (nf_ex z)
      obtain ⟨hc, hne⟩ := nf_i hcn
      have hf : yt X c = yt L c := by
        have b := (hXL c hc).2.2.2
        have bw := (hWL.2 c hc).2.2.2
        rcases sup_yt hL hc with ⟨v, hv, e⟩ | ⟨b2, hb2, hl, e⟩
        · have a := ((hB.up hWL.1) c hc).2.2.2 v hv
          exact absurd (by omega) hne
        · have fb : yt W b2 = yt L b2 := by
            by_cases q : yt W b2 = yt L b2
            · exact q
            · have := hmin b2 (h20 b2 hb2) (nf_t hb2 q)
              omega
          have a := ((hR.2 b2 hb2).2 c hc hl).2
          omega
      have := cp_lt 20 keep c hc20 (nf_f hf) hcn
      rcases ih W hW with q | q
      · exact Or.inl (by omega)
      · exact absurd q z
theorem tr_yt {D : Dt} {X0 L : Xs} (h20 : ∀ c, dA D c = true → c < 20) (hL : Good D L) (hB : BsX D X0) (h0 : LeX D X0 L) {n : Nat} {X : Xs} (h : TrX D X0 n X) (hn : 20 ≤ n) {c : Nat} (hc : dA D c = true) : yt X c = yt L c := by
  refine nf_0 (D := D) ?_ hc (h20 c hc)
  rcases tr_C h20 hL hB h0 n X h with q | q
  · omega
  · exact q
theorem tr_B {D : Dt} {X0 L : Xs} (h20 : ∀ c, dA D c = true → c < 20) (hL : Good D L) (hB : BsX D X0) (h0 : LeX D X0 L) : ∀ (n : Nat) (X : Xs), TrX D X0 (10 + n) X → cp (nfB D (yf X) (yf L)) 20 + n ≤ 20 ∨ cp (nfB D (yf X) (yf L)) 20 = 0 := by
  intro n
  induction n with
  | zero => intro X _; exact Or.inl (cp_le _ _)
  | succ n ih =>
    rintro X ⟨W, hW, hR, -⟩
    have hWL := tr_le hL.1 h0 _ W hW
    have hXL : LeX D X L := hR.1.2 L hL.1 hWL.2
    have keep : ∀ i, i < 20 → nfB D (yf X) (yf L) i = true → nfB D (yf W) (yf L) i = true := by
      intro i hi h
      obtain ⟨ha, hne⟩ := nf_i h
      refine nf_t ha (fun e => hne ?_)
      have a := (hR.1.1 i ha).2.2.1
      have b := (hXL i ha).2.2.1
      omega
    by_cases z : cp (nfB D (yf W) (yf L)) 20 = 0
    · have := cp_mono 20 keep
      exact Or.inr (by omega)
    · obtain ⟨c, hc20, hcn, hmin⟩ := arg_min (fun i => nfB D (yf W) (yf L) i = true) (fun i => yf L i) 20 (nf_ex z)
      obtain ⟨hc, hne⟩ := nf_i hcn
      have hf : yf X c = yf L c := by
        have b := (hXL c hc).2.2.1
        have bw := (hWL.2 c hc).2.2.1
        rcases sup_yf hL hc with ⟨v, hv, e⟩ | e | ⟨b2, hb2, hl, e⟩
        · have a := ((hB.up hWL.1) c hc).2.2.1 v hv
          exact absurd (by omega) hne
        · have a := (hR.2 c hc).1.1
          have a2 := tr_xf hL hB h0 (n := 10 + n) hW (by omega) hc
          omega
        · have fb : yf W b2 = yf L b2 := by
            by_cases q : yf W b2 = yf L b2
            · exact q
            · have := hmin b2 (h20 b2 hb2) (nf_t hb2 q)
              omega
          have a := ((hR.2 c hc).2 b2 hb2 hl).1
          omega
      have := cp_lt 20 keep c hc20 (nf_f hf) hcn
      rcases ih W hW with q | q
      · exact Or.inl (by omega)
      · exact absurd q z
theorem tr_yf {D : Dt} {X0 L : Xs} (h20 : ∀ c, dA D c = true → c < 20) (hL : Good D L) (hB : BsX D X0) (h0 : LeX D X0 L) {n : Nat} {X : Xs} (h : TrX D X0 n X) (hn : 30 ≤ n) {c : Nat} (hc : dA D c = true) : yf X c = yf L c := by
  obtain ⟨k, rfl⟩ : ∃ k, n = 10 + k := ⟨n - 10, by omega⟩
  refine nf_0 (D := D) ?_ hc (h20 c hc)
  rcases tr_B h20 hL hB h0 k X h with q | q
  · omega
  · exact q
theorem tr_D {D : Dt} {X0 L : Xs} (h20 : ∀ c, dA D c = true → c < 20) (hL : Good D L) (hB : BsX D X0) (h0 : LeX D X0 L) : ∀ (n : Nat) (X : Xs), TrX D X0 (21 + n) X → ∀ c, dA D c = true → xt X (dg D c) = xt L (dg D c) ∨ n ≤ cp (fun f => decide (xt X (dg D c) < dff D f)) 8 := by
  intro n
  induction n with
  | zero => intro X _ c _; exact Or.inr (Nat.zero_le _)
  | succ n ih =>
    rintro X ⟨W, hW, hR, -⟩ c hc
    have hWL := tr_le hL.1 h0 _ W hW
    have hXL : LeX D X L := hR.1.2 L hL.1 hWL.2
    have hWX := hR.1.1
    by_cases e : xt W (dg D c) = xt L (dg D c)
    · have a := (hWX c hc).2.1
      have b := (hXL c hc).2.1
      exact Or.inl (by omega)
    · refine Or.inr ?_
      have hn := (ih W hW c hc).resolve_left e
      have hW2 : TrX D X0 (20 + n + 1) W := by rw [show 20 + n + 1 = 21 + n by omega]; exact hW
      obtain ⟨V, hV, hRV, -⟩ := id hW2
      by_cases q : ∃ d, dA D d = true ∧ dg D d = dg D c ∧ ∃ f, f < 8 ∧ dH D d f ∧ dff D f ≤ xt W (dg D c) ∧ xt W (dg D c) ≤ dft D f
      · obtain ⟨d, hd, hdg, f, hf, hH, h1, h2⟩ := q
        have h3 := ((((hR.2 d hd).1.2.2 f hf).2 hH).2 (by rw [hdg]; exact h1) (by rw [hdg]; exact h2))
        rw [hdg] at h3
        have := cp_lt (f := fun f => decide (xt W (dg D c) < dff D f)) (g := fun f => decide (xt X (dg D c) < dff D f)) 8 (fun i _ hi => by
          have a := (hWX c hc).2.1
          have b := of_decide_eq_true hi
          exact decide_eq_true (by omega)) f hf (decide_eq_false (by omega)) (decide_eq_true (by omega))
        omega
      · exact absurd (fin_xt hL (hB.up hWL.1) hWL.2 hc (fun d hd hg => by
          have a := (hRV.2 d hd).1.2.1
          have b := tr_yt h20 hL hB h0 hV (by omega) hd
          rw [hg] at a
          omega) (fun d hd hg f hf hs => by rw [← hg]; exact ((tr_A hL hB h0 _ W hW2).1 d hd f hf hs).2) (fun d hd hg f hf hh h => q ⟨d, hd, hg, f, hf, hh, h.1, h.2⟩)) e
theorem tr_xt {D : Dt} {X0 L : Xs} (h20 : ∀ c, dA D c = true → c < 20) (hL : Good D L) (hB : BsX D X0) (h0 : LeX D X0 L) {n : Nat} {X : Xs} (h : TrX D X0 n X) (hn : 30 ≤ n) {c : Nat} (hc : dA D c = true) : xt X (dg D c) = xt L (dg D c) := by
  obtain ⟨k, rfl⟩ : ∃ k, n = 21 + k := ⟨n - 21, by omega⟩
  rcases tr_D h20 hL hB h0 k X h c hc with q | q
  · exact q
  · have := cp_le (fun f => decide (xt X (dg D c) < dff D f)) 8
    omega
/-- more than 30 rounds don't change anything -/
theorem tr_no {D : Dt} {X0 L : Xs} (h20 : ∀ c, dA D c = true → c < 20) (hL : Good D L) (hB : BsX D X0) (h0 : LeX D X0 L) {X : Xs} (h : TrX D X0 32 X) : False := by
  obtain ⟨W, hW, -, -⟩ := h
  obtain ⟨V, hV, hR, c, hc, hs⟩ := hW
  have hVL := tr_le hL.1 h0 _ V hV
  have b := (hR.1.2 L hL.1 hVL.2) c hc
  have a1 := tr_xf hL hB h0 (n := 30) hV (by omega) hc
  have a2 := tr_xt h20 hL hB h0 (n := 30) hV (by omega) hc
  have a3 := tr_yf h20 hL hB h0 (n := 30) hV (by omega) hc
  have a4 := tr_yt h20 hL hB h0 (n := 30) hV (by omega) hc
  omega
/-! spans in the machine's cells -/
def nbT (pa fl : Nat) (σ : Sg) (i : Nat) (d : Int32) : Sg := bif decide (d ≤ σ.2.2.1 pa i) then σ else uI (uA σ pa (upd (σ.2.2.1 pa) i d)) fl 1
def nhT (pa fl : Nat) (σ : Sg) (i : Nat) (d : Int32) : Sg := bif decide (σ.2.2.1 pa i ≤ d) then σ else uI (uA σ pa (upd (σ.2.2.1 pa) i d)) fl 1
theorem nb_t {pa fl : Nat} {σ : Sg} {i : Nat} {d : Int32} (h : d ≤ σ.2.2.1 pa i) : nbT pa fl σ i d = σ := by unfold nbT; rw [decide_eq_true h]; rfl
theorem nb_f {pa fl : Nat} {σ : Sg} {i : Nat} {d : Int32} (h : ¬ d ≤ σ.2.2.1 pa i) : nbT pa fl σ i d = uI (uA σ pa (upd (σ.2.2.1 pa) i d)) fl 1 := by unfold nbT; rw [decide_eq_false h]; rfl
theorem nh_t {pa fl : Nat} {σ : Sg} {i : Nat} {d : Int32} (h : σ.2.2.1 pa i ≤ d) : nhT pa fl σ i d = σ := by unfold nhT; rw [decide_eq_true h]; rfl
theorem nh_f {pa fl : Nat} {σ : Sg} {i : Nat} {d : Int32} (h : ¬ σ.2.2.1 pa i ≤ d) : nhT pa fl σ i d = uI (uA σ pa (upd (σ.2.2.1 pa) i d)) fl 1 := by unfold nhT; rw [decide_eq_false h]; rfl
theorem ua_o {σ : Sg} {pa q fl : Nat} {f : Nat → Int32} {v : Int32} (h : ¬ q = pa) : (uI (uA σ pa f) fl v).2.2.1 q = σ.2.2.1 q := up_ne _ h
theorem ua_a {σ : Sg} {pa fl : Nat} {f : Nat → Int32} {v : Int32} : (uI (uA σ pa f) fl v).2.2.1 pa = f := up_at _ _ _
theorem ua_i {σ : Sg} {pa fl m : Nat} {f : Nat → Int32} {v : Int32} (h : ¬ m = fl) : (uI (uA σ pa f) fl v).1 m = σ.1 m := up_ne _ h
theorem ua_f {σ : Sg} {pa fl : Nat} {f : Nat → Int32} {v : Int32} : (uI (uA σ pa f) fl v).1 fl = v := up_at _ _ _
/-- what is so behind a narrowing: others are as they were; the cell; whether it has changed -/
def Op (pa fl : Nat) (σ τ : Sg) (i : Nat) (old new : Int) : Prop := (∀ q, ¬ q = pa → τ.2.2.1 q = σ.2.2.1 q) ∧ (∀ j, ¬ j = i → τ.2.2.1 pa j = σ.2.2.1 pa j) ∧ (σ.2.2.1 pa i).toInt = old ∧ (τ.2.2.1 pa i).toInt = new ∧ (∀ m, ¬ m = fl → τ.1 m = σ.1 m) ∧ (τ.1 fl = σ.1 fl ∧ τ.2.2.1 pa = σ.2.2.1 pa ∧ old = new ∨ τ.1 fl = 1 ∧ ¬ old = new)
theorem nb_op (pa fl : Nat) (σ : Sg) (i : Nat) (d : Int32) : ∃ v, Op pa fl σ (nbT pa fl σ i d) i (σ.2.2.1 pa i).toInt v ∧ (σ.2.2.1 pa i).toInt ≤ v ∧ d.toInt ≤ v ∧ (v = (σ.2.2.1 pa i).toInt ∨ v = d.toInt) := by
  by_cases h : d ≤ σ.2.2.1 pa i
  · rw [nb_t h]
    exact ⟨_, ⟨fun _ _ => rfl, fun _ _ => rfl, rfl, rfl, fun _ _ => rfl, Or.inl ⟨rfl, rfl, rfl⟩⟩, Int.le_refl _, ti_le h, Or.inl rfl⟩
  · rw [nb_f h]
    have q := ti_nle h
    refine ⟨d.toInt, ⟨fun q hq => ua_o hq, fun j hj => by rw [ua_a]; exact upd_ne _ hj, rfl, by rw [ua_a, upd_at], fun m hm => ua_i hm, Or.inr ⟨ua_f, by omega⟩⟩, by omega, Int.le_refl _, Or.inr rfl⟩
theorem nh_op (pa fl : Nat) (σ : Sg) (i : Nat) (d : Int32) : ∃ v, Op pa fl σ (nhT pa fl σ i d) i (σ.2.2.1 pa i).toInt v ∧ v ≤ (σ.2.2.1 pa i).toInt ∧ v ≤ d.toInt ∧ (v = (σ.2.2.1 pa i).toInt ∨ v = d.toInt) := by
  by_cases h : σ.2.2.1 pa i ≤ d
  · rw [nh_t h]
    exact ⟨_, ⟨fun _ _ => rfl, fun _ _ => rfl, rfl, rfl, fun _ _ => rfl, Or.inl ⟨rfl, rfl, rfl⟩⟩, Int.le_refl _, ti_le h, Or.inl rfl⟩
  · rw [nh_f h]
    have q := ti_nle h
    refine ⟨d.toInt, ⟨fun q hq => ua_o hq, fun j hj => by rw [ua_a]; exact upd_ne _ hj, rfl, by rw [ua_a, upd_at], fun m hm => ua_i hm, Or.inr ⟨ua_f, by omega⟩⟩, by omega, Int.le_refl _, Or.inr rfl⟩
def BnX (D : Dt) (X : Xs) (m : Int) : Prop := ∀ c, dA D c = true → xf X (dg D c) ≤ 20000 + m ∧ -m ≤ xt X (dg D c) ∧ yf X c ≤ 20000 + m ∧ -m ≤ yt X c
theorem BnX.up {D : Dt} {X : Xs} {m k : Int} (h : BnX D X m) (hk : m ≤ k) : BnX D X k := fun c hc => by
  have a := h c hc
  exact ⟨by omega, by omega, by omega, by omega⟩
theorem ScX.dn {D : Dt} {X Y Z : Xs} (k : LeX D X Y) (h : ScX D Y Z) : ScX D X Z := by
  obtain ⟨c, hc, h⟩ := h
  have b := k c hc
  exact ⟨c, hc, by omega⟩
/-- four ways to narrow -/
theorem nwx_1 {D : Dt} {X Y : Xs} {c : Nat} {d m : Int} (h1 : ∀ j, ¬ j = dg D c → xf Y j = xf X j) (h2 : xf X (dg D c) ≤ xf Y (dg D c)) (h3 : xf Y (dg D c) = xf X (dg D c) ∨ xf Y (dg D c) = d) (h4 : ∀ j, xt Y j = xt X j) (h5 : ∀ j, yf Y j = yf X j) (h6 : ∀ j, yt Y j = yt X j) (hv : ∀ Z, Sol D Z → LeX D X Z → d ≤ xf Z (dg D c)) (hc : dA D c = true) : NwX D X Y ∧ (d ≤ 20000 + m → BnX D X m → BnX D Y m) := by
  refine ⟨⟨fun e he => ?_, fun Z hZ hle e he => ?_⟩, fun hd hB e he => ?_⟩
  · rw [h4, h5, h6]
    by_cases q : dg D e = dg D c
    · rw [q]; exact ⟨h2, Int.le_refl _, Int.le_refl _, Int.le_refl _⟩
    · rw [h1 _ q]; exact ⟨Int.le_refl _, Int.le_refl _, Int.le_refl _, Int.le_refl _⟩
  · have a := hle e he
    rw [h4, h5, h6]
    refine ⟨?_, a.2.1, a.2.2.1, a.2.2.2⟩
    by_cases q : dg D e = dg D c
    · have b := hv Z hZ hle
      have a1 := (hle c hc).1
      rw [q]
      omega
    · rw [h1 _ q]; exact a.1
  · have a := hB e he
    rw [h4, h5, h6]
    refine ⟨?_, a.2.1, a.2.2.1, a.2.2.2⟩
    by_cases q : dg D e = dg D c
    · have a1 := a.1
      rw [q] at a1
      rw [q]
      omega
    · rw [h1 _ q]; exact a.1
theorem nwx_2 {D : Dt} {X Y : Xs} {c : Nat} {d m : Int} (h1 : ∀ j, ¬ j = dg D c → xt Y j = xt X j) (h2 : xt Y (dg D c) ≤ xt X (dg D c)) (h3 : xt Y (dg D c) = xt X (dg D c) ∨ xt Y (dg D c) = d) (h4 : ∀ j, xf Y j = xf X j) (h5 : ∀ j, yf Y j = yf X j) (h6 : ∀ j, yt Y j = yt X j) (hv : ∀ Z, Sol D Z → LeX D X Z → xt Z (dg D c) ≤ d) (hc : dA D c = true) : NwX D X Y ∧ (-m ≤ d → BnX D X m → BnX D Y m) := by
  refine ⟨⟨fun e he => ?_, fun Z hZ hle e he => ?_⟩, fun hd hB e he => ?_⟩
  · rw [h4, h5, h6]
    by_cases q : dg D e = dg D c
    · rw [q]; exact ⟨Int.le_refl _, h2, Int.le_refl _, Int.le_refl _⟩
    · rw [h1 _ q]; exact ⟨Int.le_refl _, Int.le_refl _, Int.le_refl _, Int.le_refl _⟩
  · have a := hle e he
    rw [h4, h5, h6]
    refine ⟨a.1, ?_, a.2.2.1, a.2.2.2⟩
    by_cases q : dg D e = dg D c
    · have b := hv Z hZ hle
      have a1 := (hle c hc).2.1
      rw [q]
      omega
    · rw [h1 _ q]; exact a.2.1
  · have a := hB e he
    rw [h4, h5, h6]
    refine ⟨a.1, ?_, a.2.2.1, a.2.2.2⟩
    by_cases q : dg D e = dg D c
    · have a1 := a.2.1
      rw [q] at a1
      rw [q]
      omega
    · rw [h1 _ q]; exact a.2.1
theorem nwx_3 {D : Dt} {X Y : Xs} {c : Nat} {d m : Int} (h1 : ∀ j, ¬ j = c → yf Y j = yf X j) (h2 : yf X c ≤ yf Y c) (h3 : yf Y c = yf X c ∨ yf Y c = d) (h4 : ∀ j, xf Y j = xf X j) (h5 : ∀ j, xt Y j = xt X j) (h6 : ∀ j, yt Y j = yt X j) (hv : ∀ Z, Sol D Z → LeX D X Z → d ≤ yf Z c) (hc : dA D c = true) : NwX D X Y ∧ (d ≤ 20000 + m → BnX D X m → BnX D Y m) := by
  refine ⟨⟨fun e he => ?_, fun Z hZ hle e he => ?_⟩, fun hd hB e he => ?_⟩
  · rw [h4, h5, h6]
    by_cases q : e = c
    · rw [q]; exact ⟨Int.le_refl _, Int.le_refl _, h2, Int.le_refl _⟩
    · rw [h1 _ q]; exact ⟨Int.le_refl _, Int.le_refl _, Int.le_refl _, Int.le_refl _⟩
  · have a := hle e he
    rw [h4, h5, h6]
    refine ⟨a.1, a.2.1, ?_, a.2.2.2⟩
    by_cases q : e = c
    · have b := hv Z hZ hle
      have a1 := (hle c hc).2.2.1
      rw [q]
      omega
    · rw [h1 _ q]; exact a.2.2.1
  · have a := hB e he
    rw [h4, h5, h6]
    refine ⟨a.1, a.2.1, ?_, a.2.2.2⟩
    by_cases q : e = c
    · have a1 := a.2.2.1
      rw [q] at a1
      rw [q]
      omega
    · rw [h1 _ q]; exact a.2.2.1
theorem nwx_4 {D : Dt} {X Y : Xs} {c : Nat} {d m : Int} (h1 : ∀ j, ¬ j = c → yt Y j = yt X j) (h2 : yt Y c ≤ yt X c) (h3 : yt Y c = yt X c ∨ yt Y c = d) (h4 : ∀ j, xf Y j = xf X j) (h5 : ∀ j, xt Y j = xt X j) (h6 : ∀ j, yf Y j = yf X j) (hv : ∀ Z, Sol D Z → LeX D X Z → yt Z c ≤ d) (hc : dA D c = true) : NwX D X Y ∧ (-m ≤ d → BnX D X m → BnX D Y m) := by
  refine ⟨⟨fun e he => ?_, fun Z hZ hle e he => ?_⟩, fun hd hB e he => ?_⟩
  · rw [h4, h5, h6]
    by_cases q : e = c
    · rw [q]; exact ⟨Int.le_refl _, Int.le_refl _, Int.le_refl _, h2⟩
    · rw [h1 _ q]; exact ⟨Int.le_refl _, Int.le_refl _, Int.le_refl _, Int.le_refl _⟩
  · have a := hle e he
    rw [h4, h5, h6]
    refine ⟨a.1, a.2.1, a.2.2.1, ?_⟩
    by_cases q : e = c
    · have b := hv Z hZ hle
      have a1 := (hle c hc).2.2.2
      rw [q]
      omega
    · rw [h1 _ q]; exact a.2.2.2
  · have a := hB e he
    rw [h4, h5, h6]
    refine ⟨a.1, a.2.1, a.2.2.1, ?_⟩
    by_cases q : e = c
    · have a1 := a.2.2.2
      rw [q] at a1
      rw [q]
      omega
    · rw [h1 _ q]; exact a.2.2.2
/-- a hidden feature -/
theorem hid_f {D : Dt} {X Z : Xs} {c f : Nat} (hZ : Sol D Z) (hc : dA D c = true) (hf : f < 8) (hH : dH D c f) (hle : LeX D X Z) (h1 : dff D f ≤ xf X (dg D c)) (h2 : xf X (dg D c) ≤ dft D f) : dft D f + 1 ≤ xf Z (dg D c) := by
  have a := (((hZ.2 c hc).2.2.1 f hf).2 hH).1
  have b := (hle c hc).1
  omega
theorem hid_t {D : Dt} {X Z : Xs} {c f : Nat} (hZ : Sol D Z) (hc : dA D c = true) (hf : f < 8) (hH : dH D c f) (hle : LeX D X Z) (h1 : dff D f ≤ xt X (dg D c)) (h2 : xt X (dg D c) ≤ dft D f) : xt Z (dg D c) ≤ dff D f - 1 := by
  have a := (((hZ.2 c hc).2.2.1 f hf).2 hH).2
  have b := (hle c hc).2.1
  omega
theorem rf_1 {D : Dt} {X Z : Xs} {c f : Nat} (h0 : ¬ dH D c f) (h1 : dff D f ≤ xf Z (dg D c)) (h2 : xt Z (dg D c) ≤ dft D f) : Rf D X Z c f := ⟨fun _ => ⟨h1, h2⟩, fun q => absurd q h0⟩
theorem rf_0 {D : Dt} {X Z : Xs} {c f : Nat} (h0 : ¬ dS D c f) (h1 : dff D f ≤ xf X (dg D c) → xf X (dg D c) ≤ dft D f → dft D f + 1 ≤ xf Z (dg D c)) (h2 : dff D f ≤ xt X (dg D c) → xt X (dg D c) ≤ dft D f → xt Z (dg D c) ≤ dff D f - 1) : Rf D X Z c f := ⟨fun q => absurd q h0, fun _ => ⟨h1, h2⟩⟩
theorem rf_2 {D : Dt} {X Z : Xs} {c f : Nat} (h0 : ¬ dS D c f) (h1 : ¬ dH D c f) : Rf D X Z c f := ⟨fun q => absurd q h0, fun q => absurd q h1⟩
theorem rf_s {D : Dt} {X Y Z : Xs} {c j : Nat} (h : ∀ f, f < j → Rf D X Y c f) (hc : dA D c = true) (k : LeX D Y Z) (hj : Rf D X Z c j) : ∀ f, f < j + 1 → Rf D X Z c f := by
  intro f hf
  by_cases e : f = j
  · rw [e]; exact hj
  · exact (h f (by omega)).up hc k

def XC (σ : Sg) : Xs := (fun g => (σ.2.2.1 87 g).toInt, fun g => (σ.2.2.1 88 g).toInt, fun c => (σ.2.2.1 90 c).toInt, fun c => (σ.2.2.1 91 c).toInt)
def XM (σ : Sg) : Xs := (fun g => (σ.2.2.1 163 g).toInt, fun g => (σ.2.2.1 164 g).toInt, fun c => (σ.2.2.1 165 c).toInt, fun c => (σ.2.2.1 166 c).toInt)
/-- the class: whether something has changed -/
def Fl1 (D : Dt) (σ τ : Sg) : Prop := τ.1 8602 = σ.1 8602 ∧ τ.2.2.1 87 = σ.2.2.1 87 ∧ τ.2.2.1 88 = σ.2.2.1 88 ∨ τ.1 8602 = 1 ∧ ScX D (XC σ) (XC τ)
def Fl2 (D : Dt) (σ τ : Sg) : Prop := τ.1 8902 = σ.1 8902 ∧ τ.2.2.1 90 = σ.2.2.1 90 ∧ τ.2.2.1 91 = σ.2.2.1 91 ∨ τ.1 8902 = 1 ∧ ScX D (XC σ) (XC τ)
def StC (D : Dt) (σ τ : Sg) : Prop := NwX D (XC σ) (XC τ) ∧ Fl1 D σ τ ∧ Fl2 D σ τ ∧ τ.2.2.1 92 = σ.2.2.1 92
theorem StC.rfl' (D : Dt) (σ : Sg) : StC D σ σ := ⟨NwX.rfl' _ _, Or.inl ⟨rfl, rfl, rfl⟩, Or.inl ⟨rfl, rfl, rfl⟩, rfl⟩
theorem StC.tr {D : Dt} {σ τ υ : Sg} (h : StC D σ τ) (k : StC D τ υ) : StC D σ υ := by
  obtain ⟨h1, h2, h3, h4⟩ := h
  obtain ⟨k1, k2, k3, k4⟩ := k
  refine ⟨h1.tr k1, ?_, ?_, k4.trans h4⟩
  · rcases k2 with ⟨a, b, c⟩ | ⟨a, b⟩
    · rcases h2 with ⟨e, f, g⟩ | ⟨e, f⟩
      · exact Or.inl ⟨a.trans e, b.trans f, c.trans g⟩
      · exact Or.inr ⟨a.trans e, f.up k1.1⟩
    · exact Or.inr ⟨a, ScX.dn h1.1 b⟩
  · rcases k3 with ⟨a, b, c⟩ | ⟨a, b⟩
    · rcases h3 with ⟨e, f, g⟩ | ⟨e, f⟩
      · exact Or.inl ⟨a.trans e, b.trans f, c.trans g⟩
      · exact Or.inr ⟨a.trans e, f.up k1.1⟩
    · exact Or.inr ⟨a, ScX.dn h1.1 b⟩
theorem stC_1 {D : Dt} {σ τ : Sg} {c i : Nat} {d : Int32} {m : Int} (e : τ = nbT 87 8602 σ i d) (hi : i = (dg D c)) (hc : dA D c = true) (hv : ∀ Z, Sol D Z → LeX D (XC σ) Z → d.toInt ≤ xf Z (dg D c)) (hd : d.toInt ≤ 20000 + m) : StC D σ τ ∧ (d.toInt ≤ xf (XC τ) (dg D c)) ∧ (BnX D (XC σ) m → BnX D (XC τ) m) := by
  rw [hi] at e
  obtain ⟨v, hO, h2, h3, h4⟩ := nb_op 87 8602 σ (dg D c) d
  rw [← e] at hO
  have eo := hO.2.2.1
  have en := hO.2.2.2.1
  have q := nwx_1 (D := D) (X := XC σ) (Y := XC τ) (c := c) (d := d.toInt) (m := m) (fun j hj => congrArg Int32.toInt (hO.2.1 j hj)) (by show (σ.2.2.1 87 (dg D c)).toInt ≤ (τ.2.2.1 87 (dg D c)).toInt; omega) (by show (τ.2.2.1 87 (dg D c)).toInt = (σ.2.2.1 87 (dg D c)).toInt ∨ (τ.2.2.1 87 (dg D c)).toInt = d.toInt; rw [en]; exact h4) (fun j => congrArg (fun q : Nat → Int32 => (q j).toInt) (hO.1 88 (by decide))) (fun j => congrArg (fun q : Nat → Int32 => (q j).toInt) (hO.1 90 (by decide))) (fun j => congrArg (fun q : Nat → Int32 => (q j).toInt) (hO.1 91 (by decide))) hv hc
  refine ⟨⟨q.1, hO.2.2.2.2.2.elim (fun q => Or.inl ⟨q.1, q.2.1, hO.1 88 (by decide)⟩) (fun q => Or.inr ⟨q.1, c, hc, Or.inl (by show (σ.2.2.1 87 (dg D c)).toInt < (τ.2.2.1 87 (dg D c)).toInt; have e1 := hO.2.2.1; have e2 := hO.2.2.2.1; have e3 := q.2; omega)⟩), Or.inl ⟨hO.2.2.2.2.1 8902 (by decide), hO.1 90 (by decide), hO.1 91 (by decide)⟩, hO.1 92 (by decide)⟩, ?_, q.2 hd⟩
  show d.toInt ≤ (τ.2.2.1 87 (dg D c)).toInt
  rw [en]; exact h3
theorem stC_2 {D : Dt} {σ τ : Sg} {c i : Nat} {d : Int32} {m : Int} (e : τ = nhT 88 8602 σ i d) (hi : i = (dg D c)) (hc : dA D c = true) (hv : ∀ Z, Sol D Z → LeX D (XC σ) Z → xt Z (dg D c) ≤ d.toInt) (hd : -m ≤ d.toInt) : StC D σ τ ∧ (xt (XC τ) (dg D c) ≤ d.toInt) ∧ (BnX D (XC σ) m → BnX D (XC τ) m) := by
  rw [hi] at e
  obtain ⟨v, hO, h2, h3, h4⟩ := nh_op 88 8602 σ (dg D c) d
  rw [← e] at hO
  have eo := hO.2.2.1
  have en := hO.2.2.2.1
  have q := nwx_2 (D := D) (X := XC σ) (Y := XC τ) (c := c) (d := d.toInt) (m := m) (fun j hj => congrArg Int32.toInt (hO.2.1 j hj)) (by show (τ.2.2.1 88 (dg D c)).toInt ≤ (σ.2.2.1 88 (dg D c)).toInt; omega) (by show (τ.2.2.1 88 (dg D c)).toInt = (σ.2.2.1 88 (dg D c)).toInt ∨ (τ.2.2.1 88 (dg D c)).toInt = d.toInt; rw [en]; exact h4) (fun j => congrArg (fun q : Nat → Int32 => (q j).toInt) (hO.1 87 (by decide))) (fun j => congrArg (fun q : Nat → Int32 => (q j).toInt) (hO.1 90 (by decide))) (fun j => congrArg (fun q : Nat → Int32 => (q j).toInt) (hO.1 91 (by decide))) hv hc
  refine ⟨⟨q.1, hO.2.2.2.2.2.elim (fun q => Or.inl ⟨q.1, hO.1 87 (by decide), q.2.1⟩) (fun q => Or.inr ⟨q.1, c, hc, Or.inr (Or.inl (by show (τ.2.2.1 88 (dg D c)).toInt < (σ.2.2.1 88 (dg D c)).toInt; have e1 := hO.2.2.1; have e2 := hO.2.2.2.1; have e3 := q.2; omega))⟩), Or.inl ⟨hO.2.2.2.2.1 8902 (by decide), hO.1 90 (by decide), hO.1 91 (by decide)⟩, hO.1 92 (by decide)⟩, ?_, q.2 hd⟩
  show (τ.2.2.1 88 (dg D c)).toInt ≤ d.toInt
  rw [en]; exact h3
theorem stC_3 {D : Dt} {σ τ : Sg} {c i : Nat} {d : Int32} {m : Int} (e : τ = nbT 90 8902 σ i d) (hi : i = c) (hc : dA D c = true) (hv : ∀ Z, Sol D Z → LeX D (XC σ) Z → d.toInt ≤ yf Z c) (hd : d.toInt ≤ 20000 + m) : StC D σ τ ∧ (d.toInt ≤ yf (XC τ) c) ∧ (BnX D (XC σ) m → BnX D (XC τ) m) := by
  rw [hi] at e
  obtain ⟨v, hO, h2, h3, h4⟩ := nb_op 90 8902 σ c d
  rw [← e] at hO
  have eo := hO.2.2.1
  have en := hO.2.2.2.1
  have q := nwx_3 (D := D) (X := XC σ) (Y := XC τ) (c := c) (d := d.toInt) (m := m) (fun j hj => congrArg Int32.toInt (hO.2.1 j hj)) (by show (σ.2.2.1 90 c).toInt ≤ (τ.2.2.1 90 c).toInt; omega) (by show (τ.2.2.1 90 c).toInt = (σ.2.2.1 90 c).toInt ∨ (τ.2.2.1 90 c).toInt = d.toInt; rw [en]; exact h4) (fun j => congrArg (fun q : Nat → Int32 => (q j).toInt) (hO.1 87 (by decide))) (fun j => congrArg (fun q : Nat → Int32 => (q j).toInt) (hO.1 88 (by decide))) (fun j => congrArg (fun q : Nat → Int32 => (q j).toInt) (hO.1 91 (by decide))) hv hc
  refine ⟨⟨q.1, Or.inl ⟨hO.2.2.2.2.1 8602 (by decide), hO.1 87 (by decide), hO.1 88 (by decide)⟩, hO.2.2.2.2.2.elim (fun q => Or.inl ⟨q.1, q.2.1, hO.1 91 (by decide)⟩) (fun q => Or.inr ⟨q.1, c, hc, Or.inr (Or.inr (Or.inl (by show (σ.2.2.1 90 c).toInt < (τ.2.2.1 90 c).toInt; have e1 := hO.2.2.1; have e2 := hO.2.2.2.1; have e3 := q.2; omega)))⟩), hO.1 92 (by decide)⟩, ?_, q.2 hd⟩
  show d.toInt ≤ (τ.2.2.1 90 c).toInt
  rw [en]; exact h3
theorem stC_4 {D : Dt} {σ τ : Sg} {c i : Nat} {d : Int32} {m : Int} (e : τ = nhT 91 8902 σ i d) (hi : i = c) (hc : dA D c = true) (hv : ∀ Z, Sol D Z → LeX D (XC σ) Z → yt Z c ≤ d.toInt) (hd : -m ≤ d.toInt) : StC D σ τ ∧ (yt (XC τ) c ≤ d.toInt) ∧ (BnX D (XC σ) m → BnX D (XC τ) m) := by
  rw [hi] at e
  obtain ⟨v, hO, h2, h3, h4⟩ := nh_op 91 8902 σ c d
  rw [← e] at hO
  have eo := hO.2.2.1
  have en := hO.2.2.2.1
  have q := nwx_4 (D := D) (X := XC σ) (Y := XC τ) (c := c) (d := d.toInt) (m := m) (fun j hj => congrArg Int32.toInt (hO.2.1 j hj)) (by show (τ.2.2.1 91 c).toInt ≤ (σ.2.2.1 91 c).toInt; omega) (by show (τ.2.2.1 91 c).toInt = (σ.2.2.1 91 c).toInt ∨ (τ.2.2.1 91 c).toInt = d.toInt; rw [en]; exact h4) (fun j => congrArg (fun q : Nat → Int32 => (q j).toInt) (hO.1 87 (by decide))) (fun j => congrArg (fun q : Nat → Int32 => (q j).toInt) (hO.1 88 (by decide))) (fun j => congrArg (fun q : Nat → Int32 => (q j).toInt) (hO.1 90 (by decide))) hv hc
  refine ⟨⟨q.1, Or.inl ⟨hO.2.2.2.2.1 8602 (by decide), hO.1 87 (by decide), hO.1 88 (by decide)⟩, hO.2.2.2.2.2.elim (fun q => Or.inl ⟨q.1, hO.1 90 (by decide), q.2.1⟩) (fun q => Or.inr ⟨q.1, c, hc, Or.inr (Or.inr (Or.inr (by show (τ.2.2.1 91 c).toInt < (σ.2.2.1 91 c).toInt; have e1 := hO.2.2.1; have e2 := hO.2.2.2.1; have e3 := q.2; omega)))⟩), hO.1 92 (by decide)⟩, ?_, q.2 hd⟩
  show (τ.2.2.1 91 c).toInt ≤ d.toInt
  rw [en]; exact h3
/-- the class's cells that bounds come of -/
def LkC (D : Dt) (μ : Int32) (σ : Sg) : Prop := (∀ c, c < 20 → dA D c = tb μ c) ∧ (∀ c, dA D c = true → c < 20 ∧ dg D c < 20 ∧ σ.2.2.1 92 c = nI (dg D c)) ∧ (∀ c f, dA D c = true → f < 8 → (dS D c f ↔ σ.2.2.1 (64 + c) f = 1) ∧ (dH D c f ↔ σ.2.2.1 (64 + c) f = 0)) ∧ (∀ f, f < 8 → (σ.2.2.1 59 f).toInt = dff D f ∧ (σ.2.2.1 60 f).toInt = dft D f ∧ 0 ≤ dff D f ∧ dff D f ≤ 20000 ∧ 0 ≤ dft D f ∧ dft D f ≤ 20000) ∧ (∀ a b, dA D a = true → dA D b = true → (dL D a b ↔ ∃ k, k < (σ.1 5809).toNatClampNeg ∧ σ.2.2.1 84 k = nI a ∧ σ.2.2.1 85 k = nI b))
theorem lk_st {D : Dt} {μ : Int32} {σ τ : Sg} (h : LkC D μ σ) (k : Cor σ τ) (e : τ.2.2.1 92 = σ.2.2.1 92) : LkC D μ τ := by
  refine ⟨h.1, fun c hc => by rw [e]; exact h.2.1 c hc, fun c f hc hf => ?_, fun f hf => ?_, fun a b ha hb => ?_⟩
  · rw [k.2.2.1 (64 + c) (scA_64 (h.2.1 c hc).1)]; exact h.2.2.1 c f hc hf
  · rw [k.2.2.1 59 rfl, k.2.2.1 60 rfl]; exact h.2.2.2.1 f hf
  · rw [k.1 5809 rfl, k.2.2.1 84 rfl, k.2.2.1 85 rfl]; exact h.2.2.2.2 a b ha hb
set_option maxRecDepth 100000 in
set_option maxHeartbeats 40000000 in
theorem ge_X7_notBefore_86 {G : vG} {l : Launch} (σ : Sg) (i d : Int32) (hI : Inv σ) (hi : inR i 0 19) : Sp G l yX7_notBefore cX7_notBefore 3 none 0 0 0 [.ref 86, .int i, .int d] (WW σ) (QV (fun w2 => ∃ σ2, w2 = WW σ2 ∧ Inv σ2 ∧ Cor σ σ2 ∧ σ2 = nbT 87 8602 σ (Int32.toNatClampNeg i) d)) := by
  refine Sp_of_R [(some (.ref 86)), (some (.int i)), (some (.int d))] [] rfl (by simp) rfl (Nat.le_of_ble_eq_true rfl) ?_
  refine R_aload_n (pc := 0) dX7_notBefore_0 rfl rfl ?_
  refine g_X7_9 (pc := 1) (v := .ref 87) rfl dX7_notBefore_1 (c_86 _) rfl ?_
  refine R_iload_n (pc := 4) dX7_notBefore_4 rfl rfl ?_
  have hx1 : vp_in i 20 := (vp_of_inR hi (by decide))
  refine R_iaload (pc := 5) dX7_notBefore_5 (c_87 _) hx1 ?_
  refine R_iload_n (pc := 6) dX7_notBefore_6 rfl rfl ?_
  refine R_icge (pc := 7) 22 dX7_notBefore_7 (by decide) (fun b7_2 => ?_) (fun b7_2 => ?_)
  · skip
    exact R_vret (pc := 22) dX7_notBefore_22 rfl (Nat.zero_le _) (Nat.zero_le _) ⟨rfl, _, rfl, hI, (show Cor σ σ from Cor.rfl' σ), (nb_t b7_2).symm⟩
  · skip
    refine R_aload_n (pc := 10) dX7_notBefore_10 rfl rfl ?_
    refine g_X7_9 (pc := 11) (v := .ref 87) rfl dX7_notBefore_11 (c_86 _) rfl ?_
    refine R_iload_n (pc := 14) dX7_notBefore_14 rfl rfl ?_
    refine R_iload_n (pc := 15) dX7_notBefore_15 rfl rfl ?_
    have hx3 : vp_in i 20 := (vp_of_inR hi (by decide))
    refine W_iastore (pc := 16) dX7_notBefore_16 (c_87 _) hx3 (a_87 _ _) ?_
    have hW4 := cor_sa 87 (upd (σ.2.2.1 87) (Int32.toNatClampNeg i) d) (show Cor σ σ from Cor.rfl' σ) rfl
    refine R_aload_n (pc := 17) dX7_notBefore_17 rfl rfl ?_
    refine R_iconst (pc := 18) (v := 1) dX7_notBefore_18 (by decide) ?_
    refine p_X7_18 (pc := 19) rfl dX7_notBefore_19 (c_86 _) (Nat.le_of_ble_eq_true rfl) rfl rfl (s_86_2 _ _) ?_
    have hW5 := cor_si 8602 1 hW4 rfl
    exact R_vret (pc := 22) dX7_notBefore_22 rfl (Nat.zero_le _) (Nat.zero_le _) ⟨rfl, _, rfl, hI, hW5, (nb_f b7_2).symm⟩
set_option maxRecDepth 100000 in
set_option maxHeartbeats 40000000 in
theorem ge_X7_notBehind_86 {G : vG} {l : Launch} (σ : Sg) (i d : Int32) (hI : Inv σ) (hi : inR i 0 19) : Sp G l yX7_notBehind cX7_notBehind 3 none 0 0 0 [.ref 86, .int i, .int d] (WW σ) (QV (fun w2 => ∃ σ2, w2 = WW σ2 ∧ Inv σ2 ∧ Cor σ σ2 ∧ σ2 = nhT 88 8602 σ (Int32.toNatClampNeg i) d)) := by
  refine Sp_of_R [(some (.ref 86)), (some (.int i)), (some (.int d))] [] rfl (by simp) rfl (Nat.le_of_ble_eq_true rfl) ?_
  refine R_aload_n (pc := 0) dX7_notBehind_0 rfl rfl ?_
  refine g_X7_15 (pc := 1) (v := .ref 88) rfl dX7_notBehind_1 (c_86 _) rfl ?_
  refine R_iload_n (pc := 4) dX7_notBehind_4 rfl rfl ?_
  have hx1 : vp_in i 20 := (vp_of_inR hi (by decide))
  refine R_iaload (pc := 5) dX7_notBehind_5 (c_88 _) hx1 ?_
  refine R_iload_n (pc := 6) dX7_notBehind_6 rfl rfl ?_
  refine R_icle (pc := 7) 22 dX7_notBehind_7 (by decide) (fun b7_2 => ?_) (fun b7_2 => ?_)
  · skip
    exact R_vret (pc := 22) dX7_notBehind_22 rfl (Nat.zero_le _) (Nat.zero_le _) ⟨rfl, _, rfl, hI, (show Cor σ σ from Cor.rfl' σ), (nh_t b7_2).symm⟩
  · skip
    refine R_aload_n (pc := 10) dX7_notBehind_10 rfl rfl ?_
    refine g_X7_15 (pc := 11) (v := .ref 88) rfl dX7_notBehind_11 (c_86 _) rfl ?_
    refine R_iload_n (pc := 14) dX7_notBehind_14 rfl rfl ?_
    refine R_iload_n (pc := 15) dX7_notBehind_15 rfl rfl ?_
    have hx3 : vp_in i 20 := (vp_of_inR hi (by decide))
    refine W_iastore (pc := 16) dX7_notBehind_16 (c_88 _) hx3 (a_88 _ _) ?_
    have hW4 := cor_sa 88 (upd (σ.2.2.1 88) (Int32.toNatClampNeg i) d) (show Cor σ σ from Cor.rfl' σ) rfl
    refine R_aload_n (pc := 17) dX7_notBehind_17 rfl rfl ?_
    refine R_iconst (pc := 18) (v := 1) dX7_notBehind_18 (by decide) ?_
    refine p_X7_18 (pc := 19) rfl dX7_notBehind_19 (c_86 _) (Nat.le_of_ble_eq_true rfl) rfl rfl (s_86_2 _ _) ?_
    have hW5 := cor_si 8602 1 hW4 rfl
    exact R_vret (pc := 22) dX7_notBehind_22 rfl (Nat.zero_le _) (Nat.zero_le _) ⟨rfl, _, rfl, hI, hW5, (nh_f b7_2).symm⟩
set_option maxRecDepth 100000 in
set_option maxHeartbeats 40000000 in
theorem ge_X7_open_86 {G : vG} {l : Launch} (σ : Sg) (i d f : Int32) (hI : Inv σ) (hi : inR i 0 19) : Sp G l yX7_open cX7_open 4 none 0 0 0 [.ref 86, .int i, .int d, .int f] (WW σ) (QV (fun w2 => ∃ σ2, w2 = WW σ2 ∧ Inv σ2 ∧ Cor σ σ2 ∧ σ2 = uA (uA σ 87 (upd (σ.2.2.1 87) (Int32.toNatClampNeg i) d)) 88 (upd (σ.2.2.1 88) (Int32.toNatClampNeg i) f))) := by
  refine Sp_of_R [(some (.ref 86)), (some (.int i)), (some (.int d)), (some (.int f))] [] rfl (by simp) rfl (Nat.le_of_ble_eq_true rfl) ?_
  refine R_aload_n (pc := 0) dX7_open_0 rfl rfl ?_
  refine g_X7_9 (pc := 1) (v := .ref 87) rfl dX7_open_1 (c_86 _) rfl ?_
  refine R_iload_n (pc := 4) dX7_open_4 rfl rfl ?_
  refine R_iload_n (pc := 5) dX7_open_5 rfl rfl ?_
  have hx1 : vp_in i 20 := (vp_of_inR hi (by decide))
  refine W_iastore (pc := 6) dX7_open_6 (c_87 _) hx1 (a_87 _ _) ?_
  have hW2 := cor_sa 87 (upd (σ.2.2.1 87) (Int32.toNatClampNeg i) d) (show Cor σ σ from Cor.rfl' σ) rfl
  refine R_aload_n (pc := 7) dX7_open_7 rfl rfl ?_
  refine g_X7_15 (pc := 8) (v := .ref 88) rfl dX7_open_8 (c_86 _) rfl ?_
  refine R_iload_n (pc := 11) dX7_open_11 rfl rfl ?_
  refine R_iload_n (pc := 12) dX7_open_12 rfl rfl ?_
  have hx3 : vp_in i 20 := (vp_of_inR hi (by decide))
  refine W_iastore (pc := 13) dX7_open_13 (c_88 _) hx3 (a_88 _ _) ?_
  have hW4 := cor_sa 88 (upd ((uA σ 87 (upd (σ.2.2.1 87) (Int32.toNatClampNeg i) d)).2.2.1 88) (Int32.toNatClampNeg i) f) hW2 rfl
  exact R_vret (pc := 14) dX7_open_14 rfl (Nat.zero_le _) (Nat.zero_le _) ⟨rfl, _, rfl, hI, hW4, rfl⟩
set_option maxRecDepth 100000 in
set_option maxHeartbeats 40000000 in
theorem ge_X7_notBefore_89 {G : vG} {l : Launch} (σ : Sg) (i d : Int32) (hI : Inv σ) (hi : inR i 0 19) : Sp G l yX7_notBefore cX7_notBefore 3 none 0 0 0 [.ref 89, .int i, .int d] (WW σ) (QV (fun w2 => ∃ σ2, w2 = WW σ2 ∧ Inv σ2 ∧ Cor σ σ2 ∧ σ2 = nbT 90 8902 σ (Int32.toNatClampNeg i) d)) := by
  refine Sp_of_R [(some (.ref 89)), (some (.int i)), (some (.int d))] [] rfl (by simp) rfl (Nat.le_of_ble_eq_true rfl) ?_
  refine R_aload_n (pc := 0) dX7_notBefore_0 rfl rfl ?_
  refine g_X7_9 (pc := 1) (v := .ref 90) rfl dX7_notBefore_1 (c_89 _) rfl ?_
  refine R_iload_n (pc := 4) dX7_notBefore_4 rfl rfl ?_
  have hx1 : vp_in i 20 := (vp_of_inR hi (by decide))
  refine R_iaload (pc := 5) dX7_notBefore_5 (c_90 _) hx1 ?_
  refine R_iload_n (pc := 6) dX7_notBefore_6 rfl rfl ?_
  refine R_icge (pc := 7) 22 dX7_notBefore_7 (by decide) (fun b7_2 => ?_) (fun b7_2 => ?_)
  · skip
    exact R_vret (pc := 22) dX7_notBefore_22 rfl (Nat.zero_le _) (Nat.zero_le _) ⟨rfl, _, rfl, hI, (show Cor σ σ from Cor.rfl' σ), (nb_t b7_2).symm⟩
  · skip
    refine R_aload_n (pc := 10) dX7_notBefore_10 rfl rfl ?_
    refine g_X7_9 (pc := 11) (v := .ref 90) rfl dX7_notBefore_11 (c_89 _) rfl ?_
    refine R_iload_n (pc := 14) dX7_notBefore_14 rfl rfl ?_
    refine R_iload_n (pc := 15) dX7_notBefore_15 rfl rfl ?_
    have hx3 : vp_in i 20 := (vp_of_inR hi (by decide))
    refine W_iastore (pc := 16) dX7_notBefore_16 (c_90 _) hx3 (a_90 _ _) ?_
    have hW4 := cor_sa 90 (upd (σ.2.2.1 90) (Int32.toNatClampNeg i) d) (show Cor σ σ from Cor.rfl' σ) rfl
    refine R_aload_n (pc := 17) dX7_notBefore_17 rfl rfl ?_
    refine R_iconst (pc := 18) (v := 1) dX7_notBefore_18 (by decide) ?_
    refine p_X7_18 (pc := 19) rfl dX7_notBefore_19 (c_89 _) (Nat.le_of_ble_eq_true rfl) rfl rfl (s_89_2 _ _) ?_
    have hW5 := cor_si 8902 1 hW4 rfl
    exact R_vret (pc := 22) dX7_notBefore_22 rfl (Nat.zero_le _) (Nat.zero_le _) ⟨rfl, _, rfl, hI, hW5, (nb_f b7_2).symm⟩
set_option maxRecDepth 100000 in
set_option maxHeartbeats 40000000 in
theorem ge_X7_notBehind_89 {G : vG} {l : Launch} (σ : Sg) (i d : Int32) (hI : Inv σ) (hi : inR i 0 19) : Sp G l yX7_notBehind cX7_notBehind 3 none 0 0 0 [.ref 89, .int i, .int d] (WW σ) (QV (fun w2 => ∃ σ2, w2 = WW σ2 ∧ Inv σ2 ∧ Cor σ σ2 ∧ σ2 = nhT 91 8902 σ (Int32.toNatClampNeg i) d)) := by
  refine Sp_of_R [(some (.ref 89)), (some (.int i)), (some (.int d))] [] rfl (by simp) rfl (Nat.le_of_ble_eq_true rfl) ?_
  refine R_aload_n (pc := 0) dX7_notBehind_0 rfl rfl ?_
  refine g_X7_15 (pc := 1) (v := .ref 91) rfl dX7_notBehind_1 (c_89 _) rfl ?_
  refine R_iload_n (pc := 4) dX7_notBehind_4 rfl rfl ?_
  have hx1 : vp_in i 20 := (vp_of_inR hi (by decide))
  refine R_iaload (pc := 5) dX7_notBehind_5 (c_91 _) hx1 ?_
  refine R_iload_n (pc := 6) dX7_notBehind_6 rfl rfl ?_
  refine R_icle (pc := 7) 22 dX7_notBehind_7 (by decide) (fun b7_2 => ?_) (fun b7_2 => ?_)
  · skip
    exact R_vret (pc := 22) dX7_notBehind_22 rfl (Nat.zero_le _) (Nat.zero_le _) ⟨rfl, _, rfl, hI, (show Cor σ σ from Cor.rfl' σ), (nh_t b7_2).symm⟩
  · skip
    refine R_aload_n (pc := 10) dX7_notBehind_10 rfl rfl ?_
    refine g_X7_15 (pc := 11) (v := .ref 91) rfl dX7_notBehind_11 (c_89 _) rfl ?_
    refine R_iload_n (pc := 14) dX7_notBehind_14 rfl rfl ?_
    refine R_iload_n (pc := 15) dX7_notBehind_15 rfl rfl ?_
    have hx3 : vp_in i 20 := (vp_of_inR hi (by decide))
    refine W_iastore (pc := 16) dX7_notBehind_16 (c_91 _) hx3 (a_91 _ _) ?_
    have hW4 := cor_sa 91 (upd (σ.2.2.1 91) (Int32.toNatClampNeg i) d) (show Cor σ σ from Cor.rfl' σ) rfl
    refine R_aload_n (pc := 17) dX7_notBehind_17 rfl rfl ?_
    refine R_iconst (pc := 18) (v := 1) dX7_notBehind_18 (by decide) ?_
    refine p_X7_18 (pc := 19) rfl dX7_notBehind_19 (c_89 _) (Nat.le_of_ble_eq_true rfl) rfl rfl (s_89_2 _ _) ?_
    have hW5 := cor_si 8902 1 hW4 rfl
    exact R_vret (pc := 22) dX7_notBehind_22 rfl (Nat.zero_le _) (Nat.zero_le _) ⟨rfl, _, rfl, hI, hW5, (nh_f b7_2).symm⟩
set_option maxRecDepth 100000 in
set_option maxHeartbeats 40000000 in
theorem ge_X7_open_89 {G : vG} {l : Launch} (σ : Sg) (i d f : Int32) (hI : Inv σ) (hi : inR i 0 19) : Sp G l yX7_open cX7_open 4 none 0 0 0 [.ref 89, .int i, .int d, .int f] (WW σ) (QV (fun w2 => ∃ σ2, w2 = WW σ2 ∧ Inv σ2 ∧ Cor σ σ2 ∧ σ2 = uA (uA σ 90 (upd (σ.2.2.1 90) (Int32.toNatClampNeg i) d)) 91 (upd (σ.2.2.1 91) (Int32.toNatClampNeg i) f))) := by
  refine Sp_of_R [(some (.ref 89)), (some (.int i)), (some (.int d)), (some (.int f))] [] rfl (by simp) rfl (Nat.le_of_ble_eq_true rfl) ?_
  refine R_aload_n (pc := 0) dX7_open_0 rfl rfl ?_
  refine g_X7_9 (pc := 1) (v := .ref 90) rfl dX7_open_1 (c_89 _) rfl ?_
  refine R_iload_n (pc := 4) dX7_open_4 rfl rfl ?_
  refine R_iload_n (pc := 5) dX7_open_5 rfl rfl ?_
  have hx1 : vp_in i 20 := (vp_of_inR hi (by decide))
  refine W_iastore (pc := 6) dX7_open_6 (c_90 _) hx1 (a_90 _ _) ?_
  have hW2 := cor_sa 90 (upd (σ.2.2.1 90) (Int32.toNatClampNeg i) d) (show Cor σ σ from Cor.rfl' σ) rfl
  refine R_aload_n (pc := 7) dX7_open_7 rfl rfl ?_
  refine g_X7_15 (pc := 8) (v := .ref 91) rfl dX7_open_8 (c_89 _) rfl ?_
  refine R_iload_n (pc := 11) dX7_open_11 rfl rfl ?_
  refine R_iload_n (pc := 12) dX7_open_12 rfl rfl ?_
  have hx3 : vp_in i 20 := (vp_of_inR hi (by decide))
  refine W_iastore (pc := 13) dX7_open_13 (c_91 _) hx3 (a_91 _ _) ?_
  have hW4 := cor_sa 91 (upd ((uA σ 90 (upd (σ.2.2.1 90) (Int32.toNatClampNeg i) d)).2.2.1 91) (Int32.toNatClampNeg i) f) hW2 rfl
  exact R_vret (pc := 14) dX7_open_14 rfl (Nat.zero_le _) (Nat.zero_le _) ⟨rfl, _, rfl, hI, hW4, rfl⟩
