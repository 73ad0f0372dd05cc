/-! dating, in words of ints -/
/-! SPANS: taken from, to (by the leader), published from, to (by the card) -/
abbrev Xs : Type := (Nat → Int) × (Nat → Int) × (Nat → Int) × (Nat → Int)
/-- cards, leaders, shown, hidden, features from, to, lower bounds, upper bounds, laters -/
abbrev Dt : Type := (Nat → Bool) × (Nat → Nat) × (Nat → Nat → Prop) × (Nat → Nat → Prop) × (Nat → Int) × (Nat → Int) × (Nat → Int → Prop) × (Nat → Int → Prop) × (Nat → Nat → Prop)
def dA (D : Dt) (c : Nat) : Bool := D.1 c
def dg (D : Dt) (c : Nat) : Nat := D.2.1 c
def dS (D : Dt) (c f : Nat) : Prop := D.2.2.1 c f
def dH (D : Dt) (c f : Nat) : Prop := D.2.2.2.1 c f
def dff (D : Dt) (f : Nat) : Int := D.2.2.2.2.1 f
def dft (D : Dt) (f : Nat) : Int := D.2.2.2.2.2.1 f
def dI (D : Dt) (c : Nat) (v : Int) : Prop := D.2.2.2.2.2.2.1 c v
def dJ (D : Dt) (c : Nat) (v : Int) : Prop := D.2.2.2.2.2.2.2.1 c v
def dL (D : Dt) (a b : Nat) : Prop := D.2.2.2.2.2.2.2.2 a b
def xf (X : Xs) (g : Nat) : Int := X.1 g
def xt (X : Xs) (g : Nat) : Int := X.2.1 g
def yf (X : Xs) (c : Nat) : Int := X.2.2.1 c
def yt (X : Xs) (c : Nat) : Int := X.2.2.2 c
/-- what holds from the start -/
def BsX (D : Dt) (X : Xs) : Prop := ∀ c, dA D c = true → 0 ≤ xf X (dg D c) ∧ xt X (dg D c) ≤ 20000 ∧ (∀ v, dI D c v → v ≤ yf X c) ∧ (∀ v, dJ D c v → yt X c ≤ v)
def FtX (D : Dt) (X : Xs) (c f : Nat) : Prop := (dS D c f → dff D f ≤ xf X (dg D c) ∧ xt X (dg D c) ≤ dft D f) ∧ (dH D c f → ¬ (dff D f ≤ xf X (dg D c) ∧ xf X (dg D c) ≤ dft D f) ∧ ¬ (dff D f ≤ xt X (dg D c) ∧ xt X (dg D c) ≤ dft D f))
def Sol (D : Dt) (X : Xs) : Prop := BsX D X ∧ ∀ c, dA D c = true → xf X (dg D c) ≤ yf X c ∧ xt X (dg D c) ≤ yt X c ∧ (∀ f, f < 8 → FtX D X c f) ∧ (∀ b, dA D b = true → dL D c b → yf X b + 1 ≤ yf X c ∧ yt X b ≤ yt X c - 1)
def LeX (D : Dt) (X Y : Xs) : Prop := ∀ c, dA D c = true → xf X (dg D c) ≤ xf Y (dg D c) ∧ xt Y (dg D c) ≤ xt X (dg D c) ∧ yf X c ≤ yf Y c ∧ yt Y c ≤ yt X c
def NeX (D : Dt) (X : Xs) : Prop := ∀ c, dA D c = true → yf X c ≤ yt X c ∧ xf X (dg D c) ≤ xt X (dg D c)
def NwX (D : Dt) (X Y : Xs) : Prop := LeX D X Y ∧ ∀ Z, Sol D Z → LeX D X Z → LeX D Y Z
/-- one has become narrower -/
def ScX (D : Dt) (X Y : Xs) : Prop := ∃ c, dA D c = true ∧ (xf X (dg D c) < xf Y (dg D c) ∨ xt Y (dg D c) < xt X (dg D c) ∨ yf X c < yf Y c ∨ yt Y c < yt X c)
theorem LeX.rfl' (D : Dt) (X : Xs) : LeX D X X := fun _ _ => ⟨Int.le_refl _, Int.le_refl _, Int.le_refl _, Int.le_refl _⟩
theorem LeX.tr {D : Dt} {X Y Z : Xs} (h : LeX D X Y) (k : LeX D Y Z) : LeX D X Z := fun c hc => by
  have a := h c hc
  have b := k c hc
  exact ⟨by omega, by omega, by omega, by omega⟩
theorem NwX.rfl' (D : Dt) (X : Xs) : NwX D X X := ⟨LeX.rfl' D X, fun _ _ h => h⟩
theorem NwX.tr {D : Dt} {X Y Z : Xs} (h : NwX D X Y) (k : NwX D Y Z) : NwX D X Z := ⟨h.1.tr k.1, fun W hW hX => k.2 W hW (h.2 W hW hX)⟩
theorem ScX.up {D : Dt} {X Y Z : Xs} (h : ScX D X Y) (k : LeX D Y Z) : ScX D X Z := by
  obtain ⟨c, hc, h⟩ := h
  have b := k c hc
  exact ⟨c, hc, by omega⟩
theorem BsX.up {D : Dt} {X Y : Xs} (h : BsX D X) (k : LeX D X Y) : BsX D Y := fun c hc => by
  have a := h c hc
  have b := k c hc
  exact ⟨by omega, by omega, fun v hv => Int.le_trans (a.2.2.1 v hv) b.2.2.1, fun v hv => Int.le_trans b.2.2.2 (a.2.2.2 v hv)⟩
/-- what a round does: to a feature of a card, to a card, to laters -/
def Rf (D : Dt) (X Y : Xs) (c f : Nat) : Prop := (dS D c f → dff D f ≤ xf Y (dg D c) ∧ xt Y (dg D c) ≤ dft D f) ∧ (dH D c f → (dff D f ≤ xf X (dg D c) → xf X (dg D c) ≤ dft D f → dft D f + 1 ≤ xf Y (dg D c)) ∧ (dff D f ≤ xt X (dg D c) → xt X (dg D c) ≤ dft D f → xt Y (dg D c) ≤ dff D f - 1))
def Rc (D : Dt) (X Y : Xs) (c : Nat) : Prop := xf X (dg D c) ≤ yf Y c ∧ xt Y (dg D c) ≤ yt X c ∧ ∀ f, f < 8 → Rf D X Y c f
def Rl (D : Dt) (X Y : Xs) (c b : Nat) : Prop := yf X b + 1 ≤ yf Y c ∧ yt Y b ≤ yt X c - 1
def Rs (D : Dt) (X Y : Xs) : Prop := NwX D X Y ∧ ∀ c, dA D c = true → Rc D X Y c ∧ ∀ b, dA D b = true → dL D c b → Rl D X Y c b
theorem Rf.up {D : Dt} {X Y Z : Xs} {c f : Nat} (h : Rf D X Y c f) (hc : dA D c = true) (k : LeX D Y Z) : Rf D X Z c f := by
  have b := k c hc
  refine ⟨fun q => ?_, fun q => ⟨fun q1 q2 => ?_, fun q1 q2 => ?_⟩⟩
  · have a := h.1 q; omega
  · have a := (h.2 q).1 q1 q2; omega
  · have a := (h.2 q).2 q1 q2; omega
theorem Rc.up {D : Dt} {X Y Z : Xs} {c : Nat} (h : Rc D X Y c) (hc : dA D c = true) (k : LeX D Y Z) : Rc D X Z c := by
  have b := k c hc
  have a1 := h.1
  have a2 := h.2.1
  exact ⟨by omega, by omega, fun f hf => (h.2.2 f hf).up hc k⟩
theorem Rl.up {D : Dt} {X Y Z : Xs} {c d : Nat} (h : Rl D X Y c d) (hc : dA D c = true) (hd : dA D d = true) (k : LeX D Y Z) : Rl D X Z c d := by
  have b1 := k c hc
  have b2 := k d hd
  have a1 := h.1
  have a2 := h.2
  exact ⟨by omega, by omega⟩
/-- a round that starts later: what it does, it does from before too -/
theorem Rf.dn {D : Dt} {W X Y : Xs} {c f : Nat} (h : Rf D X Y c f) (hc : dA D c = true) (k : LeX D W X) (k2 : LeX D X Y) : Rf D W Y c f := by
  have b := k c hc
  have b2 := k2 c hc
  refine ⟨h.1, fun q => ⟨fun q1 q2 => ?_, fun q1 q2 => ?_⟩⟩
  · by_cases e : xf X (dg D c) ≤ dft D f
    · exact (h.2 q).1 (by omega) e
    · omega
  · by_cases e : dff D f ≤ xt X (dg D c)
    · exact (h.2 q).2 e (by omega)
    · omega
/-- a round that changes nothing -/
theorem sol_of {D : Dt} {X : Xs} (hB : BsX D X) (h : Rs D X X) : Sol D X := by
  refine ⟨hB, fun c hc => ?_⟩
  obtain ⟨⟨h1, h2, h3⟩, h4⟩ := h.2 c hc
  refine ⟨h1, h2, fun f hf => ⟨(h3 f hf).1, fun q => ⟨fun e => ?_, fun e => ?_⟩⟩, fun b hb hl => h4 b hb hl⟩
  · have := ((h3 f hf).2 q).1 e.1 e.2; omega
  · have := ((h3 f hf).2 q).2 e.1 e.2; omega
theorem rs_eq {D : Dt} {X Y : Xs} (h : Rs D X Y) (k : LeX D Y X) : Rs D X X := ⟨NwX.rfl' D X, fun c hc => ⟨(h.2 c hc).1.up hc k, fun b hb hl => ((h.2 c hc).2 b hb hl).up hc hb k⟩⟩
/-- the narrowest that all bounds let be, and none is empty -/
def Good (D : Dt) (X : Xs) : Prop := Sol D X ∧ NeX D X ∧ ∀ Y, Sol D Y → LeX D X Y
def Bad (D : Dt) : Prop := ∀ Y, Sol D Y → ¬ NeX D Y
theorem good_bad {D : Dt} {X : Xs} (h : Good D X) (k : Bad D) : False := k X h.1 h.2.1
theorem good_eq {D : Dt} {X Y : Xs} (h : Good D X) (k : Good D Y) {c : Nat} (hc : dA D c = true) : xf X (dg D c) = xf Y (dg D c) ∧ xt X (dg D c) = xt Y (dg D c) ∧ yf X c = yf Y c ∧ yt X c = yt Y c := by
  have a := h.2.2 Y k.1 c hc
  have b := k.2.2 X h.1 c hc
  exact ⟨by omega, by omega, by omega, by omega⟩
/-! after so many rounds nothing changes -/
/-- after n rounds that have each changed something -/
def TrX (D : Dt) (X0 : Xs) : Nat → Xs → Prop
  | 0, X => X = X0
  | n + 1, X => ∃ W, TrX D X0 n W ∧ Rs D W X ∧ ScX D W X
theorem tr_le {D : Dt} {X0 L : Xs} (hL : Sol D L) (h0 : LeX D X0 L) : ∀ (n : Nat) (X : Xs), TrX D X0 n X → LeX D X0 X ∧ LeX D X L := by
  intro n
  induction n with
  | zero => intro X h; rw [show X = X0 from h]; exact ⟨LeX.rfl' D X0, h0⟩
  | succ n ih =>
    intro X h
    obtain ⟨W, hW, hR, -⟩ := h
    have q := ih W hW
    exact ⟨q.1.tr hR.1.1, hR.1.2 L hL q.2⟩
/-- how many features are passed -/
def cp (f : Nat → Bool) : Nat → Nat
  | 0 => 0
  | n + 1 => cp f n + (if f n = true then 1 else 0)
theorem cp_le (f : Nat → Bool) : ∀ n : Nat, cp f n ≤ n := by
  intro n
  induction n with
  | zero => exact Nat.le_refl _
  | succ n ih =>
    show cp f n + (if f n = true then 1 else 0) ≤ n + 1
    split <;> omega
theorem cp_mono {f g : Nat → Bool} : ∀ n : Nat, (∀ i, i < n → f i = true → g i = true) → cp f n ≤ cp g n := by
  intro n
  induction n with
  | zero => intro _; exact Nat.le_refl _
  | succ n ih =>
    intro h
    have h1 := ih (fun i hi => h i (by omega))
    have h2 := h n (by omega)
    show cp f n + (if f n = true then 1 else 0) ≤ cp g n + (if g n = true then 1 else 0)
    by_cases e : f n = true
    · rw [if_pos e, if_pos (h2 e)]; omega
    · rw [if_neg e]; split <;> omega
theorem cp_lt {f g : Nat → Bool} : ∀ n : Nat, (∀ i, i < n → f i = true → g i = true) → ∀ i, i < n → f i = false → g i = true → cp f n + 1 ≤ cp g n := by
  intro n
  induction n with
  | zero => intro _ i hi; omega
  | succ n ih =>
    intro h i hi e1 e2
    have h2 := h n (by omega)
    show cp f n + (if f n = true then 1 else 0) + 1 ≤ cp g n + (if g n = true then 1 else 0)
    by_cases e : i = n
    · subst e
      have h1 := cp_mono i (fun j hj => h j (by omega))
      rw [e1, if_pos e2, if_neg (by decide)]; omega
    · have h1 := ih (fun j hj => h j (by omega)) i (by omega) e1 e2
      by_cases e3 : f n = true
      · rw [if_pos e3, if_pos (h2 e3)]; omega
      · rw [if_neg e3]; split <;> omega
theorem cp_0 {f : Nat → Bool} : ∀ n : Nat, cp f n = 0 → ∀ i, i < n → f i = false := by
  intro n
  induction n with
  | zero => intro _ i hi; omega
  | succ n ih =>
    intro h i hi
    have h1 : cp f n + (if f n = true then 1 else 0) = 0 := h
    by_cases e : i = n
    · subst e
      cases q : f i
      · rfl
      · rw [if_pos q] at h1; omega
    · exact ih (by omega) i (by omega)
/-- one with the least, of some -/
theorem arg_min (P : Nat → Prop) (v : Nat → Int) : ∀ n : Nat, (∃ i, i < n ∧ P i) → ∃ i, i < n ∧ P i ∧ ∀ j, j < n → P j → v i ≤ v j := by
  intro n
  induction n with
  | zero => rintro ⟨i, hi, -⟩; omega
  | succ n ih =>
    rintro ⟨i, hi, hP⟩
    by_cases q : ∃ i, i < n ∧ P i
    · obtain ⟨k, hk, hPk, hm⟩ := ih q
      by_cases r : P n ∧ v n < v k
      · refine ⟨n, by omega, r.1, fun j hj hPj => ?_⟩
        by_cases e : j = n
        · rw [e]; exact Int.le_refl _
        · have := hm j (by omega) hPj; omega
      · refine ⟨k, by omega, hPk, fun j hj hPj => ?_⟩
        by_cases e : j = n
        · rw [e] at hPj ⊢
          exact Int.not_lt.mp (fun s => r ⟨hPj, s⟩)
        · exact hm j (by omega) hPj
    · have e : i = n := by
        by_cases e : i = n
        · exact e
        · exact absurd ⟨i, by omega, hP⟩ q
      refine ⟨i, hi, hP, fun j hj hPj => ?_⟩
      by_cases e2 : j = n
      · rw [e2, e]; exact Int.le_refl _
      · exact absurd ⟨j, by omega, hPj⟩ q
def uA1 (f : Nat → Int) (k : Nat) (v : Int) : Nat → Int := fun j => if j = k then v else f j
theorem uA1_at (f : Nat → Int) (k : Nat) (v : Int) : uA1 f k v k = v := if_pos rfl
theorem uA1_ne {f : Nat → Int} {k j : Nat} (v : Int) (h : ¬ j = k) : uA1 f k v j = f j := if_neg h
/-- the least first day of TAKEN that nothing bars -/
theorem fin_xf {D : Dt} {X L : Xs} (hL : Good D L) (hB : BsX D X) (hX : LeX D X L) {c : Nat} (hc : dA D c = true) (hs : ∀ d, dA D d = true → dg D d = dg D c → ∀ f, f < 8 → dS D d f → dff D f ≤ xf X (dg D c)) (hh : ∀ d, dA D d = true → dg D d = dg D c → ∀ f, f < 8 → dH D d f → ¬ (dff D f ≤ xf X (dg D c) ∧ xf X (dg D c) ≤ dft D f)) : xf X (dg D c) = xf L (dg D c) := by
  have hle := (hX c hc).1
  have hS : Sol D (uA1 L.1 (dg D c) (xf X (dg D c)), L.2) := by
    refine ⟨fun d hd => ?_, fun d hd => ?_⟩
    · have b := hL.1.1 d hd
      refine ⟨?_, b.2.1, b.2.2.1, b.2.2.2⟩
      show 0 ≤ uA1 L.1 (dg D c) (xf X (dg D c)) (dg D d)
      by_cases e : dg D d = dg D c
      · rw [e, uA1_at]; exact (hB c hc).1
      · rw [uA1_ne _ e]; exact b.1
    · obtain ⟨b1, b2, b3, b4⟩ := hL.1.2 d hd
      refine ⟨?_, b2, fun f hf => ?_, b4⟩
      · show uA1 L.1 (dg D c) (xf X (dg D c)) (dg D d) ≤ yf L d
        by_cases e : dg D d = dg D c
        · rw [e, uA1_at]; rw [e] at b1; omega
        · rw [uA1_ne _ e]; exact b1
      · have b := b3 f hf
        by_cases e : dg D d = dg D c
        · have e2 : xf (uA1 L.1 (dg D c) (xf X (dg D c)), L.2) (dg D d) = xf X (dg D c) := by
            show uA1 L.1 (dg D c) (xf X (dg D c)) (dg D d) = _
            rw [e, uA1_at]
          refine ⟨fun q => ⟨by rw [e2]; exact hs d hd e f hf q, (b.1 q).2⟩, fun q => ⟨by rw [e2]; exact hh d hd e f hf q, (b.2 q).2⟩⟩
        · have e2 : xf (uA1 L.1 (dg D c) (xf X (dg D c)), L.2) (dg D d) = xf L (dg D d) := uA1_ne _ e
          refine ⟨fun q => ⟨by rw [e2]; exact (b.1 q).1, (b.1 q).2⟩, fun q => ⟨by rw [e2]; exact (b.2 q).1, (b.2 q).2⟩⟩
  have h2 : xf L (dg D c) ≤ uA1 L.1 (dg D c) (xf X (dg D c)) (dg D c) := (hL.2.2 _ hS c hc).1
  rw [uA1_at] at h2
  omega
theorem fin_xt {D : Dt} {X L : Xs} (hL : Good D L) (hB : BsX D X) (hX : LeX D X L) {c : Nat} (hc : dA D c = true) (hp : ∀ d, dA D d = true → dg D d = dg D c → xt X (dg D c) ≤ yt L d) (hs : ∀ d, dA D d = true → dg D d = dg D c → ∀ f, f < 8 → dS D d f → xt X (dg D c) ≤ dft D f) (hh : ∀ d, dA D d = true → dg D d = dg D c → ∀ f, f < 8 → dH D d f → ¬ (dff D f ≤ xt X (dg D c) ∧ xt X (dg D c) ≤ dft D f)) : xt X (dg D c) = xt L (dg D c) := by
  have hle := (hX c hc).2.1
  have hS : Sol D (L.1, uA1 L.2.1 (dg D c) (xt X (dg D c)), L.2.2) := by
    refine ⟨fun d hd => ?_, fun d hd => ?_⟩
    · have b := hL.1.1 d hd
      refine ⟨b.1, ?_, b.2.2.1, b.2.2.2⟩
      show uA1 L.2.1 (dg D c) (xt X (dg D c)) (dg D d) ≤ 20000
      by_cases e : dg D d = dg D c
      · rw [e, uA1_at]; exact (hB c hc).2.1
      · rw [uA1_ne _ e]; exact b.2.1
    · obtain ⟨b1, b2, b3, b4⟩ := hL.1.2 d hd
      refine ⟨b1, ?_, fun f hf => ?_, b4⟩
      · show uA1 L.2.1 (dg D c) (xt X (dg D c)) (dg D d) ≤ yt L d
        by_cases e : dg D d = dg D c
        · rw [e, uA1_at]; exact hp d hd e
        · rw [uA1_ne _ e]; exact b2
      · have b := b3 f hf
        by_cases e : dg D d = dg D c
        · have e2 : xt (L.1, uA1 L.2.1 (dg D c) (xt X (dg D c)), L.2.2) (dg D d) = xt X (dg D c) := by
            show uA1 L.2.1 (dg D c) (xt X (dg D c)) (dg D d) = _
            rw [e, uA1_at]
          refine ⟨fun q => ⟨(b.1 q).1, by rw [e2]; exact hs d hd e f hf q⟩, fun q => ⟨(b.2 q).1, by rw [e2]; exact hh d hd e f hf q⟩⟩
        · have e2 : xt (L.1, uA1 L.2.1 (dg D c) (xt X (dg D c)), L.2.2) (dg D d) = xt L (dg D d) := uA1_ne _ e
          refine ⟨fun q => ⟨(b.1 q).1, by rw [e2]; exact (b.1 q).2⟩, fun q => ⟨(b.2 q).1, by rw [e2]; exact (b.2 q).2⟩⟩
  have h2 : uA1 L.2.1 (dg D c) (xt X (dg D c)) (dg D c) ≤ xt L (dg D c) := (hL.2.2 _ hS c hc).2.1
  rw [uA1_at] at h2
  omega
/-- what holds the first day of PUBLISHED where it is -/
theorem sup_yf {D : Dt} {L : Xs} (hL : Good D L) {c : Nat} (hc : dA D c = true) : (∃ v, dI D c v ∧ v = yf L c) ∨ xf L (dg D c) = yf L c ∨ ∃ b, dA D b = true ∧ dL D c b ∧ yf L b + 1 = yf L c := by
  by_cases q1 : ∃ v, dI D c v ∧ v = yf L c
  · exact Or.inl q1
  · by_cases q2 : xf L (dg D c) = yf L c
    · exact Or.inr (Or.inl q2)
    · by_cases q3 : ∃ b, dA D b = true ∧ dL D c b ∧ yf L b + 1 = yf L c
      · exact Or.inr (Or.inr q3)
      · exfalso
        have hS : Sol D (L.1, L.2.1, uA1 L.2.2.1 c (yf L c - 1), L.2.2.2) := by
          refine ⟨fun d hd => ?_, fun d hd => ?_⟩
          · have b := hL.1.1 d hd
            refine ⟨b.1, b.2.1, fun v hv => ?_, b.2.2.2⟩
            show v ≤ uA1 L.2.2.1 c (yf L c - 1) d
            by_cases e : d = c
            · rw [e, uA1_at]
              have h1 := b.2.2.1 v hv
              have h2 : ¬ v = yf L c := fun h => q1 ⟨v, by rw [← e]; exact hv, h⟩
              rw [e] at h1; omega
            · rw [uA1_ne _ e]; exact b.2.2.1 v hv
          · obtain ⟨b1, b2, b3, b4⟩ := hL.1.2 d hd
            refine ⟨?_, b2, b3, fun b hb hl => ⟨?_, (b4 b hb hl).2⟩⟩
            · show xf L (dg D d) ≤ uA1 L.2.2.1 c (yf L c - 1) d
              by_cases e : d = c
              · rw [e, uA1_at]; rw [e] at b1; omega
              · rw [uA1_ne _ e]; exact b1
            · show uA1 L.2.2.1 c (yf L c - 1) b + 1 ≤ uA1 L.2.2.1 c (yf L c - 1) d
              have h1 := (b4 b hb hl).1
              by_cases e : d = c
              · have h2 : ¬ yf L b + 1 = yf L c := fun h => q3 ⟨b, hb, by rw [← e]; exact hl, h⟩
                rw [e] at h1
                rw [e, uA1_at]
                by_cases e2 : b = c
                · rw [e2] at h1; omega
                · rw [uA1_ne _ e2]
                  have h3 : L.2.2.1 b = yf L b := rfl
                  omega
              · rw [uA1_ne _ e]
                have h3 : L.2.2.1 d = yf L d := rfl
                by_cases e2 : b = c
                · rw [e2, uA1_at]; rw [e2] at h1; omega
                · rw [uA1_ne _ e2]
                  have h4 : L.2.2.1 b = yf L b := rfl
                  omega
        have h2 : yf L c ≤ uA1 L.2.2.1 c (yf L c - 1) c := (hL.2.2 _ hS c hc).2.2.1
        rw [uA1_at] at h2
        omega
theorem sup_yt {D : Dt} {L : Xs} (hL : Good D L) {c : Nat} (hc : dA D c = true) : (∃ v, dJ D c v ∧ v = yt L c) ∨ ∃ b, dA D b = true ∧ dL D b c ∧ yt L c = yt L b - 1 := by
  by_cases q1 : ∃ v, dJ D c v ∧ v = yt L c
  · exact Or.inl q1
  · by_cases q3 : ∃ b, dA D b = true ∧ dL D b c ∧ yt L c = yt L b - 1
    · exact Or.inr q3
    · exfalso
      have hS : Sol D (L.1, L.2.1, L.2.2.1, uA1 L.2.2.2 c (yt L c + 1)) := by
        refine ⟨fun d hd => ?_, fun d hd => ?_⟩
        · have b := hL.1.1 d hd
          refine ⟨b.1, b.2.1, b.2.2.1, fun v hv => ?_⟩
          show uA1 L.2.2.2 c (yt L c + 1) d ≤ v
          by_cases e : d = c
          · rw [e, uA1_at]
            have h1 := b.2.2.2 v hv
            have h2 : ¬ v = yt L c := fun h => q1 ⟨v, by rw [← e]; exact hv, h⟩
            rw [e] at h1; omega
          · rw [uA1_ne _ e]; exact b.2.2.2 v hv
        · obtain ⟨b1, b2, b3, b4⟩ := hL.1.2 d hd
          refine ⟨b1, ?_, b3, fun b hb hl => ⟨(b4 b hb hl).1, ?_⟩⟩
          · show xt L (dg D d) ≤ uA1 L.2.2.2 c (yt L c + 1) d
            by_cases e : d = c
            · rw [e, uA1_at]; rw [e] at b2; omega
            · rw [uA1_ne _ e]; exact b2
          · show uA1 L.2.2.2 c (yt L c + 1) b ≤ uA1 L.2.2.2 c (yt L c + 1) d - 1
            have h1 := (b4 b hb hl).2
            by_cases e : b = c
            · have h2 : ¬ yt L c = yt L d - 1 := fun h => q3 ⟨d, hd, by rw [← e]; exact hl, h⟩
              rw [e] at h1
              rw [e, uA1_at]
              by_cases e2 : d = c
              · rw [e2] at h1; omega
              · rw [uA1_ne _ e2]
                have h3 : L.2.2.2 d = yt L d := rfl
                omega
            · rw [uA1_ne _ e]
              have h3 : L.2.2.2 b = yt L b := rfl
              by_cases e2 : d = c
              · rw [e2, uA1_at]; rw [e2] at h1; omega
              · rw [uA1_ne _ e2]
                have h4 : L.2.2.2 d = yt L d := rfl
                omega
      have h2 : uA1 L.2.2.2 c (yt L c + 1) c ≤ yt L c := (hL.2.2 _ hS c hc).2.2.2
      rw [uA1_at] at h2
      omega

def nfB (D : Dt) (v w : Nat → Int) (c : Nat) : Bool := dA D c && !decide (v c = w c)
theorem nf_t {D : Dt} {v w : Nat → Int} {c : Nat} (h : dA D c = true) (h2 : ¬ v c = w c) : nfB D v w c = true := by unfold nfB; rw [h, decide_eq_false h2]; rfl
theorem nf_f {D : Dt} {v w : Nat → Int} {c : Nat} (h2 : v c = w c) : nfB D v w c = false := by unfold nfB; rw [decide_eq_true h2]; cases dA D c <;> rfl
theorem nf_i {D : Dt} {v w : Nat → Int} {c : Nat} (h : nfB D v w c = true) : dA D c = true ∧ ¬ v c = w c := by
  unfold nfB at h
  simp only [Bool.and_eq_true, Bool.not_eq_true', decide_eq_false_iff_not] at h
  exact h
theorem nf_0 {D : Dt} {v w : Nat → Int} (h : cp (nfB D v w) 20 = 0) {c : Nat} (hc : dA D c = true) (h20 : c < 20) : v c = w c := by
  have q := cp_0 20 h c h20
  by_cases e : v c = w c
  · exact e
  · rw [nf_t hc e] at q; cases q
theorem nf_ex {D : Dt} {v w : Nat → Int} (h : ¬ cp (nfB D v w) 20 = 0) : ∃ i, i < 20 ∧ nfB D v w i = true := by
  by_cases q : ∃ i, i < 20 ∧ nfB D v w i = true
  · exact q
  · exfalso
    apply h
    have : ∀ n : Nat, n ≤ 20 → cp (nfB D v w) n = 0 := by
      intro n
      induction n with
      | zero => intro _; rfl
      | succ n ih =>
        intro hn
        show cp (nfB D v w) n + (if nfB D v w n = true then 1 else 0) = 0
        rw [ih (by omega), if_neg (fun e => q ⟨n, by omega, e⟩)]
    exact this 20 (Nat.le_refl _)
theorem tr_A {D : Dt} {X0 L : Xs} (hL : Good D L) (hB : BsX D X0) (h0 : LeX D X0 L) : ∀ (n : Nat) (X : Xs), TrX D X0 (n + 1) X → (∀ c, dA D c = true → ∀ f, f < 8 → dS D c f → dff D f ≤ xf X (dg D c) ∧ xt X (dg D c) ≤ dft D f) ∧ ∀ c, dA D c = true → xf X (dg D c) = xf L (dg D c) ∨ n ≤ cp (fun f => decide (dft D f < xf X (dg D c))) 8 := by
  intro n
  induction n with
  | zero =>
    rintro X ⟨W, hW, hR, -⟩
    exact ⟨fun c hc f hf => (((hR.2 c hc).1.2.2 f hf).1), fun c hc => Or.inr (Nat.zero_le _)⟩
  | succ n ih =>
    rintro X ⟨W, hW, hR, -⟩
    refine ⟨fun c hc f hf => (((hR.2 c hc).1.2.2 f hf).1), fun c hc => ?_⟩
    obtain ⟨i1, i2⟩ := ih W hW
    have hWL := tr_le hL.1 h0 _ W hW
    have hXL : LeX D X L := hR.1.2 L hL.1 hWL.2
    have hWX := hR.1.1
    by_cases e : xf W (dg D c) = xf L (dg D c)
    · have a := (hWX c hc).1
      have b := (hXL c hc).1
      exact Or.inl (by omega)
    · refine Or.inr ?_
      have hn := (i2 c hc).resolve_left e
      by_cases q : ∃ d, dA D d = true ∧ dg D d = dg D c ∧ ∃ f, f < 8 ∧ dH D d f ∧ dff D f ≤ xf W (dg D c) ∧ xf W (dg D c) ≤ dft D f
      · obtain ⟨d, hd, hdg, f, hf, hH, h1, h2⟩ := q
        have h3 := ((((hR.2 d hd).1.2.2 f hf).2 hH).1 (by rw [hdg]; exact h1) (by rw [hdg]; exact h2))
        rw [hdg] at h3
        have := cp_lt (f := fun f => decide (dft D f < xf W (dg D c))) (g := fun f => decide (dft D f < xf X (dg D c))) 8 (fun i _ hi => by
          have a := (hWX c hc).1
          have b := of_decide_eq_true hi
          exact decide_eq_true (by omega)) f hf (decide_eq_false (by omega)) (decide_eq_true (by omega))
        omega
      · exact absurd (fin_xf hL (hB.up hWL.1) hWL.2 hc (fun d hd hg f hf hs => by rw [← hg]; exact (i1 d hd f hf hs).1) (fun d hd hg f hf hh h => q ⟨d, hd, hg, f, hf, hh, h.1, h.2⟩)) e
theorem tr_xf {D : Dt} {X0 L : Xs} (hL : Good D L) (hB : BsX D X0) (h0 : LeX D X0 L) {n : Nat} {X : Xs} (h : TrX D X0 n X) (hn : 10 ≤ n) {c : Nat} (hc : dA D c = true) : xf X (dg D c) = xf L (dg D c) := by
  obtain ⟨k, rfl⟩ : ∃ k, n = k + 1 := ⟨n - 1, by omega⟩
  rcases (tr_A hL hB h0 k X h).2 c hc with q | q
  · exact q
  · have := cp_le (fun f => decide (dft D f < xf X (dg D c))) 8
    omega
theorem tr_C {D : Dt} {X0 L : Xs} (h20 : ∀ c, dA D c = true → c < 20) (hL : Good D L) (hB : BsX D X0) (h0 : LeX D X0 L) : ∀ (n : Nat) (X : Xs), TrX D X0 n X → cp (nfB D (yt X) (yt L)) 20 + n ≤ 20 ∨ cp (nfB D (yt X) (yt L)) 20 = 0 := by
  intro n
  induction n with
  | zero => intro X _; exact Or.inl (cp_le _ _)
  | succ n ih =>
    rintro X ⟨W, hW, hR, -⟩
    have hWL := tr_le hL.1 h0 _ W hW
    have hXL : LeX D X L := hR.1.2 L hL.1 hWL.2
    have keep : ∀ i, i < 20 → nfB D (yt X) (yt L) i = true → nfB D (yt W) (yt L) i = true := by
      intro i hi h
      obtain ⟨ha, hne⟩ := nf_i h
      refine nf_t ha (fun e => hne ?_)
      have a := (hR.1.1 i ha).2.2.2
      have b := (hXL i ha).2.2.2
      omega
    by_cases z : cp (nfB D (yt W) (yt L)) 20 = 0
    · have := cp_mono 20 keep
      exact Or.inr (by omega)
    · obtain ⟨c, hc20, hcn, hmin⟩ := arg_min (fun i => nfB D (yt W) (yt L) i = true) (fun i => - yt L i) 20 (nf_ex z)
      obtain ⟨hc, hne⟩ := nf_i hcn
      have hf : yt X c = yt L c := by
        have b := (hXL c hc).2.2.2
        have bw := (hWL.2 c hc).2.2.2
        rcases sup_yt hL hc with ⟨v, hv, e⟩ | ⟨b2, hb2, hl, e⟩
        · have a := ((hB.up hWL.1) c hc).2.2.2 v hv
          exact absurd (by omega) hne
        · have fb : yt W b2 = yt L b2 := by
            by_cases q : yt W b2 = yt L b2
            · exact q
            · have := hmin b2 (h20 b2 hb2) (nf_t hb2 q)
              omega
          have a := ((hR.2 b2 hb2).2 c hc hl).2
          omega
      have := cp_lt 20 keep c hc20 (nf_f hf) hcn
      rcases ih W hW with q | q
      · exact Or.inl (by omega)
      · exact absurd q z
theorem tr_yt {D : Dt} {X0 L : Xs} (h20 : ∀ c, dA D c = true → c < 20) (hL : Good D L) (hB : BsX D X0) (h0 : LeX D X0 L) {n : Nat} {X : Xs} (h : TrX D X0 n X) (hn : 20 ≤ n) {c : Nat} (hc : dA D c = true) : yt X c = yt L c := by
  refine nf_0 (D := D) ?_ hc (h20 c hc)
  rcases tr_C h20 hL hB h0 n X h with q | q
  · omega
  · exact q
theorem tr_B {D : Dt} {X0 L : Xs} (h20 : ∀ c, dA D c = true → c < 20) (hL : Good D L) (hB : BsX D X0) (h0 : LeX D X0 L) : ∀ (n : Nat) (X : Xs), TrX D X0 (10 + n) X → cp (nfB D (yf X) (yf L)) 20 + n ≤ 20 ∨ cp (nfB D (yf X) (yf L)) 20 = 0 := by
  intro n
  induction n with
  | zero => intro X _; exact Or.inl (cp_le _ _)
  | succ n ih =>
    rintro X ⟨W, hW, hR, -⟩
    have hWL := tr_le hL.1 h0 _ W hW
    have hXL : LeX D X L := hR.1.2 L hL.1 hWL.2
    have keep : ∀ i, i < 20 → nfB D (yf X) (yf L) i = true → nfB D (yf W) (yf L) i = true := by
      intro i hi h
      obtain ⟨ha, hne⟩ := nf_i h
      refine nf_t ha (fun e => hne ?_)
      have a := (hR.1.1 i ha).2.2.1
      have b := (hXL i ha).2.2.1
      omega
    by_cases z : cp (nfB D (yf W) (yf L)) 20 = 0
    · have := cp_mono 20 keep
      exact Or.inr (by omega)
    · obtain ⟨c, hc20, hcn, hmin⟩ := arg_min (fun i => nfB D (yf W) (yf L) i = true) (fun i => yf L i) 20 (nf_ex z)
      obtain ⟨hc, hne⟩ := nf_i hcn
      have hf : yf X c = yf L c := by
        have b := (hXL c hc).2.2.1
        have bw := (hWL.2 c hc).2.2.1
        rcases sup_yf hL hc with ⟨v, hv, e⟩ | e | ⟨b2, hb2, hl, e⟩
        · have a := ((hB.up hWL.1) c hc).2.2.1 v hv
          exact absurd (by omega) hne
        · have a := (hR.2 c hc).1.1
          have a2 := tr_xf hL hB h0 (n := 10 + n) hW (by omega) hc
          omega
        · have fb : yf W b2 = yf L b2 := by
            by_cases q : yf W b2 = yf L b2
            · exact q
            · have := hmin b2 (h20 b2 hb2) (nf_t hb2 q)
              omega
          have a := ((hR.2 c hc).2 b2 hb2 hl).1
          omega
      have := cp_lt 20 keep c hc20 (nf_f hf) hcn
      rcases ih W hW with q | q
      · exact Or.inl (by omega)
      · exact absurd q z
theorem tr_yf {D : Dt} {X0 L : Xs} (h20 : ∀ c, dA D c = true → c < 20) (hL : Good D L) (hB : BsX D X0) (h0 : LeX D X0 L) {n : Nat} {X : Xs} (h : TrX D X0 n X) (hn : 30 ≤ n) {c : Nat} (hc : dA D c = true) : yf X c = yf L c := by
  obtain ⟨k, rfl⟩ : ∃ k, n = 10 + k := ⟨n - 10, by omega⟩
  refine nf_0 (D := D) ?_ hc (h20 c hc)
  rcases tr_B h20 hL hB h0 k X h with q | q
  · omega
  · exact q
theorem tr_D {D : Dt} {X0 L : Xs} (h20 : ∀ c, dA D c = true → c < 20) (hL : Good D L) (hB : BsX D X0) (h0 : LeX D X0 L) : ∀ (n : Nat) (X : Xs), TrX D X0 (21 + n) X → ∀ c, dA D c = true → xt X (dg D c) = xt L (dg D c) ∨ n ≤ cp (fun f => decide (xt X (dg D c) < dff D f)) 8 := by
  intro n
  induction n with
  | zero => intro X _ c _; exact Or.inr (Nat.zero_le _)
  | succ n ih =>
    rintro X ⟨W, hW, hR, -⟩ c hc
    have hWL := tr_le hL.1 h0 _ W hW
    have hXL : LeX D X L := hR.1.2 L hL.1 hWL.2
    have hWX := hR.1.1
    by_cases e : xt W (dg D c) = xt L (dg D c)
    · have a := (hWX c hc).2.1
      have b := (hXL c hc).2.1
      exact Or.inl (by omega)
    · refine Or.inr ?_
      have hn := (ih W hW c hc).resolve_left e
      have hW2 : TrX D X0 (20 + n + 1) W := by rw [show 20 + n + 1 = 21 + n by omega]; exact hW
      obtain ⟨V, hV, hRV, -⟩ := id hW2
      by_cases q : ∃ d, dA D d = true ∧ dg D d = dg D c ∧ ∃ f, f < 8 ∧ dH D d f ∧ dff D f ≤ xt W (dg D c) ∧ xt W (dg D c) ≤ dft D f
      · obtain ⟨d, hd, hdg, f, hf, hH, h1, h2⟩ := q
        have h3 := ((((hR.2 d hd).1.2.2 f hf).2 hH).2 (by rw [hdg]; exact h1) (by rw [hdg]; exact h2))
        rw [hdg] at h3
        have := cp_lt (f := fun f => decide (xt W (dg D c) < dff D f)) (g := fun f => decide (xt X (dg D c) < dff D f)) 8 (fun i _ hi => by
          have a := (hWX c hc).2.1
          have b := of_decide_eq_true hi
          exact decide_eq_true (by omega)) f hf (decide_eq_false (by omega)) (decide_eq_true (by omega))
        omega
      · exact absurd (fin_xt hL (hB.up hWL.1) hWL.2 hc (fun d hd hg => by
          have a := (hRV.2 d hd).1.2.1
          have b := tr_yt h20 hL hB h0 hV (by omega) hd
          rw [hg] at a
          omega) (fun d hd hg f hf hs => by rw [← hg]; exact ((tr_A hL hB h0 _ W hW2).1 d hd f hf hs).2) (fun d hd hg f hf hh h => q ⟨d, hd, hg, f, hf, hh, h.1, h.2⟩)) e
theorem tr_xt {D : Dt} {X0 L : Xs} (h20 : ∀ c, dA D c = true → c < 20) (hL : Good D L) (hB : BsX D X0) (h0 : LeX D X0 L) {n : Nat} {X : Xs} (h : TrX D X0 n X) (hn : 30 ≤ n) {c : Nat} (hc : dA D c = true) : xt X (dg D c) = xt L (dg D c) := by
  obtain ⟨k, rfl⟩ : ∃ k, n = 21 + k := ⟨n - 21, by omega⟩
  rcases tr_D h20 hL hB h0 k X h c hc with q | q
  · exact q
  · have := cp_le (fun f => decide (xt X (dg D c) < dff D f)) 8
    omega
/-- more than 30 rounds don't change anything -/
theorem tr_no {D : Dt} {X0 L : Xs} (h20 : ∀ c, dA D c = true → c < 20) (hL : Good D L) (hB : BsX D X0) (h0 : LeX D X0 L) {X : Xs} (h : TrX D X0 32 X) : False := by
  obtain ⟨W, hW, -, -⟩ := h
  obtain ⟨V, hV, hR, c, hc, hs⟩ := hW
  have hVL := tr_le hL.1 h0 _ V hV
  have b := (hR.1.2 L hL.1 hVL.2) c hc
  have a1 := tr_xf hL hB h0 (n := 30) hV (by omega) hc
  have a2 := tr_xt h20 hL hB h0 (n := 30) hV (by omega) hc
  have a3 := tr_yf h20 hL hB h0 (n := 30) hV (by omega) hc
  have a4 := tr_yt h20 hL hB h0 (n := 30) hV (by omega) hc
  omega
