/-! spans: why the rounds end -/
/-! how many cards are there, as a number -/
def tmr (n a : Int32) (f : Nat → Int32) : Nat → Nat → Nat
  | 0, j => j
  | q + 1, j => if nI j < n ∧ f j ≤ a then tmr n a f q (j + 1) else j
def tm (n a : Int32) (f : Nat → Int32) : Nat := tmr n a f 20 0
theorem tmr_le (n a : Int32) (f : Nat → Int32) : ∀ q j : Nat, tmr n a f q j ≤ j + q := by
  intro q
  induction q with
  | zero => intro j; exact Nat.le_refl _
  | succ q ih =>
    intro j
    unfold tmr
    split
    · have := ih (j + 1); omega
    · omega
theorem tm_le (n a : Int32) (f : Nat → Int32) : tm n a f ≤ 20 := tmr_le n a f 20 0
theorem tmr_out0 {n a : Int32} {f : Nat → Int32} {t j : Nat} (h : t = tmr n a f 0 j) : nI j = nI t := by rw [h]; rfl
theorem tmr_out1 {n a : Int32} {f : Nat → Int32} {t q j : Nat} (h : t = tmr n a f (q + 1) j) (h1 : n ≤ nI j) : nI j = nI t := by
  rw [h]; unfold tmr
  rw [if_neg (fun q => absurd h1 (Int32.not_le.mpr q.1))]
theorem tmr_out2 {n a : Int32} {f : Nat → Int32} {t q j : Nat} (h : t = tmr n a f (q + 1) j) (hj : j < 20) (h2 : a < f (Int32.toNatClampNeg (nI j))) : nI j = nI t := by
  rw [nI_clamp (by omega)] at h2
  rw [h]; unfold tmr
  rw [if_neg (fun q => absurd h2 (Int32.not_lt.mpr q.2))]
theorem tmr_step {n a : Int32} {f : Nat → Int32} {t q j : Nat} (h : t = tmr n a f (q + 1) j) (hj : j < 20) (h1 : ¬ n ≤ nI j) (h2 : ¬ a < f (Int32.toNatClampNeg (nI j))) : t = tmr n a f q (j + 1) := by
  rw [nI_clamp (by omega)] at h2
  rw [h]
  show (if nI j < n ∧ f j ≤ a then tmr n a f q (j + 1) else j) = _
  rw [if_pos ⟨Int32.not_le.mp h1, Int32.not_lt.mp h2⟩]
theorem tm_dec {t : Nat} (ht : t ≤ 20) : (nI t - 1).toInt = (t : Int) - 1 := by
  have h := ti_sub (a := nI t) (b := 1) (l1 := 0) (h1 := nI 20) (l2 := 1) (h2 := 1) (l := -1) (h := 19) (inR_nI ht (by decide)) (inR_self _) (by decide) (by decide)
  rw [h, nI_toInt (by omega)]
  rfl
theorem ist_t {c : Int32} {t : Nat} (ht : t ≤ 20) (h : inR c 0 (nI t - 1)) : inR c 0 19 ∧ c.toNatClampNeg < t := by
  have h1 := ti_in h
  rw [tm_dec ht] at h1
  have z0 : (0 : Int32).toInt = 0 := by decide
  have z1 : (19 : Int32).toInt = 19 := by decide
  refine ⟨of_ti (by omega) (by omega), ?_⟩
  show c.toInt.toNat < t
  omega
theorem ist_f {c : Int32} {t : Nat} (ht : t ≤ 20) (h : ¬ inR c 0 (nI t - 1)) : ¬ (inR c 0 19 ∧ c.toNatClampNeg < t) := by
  rintro ⟨h1, h2⟩
  have h3 := ti_in h1
  have h4 : c.toInt.toNat < t := h2
  have z0 : (0 : Int32).toInt = 0 := by decide
  refine h (of_ti (by omega) ?_)
  rw [tm_dec ht]
  omega
theorem nI_of_in {c : Int32} (h : inR c 0 19) : nI c.toNatClampNeg = c := by
  obtain ⟨j, hj, rfl⟩ := nI_inR (M := 19) h (by decide)
  rw [nI_clamp (by omega)]
theorem clamp19 {c : Int32} (h : inR c 0 19) : c.toNatClampNeg < 20 := by
  have h3 := ti_in h
  have z1 : (19 : Int32).toInt = 19 := by decide
  have z0 : (0 : Int32).toInt = 0 := by decide
  show c.toInt.toNat < 20
  omega
/-! spans that get narrower -/
def sm (f : Nat → Int) : Nat → Int
  | 0 => 0
  | n + 1 => sm f n + f n
theorem sm_le0 {f : Nat → Int} : ∀ n : Nat, (∀ c, c < n → f c ≤ 0) → sm f n ≤ 0 := by
  intro n
  induction n with
  | zero => intro _; exact Int.le_refl _
  | succ n ih =>
    intro h
    have h1 := ih (fun c hc => h c (by omega))
    have h2 := h n (by omega)
    show sm f n + f n ≤ 0
    omega
theorem sm_mono {f g : Nat → Int} : ∀ n : Nat, (∀ c, c < n → f c ≤ g c) → sm f n ≤ sm g n := by
  intro n
  induction n with
  | zero => intro _; exact Int.le_refl _
  | succ n ih =>
    intro h
    have h1 := ih (fun c hc => h c (by omega))
    have h2 := h n (by omega)
    show sm f n + f n ≤ sm g n + g n
    omega
theorem sm_strict {f g : Nat → Int} : ∀ n : Nat, (∀ c, c < n → f c ≤ g c) → ∀ c, c < n → f c + 1 ≤ g c → sm f n + 1 ≤ sm g n := by
  intro n
  induction n with
  | zero => intro _ c hc; omega
  | succ n ih =>
    intro h c hc hs
    have h2 := h n (by omega)
    show sm f n + f n + 1 ≤ sm g n + g n
    by_cases e : c = n
    · subst e
      have h1 := sm_mono c (fun d hd => h d (by omega))
      omega
    · have h1 := ih (fun d hd => h d (by omega)) c (by omega) hs
      omega
theorem sm_const {f : Nat → Int} {k : Int} : ∀ n : Nat, (∀ c, c < n → f c = k) → sm f n = k * n := by
  intro n
  induction n with
  | zero => intro _; simp [sm]
  | succ n ih =>
    intro h
    have h1 := ih (fun c hc => h c (by omega))
    have h2 := h n (by omega)
    show sm f n + f n = k * ((n + 1 : Nat) : Int)
    rw [h1, h2, Int.natCast_add, Int.mul_add]
    simp
def ph (σ : Sg) (c : Nat) : Int := ((σ.2.2.1 163 c).toInt - (σ.2.2.1 164 c).toInt) + ((σ.2.2.1 165 c).toInt - (σ.2.2.1 166 c).toInt)
def Phi (σ : Sg) : Int := sm (ph σ) 20
def SameT (σ σ2 : Sg) : Prop := σ2.1 14000 = σ.1 14000 ∧ σ2.1 14013 = σ.1 14013 ∧ σ2.2.2.1 148 = σ.2.2.1 148 ∧ σ2.2.2.1 152 = σ.2.2.1 152
theorem SameT.rfl' (σ : Sg) : SameT σ σ := ⟨rfl, rfl, rfl, rfl⟩
theorem SameT.trans {σ τ υ : Sg} (h : SameT σ τ) (k : SameT τ υ) : SameT σ υ := ⟨k.1.trans h.1, k.2.1.trans h.2.1, k.2.2.1.trans h.2.2.1, k.2.2.2.trans h.2.2.2⟩
/-- from one state to another, by narrowing of the spans of P's cards and of their negatives -/
def Nar (P : Nat → Prop) (σ σ2 : Sg) : Prop :=
  SameT σ σ2 ∧ (∀ c, c < 20 → ph σ c ≤ ph σ2 c) ∧ (σ2.1 14032 = σ.1 14032 ∨ ∃ c, c < 20 ∧ ph σ c + 1 ≤ ph σ2 c) ∧
  (∀ c, ¬ P c → σ2.2.2.1 165 c = σ.2.2.1 165 c ∧ σ2.2.2.1 166 c = σ.2.2.1 166 c) ∧
  (∀ g, (∀ c, P c → (σ.2.2.1 152 c).toNatClampNeg ≠ g) → σ2.2.2.1 163 g = σ.2.2.1 163 g ∧ σ2.2.2.1 164 g = σ.2.2.1 164 g)
theorem Nar.rfl' (P : Nat → Prop) (σ : Sg) : Nar P σ σ := ⟨SameT.rfl' σ, fun _ _ => Int.le_refl _, Or.inl rfl, fun _ _ => ⟨rfl, rfl⟩, fun _ _ => ⟨rfl, rfl⟩⟩
theorem Nar.trans {P : Nat → Prop} {σ τ υ : Sg} (h : Nar P σ τ) (k : Nar P τ υ) : Nar P σ υ := by
  obtain ⟨h1, h2, h3, h4, h5⟩ := h
  obtain ⟨k1, k2, k3, k4, k5⟩ := k
  refine ⟨h1.trans k1, fun c hc => Int.le_trans (h2 c hc) (k2 c hc), ?_, fun c hc => ⟨(k4 c hc).1.trans (h4 c hc).1, (k4 c hc).2.trans (h4 c hc).2⟩, fun g hg => ?_⟩
  · rcases k3 with k3 | ⟨c, hc, k3⟩
    · rcases h3 with h3 | ⟨c, hc, h3⟩
      · exact Or.inl (k3.trans h3)
      · exact Or.inr ⟨c, hc, by have := k2 c hc; omega⟩
    · exact Or.inr ⟨c, hc, by have := h2 c hc; omega⟩
  · have q := k5 g (fun c hc => by rw [h1.2.2.2]; exact hg c hc)
    exact ⟨q.1.trans (h5 g hg).1, q.2.trans (h5 g hg).2⟩
theorem upd_at (f : Nat → Int32) (i : Nat) (v : Int32) : upd f i v i = v := by unfold upd; rw [if_pos rfl]
theorem upd_ne {f : Nat → Int32} {i j : Nat} (v : Int32) (h : ¬ j = i) : upd f i v j = f j := by unfold upd; rw [if_neg h]
set_option maxRecDepth 100000 in
theorem nar_t1 {P : Nat → Prop} {σ : Sg} {g v : Int32} (hP : ∃ c, P c ∧ (σ.2.2.1 152 c).toNatClampNeg = g.toNatClampNeg) (hg : g.toNatClampNeg < 20) (h : ¬ v ≤ σ.2.2.1 163 g.toNatClampNeg) : Nar P σ (uI (uA σ 163 (upd (σ.2.2.1 163) g.toNatClampNeg v)) 14032 1) := by
  have hs := ti_nle h
  refine ⟨⟨rfl, rfl, rfl, rfl⟩, fun c _ => ?_, Or.inr ⟨g.toNatClampNeg, hg, ?_⟩, fun _ _ => ⟨rfl, rfl⟩, fun k hk => ⟨?_, rfl⟩⟩
  · show _ ≤ ((upd (σ.2.2.1 163) g.toNatClampNeg v c).toInt - (σ.2.2.1 164 c).toInt) + ((σ.2.2.1 165 c).toInt - (σ.2.2.1 166 c).toInt)
    unfold ph
    by_cases e : c = g.toNatClampNeg
    · rw [e, upd_at]; omega
    · rw [upd_ne v e]; omega
  · show _ ≤ ((upd (σ.2.2.1 163) g.toNatClampNeg v g.toNatClampNeg).toInt - (σ.2.2.1 164 g.toNatClampNeg).toInt) + ((σ.2.2.1 165 g.toNatClampNeg).toInt - (σ.2.2.1 166 g.toNatClampNeg).toInt)
    unfold ph
    rw [upd_at]; omega
  · show upd (σ.2.2.1 163) g.toNatClampNeg v k = _
    obtain ⟨c, hc, e⟩ := hP
    exact upd_ne v (fun e2 => hk c hc (e.trans e2.symm))
set_option maxRecDepth 100000 in
theorem nar_t2 {P : Nat → Prop} {σ : Sg} {g v : Int32} (hP : ∃ c, P c ∧ (σ.2.2.1 152 c).toNatClampNeg = g.toNatClampNeg) (hg : g.toNatClampNeg < 20) (h : ¬ σ.2.2.1 164 g.toNatClampNeg ≤ v) : Nar P σ (uI (uA σ 164 (upd (σ.2.2.1 164) g.toNatClampNeg v)) 14032 1) := by
  have hs := ti_nle h
  refine ⟨⟨rfl, rfl, rfl, rfl⟩, fun c _ => ?_, Or.inr ⟨g.toNatClampNeg, hg, ?_⟩, fun _ _ => ⟨rfl, rfl⟩, fun k hk => ⟨rfl, ?_⟩⟩
  · show _ ≤ ((σ.2.2.1 163 c).toInt - (upd (σ.2.2.1 164) g.toNatClampNeg v c).toInt) + ((σ.2.2.1 165 c).toInt - (σ.2.2.1 166 c).toInt)
    unfold ph
    by_cases e : c = g.toNatClampNeg
    · rw [e, upd_at]; omega
    · rw [upd_ne v e]; omega
  · show _ ≤ ((σ.2.2.1 163 g.toNatClampNeg).toInt - (upd (σ.2.2.1 164) g.toNatClampNeg v g.toNatClampNeg).toInt) + ((σ.2.2.1 165 g.toNatClampNeg).toInt - (σ.2.2.1 166 g.toNatClampNeg).toInt)
    unfold ph
    rw [upd_at]; omega
  · show upd (σ.2.2.1 164) g.toNatClampNeg v k = _
    obtain ⟨c, hc, e⟩ := hP
    exact upd_ne v (fun e2 => hk c hc (e.trans e2.symm))
set_option maxRecDepth 100000 in
theorem nar_o1 {P : Nat → Prop} {σ : Sg} {g v : Int32} (hP : P g.toNatClampNeg) (hg : g.toNatClampNeg < 20) (h : ¬ v ≤ σ.2.2.1 165 g.toNatClampNeg) : Nar P σ (uI (uA σ 165 (upd (σ.2.2.1 165) g.toNatClampNeg v)) 14032 1) := by
  have hs := ti_nle h
  refine ⟨⟨rfl, rfl, rfl, rfl⟩, fun c _ => ?_, Or.inr ⟨g.toNatClampNeg, hg, ?_⟩, fun k hk => ⟨?_, rfl⟩, fun _ _ => ⟨rfl, rfl⟩⟩
  · show _ ≤ ((σ.2.2.1 163 c).toInt - (σ.2.2.1 164 c).toInt) + ((upd (σ.2.2.1 165) g.toNatClampNeg v c).toInt - (σ.2.2.1 166 c).toInt)
    unfold ph
    by_cases e : c = g.toNatClampNeg
    · rw [e, upd_at]; omega
    · rw [upd_ne v e]; omega
  · show _ ≤ ((σ.2.2.1 163 g.toNatClampNeg).toInt - (σ.2.2.1 164 g.toNatClampNeg).toInt) + ((upd (σ.2.2.1 165) g.toNatClampNeg v g.toNatClampNeg).toInt - (σ.2.2.1 166 g.toNatClampNeg).toInt)
    unfold ph
    rw [upd_at]; omega
  · show upd (σ.2.2.1 165) g.toNatClampNeg v k = _
    exact upd_ne v (fun e2 => hk (by rw [e2]; exact hP))
set_option maxRecDepth 100000 in
theorem nar_o2 {P : Nat → Prop} {σ : Sg} {g v : Int32} (hP : P g.toNatClampNeg) (hg : g.toNatClampNeg < 20) (h : ¬ σ.2.2.1 166 g.toNatClampNeg ≤ v) : Nar P σ (uI (uA σ 166 (upd (σ.2.2.1 166) g.toNatClampNeg v)) 14032 1) := by
  have hs := ti_nle h
  refine ⟨⟨rfl, rfl, rfl, rfl⟩, fun c _ => ?_, Or.inr ⟨g.toNatClampNeg, hg, ?_⟩, fun k hk => ⟨rfl, ?_⟩, fun _ _ => ⟨rfl, rfl⟩⟩
  · show _ ≤ ((σ.2.2.1 163 c).toInt - (σ.2.2.1 164 c).toInt) + ((σ.2.2.1 165 c).toInt - (upd (σ.2.2.1 166) g.toNatClampNeg v c).toInt)
    unfold ph
    by_cases e : c = g.toNatClampNeg
    · rw [e, upd_at]; omega
    · rw [upd_ne v e]; omega
  · show _ ≤ ((σ.2.2.1 163 g.toNatClampNeg).toInt - (σ.2.2.1 164 g.toNatClampNeg).toInt) + ((σ.2.2.1 165 g.toNatClampNeg).toInt - (upd (σ.2.2.1 166) g.toNatClampNeg v g.toNatClampNeg).toInt)
    unfold ph
    rw [upd_at]; omega
  · show upd (σ.2.2.1 166) g.toNatClampNeg v k = _
    exact upd_ne v (fun e2 => hk (by rw [e2]; exact hP))
/-- the cards whose spans are asked for -/
def PS (σ : Sg) (u : Int32) : Nat → Prop := fun c => c < tm (σ.1 14000) (σ.1 14013) (σ.2.2.1 148) ∧ ¬ nI c = u
/-- between two rounds -/
def Zr (P : Nat → Prop) (σA σ : Sg) : Prop :=
  SameT σA σ ∧ (∀ c, c < 20 → ¬ P c → (σ.2.2.1 165 c).toInt ≤ (σ.2.2.1 166 c).toInt) ∧ (∀ g, g < 20 → (∀ c, P c → (σ.2.2.1 152 c).toNatClampNeg ≠ g) → (σ.2.2.1 163 g).toInt ≤ (σ.2.2.1 164 g).toInt)
/-- what a look for an empty span says, if it finds none -/
def NoE (σ : Sg) (u : Int32) (n : Nat) : Prop := ∀ c, c < n → ¬ nI c = u → ¬ σ.2.2.1 166 c < σ.2.2.1 165 c ∧ ¬ σ.2.2.1 164 (σ.2.2.1 152 c).toNatClampNeg < σ.2.2.1 163 (σ.2.2.1 152 c).toNatClampNeg
theorem noE_0 (σ : Sg) (u : Int32) : NoE σ u 0 := fun c hc => absurd hc (by omega)
theorem noE_s1 {σ : Sg} {u : Int32} {j : Nat} (h : NoE σ u j) (e : nI j = u) : NoE σ u (j + 1) := by
  intro c hc hne
  by_cases e2 : c = j
  · subst e2; exact absurd e hne
  · exact h c (by omega) hne
theorem noE_s2 {σ : Sg} {u : Int32} {j : Nat} (h : NoE σ u j) (hj : j < 20) (h1 : ¬ σ.2.2.1 166 (nI j).toNatClampNeg < σ.2.2.1 165 (nI j).toNatClampNeg) (h2 : σ.2.2.1 163 (σ.2.2.1 152 (nI j).toNatClampNeg).toNatClampNeg ≤ σ.2.2.1 164 (σ.2.2.1 152 (nI j).toNatClampNeg).toNatClampNeg) : NoE σ u (j + 1) := by
  rw [nI_clamp (show j < 2 ^ 31 by omega)] at h1 h2
  intro c hc hne
  by_cases e2 : c = j
  · subst e2; exact ⟨h1, Int32.not_lt.mpr h2⟩
  · exact h c (by omega) hne
theorem noE_le {σ : Sg} {u : Int32} {j n : Nat} (h : NoE σ u j) (hn : n ≤ j) : NoE σ u n := fun c hc hne => h c (by omega) hne
theorem zr_phi {u : Int32} {σA σ : Sg} (h : Zr (PS σA u) σA σ) (hE : NoE σ u (tm (σ.1 14000) (σ.1 14013) (σ.2.2.1 148))) : Phi σ ≤ 0 := by
  obtain ⟨⟨e1, e2, e3, e4⟩, h2, h3⟩ := h
  rw [e1, e2, e3] at hE
  refine sm_le0 20 (fun c hc => ?_)
  have a1 : (σ.2.2.1 165 c).toInt ≤ (σ.2.2.1 166 c).toInt := by
    by_cases hp : PS σA u c
    · exact ti_nlt (hE c hp.1 hp.2).1
    · exact h2 c hc hp
  have a2 : (σ.2.2.1 163 c).toInt ≤ (σ.2.2.1 164 c).toInt := by
    by_cases hp : ∃ d, PS σA u d ∧ (σ.2.2.1 152 d).toNatClampNeg = c
    · obtain ⟨d, hd, rfl⟩ := hp
      exact ti_nlt (hE d hd.1 hd.2).2
    · exact h3 c hc (fun d hd e => hp ⟨d, hd, e⟩)
  unfold ph
  omega
set_option maxRecDepth 100000 in
theorem zr_nar {P : Nat → Prop} {σA σ σ2 : Sg} (h : Zr P σA σ) (k : Nar P (uI σ 14032 0) σ2) : Zr P σA σ2 := by
  obtain ⟨h1, h2, h3⟩ := h
  obtain ⟨k1, -, -, k4, k5⟩ := k
  refine ⟨h1.trans k1, fun c hc hp => ?_, fun g hg hp => ?_⟩
  · rw [(k4 c hp).1, (k4 c hp).2]; exact h2 c hc hp
  · have e4 : σ2.2.2.1 152 = σ.2.2.1 152 := k1.2.2.2
    have q := k5 g (fun c hc => by have := hp c hc; rw [e4] at this; exact this)
    rw [q.1, q.2]
    exact h3 g hg (fun c hc => by have := hp c hc; rw [e4] at this; exact this)
set_option maxRecDepth 100000 in
theorem nar_phi {P : Nat → Prop} {σ σ2 : Sg} (k : Nar P (uI σ 14032 0) σ2) : σ2.1 14032 = 0 ∨ Phi σ + 1 ≤ Phi σ2 := by
  obtain ⟨-, k2, k3, -, -⟩ := k
  rcases k3 with k3 | ⟨c, hc, k3⟩
  · exact Or.inl k3
  · exact Or.inr (sm_strict 20 k2 c hc k3)
/-- the spans as they are first -/
def Ini (σ : Sg) (j : Nat) : Prop := ∀ c, c < j → σ.2.2.1 163 c = 0 ∧ σ.2.2.1 164 c = 20000 ∧ σ.2.2.1 165 c = 0 ∧ σ.2.2.1 166 c = 20000
theorem ini_0 (σ : Sg) : Ini σ 0 := fun c hc => absurd hc (by omega)
set_option maxRecDepth 100000 in
theorem ini_s {σ : Sg} {j : Nat} (h : Ini σ j) (hj : j < 20) : Ini (uA (uA (uA (uA σ 163 (upd (σ.2.2.1 163) (Int32.toNatClampNeg (nI j)) 0)) 164 (upd (σ.2.2.1 164) (Int32.toNatClampNeg (nI j)) 20000)) 165 (upd (σ.2.2.1 165) (Int32.toNatClampNeg (nI j)) 0)) 166 (upd (σ.2.2.1 166) (Int32.toNatClampNeg (nI j)) 20000)) (j + 1) := by
  intro c hc
  show upd (σ.2.2.1 163) (Int32.toNatClampNeg (nI j)) 0 c = 0 ∧ upd (σ.2.2.1 164) (Int32.toNatClampNeg (nI j)) 20000 c = 20000 ∧ upd (σ.2.2.1 165) (Int32.toNatClampNeg (nI j)) 0 c = 0 ∧ upd (σ.2.2.1 166) (Int32.toNatClampNeg (nI j)) 20000 c = 20000
  rw [nI_clamp (show j < 2 ^ 31 by omega)]
  by_cases e : c = j
  · subst e; exact ⟨upd_at _ _ _, upd_at _ _ _, upd_at _ _ _, upd_at _ _ _⟩
  · rw [upd_ne _ e, upd_ne _ e, upd_ne _ e, upd_ne _ e]; exact h c (by omega)
theorem ini_zr {P : Nat → Prop} {σ : Sg} (h : Ini σ 20) : Zr P σ (uI σ 14032 1) := by
  refine ⟨⟨rfl, rfl, rfl, rfl⟩, fun c hc _ => ?_, fun g hg _ => ?_⟩
  · show (σ.2.2.1 165 c).toInt ≤ (σ.2.2.1 166 c).toInt
    rw [(h c hc).2.2.1, (h c hc).2.2.2]; decide
  · show (σ.2.2.1 163 g).toInt ≤ (σ.2.2.1 164 g).toInt
    rw [(h g hg).1, (h g hg).2.1]; decide
theorem ini_phi {σ : Sg} (h : Ini σ 20) : 1 ≤ Phi (uI σ 14032 1) + ((800001 : Nat) : Int) := by
  have e : Phi (uI σ 14032 1) = -40000 * ((20 : Nat) : Int) := by
    refine sm_const 20 (fun c hc => ?_)
    show ((σ.2.2.1 163 c).toInt - (σ.2.2.1 164 c).toInt) + ((σ.2.2.1 165 c).toInt - (σ.2.2.1 166 c).toInt) = -40000
    rw [(h c hc).1, (h c hc).2.1, (h c hc).2.2.1, (h c hc).2.2.2]; decide
  rw [e]; decide
theorem tm_in (n a : Int32) (f : Nat → Int32) : inR (nI (tm n a f)) 0 20 := inR_nI (n := tm n a f) (M := 20) (tm_le n a f) (by decide)
theorem ps_of {σA σ : Sg} {u : Int32} {j : Nat} (hs : SameT σA σ) (hj : j < 20) (h1 : ¬ nI (tm (σ.1 14000) (σ.1 14013) (σ.2.2.1 148)) ≤ nI j) (h2 : ¬ nI j = u) : PS σA u (nI j).toNatClampNeg := by
  rw [nI_clamp (show j < 2 ^ 31 by omega)]
  refine ⟨?_, h2⟩
  rw [hs.1, hs.2.1, hs.2.2.1] at h1
  have := tm_le (σA.1 14000) (σA.1 14013) (σA.2.2.1 148)
  exact Nat.not_le.mp (fun q => h1 (nI_le q (by omega)))
theorem ps_of2 {σA σ : Sg} {u c : Int32} (hs : SameT σA σ) (hc : inR c 0 19) (h1 : c.toNatClampNeg < tm (σ.1 14000) (σ.1 14013) (σ.2.2.1 148)) (h2 : ¬ c = u) : PS σA u c.toNatClampNeg := by
  rw [hs.1, hs.2.1, hs.2.2.1] at h1
  exact ⟨h1, by rw [nI_of_in hc]; exact h2⟩
theorem tm_leJ {n a : Int32} {f : Nat → Int32} {j : Nat} (hj : j < 20) (h : nI (tm n a f) ≤ nI j) : tm n a f ≤ j := by
  have := tm_le n a f
  exact (nI_leI (by omega) (by omega)).mp h
