/-! the data of dating -/
/-! the data of dating, named by the class's cells; the same by the reference's -/
noncomputable def DC (σ : Sg) (μ : Int32) (p : Nat) : Dt := (fun c => tb μ c, fun c => lab (RC0 σ) (tb μ) c, fun c f => σ.2.2.1 (64 + c) f = 1, fun c f => σ.2.2.1 (64 + c) f = 0, fun f => (σ.2.2.1 59 f).toInt, fun f => (σ.2.2.1 60 f).toInt, fun c v => IsI p σ c (σ.1 (100 * p + 6)).toNatClampNeg v, fun c v => IsJ p σ c (σ.1 (100 * p + 6)).toNatClampNeg v, fun a b => ∃ k, k < (σ.1 5809).toNatClampNeg ∧ σ.2.2.1 84 k = nI a ∧ σ.2.2.1 85 k = nI b)
/-- days are days -/
def DtR (σ : Sg) : Prop := (∀ f, f < 8 → inR (σ.2.2.1 59 f) 0 20000 ∧ inR (σ.2.2.1 60 f) 0 20000) ∧ (∀ k, k < 5 → inR (σ.2.2.1 61 k) 0 20000 ∧ inR (σ.2.2.1 62 k) 0 20000) ∧ (∀ c, c < 20 → inR (σ.2.2.1 8 c) (-1) 20000)
def LnR (p : Nat) (σ : Sg) : Prop := ∀ i, i < (σ.1 (100 * p + 6)).toNatClampNeg → ¬ σ.2.2.1 (p + 4) i = 0 → inR (σ.2.2.1 (p + 5) i) 0 20000 ∧ inR (σ.2.2.1 (p + 6) i) 0 20000
theorem dtC_DC {σ : Sg} {μ : Int32} {p : Nat} (hI : Inv σ) (hb : inR μ 0 1048575) (hR : DtR σ) (hL : LnR p σ) : DtC (DC σ μ p) μ p σ := by
  have z0 : (0 : Int32).toInt = 0 := by decide
  have z1 : (-1 : Int32).toInt = -1 := by decide
  have z2 : (20000 : Int32).toInt = 20000 := by decide
  have hbk : ∀ c, tb μ c = true → (σ.2.2.1 5 c).toNatClampNeg < 5 := fun c hc => by
    have q := clampM (M := 4) (iva_5 hI c (lt_20 hb hc)) (by decide)
    omega
  refine ⟨fun _ => rfl, fun _ _ => rfl, fun _ _ _ _ => ⟨Iff.rfl, Iff.rfl⟩, fun f hf => ?_, fun _ _ _ _ => Iff.rfl, fun _ _ _ => ⟨Iff.rfl, Iff.rfl⟩, fun c v hc => ⟨fun h => ?_, fun h => ?_⟩⟩
  · have a := ti_in (hR.1 f hf).1
    have b := ti_in (hR.1 f hf).2
    exact ⟨rfl, rfl, (show 0 ≤ (σ.2.2.1 59 f).toInt by omega), (show (σ.2.2.1 59 f).toInt ≤ 20000 by omega), (show 0 ≤ (σ.2.2.1 60 f).toInt by omega), (show (σ.2.2.1 60 f).toInt ≤ 20000 by omega)⟩
  · have h : IsI p σ c (σ.1 (100 * p + 6)).toNatClampNeg v := h
    rcases h with e | ⟨i, hi, hf, e⟩
    · have a := ti_in (hR.2.1 _ (hbk c hc)).1
      omega
    · have a := ti_in (hL i hi hf.1).1
      omega
  · have h : IsJ p σ c (σ.1 (100 * p + 6)).toNatClampNeg v := h
    rcases h with e | ⟨hn, e⟩ | ⟨i, hi, hf, e⟩
    · have a := ti_in (hR.2.1 _ (hbk c hc)).2
      omega
    · have a := ti_in (hR.2.2 c (lt_20 hb hc))
      have n : (σ.2.2.1 8 c).toInt ≠ -1 := fun q => hn (Int32.toInt_inj.mp (q.trans z1.symm))
      omega
    · have a := ti_in (hL i hi hf.1).2
      omega
/-- a line of both sides -/
def LnE (p : Nat) (σ : Sg) (i : Nat) : Prop := σ.2.2.1 172 (6 * i) = σ.2.2.1 (p + 1) i ∧ σ.2.2.1 172 (6 * i + 1) = σ.2.2.1 (p + 2) i ∧ σ.2.2.1 172 (6 * i + 2) = σ.2.2.1 (p + 3) i ∧ (¬ σ.2.2.1 (p + 4) i = 0 ∧ σ.2.2.1 172 (6 * i + 3) = 1 ∧ σ.2.2.1 172 (6 * i + 4) = σ.2.2.1 (p + 5) i ∧ σ.2.2.1 172 (6 * i + 5) = σ.2.2.1 (p + 6) i ∨ σ.2.2.1 (p + 4) i = 0 ∧ ¬ σ.2.2.1 172 (6 * i + 3) = 1 ∧ σ.2.2.1 172 (6 * i + 4) = σ.2.2.1 (p + 5) i)
def LnT (p : Nat) (σ : Sg) : Prop := σ.1 14047 = σ.1 (100 * p + 6) ∧ LnR p σ ∧ ∀ i, i < (σ.1 (100 * p + 6)).toNatClampNeg → LnE p σ i
def Ln (σ : Sg) : Prop := (σ.2.2.2.2.1 = 126 ∨ σ.2.2.2.2.1 = 133) ∧ LnT σ.2.2.2.2.1 σ
theorem rnV_in {f : Nat → Int32} {n : Nat} {lo hi : Int32} {st : St} (h : lo ≤ hi) : inR (rnV f n lo hi st) lo hi := by
  unfold rnV
  cases q : (decide (st.2 = -1) && inB (nu f n st.1) lo hi)
  · exact ⟨Int32.lt_irrefl, Int32.not_lt.mpr h⟩
  · rw [Bool.and_eq_true] at q
    exact inB_r q.2
theorem lnE_of {p : Nat} {σ : Sg} {i : Nat} {f : Nat → Int32} {n : Nat} {st : St} (h : LK p σ i f n st) (k : LnC (σ.2.2.1 172) i f n st) : LnE p σ i ∧ (¬ σ.2.2.1 (p + 4) i = 0 → inR (σ.2.2.1 (p + 5) i) 0 20000 ∧ inR (σ.2.2.1 (p + 6) i) 0 20000) := by
  obtain ⟨a1, a2, a3, a4⟩ := h
  obtain ⟨b1, b2, b3, b4⟩ := k
  rcases a4 with ⟨q, a4, a5, a6⟩ | ⟨q, a4, a5⟩
  · rcases b4 with ⟨-, b4, b5, b6⟩ | ⟨r, -⟩
    · have hl : inR (lnL f n st) 0 20000 := rnV_in (by decide)
      have hh : inR (lnH f n st) (lnL f n st) 20000 := rnV_in (Int32.not_lt.mp hl.2)
      refine ⟨⟨b1.trans a1.symm, b2.trans a2.symm, b3.trans a3.symm, Or.inl ⟨by rw [a4]; decide, b4, b5.trans a5.symm, b6.trans a6.symm⟩⟩, fun _ => ?_⟩
      rw [a5, a6]
      exact ⟨hl, ⟨fun e => hl.1 (Int32.lt_of_le_of_lt (Int32.not_lt.mp hh.1) e), hh.2⟩⟩
    · rw [q] at r; cases r
  · rcases b4 with ⟨r, -⟩ | ⟨-, b4, b5⟩
    · rw [q] at r; cases r
    · exact ⟨⟨b1.trans a1.symm, b2.trans a2.symm, b3.trans a3.symm, Or.inr ⟨a4, by rw [b4]; decide, b5.trans a5.symm⟩⟩, fun e => absurd a4 e⟩
theorem im_is {σ σ2 : Sg} {p : Nat} (hT : Tie σ) (hL : LnT p σ) (k : Cor σ σ2) {c : Nat} (v : Int) : (IsI p σ c (σ.1 (100 * p + 6)).toNatClampNeg v ↔ ImI 1 σ2 c (σ2.1 14047).toNatClampNeg v) ∧ (IsJ p σ c (σ.1 (100 * p + 6)).toNatClampNeg v ↔ ImJ 1 σ2 c (σ2.1 14047).toNatClampNeg v) := by
  have z : σ2.1 14047 = σ.1 (100 * p + 6) := (k.1 14047 rfl).trans hL.1
  have L : ∀ i, i < (σ.1 (100 * p + 6)).toNatClampNeg → ((LnF p σ c i ↔ LmF σ c i) ∧ (LnF p σ c i → σ.2.2.1 172 (6 * i + 4) = σ.2.2.1 (p + 5) i ∧ σ.2.2.1 172 (6 * i + 5) = σ.2.2.1 (p + 6) i)) := by
    intro i hi
    obtain ⟨e1, e2, e3, e4⟩ := hL.2.2 i hi
    unfold LnF LmF
    rw [e1, e2, e3, t_publ hT, t_numb hT]
    rcases e4 with ⟨a, b, c1, d⟩ | ⟨a, b, -⟩
    · exact ⟨⟨fun q => ⟨b, q.2.1, q.2.2⟩, fun q => ⟨a, q.2.1, q.2.2⟩⟩, fun _ => ⟨c1, d⟩⟩
    · exact ⟨⟨fun q => absurd a q.1, fun q => absurd q.1 b⟩, fun q => absurd a q.1⟩
  have e1 := (im_cor (b := 1) (c := c) (j := (σ.1 (100 * p + 6)).toNatClampNeg) k v)
  rw [z, e1.1, e1.2]
  unfold IsI ImI IsJ ImJ
  rw [t_bfr hT, t_bto hT, t_back hT, t_post hT]
  constructor
  · constructor
    · rintro (q | ⟨i, h1, h2, h3⟩)
      · exact Or.inl q
      · exact Or.inr ⟨i, by decide, h1, (L i h1).1.mp h2, by rw [((L i h1).2 h2).1]; exact h3⟩
    · rintro (q | ⟨i, -, h1, h2, h3⟩)
      · exact Or.inl q
      · have h4 := (L i h1).1.mpr h2
        exact Or.inr ⟨i, h1, h4, by rw [((L i h1).2 h4).1] at h3; exact h3⟩
  · constructor
    · rintro (q | q | ⟨i, h1, h2, h3⟩)
      · exact Or.inl q
      · exact Or.inr (Or.inl q)
      · exact Or.inr (Or.inr ⟨i, by decide, h1, (L i h1).1.mp h2, by rw [((L i h1).2 h2).2]; exact h3⟩)
    · rintro (q | q | ⟨i, -, h1, h2, h3⟩)
      · exact Or.inl q
      · exact Or.inr (Or.inl q)
      · have h4 := (L i h1).1.mpr h2
        exact Or.inr (Or.inr ⟨i, h1, h4, by rw [((L i h1).2 h4).2] at h3; exact h3⟩)
theorem sym_RC0 {σ : Sg} (hI : Inv σ) (hT : Tie σ) (hD : ChD σ) : Sym (RC0 σ) (tb (thI σ)) := by
  intro x y hx hy hr
  by_cases e : x = y
  · rw [e] at hr ⊢; exact hr
  · have a := thI_t hx
    have b := thI_t hy
    have h1 : lkC σ (nI x) (nI y) = lkC σ (nI y) (nI x) := by
      unfold lkC
      rw [chD_at hI hD (tt_of a b e), chD_at hI hD (tt_of b a (fun q => e q.symm)), dv_sym hI (by rw [nI_clamp (by omega)]; exact a.1) (by rw [nI_clamp (by omega)]; exact b.1)]
    exact h1.symm.trans hr
/-- the reference's cells name the same data -/
theorem dtM_DC {σ σ2 : Sg} (hI : Inv σ) (hT : Tie σ) (hD : ChD σ) (hR : DtR σ) (hLn : Ln σ) (k : Cor σ σ2) : DtM (DC σ (thI σ) σ.2.2.2.2.1) (-1) 1 σ2 := by
  have hb := thI_in σ
  have C := dtC_DC (p := σ.2.2.2.2.1) hI hb hR hLn.2.2.1
  have A : ∀ c, tb (thI σ) c = (decide (c < TMn σ2) && !decide (nI c = -1)) := fun c => (thI_AM hI hT k c).trans (AM_of (Cor.rfl' σ2) c).symm
  refine ⟨A, fun c hc => ?_, fun c f hc hf => ?_, fun f hf => ?_, fun a b ha hb2 => ?_, fun c v hc => im_is hT hLn.2 k v, C.2.2.2.2.2.2⟩
  · exact (lab_lk hI hT hD k hc).trans (lab_congr (fun i => (AM_of (Cor.rfl' σ2) i).symm) ((thI_AM hI hT k c).symm.trans hc) (fun _ _ _ _ _ => rfl))
  · have t := thI_t hc
    have s := thC_s hI t.2
    rw [nI_clamp (by omega)] at s
    rw [k.2.2.1 158 rfl, t_shown hT c f t.1 s hf]
    exact ⟨Iff.rfl, Iff.rfl⟩
  · have q := C.2.2.2.1 f hf
    rw [k.2.2.1 156 rfl, k.2.2.1 157 rfl, t_ffr hT, t_fto hT]
    exact q
  · rw [k.1 14025 rfl, k.2.2.1 161 rfl, k.2.2.1 162 rfl, t_laters hT, t_late hT, t_earl hT]
    exact Iff.rfl
theorem dc_20 {σ : Sg} {μ : Int32} {p : Nat} (hb : inR μ 0 1048575) : ∀ c, dA (DC σ μ p) c = true → c < 20 := fun _ h => lt_20 hb h
