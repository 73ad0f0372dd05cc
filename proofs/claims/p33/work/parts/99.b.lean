/-! the data of dating -/
/-! the data of dating, named by the class's cells; the same by the reference's -/
/-- days are days -/
def DtR (σ : Sg) : Prop := (∀ f, f < 8 → inR (σ.2.2.1 59 f) 0 20000 ∧ inR (σ.2.2.1 60 f) 0 20000) ∧ (∀ k, k < 5 → inR (σ.2.2.1 61 k) 0 20000 ∧ inR (σ.2.2.1 62 k) 0 20000) ∧ (∀ c, c < 20 → inR (σ.2.2.1 8 c) (-1) 20000)
def LnR (p : Nat) (σ : Sg) : Prop := ∀ i, i < (σ.1 (100 * p + 6)).toNatClampNeg → ¬ σ.2.2.1 (p + 4) i = 0 → inR (σ.2.2.1 (p + 5) i) 0 20000 ∧ inR (σ.2.2.1 (p + 6) i) 0 20000
/-- a line of both sides -/
def LnE (p : Nat) (σ : Sg) (i : Nat) : Prop := σ.2.2.1 172 (6 * i) = σ.2.2.1 (p + 1) i ∧ σ.2.2.1 172 (6 * i + 1) = σ.2.2.1 (p + 2) i ∧ σ.2.2.1 172 (6 * i + 2) = σ.2.2.1 (p + 3) i ∧ (¬ σ.2.2.1 (p + 4) i = 0 ∧ σ.2.2.1 172 (6 * i + 3) = 1 ∧ σ.2.2.1 172 (6 * i + 4) = σ.2.2.1 (p + 5) i ∧ σ.2.2.1 172 (6 * i + 5) = σ.2.2.1 (p + 6) i ∨ σ.2.2.1 (p + 4) i = 0 ∧ ¬ σ.2.2.1 172 (6 * i + 3) = 1 ∧ σ.2.2.1 172 (6 * i + 4) = σ.2.2.1 (p + 5) i)
def LnT (p : Nat) (σ : Sg) : Prop := σ.1 14047 = σ.1 (100 * p + 6) ∧ LnR p σ ∧ ∀ i, i < (σ.1 (100 * p + 6)).toNatClampNeg → LnE p σ i
def Ln (σ : Sg) : Prop := (σ.2.2.2.2.1 = 126 ∨ σ.2.2.2.2.1 = 133) ∧ LnT σ.2.2.2.2.1 σ
theorem rnV_in {f : Nat → Int32} {n : Nat} {lo hi : Int32} {st : St} (h : lo ≤ hi) : inR (rnV f n lo hi st) lo hi := by
  unfold rnV
  cases q : (decide (st.2 = -1) && inB (nu f n st.1) lo hi)
  · exact ⟨Int32.lt_irrefl, Int32.not_lt.mpr h⟩
  · rw [Bool.and_eq_true] at q
    exact inB_r q.2
theorem lnE_of {p : Nat} {σ : Sg} {i : Nat} {f : Nat → Int32} {n : Nat} {st : St} (h : LK p σ i f n st) (k : LnC (σ.2.2.1 172) i f n st) : LnE p σ i ∧ (¬ σ.2.2.1 (p + 4) i = 0 → inR (σ.2.2.1 (p + 5) i) 0 20000 ∧ inR (σ.2.2.1 (p + 6) i) 0 20000) := by
  obtain ⟨a1, a2, a3, a4⟩ := h
  obtain ⟨b1, b2, b3, b4⟩ := k
  rcases a4 with ⟨q, a4, a5, a6⟩ | ⟨q, a4, a5⟩
  · rcases b4 with ⟨-, b4, b5, b6⟩ | ⟨r, -⟩
    · have hl : inR (lnL f n st) 0 20000 := rnV_in (by decide)
      have hh : inR (lnH f n st) (lnL f n st) 20000 := rnV_in (Int32.not_lt.mp hl.2)
      refine ⟨⟨b1.trans a1.symm, b2.trans a2.symm, b3.trans a3.symm, Or.inl ⟨by rw [a4]; decide, b4, b5.trans a5.symm, b6.trans a6.symm⟩⟩, fun _ => ?_⟩
      rw [a5, a6]
      exact ⟨hl, ⟨fun e => hl.1 (Int32.lt_of_le_of_lt (Int32.not_lt.mp hh.1) e), hh.2⟩⟩
    · rw [q] at r; cases r
  · rcases b4 with ⟨r, -⟩ | ⟨-, b4, b5⟩
    · rw [q] at r; cases r
    · exact ⟨⟨b1.trans a1.symm, b2.trans a2.symm, b3.trans a3.symm, Or.inr ⟨a4, by rw [b4]; decide, b5.trans a5.symm⟩⟩, fun e => absurd a4 e⟩
theorem sym_RC0 {σ : Sg} (hI : Inv σ) (hT : Tie σ) (hD : ChD σ) : Sym (RC0 σ) (tb (thI σ)) := by
  intro x y hx hy hr
  by_cases e : x = y
  · rw [e] at hr ⊢; exact hr
  · have a := thI_t hx
    have b := thI_t hy
    have h1 : lkC σ (nI x) (nI y) = lkC σ (nI y) (nI x) := by
      unfold lkC
      rw [chD_at hI hD (tt_of a b e), chD_at hI hD (tt_of b a (fun q => e q.symm)), dv_sym hI (by rw [nI_clamp (by omega)]; exact a.1) (by rw [nI_clamp (by omega)]; exact b.1)]
    exact h1.symm.trans hr
