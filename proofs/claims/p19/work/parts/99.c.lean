/-! what the lines and the dates keep -/
/-! what Ln and DtR need: that these cells are the same -/
def FLn (σ τ : Sg) : Prop := τ.2.2.2.2.1 = σ.2.2.2.2.1 ∧ τ.1 14047 = σ.1 14047 ∧ τ.1 12606 = σ.1 12606 ∧ τ.1 13306 = σ.1 13306 ∧ τ.2.2.1 172 = σ.2.2.1 172 ∧ ∀ q, 126 ≤ q → q ≤ 139 → τ.2.2.1 q = σ.2.2.1 q
def FDt (σ τ : Sg) : Prop := τ.2.2.1 59 = σ.2.2.1 59 ∧ τ.2.2.1 60 = σ.2.2.1 60 ∧ τ.2.2.1 61 = σ.2.2.1 61 ∧ τ.2.2.1 62 = σ.2.2.1 62 ∧ τ.2.2.1 8 = σ.2.2.1 8
theorem fln_0 (σ : Sg) : FLn σ σ := ⟨rfl, rfl, rfl, rfl, rfl, fun _ _ _ => rfl⟩
theorem fdt_0 (σ : Sg) : FDt σ σ := ⟨rfl, rfl, rfl, rfl, rfl⟩
theorem fln_t {σ τ υ : Sg} (h : FLn σ τ) (k : FLn τ υ) : FLn σ υ := ⟨k.1.trans h.1, k.2.1.trans h.2.1, k.2.2.1.trans h.2.2.1, k.2.2.2.1.trans h.2.2.2.1, k.2.2.2.2.1.trans h.2.2.2.2.1, fun q a b => (k.2.2.2.2.2 q a b).trans (h.2.2.2.2.2 q a b)⟩
theorem fdt_t {σ τ υ : Sg} (h : FDt σ τ) (k : FDt τ υ) : FDt σ υ := ⟨k.1.trans h.1, k.2.1.trans h.2.1, k.2.2.1.trans h.2.2.1, k.2.2.2.1.trans h.2.2.2.1, k.2.2.2.2.trans h.2.2.2.2⟩
theorem fln_i {σ τ : Sg} (n : Nat) (v : Int32) (h : FLn σ τ) (hn : ¬ n = 14047 ∧ ¬ n = 12606 ∧ ¬ n = 13306) : FLn σ (uI τ n v) := by
  refine ⟨h.1, ?_, ?_, ?_, h.2.2.2.2⟩
  · show va_up τ.1 n v 14047 = _
    rw [up_ne _ (fun e => hn.1 e.symm)]; exact h.2.1
  · show va_up τ.1 n v 12606 = _
    rw [up_ne _ (fun e => hn.2.1 e.symm)]; exact h.2.2.1
  · show va_up τ.1 n v 13306 = _
    rw [up_ne _ (fun e => hn.2.2 e.symm)]; exact h.2.2.2.1
theorem fln_j {σ τ : Sg} (n : Nat) (v : Int64) (h : FLn σ τ) : FLn σ (uJ τ n v) := h
theorem fln_b {σ τ : Sg} (p : Nat) (f : Nat → Int64) (h : FLn σ τ) : FLn σ (uB τ p f) := h
theorem fln_a {σ τ : Sg} (p : Nat) (f : Nat → Int32) (h : FLn σ τ) (hp : p < 126 ∨ 139 < p ∧ ¬ p = 172) : FLn σ (uA τ p f) := by
  refine ⟨h.1, h.2.1, h.2.2.1, h.2.2.2.1, ?_, fun q a b => ?_⟩
  · show va_up τ.2.2.1 p f 172 = _
    rw [up_ne _ (by omega)]; exact h.2.2.2.2.1
  · show va_up τ.2.2.1 p f q = _
    rw [up_ne _ (by omega)]; exact h.2.2.2.2.2 q a b
theorem fdt_i {σ τ : Sg} (n : Nat) (v : Int32) (h : FDt σ τ) : FDt σ (uI τ n v) := h
theorem fdt_j {σ τ : Sg} (n : Nat) (v : Int64) (h : FDt σ τ) : FDt σ (uJ τ n v) := h
theorem fdt_b {σ τ : Sg} (p : Nat) (f : Nat → Int64) (h : FDt σ τ) : FDt σ (uB τ p f) := h
theorem fdt_n {σ τ : Sg} (a b : Nat) (h : FDt σ τ) : FDt σ (uN τ a b) := h
theorem fdt_a {σ τ : Sg} (p : Nat) (f : Nat → Int32) (h : FDt σ τ) (hp : p < 8 ∨ 8 < p ∧ p < 59 ∨ 62 < p) : FDt σ (uA τ p f) := by
  refine ⟨?_, ?_, ?_, ?_, ?_⟩
  · show va_up τ.2.2.1 p f 59 = _
    rw [up_ne _ (by omega)]; exact h.1
  · show va_up τ.2.2.1 p f 60 = _
    rw [up_ne _ (by omega)]; exact h.2.1
  · show va_up τ.2.2.1 p f 61 = _
    rw [up_ne _ (by omega)]; exact h.2.2.1
  · show va_up τ.2.2.1 p f 62 = _
    rw [up_ne _ (by omega)]; exact h.2.2.2.1
  · show va_up τ.2.2.1 p f 8 = _
    rw [up_ne _ (by omega)]; exact h.2.2.2.2
theorem fln_cor {σ τ : Sg} (h : Cor σ τ) : FLn σ τ := ⟨congrArg Prod.fst h.2.2.2.2, h.1 14047 rfl, h.1 12606 rfl, h.1 13306 rfl, h.2.2.1 172 rfl, fun q a b => h.2.2.1 q (by unfold scA; simp; omega)⟩
theorem fln_cok {σ τ : Sg} (h : CoK σ τ) : FLn σ τ := ⟨congrArg Prod.fst h.2.2.2.2, h.1 14047 rfl, h.1 12606 rfl, h.1 13306 rfl, h.2.2.1 172 rfl, fun q a b => h.2.2.1 q (by unfold skA scA; simp; omega)⟩
theorem fdt_cor {σ τ : Sg} (h : Cor σ τ) : FDt σ τ := ⟨h.2.2.1 59 rfl, h.2.2.1 60 rfl, h.2.2.1 61 rfl, h.2.2.1 62 rfl, h.2.2.1 8 rfl⟩
theorem fdt_cow {σ τ : Sg} (h : CoW σ τ) : FDt σ τ := ⟨h.2.2.1 59 rfl, h.2.2.1 60 rfl, h.2.2.1 61 rfl, h.2.2.1 62 rfl, h.2.2.1 8 rfl⟩
theorem dtr_f {σ τ : Sg} (h : DtR σ) (k : FDt σ τ) : DtR τ := by
  unfold DtR
  rw [k.1, k.2.1, k.2.2.1, k.2.2.2.1, k.2.2.2.2]
  exact h
theorem lnT_f {p : Nat} {σ τ : Sg} (hp : p = 126 ∨ p = 133) (h : LnT p σ) (e1 : τ.1 14047 = σ.1 14047) (e2 : τ.1 (100 * p + 6) = σ.1 (100 * p + 6)) (e3 : τ.2.2.1 172 = σ.2.2.1 172) (e4 : ∀ q, p + 1 ≤ q → q ≤ p + 6 → τ.2.2.1 q = σ.2.2.1 q) : LnT p τ := by
  obtain ⟨a, b, c⟩ := h
  refine ⟨by rw [e1, e2]; exact a, fun i hi hn => ?_, fun i hi => ?_⟩
  · rw [e2] at hi
    rw [e4 (p + 4) (by omega) (by omega)] at hn
    rw [e4 (p + 5) (by omega) (by omega), e4 (p + 6) (by omega) (by omega)]
    exact b i hi hn
  · rw [e2] at hi
    have q := c i hi
    unfold LnE
    rw [e3, e4 (p + 1) (by omega) (by omega), e4 (p + 2) (by omega) (by omega), e4 (p + 3) (by omega) (by omega), e4 (p + 4) (by omega) (by omega), e4 (p + 5) (by omega) (by omega), e4 (p + 6) (by omega) (by omega)]
    exact q
theorem ln_f {σ τ : Sg} (h : Ln σ) (k : FLn σ τ) : Ln τ := by
  obtain ⟨hp, hL⟩ := h
  have e := k.1
  refine ⟨by rw [e]; exact hp, ?_⟩
  rw [e]
  refine lnT_f hp hL k.2.1 ?_ k.2.2.2.2.1 (fun q a b => k.2.2.2.2.2 q (by rcases hp with h | h <;> omega) (by rcases hp with h | h <;> omega))
  rcases hp with h | h
  · rw [h]; exact k.2.2.1
  · rw [h]; exact k.2.2.2.1
/-- fault, and a catalogue that fails: the draft alone -/
theorem ln_cod {σ τ : Sg} (hI : Inv σ) (h : Ln σ) (k : CoD σ τ) : Ln τ := by
  obtain ⟨hp, hL⟩ := h
  rcases iv_ln hI with ⟨l, d⟩ | ⟨l, d⟩
  · rcases k with ⟨e, -⟩ | ⟨-, k⟩
    · rw [d] at e; exact absurd e (by decide)
    · have e := congrArg Prod.fst k.2.2.2.2
      have e2 : τ.2.2.2.2.1 = 126 := e.trans l
      rw [l] at hL
      refine ⟨Or.inl e2, ?_⟩
      rw [e2]
      exact lnT_f (Or.inl rfl) hL (k.1 14047 rfl) (k.1 12606 rfl) (k.2.2.1 172 rfl) (fun q a b => k.2.2.1 q (by unfold smA scA; simp; omega))
  · rcases k with ⟨-, k⟩ | ⟨e, -⟩
    · have e := congrArg Prod.fst k.2.2.2.2
      have e2 : τ.2.2.2.2.1 = 133 := e.trans l
      rw [l] at hL
      refine ⟨Or.inr e2, ?_⟩
      rw [e2]
      exact lnT_f (Or.inr rfl) hL (k.1 14047 rfl) (k.1 13306 rfl) (k.2.2.1 172 rfl) (fun q a b => k.2.2.1 q (by unfold slA scA; simp; omega))
    · rw [d] at e; exact absurd e (by decide)
/-- a catalogue's lines, read by both -/
theorem ln_new {p : Nat} {σ2 σ3 : Sg} {F : Nat → Int32} {n : Nat} {g : Nat → Int32} (hp : p = 126 ∨ p = 133) (hl : σ2.2.2.2.2.1 = p) (hz : σ2.1 (100 * p + 6) = rdZ F n) (hC : CL p F n σ2 (rdZ F n).toNatClampNeg) (hR : RC g F n) (k : Cor (uI (uA σ2 172 g) 14047 (rdZ F n)) σ3) : Ln σ3 := by
  obtain ⟨z, hze⟩ : ∃ z, z = rdZ F n := ⟨_, rfl⟩
  rw [← hze] at hz hC k
  have e1 : σ3.2.2.2.2.1 = p := (congrArg Prod.fst k.2.2.2.2).trans hl
  have e2 : σ3.1 14047 = z := (k.1 14047 rfl).trans (show va_up σ2.1 14047 z 14047 = z from up_at _ _ _)
  have e3 : σ3.1 (100 * p + 6) = z := by
    refine Eq.trans ?_ hz
    rcases hp with rfl | rfl
    · exact (k.1 12606 rfl).trans (show va_up σ2.1 14047 z 12606 = σ2.1 12606 from up_ne _ (by decide))
    · exact (k.1 13306 rfl).trans (show va_up σ2.1 14047 z 13306 = σ2.1 13306 from up_ne _ (by decide))
  have e4 : σ3.2.2.1 172 = g := (k.2.2.1 172 rfl).trans (show va_up σ2.2.2.1 172 g 172 = g from up_at _ _ _)
  have e5 : ∀ q, 126 ≤ q → q ≤ 139 → σ3.2.2.1 q = σ2.2.2.1 q := fun q a b => (k.2.2.1 q (by unfold scA; simp; omega)).trans (show va_up σ2.2.2.1 172 g q = σ2.2.2.1 q from up_ne _ (by omega))
  have L : ∀ i, i < z.toNatClampNeg → LnE p σ3 i ∧ (¬ σ3.2.2.1 (p + 4) i = 0 → inR (σ3.2.2.1 (p + 5) i) 0 20000 ∧ inR (σ3.2.2.1 (p + 6) i) 0 20000) := by
    intro i hi
    refine lnE_of (f := F) (n := n) (st := stI F n i) ?_ (by rw [e4]; exact hR i (by rw [← hze]; exact hi))
    have q := hC i hi
    unfold LK
    rw [e5 (p + 1) (by omega) (by omega), e5 (p + 2) (by omega) (by omega), e5 (p + 3) (by omega) (by omega), e5 (p + 4) (by omega) (by omega), e5 (p + 5) (by omega) (by omega), e5 (p + 6) (by omega) (by omega)]
    exact q
  refine ⟨by rw [e1]; exact hp, ?_⟩
  rw [e1]
  exact ⟨e2.trans e3.symm, fun i hi hn => (L i (by rw [← e3]; exact hi)).2 hn, fun i hi => (L i (by rw [← e3]; exact hi)).1⟩
