/-! methods on any state that keeps the invariant -/
def lkD (σ : Sg) (a b : Nat) : Bool := inB (DVm σ a b) 0 (σ.1 14012)
theorem dvm_sym {σ : Sg} (hI : Inv σ) {a b : Nat} (ha : a < 20) (hb : b < 20) : DVm σ a b = DVm σ b a := uo_sym (iva_146 hI a ha) (iva_146 hI b hb)
theorem idx20c {a b : Int32} (ha : inR a 0 19) (hb : inR b 0 19) : (20 * a + b).toNatClampNeg = 20 * a.toNatClampNeg + b.toNatClampNeg := by
  have h := idx20 (clamp19 ha) (clamp19 hb)
  rw [nI_of_in ha, nI_of_in hb] at h; exact h
theorem lkM_D {σ τ : Sg} {a b : Int32} {n : Nat} (hI : Inv σ) (h : Cor σ τ) (hu : UT (DVm σ) (τ.2.2.1 151) n) (ha : inR a 0 19) (hb : inR b 0 19) (ha2 : (Int32.toNatClampNeg a) < n) (hb2 : (Int32.toNatClampNeg b) < n) (hne : ¬ a = b) : lkM τ a b = lkD σ (Int32.toNatClampNeg a) (Int32.toNatClampNeg b) := by
  unfold lkM lkD
  rw [h.1 14012 rfl, idx20c ha hb]
  have hn : ¬ (Int32.toNatClampNeg a) = (Int32.toNatClampNeg b) := fun e => hne (by rw [← nI_of_in ha, ← nI_of_in hb, e])
  by_cases q : (Int32.toNatClampNeg b) < (Int32.toNatClampNeg a)
  · rw [(hu _ _ q ha2).1]
  · rw [(hu (Int32.toNatClampNeg b) (Int32.toNatClampNeg a) (by omega) hb2).2, dvm_sym hI (clamp19 hb) (clamp19 ha)]
theorem ub_rng (pa pb : Int64) (sa sb d f : Int32) : ubF pa pb sa sb d f = -1 ∨ inR (ubF pa pb sa sb d f) 0 64 := by
  unfold ubF
  cases decide (nI (cntB (ibG sa sb d f) 64) < 24)
  · exact Or.inr (inR_nI (M := 64) (cnt_le _ 64) (by decide))
  · exact Or.inl rfl
theorem uo_rng (pa pb : Int64) (sa sb : Int32) : uoF pa pb sa sb = -1 ∨ inR (uoF pa pb sa sb) 0 64 := by
  unfold uoF
  rcases fo_char (fun n => ubF pa pb sa sb (dX n) (dY n)) 25 with ⟨h, -⟩ | ⟨h, ⟨k, -, e⟩, -⟩
  · exact Or.inl h
  · rw [← e]; exact ub_rng _ _ _ _ _ _
theorem lk_eq {v sl : Int32} (h : v = -1 ∨ inR v 0 64) : inB v 0 sl = lkB sl v := by
  unfold inB lkB
  rcases h with rfl | h
  · rw [decide_eq_true (show (-1 : Int32) < 0 from by decide)]; rfl
  · rw [decide_eq_false h.1, decide_eq_false (show ¬ v = -1 from fun e => h.1 (by rw [e]; decide))]
theorem lkD_eq {σ σ2 : Sg} (hT : Tie σ) (h1 : Cor σ σ2) (a b : Nat) : lkD σ2 a b = lkB (σ.1 1204) (DV σ a b) := by
  have e : DVm σ2 a b = DV σ a b := dif_eq hT h1 a b
  unfold lkD
  rw [e, h1.1 14012 rfl, t_slack hT]
  exact lk_eq (uo_rng _ _ _ _)
