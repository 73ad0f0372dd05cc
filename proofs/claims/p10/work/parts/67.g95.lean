/-! methods on any state that keeps the invariant -/
def lkD (σ : Sg) (a b : Nat) : Bool := inB (DVm σ a b) 0 (σ.1 14012)
def mtD (σ : Sg) (a b : Int32) : Bool := mtB (σ.2.2.1 141) (σ.2.2.1 142) (σ.2.2.1 143) (σ.2.2.1 144) (lkD σ (Int32.toNatClampNeg a) (Int32.toNatClampNeg b)) (lvM σ a b) (Int32.toNatClampNeg a) (Int32.toNatClampNeg b)
theorem dvm_sym {σ : Sg} (hI : Inv σ) {a b : Nat} (ha : a < 20) (hb : b < 20) : DVm σ a b = DVm σ b a := uo_sym (iva_146 hI a ha) (iva_146 hI b hb)
theorem idx20c {a b : Int32} (ha : inR a 0 19) (hb : inR b 0 19) : (20 * a + b).toNatClampNeg = 20 * a.toNatClampNeg + b.toNatClampNeg := by
  have h := idx20 (clamp19 ha) (clamp19 hb)
  rw [nI_of_in ha, nI_of_in hb] at h; exact h
theorem lkM_D {σ τ : Sg} {a b : Int32} {n : Nat} (hI : Inv σ) (h : Cor σ τ) (hu : UT (DVm σ) (τ.2.2.1 151) n) (ha : inR a 0 19) (hb : inR b 0 19) (ha2 : (Int32.toNatClampNeg a) < n) (hb2 : (Int32.toNatClampNeg b) < n) (hne : ¬ a = b) : lkM τ a b = lkD σ (Int32.toNatClampNeg a) (Int32.toNatClampNeg b) := by
  unfold lkM lkD
  rw [h.1 14012 rfl, idx20c ha hb]
  have hn : ¬ (Int32.toNatClampNeg a) = (Int32.toNatClampNeg b) := fun e => hne (by rw [← nI_of_in ha, ← nI_of_in hb, e])
  by_cases q : (Int32.toNatClampNeg b) < (Int32.toNatClampNeg a)
  · rw [(hu _ _ q ha2).1]
  · rw [(hu (Int32.toNatClampNeg b) (Int32.toNatClampNeg a) (by omega) hb2).2, dvm_sym hI (clamp19 hb) (clamp19 ha)]
theorem lvM_cor {σ τ : Sg} (h : Cor σ τ) (a b : Int32) : lvM τ a b = lvM σ a b := by
  unfold lvM wM
  rw [h.2.2.1 149 rfl, h.2.2.1 150 rfl]
theorem mtM_D {σ τ : Sg} {a b : Int32} {n : Nat} (hI : Inv σ) (h : Cor σ τ) (hu : UT (DVm σ) (τ.2.2.1 151) n) (ha : inR a 0 19) (hb : inR b 0 19) (ha2 : (Int32.toNatClampNeg a) < n) (hb2 : (Int32.toNatClampNeg b) < n) (hne : ¬ a = b) : mtM τ a b = mtD σ a b := by
  unfold mtM mtD
  rw [h.2.2.1 141 rfl, h.2.2.1 142 rfl, h.2.2.1 143 rfl, h.2.2.1 144 rfl, lkM_D hI h hu ha hb ha2 hb2 hne, lvM_cor h]
theorem ub_rng (pa pb : Int64) (sa sb d f : Int32) : ubF pa pb sa sb d f = -1 ∨ inR (ubF pa pb sa sb d f) 0 64 := by
  unfold ubF
  cases decide (nI (cntB (ibG sa sb d f) 64) < 24)
  · exact Or.inr (inR_nI (M := 64) (cnt_le _ 64) (by decide))
  · exact Or.inl rfl
theorem uo_rng (pa pb : Int64) (sa sb : Int32) : uoF pa pb sa sb = -1 ∨ inR (uoF pa pb sa sb) 0 64 := by
  unfold uoF
  rcases fo_char (fun n => ubF pa pb sa sb (dX n) (dY n)) 25 with ⟨h, -⟩ | ⟨h, ⟨k, -, e⟩, -⟩
  · exact Or.inl h
  · rw [← e]; exact ub_rng _ _ _ _ _ _
theorem lk_eq {v sl : Int32} (h : v = -1 ∨ inR v 0 64) : inB v 0 sl = lkB sl v := by
  unfold inB lkB
  rcases h with rfl | h
  · rw [decide_eq_true (show (-1 : Int32) < 0 from by decide)]; rfl
  · rw [decide_eq_false h.1, decide_eq_false (show ¬ v = -1 from fun e => h.1 (by rw [e]; decide))]
theorem lvM_eq {σ σ2 : Sg} {a b : Int32} (hT : Tie σ) (h1 : Cor σ σ2) (ha : inR a 0 19) (hb : inR b 0 19) : lvM σ2 a b = LVI σ (Int32.toNatClampNeg a) (Int32.toNatClampNeg b) := far_eq hT h1 ha hb
theorem lkD_eq {σ σ2 : Sg} (hT : Tie σ) (h1 : Cor σ σ2) (a b : Nat) : lkD σ2 a b = lkB (σ.1 1204) (DV σ a b) := by
  have e : DVm σ2 a b = DV σ a b := dif_eq hT h1 a b
  unfold lkD
  rw [e, h1.1 14012 rfl, t_slack hT]
  exact lk_eq (uo_rng _ _ _ _)
theorem mt_eq {σ σ2 : Sg} {a b : Int32} (hI : Inv σ) (hT : Tie σ) (hL : ChL σ) (hD : ChD σ) (h1 : Cor σ σ2) (h : ttC σ a b = true) : mtC σ a b = mtD σ2 a b := by
  have ha := (ttC_p h).2.1
  have hb := (ttC_p h).2.2
  unfold mtC mtD
  rw [lvM_eq hT h1 (thC_r hI ha) (thC_r hI hb), chL_at hI hL ha hb, lkD_eq hT h1]
  unfold lkC
  rw [chD_at hI hD h, h1.2.2.1 141 rfl, h1.2.2.1 142 rfl, h1.2.2.1 143 rfl, h1.2.2.1 144 rfl, t_list hT, t_publ hT, t_numb hT, t_back hT]
