/-! methods on any state that keeps the invariant -/
/-! unseen: counts, and the least words for the share -/
/-! how many CARDS are seen so many times: the class's side -/
theorem lv_symI (σ : Sg) (a b : Nat) : LVI σ a b = LVI σ b a := lv_sym σ a b
theorem sym_mtC {σ : Sg} (hI : Inv σ) (hL : ChL σ) (hD : ChD σ) : Sym (fun a b => mtC σ (nI a) (nI b)) (tb (thI σ)) := by
  intro x y hx hy hr
  by_cases e : x = y
  · subst e; exact hr
  · have a := thI_t hx
    have b := thI_t hy
    have hr2 : mtC σ (nI x) (nI y) = true := hr
    show mtC σ (nI y) (nI x) = true
    rw [← hr2]
    unfold mtC
    have hf : σ.2.2.1 (35 + (Int32.toNatClampNeg (nI y))) (Int32.toNatClampNeg (nI x)) = σ.2.2.1 (35 + (Int32.toNatClampNeg (nI x))) (Int32.toNatClampNeg (nI y)) := by
      rw [chL_at hI hL b.2 a.2, chL_at hI hL a.2 b.2]; exact lv_symI _ _ _
    have hk : lkC σ (nI y) (nI x) = lkC σ (nI x) (nI y) := by
      unfold lkC
      rw [chD_at hI hD (tt_of b a (fun q => e q.symm)), chD_at hI hD (tt_of a b e), dv_sym hI (by rw [nI_clamp (by omega)]; exact b.1) (by rw [nI_clamp (by omega)]; exact a.1)]
    exact mtB_sym _ _ hk hf
/-! the reference's side -/
/-! steps of the counts -/
theorem lab_is {R : Nat → Nat → Bool} {σ : Sg} {f : Nat → Int32} {j : Nat} (hj : AMp σ j = true) (e : f j = nI (lab R (AMp σ) j)) : f j = nI j ↔ lab R (AMp σ) j = j := by
  have a := lab_20 (R := R) hj
  have b : j < 20 := Nat.lt_of_lt_of_le (of_decide_eq_true hj) (tm_le _ _ _)
  rw [e]
  exact nI_eq (by omega) (by omega)
set_option maxRecDepth 100000 in
set_option maxHeartbeats 40000000 in
theorem gn_X3_differentCards {G : vG} {l : Launch} (σ : Sg) (b : Int32) (hI : Inv σ) (hb : inR b 0 1048575) (hS : Sym (fun a b => mtC σ (nI a) (nI b)) (tb b)) : Sp G l yX3_differentCards cX3_differentCards 2 (some .int) 4 0 0 [.ref 12, .int b] (WW σ) (QI (fun x w2 => w2 = WW σ ∧ x = bsI (lstB (fun a b => mtC σ (nI a) (nI b)) (tb b)) 20)) := by
  refine Sp_of_R [(some (.ref 12)), (some (.int b))] [] rfl (by simp) rfl (Nat.le_of_ble_eq_true rfl) ?_
  refine R_aload_n (pc := 0) dX3_differentCards_0 rfl rfl ?_
  refine R_iload_n (pc := 1) dX3_differentCards_1 rfl rfl ?_
  refine R_iconst (pc := 2) (v := 1) dX3_differentCards_2 (by decide) ?_
  refine k_X3_112 (pc := 3) (gn_X3_leastOfChains_1 _ _ hI hb hS) rfl (c_12 _) (by decide) (Nat.le_refl _) (Nat.le_refl _) (Nat.le_of_ble_eq_true rfl) dX3_differentCards_3 (fun x w2 h => ?_)
  obtain ⟨rfl, rfl⟩ := h
  exact R_iret (pc := 6) dX3_differentCards_6 rfl rfl (Nat.zero_le _) (Nat.zero_le _) ⟨_, rfl, rfl, rfl⟩
