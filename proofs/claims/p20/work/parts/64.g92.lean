/-! methods on any state that keeps the invariant -/
def A_dif (tt : Bool) (v : Int32) : Int32 := bif tt then v else -2
theorem ttC_p {σ : Sg} {a b : Int32} (h : ttC σ a b = true) : ¬ a = b ∧ thC σ a = true ∧ thC σ b = true := by
  unfold ttC at h
  simp only [Bool.and_eq_true, Bool.not_eq_true', decide_eq_false_iff_not] at h
  exact h
theorem chD_at {σ : Sg} {a b : Int32} (hI : Inv σ) (hD : ChD σ) (h : ttC σ a b = true) : σ.2.2.1 (14 + (Int32.toNatClampNeg a)) (Int32.toNatClampNeg b) = DV σ (Int32.toNatClampNeg a) (Int32.toNatClampNeg b) := hD _ _ (clamp19 (thC_r hI (ttC_p h).2.1)) (clamp19 (thC_r hI (ttC_p h).2.2)) (thC_sz hI (ttC_p h).2.1) (thC_sz hI (ttC_p h).2.2)
set_option maxRecDepth 100000 in
set_option maxHeartbeats 40000000 in
theorem gq_X8_difference {G : vG} {l : Launch} (σ : Sg) (a b : Int32) (hI : Inv σ) (hL : ChL σ) (hD : ChD σ) : Sp G l yX8_difference cX8_difference 3 (some .int) 2 0 0 [.ref 0, .int a, .int b] (WW σ) (QI (fun x w2 => x = A_dif (ttC σ a b) (DV σ (Int32.toNatClampNeg a) (Int32.toNatClampNeg b)) ∧ ∃ σ2, w2 = WW σ2 ∧ Inv σ2 ∧ Cor σ σ2)) := by
  refine Sp_of_R [(some (.ref 0)), (some (.int a)), (some (.int b))] [] rfl (by simp) rfl (Nat.le_of_ble_eq_true rfl) ?_
  refine R_aload_n (pc := 0) dX8_difference_0 rfl rfl ?_
  refine R_iload_n (pc := 1) dX8_difference_1 rfl rfl ?_
  refine R_iload_n (pc := 2) dX8_difference_2 rfl rfl ?_
  refine k_X8_118 (pc := 3) (ge_X8_areTwoThere _ _ _ hI) rfl (c_0 _) (by decide) (Nat.le_refl _) (Nat.le_refl _) (Nat.le_of_ble_eq_true rfl) dX8_difference_3 (fun x w2 h => ?_)
  rcases h with ⟨rfl, ⟨h1, rfl⟩ | ⟨h1, rfl⟩⟩
  · skip
    refine R_ifeq (pc := 6) 23 dX8_difference_6 (by decide) (fun h => absurd h (by decide)) (fun _ => ?_)
    refine R_aload_n (pc := 9) dX8_difference_9 rfl rfl ?_
    refine g_X8_21 (pc := 10) (v := .ref 12) rfl dX8_difference_10 (c_0 _) rfl ?_
    refine g_X8_122 (pc := 13) (v := .ref 13) rfl dX8_difference_13 (c_12 _) rfl ?_
    refine R_iload_n (pc := 16) dX8_difference_16 rfl rfl ?_
    have hx3 : vp_in a 20 := (vp_of_inR (ttC_r hI h1).1 (by decide))
    refine R_aaload (pc := 17) (b := 14 + (Int32.toNatClampNeg a)) dX8_difference_17 (c_13 _) hx3 (if_pos (lt_of_vp hx3)) ?_
    refine R_iload_n (pc := 18) dX8_difference_18 rfl rfl ?_
    have hx4 : vp_in b 20 := (vp_of_inR (ttC_r hI h1).2 (by decide))
    refine R_iaload (pc := 19) dX8_difference_19 (r_13 _ _ (lt_of_vp hx3)) hx4 ?_
    refine R_goto (pc := 20) 25 dX8_difference_20 (by decide) ?_
    exact R_iret (pc := 25) dX8_difference_25 rfl rfl (Nat.zero_le _) (Nat.zero_le _) ⟨_, rfl, (by unfold A_dif; rw [h1]; exact chD_at hI hD h1), _, rfl, hI, (show Cor σ σ from Cor.rfl' σ)⟩
  · skip
    refine R_ifeq (pc := 6) 23 dX8_difference_6 (by decide) (fun _ => ?_) (fun h => absurd (by decide) h)
    refine R_bipush (pc := 23) (v := (-2)) dX8_difference_23 (by decide) ?_
    exact R_iret (pc := 25) dX8_difference_25 rfl rfl (Nat.zero_le _) (Nat.zero_le _) ⟨_, rfl, (by unfold A_dif; rw [h1]; rfl), _, rfl, hI, (show Cor σ σ from Cor.rfl' σ)⟩
set_option maxRecDepth 100000 in
set_option maxHeartbeats 40000000 in
theorem gq_X9_difference {G : vG} {l : Launch} (σ : Sg) (a b : Int32) (hI : Inv σ) : Sp G l yX9_difference cX9_difference 3 (some .int) 3 0 0 [.ref 140, .int a, .int b] (WW σ) (QI (fun x w2 => x = A_dif (ttM σ a b) (uoF (σ.2.2.2.1 145 (Int32.toNatClampNeg a)) (σ.2.2.2.1 145 (Int32.toNatClampNeg b)) (σ.2.2.1 146 (Int32.toNatClampNeg a)) (σ.2.2.1 146 (Int32.toNatClampNeg b))) ∧ ∃ σ2, w2 = WW σ2 ∧ Inv σ2 ∧ Cor σ σ2)) := by
  refine Sp_of_R [(some (.ref 140)), (some (.int a)), (some (.int b))] [] rfl (by simp) rfl (Nat.le_of_ble_eq_true rfl) ?_
  refine R_aload_n (pc := 0) dX9_difference_0 rfl rfl ?_
  refine R_iload_n (pc := 1) dX9_difference_1 rfl rfl ?_
  refine k_X9_135 (pc := 2) (gf_X9_isThere _ _ hI) rfl (c_140 _) (by decide) (Nat.le_refl _) (Nat.le_refl _) (Nat.le_of_ble_eq_true rfl) dX9_difference_2 (fun x w2 h => ?_)
  rcases h with ⟨rfl, ⟨h1, rfl⟩ | ⟨h1, rfl⟩⟩
  · skip
    refine R_ifeq (pc := 5) 21 dX9_difference_5 (by decide) (fun h => absurd h (by decide)) (fun _ => ?_)
    refine R_aload_n (pc := 8) dX9_difference_8 rfl rfl ?_
    refine R_iload_n (pc := 9) dX9_difference_9 rfl rfl ?_
    refine k_X9_135 (pc := 10) (gf_X9_isThere _ _ hI) rfl (c_140 _) (by decide) (Nat.le_refl _) (Nat.le_refl _) (Nat.le_of_ble_eq_true rfl) dX9_difference_10 (fun x w2 h => ?_)
    rcases h with ⟨rfl, ⟨h3, rfl⟩ | ⟨h3, rfl⟩⟩
    · skip
      refine R_ifeq (pc := 13) 21 dX9_difference_13 (by decide) (fun h => absurd h (by decide)) (fun _ => ?_)
      refine R_iload_n (pc := 16) dX9_difference_16 rfl rfl ?_
      refine R_iload_n (pc := 17) dX9_difference_17 rfl rfl ?_
      refine R_icne (pc := 18) 24 dX9_difference_18 (by decide) (fun b18_5 => ?_) (fun b18_5 => ?_)
      · skip
        refine R_aload_n (pc := 24) dX9_difference_24 rfl rfl ?_
        refine R_iload_n (pc := 25) dX9_difference_25 rfl rfl ?_
        refine R_iload_n (pc := 26) dX9_difference_26 rfl rfl ?_
        refine k_X9_148 (pc := 27) (gn_X9_unlikeOf _ _ _ hI (thM_r h1) (thM_r h3)) rfl (c_140 _) (by decide) (Nat.le_refl _) (Nat.le_refl _) (Nat.le_of_ble_eq_true rfl) dX9_difference_27 (fun x w2 h => ?_)
        obtain ⟨rfl, rfl⟩ := h
        refine R_cv (uoF (σ.2.2.2.1 145 (Int32.toNatClampNeg a)) (σ.2.2.2.1 145 (Int32.toNatClampNeg b)) (σ.2.2.1 146 (Int32.toNatClampNeg a)) (σ.2.2.1 146 (Int32.toNatClampNeg b))) rfl ?_
        exact R_iret (pc := 30) dX9_difference_30 rfl rfl (Nat.zero_le _) (Nat.zero_le _) ⟨_, rfl, (by unfold A_dif ttM; rw [h1, h3, decide_eq_false b18_5]; rfl), _, rfl, hI, (show Cor σ σ from Cor.rfl' σ)⟩
      · skip
        refine R_bipush (pc := 21) (v := (-2)) dX9_difference_21 (by decide) ?_
        exact R_iret (pc := 23) dX9_difference_23 rfl rfl (Nat.zero_le _) (Nat.zero_le _) ⟨_, rfl, (by unfold A_dif ttM; rw [h1, h3, decide_eq_true b18_5]; simp), _, rfl, hI, (show Cor σ σ from Cor.rfl' σ)⟩
    · skip
      refine R_ifeq (pc := 13) 21 dX9_difference_13 (by decide) (fun _ => ?_) (fun h => absurd (by decide) h)
      refine R_bipush (pc := 21) (v := (-2)) dX9_difference_21 (by decide) ?_
      exact R_iret (pc := 23) dX9_difference_23 rfl rfl (Nat.zero_le _) (Nat.zero_le _) ⟨_, rfl, (by unfold A_dif ttM; rw [h1, h3]; simp), _, rfl, hI, (show Cor σ σ from Cor.rfl' σ)⟩
  · skip
    refine R_ifeq (pc := 5) 21 dX9_difference_5 (by decide) (fun _ => ?_) (fun h => absurd (by decide) h)
    refine R_bipush (pc := 21) (v := (-2)) dX9_difference_21 (by decide) ?_
    exact R_iret (pc := 23) dX9_difference_23 rfl rfl (Nat.zero_le _) (Nat.zero_le _) ⟨_, rfl, (by unfold A_dif ttM; rw [h1]; simp), _, rfl, hI, (show Cor σ σ from Cor.rfl' σ)⟩
theorem dif_eq {σ σ2 : Sg} (hT : Tie σ) (h1 : Cor σ σ2) (a b : Nat) : (uoF (σ2.2.2.2.1 145 a) (σ2.2.2.2.1 145 b) (σ2.2.2.1 146 a) (σ2.2.2.1 146 b)) = DV σ a b := by
  unfold DV
  rw [h1.2.2.2.1 145, h1.2.2.1 146 rfl, t_pict hT, t_sky hT]
theorem ans_difference {σ σ2 : Sg} {a b : Int32} (hI : Inv σ) (hT : Tie σ) (h1 : Cor σ σ2) : A_dif (ttC σ a b) (DV σ (Int32.toNatClampNeg a) (Int32.toNatClampNeg b)) = A_dif (ttM σ2 a b) (uoF (σ2.2.2.2.1 145 (Int32.toNatClampNeg a)) (σ2.2.2.2.1 145 (Int32.toNatClampNeg b)) (σ2.2.2.1 146 (Int32.toNatClampNeg a)) (σ2.2.2.1 146 (Int32.toNatClampNeg b))) := by
  rw [dif_eq hT h1]
  unfold ttM ttC
  rw [(thM_at (h1.1 14000 rfl) (h1.1 14013 rfl) (h1.2.2.1 148 rfl) a).trans (th_eq hI hT a), (thM_at (h1.1 14000 rfl) (h1.1 14013 rfl) (h1.2.2.1 148 rfl) b).trans (th_eq hI hT b)]
