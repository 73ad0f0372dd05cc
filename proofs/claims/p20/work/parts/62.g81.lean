/-! methods on any state that keeps the invariant -/
def A_far (ta tb : Bool) (v : Int32) : Int32 := bif ta && tb then v else -2
theorem A_far_0 (tb : Bool) (v : Int32) : A_far false tb v = -2 := rfl
theorem A_far_1 (v : Int32) : A_far true false v = -2 := rfl
theorem thC_sz {σ : Sg} {c : Int32} (hI : Inv σ) (h : thC σ c = true) : c.toNatClampNeg < sz σ := by
  have hr := thC_r hI h
  have hs := ti_in (iv_110 hI)
  have h1 := ti_in hr
  unfold thC at h
  simp only [Bool.and_eq_true, Bool.not_eq_true', decide_eq_false_iff_not] at h
  have h2 := ti_nle h.2.1
  have z : (0 : Int32).toInt = 0 := by decide
  show c.toInt.toNat < (σ.1 110).toInt.toNat
  omega
theorem chL_at {σ : Sg} {a b : Int32} (hI : Inv σ) (hL : ChL σ) (ha : thC σ a = true) (hb : thC σ b = true) : σ.2.2.1 (35 + (Int32.toNatClampNeg a)) (Int32.toNatClampNeg b) = LVI σ (Int32.toNatClampNeg a) (Int32.toNatClampNeg b) := hL _ _ (clamp19 (thC_r hI ha)) (clamp19 (thC_r hI hb)) (thC_sz hI ha) (thC_sz hI hb)
set_option maxRecDepth 100000 in
set_option maxHeartbeats 40000000 in
theorem gq_X8_far {G : vG} {l : Launch} (σ : Sg) (a b : Int32) (hI : Inv σ) (hL : ChL σ) : Sp G l yX8_far cX8_far 3 (some .int) 1 0 0 [.ref 0, .int a, .int b] (WW σ) (QI (fun x w2 => x = A_far (thC σ a) (thC σ b) (LVI σ (Int32.toNatClampNeg a) (Int32.toNatClampNeg b)) ∧ ∃ σ2, w2 = WW σ2 ∧ Inv σ2 ∧ Cor σ σ2)) := by
  refine Sp_of_R [(some (.ref 0)), (some (.int a)), (some (.int b))] [] rfl (by simp) rfl (Nat.le_of_ble_eq_true rfl) ?_
  refine R_aload_n (pc := 0) dX8_far_0 rfl rfl ?_
  refine g_X8_10 (pc := 1) (v := .ref 1) rfl dX8_far_1 (c_0 _) rfl ?_
  refine R_iload_n (pc := 4) dX8_far_4 rfl rfl ?_
  refine k_X8_90 (pc := 5) (ge_X0_isThere _ _ hI) rfl (c_1 _) (by decide) (Nat.le_refl _) (Nat.le_refl _) (Nat.le_of_ble_eq_true rfl) dX8_far_5 (fun x w2 h => ?_)
  rcases h with ⟨rfl, ⟨h1, rfl⟩ | ⟨h1, rfl⟩⟩
  · skip
    refine R_ifeq (pc := 8) 36 dX8_far_8 (by decide) (fun h => absurd h (by decide)) (fun _ => ?_)
    refine R_aload_n (pc := 11) dX8_far_11 rfl rfl ?_
    refine g_X8_10 (pc := 12) (v := .ref 1) rfl dX8_far_12 (c_0 _) rfl ?_
    refine R_iload_n (pc := 15) dX8_far_15 rfl rfl ?_
    refine k_X8_90 (pc := 16) (ge_X0_isThere _ _ hI) rfl (c_1 _) (by decide) (Nat.le_refl _) (Nat.le_refl _) (Nat.le_of_ble_eq_true rfl) dX8_far_16 (fun x w2 h => ?_)
    rcases h with ⟨rfl, ⟨h3, rfl⟩ | ⟨h3, rfl⟩⟩
    · skip
      refine R_ifeq (pc := 19) 36 dX8_far_19 (by decide) (fun h => absurd h (by decide)) (fun _ => ?_)
      refine R_aload_n (pc := 22) dX8_far_22 rfl rfl ?_
      refine g_X8_21 (pc := 23) (v := .ref 12) rfl dX8_far_23 (c_0 _) rfl ?_
      refine g_X8_138 (pc := 26) (v := .ref 34) rfl dX8_far_26 (c_12 _) rfl ?_
      refine R_iload_n (pc := 29) dX8_far_29 rfl rfl ?_
      have hx5 : vp_in a 20 := (vp_of_inR (thC_r hI h1) (by decide))
      refine R_aaload (pc := 30) (b := 35 + (Int32.toNatClampNeg a)) dX8_far_30 (c_34 _) hx5 (if_pos (lt_of_vp hx5)) ?_
      refine R_iload_n (pc := 31) dX8_far_31 rfl rfl ?_
      have hx6 : vp_in b 20 := (vp_of_inR (thC_r hI h3) (by decide))
      refine R_iaload (pc := 32) dX8_far_32 (r_34 _ _ (lt_of_vp hx5)) hx6 ?_
      refine R_goto (pc := 33) 38 dX8_far_33 (by decide) ?_
      exact R_iret (pc := 38) dX8_far_38 rfl rfl (Nat.zero_le _) (Nat.zero_le _) ⟨_, rfl, (by unfold A_far; rw [h1, h3]; exact chL_at hI hL h1 h3), _, rfl, hI, (show Cor σ σ from Cor.rfl' σ)⟩
    · skip
      refine R_ifeq (pc := 19) 36 dX8_far_19 (by decide) (fun _ => ?_) (fun h => absurd (by decide) h)
      refine R_bipush (pc := 36) (v := (-2)) dX8_far_36 (by decide) ?_
      exact R_iret (pc := 38) dX8_far_38 rfl rfl (Nat.zero_le _) (Nat.zero_le _) ⟨_, rfl, (by unfold A_far; rw [h1, h3]; first | rfl | simp), _, rfl, hI, (show Cor σ σ from Cor.rfl' σ)⟩
  · skip
    refine R_ifeq (pc := 8) 36 dX8_far_8 (by decide) (fun _ => ?_) (fun h => absurd (by decide) h)
    refine R_bipush (pc := 36) (v := (-2)) dX8_far_36 (by decide) ?_
    exact R_iret (pc := 38) dX8_far_38 rfl rfl (Nat.zero_le _) (Nat.zero_le _) ⟨_, rfl, (by unfold A_far; rw [h1]; first | rfl | simp), _, rfl, hI, (show Cor σ σ from Cor.rfl' σ)⟩
set_option maxRecDepth 100000 in
set_option maxHeartbeats 40000000 in
theorem gq_X9_far {G : vG} {l : Launch} (σ : Sg) (a b : Int32) (hI : Inv σ) : Sp G l yX9_far cX9_far 3 (some .int) 2 0 0 [.ref 140, .int a, .int b] (WW σ) (QI (fun x w2 => x = A_far (thM σ a) (thM σ b) (nI (lev (wM σ a) (wM σ b) (Int32.toNatClampNeg (σ.2.2.1 149 (Int32.toNatClampNeg a))) (Int32.toNatClampNeg (σ.2.2.1 149 (Int32.toNatClampNeg b))))) ∧ ∃ σ2, w2 = WW σ2 ∧ Inv σ2 ∧ Cor σ σ2)) := by
  refine Sp_of_R [(some (.ref 140)), (some (.int a)), (some (.int b))] [] rfl (by simp) rfl (Nat.le_of_ble_eq_true rfl) ?_
  refine R_aload_n (pc := 0) dX9_far_0 rfl rfl ?_
  refine R_iload_n (pc := 1) dX9_far_1 rfl rfl ?_
  refine k_X9_135 (pc := 2) (gf_X9_isThere _ _ hI) rfl (c_140 _) (by decide) (Nat.le_refl _) (Nat.le_refl _) (Nat.le_of_ble_eq_true rfl) dX9_far_2 (fun x w2 h => ?_)
  rcases h with ⟨rfl, ⟨h1, rfl⟩ | ⟨h1, rfl⟩⟩
  · skip
    refine R_ifeq (pc := 5) 25 dX9_far_5 (by decide) (fun h => absurd h (by decide)) (fun _ => ?_)
    refine R_aload_n (pc := 8) dX9_far_8 rfl rfl ?_
    refine R_iload_n (pc := 9) dX9_far_9 rfl rfl ?_
    refine k_X9_135 (pc := 10) (gf_X9_isThere _ _ hI) rfl (c_140 _) (by decide) (Nat.le_refl _) (Nat.le_refl _) (Nat.le_of_ble_eq_true rfl) dX9_far_10 (fun x w2 h => ?_)
    rcases h with ⟨rfl, ⟨h3, rfl⟩ | ⟨h3, rfl⟩⟩
    · skip
      refine R_ifeq (pc := 13) 25 dX9_far_13 (by decide) (fun h => absurd h (by decide)) (fun _ => ?_)
      refine R_aload_n (pc := 16) dX9_far_16 rfl rfl ?_
      refine R_iload_n (pc := 17) dX9_far_17 rfl rfl ?_
      refine R_iload_n (pc := 18) dX9_far_18 rfl rfl ?_
      refine k_X9_152 (pc := 19) (gn_X9_farOf _ _ _ hI (thM_r h1) (thM_r h3)) rfl (c_140 _) (by decide) (Nat.le_refl _) (Nat.le_refl _) (Nat.le_of_ble_eq_true rfl) dX9_far_19 (fun y9 w2 h => ?_)
      obtain ⟨σx6, rfl, hV5, hW7, hF8, -⟩ := h
      have hW10 := Cor.trans (show Cor σ σ from Cor.rfl' σ) hW7
      refine R_goto (pc := 22) 27 dX9_far_22 (by decide) ?_
      exact R_iret (pc := 27) dX9_far_27 rfl rfl (Nat.zero_le _) (Nat.zero_le _) ⟨_, rfl, (by unfold A_far; rw [h1, h3]; exact hF8), _, rfl, hV5, hW10⟩
    · skip
      refine R_ifeq (pc := 13) 25 dX9_far_13 (by decide) (fun _ => ?_) (fun h => absurd (by decide) h)
      refine R_bipush (pc := 25) (v := (-2)) dX9_far_25 (by decide) ?_
      exact R_iret (pc := 27) dX9_far_27 rfl rfl (Nat.zero_le _) (Nat.zero_le _) ⟨_, rfl, (by unfold A_far; rw [h1, h3]; first | rfl | simp), _, rfl, hI, (show Cor σ σ from Cor.rfl' σ)⟩
  · skip
    refine R_ifeq (pc := 5) 25 dX9_far_5 (by decide) (fun _ => ?_) (fun h => absurd (by decide) h)
    refine R_bipush (pc := 25) (v := (-2)) dX9_far_25 (by decide) ?_
    exact R_iret (pc := 27) dX9_far_27 rfl rfl (Nat.zero_le _) (Nat.zero_le _) ⟨_, rfl, (by unfold A_far; rw [h1]; first | rfl | simp), _, rfl, hI, (show Cor σ σ from Cor.rfl' σ)⟩
theorem far_eq {σ σ2 : Sg} {a b : Int32} (hT : Tie σ) (h1 : Cor σ σ2) (ha : inR a 0 19) (hb : inR b 0 19) : (nI (lev (wM σ2 a) (wM σ2 b) (Int32.toNatClampNeg (σ2.2.2.1 149 (Int32.toNatClampNeg a))) (Int32.toNatClampNeg (σ2.2.2.1 149 (Int32.toNatClampNeg b))))) = LVI σ (Int32.toNatClampNeg a) (Int32.toNatClampNeg b) := by
  unfold LVI LV
  rw [h1.2.2.1 149 rfl, t_lett hT]
  congr 1
  refine lev_congr (a := (σ.2.2.1 11 (Int32.toNatClampNeg a)).toNatClampNeg) (b := (σ.2.2.1 11 (Int32.toNatClampNeg b)).toNatClampNeg) ?_ ?_ _ _ _ (Nat.le_refl _) (Nat.le_refl _) (Nat.le_refl _)
  · intro i hi
    show σ2.2.2.1 150 (8 * (Int32.toNatClampNeg a) + i) = _
    rw [h1.2.2.1 150 rfl]
    exact t_capt hT _ i (clamp19 ha) hi
  · intro i hi
    show σ2.2.2.1 150 (8 * (Int32.toNatClampNeg b) + i) = _
    rw [h1.2.2.1 150 rfl]
    exact t_capt hT _ i (clamp19 hb) hi
theorem ans_far {σ σ2 : Sg} {a b : Int32} (hI : Inv σ) (hT : Tie σ) (h1 : Cor σ σ2) : A_far (thC σ a) (thC σ b) (LVI σ (Int32.toNatClampNeg a) (Int32.toNatClampNeg b)) = A_far (thM σ2 a) (thM σ2 b) (nI (lev (wM σ2 a) (wM σ2 b) (Int32.toNatClampNeg (σ2.2.2.1 149 (Int32.toNatClampNeg a))) (Int32.toNatClampNeg (σ2.2.2.1 149 (Int32.toNatClampNeg b))))) := by
  rw [(thM_at (h1.1 14000 rfl) (h1.1 14013 rfl) (h1.2.2.1 148 rfl) a).trans (th_eq hI hT a), (thM_at (h1.1 14000 rfl) (h1.1 14013 rfl) (h1.2.2.1 148 rfl) b).trans (th_eq hI hT b)]
  cases ha : thC σ a
  · rw [A_far_0, A_far_0]
  · cases hb : thC σ b
    · rw [A_far_1, A_far_1]
    · rw [far_eq hT h1 (thC_r hI ha) (thC_r hI hb)]
