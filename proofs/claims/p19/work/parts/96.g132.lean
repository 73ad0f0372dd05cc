/-! methods on any state that keeps the invariant -/
set_option maxRecDepth 100000 in
set_option maxHeartbeats 40000000 in
theorem gq2_X8_catalogue {G : vG} {l : Launch} (σ : Sg)  (hI : Inv σ) : Sp G l yX8_catalogue cX8_catalogue 2 (some .int) 9 0 0 [.ref 0] (WW σ) (QI (fun x w2 => x = catF (σ.2.2.1 118) (Int32.toNatClampNeg (σ.1 11701)) ∧ ∃ σ2, w2 = WW σ2 ∧ Inv σ2 ∧ (¬ rdR (σ.2.2.1 118) (Int32.toNatClampNeg (σ.1 11701)) = -1 ∧ CoD σ σ2 ∨ rdR (σ.2.2.1 118) (Int32.toNatClampNeg (σ.1 11701)) = -1 ∧ (σ.2.2.2.2.2 = 126 ∧ CoL (uN σ 126 133) σ2 ∧ σ2.1 12606 = (rdZ (σ.2.2.1 118) (Int32.toNatClampNeg (σ.1 11701))) ∧ CL 126 (σ.2.2.1 118) (Int32.toNatClampNeg (σ.1 11701)) σ2 (Int32.toNatClampNeg (rdZ (σ.2.2.1 118) (Int32.toNatClampNeg (σ.1 11701)))) ∨ σ.2.2.2.2.2 = 133 ∧ CoM (uN σ 133 126) σ2 ∧ σ2.1 13306 = (rdZ (σ.2.2.1 118) (Int32.toNatClampNeg (σ.1 11701))) ∧ CL 133 (σ.2.2.1 118) (Int32.toNatClampNeg (σ.1 11701)) σ2 (Int32.toNatClampNeg (rdZ (σ.2.2.1 118) (Int32.toNatClampNeg (σ.1 11701)))))))) := by
  refine Sp_of_R [(some (.ref 0)), none] [none] rfl (by simp) rfl (Nat.le_of_ble_eq_true rfl) ?_
  refine R_aload_n (pc := 0) dX8_catalogue_0 rfl rfl ?_
  refine g_X8_51 (pc := 1) (v := .ref 117) rfl dX8_catalogue_1 (c_0 _) rfl ?_
  refine R_aload_n (pc := 4) dX8_catalogue_4 rfl rfl ?_
  rcases iv_ln hI with ⟨hl1, hl1d⟩ | ⟨hl1, hl1d⟩
  · skip
    refine g_X8_65 (pc := 5) (v := .ref 133) rfl dX8_catalogue_5 (c_0 _) (by show some (Value.ref σ.2.2.2.2.2) = _; rw [hl1d]) ?_
    refine k_X8_295 (pc := 8) (ge2_X6_read_133 _ (Int32.toNatClampNeg (σ.1 11701)) hI (by_n hI).1 (by_n hI).2) rfl (c_117 _) (by decide) (Nat.le_refl _) (Nat.le_refl _) (Nat.le_of_ble_eq_true rfl) dX8_catalogue_8 (fun y7 w2 h => ?_)
    obtain ⟨hx6, σx3, rfl, hV2, hW4, hz5, hC8⟩ := h
    have hW9 := Cor.trans (Cor.rfl' σ) hW4
    have hl10 : σx3.2.2.2.2.1 = 126 := (congrArg Prod.fst hW4.2.2.2.2).trans hl1
    have hl11 : σx3.2.2.2.2.2 = 133 := (congrArg Prod.snd hW4.2.2.2.2).trans hl1d
    refine R_cv (rdR (σ.2.2.1 118) (Int32.toNatClampNeg (σ.1 11701))) hx6 ?_
    refine R_iconst (pc := 11) (v := (-1)) dX8_catalogue_11 (by decide) ?_
    refine R_iceq (pc := 12) 18 dX8_catalogue_12 (by decide) (fun b12_12 => ?_) (fun b12_12 => ?_)
    · skip
      refine R_aload_n (pc := 18) dX8_catalogue_18 rfl rfl ?_
      refine g_X8_62 (pc := 19) (v := .ref 126) rfl dX8_catalogue_19 (c_0 _) (by show some (Value.ref σx3.2.2.2.2.1) = _; rw [hl10]) ?_
      refine st_2_1_a_a (pc := 22) dX8_catalogue_22 ?_
      refine R_aload_n (pc := 23) dX8_catalogue_23 rfl rfl ?_
      refine R_aload_n (pc := 24) dX8_catalogue_24 rfl rfl ?_
      refine g_X8_65 (pc := 25) (v := .ref 133) rfl dX8_catalogue_25 (c_0 _) (by show some (Value.ref σx3.2.2.2.2.2) = _; rw [hl11]) ?_
      refine p_X8_62 (pc := 28) rfl dX8_catalogue_28 (c_0 _) (Nat.le_of_ble_eq_true rfl) rfl rfl (s_0_7 _ _) ?_
      refine R_aload_n (pc := 31) dX8_catalogue_31 rfl rfl ?_
      refine R_aload_n (pc := 32) dX8_catalogue_32 rfl rfl ?_
      have hV13 := su_ln hV2 133 126 (by decide)
      have hW14 := cor_un 133 126 hW9
      refine p_X8_65 (pc := 33) (w2 := WW (uN σx3 133 126)) rfl dX8_catalogue_33 (c_0 _) (Nat.le_of_ble_eq_true rfl) rfl rfl (s_0_8 (uN σx3 133 σx3.2.2.2.2.2) 126) ?_
      refine R_aload_n (pc := 36) dX8_catalogue_36 rfl rfl ?_
      refine g_X8_62 (pc := 37) (v := .ref 133) rfl dX8_catalogue_37 (c_0 _) rfl ?_
      refine g_X8_299 (pc := 40) (v := .int (σx3.1 13306)) rfl dX8_catalogue_40 (c_133 _) rfl ?_
      exact R_iret (pc := 43) dX8_catalogue_43 rfl rfl (Nat.zero_le _) (Nat.zero_le _) ⟨_, rfl, (hz5.trans (catF_t b12_12).symm), _, rfl, hV13, Or.inr ⟨b12_12, Or.inr ⟨hl1d, hW14, hz5, hC8 b12_12⟩⟩⟩
    · skip
      refine R_bipush (pc := 15) (v := (-4)) dX8_catalogue_15 (by decide) ?_
      exact R_iret (pc := 17) dX8_catalogue_17 rfl rfl (Nat.zero_le _) (Nat.zero_le _) ⟨_, rfl, (catF_f b12_12).symm, _, rfl, hV2, Or.inl ⟨b12_12, Or.inr ⟨hl1d, hW9⟩⟩⟩
  · skip
    refine g_X8_65 (pc := 5) (v := .ref 126) rfl dX8_catalogue_5 (c_0 _) (by show some (Value.ref σ.2.2.2.2.2) = _; rw [hl1d]) ?_
    refine k_X8_295 (pc := 8) (ge2_X6_read_126 _ (Int32.toNatClampNeg (σ.1 11701)) hI (by_n hI).1 (by_n hI).2) rfl (c_117 _) (by decide) (Nat.le_refl _) (Nat.le_refl _) (Nat.le_of_ble_eq_true rfl) dX8_catalogue_8 (fun y20 w2 h => ?_)
    obtain ⟨hx19, σx16, rfl, hV15, hW17, hz18, hC21⟩ := h
    have hW22 := Cor.trans (Cor.rfl' σ) hW17
    have hl23 : σx16.2.2.2.2.1 = 133 := (congrArg Prod.fst hW17.2.2.2.2).trans hl1
    have hl24 : σx16.2.2.2.2.2 = 126 := (congrArg Prod.snd hW17.2.2.2.2).trans hl1d
    refine R_cv (rdR (σ.2.2.1 118) (Int32.toNatClampNeg (σ.1 11701))) hx19 ?_
    refine R_iconst (pc := 11) (v := (-1)) dX8_catalogue_11 (by decide) ?_
    refine R_iceq (pc := 12) 18 dX8_catalogue_12 (by decide) (fun b12_25 => ?_) (fun b12_25 => ?_)
    · skip
      refine R_aload_n (pc := 18) dX8_catalogue_18 rfl rfl ?_
      refine g_X8_62 (pc := 19) (v := .ref 133) rfl dX8_catalogue_19 (c_0 _) (by show some (Value.ref σx16.2.2.2.2.1) = _; rw [hl23]) ?_
      refine st_2_1_a_a (pc := 22) dX8_catalogue_22 ?_
      refine R_aload_n (pc := 23) dX8_catalogue_23 rfl rfl ?_
      refine R_aload_n (pc := 24) dX8_catalogue_24 rfl rfl ?_
      refine g_X8_65 (pc := 25) (v := .ref 126) rfl dX8_catalogue_25 (c_0 _) (by show some (Value.ref σx16.2.2.2.2.2) = _; rw [hl24]) ?_
      refine p_X8_62 (pc := 28) rfl dX8_catalogue_28 (c_0 _) (Nat.le_of_ble_eq_true rfl) rfl rfl (s_0_7 _ _) ?_
      refine R_aload_n (pc := 31) dX8_catalogue_31 rfl rfl ?_
      refine R_aload_n (pc := 32) dX8_catalogue_32 rfl rfl ?_
      have hV26 := su_ln hV15 126 133 (by decide)
      have hW27 := cor_un 126 133 hW22
      refine p_X8_65 (pc := 33) (w2 := WW (uN σx16 126 133)) rfl dX8_catalogue_33 (c_0 _) (Nat.le_of_ble_eq_true rfl) rfl rfl (s_0_8 (uN σx16 126 σx16.2.2.2.2.2) 133) ?_
      refine R_aload_n (pc := 36) dX8_catalogue_36 rfl rfl ?_
      refine g_X8_62 (pc := 37) (v := .ref 126) rfl dX8_catalogue_37 (c_0 _) rfl ?_
      refine g_X8_299 (pc := 40) (v := .int (σx16.1 12606)) rfl dX8_catalogue_40 (c_126 _) rfl ?_
      exact R_iret (pc := 43) dX8_catalogue_43 rfl rfl (Nat.zero_le _) (Nat.zero_le _) ⟨_, rfl, (hz18.trans (catF_t b12_25).symm), _, rfl, hV26, Or.inr ⟨b12_25, Or.inl ⟨hl1d, hW27, hz18, hC21 b12_25⟩⟩⟩
    · skip
      refine R_bipush (pc := 15) (v := (-4)) dX8_catalogue_15 (by decide) ?_
      exact R_iret (pc := 17) dX8_catalogue_17 rfl rfl (Nat.zero_le _) (Nat.zero_le _) ⟨_, rfl, (catF_f b12_25).symm, _, rfl, hV15, Or.inl ⟨b12_25, Or.inl ⟨hl1d, hW22⟩⟩⟩
