/-! methods on any state that keeps the invariant -/
def catF (f : Nat → Int32) (n : Nat) : Int32 := bif decide (rdR f n = -1) then rdZ f n else -4
theorem catF_t {f : Nat → Int32} {n : Nat} (h : rdR f n = -1) : catF f n = rdZ f n := by unfold catF; rw [decide_eq_true h, cond_true]
theorem catF_f {f : Nat → Int32} {n : Nat} (h : ¬ rdR f n = -1) : catF f n = -4 := by unfold catF; rw [decide_eq_false h, cond_false]
theorem by_n {σ : Sg} (hI : Inv σ) : σ.1 11701 = nI (Int32.toNatClampNeg (σ.1 11701)) ∧ Int32.toNatClampNeg (σ.1 11701) ≤ 160 := by
  obtain ⟨k, hk, e⟩ := nI_inR (M := 160) (iv_11701 hI) (by decide)
  rw [e, nI_clamp (by omega)]
  exact ⟨rfl, hk⟩
set_option maxRecDepth 100000 in
set_option maxHeartbeats 40000000 in
theorem gq_X8_catalogue {G : vG} {l : Launch} (σ : Sg)  (hI : Inv σ) : Sp G l yX8_catalogue cX8_catalogue 2 (some .int) 9 0 0 [.ref 0] (WW σ) (QI (fun x w2 => x = catF (σ.2.2.1 118) (Int32.toNatClampNeg (σ.1 11701)) ∧ ∃ σ2, w2 = WW σ2 ∧ Inv σ2 ∧ ∃ a b, (CoL (uN σ a b) σ2 ∨ CoM (uN σ a b) σ2))) := by
  refine Sp_of_R [(some (.ref 0)), none] [none] rfl (by simp) rfl (Nat.le_of_ble_eq_true rfl) ?_
  refine R_aload_n (pc := 0) dX8_catalogue_0 rfl rfl ?_
  refine g_X8_51 (pc := 1) (v := .ref 117) rfl dX8_catalogue_1 (c_0 _) rfl ?_
  refine R_aload_n (pc := 4) dX8_catalogue_4 rfl rfl ?_
  rcases iv_ln hI with ⟨hl1, hl1d⟩ | ⟨hl1, hl1d⟩
  · skip
    refine g_X8_65 (pc := 5) (v := .ref 133) rfl dX8_catalogue_5 (c_0 _) (by show some (Value.ref σ.2.2.2.2.2) = _; rw [hl1d]) ?_
    refine k_X8_295 (pc := 8) (ge_X6_read_133 _ (Int32.toNatClampNeg (σ.1 11701)) hI (by_n hI).1 (by_n hI).2) rfl (c_117 _) (by decide) (Nat.le_refl _) (Nat.le_refl _) (Nat.le_of_ble_eq_true rfl) dX8_catalogue_8 (fun y7 w2 h => ?_)
    obtain ⟨hx6, σx3, rfl, hV2, hW4, hz5⟩ := h
    have hW8 := Cor.trans (Cor.rfl' σ) hW4
    have hl9 : σx3.2.2.2.2.1 = 126 := (congrArg Prod.fst hW4.2.2.2.2).trans hl1
    have hl10 : σx3.2.2.2.2.2 = 133 := (congrArg Prod.snd hW4.2.2.2.2).trans hl1d
    refine R_cv (rdR (σ.2.2.1 118) (Int32.toNatClampNeg (σ.1 11701))) hx6 ?_
    refine R_iconst (pc := 11) (v := (-1)) dX8_catalogue_11 (by decide) ?_
    refine R_iceq (pc := 12) 18 dX8_catalogue_12 (by decide) (fun b12_11 => ?_) (fun b12_11 => ?_)
    · skip
      refine R_aload_n (pc := 18) dX8_catalogue_18 rfl rfl ?_
      refine g_X8_62 (pc := 19) (v := .ref 126) rfl dX8_catalogue_19 (c_0 _) (by show some (Value.ref σx3.2.2.2.2.1) = _; rw [hl9]) ?_
      refine st_2_1_a_a (pc := 22) dX8_catalogue_22 ?_
      refine R_aload_n (pc := 23) dX8_catalogue_23 rfl rfl ?_
      refine R_aload_n (pc := 24) dX8_catalogue_24 rfl rfl ?_
      refine g_X8_65 (pc := 25) (v := .ref 133) rfl dX8_catalogue_25 (c_0 _) (by show some (Value.ref σx3.2.2.2.2.2) = _; rw [hl10]) ?_
      refine p_X8_62 (pc := 28) rfl dX8_catalogue_28 (c_0 _) (Nat.le_of_ble_eq_true rfl) rfl rfl (s_0_7 _ _) ?_
      refine R_aload_n (pc := 31) dX8_catalogue_31 rfl rfl ?_
      refine R_aload_n (pc := 32) dX8_catalogue_32 rfl rfl ?_
      have hV12 := su_ln hV2 133 126 (by decide)
      have hW13 := cor_un 133 126 hW8
      refine p_X8_65 (pc := 33) (w2 := WW (uN σx3 133 126)) rfl dX8_catalogue_33 (c_0 _) (Nat.le_of_ble_eq_true rfl) rfl rfl (s_0_8 (uN σx3 133 σx3.2.2.2.2.2) 126) ?_
      refine R_aload_n (pc := 36) dX8_catalogue_36 rfl rfl ?_
      refine g_X8_62 (pc := 37) (v := .ref 133) rfl dX8_catalogue_37 (c_0 _) rfl ?_
      refine g_X8_299 (pc := 40) (v := .int (σx3.1 13306)) rfl dX8_catalogue_40 (c_133 _) rfl ?_
      exact R_iret (pc := 43) dX8_catalogue_43 rfl rfl (Nat.zero_le _) (Nat.zero_le _) ⟨_, rfl, (hz5.trans (catF_t b12_11).symm), _, rfl, hV12, 133, 126, Or.inr hW13⟩
    · skip
      refine R_bipush (pc := 15) (v := (-4)) dX8_catalogue_15 (by decide) ?_
      exact R_iret (pc := 17) dX8_catalogue_17 rfl rfl (Nat.zero_le _) (Nat.zero_le _) ⟨_, rfl, (catF_f b12_11).symm, _, rfl, hV2, σ.2.2.2.2.1, σ.2.2.2.2.2, Or.inr hW8⟩
  · skip
    refine g_X8_65 (pc := 5) (v := .ref 126) rfl dX8_catalogue_5 (c_0 _) (by show some (Value.ref σ.2.2.2.2.2) = _; rw [hl1d]) ?_
    refine k_X8_295 (pc := 8) (ge_X6_read_126 _ (Int32.toNatClampNeg (σ.1 11701)) hI (by_n hI).1 (by_n hI).2) rfl (c_117 _) (by decide) (Nat.le_refl _) (Nat.le_refl _) (Nat.le_of_ble_eq_true rfl) dX8_catalogue_8 (fun y19 w2 h => ?_)
    obtain ⟨hx18, σx15, rfl, hV14, hW16, hz17⟩ := h
    have hW20 := Cor.trans (Cor.rfl' σ) hW16
    have hl21 : σx15.2.2.2.2.1 = 133 := (congrArg Prod.fst hW16.2.2.2.2).trans hl1
    have hl22 : σx15.2.2.2.2.2 = 126 := (congrArg Prod.snd hW16.2.2.2.2).trans hl1d
    refine R_cv (rdR (σ.2.2.1 118) (Int32.toNatClampNeg (σ.1 11701))) hx18 ?_
    refine R_iconst (pc := 11) (v := (-1)) dX8_catalogue_11 (by decide) ?_
    refine R_iceq (pc := 12) 18 dX8_catalogue_12 (by decide) (fun b12_23 => ?_) (fun b12_23 => ?_)
    · skip
      refine R_aload_n (pc := 18) dX8_catalogue_18 rfl rfl ?_
      refine g_X8_62 (pc := 19) (v := .ref 133) rfl dX8_catalogue_19 (c_0 _) (by show some (Value.ref σx15.2.2.2.2.1) = _; rw [hl21]) ?_
      refine st_2_1_a_a (pc := 22) dX8_catalogue_22 ?_
      refine R_aload_n (pc := 23) dX8_catalogue_23 rfl rfl ?_
      refine R_aload_n (pc := 24) dX8_catalogue_24 rfl rfl ?_
      refine g_X8_65 (pc := 25) (v := .ref 126) rfl dX8_catalogue_25 (c_0 _) (by show some (Value.ref σx15.2.2.2.2.2) = _; rw [hl22]) ?_
      refine p_X8_62 (pc := 28) rfl dX8_catalogue_28 (c_0 _) (Nat.le_of_ble_eq_true rfl) rfl rfl (s_0_7 _ _) ?_
      refine R_aload_n (pc := 31) dX8_catalogue_31 rfl rfl ?_
      refine R_aload_n (pc := 32) dX8_catalogue_32 rfl rfl ?_
      have hV24 := su_ln hV14 126 133 (by decide)
      have hW25 := cor_un 126 133 hW20
      refine p_X8_65 (pc := 33) (w2 := WW (uN σx15 126 133)) rfl dX8_catalogue_33 (c_0 _) (Nat.le_of_ble_eq_true rfl) rfl rfl (s_0_8 (uN σx15 126 σx15.2.2.2.2.2) 133) ?_
      refine R_aload_n (pc := 36) dX8_catalogue_36 rfl rfl ?_
      refine g_X8_62 (pc := 37) (v := .ref 126) rfl dX8_catalogue_37 (c_0 _) rfl ?_
      refine g_X8_299 (pc := 40) (v := .int (σx15.1 12606)) rfl dX8_catalogue_40 (c_126 _) rfl ?_
      exact R_iret (pc := 43) dX8_catalogue_43 rfl rfl (Nat.zero_le _) (Nat.zero_le _) ⟨_, rfl, (hz17.trans (catF_t b12_23).symm), _, rfl, hV24, 126, 133, Or.inl hW25⟩
    · skip
      refine R_bipush (pc := 15) (v := (-4)) dX8_catalogue_15 (by decide) ?_
      exact R_iret (pc := 17) dX8_catalogue_17 rfl rfl (Nat.zero_le _) (Nat.zero_le _) ⟨_, rfl, (catF_f b12_23).symm, _, rfl, hV14, σ.2.2.2.2.1, σ.2.2.2.2.2, Or.inl hW20⟩
