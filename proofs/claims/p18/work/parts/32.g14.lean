/-! methods on any state that keeps the invariant -/
theorem dX9_feature_0 : decode cX9_feature 0 = .ok (.iload_n 1, 1) := by decide +kernel
theorem dX9_feature_1 : decode cX9_feature 1 = .ok (.iconst 0, 1) := by decide +kernel
theorem dX9_feature_2 : decode cX9_feature 2 = .ok (.bipush 7, 2) := by decide +kernel
theorem dX9_feature_4 : decode cX9_feature 4 = .ok (.invokestatic 124, 3) := by decide +kernel
theorem dX9_feature_7 : decode cX9_feature 7 = .ok (.ifCond .ne 6, 3) := by decide +kernel
theorem dX9_feature_10 : decode cX9_feature 10 = .ok (.bipush (-2), 2) := by decide +kernel
theorem dX9_feature_12 : decode cX9_feature 12 = .ok (.ireturn, 1) := by decide +kernel
theorem dX9_feature_13 : decode cX9_feature 13 = .ok (.iload_n 2, 1) := by decide +kernel
theorem dX9_feature_14 : decode cX9_feature 14 = .ok (.invokestatic 198, 3) := by decide +kernel
theorem dX9_feature_17 : decode cX9_feature 17 = .ok (.ifCond .eq 14, 3) := by decide +kernel
theorem dX9_feature_20 : decode cX9_feature 20 = .ok (.iload_n 3, 1) := by decide +kernel
theorem dX9_feature_21 : decode cX9_feature 21 = .ok (.iload_n 2, 1) := by decide +kernel
theorem dX9_feature_22 : decode cX9_feature 22 = .ok (.sipush 20000, 3) := by decide +kernel
theorem dX9_feature_25 : decode cX9_feature 25 = .ok (.invokestatic 124, 3) := by decide +kernel
theorem dX9_feature_28 : decode cX9_feature 28 = .ok (.ifCond .ne 6, 3) := by decide +kernel
theorem dX9_feature_31 : decode cX9_feature 31 = .ok (.bipush (-3), 2) := by decide +kernel
theorem dX9_feature_33 : decode cX9_feature 33 = .ok (.ireturn, 1) := by decide +kernel
theorem dX9_feature_34 : decode cX9_feature 34 = .ok (.aload_n 0, 1) := by decide +kernel
theorem dX9_feature_35 : decode cX9_feature 35 = .ok (.getfield 66, 3) := by decide +kernel
theorem dX9_feature_38 : decode cX9_feature 38 = .ok (.iload_n 1, 1) := by decide +kernel
theorem dX9_feature_39 : decode cX9_feature 39 = .ok (.iload_n 2, 1) := by decide +kernel
theorem dX9_feature_40 : decode cX9_feature 40 = .ok (.iastore, 1) := by decide +kernel
theorem dX9_feature_41 : decode cX9_feature 41 = .ok (.aload_n 0, 1) := by decide +kernel
theorem dX9_feature_42 : decode cX9_feature 42 = .ok (.getfield 69, 3) := by decide +kernel
theorem dX9_feature_45 : decode cX9_feature 45 = .ok (.iload_n 1, 1) := by decide +kernel
theorem dX9_feature_46 : decode cX9_feature 46 = .ok (.iload_n 3, 1) := by decide +kernel
theorem dX9_feature_47 : decode cX9_feature 47 = .ok (.iastore, 1) := by decide +kernel
theorem dX9_feature_48 : decode cX9_feature 48 = .ok (.iconst 1, 1) := by decide +kernel
theorem dX9_feature_49 : decode cX9_feature 49 = .ok (.ireturn, 1) := by decide +kernel
set_option maxRecDepth 100000 in
set_option maxHeartbeats 40000000 in
theorem gp_m_feature {G : vG} {l : Launch} (σ : Sg) (a b c : Int32) (hI : Inv σ) : Sp G l yX9_feature cX9_feature 4 (some .int) 2 0 0 [.ref 140, .int a, .int b, .int c] (WW σ) (QI (fun _ w2 => ∃ σ2, w2 = WW σ2 ∧ Inv σ2)) := by
  refine Sp_of_R [(some (.ref 140)), (some (.int a)), (some (.int b)), (some (.int c))] [] rfl (by simp) rfl (Nat.le_of_ble_eq_true rfl) ?_
  refine R_iload_n (pc := 0) dX9_feature_0 rfl rfl ?_
  refine R_iconst (pc := 1) (v := 0) dX9_feature_1 (by decide) ?_
  refine R_bipush (pc := 2) (v := 7) dX9_feature_2 (by decide) ?_
  refine k_X9_124 (pc := 4) (sp_X9_in _ _ _ _) rfl (by decide) (Nat.le_refl _) (Nat.le_refl _) (Nat.le_of_ble_eq_true rfl) dX9_feature_4 (fun x w2 h => ?_)
  rcases h with ⟨rfl, ⟨h1, rfl⟩ | ⟨h1, rfl⟩⟩
  · skip
    refine R_ifne (pc := 7) 13 dX9_feature_7 (by decide) (fun _ => ?_) (fun h => absurd h (by decide))
    refine R_iload_n (pc := 13) dX9_feature_13 rfl rfl ?_
    refine k_X9_198 (pc := 14) (gx_X9_isDay _ _) rfl (by decide) (Nat.le_refl _) (Nat.le_refl _) (Nat.le_of_ble_eq_true rfl) dX9_feature_14 (fun x w2 h => ?_)
    rcases h with ⟨rfl, ⟨h3, rfl⟩ | rfl⟩
    · skip
      refine R_ifeq (pc := 17) 31 dX9_feature_17 (by decide) (fun h => absurd h (by decide)) (fun _ => ?_)
      refine R_iload_n (pc := 20) dX9_feature_20 rfl rfl ?_
      refine R_iload_n (pc := 21) dX9_feature_21 rfl rfl ?_
      refine R_sipush (pc := 22) (v := 20000) dX9_feature_22 (by decide) ?_
      refine k_X9_124 (pc := 25) (sp_X9_in _ _ _ _) rfl (by decide) (Nat.le_refl _) (Nat.le_refl _) (Nat.le_of_ble_eq_true rfl) dX9_feature_25 (fun x w2 h => ?_)
      rcases h with ⟨rfl, ⟨h5, rfl⟩ | ⟨h5, rfl⟩⟩
      · skip
        refine R_ifne (pc := 28) 34 dX9_feature_28 (by decide) (fun _ => ?_) (fun h => absurd h (by decide))
        refine R_aload_n (pc := 34) dX9_feature_34 rfl rfl ?_
        refine g_X9_66 (pc := 35) (v := .ref 156) rfl dX9_feature_35 (c_140 _) rfl ?_
        refine R_iload_n (pc := 38) dX9_feature_38 rfl rfl ?_
        refine R_iload_n (pc := 39) dX9_feature_39 rfl rfl ?_
        have hx7 : vp_in a 8 := (vp_of_inR h1 (by decide))
        refine W_iastore (pc := 40) dX9_feature_40 (c_156 _) hx7 (a_156 _ _) ?_
        have hW8 := cor_ca 156 (Int32.toNatClampNeg a) b (Cor.rfl' σ) rfl
        refine R_aload_n (pc := 41) dX9_feature_41 rfl rfl ?_
        refine g_X9_69 (pc := 42) (v := .ref 157) rfl dX9_feature_42 (c_140 _) rfl ?_
        refine R_iload_n (pc := 45) dX9_feature_45 rfl rfl ?_
        refine R_iload_n (pc := 46) dX9_feature_46 rfl rfl ?_
        have hx9 : vp_in a 8 := (vp_of_inR h1 (by decide))
        refine W_iastore (pc := 47) dX9_feature_47 (c_157 _) hx9 (a_157 _ _) ?_
        have hW10 := cor_ca 157 (Int32.toNatClampNeg a) c hW8 rfl
        refine R_iconst (pc := 48) (v := 1) dX9_feature_48 (by decide) ?_
        exact R_iret (pc := 49) dX9_feature_49 rfl rfl (Nat.zero_le _) (Nat.zero_le _) ⟨_, rfl, _, rfl, hI⟩
      · skip
        refine R_ifne (pc := 28) 34 dX9_feature_28 (by decide) (fun h => absurd (by decide) h) (fun _ => ?_)
        refine R_bipush (pc := 31) (v := (-3)) dX9_feature_31 (by decide) ?_
        exact R_iret (pc := 33) dX9_feature_33 rfl rfl (Nat.zero_le _) (Nat.zero_le _) ⟨_, rfl, _, rfl, hI⟩
    · skip
      refine R_ifeq (pc := 17) 31 dX9_feature_17 (by decide) (fun _ => ?_) (fun h => absurd (by decide) h)
      refine R_bipush (pc := 31) (v := (-3)) dX9_feature_31 (by decide) ?_
      exact R_iret (pc := 33) dX9_feature_33 rfl rfl (Nat.zero_le _) (Nat.zero_le _) ⟨_, rfl, _, rfl, hI⟩
  · skip
    refine R_ifne (pc := 7) 13 dX9_feature_7 (by decide) (fun h => absurd (by decide) h) (fun _ => ?_)
    refine R_bipush (pc := 10) (v := (-2)) dX9_feature_10 (by decide) ?_
    exact R_iret (pc := 12) dX9_feature_12 rfl rfl (Nat.zero_le _) (Nat.zero_le _) ⟨_, rfl, _, rfl, hI⟩
theorem dX9_shows_0 : decode cX9_shows 0 = .ok (.aload_n 0, 1) := by decide +kernel
theorem dX9_shows_1 : decode cX9_shows 1 = .ok (.iload_n 1, 1) := by decide +kernel
theorem dX9_shows_2 : decode cX9_shows 2 = .ok (.invokevirtual 135, 3) := by decide +kernel
theorem dX9_shows_5 : decode cX9_shows 5 = .ok (.ifCond .eq 13, 3) := by decide +kernel
theorem dX9_shows_8 : decode cX9_shows 8 = .ok (.iload_n 2, 1) := by decide +kernel
theorem dX9_shows_9 : decode cX9_shows 9 = .ok (.iconst 0, 1) := by decide +kernel
theorem dX9_shows_10 : decode cX9_shows 10 = .ok (.bipush 7, 2) := by decide +kernel
theorem dX9_shows_12 : decode cX9_shows 12 = .ok (.invokestatic 124, 3) := by decide +kernel
theorem dX9_shows_15 : decode cX9_shows 15 = .ok (.ifCond .ne 6, 3) := by decide +kernel
theorem dX9_shows_18 : decode cX9_shows 18 = .ok (.bipush (-2), 2) := by decide +kernel
theorem dX9_shows_20 : decode cX9_shows 20 = .ok (.ireturn, 1) := by decide +kernel
theorem dX9_shows_21 : decode cX9_shows 21 = .ok (.iload_n 3, 1) := by decide +kernel
theorem dX9_shows_22 : decode cX9_shows 22 = .ok (.iconst 0, 1) := by decide +kernel
theorem dX9_shows_23 : decode cX9_shows 23 = .ok (.iconst 2, 1) := by decide +kernel
theorem dX9_shows_24 : decode cX9_shows 24 = .ok (.invokestatic 124, 3) := by decide +kernel
theorem dX9_shows_27 : decode cX9_shows 27 = .ok (.ifCond .ne 6, 3) := by decide +kernel
theorem dX9_shows_30 : decode cX9_shows 30 = .ok (.bipush (-3), 2) := by decide +kernel
theorem dX9_shows_32 : decode cX9_shows 32 = .ok (.ireturn, 1) := by decide +kernel
theorem dX9_shows_33 : decode cX9_shows 33 = .ok (.aload_n 0, 1) := by decide +kernel
theorem dX9_shows_34 : decode cX9_shows 34 = .ok (.getfield 72, 3) := by decide +kernel
theorem dX9_shows_37 : decode cX9_shows 37 = .ok (.bipush 8, 2) := by decide +kernel
theorem dX9_shows_39 : decode cX9_shows 39 = .ok (.iload_n 1, 1) := by decide +kernel
theorem dX9_shows_40 : decode cX9_shows 40 = .ok (.imul, 1) := by decide +kernel
theorem dX9_shows_41 : decode cX9_shows 41 = .ok (.iload_n 2, 1) := by decide +kernel
theorem dX9_shows_42 : decode cX9_shows 42 = .ok (.iadd, 1) := by decide +kernel
theorem dX9_shows_43 : decode cX9_shows 43 = .ok (.iaload, 1) := by decide +kernel
theorem dX9_shows_44 : decode cX9_shows 44 = .ok (.istore 4, 2) := by decide +kernel
theorem dX9_shows_46 : decode cX9_shows 46 = .ok (.aload_n 0, 1) := by decide +kernel
theorem dX9_shows_47 : decode cX9_shows 47 = .ok (.getfield 72, 3) := by decide +kernel
theorem dX9_shows_50 : decode cX9_shows 50 = .ok (.bipush 8, 2) := by decide +kernel
theorem dX9_shows_52 : decode cX9_shows 52 = .ok (.iload_n 1, 1) := by decide +kernel
theorem dX9_shows_53 : decode cX9_shows 53 = .ok (.imul, 1) := by decide +kernel
theorem dX9_shows_54 : decode cX9_shows 54 = .ok (.iload_n 2, 1) := by decide +kernel
theorem dX9_shows_55 : decode cX9_shows 55 = .ok (.iadd, 1) := by decide +kernel
theorem dX9_shows_56 : decode cX9_shows 56 = .ok (.iload_n 3, 1) := by decide +kernel
theorem dX9_shows_57 : decode cX9_shows 57 = .ok (.iastore, 1) := by decide +kernel
theorem dX9_shows_58 : decode cX9_shows 58 = .ok (.iload 4, 2) := by decide +kernel
theorem dX9_shows_60 : decode cX9_shows 60 = .ok (.ireturn, 1) := by decide +kernel
set_option maxRecDepth 100000 in
set_option maxHeartbeats 40000000 in
theorem gp_m_shows {G : vG} {l : Launch} (σ : Sg) (a b c : Int32) (hI : Inv σ) : Sp G l yX9_shows cX9_shows 5 (some .int) 2 0 0 [.ref 140, .int a, .int b, .int c] (WW σ) (QI (fun _ w2 => ∃ σ2, w2 = WW σ2 ∧ Inv σ2)) := by
  refine Sp_of_R [(some (.ref 140)), (some (.int a)), (some (.int b)), (some (.int c)), none] [none] rfl (by simp) rfl (Nat.le_of_ble_eq_true rfl) ?_
  refine R_aload_n (pc := 0) dX9_shows_0 rfl rfl ?_
  refine R_iload_n (pc := 1) dX9_shows_1 rfl rfl ?_
  refine k_X9_135 (pc := 2) (gx_X9_isThere _ _ hI) rfl (c_140 _) (by decide) (Nat.le_refl _) (Nat.le_refl _) (Nat.le_of_ble_eq_true rfl) dX9_shows_2 (fun x w2 h => ?_)
  rcases h with ⟨rfl, ⟨h1, rfl⟩ | rfl⟩
  · skip
    refine R_ifeq (pc := 5) 18 dX9_shows_5 (by decide) (fun h => absurd h (by decide)) (fun _ => ?_)
    refine R_iload_n (pc := 8) dX9_shows_8 rfl rfl ?_
    refine R_iconst (pc := 9) (v := 0) dX9_shows_9 (by decide) ?_
    refine R_bipush (pc := 10) (v := 7) dX9_shows_10 (by decide) ?_
    refine k_X9_124 (pc := 12) (sp_X9_in _ _ _ _) rfl (by decide) (Nat.le_refl _) (Nat.le_refl _) (Nat.le_of_ble_eq_true rfl) dX9_shows_12 (fun x w2 h => ?_)
    rcases h with ⟨rfl, ⟨h3, rfl⟩ | ⟨h3, rfl⟩⟩
    · skip
      refine R_ifne (pc := 15) 21 dX9_shows_15 (by decide) (fun _ => ?_) (fun h => absurd h (by decide))
      refine R_iload_n (pc := 21) dX9_shows_21 rfl rfl ?_
      refine R_iconst (pc := 22) (v := 0) dX9_shows_22 (by decide) ?_
      refine R_iconst (pc := 23) (v := 2) dX9_shows_23 (by decide) ?_
      refine k_X9_124 (pc := 24) (sp_X9_in _ _ _ _) rfl (by decide) (Nat.le_refl _) (Nat.le_refl _) (Nat.le_of_ble_eq_true rfl) dX9_shows_24 (fun x w2 h => ?_)
      rcases h with ⟨rfl, ⟨h5, rfl⟩ | ⟨h5, rfl⟩⟩
      · skip
        refine R_ifne (pc := 27) 33 dX9_shows_27 (by decide) (fun _ => ?_) (fun h => absurd h (by decide))
        refine R_aload_n (pc := 33) dX9_shows_33 rfl rfl ?_
        refine g_X9_72 (pc := 34) (v := .ref 158) rfl dX9_shows_34 (c_140 _) rfl ?_
        refine R_bipush (pc := 37) (v := 8) dX9_shows_37 (by decide) ?_
        refine R_iload_n (pc := 39) dX9_shows_39 rfl rfl ?_
        refine R_imul (pc := 40) dX9_shows_40 ?_
        have r7 : inR (8 * a) 0 152 := inR_mulc (c := 8) (l := 0) (h := 152) 8 (by decide) (show inR a 0 19 from h1) (by decide) (by decide)
        have e8 := ti_mulc (c := 8) (l := 0) (h := 152) 8 (by decide) (show inR a 0 19 from h1) (by decide) (by decide)
        refine R_iload_n (pc := 41) dX9_shows_41 rfl rfl ?_
        refine R_iadd (pc := 42) dX9_shows_42 ?_
        have r9 : inR ((8 * a) + b) 0 159 := inR_add (show inR (8 * a) 0 152 from r7) (show inR b 0 7 from h3) (by decide) (by decide)
        have e10 := ti_add (l := 0) (h := 159) (show inR (8 * a) 0 152 from r7) (show inR b 0 7 from h3) (by decide) (by decide)
        have hx11 : vp_in ((8 * a) + b) 160 := (vp_of_inR r9 (by decide))
        refine R_iaload (pc := 43) dX9_shows_43 (c_158 _) hx11 ?_
        refine st_5_4_i_i (pc := 44) dX9_shows_44 ?_
        refine R_aload_n (pc := 46) dX9_shows_46 rfl rfl ?_
        refine g_X9_72 (pc := 47) (v := .ref 158) rfl dX9_shows_47 (c_140 _) rfl ?_
        refine R_bipush (pc := 50) (v := 8) dX9_shows_50 (by decide) ?_
        refine R_iload_n (pc := 52) dX9_shows_52 rfl rfl ?_
        refine R_imul (pc := 53) dX9_shows_53 ?_
        have r12 : inR (8 * a) 0 152 := inR_mulc (c := 8) (l := 0) (h := 152) 8 (by decide) (show inR a 0 19 from h1) (by decide) (by decide)
        have e13 := ti_mulc (c := 8) (l := 0) (h := 152) 8 (by decide) (show inR a 0 19 from h1) (by decide) (by decide)
        refine R_iload_n (pc := 54) dX9_shows_54 rfl rfl ?_
        refine R_iadd (pc := 55) dX9_shows_55 ?_
        have r14 : inR ((8 * a) + b) 0 159 := inR_add (show inR (8 * a) 0 152 from r12) (show inR b 0 7 from h3) (by decide) (by decide)
        have e15 := ti_add (l := 0) (h := 159) (show inR (8 * a) 0 152 from r12) (show inR b 0 7 from h3) (by decide) (by decide)
        refine R_iload_n (pc := 56) dX9_shows_56 rfl rfl ?_
        have hx16 : vp_in ((8 * a) + b) 160 := (vp_of_inR r14 (by decide))
        refine W_iastore (pc := 57) dX9_shows_57 (c_158 _) hx16 (a_158 _ _) ?_
        have hW17 := cor_ca 158 (Int32.toNatClampNeg ((8 * a) + b)) c (Cor.rfl' σ) rfl
        refine R_iload (pc := 58) dX9_shows_58 rfl ?_
        exact R_iret (pc := 60) dX9_shows_60 rfl rfl (Nat.zero_le _) (Nat.zero_le _) ⟨_, rfl, _, rfl, hI⟩
      · skip
        refine R_ifne (pc := 27) 33 dX9_shows_27 (by decide) (fun h => absurd (by decide) h) (fun _ => ?_)
        refine R_bipush (pc := 30) (v := (-3)) dX9_shows_30 (by decide) ?_
        exact R_iret (pc := 32) dX9_shows_32 rfl rfl (Nat.zero_le _) (Nat.zero_le _) ⟨_, rfl, _, rfl, hI⟩
    · skip
      refine R_ifne (pc := 15) 21 dX9_shows_15 (by decide) (fun h => absurd (by decide) h) (fun _ => ?_)
      refine R_bipush (pc := 18) (v := (-2)) dX9_shows_18 (by decide) ?_
      exact R_iret (pc := 20) dX9_shows_20 rfl rfl (Nat.zero_le _) (Nat.zero_le _) ⟨_, rfl, _, rfl, hI⟩
  · skip
    refine R_ifeq (pc := 5) 18 dX9_shows_5 (by decide) (fun _ => ?_) (fun h => absurd (by decide) h)
    refine R_bipush (pc := 18) (v := (-2)) dX9_shows_18 (by decide) ?_
    exact R_iret (pc := 20) dX9_shows_20 rfl rfl (Nat.zero_le _) (Nat.zero_le _) ⟨_, rfl, _, rfl, hI⟩
theorem dX9_back_0 : decode cX9_back 0 = .ok (.iload_n 1, 1) := by decide +kernel
theorem dX9_back_1 : decode cX9_back 1 = .ok (.iconst 0, 1) := by decide +kernel
theorem dX9_back_2 : decode cX9_back 2 = .ok (.iconst 4, 1) := by decide +kernel
theorem dX9_back_3 : decode cX9_back 3 = .ok (.invokestatic 124, 3) := by decide +kernel
theorem dX9_back_6 : decode cX9_back 6 = .ok (.ifCond .ne 6, 3) := by decide +kernel
theorem dX9_back_9 : decode cX9_back 9 = .ok (.bipush (-2), 2) := by decide +kernel
theorem dX9_back_11 : decode cX9_back 11 = .ok (.ireturn, 1) := by decide +kernel
theorem dX9_back_12 : decode cX9_back 12 = .ok (.iload_n 2, 1) := by decide +kernel
theorem dX9_back_13 : decode cX9_back 13 = .ok (.invokestatic 198, 3) := by decide +kernel
theorem dX9_back_16 : decode cX9_back 16 = .ok (.ifCond .eq 14, 3) := by decide +kernel
theorem dX9_back_19 : decode cX9_back 19 = .ok (.iload_n 3, 1) := by decide +kernel
theorem dX9_back_20 : decode cX9_back 20 = .ok (.iload_n 2, 1) := by decide +kernel
theorem dX9_back_21 : decode cX9_back 21 = .ok (.sipush 20000, 3) := by decide +kernel
theorem dX9_back_24 : decode cX9_back 24 = .ok (.invokestatic 124, 3) := by decide +kernel
theorem dX9_back_27 : decode cX9_back 27 = .ok (.ifCond .ne 6, 3) := by decide +kernel
theorem dX9_back_30 : decode cX9_back 30 = .ok (.bipush (-3), 2) := by decide +kernel
theorem dX9_back_32 : decode cX9_back 32 = .ok (.ireturn, 1) := by decide +kernel
theorem dX9_back_33 : decode cX9_back 33 = .ok (.aload_n 0, 1) := by decide +kernel
theorem dX9_back_34 : decode cX9_back 34 = .ok (.getfield 75, 3) := by decide +kernel
theorem dX9_back_37 : decode cX9_back 37 = .ok (.iload_n 1, 1) := by decide +kernel
theorem dX9_back_38 : decode cX9_back 38 = .ok (.iload_n 2, 1) := by decide +kernel
theorem dX9_back_39 : decode cX9_back 39 = .ok (.iastore, 1) := by decide +kernel
theorem dX9_back_40 : decode cX9_back 40 = .ok (.aload_n 0, 1) := by decide +kernel
theorem dX9_back_41 : decode cX9_back 41 = .ok (.getfield 78, 3) := by decide +kernel
theorem dX9_back_44 : decode cX9_back 44 = .ok (.iload_n 1, 1) := by decide +kernel
theorem dX9_back_45 : decode cX9_back 45 = .ok (.iload_n 3, 1) := by decide +kernel
theorem dX9_back_46 : decode cX9_back 46 = .ok (.iastore, 1) := by decide +kernel
theorem dX9_back_47 : decode cX9_back 47 = .ok (.iconst 1, 1) := by decide +kernel
theorem dX9_back_48 : decode cX9_back 48 = .ok (.ireturn, 1) := by decide +kernel
set_option maxRecDepth 100000 in
set_option maxHeartbeats 40000000 in
theorem gp_m_back {G : vG} {l : Launch} (σ : Sg) (a b c : Int32) (hI : Inv σ) : Sp G l yX9_back cX9_back 4 (some .int) 2 0 0 [.ref 140, .int a, .int b, .int c] (WW σ) (QI (fun _ w2 => ∃ σ2, w2 = WW σ2 ∧ Inv σ2)) := by
  refine Sp_of_R [(some (.ref 140)), (some (.int a)), (some (.int b)), (some (.int c))] [] rfl (by simp) rfl (Nat.le_of_ble_eq_true rfl) ?_
  refine R_iload_n (pc := 0) dX9_back_0 rfl rfl ?_
  refine R_iconst (pc := 1) (v := 0) dX9_back_1 (by decide) ?_
  refine R_iconst (pc := 2) (v := 4) dX9_back_2 (by decide) ?_
  refine k_X9_124 (pc := 3) (sp_X9_in _ _ _ _) rfl (by decide) (Nat.le_refl _) (Nat.le_refl _) (Nat.le_of_ble_eq_true rfl) dX9_back_3 (fun x w2 h => ?_)
  rcases h with ⟨rfl, ⟨h1, rfl⟩ | ⟨h1, rfl⟩⟩
  · skip
    refine R_ifne (pc := 6) 12 dX9_back_6 (by decide) (fun _ => ?_) (fun h => absurd h (by decide))
    refine R_iload_n (pc := 12) dX9_back_12 rfl rfl ?_
    refine k_X9_198 (pc := 13) (gx_X9_isDay _ _) rfl (by decide) (Nat.le_refl _) (Nat.le_refl _) (Nat.le_of_ble_eq_true rfl) dX9_back_13 (fun x w2 h => ?_)
    rcases h with ⟨rfl, ⟨h3, rfl⟩ | rfl⟩
    · skip
      refine R_ifeq (pc := 16) 30 dX9_back_16 (by decide) (fun h => absurd h (by decide)) (fun _ => ?_)
      refine R_iload_n (pc := 19) dX9_back_19 rfl rfl ?_
      refine R_iload_n (pc := 20) dX9_back_20 rfl rfl ?_
      refine R_sipush (pc := 21) (v := 20000) dX9_back_21 (by decide) ?_
      refine k_X9_124 (pc := 24) (sp_X9_in _ _ _ _) rfl (by decide) (Nat.le_refl _) (Nat.le_refl _) (Nat.le_of_ble_eq_true rfl) dX9_back_24 (fun x w2 h => ?_)
      rcases h with ⟨rfl, ⟨h5, rfl⟩ | ⟨h5, rfl⟩⟩
      · skip
        refine R_ifne (pc := 27) 33 dX9_back_27 (by decide) (fun _ => ?_) (fun h => absurd h (by decide))
        refine R_aload_n (pc := 33) dX9_back_33 rfl rfl ?_
        refine g_X9_75 (pc := 34) (v := .ref 159) rfl dX9_back_34 (c_140 _) rfl ?_
        refine R_iload_n (pc := 37) dX9_back_37 rfl rfl ?_
        refine R_iload_n (pc := 38) dX9_back_38 rfl rfl ?_
        have hx7 : vp_in a 5 := (vp_of_inR h1 (by decide))
        refine W_iastore (pc := 39) dX9_back_39 (c_159 _) hx7 (a_159 _ _) ?_
        have hW8 := cor_ca 159 (Int32.toNatClampNeg a) b (Cor.rfl' σ) rfl
        refine R_aload_n (pc := 40) dX9_back_40 rfl rfl ?_
        refine g_X9_78 (pc := 41) (v := .ref 160) rfl dX9_back_41 (c_140 _) rfl ?_
        refine R_iload_n (pc := 44) dX9_back_44 rfl rfl ?_
        refine R_iload_n (pc := 45) dX9_back_45 rfl rfl ?_
        have hx9 : vp_in a 5 := (vp_of_inR h1 (by decide))
        refine W_iastore (pc := 46) dX9_back_46 (c_160 _) hx9 (a_160 _ _) ?_
        have hW10 := cor_ca 160 (Int32.toNatClampNeg a) c hW8 rfl
        refine R_iconst (pc := 47) (v := 1) dX9_back_47 (by decide) ?_
        exact R_iret (pc := 48) dX9_back_48 rfl rfl (Nat.zero_le _) (Nat.zero_le _) ⟨_, rfl, _, rfl, hI⟩
      · skip
        refine R_ifne (pc := 27) 33 dX9_back_27 (by decide) (fun h => absurd (by decide) h) (fun _ => ?_)
        refine R_bipush (pc := 30) (v := (-3)) dX9_back_30 (by decide) ?_
        exact R_iret (pc := 32) dX9_back_32 rfl rfl (Nat.zero_le _) (Nat.zero_le _) ⟨_, rfl, _, rfl, hI⟩
    · skip
      refine R_ifeq (pc := 16) 30 dX9_back_16 (by decide) (fun _ => ?_) (fun h => absurd (by decide) h)
      refine R_bipush (pc := 30) (v := (-3)) dX9_back_30 (by decide) ?_
      exact R_iret (pc := 32) dX9_back_32 rfl rfl (Nat.zero_le _) (Nat.zero_le _) ⟨_, rfl, _, rfl, hI⟩
  · skip
    refine R_ifne (pc := 6) 12 dX9_back_6 (by decide) (fun h => absurd (by decide) h) (fun _ => ?_)
    refine R_bipush (pc := 9) (v := (-2)) dX9_back_9 (by decide) ?_
    exact R_iret (pc := 11) dX9_back_11 rfl rfl (Nat.zero_le _) (Nat.zero_le _) ⟨_, rfl, _, rfl, hI⟩
theorem dX9_later_0 : decode cX9_later 0 = .ok (.aload_n 0, 1) := by decide +kernel
theorem dX9_later_1 : decode cX9_later 1 = .ok (.iload_n 1, 1) := by decide +kernel
theorem dX9_later_2 : decode cX9_later 2 = .ok (.invokevirtual 135, 3) := by decide +kernel
theorem dX9_later_5 : decode cX9_later 5 = .ok (.ifCond .eq 16, 3) := by decide +kernel
theorem dX9_later_8 : decode cX9_later 8 = .ok (.aload_n 0, 1) := by decide +kernel
theorem dX9_later_9 : decode cX9_later 9 = .ok (.iload_n 2, 1) := by decide +kernel
theorem dX9_later_10 : decode cX9_later 10 = .ok (.invokevirtual 135, 3) := by decide +kernel
theorem dX9_later_13 : decode cX9_later 13 = .ok (.ifCond .eq 8, 3) := by decide +kernel
theorem dX9_later_16 : decode cX9_later 16 = .ok (.iload_n 1, 1) := by decide +kernel
theorem dX9_later_17 : decode cX9_later 17 = .ok (.iload_n 2, 1) := by decide +kernel
theorem dX9_later_18 : decode cX9_later 18 = .ok (.if_icmp .ne 6, 3) := by decide +kernel
theorem dX9_later_21 : decode cX9_later 21 = .ok (.bipush (-2), 2) := by decide +kernel
theorem dX9_later_23 : decode cX9_later 23 = .ok (.ireturn, 1) := by decide +kernel
theorem dX9_later_24 : decode cX9_later 24 = .ok (.aload_n 0, 1) := by decide +kernel
theorem dX9_later_25 : decode cX9_later 25 = .ok (.getfield 201, 3) := by decide +kernel
theorem dX9_later_28 : decode cX9_later 28 = .ok (.bipush 12, 2) := by decide +kernel
theorem dX9_later_30 : decode cX9_later 30 = .ok (.if_icmp .ne 6, 3) := by decide +kernel
theorem dX9_later_33 : decode cX9_later 33 = .ok (.bipush (-5), 2) := by decide +kernel
theorem dX9_later_35 : decode cX9_later 35 = .ok (.ireturn, 1) := by decide +kernel
theorem dX9_later_36 : decode cX9_later 36 = .ok (.aload_n 0, 1) := by decide +kernel
theorem dX9_later_37 : decode cX9_later 37 = .ok (.getfield 81, 3) := by decide +kernel
theorem dX9_later_40 : decode cX9_later 40 = .ok (.aload_n 0, 1) := by decide +kernel
theorem dX9_later_41 : decode cX9_later 41 = .ok (.getfield 201, 3) := by decide +kernel
theorem dX9_later_44 : decode cX9_later 44 = .ok (.iload_n 1, 1) := by decide +kernel
theorem dX9_later_45 : decode cX9_later 45 = .ok (.iastore, 1) := by decide +kernel
theorem dX9_later_46 : decode cX9_later 46 = .ok (.aload_n 0, 1) := by decide +kernel
theorem dX9_later_47 : decode cX9_later 47 = .ok (.getfield 84, 3) := by decide +kernel
theorem dX9_later_50 : decode cX9_later 50 = .ok (.aload_n 0, 1) := by decide +kernel
theorem dX9_later_51 : decode cX9_later 51 = .ok (.getfield 201, 3) := by decide +kernel
theorem dX9_later_54 : decode cX9_later 54 = .ok (.iload_n 2, 1) := by decide +kernel
theorem dX9_later_55 : decode cX9_later 55 = .ok (.iastore, 1) := by decide +kernel
theorem dX9_later_56 : decode cX9_later 56 = .ok (.aload_n 0, 1) := by decide +kernel
theorem dX9_later_57 : decode cX9_later 57 = .ok (.dup, 1) := by decide +kernel
theorem dX9_later_58 : decode cX9_later 58 = .ok (.getfield 201, 3) := by decide +kernel
theorem dX9_later_61 : decode cX9_later 61 = .ok (.iconst 1, 1) := by decide +kernel
theorem dX9_later_62 : decode cX9_later 62 = .ok (.iadd, 1) := by decide +kernel
theorem dX9_later_63 : decode cX9_later 63 = .ok (.putfield 201, 3) := by decide +kernel
theorem dX9_later_66 : decode cX9_later 66 = .ok (.aload_n 0, 1) := by decide +kernel
theorem dX9_later_67 : decode cX9_later 67 = .ok (.getfield 201, 3) := by decide +kernel
theorem dX9_later_70 : decode cX9_later 70 = .ok (.ireturn, 1) := by decide +kernel
set_option maxRecDepth 100000 in
set_option maxHeartbeats 40000000 in
theorem gp_m_later {G : vG} {l : Launch} (σ : Sg) (a b : Int32) (hI : Inv σ) : Sp G l yX9_later cX9_later 3 (some .int) 2 0 0 [.ref 140, .int a, .int b] (WW σ) (QI (fun _ w2 => ∃ σ2, w2 = WW σ2 ∧ Inv σ2)) := by
  refine Sp_of_R [(some (.ref 140)), (some (.int a)), (some (.int b))] [] rfl (by simp) rfl (Nat.le_of_ble_eq_true rfl) ?_
  refine R_aload_n (pc := 0) dX9_later_0 rfl rfl ?_
  refine R_iload_n (pc := 1) dX9_later_1 rfl rfl ?_
  refine k_X9_135 (pc := 2) (gx_X9_isThere _ _ hI) rfl (c_140 _) (by decide) (Nat.le_refl _) (Nat.le_refl _) (Nat.le_of_ble_eq_true rfl) dX9_later_2 (fun x w2 h => ?_)
  rcases h with ⟨rfl, ⟨h1, rfl⟩ | rfl⟩
  · skip
    refine R_ifeq (pc := 5) 21 dX9_later_5 (by decide) (fun h => absurd h (by decide)) (fun _ => ?_)
    refine R_aload_n (pc := 8) dX9_later_8 rfl rfl ?_
    refine R_iload_n (pc := 9) dX9_later_9 rfl rfl ?_
    refine k_X9_135 (pc := 10) (gx_X9_isThere _ _ hI) rfl (c_140 _) (by decide) (Nat.le_refl _) (Nat.le_refl _) (Nat.le_of_ble_eq_true rfl) dX9_later_10 (fun x w2 h => ?_)
    rcases h with ⟨rfl, ⟨h3, rfl⟩ | rfl⟩
    · skip
      refine R_ifeq (pc := 13) 21 dX9_later_13 (by decide) (fun h => absurd h (by decide)) (fun _ => ?_)
      refine R_iload_n (pc := 16) dX9_later_16 rfl rfl ?_
      refine R_iload_n (pc := 17) dX9_later_17 rfl rfl ?_
      refine R_icne (pc := 18) 24 dX9_later_18 (by decide) (fun b18_5 => ?_) (fun b18_5 => ?_)
      · skip
        refine R_aload_n (pc := 24) dX9_later_24 rfl rfl ?_
        refine g_X9_201 (pc := 25) (v := .int (σ.1 14025)) rfl dX9_later_25 (c_140 _) rfl ?_
        refine R_bipush (pc := 28) (v := 12) dX9_later_28 (by decide) ?_
        refine R_icne (pc := 30) 36 dX9_later_30 (by decide) (fun b30_6 => ?_) (fun b30_6 => ?_)
        · skip
          refine R_aload_n (pc := 36) dX9_later_36 rfl rfl ?_
          refine g_X9_81 (pc := 37) (v := .ref 161) rfl dX9_later_37 (c_140 _) rfl ?_
          refine R_aload_n (pc := 40) dX9_later_40 rfl rfl ?_
          refine g_X9_201 (pc := 41) (v := .int (σ.1 14025)) rfl dX9_later_41 (c_140 _) rfl ?_
          refine R_iload_n (pc := 44) dX9_later_44 rfl rfl ?_
          have hx7 : vp_in (σ.1 14025) 12 := (vp_ti (by have q0 := ti_ne b18_5; have q1 := ti_ne b30_6; have q2 := ti_in h1; have q3 := ti_in h3; have q4 := ti_in (iv_14025 hI); have z0 : (0 : Int32).toInt = 0 := (by decide); have z1 : (1 : Int32).toInt = 1 := (by decide); have z2 : (12 : Int32).toInt = 12 := (by decide); have z3 : (14025 : Int32).toInt = 14025 := (by decide); have z4 : (19 : Int32).toInt = 19 := (by decide); omega) (by have q0 := ti_ne b18_5; have q1 := ti_ne b30_6; have q2 := ti_in h1; have q3 := ti_in h3; have q4 := ti_in (iv_14025 hI); have z0 : (0 : Int32).toInt = 0 := (by decide); have z1 : (1 : Int32).toInt = 1 := (by decide); have z2 : (12 : Int32).toInt = 12 := (by decide); have z3 : (14025 : Int32).toInt = 14025 := (by decide); have z4 : (19 : Int32).toInt = 19 := (by decide); omega))
          refine W_iastore (pc := 45) dX9_later_45 (c_161 _) hx7 (a_161 _ _) ?_
          have hW8 := cor_ca 161 (Int32.toNatClampNeg (σ.1 14025)) a (Cor.rfl' σ) rfl
          refine R_aload_n (pc := 46) dX9_later_46 rfl rfl ?_
          refine g_X9_84 (pc := 47) (v := .ref 162) rfl dX9_later_47 (c_140 _) rfl ?_
          refine R_aload_n (pc := 50) dX9_later_50 rfl rfl ?_
          refine g_X9_201 (pc := 51) (v := .int (σ.1 14025)) rfl dX9_later_51 (c_140 _) rfl ?_
          refine R_iload_n (pc := 54) dX9_later_54 rfl rfl ?_
          have hx9 : vp_in (σ.1 14025) 12 := (vp_ti (by have q0 := ti_ne b18_5; have q1 := ti_ne b30_6; have q2 := ti_in h1; have q3 := ti_in h3; have q4 := ti_in (iv_14025 hI); have z0 : (0 : Int32).toInt = 0 := (by decide); have z1 : (1 : Int32).toInt = 1 := (by decide); have z2 : (12 : Int32).toInt = 12 := (by decide); have z3 : (14025 : Int32).toInt = 14025 := (by decide); have z4 : (19 : Int32).toInt = 19 := (by decide); omega) (by have q0 := ti_ne b18_5; have q1 := ti_ne b30_6; have q2 := ti_in h1; have q3 := ti_in h3; have q4 := ti_in (iv_14025 hI); have z0 : (0 : Int32).toInt = 0 := (by decide); have z1 : (1 : Int32).toInt = 1 := (by decide); have z2 : (12 : Int32).toInt = 12 := (by decide); have z3 : (14025 : Int32).toInt = 14025 := (by decide); have z4 : (19 : Int32).toInt = 19 := (by decide); omega))
          refine W_iastore (pc := 55) dX9_later_55 (c_162 _) hx9 (a_162 _ _) ?_
          have hW10 := cor_ca 162 (Int32.toNatClampNeg (σ.1 14025)) b hW8 rfl
          refine R_aload_n (pc := 56) dX9_later_56 rfl rfl ?_
          refine R_dup (pc := 57) dX9_later_57 rfl ?_
          refine g_X9_201 (pc := 58) (v := .int (σ.1 14025)) rfl dX9_later_58 (c_140 _) rfl ?_
          refine R_iconst (pc := 61) (v := 1) dX9_later_61 (by decide) ?_
          refine R_iadd (pc := 62) dX9_later_62 ?_
          have r11 : inR ((σ.1 14025) + 1) 1 13 := inR_add (show inR (σ.1 14025) 0 12 from (iv_14025 hI)) (show inR 1 1 1 from (inR_self _)) (by decide) (by decide)
          have e12 := ti_add (l := 1) (h := 13) (show inR (σ.1 14025) 0 12 from (iv_14025 hI)) (show inR 1 1 1 from (inR_self _)) (by decide) (by decide)
          refine p_X9_201 (pc := 63) rfl dX9_later_63 (c_140 _) (Nat.le_of_ble_eq_true rfl) rfl rfl (s_140_25 _ _) ?_
          have hV13 := su_14025 hI (show inR ((σ.1 14025) + 1) 0 12 from of_ti (by have q0 := e12; have q1 := ti_ne b18_5; have q2 := ti_ne b30_6; have q3 := ti_in h1; have q4 := ti_in h3; have q5 := ti_in (iv_14025 hI); have q6 := ti_in r11; have z0 : (0 : Int32).toInt = 0 := (by decide); have z1 : (1 : Int32).toInt = 1 := (by decide); have z2 : (12 : Int32).toInt = 12 := (by decide); have z3 : (13 : Int32).toInt = 13 := (by decide); have z4 : (14025 : Int32).toInt = 14025 := (by decide); have z5 : (19 : Int32).toInt = 19 := (by decide); omega) (by have q0 := e12; have q1 := ti_ne b18_5; have q2 := ti_ne b30_6; have q3 := ti_in h1; have q4 := ti_in h3; have q5 := ti_in (iv_14025 hI); have q6 := ti_in r11; have z0 : (0 : Int32).toInt = 0 := (by decide); have z1 : (1 : Int32).toInt = 1 := (by decide); have z2 : (12 : Int32).toInt = 12 := (by decide); have z3 : (13 : Int32).toInt = 13 := (by decide); have z4 : (14025 : Int32).toInt = 14025 := (by decide); have z5 : (19 : Int32).toInt = 19 := (by decide); omega))
          have hW14 := cor_ci 14025 ((σ.1 14025) + 1) hW10
          refine R_aload_n (pc := 66) dX9_later_66 rfl rfl ?_
          refine g_X9_201 (pc := 67) (v := .int ((σ.1 14025) + 1)) rfl dX9_later_67 (c_140 _) rfl ?_
          exact R_iret (pc := 70) dX9_later_70 rfl rfl (Nat.zero_le _) (Nat.zero_le _) ⟨_, rfl, _, rfl, hV13⟩
        · skip
          refine R_bipush (pc := 33) (v := (-5)) dX9_later_33 (by decide) ?_
          exact R_iret (pc := 35) dX9_later_35 rfl rfl (Nat.zero_le _) (Nat.zero_le _) ⟨_, rfl, _, rfl, hI⟩
      · skip
        refine R_bipush (pc := 21) (v := (-2)) dX9_later_21 (by decide) ?_
        exact R_iret (pc := 23) dX9_later_23 rfl rfl (Nat.zero_le _) (Nat.zero_le _) ⟨_, rfl, _, rfl, hI⟩
    · skip
      refine R_ifeq (pc := 13) 21 dX9_later_13 (by decide) (fun _ => ?_) (fun h => absurd (by decide) h)
      refine R_bipush (pc := 21) (v := (-2)) dX9_later_21 (by decide) ?_
      exact R_iret (pc := 23) dX9_later_23 rfl rfl (Nat.zero_le _) (Nat.zero_le _) ⟨_, rfl, _, rfl, hI⟩
  · skip
    refine R_ifeq (pc := 5) 21 dX9_later_5 (by decide) (fun _ => ?_) (fun h => absurd (by decide) h)
    refine R_bipush (pc := 21) (v := (-2)) dX9_later_21 (by decide) ?_
    exact R_iret (pc := 23) dX9_later_23 rfl rfl (Nat.zero_le _) (Nat.zero_le _) ⟨_, rfl, _, rfl, hI⟩
theorem dX9_landmark_0 : decode cX9_landmark 0 = .ok (.iload_n 1, 1) := by decide +kernel
theorem dX9_landmark_1 : decode cX9_landmark 1 = .ok (.iconst 0, 1) := by decide +kernel
theorem dX9_landmark_2 : decode cX9_landmark 2 = .ok (.bipush 7, 2) := by decide +kernel
theorem dX9_landmark_4 : decode cX9_landmark 4 = .ok (.invokestatic 124, 3) := by decide +kernel
theorem dX9_landmark_7 : decode cX9_landmark 7 = .ok (.ifCond .ne 6, 3) := by decide +kernel
theorem dX9_landmark_10 : decode cX9_landmark 10 = .ok (.bipush (-2), 2) := by decide +kernel
theorem dX9_landmark_12 : decode cX9_landmark 12 = .ok (.ireturn, 1) := by decide +kernel
theorem dX9_landmark_13 : decode cX9_landmark 13 = .ok (.iload_n 2, 1) := by decide +kernel
theorem dX9_landmark_14 : decode cX9_landmark 14 = .ok (.iconst 0, 1) := by decide +kernel
theorem dX9_landmark_15 : decode cX9_landmark 15 = .ok (.bipush 64, 2) := by decide +kernel
theorem dX9_landmark_17 : decode cX9_landmark 17 = .ok (.invokestatic 124, 3) := by decide +kernel
theorem dX9_landmark_20 : decode cX9_landmark 20 = .ok (.ifCond .ne 6, 3) := by decide +kernel
theorem dX9_landmark_23 : decode cX9_landmark 23 = .ok (.bipush (-3), 2) := by decide +kernel
theorem dX9_landmark_25 : decode cX9_landmark 25 = .ok (.ireturn, 1) := by decide +kernel
theorem dX9_landmark_26 : decode cX9_landmark 26 = .ok (.aload_n 0, 1) := by decide +kernel
theorem dX9_landmark_27 : decode cX9_landmark 27 = .ok (.getfield 99, 3) := by decide +kernel
theorem dX9_landmark_30 : decode cX9_landmark 30 = .ok (.iload_n 1, 1) := by decide +kernel
theorem dX9_landmark_31 : decode cX9_landmark 31 = .ok (.iload_n 2, 1) := by decide +kernel
theorem dX9_landmark_32 : decode cX9_landmark 32 = .ok (.iastore, 1) := by decide +kernel
theorem dX9_landmark_33 : decode cX9_landmark 33 = .ok (.iconst 1, 1) := by decide +kernel
theorem dX9_landmark_34 : decode cX9_landmark 34 = .ok (.ireturn, 1) := by decide +kernel
set_option maxRecDepth 100000 in
set_option maxHeartbeats 40000000 in
theorem gp_m_landmark {G : vG} {l : Launch} (σ : Sg) (a b : Int32) (hI : Inv σ) : Sp G l yX9_landmark cX9_landmark 3 (some .int) 1 0 0 [.ref 140, .int a, .int b] (WW σ) (QI (fun _ w2 => ∃ σ2, w2 = WW σ2 ∧ Inv σ2)) := by
  refine Sp_of_R [(some (.ref 140)), (some (.int a)), (some (.int b))] [] rfl (by simp) rfl (Nat.le_of_ble_eq_true rfl) ?_
  refine R_iload_n (pc := 0) dX9_landmark_0 rfl rfl ?_
  refine R_iconst (pc := 1) (v := 0) dX9_landmark_1 (by decide) ?_
  refine R_bipush (pc := 2) (v := 7) dX9_landmark_2 (by decide) ?_
  refine k_X9_124 (pc := 4) (sp_X9_in _ _ _ _) rfl (by decide) (Nat.le_refl _) (Nat.le_refl _) (Nat.le_of_ble_eq_true rfl) dX9_landmark_4 (fun x w2 h => ?_)
  rcases h with ⟨rfl, ⟨h1, rfl⟩ | ⟨h1, rfl⟩⟩
  · skip
    refine R_ifne (pc := 7) 13 dX9_landmark_7 (by decide) (fun _ => ?_) (fun h => absurd h (by decide))
    refine R_iload_n (pc := 13) dX9_landmark_13 rfl rfl ?_
    refine R_iconst (pc := 14) (v := 0) dX9_landmark_14 (by decide) ?_
    refine R_bipush (pc := 15) (v := 64) dX9_landmark_15 (by decide) ?_
    refine k_X9_124 (pc := 17) (sp_X9_in _ _ _ _) rfl (by decide) (Nat.le_refl _) (Nat.le_refl _) (Nat.le_of_ble_eq_true rfl) dX9_landmark_17 (fun x w2 h => ?_)
    rcases h with ⟨rfl, ⟨h3, rfl⟩ | ⟨h3, rfl⟩⟩
    · skip
      refine R_ifne (pc := 20) 26 dX9_landmark_20 (by decide) (fun _ => ?_) (fun h => absurd h (by decide))
      refine R_aload_n (pc := 26) dX9_landmark_26 rfl rfl ?_
      refine g_X9_99 (pc := 27) (v := .ref 167) rfl dX9_landmark_27 (c_140 _) rfl ?_
      refine R_iload_n (pc := 30) dX9_landmark_30 rfl rfl ?_
      refine R_iload_n (pc := 31) dX9_landmark_31 rfl rfl ?_
      have hx5 : vp_in a 8 := (vp_of_inR h1 (by decide))
      refine W_iastore (pc := 32) dX9_landmark_32 (c_167 _) hx5 (a_167 _ _) ?_
      have hW6 := cor_ca 167 (Int32.toNatClampNeg a) b (Cor.rfl' σ) rfl
      refine R_iconst (pc := 33) (v := 1) dX9_landmark_33 (by decide) ?_
      exact R_iret (pc := 34) dX9_landmark_34 rfl rfl (Nat.zero_le _) (Nat.zero_le _) ⟨_, rfl, _, rfl, hI⟩
    · skip
      refine R_ifne (pc := 20) 26 dX9_landmark_20 (by decide) (fun h => absurd (by decide) h) (fun _ => ?_)
      refine R_bipush (pc := 23) (v := (-3)) dX9_landmark_23 (by decide) ?_
      exact R_iret (pc := 25) dX9_landmark_25 rfl rfl (Nat.zero_le _) (Nat.zero_le _) ⟨_, rfl, _, rfl, hI⟩
  · skip
    refine R_ifne (pc := 7) 13 dX9_landmark_7 (by decide) (fun h => absurd (by decide) h) (fun _ => ?_)
    refine R_bipush (pc := 10) (v := (-2)) dX9_landmark_10 (by decide) ?_
    exact R_iret (pc := 12) dX9_landmark_12 rfl rfl (Nat.zero_le _) (Nat.zero_le _) ⟨_, rfl, _, rfl, hI⟩
theorem dX9_walls_0 : decode cX9_walls 0 = .ok (.aload_n 0, 1) := by decide +kernel
theorem dX9_walls_1 : decode cX9_walls 1 = .ok (.lload_n 1, 1) := by decide +kernel
theorem dX9_walls_2 : decode cX9_walls 2 = .ok (.putfield 232, 3) := by decide +kernel
theorem dX9_walls_5 : decode cX9_walls 5 = .ok (.iconst 1, 1) := by decide +kernel
theorem dX9_walls_6 : decode cX9_walls 6 = .ok (.ireturn, 1) := by decide +kernel
set_option maxRecDepth 100000 in
set_option maxHeartbeats 40000000 in
theorem gp_m_walls {G : vG} {l : Launch} (σ : Sg) (a : Int64) (hI : Inv σ) : Sp G l yX9_walls cX9_walls 3 (some .int) 0 0 0 [.ref 140, .long a] (WW σ) (QI (fun _ w2 => ∃ σ2, w2 = WW σ2 ∧ Inv σ2)) := by
  refine Sp_of_R [(some (.ref 140)), (some (.long a)), none] [] rfl (by simp) rfl (Nat.le_of_ble_eq_true rfl) ?_
  refine R_aload_n (pc := 0) dX9_walls_0 rfl rfl ?_
  refine R_lload_n (pc := 1) dX9_walls_1 rfl rfl ?_
  refine p_X9_232 (pc := 2) rfl dX9_walls_2 (c_140 _) (Nat.le_of_ble_eq_true rfl) rfl rfl (s_140_34 _ _) ?_
  have hW1 := cor_cj 14034 a (Cor.rfl' σ)
  refine R_iconst (pc := 5) (v := 1) dX9_walls_5 (by decide) ?_
  exact R_iret (pc := 6) dX9_walls_6 rfl rfl (Nat.zero_le _) (Nat.zero_le _) ⟨_, rfl, _, rfl, hI⟩
theorem dX9_view_0 : decode cX9_view 0 = .ok (.aload_n 0, 1) := by decide +kernel
theorem dX9_view_1 : decode cX9_view 1 = .ok (.iload_n 1, 1) := by decide +kernel
theorem dX9_view_2 : decode cX9_view 2 = .ok (.invokevirtual 135, 3) := by decide +kernel
theorem dX9_view_5 : decode cX9_view 5 = .ok (.ifCond .eq 13, 3) := by decide +kernel
theorem dX9_view_8 : decode cX9_view 8 = .ok (.iload_n 2, 1) := by decide +kernel
theorem dX9_view_9 : decode cX9_view 9 = .ok (.iconst 0, 1) := by decide +kernel
theorem dX9_view_10 : decode cX9_view 10 = .ok (.bipush 7, 2) := by decide +kernel
theorem dX9_view_12 : decode cX9_view 12 = .ok (.invokestatic 124, 3) := by decide +kernel
theorem dX9_view_15 : decode cX9_view 15 = .ok (.ifCond .ne 6, 3) := by decide +kernel
theorem dX9_view_18 : decode cX9_view 18 = .ok (.bipush (-2), 2) := by decide +kernel
theorem dX9_view_20 : decode cX9_view 20 = .ok (.ireturn, 1) := by decide +kernel
theorem dX9_view_21 : decode cX9_view 21 = .ok (.iconst 0, 1) := by decide +kernel
theorem dX9_view_22 : decode cX9_view 22 = .ok (.istore_n 3, 1) := by decide +kernel
theorem dX9_view_23 : decode cX9_view 23 = .ok (.iload_n 3, 1) := by decide +kernel
theorem dX9_view_24 : decode cX9_view 24 = .ok (.aload_n 0, 1) := by decide +kernel
theorem dX9_view_25 : decode cX9_view 25 = .ok (.getfield 102, 3) := by decide +kernel
theorem dX9_view_28 : decode cX9_view 28 = .ok (.iload_n 1, 1) := by decide +kernel
theorem dX9_view_29 : decode cX9_view 29 = .ok (.iaload, 1) := by decide +kernel
theorem dX9_view_30 : decode cX9_view 30 = .ok (.if_icmp .ge 26, 3) := by decide +kernel
theorem dX9_view_33 : decode cX9_view 33 = .ok (.aload_n 0, 1) := by decide +kernel
theorem dX9_view_34 : decode cX9_view 34 = .ok (.getfield 105, 3) := by decide +kernel
theorem dX9_view_37 : decode cX9_view 37 = .ok (.iconst 5, 1) := by decide +kernel
theorem dX9_view_38 : decode cX9_view 38 = .ok (.iload_n 1, 1) := by decide +kernel
theorem dX9_view_39 : decode cX9_view 39 = .ok (.imul, 1) := by decide +kernel
theorem dX9_view_40 : decode cX9_view 40 = .ok (.iload_n 3, 1) := by decide +kernel
theorem dX9_view_41 : decode cX9_view 41 = .ok (.iadd, 1) := by decide +kernel
theorem dX9_view_42 : decode cX9_view 42 = .ok (.iaload, 1) := by decide +kernel
theorem dX9_view_43 : decode cX9_view 43 = .ok (.iload_n 2, 1) := by decide +kernel
theorem dX9_view_44 : decode cX9_view 44 = .ok (.if_icmp .ne 6, 3) := by decide +kernel
theorem dX9_view_47 : decode cX9_view 47 = .ok (.bipush (-4), 2) := by decide +kernel
theorem dX9_view_49 : decode cX9_view 49 = .ok (.ireturn, 1) := by decide +kernel
theorem dX9_view_50 : decode cX9_view 50 = .ok (.iinc 3 1, 3) := by decide +kernel
theorem dX9_view_53 : decode cX9_view 53 = .ok (.goto (-30), 3) := by decide +kernel
theorem dX9_view_56 : decode cX9_view 56 = .ok (.aload_n 0, 1) := by decide +kernel
theorem dX9_view_57 : decode cX9_view 57 = .ok (.getfield 102, 3) := by decide +kernel
theorem dX9_view_60 : decode cX9_view 60 = .ok (.iload_n 1, 1) := by decide +kernel
theorem dX9_view_61 : decode cX9_view 61 = .ok (.iaload, 1) := by decide +kernel
theorem dX9_view_62 : decode cX9_view 62 = .ok (.iconst 5, 1) := by decide +kernel
theorem dX9_view_63 : decode cX9_view 63 = .ok (.if_icmp .ne 6, 3) := by decide +kernel
theorem dX9_view_66 : decode cX9_view 66 = .ok (.bipush (-5), 2) := by decide +kernel
theorem dX9_view_68 : decode cX9_view 68 = .ok (.ireturn, 1) := by decide +kernel
theorem dX9_view_69 : decode cX9_view 69 = .ok (.aload_n 0, 1) := by decide +kernel
theorem dX9_view_70 : decode cX9_view 70 = .ok (.getfield 105, 3) := by decide +kernel
theorem dX9_view_73 : decode cX9_view 73 = .ok (.iconst 5, 1) := by decide +kernel
theorem dX9_view_74 : decode cX9_view 74 = .ok (.iload_n 1, 1) := by decide +kernel
theorem dX9_view_75 : decode cX9_view 75 = .ok (.imul, 1) := by decide +kernel
theorem dX9_view_76 : decode cX9_view 76 = .ok (.aload_n 0, 1) := by decide +kernel
theorem dX9_view_77 : decode cX9_view 77 = .ok (.getfield 102, 3) := by decide +kernel
theorem dX9_view_80 : decode cX9_view 80 = .ok (.iload_n 1, 1) := by decide +kernel
theorem dX9_view_81 : decode cX9_view 81 = .ok (.iaload, 1) := by decide +kernel
theorem dX9_view_82 : decode cX9_view 82 = .ok (.iadd, 1) := by decide +kernel
theorem dX9_view_83 : decode cX9_view 83 = .ok (.iload_n 2, 1) := by decide +kernel
theorem dX9_view_84 : decode cX9_view 84 = .ok (.iastore, 1) := by decide +kernel
theorem dX9_view_85 : decode cX9_view 85 = .ok (.aload_n 0, 1) := by decide +kernel
theorem dX9_view_86 : decode cX9_view 86 = .ok (.getfield 102, 3) := by decide +kernel
theorem dX9_view_89 : decode cX9_view 89 = .ok (.iload_n 1, 1) := by decide +kernel
theorem dX9_view_90 : decode cX9_view 90 = .ok (.dup2, 1) := by decide +kernel
theorem dX9_view_91 : decode cX9_view 91 = .ok (.iaload, 1) := by decide +kernel
theorem dX9_view_92 : decode cX9_view 92 = .ok (.iconst 1, 1) := by decide +kernel
theorem dX9_view_93 : decode cX9_view 93 = .ok (.iadd, 1) := by decide +kernel
theorem dX9_view_94 : decode cX9_view 94 = .ok (.iastore, 1) := by decide +kernel
theorem dX9_view_95 : decode cX9_view 95 = .ok (.aload_n 0, 1) := by decide +kernel
theorem dX9_view_96 : decode cX9_view 96 = .ok (.getfield 102, 3) := by decide +kernel
theorem dX9_view_99 : decode cX9_view 99 = .ok (.iload_n 1, 1) := by decide +kernel
theorem dX9_view_100 : decode cX9_view 100 = .ok (.iaload, 1) := by decide +kernel
theorem dX9_view_101 : decode cX9_view 101 = .ok (.ireturn, 1) := by decide +kernel
set_option maxRecDepth 100000 in
set_option maxHeartbeats 40000000 in
theorem gp_m_view {G : vG} {l : Launch} (σ : Sg) (a b : Int32) (hI : Inv σ) : Sp G l yX9_view cX9_view 4 (some .int) 2 0 0 [.ref 140, .int a, .int b] (WW σ) (QI (fun _ w2 => ∃ σ2, w2 = WW σ2 ∧ Inv σ2)) := by
  refine Sp_of_R [(some (.ref 140)), (some (.int a)), (some (.int b)), none] [none] rfl (by simp) rfl (Nat.le_of_ble_eq_true rfl) ?_
  refine R_aload_n (pc := 0) dX9_view_0 rfl rfl ?_
  refine R_iload_n (pc := 1) dX9_view_1 rfl rfl ?_
  refine k_X9_135 (pc := 2) (gx_X9_isThere _ _ hI) rfl (c_140 _) (by decide) (Nat.le_refl _) (Nat.le_refl _) (Nat.le_of_ble_eq_true rfl) dX9_view_2 (fun x w2 h => ?_)
  rcases h with ⟨rfl, ⟨h1, rfl⟩ | rfl⟩
  · skip
    refine R_ifeq (pc := 5) 18 dX9_view_5 (by decide) (fun h => absurd h (by decide)) (fun _ => ?_)
    refine R_iload_n (pc := 8) dX9_view_8 rfl rfl ?_
    refine R_iconst (pc := 9) (v := 0) dX9_view_9 (by decide) ?_
    refine R_bipush (pc := 10) (v := 7) dX9_view_10 (by decide) ?_
    refine k_X9_124 (pc := 12) (sp_X9_in _ _ _ _) rfl (by decide) (Nat.le_refl _) (Nat.le_refl _) (Nat.le_of_ble_eq_true rfl) dX9_view_12 (fun x w2 h => ?_)
    rcases h with ⟨rfl, ⟨h3, rfl⟩ | ⟨h3, rfl⟩⟩
    · skip
      refine R_ifne (pc := 15) 21 dX9_view_15 (by decide) (fun _ => ?_) (fun h => absurd h (by decide))
      refine R_iconst (pc := 21) (v := 0) dX9_view_21 (by decide) ?_
      refine st_4_3_i_i (pc := 22) dX9_view_22 ?_
      have HL23 : ∀ (q j23 : Nat), j23 + q = 5 → 0 ≤ j23 → R G l yX9_view cX9_view 4 (some .int) 2 0 0 (QI (fun _ w2 => ∃ σ2, w2 = WW σ2 ∧ Inv σ2)) 23 [(some (.ref 140)), (some (.int a)), (some (.int b)), (some (.int (nI j23)))] [] (WW σ) 0 0 := by
        intro q
        induction q with
        | zero =>
          intro j23 hj hs23
          obtain rfl : j23 = 5 := by omega
          refine R_iload_n (pc := 23) dX9_view_23 rfl rfl ?_
          refine R_aload_n (pc := 24) dX9_view_24 rfl rfl ?_
          refine g_X9_102 (pc := 25) (v := .ref 168) rfl dX9_view_25 (c_140 _) rfl ?_
          refine R_iload_n (pc := 28) dX9_view_28 rfl rfl ?_
          have hx5 : vp_in a 20 := (vp_of_inR h1 (by decide))
          refine R_iaload (pc := 29) dX9_view_29 (c_168 _) hx5 ?_
          refine R_icge (pc := 30) 56 dX9_view_30 (by decide) (fun _ => ?_) (fun h => absurd (Int32.not_lt.mp (inR_up (iva_168 hI _ (lt_of_vp hx5)) (Int32.le_refl _) (by decide)).2) h)
          refine R_aload_n (pc := 56) dX9_view_56 rfl rfl ?_
          refine g_X9_102 (pc := 57) (v := .ref 168) rfl dX9_view_57 (c_140 _) rfl ?_
          refine R_iload_n (pc := 60) dX9_view_60 rfl rfl ?_
          have hx7 : vp_in a 20 := (vp_of_inR h1 (by decide))
          refine R_iaload (pc := 61) dX9_view_61 (c_168 _) hx7 ?_
          refine R_iconst (pc := 62) (v := 5) dX9_view_62 (by decide) ?_
          refine R_icne (pc := 63) 69 dX9_view_63 (by decide) (fun b63_8 => ?_) (fun b63_8 => ?_)
          · skip
            refine R_aload_n (pc := 69) dX9_view_69 rfl rfl ?_
            refine g_X9_105 (pc := 70) (v := .ref 169) rfl dX9_view_70 (c_140 _) rfl ?_
            refine R_iconst (pc := 73) (v := 5) dX9_view_73 (by decide) ?_
            refine R_iload_n (pc := 74) dX9_view_74 rfl rfl ?_
            refine R_imul (pc := 75) dX9_view_75 ?_
            have r9 : inR (5 * a) 0 95 := inR_mulc (c := 5) (l := 0) (h := 95) 5 (by decide) (show inR a 0 19 from h1) (by decide) (by decide)
            have e10 := ti_mulc (c := 5) (l := 0) (h := 95) 5 (by decide) (show inR a 0 19 from h1) (by decide) (by decide)
            refine R_aload_n (pc := 76) dX9_view_76 rfl rfl ?_
            refine g_X9_102 (pc := 77) (v := .ref 168) rfl dX9_view_77 (c_140 _) rfl ?_
            refine R_iload_n (pc := 80) dX9_view_80 rfl rfl ?_
            have hx11 : vp_in a 20 := (vp_of_inR h1 (by decide))
            refine R_iaload (pc := 81) dX9_view_81 (c_168 _) hx11 ?_
            refine R_iadd (pc := 82) dX9_view_82 ?_
            have r12 : inR ((5 * a) + (σ.2.2.1 168 (Int32.toNatClampNeg a))) 0 100 := inR_add (show inR (5 * a) 0 95 from r9) (show inR (σ.2.2.1 168 (Int32.toNatClampNeg a)) 0 5 from (iva_168 hI _ (lt_of_vp hx5))) (by decide) (by decide)
            have e13 := ti_add (l := 0) (h := 100) (show inR (5 * a) 0 95 from r9) (show inR (σ.2.2.1 168 (Int32.toNatClampNeg a)) 0 5 from (iva_168 hI _ (lt_of_vp hx5))) (by decide) (by decide)
            refine R_iload_n (pc := 83) dX9_view_83 rfl rfl ?_
            have hx14 : vp_in ((5 * a) + (σ.2.2.1 168 (Int32.toNatClampNeg a))) 100 := (vp_ti (by have q0 := e10; have q1 := e13; have q2 := ti_ne b63_8; have q3 := ti_in h1; have q4 := ti_in h3; have q5 := ti_in (iva_168 hI _ (lt_of_vp hx5)); have q6 := ti_in r9; have q7 := ti_in r12; have z0 : (0 : Int32).toInt = 0 := (by decide); have z1 : (1 : Int32).toInt = 1 := (by decide); have z2 : (100 : Int32).toInt = 100 := (by decide); have z3 : (168 : Int32).toInt = 168 := (by decide); have z4 : (19 : Int32).toInt = 19 := (by decide); have z5 : (5 : Int32).toInt = 5 := (by decide); have z6 : (7 : Int32).toInt = 7 := (by decide); have z7 : (95 : Int32).toInt = 95 := (by decide); omega) (by have q0 := e10; have q1 := e13; have q2 := ti_ne b63_8; have q3 := ti_in h1; have q4 := ti_in h3; have q5 := ti_in (iva_168 hI _ (lt_of_vp hx5)); have q6 := ti_in r9; have q7 := ti_in r12; have z0 : (0 : Int32).toInt = 0 := (by decide); have z1 : (1 : Int32).toInt = 1 := (by decide); have z2 : (100 : Int32).toInt = 100 := (by decide); have z3 : (168 : Int32).toInt = 168 := (by decide); have z4 : (19 : Int32).toInt = 19 := (by decide); have z5 : (5 : Int32).toInt = 5 := (by decide); have z6 : (7 : Int32).toInt = 7 := (by decide); have z7 : (95 : Int32).toInt = 95 := (by decide); omega))
            refine W_iastore (pc := 84) dX9_view_84 (c_169 _) hx14 (a_169 _ _) ?_
            have hV15 := sa_169 hI (Int32.toNatClampNeg ((5 * a) + (σ.2.2.1 168 (Int32.toNatClampNeg a)))) h3
            have hW16 := cor_ca 169 (Int32.toNatClampNeg ((5 * a) + (σ.2.2.1 168 (Int32.toNatClampNeg a)))) b (Cor.rfl' σ) rfl
            refine R_aload_n (pc := 85) dX9_view_85 rfl rfl ?_
            refine g_X9_102 (pc := 86) (v := .ref 168) rfl dX9_view_86 (c_140 _) rfl ?_
            refine R_iload_n (pc := 89) dX9_view_89 rfl rfl ?_
            refine R_dup2 (pc := 90) dX9_view_90 rfl rfl ?_
            have hx17 : vp_in a 20 := (vp_of_inR h1 (by decide))
            refine W_iaload (pc := 91) (σ.2.2.1 168 (Int32.toNatClampNeg a)) dX9_view_91 (c_168 _) hx17 rfl ?_
            refine R_iconst (pc := 92) (v := 1) dX9_view_92 (by decide) ?_
            refine R_iadd (pc := 93) dX9_view_93 ?_
            have r18 : inR ((σ.2.2.1 168 (Int32.toNatClampNeg a)) + 1) 1 6 := inR_add (show inR (σ.2.2.1 168 (Int32.toNatClampNeg a)) 0 5 from (iva_168 hI _ (lt_of_vp hx5))) (show inR 1 1 1 from (inR_self _)) (by decide) (by decide)
            have e19 := ti_add (l := 1) (h := 6) (show inR (σ.2.2.1 168 (Int32.toNatClampNeg a)) 0 5 from (iva_168 hI _ (lt_of_vp hx5))) (show inR 1 1 1 from (inR_self _)) (by decide) (by decide)
            have hx20 : vp_in a 20 := (vp_of_inR h1 (by decide))
            refine W_iastore (pc := 94) dX9_view_94 (c_168 _) hx20 (a_168 _ _) ?_
            have hV21 := sa_168 hV15 (Int32.toNatClampNeg a) (show inR ((σ.2.2.1 168 (Int32.toNatClampNeg a)) + 1) 0 5 from of_ti (by have q0 := e10; have q1 := e13; have q2 := e19; have q3 := ti_ne b63_8; have q4 := ti_in h1; have q5 := ti_in h3; have q6 := ti_in (iva_168 hI _ (lt_of_vp hx5)); have q7 := ti_in r9; have q8 := ti_in r12; have q9 := ti_in r18; have z0 : (0 : Int32).toInt = 0 := (by decide); have z1 : (1 : Int32).toInt = 1 := (by decide); have z2 : (100 : Int32).toInt = 100 := (by decide); have z3 : (168 : Int32).toInt = 168 := (by decide); have z4 : (19 : Int32).toInt = 19 := (by decide); have z5 : (5 : Int32).toInt = 5 := (by decide); have z6 : (6 : Int32).toInt = 6 := (by decide); have z7 : (7 : Int32).toInt = 7 := (by decide); have z8 : (95 : Int32).toInt = 95 := (by decide); omega) (by have q0 := e10; have q1 := e13; have q2 := e19; have q3 := ti_ne b63_8; have q4 := ti_in h1; have q5 := ti_in h3; have q6 := ti_in (iva_168 hI _ (lt_of_vp hx5)); have q7 := ti_in r9; have q8 := ti_in r12; have q9 := ti_in r18; have z0 : (0 : Int32).toInt = 0 := (by decide); have z1 : (1 : Int32).toInt = 1 := (by decide); have z2 : (100 : Int32).toInt = 100 := (by decide); have z3 : (168 : Int32).toInt = 168 := (by decide); have z4 : (19 : Int32).toInt = 19 := (by decide); have z5 : (5 : Int32).toInt = 5 := (by decide); have z6 : (6 : Int32).toInt = 6 := (by decide); have z7 : (7 : Int32).toInt = 7 := (by decide); have z8 : (95 : Int32).toInt = 95 := (by decide); omega))
            have hW22 := cor_ca 168 (Int32.toNatClampNeg a) ((σ.2.2.1 168 (Int32.toNatClampNeg a)) + 1) hW16 rfl
            refine R_aload_n (pc := 95) dX9_view_95 rfl rfl ?_
            refine g_X9_102 (pc := 96) (v := .ref 168) rfl dX9_view_96 (c_140 _) rfl ?_
            refine R_iload_n (pc := 99) dX9_view_99 rfl rfl ?_
            have hx23 : vp_in a 20 := (vp_of_inR h1 (by decide))
            refine R_iaload (pc := 100) dX9_view_100 (c_168 _) hx23 ?_
            exact R_iret (pc := 101) dX9_view_101 rfl rfl (Nat.zero_le _) (Nat.zero_le _) ⟨_, rfl, _, rfl, hV21⟩
          · skip
            refine R_bipush (pc := 66) (v := (-5)) dX9_view_66 (by decide) ?_
            exact R_iret (pc := 68) dX9_view_68 rfl rfl (Nat.zero_le _) (Nat.zero_le _) ⟨_, rfl, _, rfl, hI⟩
        | succ q ih23 =>
          intro j23 hj hs23
          have hrg23 : inR (nI j23) 0 4 := inR_ix hs23 (show j23 < 5 by omega) (by decide) (by decide) (by decide)
          have hlt23 : j23 < 5 := by omega
          refine R_iload_n (pc := 23) dX9_view_23 rfl rfl ?_
          refine R_aload_n (pc := 24) dX9_view_24 rfl rfl ?_
          refine g_X9_102 (pc := 25) (v := .ref 168) rfl dX9_view_25 (c_140 _) rfl ?_
          refine R_iload_n (pc := 28) dX9_view_28 rfl rfl ?_
          have hx24 : vp_in a 20 := (vp_of_inR h1 (by decide))
          refine R_iaload (pc := 29) dX9_view_29 (c_168 _) hx24 ?_
          refine R_icge (pc := 30) 56 dX9_view_30 (by decide) (fun b30_25 => ?_) (fun b30_25 => ?_)
          · skip
            refine R_aload_n (pc := 56) dX9_view_56 rfl rfl ?_
            refine g_X9_102 (pc := 57) (v := .ref 168) rfl dX9_view_57 (c_140 _) rfl ?_
            refine R_iload_n (pc := 60) dX9_view_60 rfl rfl ?_
            have hx26 : vp_in a 20 := (vp_of_inR h1 (by decide))
            refine R_iaload (pc := 61) dX9_view_61 (c_168 _) hx26 ?_
            refine R_iconst (pc := 62) (v := 5) dX9_view_62 (by decide) ?_
            refine R_icne (pc := 63) 69 dX9_view_63 (by decide) (fun b63_27 => ?_) (fun b63_27 => ?_)
            · skip
              refine R_aload_n (pc := 69) dX9_view_69 rfl rfl ?_
              refine g_X9_105 (pc := 70) (v := .ref 169) rfl dX9_view_70 (c_140 _) rfl ?_
              refine R_iconst (pc := 73) (v := 5) dX9_view_73 (by decide) ?_
              refine R_iload_n (pc := 74) dX9_view_74 rfl rfl ?_
              refine R_imul (pc := 75) dX9_view_75 ?_
              have r28 : inR (5 * a) 0 95 := inR_mulc (c := 5) (l := 0) (h := 95) 5 (by decide) (show inR a 0 19 from h1) (by decide) (by decide)
              have e29 := ti_mulc (c := 5) (l := 0) (h := 95) 5 (by decide) (show inR a 0 19 from h1) (by decide) (by decide)
              refine R_aload_n (pc := 76) dX9_view_76 rfl rfl ?_
              refine g_X9_102 (pc := 77) (v := .ref 168) rfl dX9_view_77 (c_140 _) rfl ?_
              refine R_iload_n (pc := 80) dX9_view_80 rfl rfl ?_
              have hx30 : vp_in a 20 := (vp_of_inR h1 (by decide))
              refine R_iaload (pc := 81) dX9_view_81 (c_168 _) hx30 ?_
              refine R_iadd (pc := 82) dX9_view_82 ?_
              have r31 : inR ((5 * a) + (σ.2.2.1 168 (Int32.toNatClampNeg a))) 0 100 := inR_add (show inR (5 * a) 0 95 from r28) (show inR (σ.2.2.1 168 (Int32.toNatClampNeg a)) 0 5 from (iva_168 hI _ (lt_of_vp hx24))) (by decide) (by decide)
              have e32 := ti_add (l := 0) (h := 100) (show inR (5 * a) 0 95 from r28) (show inR (σ.2.2.1 168 (Int32.toNatClampNeg a)) 0 5 from (iva_168 hI _ (lt_of_vp hx24))) (by decide) (by decide)
              refine R_iload_n (pc := 83) dX9_view_83 rfl rfl ?_
              have hx33 : vp_in ((5 * a) + (σ.2.2.1 168 (Int32.toNatClampNeg a))) 100 := (vp_ti (by have q0 := e29; have q1 := e32; have q2 := ti_le b30_25; have q3 := ti_ne b63_27; have q4 := ti_in h1; have q5 := ti_in h3; have q6 := ti_in hrg23; have q7 := ti_in (iva_168 hI _ (lt_of_vp hx24)); have q8 := ti_in r28; have q9 := ti_in r31; have z0 : (0 : Int32).toInt = 0 := (by decide); have z1 : (1 : Int32).toInt = 1 := (by decide); have z2 : (100 : Int32).toInt = 100 := (by decide); have z3 : (168 : Int32).toInt = 168 := (by decide); have z4 : (19 : Int32).toInt = 19 := (by decide); have z5 : (4 : Int32).toInt = 4 := (by decide); have z6 : (5 : Int32).toInt = 5 := (by decide); have z7 : (7 : Int32).toInt = 7 := (by decide); have z8 : (95 : Int32).toInt = 95 := (by decide); omega) (by have q0 := e29; have q1 := e32; have q2 := ti_le b30_25; have q3 := ti_ne b63_27; have q4 := ti_in h1; have q5 := ti_in h3; have q6 := ti_in hrg23; have q7 := ti_in (iva_168 hI _ (lt_of_vp hx24)); have q8 := ti_in r28; have q9 := ti_in r31; have z0 : (0 : Int32).toInt = 0 := (by decide); have z1 : (1 : Int32).toInt = 1 := (by decide); have z2 : (100 : Int32).toInt = 100 := (by decide); have z3 : (168 : Int32).toInt = 168 := (by decide); have z4 : (19 : Int32).toInt = 19 := (by decide); have z5 : (4 : Int32).toInt = 4 := (by decide); have z6 : (5 : Int32).toInt = 5 := (by decide); have z7 : (7 : Int32).toInt = 7 := (by decide); have z8 : (95 : Int32).toInt = 95 := (by decide); omega))
              refine W_iastore (pc := 84) dX9_view_84 (c_169 _) hx33 (a_169 _ _) ?_
              have hV34 := sa_169 hI (Int32.toNatClampNeg ((5 * a) + (σ.2.2.1 168 (Int32.toNatClampNeg a)))) h3
              have hW35 := cor_ca 169 (Int32.toNatClampNeg ((5 * a) + (σ.2.2.1 168 (Int32.toNatClampNeg a)))) b (Cor.rfl' σ) rfl
              refine R_aload_n (pc := 85) dX9_view_85 rfl rfl ?_
              refine g_X9_102 (pc := 86) (v := .ref 168) rfl dX9_view_86 (c_140 _) rfl ?_
              refine R_iload_n (pc := 89) dX9_view_89 rfl rfl ?_
              refine R_dup2 (pc := 90) dX9_view_90 rfl rfl ?_
              have hx36 : vp_in a 20 := (vp_of_inR h1 (by decide))
              refine W_iaload (pc := 91) (σ.2.2.1 168 (Int32.toNatClampNeg a)) dX9_view_91 (c_168 _) hx36 rfl ?_
              refine R_iconst (pc := 92) (v := 1) dX9_view_92 (by decide) ?_
              refine R_iadd (pc := 93) dX9_view_93 ?_
              have r37 : inR ((σ.2.2.1 168 (Int32.toNatClampNeg a)) + 1) 1 6 := inR_add (show inR (σ.2.2.1 168 (Int32.toNatClampNeg a)) 0 5 from (iva_168 hI _ (lt_of_vp hx24))) (show inR 1 1 1 from (inR_self _)) (by decide) (by decide)
              have e38 := ti_add (l := 1) (h := 6) (show inR (σ.2.2.1 168 (Int32.toNatClampNeg a)) 0 5 from (iva_168 hI _ (lt_of_vp hx24))) (show inR 1 1 1 from (inR_self _)) (by decide) (by decide)
              have hx39 : vp_in a 20 := (vp_of_inR h1 (by decide))
              refine W_iastore (pc := 94) dX9_view_94 (c_168 _) hx39 (a_168 _ _) ?_
              have hV40 := sa_168 hV34 (Int32.toNatClampNeg a) (show inR ((σ.2.2.1 168 (Int32.toNatClampNeg a)) + 1) 0 5 from of_ti (by have q0 := e29; have q1 := e32; have q2 := e38; have q3 := ti_le b30_25; have q4 := ti_ne b63_27; have q5 := ti_in h1; have q6 := ti_in h3; have q7 := ti_in hrg23; have q8 := ti_in (iva_168 hI _ (lt_of_vp hx24)); have q9 := ti_in r28; have q10 := ti_in r31; have q11 := ti_in r37; have z0 : (0 : Int32).toInt = 0 := (by decide); have z1 : (1 : Int32).toInt = 1 := (by decide); have z2 : (100 : Int32).toInt = 100 := (by decide); have z3 : (168 : Int32).toInt = 168 := (by decide); have z4 : (19 : Int32).toInt = 19 := (by decide); have z5 : (4 : Int32).toInt = 4 := (by decide); have z6 : (5 : Int32).toInt = 5 := (by decide); have z7 : (6 : Int32).toInt = 6 := (by decide); have z8 : (7 : Int32).toInt = 7 := (by decide); have z9 : (95 : Int32).toInt = 95 := (by decide); omega) (by have q0 := e29; have q1 := e32; have q2 := e38; have q3 := ti_le b30_25; have q4 := ti_ne b63_27; have q5 := ti_in h1; have q6 := ti_in h3; have q7 := ti_in hrg23; have q8 := ti_in (iva_168 hI _ (lt_of_vp hx24)); have q9 := ti_in r28; have q10 := ti_in r31; have q11 := ti_in r37; have z0 : (0 : Int32).toInt = 0 := (by decide); have z1 : (1 : Int32).toInt = 1 := (by decide); have z2 : (100 : Int32).toInt = 100 := (by decide); have z3 : (168 : Int32).toInt = 168 := (by decide); have z4 : (19 : Int32).toInt = 19 := (by decide); have z5 : (4 : Int32).toInt = 4 := (by decide); have z6 : (5 : Int32).toInt = 5 := (by decide); have z7 : (6 : Int32).toInt = 6 := (by decide); have z8 : (7 : Int32).toInt = 7 := (by decide); have z9 : (95 : Int32).toInt = 95 := (by decide); omega))
              have hW41 := cor_ca 168 (Int32.toNatClampNeg a) ((σ.2.2.1 168 (Int32.toNatClampNeg a)) + 1) hW35 rfl
              refine R_aload_n (pc := 95) dX9_view_95 rfl rfl ?_
              refine g_X9_102 (pc := 96) (v := .ref 168) rfl dX9_view_96 (c_140 _) rfl ?_
              refine R_iload_n (pc := 99) dX9_view_99 rfl rfl ?_
              have hx42 : vp_in a 20 := (vp_of_inR h1 (by decide))
              refine R_iaload (pc := 100) dX9_view_100 (c_168 _) hx42 ?_
              exact R_iret (pc := 101) dX9_view_101 rfl rfl (Nat.zero_le _) (Nat.zero_le _) ⟨_, rfl, _, rfl, hV40⟩
            · skip
              refine R_bipush (pc := 66) (v := (-5)) dX9_view_66 (by decide) ?_
              exact R_iret (pc := 68) dX9_view_68 rfl rfl (Nat.zero_le _) (Nat.zero_le _) ⟨_, rfl, _, rfl, hI⟩
          · skip
            refine R_aload_n (pc := 33) dX9_view_33 rfl rfl ?_
            refine g_X9_105 (pc := 34) (v := .ref 169) rfl dX9_view_34 (c_140 _) rfl ?_
            refine R_iconst (pc := 37) (v := 5) dX9_view_37 (by decide) ?_
            refine R_iload_n (pc := 38) dX9_view_38 rfl rfl ?_
            refine R_imul (pc := 39) dX9_view_39 ?_
            have r43 : inR (5 * a) 0 95 := inR_mulc (c := 5) (l := 0) (h := 95) 5 (by decide) (show inR a 0 19 from h1) (by decide) (by decide)
            have e44 := ti_mulc (c := 5) (l := 0) (h := 95) 5 (by decide) (show inR a 0 19 from h1) (by decide) (by decide)
            refine R_iload_n (pc := 40) dX9_view_40 rfl rfl ?_
            refine R_iadd (pc := 41) dX9_view_41 ?_
            have r45 : inR ((5 * a) + (nI j23)) 0 99 := inR_add (show inR (5 * a) 0 95 from r43) (show inR (nI j23) 0 4 from hrg23) (by decide) (by decide)
            have e46 := ti_add (l := 0) (h := 99) (show inR (5 * a) 0 95 from r43) (show inR (nI j23) 0 4 from hrg23) (by decide) (by decide)
            have hx47 : vp_in ((5 * a) + (nI j23)) 100 := (vp_of_inR r45 (by decide))
            refine R_iaload (pc := 42) dX9_view_42 (c_169 _) hx47 ?_
            refine R_iload_n (pc := 43) dX9_view_43 rfl rfl ?_
            refine R_icne (pc := 44) 50 dX9_view_44 (by decide) (fun b44_48 => ?_) (fun b44_48 => ?_)
            · skip
              refine inc_4_3_1_i (pc := 50) dX9_view_50 ?_
              have r49 : inR ((nI j23) + 1) 1 5 := inR_add (show inR (nI j23) 0 4 from hrg23) (show inR 1 1 1 from (inR_self _)) (by decide) (by decide)
              have e50 := ti_add (l := 1) (h := 5) (show inR (nI j23) 0 4 from hrg23) (show inR 1 1 1 from (inR_self _)) (by decide) (by decide)
              refine R_goto (pc := 53) 23 dX9_view_53 (by decide) ?_
              rw [nI_1]
              exact ih23 (j23 + 1) (by omega) (by omega)
            · skip
              refine R_bipush (pc := 47) (v := (-4)) dX9_view_47 (by decide) ?_
              exact R_iret (pc := 49) dX9_view_49 rfl rfl (Nat.zero_le _) (Nat.zero_le _) ⟨_, rfl, _, rfl, hI⟩
      exact HL23 5 0 (by omega) (by omega)
    · skip
      refine R_ifne (pc := 15) 21 dX9_view_15 (by decide) (fun h => absurd (by decide) h) (fun _ => ?_)
      refine R_bipush (pc := 18) (v := (-2)) dX9_view_18 (by decide) ?_
      exact R_iret (pc := 20) dX9_view_20 rfl rfl (Nat.zero_le _) (Nat.zero_le _) ⟨_, rfl, _, rfl, hI⟩
  · skip
    refine R_ifeq (pc := 5) 18 dX9_view_5 (by decide) (fun _ => ?_) (fun h => absurd (by decide) h)
    refine R_bipush (pc := 18) (v := (-2)) dX9_view_18 (by decide) ?_
    exact R_iret (pc := 20) dX9_view_20 rfl rfl (Nat.zero_le _) (Nat.zero_le _) ⟨_, rfl, _, rfl, hI⟩
theorem dX9_unview_0 : decode cX9_unview 0 = .ok (.aload_n 0, 1) := by decide +kernel
theorem dX9_unview_1 : decode cX9_unview 1 = .ok (.iload_n 1, 1) := by decide +kernel
theorem dX9_unview_2 : decode cX9_unview 2 = .ok (.invokevirtual 135, 3) := by decide +kernel
theorem dX9_unview_5 : decode cX9_unview 5 = .ok (.ifCond .ne 6, 3) := by decide +kernel
theorem dX9_unview_8 : decode cX9_unview 8 = .ok (.bipush (-2), 2) := by decide +kernel
theorem dX9_unview_10 : decode cX9_unview 10 = .ok (.ireturn, 1) := by decide +kernel
theorem dX9_unview_11 : decode cX9_unview 11 = .ok (.aload_n 0, 1) := by decide +kernel
theorem dX9_unview_12 : decode cX9_unview 12 = .ok (.getfield 102, 3) := by decide +kernel
theorem dX9_unview_15 : decode cX9_unview 15 = .ok (.iload_n 1, 1) := by decide +kernel
theorem dX9_unview_16 : decode cX9_unview 16 = .ok (.iaload, 1) := by decide +kernel
theorem dX9_unview_17 : decode cX9_unview 17 = .ok (.istore_n 2, 1) := by decide +kernel
theorem dX9_unview_18 : decode cX9_unview 18 = .ok (.aload_n 0, 1) := by decide +kernel
theorem dX9_unview_19 : decode cX9_unview 19 = .ok (.getfield 102, 3) := by decide +kernel
theorem dX9_unview_22 : decode cX9_unview 22 = .ok (.iload_n 1, 1) := by decide +kernel
theorem dX9_unview_23 : decode cX9_unview 23 = .ok (.iconst 0, 1) := by decide +kernel
theorem dX9_unview_24 : decode cX9_unview 24 = .ok (.iastore, 1) := by decide +kernel
theorem dX9_unview_25 : decode cX9_unview 25 = .ok (.iload_n 2, 1) := by decide +kernel
theorem dX9_unview_26 : decode cX9_unview 26 = .ok (.ireturn, 1) := by decide +kernel
set_option maxRecDepth 100000 in
set_option maxHeartbeats 40000000 in
theorem gp_m_unview {G : vG} {l : Launch} (σ : Sg) (a : Int32) (hI : Inv σ) : Sp G l yX9_unview cX9_unview 3 (some .int) 2 0 0 [.ref 140, .int a] (WW σ) (QI (fun _ w2 => ∃ σ2, w2 = WW σ2 ∧ Inv σ2)) := by
  refine Sp_of_R [(some (.ref 140)), (some (.int a)), none] [none] rfl (by simp) rfl (Nat.le_of_ble_eq_true rfl) ?_
  refine R_aload_n (pc := 0) dX9_unview_0 rfl rfl ?_
  refine R_iload_n (pc := 1) dX9_unview_1 rfl rfl ?_
  refine k_X9_135 (pc := 2) (gx_X9_isThere _ _ hI) rfl (c_140 _) (by decide) (Nat.le_refl _) (Nat.le_refl _) (Nat.le_of_ble_eq_true rfl) dX9_unview_2 (fun x w2 h => ?_)
  rcases h with ⟨rfl, ⟨h1, rfl⟩ | rfl⟩
  · skip
    refine R_ifne (pc := 5) 11 dX9_unview_5 (by decide) (fun _ => ?_) (fun h => absurd h (by decide))
    refine R_aload_n (pc := 11) dX9_unview_11 rfl rfl ?_
    refine g_X9_102 (pc := 12) (v := .ref 168) rfl dX9_unview_12 (c_140 _) rfl ?_
    refine R_iload_n (pc := 15) dX9_unview_15 rfl rfl ?_
    have hx3 : vp_in a 20 := (vp_of_inR h1 (by decide))
    refine R_iaload (pc := 16) dX9_unview_16 (c_168 _) hx3 ?_
    refine st_3_2_i_i (pc := 17) dX9_unview_17 ?_
    refine R_aload_n (pc := 18) dX9_unview_18 rfl rfl ?_
    refine g_X9_102 (pc := 19) (v := .ref 168) rfl dX9_unview_19 (c_140 _) rfl ?_
    refine R_iload_n (pc := 22) dX9_unview_22 rfl rfl ?_
    refine R_iconst (pc := 23) (v := 0) dX9_unview_23 (by decide) ?_
    have hx4 : vp_in a 20 := (vp_of_inR h1 (by decide))
    refine W_iastore (pc := 24) dX9_unview_24 (c_168 _) hx4 (a_168 _ _) ?_
    have hV5 := sa_168 hI (Int32.toNatClampNeg a) (show inR 0 0 5 from ⟨by decide, by decide⟩)
    have hW6 := cor_ca 168 (Int32.toNatClampNeg a) 0 (Cor.rfl' σ) rfl
    refine R_iload_n (pc := 25) dX9_unview_25 rfl rfl ?_
    exact R_iret (pc := 26) dX9_unview_26 rfl rfl (Nat.zero_le _) (Nat.zero_le _) ⟨_, rfl, _, rfl, hV5⟩
  · skip
    refine R_ifne (pc := 5) 11 dX9_unview_5 (by decide) (fun h => absurd (by decide) h) (fun _ => ?_)
    refine R_bipush (pc := 8) (v := (-2)) dX9_unview_8 (by decide) ?_
    exact R_iret (pc := 10) dX9_unview_10 rfl rfl (Nat.zero_le _) (Nat.zero_le _) ⟨_, rfl, _, rfl, hI⟩
theorem dX9_write_0 : decode cX9_write 0 = .ok (.iload_n 3, 1) := by decide +kernel
theorem dX9_write_1 : decode cX9_write 1 = .ok (.iconst 1, 1) := by decide +kernel
theorem dX9_write_2 : decode cX9_write 2 = .ok (.bipush 8, 2) := by decide +kernel
theorem dX9_write_4 : decode cX9_write 4 = .ok (.invokestatic 124, 3) := by decide +kernel
theorem dX9_write_7 : decode cX9_write 7 = .ok (.ifCond .ne 6, 3) := by decide +kernel
theorem dX9_write_10 : decode cX9_write 10 = .ok (.bipush (-3), 2) := by decide +kernel
theorem dX9_write_12 : decode cX9_write 12 = .ok (.ireturn, 1) := by decide +kernel
theorem dX9_write_13 : decode cX9_write 13 = .ok (.aload_n 0, 1) := by decide +kernel
theorem dX9_write_14 : decode cX9_write 14 = .ok (.getfield 254, 3) := by decide +kernel
theorem dX9_write_17 : decode cX9_write 17 = .ok (.iload_n 3, 1) := by decide +kernel
theorem dX9_write_18 : decode cX9_write 18 = .ok (.iadd, 1) := by decide +kernel
theorem dX9_write_19 : decode cX9_write 19 = .ok (.sipush 160, 3) := by decide +kernel
theorem dX9_write_22 : decode cX9_write 22 = .ok (.if_icmp .le 6, 3) := by decide +kernel
theorem dX9_write_25 : decode cX9_write 25 = .ok (.bipush (-5), 2) := by decide +kernel
theorem dX9_write_27 : decode cX9_write 27 = .ok (.ireturn, 1) := by decide +kernel
theorem dX9_write_28 : decode cX9_write 28 = .ok (.iconst 0, 1) := by decide +kernel
theorem dX9_write_29 : decode cX9_write 29 = .ok (.istore 4, 2) := by decide +kernel
theorem dX9_write_31 : decode cX9_write 31 = .ok (.iload 4, 2) := by decide +kernel
theorem dX9_write_33 : decode cX9_write 33 = .ok (.iload_n 3, 1) := by decide +kernel
theorem dX9_write_34 : decode cX9_write 34 = .ok (.if_icmp .ge 33, 3) := by decide +kernel
theorem dX9_write_37 : decode cX9_write 37 = .ok (.aload_n 0, 1) := by decide +kernel
theorem dX9_write_38 : decode cX9_write 38 = .ok (.getfield 108, 3) := by decide +kernel
theorem dX9_write_41 : decode cX9_write 41 = .ok (.aload_n 0, 1) := by decide +kernel
theorem dX9_write_42 : decode cX9_write 42 = .ok (.getfield 254, 3) := by decide +kernel
theorem dX9_write_45 : decode cX9_write 45 = .ok (.iload 4, 2) := by decide +kernel
theorem dX9_write_47 : decode cX9_write 47 = .ok (.iadd, 1) := by decide +kernel
theorem dX9_write_48 : decode cX9_write 48 = .ok (.lload_n 1, 1) := by decide +kernel
theorem dX9_write_49 : decode cX9_write 49 = .ok (.bipush 8, 2) := by decide +kernel
theorem dX9_write_51 : decode cX9_write 51 = .ok (.iload 4, 2) := by decide +kernel
theorem dX9_write_53 : decode cX9_write 53 = .ok (.imul, 1) := by decide +kernel
theorem dX9_write_54 : decode cX9_write 54 = .ok (.lshr, 1) := by decide +kernel
theorem dX9_write_55 : decode cX9_write 55 = .ok (.ldc2_w 138, 3) := by decide +kernel
theorem dX9_write_58 : decode cX9_write 58 = .ok (.land, 1) := by decide +kernel
theorem dX9_write_59 : decode cX9_write 59 = .ok (.l2i, 1) := by decide +kernel
theorem dX9_write_60 : decode cX9_write 60 = .ok (.iastore, 1) := by decide +kernel
theorem dX9_write_61 : decode cX9_write 61 = .ok (.iinc 4 1, 3) := by decide +kernel
theorem dX9_write_64 : decode cX9_write 64 = .ok (.goto (-33), 3) := by decide +kernel
theorem dX9_write_67 : decode cX9_write 67 = .ok (.aload_n 0, 1) := by decide +kernel
theorem dX9_write_68 : decode cX9_write 68 = .ok (.dup, 1) := by decide +kernel
theorem dX9_write_69 : decode cX9_write 69 = .ok (.getfield 254, 3) := by decide +kernel
theorem dX9_write_72 : decode cX9_write 72 = .ok (.iload_n 3, 1) := by decide +kernel
theorem dX9_write_73 : decode cX9_write 73 = .ok (.iadd, 1) := by decide +kernel
theorem dX9_write_74 : decode cX9_write 74 = .ok (.putfield 254, 3) := by decide +kernel
theorem dX9_write_77 : decode cX9_write 77 = .ok (.aload_n 0, 1) := by decide +kernel
theorem dX9_write_78 : decode cX9_write 78 = .ok (.getfield 254, 3) := by decide +kernel
theorem dX9_write_81 : decode cX9_write 81 = .ok (.ireturn, 1) := by decide +kernel
set_option maxRecDepth 100000 in
set_option maxHeartbeats 40000000 in
theorem gp_m_write {G : vG} {l : Launch} (σ : Sg) (p : Int64) (n : Int32) (hI : Inv σ) : Sp G l yX9_write cX9_write 5 (some .int) 1 0 0 [.ref 140, .long p, .int n] (WW σ) (QI (fun _ w2 => ∃ σ2, w2 = WW σ2 ∧ Inv σ2)) := by
  refine Sp_of_R [(some (.ref 140)), (some (.long p)), none, (some (.int n)), none] [none] rfl (by simp) rfl (Nat.le_of_ble_eq_true rfl) ?_
  refine R_iload_n (pc := 0) dX9_write_0 rfl rfl ?_
  refine R_iconst (pc := 1) (v := 1) dX9_write_1 (by decide) ?_
  refine R_bipush (pc := 2) (v := 8) dX9_write_2 (by decide) ?_
  refine k_X9_124 (pc := 4) (sp_X9_in _ _ _ _) rfl (by decide) (Nat.le_refl _) (Nat.le_refl _) (Nat.le_of_ble_eq_true rfl) dX9_write_4 (fun x w2 h => ?_)
  rcases h with ⟨rfl, ⟨h1, rfl⟩ | ⟨h1, rfl⟩⟩
  · skip
    refine R_ifne (pc := 7) 13 dX9_write_7 (by decide) (fun _ => ?_) (fun h => absurd h (by decide))
    refine R_aload_n (pc := 13) dX9_write_13 rfl rfl ?_
    refine g_X9_254 (pc := 14) (v := .int (σ.1 14037)) rfl dX9_write_14 (c_140 _) rfl ?_
    refine R_iload_n (pc := 17) dX9_write_17 rfl rfl ?_
    refine R_iadd (pc := 18) dX9_write_18 ?_
    have r3 : inR ((σ.1 14037) + n) 1 168 := inR_add (show inR (σ.1 14037) 0 160 from (iv_14037 hI)) (show inR n 1 8 from h1) (by decide) (by decide)
    have e4 := ti_add (l := 1) (h := 168) (show inR (σ.1 14037) 0 160 from (iv_14037 hI)) (show inR n 1 8 from h1) (by decide) (by decide)
    refine R_sipush (pc := 19) (v := 160) dX9_write_19 (by decide) ?_
    refine R_icle (pc := 22) 28 dX9_write_22 (by decide) (fun b22_5 => ?_) (fun b22_5 => ?_)
    · skip
      refine R_iconst (pc := 28) (v := 0) dX9_write_28 (by decide) ?_
      refine st_5_4_i_i (pc := 29) dX9_write_29 ?_
      have HL31 : ∀ (q j31 : Nat) (σ31 : Sg), j31 + q = 8 → 0 ≤ j31 → Inv σ31 → σ31.1 14037 = σ.1 14037 → R G l yX9_write cX9_write 5 (some .int) 1 0 0 (QI (fun _ w2 => ∃ σ2, w2 = WW σ2 ∧ Inv σ2)) 31 [(some (.ref 140)), (some (.long p)), none, (some (.int n)), (some (.int (nI j31)))] [] (WW σ31) 0 0 := by
        intro q
        induction q with
        | zero =>
          intro j31 σ31 hj hs31 hI31 hk31_14037
          obtain rfl : j31 = 8 := by omega
          refine R_iload (pc := 31) dX9_write_31 rfl ?_
          refine R_iload_n (pc := 33) dX9_write_33 rfl rfl ?_
          refine R_icge (pc := 34) 67 dX9_write_34 (by decide) (fun _ => ?_) (fun h => absurd (Int32.not_lt.mp (inR_up h1 (Int32.le_refl _) (by decide)).2) h)
          refine R_aload_n (pc := 67) dX9_write_67 rfl rfl ?_
          refine R_dup (pc := 68) dX9_write_68 rfl ?_
          refine g_X9_254 (pc := 69) (v := .int (σ31.1 14037)) rfl dX9_write_69 (c_140 _) rfl ?_
          refine R_iload_n (pc := 72) dX9_write_72 rfl rfl ?_
          refine R_iadd (pc := 73) dX9_write_73 ?_
          have r7 : inR ((σ31.1 14037) + n) 1 168 := inR_add (show inR (σ31.1 14037) 0 160 from (iv_14037 hI31)) (show inR n 1 8 from h1) (by decide) (by decide)
          have e8 := ti_add (l := 1) (h := 168) (show inR (σ31.1 14037) 0 160 from (iv_14037 hI31)) (show inR n 1 8 from h1) (by decide) (by decide)
          refine p_X9_254 (pc := 74) rfl dX9_write_74 (c_140 _) (Nat.le_of_ble_eq_true rfl) rfl rfl (s_140_37 _ _) ?_
          have hV9 := su_14037 hI31 (show inR ((σ31.1 14037) + n) 0 160 from of_ti (by have q0 := e4; have q1 := ti_eq hk31_14037; have q2 := e8; have q3 := ti_le b22_5; have q4 := ti_in h1; have q5 := ti_in (iv_14037 hI); have q6 := ti_in r3; have q7 := ti_in (iv_14037 hI31); have q8 := ti_in r7; have z0 : (0 : Int32).toInt = 0 := (by decide); have z1 : (1 : Int32).toInt = 1 := (by decide); have z2 : (14037 : Int32).toInt = 14037 := (by decide); have z3 : (160 : Int32).toInt = 160 := (by decide); have z4 : (168 : Int32).toInt = 168 := (by decide); have z5 : (8 : Int32).toInt = 8 := (by decide); omega) (by have q0 := e4; have q1 := ti_eq hk31_14037; have q2 := e8; have q3 := ti_le b22_5; have q4 := ti_in h1; have q5 := ti_in (iv_14037 hI); have q6 := ti_in r3; have q7 := ti_in (iv_14037 hI31); have q8 := ti_in r7; have z0 : (0 : Int32).toInt = 0 := (by decide); have z1 : (1 : Int32).toInt = 1 := (by decide); have z2 : (14037 : Int32).toInt = 14037 := (by decide); have z3 : (160 : Int32).toInt = 160 := (by decide); have z4 : (168 : Int32).toInt = 168 := (by decide); have z5 : (8 : Int32).toInt = 8 := (by decide); omega))
          refine R_aload_n (pc := 77) dX9_write_77 rfl rfl ?_
          refine g_X9_254 (pc := 78) (v := .int ((σ31.1 14037) + n)) rfl dX9_write_78 (c_140 _) rfl ?_
          exact R_iret (pc := 81) dX9_write_81 rfl rfl (Nat.zero_le _) (Nat.zero_le _) ⟨_, rfl, _, rfl, hV9⟩
        | succ q ih31 =>
          intro j31 σ31 hj hs31 hI31 hk31_14037
          have hrg31 : inR (nI j31) 0 7 := inR_ix hs31 (show j31 < 8 by omega) (by decide) (by decide) (by decide)
          have hlt31 : j31 < 8 := by omega
          refine R_iload (pc := 31) dX9_write_31 rfl ?_
          refine R_iload_n (pc := 33) dX9_write_33 rfl rfl ?_
          refine R_icge (pc := 34) 67 dX9_write_34 (by decide) (fun b34_10 => ?_) (fun b34_10 => ?_)
          · skip
            refine R_aload_n (pc := 67) dX9_write_67 rfl rfl ?_
            refine R_dup (pc := 68) dX9_write_68 rfl ?_
            refine g_X9_254 (pc := 69) (v := .int (σ31.1 14037)) rfl dX9_write_69 (c_140 _) rfl ?_
            refine R_iload_n (pc := 72) dX9_write_72 rfl rfl ?_
            refine R_iadd (pc := 73) dX9_write_73 ?_
            have r11 : inR ((σ31.1 14037) + n) 1 168 := inR_add (show inR (σ31.1 14037) 0 160 from (iv_14037 hI31)) (show inR n 1 8 from h1) (by decide) (by decide)
            have e12 := ti_add (l := 1) (h := 168) (show inR (σ31.1 14037) 0 160 from (iv_14037 hI31)) (show inR n 1 8 from h1) (by decide) (by decide)
            refine p_X9_254 (pc := 74) rfl dX9_write_74 (c_140 _) (Nat.le_of_ble_eq_true rfl) rfl rfl (s_140_37 _ _) ?_
            have hV13 := su_14037 hI31 (show inR ((σ31.1 14037) + n) 0 160 from of_ti (by have q0 := e4; have q1 := ti_eq hk31_14037; have q2 := e12; have q3 := ti_le b22_5; have q4 := ti_le b34_10; have q5 := ti_in h1; have q6 := ti_in (iv_14037 hI); have q7 := ti_in r3; have q8 := ti_in hrg31; have q9 := ti_in (iv_14037 hI31); have q10 := ti_in r11; have z0 : (0 : Int32).toInt = 0 := (by decide); have z1 : (1 : Int32).toInt = 1 := (by decide); have z2 : (14037 : Int32).toInt = 14037 := (by decide); have z3 : (160 : Int32).toInt = 160 := (by decide); have z4 : (168 : Int32).toInt = 168 := (by decide); have z5 : (7 : Int32).toInt = 7 := (by decide); have z6 : (8 : Int32).toInt = 8 := (by decide); omega) (by have q0 := e4; have q1 := ti_eq hk31_14037; have q2 := e12; have q3 := ti_le b22_5; have q4 := ti_le b34_10; have q5 := ti_in h1; have q6 := ti_in (iv_14037 hI); have q7 := ti_in r3; have q8 := ti_in hrg31; have q9 := ti_in (iv_14037 hI31); have q10 := ti_in r11; have z0 : (0 : Int32).toInt = 0 := (by decide); have z1 : (1 : Int32).toInt = 1 := (by decide); have z2 : (14037 : Int32).toInt = 14037 := (by decide); have z3 : (160 : Int32).toInt = 160 := (by decide); have z4 : (168 : Int32).toInt = 168 := (by decide); have z5 : (7 : Int32).toInt = 7 := (by decide); have z6 : (8 : Int32).toInt = 8 := (by decide); omega))
            refine R_aload_n (pc := 77) dX9_write_77 rfl rfl ?_
            refine g_X9_254 (pc := 78) (v := .int ((σ31.1 14037) + n)) rfl dX9_write_78 (c_140 _) rfl ?_
            exact R_iret (pc := 81) dX9_write_81 rfl rfl (Nat.zero_le _) (Nat.zero_le _) ⟨_, rfl, _, rfl, hV13⟩
          · skip
            refine R_aload_n (pc := 37) dX9_write_37 rfl rfl ?_
            refine g_X9_108 (pc := 38) (v := .ref 170) rfl dX9_write_38 (c_140 _) rfl ?_
            refine R_aload_n (pc := 41) dX9_write_41 rfl rfl ?_
            refine g_X9_254 (pc := 42) (v := .int (σ31.1 14037)) rfl dX9_write_42 (c_140 _) rfl ?_
            refine R_iload (pc := 45) dX9_write_45 rfl ?_
            refine R_iadd (pc := 47) dX9_write_47 ?_
            have r14 : inR ((σ31.1 14037) + (nI j31)) 0 167 := inR_add (show inR (σ31.1 14037) 0 160 from (iv_14037 hI31)) (show inR (nI j31) 0 7 from hrg31) (by decide) (by decide)
            have e15 := ti_add (l := 0) (h := 167) (show inR (σ31.1 14037) 0 160 from (iv_14037 hI31)) (show inR (nI j31) 0 7 from hrg31) (by decide) (by decide)
            refine R_lload_n (pc := 48) dX9_write_48 rfl rfl ?_
            refine R_bipush (pc := 49) (v := 8) dX9_write_49 (by decide) ?_
            refine R_iload (pc := 51) dX9_write_51 rfl ?_
            refine R_imul (pc := 53) dX9_write_53 ?_
            have r16 : inR (8 * (nI j31)) 0 56 := inR_mulc (c := 8) (l := 0) (h := 56) 8 (by decide) (show inR (nI j31) 0 7 from hrg31) (by decide) (by decide)
            have e17 := ti_mulc (c := 8) (l := 0) (h := 56) 8 (by decide) (show inR (nI j31) 0 7 from hrg31) (by decide) (by decide)
            refine R_lshr (pc := 54) dX9_write_54 ?_
            refine R_ldc2 (pc := 55) w_1004c dX9_write_55 ?_
            refine R_land (pc := 58) dX9_write_58 ?_
            refine R_l2i (pc := 59) dX9_write_59 ?_
            have hx18 : vp_in ((σ31.1 14037) + (nI j31)) 160 := (vp_ti (by have q0 := e4; have q1 := ti_eq hk31_14037; have q2 := e15; have q3 := e17; have q4 := ti_le b22_5; have q5 := ti_nle b34_10; have q6 := ti_in h1; have q7 := ti_in (iv_14037 hI); have q8 := ti_in r3; have q9 := ti_in hrg31; have q10 := ti_in (iv_14037 hI31); have q11 := ti_in r14; have q12 := ti_in r16; have z0 : (0 : Int32).toInt = 0 := (by decide); have z1 : (1 : Int32).toInt = 1 := (by decide); have z2 : (14037 : Int32).toInt = 14037 := (by decide); have z3 : (160 : Int32).toInt = 160 := (by decide); have z4 : (167 : Int32).toInt = 167 := (by decide); have z5 : (168 : Int32).toInt = 168 := (by decide); have z6 : (56 : Int32).toInt = 56 := (by decide); have z7 : (7 : Int32).toInt = 7 := (by decide); have z8 : (8 : Int32).toInt = 8 := (by decide); omega) (by have q0 := e4; have q1 := ti_eq hk31_14037; have q2 := e15; have q3 := e17; have q4 := ti_le b22_5; have q5 := ti_nle b34_10; have q6 := ti_in h1; have q7 := ti_in (iv_14037 hI); have q8 := ti_in r3; have q9 := ti_in hrg31; have q10 := ti_in (iv_14037 hI31); have q11 := ti_in r14; have q12 := ti_in r16; have z0 : (0 : Int32).toInt = 0 := (by decide); have z1 : (1 : Int32).toInt = 1 := (by decide); have z2 : (14037 : Int32).toInt = 14037 := (by decide); have z3 : (160 : Int32).toInt = 160 := (by decide); have z4 : (167 : Int32).toInt = 167 := (by decide); have z5 : (168 : Int32).toInt = 168 := (by decide); have z6 : (56 : Int32).toInt = 56 := (by decide); have z7 : (7 : Int32).toInt = 7 := (by decide); have z8 : (8 : Int32).toInt = 8 := (by decide); omega))
            refine W_iastore (pc := 60) dX9_write_60 (c_170 _) hx18 (a_170 _ _) ?_
            refine inc_5_4_1_i (pc := 61) dX9_write_61 ?_
            have r19 : inR ((nI j31) + 1) 1 8 := inR_add (show inR (nI j31) 0 7 from hrg31) (show inR 1 1 1 from (inR_self _)) (by decide) (by decide)
            have e20 := ti_add (l := 1) (h := 8) (show inR (nI j31) 0 7 from hrg31) (show inR 1 1 1 from (inR_self _)) (by decide) (by decide)
            refine R_goto (pc := 64) 31 dX9_write_64 (by decide) ?_
            rw [nI_1]
            exact ih31 (j31 + 1) _ (by omega) (by omega) hI31 hk31_14037
      exact HL31 8 0 _ (by omega) (by omega) hI rfl
    · skip
      refine R_bipush (pc := 25) (v := (-5)) dX9_write_25 (by decide) ?_
      exact R_iret (pc := 27) dX9_write_27 rfl rfl (Nat.zero_le _) (Nat.zero_le _) ⟨_, rfl, _, rfl, hI⟩
  · skip
    refine R_ifne (pc := 7) 13 dX9_write_7 (by decide) (fun h => absurd (by decide) h) (fun _ => ?_)
    refine R_bipush (pc := 10) (v := (-3)) dX9_write_10 (by decide) ?_
    exact R_iret (pc := 12) dX9_write_12 rfl rfl (Nat.zero_le _) (Nat.zero_le _) ⟨_, rfl, _, rfl, hI⟩
theorem dX9_erase_0 : decode cX9_erase 0 = .ok (.aload_n 0, 1) := by decide +kernel
theorem dX9_erase_1 : decode cX9_erase 1 = .ok (.getfield 254, 3) := by decide +kernel
theorem dX9_erase_4 : decode cX9_erase 4 = .ok (.istore_n 1, 1) := by decide +kernel
theorem dX9_erase_5 : decode cX9_erase 5 = .ok (.aload_n 0, 1) := by decide +kernel
theorem dX9_erase_6 : decode cX9_erase 6 = .ok (.iconst 0, 1) := by decide +kernel
theorem dX9_erase_7 : decode cX9_erase 7 = .ok (.putfield 254, 3) := by decide +kernel
theorem dX9_erase_10 : decode cX9_erase 10 = .ok (.iload_n 1, 1) := by decide +kernel
theorem dX9_erase_11 : decode cX9_erase 11 = .ok (.ireturn, 1) := by decide +kernel
set_option maxRecDepth 100000 in
set_option maxHeartbeats 40000000 in
theorem gp_m_erase {G : vG} {l : Launch} (σ : Sg)  (hI : Inv σ) : Sp G l yX9_erase cX9_erase 2 (some .int) 0 0 0 [.ref 140] (WW σ) (QI (fun _ w2 => ∃ σ2, w2 = WW σ2 ∧ Inv σ2)) := by
  refine Sp_of_R [(some (.ref 140)), none] [none] rfl (by simp) rfl (Nat.le_of_ble_eq_true rfl) ?_
  refine R_aload_n (pc := 0) dX9_erase_0 rfl rfl ?_
  refine g_X9_254 (pc := 1) (v := .int (σ.1 14037)) rfl dX9_erase_1 (c_140 _) rfl ?_
  refine st_2_1_i_a (pc := 4) dX9_erase_4 ?_
  refine R_aload_n (pc := 5) dX9_erase_5 rfl rfl ?_
  refine R_iconst (pc := 6) (v := 0) dX9_erase_6 (by decide) ?_
  refine p_X9_254 (pc := 7) rfl dX9_erase_7 (c_140 _) (Nat.le_of_ble_eq_true rfl) rfl rfl (s_140_37 _ _) ?_
  have hV1 := su_14037 hI (show inR 0 0 160 from ⟨by decide, by decide⟩)
  have hW2 := cor_ci 14037 0 (Cor.rfl' σ)
  refine R_iload_n (pc := 10) dX9_erase_10 rfl rfl ?_
  exact R_iret (pc := 11) dX9_erase_11 rfl rfl (Nat.zero_le _) (Nat.zero_le _) ⟨_, rfl, _, rfl, hV1⟩
theorem dX9_takenIn_0 : decode cX9_takenIn 0 = .ok (.iload_n 2, 1) := by decide +kernel
theorem dX9_takenIn_1 : decode cX9_takenIn 1 = .ok (.aload_n 0, 1) := by decide +kernel
theorem dX9_takenIn_2 : decode cX9_takenIn 2 = .ok (.getfield 87, 3) := by decide +kernel
theorem dX9_takenIn_5 : decode cX9_takenIn 5 = .ok (.iload_n 1, 1) := by decide +kernel
theorem dX9_takenIn_6 : decode cX9_takenIn 6 = .ok (.iaload, 1) := by decide +kernel
theorem dX9_takenIn_7 : decode cX9_takenIn 7 = .ok (.if_icmp .le 15, 3) := by decide +kernel
theorem dX9_takenIn_10 : decode cX9_takenIn 10 = .ok (.aload_n 0, 1) := by decide +kernel
theorem dX9_takenIn_11 : decode cX9_takenIn 11 = .ok (.getfield 87, 3) := by decide +kernel
theorem dX9_takenIn_14 : decode cX9_takenIn 14 = .ok (.iload_n 1, 1) := by decide +kernel
theorem dX9_takenIn_15 : decode cX9_takenIn 15 = .ok (.iload_n 2, 1) := by decide +kernel
theorem dX9_takenIn_16 : decode cX9_takenIn 16 = .ok (.iastore, 1) := by decide +kernel
theorem dX9_takenIn_17 : decode cX9_takenIn 17 = .ok (.aload_n 0, 1) := by decide +kernel
theorem dX9_takenIn_18 : decode cX9_takenIn 18 = .ok (.iconst 1, 1) := by decide +kernel
theorem dX9_takenIn_19 : decode cX9_takenIn 19 = .ok (.putfield 204, 3) := by decide +kernel
theorem dX9_takenIn_22 : decode cX9_takenIn 22 = .ok (.iload_n 3, 1) := by decide +kernel
theorem dX9_takenIn_23 : decode cX9_takenIn 23 = .ok (.aload_n 0, 1) := by decide +kernel
theorem dX9_takenIn_24 : decode cX9_takenIn 24 = .ok (.getfield 90, 3) := by decide +kernel
theorem dX9_takenIn_27 : decode cX9_takenIn 27 = .ok (.iload_n 1, 1) := by decide +kernel
theorem dX9_takenIn_28 : decode cX9_takenIn 28 = .ok (.iaload, 1) := by decide +kernel
theorem dX9_takenIn_29 : decode cX9_takenIn 29 = .ok (.if_icmp .ge 15, 3) := by decide +kernel
theorem dX9_takenIn_32 : decode cX9_takenIn 32 = .ok (.aload_n 0, 1) := by decide +kernel
theorem dX9_takenIn_33 : decode cX9_takenIn 33 = .ok (.getfield 90, 3) := by decide +kernel
theorem dX9_takenIn_36 : decode cX9_takenIn 36 = .ok (.iload_n 1, 1) := by decide +kernel
theorem dX9_takenIn_37 : decode cX9_takenIn 37 = .ok (.iload_n 3, 1) := by decide +kernel
theorem dX9_takenIn_38 : decode cX9_takenIn 38 = .ok (.iastore, 1) := by decide +kernel
theorem dX9_takenIn_39 : decode cX9_takenIn 39 = .ok (.aload_n 0, 1) := by decide +kernel
theorem dX9_takenIn_40 : decode cX9_takenIn 40 = .ok (.iconst 1, 1) := by decide +kernel
theorem dX9_takenIn_41 : decode cX9_takenIn 41 = .ok (.putfield 204, 3) := by decide +kernel
theorem dX9_takenIn_44 : decode cX9_takenIn 44 = .ok (.return_, 1) := by decide +kernel
set_option maxRecDepth 100000 in
set_option maxHeartbeats 40000000 in
theorem gx_X9_takenIn {G : vG} {l : Launch} (σ : Sg) (a b c : Int32) (hI : Inv σ) (ha : inR a 0 19) : Sp G l yX9_takenIn cX9_takenIn 4 none 0 0 0 [.ref 140, .int a, .int b, .int c] (WW σ) (QV (fun w2 => ∃ σ2, w2 = WW σ2 ∧ Inv σ2 ∧ Cor σ σ2)) := by
  refine Sp_of_R [(some (.ref 140)), (some (.int a)), (some (.int b)), (some (.int c))] [] rfl (by simp) rfl (Nat.le_of_ble_eq_true rfl) ?_
  refine R_iload_n (pc := 0) dX9_takenIn_0 rfl rfl ?_
  refine R_aload_n (pc := 1) dX9_takenIn_1 rfl rfl ?_
  refine g_X9_87 (pc := 2) (v := .ref 163) rfl dX9_takenIn_2 (c_140 _) rfl ?_
  refine R_iload_n (pc := 5) dX9_takenIn_5 rfl rfl ?_
  have hx1 : vp_in a 20 := (vp_of_inR ha (by decide))
  refine R_iaload (pc := 6) dX9_takenIn_6 (c_163 _) hx1 ?_
  refine R_icle (pc := 7) 22 dX9_takenIn_7 (by decide) (fun b7_2 => ?_) (fun b7_2 => ?_)
  · skip
    refine R_iload_n (pc := 22) dX9_takenIn_22 rfl rfl ?_
    refine R_aload_n (pc := 23) dX9_takenIn_23 rfl rfl ?_
    refine g_X9_90 (pc := 24) (v := .ref 164) rfl dX9_takenIn_24 (c_140 _) rfl ?_
    refine R_iload_n (pc := 27) dX9_takenIn_27 rfl rfl ?_
    have hx3 : vp_in a 20 := (vp_of_inR ha (by decide))
    refine R_iaload (pc := 28) dX9_takenIn_28 (c_164 _) hx3 ?_
    refine R_icge (pc := 29) 44 dX9_takenIn_29 (by decide) (fun b29_4 => ?_) (fun b29_4 => ?_)
    · skip
      exact R_vret (pc := 44) dX9_takenIn_44 rfl (Nat.zero_le _) (Nat.zero_le _) ⟨rfl, _, rfl, hI, (Cor.rfl' σ)⟩
    · skip
      refine R_aload_n (pc := 32) dX9_takenIn_32 rfl rfl ?_
      refine g_X9_90 (pc := 33) (v := .ref 164) rfl dX9_takenIn_33 (c_140 _) rfl ?_
      refine R_iload_n (pc := 36) dX9_takenIn_36 rfl rfl ?_
      refine R_iload_n (pc := 37) dX9_takenIn_37 rfl rfl ?_
      have hx5 : vp_in a 20 := (vp_of_inR ha (by decide))
      refine W_iastore (pc := 38) dX9_takenIn_38 (c_164 _) hx5 (a_164 _ _) ?_
      have hW6 := cor_sa 164 (upd (σ.2.2.1 164) (Int32.toNatClampNeg a) c) (Cor.rfl' σ) rfl
      refine R_aload_n (pc := 39) dX9_takenIn_39 rfl rfl ?_
      refine R_iconst (pc := 40) (v := 1) dX9_takenIn_40 (by decide) ?_
      refine p_X9_204 (pc := 41) rfl dX9_takenIn_41 (c_140 _) (Nat.le_of_ble_eq_true rfl) rfl rfl (s_140_32 _ _) ?_
      have hW7 := cor_si 14032 1 hW6 rfl
      exact R_vret (pc := 44) dX9_takenIn_44 rfl (Nat.zero_le _) (Nat.zero_le _) ⟨rfl, _, rfl, hI, hW7⟩
  · skip
    refine R_aload_n (pc := 10) dX9_takenIn_10 rfl rfl ?_
    refine g_X9_87 (pc := 11) (v := .ref 163) rfl dX9_takenIn_11 (c_140 _) rfl ?_
    refine R_iload_n (pc := 14) dX9_takenIn_14 rfl rfl ?_
    refine R_iload_n (pc := 15) dX9_takenIn_15 rfl rfl ?_
    have hx8 : vp_in a 20 := (vp_of_inR ha (by decide))
    refine W_iastore (pc := 16) dX9_takenIn_16 (c_163 _) hx8 (a_163 _ _) ?_
    have hW9 := cor_sa 163 (upd (σ.2.2.1 163) (Int32.toNatClampNeg a) b) (Cor.rfl' σ) rfl
    refine R_aload_n (pc := 17) dX9_takenIn_17 rfl rfl ?_
    refine R_iconst (pc := 18) (v := 1) dX9_takenIn_18 (by decide) ?_
    refine p_X9_204 (pc := 19) rfl dX9_takenIn_19 (c_140 _) (Nat.le_of_ble_eq_true rfl) rfl rfl (s_140_32 _ _) ?_
    have hW10 := cor_si 14032 1 hW9 rfl
    refine R_iload_n (pc := 22) dX9_takenIn_22 rfl rfl ?_
    refine R_aload_n (pc := 23) dX9_takenIn_23 rfl rfl ?_
    refine g_X9_90 (pc := 24) (v := .ref 164) rfl dX9_takenIn_24 (c_140 _) rfl ?_
    refine R_iload_n (pc := 27) dX9_takenIn_27 rfl rfl ?_
    have hx11 : vp_in a 20 := (vp_of_inR ha (by decide))
    refine W_iaload (pc := 28) (σ.2.2.1 164 (Int32.toNatClampNeg a)) dX9_takenIn_28 (c_164 _) hx11 rfl ?_
    refine R_icge (pc := 29) 44 dX9_takenIn_29 (by decide) (fun b29_12 => ?_) (fun b29_12 => ?_)
    · skip
      exact R_vret (pc := 44) dX9_takenIn_44 rfl (Nat.zero_le _) (Nat.zero_le _) ⟨rfl, _, rfl, hI, hW10⟩
    · skip
      refine R_aload_n (pc := 32) dX9_takenIn_32 rfl rfl ?_
      refine g_X9_90 (pc := 33) (v := .ref 164) rfl dX9_takenIn_33 (c_140 _) rfl ?_
      refine R_iload_n (pc := 36) dX9_takenIn_36 rfl rfl ?_
      refine R_iload_n (pc := 37) dX9_takenIn_37 rfl rfl ?_
      have hx13 : vp_in a 20 := (vp_of_inR ha (by decide))
      refine W_iastore (pc := 38) dX9_takenIn_38 (c_164 _) hx13 (a_164 _ _) ?_
      have hW14 := cor_sa 164 (upd ((uI (uA σ 163 (upd (σ.2.2.1 163) (Int32.toNatClampNeg a) b)) 14032 1).2.2.1 164) (Int32.toNatClampNeg a) c) hW10 rfl
      refine R_aload_n (pc := 39) dX9_takenIn_39 rfl rfl ?_
      refine R_iconst (pc := 40) (v := 1) dX9_takenIn_40 (by decide) ?_
      refine p_X9_204 (pc := 41) rfl dX9_takenIn_41 (c_140 _) (Nat.le_of_ble_eq_true rfl) rfl rfl (s_140_32 _ _) ?_
      have hW15 := cor_si 14032 1 hW14 rfl
      exact R_vret (pc := 44) dX9_takenIn_44 rfl (Nat.zero_le _) (Nat.zero_le _) ⟨rfl, _, rfl, hI, hW15⟩
theorem dX9_outIn_0 : decode cX9_outIn 0 = .ok (.iload_n 2, 1) := by decide +kernel
theorem dX9_outIn_1 : decode cX9_outIn 1 = .ok (.aload_n 0, 1) := by decide +kernel
theorem dX9_outIn_2 : decode cX9_outIn 2 = .ok (.getfield 93, 3) := by decide +kernel
theorem dX9_outIn_5 : decode cX9_outIn 5 = .ok (.iload_n 1, 1) := by decide +kernel
theorem dX9_outIn_6 : decode cX9_outIn 6 = .ok (.iaload, 1) := by decide +kernel
theorem dX9_outIn_7 : decode cX9_outIn 7 = .ok (.if_icmp .le 15, 3) := by decide +kernel
theorem dX9_outIn_10 : decode cX9_outIn 10 = .ok (.aload_n 0, 1) := by decide +kernel
theorem dX9_outIn_11 : decode cX9_outIn 11 = .ok (.getfield 93, 3) := by decide +kernel
theorem dX9_outIn_14 : decode cX9_outIn 14 = .ok (.iload_n 1, 1) := by decide +kernel
theorem dX9_outIn_15 : decode cX9_outIn 15 = .ok (.iload_n 2, 1) := by decide +kernel
theorem dX9_outIn_16 : decode cX9_outIn 16 = .ok (.iastore, 1) := by decide +kernel
theorem dX9_outIn_17 : decode cX9_outIn 17 = .ok (.aload_n 0, 1) := by decide +kernel
theorem dX9_outIn_18 : decode cX9_outIn 18 = .ok (.iconst 1, 1) := by decide +kernel
theorem dX9_outIn_19 : decode cX9_outIn 19 = .ok (.putfield 204, 3) := by decide +kernel
theorem dX9_outIn_22 : decode cX9_outIn 22 = .ok (.iload_n 3, 1) := by decide +kernel
theorem dX9_outIn_23 : decode cX9_outIn 23 = .ok (.aload_n 0, 1) := by decide +kernel
theorem dX9_outIn_24 : decode cX9_outIn 24 = .ok (.getfield 96, 3) := by decide +kernel
theorem dX9_outIn_27 : decode cX9_outIn 27 = .ok (.iload_n 1, 1) := by decide +kernel
theorem dX9_outIn_28 : decode cX9_outIn 28 = .ok (.iaload, 1) := by decide +kernel
theorem dX9_outIn_29 : decode cX9_outIn 29 = .ok (.if_icmp .ge 15, 3) := by decide +kernel
theorem dX9_outIn_32 : decode cX9_outIn 32 = .ok (.aload_n 0, 1) := by decide +kernel
theorem dX9_outIn_33 : decode cX9_outIn 33 = .ok (.getfield 96, 3) := by decide +kernel
theorem dX9_outIn_36 : decode cX9_outIn 36 = .ok (.iload_n 1, 1) := by decide +kernel
theorem dX9_outIn_37 : decode cX9_outIn 37 = .ok (.iload_n 3, 1) := by decide +kernel
theorem dX9_outIn_38 : decode cX9_outIn 38 = .ok (.iastore, 1) := by decide +kernel
theorem dX9_outIn_39 : decode cX9_outIn 39 = .ok (.aload_n 0, 1) := by decide +kernel
theorem dX9_outIn_40 : decode cX9_outIn 40 = .ok (.iconst 1, 1) := by decide +kernel
theorem dX9_outIn_41 : decode cX9_outIn 41 = .ok (.putfield 204, 3) := by decide +kernel
theorem dX9_outIn_44 : decode cX9_outIn 44 = .ok (.return_, 1) := by decide +kernel
set_option maxRecDepth 100000 in
set_option maxHeartbeats 40000000 in
theorem gx_X9_outIn {G : vG} {l : Launch} (σ : Sg) (a b c : Int32) (hI : Inv σ) (ha : inR a 0 19) : Sp G l yX9_outIn cX9_outIn 4 none 0 0 0 [.ref 140, .int a, .int b, .int c] (WW σ) (QV (fun w2 => ∃ σ2, w2 = WW σ2 ∧ Inv σ2 ∧ Cor σ σ2)) := by
  refine Sp_of_R [(some (.ref 140)), (some (.int a)), (some (.int b)), (some (.int c))] [] rfl (by simp) rfl (Nat.le_of_ble_eq_true rfl) ?_
  refine R_iload_n (pc := 0) dX9_outIn_0 rfl rfl ?_
  refine R_aload_n (pc := 1) dX9_outIn_1 rfl rfl ?_
  refine g_X9_93 (pc := 2) (v := .ref 165) rfl dX9_outIn_2 (c_140 _) rfl ?_
  refine R_iload_n (pc := 5) dX9_outIn_5 rfl rfl ?_
  have hx1 : vp_in a 20 := (vp_of_inR ha (by decide))
  refine R_iaload (pc := 6) dX9_outIn_6 (c_165 _) hx1 ?_
  refine R_icle (pc := 7) 22 dX9_outIn_7 (by decide) (fun b7_2 => ?_) (fun b7_2 => ?_)
  · skip
    refine R_iload_n (pc := 22) dX9_outIn_22 rfl rfl ?_
    refine R_aload_n (pc := 23) dX9_outIn_23 rfl rfl ?_
    refine g_X9_96 (pc := 24) (v := .ref 166) rfl dX9_outIn_24 (c_140 _) rfl ?_
    refine R_iload_n (pc := 27) dX9_outIn_27 rfl rfl ?_
    have hx3 : vp_in a 20 := (vp_of_inR ha (by decide))
    refine R_iaload (pc := 28) dX9_outIn_28 (c_166 _) hx3 ?_
    refine R_icge (pc := 29) 44 dX9_outIn_29 (by decide) (fun b29_4 => ?_) (fun b29_4 => ?_)
    · skip
      exact R_vret (pc := 44) dX9_outIn_44 rfl (Nat.zero_le _) (Nat.zero_le _) ⟨rfl, _, rfl, hI, (Cor.rfl' σ)⟩
    · skip
      refine R_aload_n (pc := 32) dX9_outIn_32 rfl rfl ?_
      refine g_X9_96 (pc := 33) (v := .ref 166) rfl dX9_outIn_33 (c_140 _) rfl ?_
      refine R_iload_n (pc := 36) dX9_outIn_36 rfl rfl ?_
      refine R_iload_n (pc := 37) dX9_outIn_37 rfl rfl ?_
      have hx5 : vp_in a 20 := (vp_of_inR ha (by decide))
      refine W_iastore (pc := 38) dX9_outIn_38 (c_166 _) hx5 (a_166 _ _) ?_
      have hW6 := cor_sa 166 (upd (σ.2.2.1 166) (Int32.toNatClampNeg a) c) (Cor.rfl' σ) rfl
      refine R_aload_n (pc := 39) dX9_outIn_39 rfl rfl ?_
      refine R_iconst (pc := 40) (v := 1) dX9_outIn_40 (by decide) ?_
      refine p_X9_204 (pc := 41) rfl dX9_outIn_41 (c_140 _) (Nat.le_of_ble_eq_true rfl) rfl rfl (s_140_32 _ _) ?_
      have hW7 := cor_si 14032 1 hW6 rfl
      exact R_vret (pc := 44) dX9_outIn_44 rfl (Nat.zero_le _) (Nat.zero_le _) ⟨rfl, _, rfl, hI, hW7⟩
  · skip
    refine R_aload_n (pc := 10) dX9_outIn_10 rfl rfl ?_
    refine g_X9_93 (pc := 11) (v := .ref 165) rfl dX9_outIn_11 (c_140 _) rfl ?_
    refine R_iload_n (pc := 14) dX9_outIn_14 rfl rfl ?_
    refine R_iload_n (pc := 15) dX9_outIn_15 rfl rfl ?_
    have hx8 : vp_in a 20 := (vp_of_inR ha (by decide))
    refine W_iastore (pc := 16) dX9_outIn_16 (c_165 _) hx8 (a_165 _ _) ?_
    have hW9 := cor_sa 165 (upd (σ.2.2.1 165) (Int32.toNatClampNeg a) b) (Cor.rfl' σ) rfl
    refine R_aload_n (pc := 17) dX9_outIn_17 rfl rfl ?_
    refine R_iconst (pc := 18) (v := 1) dX9_outIn_18 (by decide) ?_
    refine p_X9_204 (pc := 19) rfl dX9_outIn_19 (c_140 _) (Nat.le_of_ble_eq_true rfl) rfl rfl (s_140_32 _ _) ?_
    have hW10 := cor_si 14032 1 hW9 rfl
    refine R_iload_n (pc := 22) dX9_outIn_22 rfl rfl ?_
    refine R_aload_n (pc := 23) dX9_outIn_23 rfl rfl ?_
    refine g_X9_96 (pc := 24) (v := .ref 166) rfl dX9_outIn_24 (c_140 _) rfl ?_
    refine R_iload_n (pc := 27) dX9_outIn_27 rfl rfl ?_
    have hx11 : vp_in a 20 := (vp_of_inR ha (by decide))
    refine W_iaload (pc := 28) (σ.2.2.1 166 (Int32.toNatClampNeg a)) dX9_outIn_28 (c_166 _) hx11 rfl ?_
    refine R_icge (pc := 29) 44 dX9_outIn_29 (by decide) (fun b29_12 => ?_) (fun b29_12 => ?_)
    · skip
      exact R_vret (pc := 44) dX9_outIn_44 rfl (Nat.zero_le _) (Nat.zero_le _) ⟨rfl, _, rfl, hI, hW10⟩
    · skip
      refine R_aload_n (pc := 32) dX9_outIn_32 rfl rfl ?_
      refine g_X9_96 (pc := 33) (v := .ref 166) rfl dX9_outIn_33 (c_140 _) rfl ?_
      refine R_iload_n (pc := 36) dX9_outIn_36 rfl rfl ?_
      refine R_iload_n (pc := 37) dX9_outIn_37 rfl rfl ?_
      have hx13 : vp_in a 20 := (vp_of_inR ha (by decide))
      refine W_iastore (pc := 38) dX9_outIn_38 (c_166 _) hx13 (a_166 _ _) ?_
      have hW14 := cor_sa 166 (upd ((uI (uA σ 165 (upd (σ.2.2.1 165) (Int32.toNatClampNeg a) b)) 14032 1).2.2.1 166) (Int32.toNatClampNeg a) c) hW10 rfl
      refine R_aload_n (pc := 39) dX9_outIn_39 rfl rfl ?_
      refine R_iconst (pc := 40) (v := 1) dX9_outIn_40 (by decide) ?_
      refine p_X9_204 (pc := 41) rfl dX9_outIn_41 (c_140 _) (Nat.le_of_ble_eq_true rfl) rfl rfl (s_140_32 _ _) ?_
      have hW15 := cor_si 14032 1 hW14 rfl
      exact R_vret (pc := 44) dX9_outIn_44 rfl (Nat.zero_le _) (Nat.zero_le _) ⟨rfl, _, rfl, hI, hW15⟩
theorem dX9_isOf_0 : decode cX9_isOf 0 = .ok (.aload_n 0, 1) := by decide +kernel
theorem dX9_isOf_1 : decode cX9_isOf 1 = .ok (.getfield 114, 3) := by decide +kernel
theorem dX9_isOf_4 : decode cX9_isOf 4 = .ok (.iload_n 2, 1) := by decide +kernel
theorem dX9_isOf_5 : decode cX9_isOf 5 = .ok (.iaload, 1) := by decide +kernel
theorem dX9_isOf_6 : decode cX9_isOf 6 = .ok (.aload_n 0, 1) := by decide +kernel
theorem dX9_isOf_7 : decode cX9_isOf 7 = .ok (.getfield 13, 3) := by decide +kernel
theorem dX9_isOf_10 : decode cX9_isOf 10 = .ok (.iload_n 1, 1) := by decide +kernel
theorem dX9_isOf_11 : decode cX9_isOf 11 = .ok (.iaload, 1) := by decide +kernel
theorem dX9_isOf_12 : decode cX9_isOf 12 = .ok (.if_icmp .ne 35, 3) := by decide +kernel
theorem dX9_isOf_15 : decode cX9_isOf 15 = .ok (.aload_n 0, 1) := by decide +kernel
theorem dX9_isOf_16 : decode cX9_isOf 16 = .ok (.getfield 16, 3) := by decide +kernel
theorem dX9_isOf_19 : decode cX9_isOf 19 = .ok (.iload_n 1, 1) := by decide +kernel
theorem dX9_isOf_20 : decode cX9_isOf 20 = .ok (.iaload, 1) := by decide +kernel
theorem dX9_isOf_21 : decode cX9_isOf 21 = .ok (.aload_n 0, 1) := by decide +kernel
theorem dX9_isOf_22 : decode cX9_isOf 22 = .ok (.getfield 114, 3) := by decide +kernel
theorem dX9_isOf_25 : decode cX9_isOf 25 = .ok (.iload_n 2, 1) := by decide +kernel
theorem dX9_isOf_26 : decode cX9_isOf 26 = .ok (.iconst 1, 1) := by decide +kernel
theorem dX9_isOf_27 : decode cX9_isOf 27 = .ok (.iadd, 1) := by decide +kernel
theorem dX9_isOf_28 : decode cX9_isOf 28 = .ok (.iaload, 1) := by decide +kernel
theorem dX9_isOf_29 : decode cX9_isOf 29 = .ok (.aload_n 0, 1) := by decide +kernel
theorem dX9_isOf_30 : decode cX9_isOf 30 = .ok (.getfield 114, 3) := by decide +kernel
theorem dX9_isOf_33 : decode cX9_isOf 33 = .ok (.iload_n 2, 1) := by decide +kernel
theorem dX9_isOf_34 : decode cX9_isOf 34 = .ok (.iconst 2, 1) := by decide +kernel
theorem dX9_isOf_35 : decode cX9_isOf 35 = .ok (.iadd, 1) := by decide +kernel
theorem dX9_isOf_36 : decode cX9_isOf 36 = .ok (.iaload, 1) := by decide +kernel
theorem dX9_isOf_37 : decode cX9_isOf 37 = .ok (.invokestatic 124, 3) := by decide +kernel
theorem dX9_isOf_40 : decode cX9_isOf 40 = .ok (.ifCond .eq 7, 3) := by decide +kernel
theorem dX9_isOf_43 : decode cX9_isOf 43 = .ok (.iconst 1, 1) := by decide +kernel
theorem dX9_isOf_44 : decode cX9_isOf 44 = .ok (.goto 4, 3) := by decide +kernel
theorem dX9_isOf_47 : decode cX9_isOf 47 = .ok (.iconst 0, 1) := by decide +kernel
theorem dX9_isOf_48 : decode cX9_isOf 48 = .ok (.ireturn, 1) := by decide +kernel
set_option maxRecDepth 100000 in
set_option maxHeartbeats 40000000 in
theorem gx_X9_isOf {G : vG} {l : Launch} (σ : Sg) (c k : Int32) (hI : Inv σ) (hc : inR c 0 19) (hk : inR k 0 42) : Sp G l yX9_isOf cX9_isOf 3 (some .boolean) 1 0 0 [.ref 140, .int c, .int k] (WW σ) (QI (fun x w2 => w2 = WW σ)) := by
  refine Sp_of_R [(some (.ref 140)), (some (.int c)), (some (.int k))] [] rfl (by simp) rfl (Nat.le_of_ble_eq_true rfl) ?_
  refine R_aload_n (pc := 0) dX9_isOf_0 rfl rfl ?_
  refine g_X9_114 (pc := 1) (v := .ref 172) rfl dX9_isOf_1 (c_140 _) rfl ?_
  refine R_iload_n (pc := 4) dX9_isOf_4 rfl rfl ?_
  have hx1 : vp_in k 48 := (vp_of_inR hk (by decide))
  refine R_iaload (pc := 5) dX9_isOf_5 (c_172 _) hx1 ?_
  refine R_aload_n (pc := 6) dX9_isOf_6 rfl rfl ?_
  refine g_X9_13 (pc := 7) (v := .ref 142) rfl dX9_isOf_7 (c_140 _) rfl ?_
  refine R_iload_n (pc := 10) dX9_isOf_10 rfl rfl ?_
  have hx2 : vp_in c 20 := (vp_of_inR hc (by decide))
  refine R_iaload (pc := 11) dX9_isOf_11 (c_142 _) hx2 ?_
  refine R_icne (pc := 12) 47 dX9_isOf_12 (by decide) (fun b12_3 => ?_) (fun b12_3 => ?_)
  · skip
    refine R_iconst (pc := 47) (v := 0) dX9_isOf_47 (by decide) ?_
    exact R_iret (pc := 48) dX9_isOf_48 rfl rfl (Nat.zero_le _) (Nat.zero_le _) ⟨_, rfl, rfl⟩
  · skip
    refine R_aload_n (pc := 15) dX9_isOf_15 rfl rfl ?_
    refine g_X9_16 (pc := 16) (v := .ref 143) rfl dX9_isOf_16 (c_140 _) rfl ?_
    refine R_iload_n (pc := 19) dX9_isOf_19 rfl rfl ?_
    have hx4 : vp_in c 20 := (vp_of_inR hc (by decide))
    refine R_iaload (pc := 20) dX9_isOf_20 (c_143 _) hx4 ?_
    refine R_aload_n (pc := 21) dX9_isOf_21 rfl rfl ?_
    refine g_X9_114 (pc := 22) (v := .ref 172) rfl dX9_isOf_22 (c_140 _) rfl ?_
    refine R_iload_n (pc := 25) dX9_isOf_25 rfl rfl ?_
    refine R_iconst (pc := 26) (v := 1) dX9_isOf_26 (by decide) ?_
    refine R_iadd (pc := 27) dX9_isOf_27 ?_
    have r5 : inR (k + 1) 1 43 := inR_add (show inR k 0 42 from hk) (show inR 1 1 1 from (inR_self _)) (by decide) (by decide)
    have e6 := ti_add (l := 1) (h := 43) (show inR k 0 42 from hk) (show inR 1 1 1 from (inR_self _)) (by decide) (by decide)
    have hx7 : vp_in (k + 1) 48 := (vp_ti (by have q0 := e6; have q1 := ti_eq b12_3; have q2 := ti_in hc; have q3 := ti_in hk; have q4 := ti_in r5; have z0 : (0 : Int32).toInt = 0 := (by decide); have z1 : (1 : Int32).toInt = 1 := (by decide); have z2 : (142 : Int32).toInt = 142 := (by decide); have z3 : (172 : Int32).toInt = 172 := (by decide); have z4 : (19 : Int32).toInt = 19 := (by decide); have z5 : (42 : Int32).toInt = 42 := (by decide); have z6 : (43 : Int32).toInt = 43 := (by decide); omega) (by have q0 := e6; have q1 := ti_eq b12_3; have q2 := ti_in hc; have q3 := ti_in hk; have q4 := ti_in r5; have z0 : (0 : Int32).toInt = 0 := (by decide); have z1 : (1 : Int32).toInt = 1 := (by decide); have z2 : (142 : Int32).toInt = 142 := (by decide); have z3 : (172 : Int32).toInt = 172 := (by decide); have z4 : (19 : Int32).toInt = 19 := (by decide); have z5 : (42 : Int32).toInt = 42 := (by decide); have z6 : (43 : Int32).toInt = 43 := (by decide); omega))
    refine R_iaload (pc := 28) dX9_isOf_28 (c_172 _) hx7 ?_
    refine R_aload_n (pc := 29) dX9_isOf_29 rfl rfl ?_
    refine g_X9_114 (pc := 30) (v := .ref 172) rfl dX9_isOf_30 (c_140 _) rfl ?_
    refine R_iload_n (pc := 33) dX9_isOf_33 rfl rfl ?_
    refine R_iconst (pc := 34) (v := 2) dX9_isOf_34 (by decide) ?_
    refine R_iadd (pc := 35) dX9_isOf_35 ?_
    have r8 : inR (k + 2) 2 44 := inR_add (show inR k 0 42 from hk) (show inR 2 2 2 from (inR_self _)) (by decide) (by decide)
    have e9 := ti_add (l := 2) (h := 44) (show inR k 0 42 from hk) (show inR 2 2 2 from (inR_self _)) (by decide) (by decide)
    have hx10 : vp_in (k + 2) 48 := (vp_ti (by have q0 := e6; have q1 := e9; have q2 := ti_eq b12_3; have q3 := ti_in hc; have q4 := ti_in hk; have q5 := ti_in r5; have q6 := ti_in r8; have z0 : (0 : Int32).toInt = 0 := (by decide); have z1 : (1 : Int32).toInt = 1 := (by decide); have z2 : (142 : Int32).toInt = 142 := (by decide); have z3 : (172 : Int32).toInt = 172 := (by decide); have z4 : (19 : Int32).toInt = 19 := (by decide); have z5 : (2 : Int32).toInt = 2 := (by decide); have z6 : (42 : Int32).toInt = 42 := (by decide); have z7 : (43 : Int32).toInt = 43 := (by decide); have z8 : (44 : Int32).toInt = 44 := (by decide); omega) (by have q0 := e6; have q1 := e9; have q2 := ti_eq b12_3; have q3 := ti_in hc; have q4 := ti_in hk; have q5 := ti_in r5; have q6 := ti_in r8; have z0 : (0 : Int32).toInt = 0 := (by decide); have z1 : (1 : Int32).toInt = 1 := (by decide); have z2 : (142 : Int32).toInt = 142 := (by decide); have z3 : (172 : Int32).toInt = 172 := (by decide); have z4 : (19 : Int32).toInt = 19 := (by decide); have z5 : (2 : Int32).toInt = 2 := (by decide); have z6 : (42 : Int32).toInt = 42 := (by decide); have z7 : (43 : Int32).toInt = 43 := (by decide); have z8 : (44 : Int32).toInt = 44 := (by decide); omega))
    refine R_iaload (pc := 36) dX9_isOf_36 (c_172 _) hx10 ?_
    refine k_X9_124 (pc := 37) (sp_X9_in _ _ _ _) rfl (by decide) (Nat.le_refl _) (Nat.le_refl _) (Nat.le_of_ble_eq_true rfl) dX9_isOf_37 (fun x w2 h => ?_)
    rcases h with ⟨rfl, ⟨h11, rfl⟩ | ⟨h11, rfl⟩⟩
    · skip
      refine R_ifeq (pc := 40) 47 dX9_isOf_40 (by decide) (fun h => absurd h (by decide)) (fun _ => ?_)
      refine R_iconst (pc := 43) (v := 1) dX9_isOf_43 (by decide) ?_
      refine R_goto (pc := 44) 48 dX9_isOf_44 (by decide) ?_
      exact R_iret (pc := 48) dX9_isOf_48 rfl rfl (Nat.zero_le _) (Nat.zero_le _) ⟨_, rfl, rfl⟩
    · skip
      refine R_ifeq (pc := 40) 47 dX9_isOf_40 (by decide) (fun _ => ?_) (fun h => absurd (by decide) h)
      refine R_iconst (pc := 47) (v := 0) dX9_isOf_47 (by decide) ?_
      exact R_iret (pc := 48) dX9_isOf_48 rfl rfl (Nat.zero_le _) (Nat.zero_le _) ⟨_, rfl, rfl⟩
theorem dX9_narrow_0 : decode cX9_narrow 0 = .ok (.aload_n 0, 1) := by decide +kernel
theorem dX9_narrow_1 : decode cX9_narrow 1 = .ok (.getfield 54, 3) := by decide +kernel
theorem dX9_narrow_4 : decode cX9_narrow 4 = .ok (.iload_n 1, 1) := by decide +kernel
theorem dX9_narrow_5 : decode cX9_narrow 5 = .ok (.iaload, 1) := by decide +kernel
theorem dX9_narrow_6 : decode cX9_narrow 6 = .ok (.istore_n 3, 1) := by decide +kernel
theorem dX9_narrow_7 : decode cX9_narrow 7 = .ok (.iconst 0, 1) := by decide +kernel
theorem dX9_narrow_8 : decode cX9_narrow 8 = .ok (.istore 4, 2) := by decide +kernel
theorem dX9_narrow_10 : decode cX9_narrow 10 = .ok (.iload 4, 2) := by decide +kernel
theorem dX9_narrow_12 : decode cX9_narrow 12 = .ok (.bipush 8, 2) := by decide +kernel
theorem dX9_narrow_14 : decode cX9_narrow 14 = .ok (.if_icmp .ge 153, 3) := by decide +kernel
theorem dX9_narrow_17 : decode cX9_narrow 17 = .ok (.aload_n 0, 1) := by decide +kernel
theorem dX9_narrow_18 : decode cX9_narrow 18 = .ok (.getfield 72, 3) := by decide +kernel
theorem dX9_narrow_21 : decode cX9_narrow 21 = .ok (.bipush 8, 2) := by decide +kernel
theorem dX9_narrow_23 : decode cX9_narrow 23 = .ok (.iload_n 1, 1) := by decide +kernel
theorem dX9_narrow_24 : decode cX9_narrow 24 = .ok (.imul, 1) := by decide +kernel
theorem dX9_narrow_25 : decode cX9_narrow 25 = .ok (.iload 4, 2) := by decide +kernel
theorem dX9_narrow_27 : decode cX9_narrow 27 = .ok (.iadd, 1) := by decide +kernel
theorem dX9_narrow_28 : decode cX9_narrow 28 = .ok (.iaload, 1) := by decide +kernel
theorem dX9_narrow_29 : decode cX9_narrow 29 = .ok (.iconst 1, 1) := by decide +kernel
theorem dX9_narrow_30 : decode cX9_narrow 30 = .ok (.if_icmp .ne 22, 3) := by decide +kernel
theorem dX9_narrow_33 : decode cX9_narrow 33 = .ok (.aload_n 0, 1) := by decide +kernel
theorem dX9_narrow_34 : decode cX9_narrow 34 = .ok (.iload_n 3, 1) := by decide +kernel
theorem dX9_narrow_35 : decode cX9_narrow 35 = .ok (.aload_n 0, 1) := by decide +kernel
theorem dX9_narrow_36 : decode cX9_narrow 36 = .ok (.getfield 66, 3) := by decide +kernel
theorem dX9_narrow_39 : decode cX9_narrow 39 = .ok (.iload 4, 2) := by decide +kernel
theorem dX9_narrow_41 : decode cX9_narrow 41 = .ok (.iaload, 1) := by decide +kernel
theorem dX9_narrow_42 : decode cX9_narrow 42 = .ok (.aload_n 0, 1) := by decide +kernel
theorem dX9_narrow_43 : decode cX9_narrow 43 = .ok (.getfield 69, 3) := by decide +kernel
theorem dX9_narrow_46 : decode cX9_narrow 46 = .ok (.iload 4, 2) := by decide +kernel
theorem dX9_narrow_48 : decode cX9_narrow 48 = .ok (.iaload, 1) := by decide +kernel
theorem dX9_narrow_49 : decode cX9_narrow 49 = .ok (.invokevirtual 208, 3) := by decide +kernel
theorem dX9_narrow_52 : decode cX9_narrow 52 = .ok (.aload_n 0, 1) := by decide +kernel
theorem dX9_narrow_53 : decode cX9_narrow 53 = .ok (.getfield 72, 3) := by decide +kernel
theorem dX9_narrow_56 : decode cX9_narrow 56 = .ok (.bipush 8, 2) := by decide +kernel
theorem dX9_narrow_58 : decode cX9_narrow 58 = .ok (.iload_n 1, 1) := by decide +kernel
theorem dX9_narrow_59 : decode cX9_narrow 59 = .ok (.imul, 1) := by decide +kernel
theorem dX9_narrow_60 : decode cX9_narrow 60 = .ok (.iload 4, 2) := by decide +kernel
theorem dX9_narrow_62 : decode cX9_narrow 62 = .ok (.iadd, 1) := by decide +kernel
theorem dX9_narrow_63 : decode cX9_narrow 63 = .ok (.iaload, 1) := by decide +kernel
theorem dX9_narrow_64 : decode cX9_narrow 64 = .ok (.ifCond .ne 97, 3) := by decide +kernel
theorem dX9_narrow_67 : decode cX9_narrow 67 = .ok (.aload_n 0, 1) := by decide +kernel
theorem dX9_narrow_68 : decode cX9_narrow 68 = .ok (.iload_n 3, 1) := by decide +kernel
theorem dX9_narrow_69 : decode cX9_narrow 69 = .ok (.aload_n 0, 1) := by decide +kernel
theorem dX9_narrow_70 : decode cX9_narrow 70 = .ok (.getfield 87, 3) := by decide +kernel
theorem dX9_narrow_73 : decode cX9_narrow 73 = .ok (.iload_n 3, 1) := by decide +kernel
theorem dX9_narrow_74 : decode cX9_narrow 74 = .ok (.iaload, 1) := by decide +kernel
theorem dX9_narrow_75 : decode cX9_narrow 75 = .ok (.aload_n 0, 1) := by decide +kernel
theorem dX9_narrow_76 : decode cX9_narrow 76 = .ok (.getfield 66, 3) := by decide +kernel
theorem dX9_narrow_79 : decode cX9_narrow 79 = .ok (.iload 4, 2) := by decide +kernel
theorem dX9_narrow_81 : decode cX9_narrow 81 = .ok (.iaload, 1) := by decide +kernel
theorem dX9_narrow_82 : decode cX9_narrow 82 = .ok (.aload_n 0, 1) := by decide +kernel
theorem dX9_narrow_83 : decode cX9_narrow 83 = .ok (.getfield 69, 3) := by decide +kernel
theorem dX9_narrow_86 : decode cX9_narrow 86 = .ok (.iload 4, 2) := by decide +kernel
theorem dX9_narrow_88 : decode cX9_narrow 88 = .ok (.iaload, 1) := by decide +kernel
theorem dX9_narrow_89 : decode cX9_narrow 89 = .ok (.invokestatic 124, 3) := by decide +kernel
theorem dX9_narrow_92 : decode cX9_narrow 92 = .ok (.ifCond .eq 15, 3) := by decide +kernel
theorem dX9_narrow_95 : decode cX9_narrow 95 = .ok (.aload_n 0, 1) := by decide +kernel
theorem dX9_narrow_96 : decode cX9_narrow 96 = .ok (.getfield 69, 3) := by decide +kernel
theorem dX9_narrow_99 : decode cX9_narrow 99 = .ok (.iload 4, 2) := by decide +kernel
theorem dX9_narrow_101 : decode cX9_narrow 101 = .ok (.iaload, 1) := by decide +kernel
theorem dX9_narrow_102 : decode cX9_narrow 102 = .ok (.iconst 1, 1) := by decide +kernel
theorem dX9_narrow_103 : decode cX9_narrow 103 = .ok (.iadd, 1) := by decide +kernel
theorem dX9_narrow_104 : decode cX9_narrow 104 = .ok (.goto 4, 3) := by decide +kernel
theorem dX9_narrow_107 : decode cX9_narrow 107 = .ok (.iconst 0, 1) := by decide +kernel
theorem dX9_narrow_108 : decode cX9_narrow 108 = .ok (.sipush 20000, 3) := by decide +kernel
theorem dX9_narrow_111 : decode cX9_narrow 111 = .ok (.invokevirtual 208, 3) := by decide +kernel
theorem dX9_narrow_114 : decode cX9_narrow 114 = .ok (.aload_n 0, 1) := by decide +kernel
theorem dX9_narrow_115 : decode cX9_narrow 115 = .ok (.iload_n 3, 1) := by decide +kernel
theorem dX9_narrow_116 : decode cX9_narrow 116 = .ok (.iconst 0, 1) := by decide +kernel
theorem dX9_narrow_117 : decode cX9_narrow 117 = .ok (.aload_n 0, 1) := by decide +kernel
theorem dX9_narrow_118 : decode cX9_narrow 118 = .ok (.getfield 90, 3) := by decide +kernel
theorem dX9_narrow_121 : decode cX9_narrow 121 = .ok (.iload_n 3, 1) := by decide +kernel
theorem dX9_narrow_122 : decode cX9_narrow 122 = .ok (.iaload, 1) := by decide +kernel
theorem dX9_narrow_123 : decode cX9_narrow 123 = .ok (.aload_n 0, 1) := by decide +kernel
theorem dX9_narrow_124 : decode cX9_narrow 124 = .ok (.getfield 66, 3) := by decide +kernel
theorem dX9_narrow_127 : decode cX9_narrow 127 = .ok (.iload 4, 2) := by decide +kernel
theorem dX9_narrow_129 : decode cX9_narrow 129 = .ok (.iaload, 1) := by decide +kernel
theorem dX9_narrow_130 : decode cX9_narrow 130 = .ok (.aload_n 0, 1) := by decide +kernel
theorem dX9_narrow_131 : decode cX9_narrow 131 = .ok (.getfield 69, 3) := by decide +kernel
theorem dX9_narrow_134 : decode cX9_narrow 134 = .ok (.iload 4, 2) := by decide +kernel
theorem dX9_narrow_136 : decode cX9_narrow 136 = .ok (.iaload, 1) := by decide +kernel
theorem dX9_narrow_137 : decode cX9_narrow 137 = .ok (.invokestatic 124, 3) := by decide +kernel
theorem dX9_narrow_140 : decode cX9_narrow 140 = .ok (.ifCond .eq 15, 3) := by decide +kernel
theorem dX9_narrow_143 : decode cX9_narrow 143 = .ok (.aload_n 0, 1) := by decide +kernel
theorem dX9_narrow_144 : decode cX9_narrow 144 = .ok (.getfield 66, 3) := by decide +kernel
theorem dX9_narrow_147 : decode cX9_narrow 147 = .ok (.iload 4, 2) := by decide +kernel
theorem dX9_narrow_149 : decode cX9_narrow 149 = .ok (.iaload, 1) := by decide +kernel
theorem dX9_narrow_150 : decode cX9_narrow 150 = .ok (.iconst 1, 1) := by decide +kernel
theorem dX9_narrow_151 : decode cX9_narrow 151 = .ok (.isub, 1) := by decide +kernel
theorem dX9_narrow_152 : decode cX9_narrow 152 = .ok (.goto 6, 3) := by decide +kernel
theorem dX9_narrow_155 : decode cX9_narrow 155 = .ok (.sipush 20000, 3) := by decide +kernel
theorem dX9_narrow_158 : decode cX9_narrow 158 = .ok (.invokevirtual 208, 3) := by decide +kernel
theorem dX9_narrow_161 : decode cX9_narrow 161 = .ok (.iinc 4 1, 3) := by decide +kernel
theorem dX9_narrow_164 : decode cX9_narrow 164 = .ok (.goto (-154), 3) := by decide +kernel
theorem dX9_narrow_167 : decode cX9_narrow 167 = .ok (.aload_n 0, 1) := by decide +kernel
theorem dX9_narrow_168 : decode cX9_narrow 168 = .ok (.iload_n 1, 1) := by decide +kernel
theorem dX9_narrow_169 : decode cX9_narrow 169 = .ok (.aload_n 0, 1) := by decide +kernel
theorem dX9_narrow_170 : decode cX9_narrow 170 = .ok (.getfield 75, 3) := by decide +kernel
theorem dX9_narrow_173 : decode cX9_narrow 173 = .ok (.aload_n 0, 1) := by decide +kernel
theorem dX9_narrow_174 : decode cX9_narrow 174 = .ok (.getfield 19, 3) := by decide +kernel
theorem dX9_narrow_177 : decode cX9_narrow 177 = .ok (.iload_n 1, 1) := by decide +kernel
theorem dX9_narrow_178 : decode cX9_narrow 178 = .ok (.iaload, 1) := by decide +kernel
theorem dX9_narrow_179 : decode cX9_narrow 179 = .ok (.iaload, 1) := by decide +kernel
theorem dX9_narrow_180 : decode cX9_narrow 180 = .ok (.aload_n 0, 1) := by decide +kernel
theorem dX9_narrow_181 : decode cX9_narrow 181 = .ok (.getfield 78, 3) := by decide +kernel
theorem dX9_narrow_184 : decode cX9_narrow 184 = .ok (.aload_n 0, 1) := by decide +kernel
theorem dX9_narrow_185 : decode cX9_narrow 185 = .ok (.getfield 19, 3) := by decide +kernel
theorem dX9_narrow_188 : decode cX9_narrow 188 = .ok (.iload_n 1, 1) := by decide +kernel
theorem dX9_narrow_189 : decode cX9_narrow 189 = .ok (.iaload, 1) := by decide +kernel
theorem dX9_narrow_190 : decode cX9_narrow 190 = .ok (.iaload, 1) := by decide +kernel
theorem dX9_narrow_191 : decode cX9_narrow 191 = .ok (.invokevirtual 212, 3) := by decide +kernel
theorem dX9_narrow_194 : decode cX9_narrow 194 = .ok (.aload_n 0, 1) := by decide +kernel
theorem dX9_narrow_195 : decode cX9_narrow 195 = .ok (.iload_n 1, 1) := by decide +kernel
theorem dX9_narrow_196 : decode cX9_narrow 196 = .ok (.aload_n 0, 1) := by decide +kernel
theorem dX9_narrow_197 : decode cX9_narrow 197 = .ok (.getfield 87, 3) := by decide +kernel
theorem dX9_narrow_200 : decode cX9_narrow 200 = .ok (.iload_n 3, 1) := by decide +kernel
theorem dX9_narrow_201 : decode cX9_narrow 201 = .ok (.iaload, 1) := by decide +kernel
theorem dX9_narrow_202 : decode cX9_narrow 202 = .ok (.aload_n 0, 1) := by decide +kernel
theorem dX9_narrow_203 : decode cX9_narrow 203 = .ok (.getfield 29, 3) := by decide +kernel
theorem dX9_narrow_206 : decode cX9_narrow 206 = .ok (.iload_n 1, 1) := by decide +kernel
theorem dX9_narrow_207 : decode cX9_narrow 207 = .ok (.iaload, 1) := by decide +kernel
theorem dX9_narrow_208 : decode cX9_narrow 208 = .ok (.iconst (-1), 1) := by decide +kernel
theorem dX9_narrow_209 : decode cX9_narrow 209 = .ok (.if_icmp .ne 9, 3) := by decide +kernel
theorem dX9_narrow_212 : decode cX9_narrow 212 = .ok (.sipush 20000, 3) := by decide +kernel
theorem dX9_narrow_215 : decode cX9_narrow 215 = .ok (.goto 9, 3) := by decide +kernel
theorem dX9_narrow_218 : decode cX9_narrow 218 = .ok (.aload_n 0, 1) := by decide +kernel
theorem dX9_narrow_219 : decode cX9_narrow 219 = .ok (.getfield 29, 3) := by decide +kernel
theorem dX9_narrow_222 : decode cX9_narrow 222 = .ok (.iload_n 1, 1) := by decide +kernel
theorem dX9_narrow_223 : decode cX9_narrow 223 = .ok (.iaload, 1) := by decide +kernel
theorem dX9_narrow_224 : decode cX9_narrow 224 = .ok (.invokevirtual 212, 3) := by decide +kernel
theorem dX9_narrow_227 : decode cX9_narrow 227 = .ok (.aload_n 0, 1) := by decide +kernel
theorem dX9_narrow_228 : decode cX9_narrow 228 = .ok (.iload_n 3, 1) := by decide +kernel
theorem dX9_narrow_229 : decode cX9_narrow 229 = .ok (.iconst 0, 1) := by decide +kernel
theorem dX9_narrow_230 : decode cX9_narrow 230 = .ok (.aload_n 0, 1) := by decide +kernel
theorem dX9_narrow_231 : decode cX9_narrow 231 = .ok (.getfield 96, 3) := by decide +kernel
theorem dX9_narrow_234 : decode cX9_narrow 234 = .ok (.iload_n 1, 1) := by decide +kernel
theorem dX9_narrow_235 : decode cX9_narrow 235 = .ok (.iaload, 1) := by decide +kernel
theorem dX9_narrow_236 : decode cX9_narrow 236 = .ok (.invokevirtual 208, 3) := by decide +kernel
theorem dX9_narrow_239 : decode cX9_narrow 239 = .ok (.iconst 0, 1) := by decide +kernel
theorem dX9_narrow_240 : decode cX9_narrow 240 = .ok (.istore 4, 2) := by decide +kernel
theorem dX9_narrow_242 : decode cX9_narrow 242 = .ok (.iload 4, 2) := by decide +kernel
theorem dX9_narrow_244 : decode cX9_narrow 244 = .ok (.aload_n 0, 1) := by decide +kernel
theorem dX9_narrow_245 : decode cX9_narrow 245 = .ok (.getfield 215, 3) := by decide +kernel
theorem dX9_narrow_248 : decode cX9_narrow 248 = .ok (.if_icmp .ge 71, 3) := by decide +kernel
theorem dX9_narrow_251 : decode cX9_narrow 251 = .ok (.iload_n 2, 1) := by decide +kernel
theorem dX9_narrow_252 : decode cX9_narrow 252 = .ok (.ifCond .eq 67, 3) := by decide +kernel
theorem dX9_narrow_255 : decode cX9_narrow 255 = .ok (.aload_n 0, 1) := by decide +kernel
theorem dX9_narrow_256 : decode cX9_narrow 256 = .ok (.getfield 114, 3) := by decide +kernel
theorem dX9_narrow_259 : decode cX9_narrow 259 = .ok (.bipush 6, 2) := by decide +kernel
theorem dX9_narrow_261 : decode cX9_narrow 261 = .ok (.iload 4, 2) := by decide +kernel
theorem dX9_narrow_263 : decode cX9_narrow 263 = .ok (.imul, 1) := by decide +kernel
theorem dX9_narrow_264 : decode cX9_narrow 264 = .ok (.iconst 3, 1) := by decide +kernel
theorem dX9_narrow_265 : decode cX9_narrow 265 = .ok (.iadd, 1) := by decide +kernel
theorem dX9_narrow_266 : decode cX9_narrow 266 = .ok (.iaload, 1) := by decide +kernel
theorem dX9_narrow_267 : decode cX9_narrow 267 = .ok (.iconst 1, 1) := by decide +kernel
theorem dX9_narrow_268 : decode cX9_narrow 268 = .ok (.if_icmp .ne 45, 3) := by decide +kernel
theorem dX9_narrow_271 : decode cX9_narrow 271 = .ok (.aload_n 0, 1) := by decide +kernel
theorem dX9_narrow_272 : decode cX9_narrow 272 = .ok (.iload_n 1, 1) := by decide +kernel
theorem dX9_narrow_273 : decode cX9_narrow 273 = .ok (.bipush 6, 2) := by decide +kernel
theorem dX9_narrow_275 : decode cX9_narrow 275 = .ok (.iload 4, 2) := by decide +kernel
theorem dX9_narrow_277 : decode cX9_narrow 277 = .ok (.imul, 1) := by decide +kernel
theorem dX9_narrow_278 : decode cX9_narrow 278 = .ok (.invokevirtual 218, 3) := by decide +kernel
theorem dX9_narrow_281 : decode cX9_narrow 281 = .ok (.ifCond .eq 32, 3) := by decide +kernel
theorem dX9_narrow_284 : decode cX9_narrow 284 = .ok (.aload_n 0, 1) := by decide +kernel
theorem dX9_narrow_285 : decode cX9_narrow 285 = .ok (.iload_n 1, 1) := by decide +kernel
theorem dX9_narrow_286 : decode cX9_narrow 286 = .ok (.aload_n 0, 1) := by decide +kernel
theorem dX9_narrow_287 : decode cX9_narrow 287 = .ok (.getfield 114, 3) := by decide +kernel
theorem dX9_narrow_290 : decode cX9_narrow 290 = .ok (.bipush 6, 2) := by decide +kernel
theorem dX9_narrow_292 : decode cX9_narrow 292 = .ok (.iload 4, 2) := by decide +kernel
theorem dX9_narrow_294 : decode cX9_narrow 294 = .ok (.imul, 1) := by decide +kernel
theorem dX9_narrow_295 : decode cX9_narrow 295 = .ok (.iconst 4, 1) := by decide +kernel
theorem dX9_narrow_296 : decode cX9_narrow 296 = .ok (.iadd, 1) := by decide +kernel
theorem dX9_narrow_297 : decode cX9_narrow 297 = .ok (.iaload, 1) := by decide +kernel
theorem dX9_narrow_298 : decode cX9_narrow 298 = .ok (.aload_n 0, 1) := by decide +kernel
theorem dX9_narrow_299 : decode cX9_narrow 299 = .ok (.getfield 114, 3) := by decide +kernel
theorem dX9_narrow_302 : decode cX9_narrow 302 = .ok (.bipush 6, 2) := by decide +kernel
theorem dX9_narrow_304 : decode cX9_narrow 304 = .ok (.iload 4, 2) := by decide +kernel
theorem dX9_narrow_306 : decode cX9_narrow 306 = .ok (.imul, 1) := by decide +kernel
theorem dX9_narrow_307 : decode cX9_narrow 307 = .ok (.iconst 5, 1) := by decide +kernel
theorem dX9_narrow_308 : decode cX9_narrow 308 = .ok (.iadd, 1) := by decide +kernel
theorem dX9_narrow_309 : decode cX9_narrow 309 = .ok (.iaload, 1) := by decide +kernel
theorem dX9_narrow_310 : decode cX9_narrow 310 = .ok (.invokevirtual 212, 3) := by decide +kernel
theorem dX9_narrow_313 : decode cX9_narrow 313 = .ok (.iinc 4 1, 3) := by decide +kernel
theorem dX9_narrow_316 : decode cX9_narrow 316 = .ok (.goto (-74), 3) := by decide +kernel
theorem dX9_narrow_319 : decode cX9_narrow 319 = .ok (.return_, 1) := by decide +kernel
set_option maxRecDepth 100000 in
set_option maxHeartbeats 40000000 in
theorem gx_X9_narrow {G : vG} {l : Launch} (σ : Sg) (c b : Int32) (hI : Inv σ) (hc : inR c 0 19) : Sp G l yX9_narrow cX9_narrow 5 none 2 0 0 [.ref 140, .int c, .int b] (WW σ) (QV (fun w2 => ∃ σ2, w2 = WW σ2 ∧ Inv σ2 ∧ Cor σ σ2)) := by
  refine Sp_of_R [(some (.ref 140)), (some (.int c)), (some (.int b)), none, none] [none, none] rfl (by simp) rfl (Nat.le_of_ble_eq_true rfl) ?_
  refine R_aload_n (pc := 0) dX9_narrow_0 rfl rfl ?_
  refine g_X9_54 (pc := 1) (v := .ref 152) rfl dX9_narrow_1 (c_140 _) rfl ?_
  refine R_iload_n (pc := 4) dX9_narrow_4 rfl rfl ?_
  have hx1 : vp_in c 20 := (vp_of_inR hc (by decide))
  refine R_iaload (pc := 5) dX9_narrow_5 (c_152 _) hx1 ?_
  refine st_5_3_i_i (pc := 6) dX9_narrow_6 ?_
  refine R_iconst (pc := 7) (v := 0) dX9_narrow_7 (by decide) ?_
  refine st_5_4_i_i (pc := 8) dX9_narrow_8 ?_
  have HL10 : ∀ (q j10 : Nat) (σ10 : Sg), j10 + q = 8 → 0 ≤ j10 → Inv σ10 → Cor σ σ10 → R G l yX9_narrow cX9_narrow 5 none 2 0 0 (QV (fun w2 => ∃ σ2, w2 = WW σ2 ∧ Inv σ2 ∧ Cor σ σ2)) 10 [(some (.ref 140)), (some (.int c)), (some (.int b)), (some (.int (σ.2.2.1 152 (Int32.toNatClampNeg c)))), (some (.int (nI j10)))] [] (WW σ10) 0 0 := by
    intro q
    induction q with
    | zero =>
      intro j10 σ10 hj hs10 hI10 hC10
      obtain rfl : j10 = 8 := by omega
      refine R_iload (pc := 10) dX9_narrow_10 rfl ?_
      refine R_bipush (pc := 12) (v := 8) dX9_narrow_12 (by decide) ?_
      refine R_icge (pc := 14) 167 dX9_narrow_14 (by decide) (fun _ => ?_) (fun h => absurd (by decide) h)
      refine R_aload_n (pc := 167) dX9_narrow_167 rfl rfl ?_
      refine R_iload_n (pc := 168) dX9_narrow_168 rfl rfl ?_
      refine R_aload_n (pc := 169) dX9_narrow_169 rfl rfl ?_
      refine g_X9_75 (pc := 170) (v := .ref 159) rfl dX9_narrow_170 (c_140 _) rfl ?_
      refine R_aload_n (pc := 173) dX9_narrow_173 rfl rfl ?_
      refine g_X9_19 (pc := 174) (v := .ref 144) rfl dX9_narrow_174 (c_140 _) rfl ?_
      refine R_iload_n (pc := 177) dX9_narrow_177 rfl rfl ?_
      have hx3 : vp_in c 20 := (vp_of_inR hc (by decide))
      refine R_iaload (pc := 178) dX9_narrow_178 (c_144 _) hx3 ?_
      have hx4 : vp_in (σ10.2.2.1 144 (Int32.toNatClampNeg c)) 5 := (vp_of_inR (iva_144 hI10 _ (lt_of_vp hx3)) (by decide))
      refine R_iaload (pc := 179) dX9_narrow_179 (c_159 _) hx4 ?_
      refine R_aload_n (pc := 180) dX9_narrow_180 rfl rfl ?_
      refine g_X9_78 (pc := 181) (v := .ref 160) rfl dX9_narrow_181 (c_140 _) rfl ?_
      refine R_aload_n (pc := 184) dX9_narrow_184 rfl rfl ?_
      refine g_X9_19 (pc := 185) (v := .ref 144) rfl dX9_narrow_185 (c_140 _) rfl ?_
      refine R_iload_n (pc := 188) dX9_narrow_188 rfl rfl ?_
      have hx5 : vp_in c 20 := (vp_of_inR hc (by decide))
      refine R_iaload (pc := 189) dX9_narrow_189 (c_144 _) hx5 ?_
      have hx6 : vp_in (σ10.2.2.1 144 (Int32.toNatClampNeg c)) 5 := (vp_of_inR (iva_144 hI10 _ (lt_of_vp hx3)) (by decide))
      refine R_iaload (pc := 190) dX9_narrow_190 (c_160 _) hx6 ?_
      refine k_X9_212 (pc := 191) (gx_X9_outIn _ _ _ _ hI10 hc) rfl (c_140 _) (by decide) (Nat.le_refl _) (Nat.le_refl _) (Nat.le_of_ble_eq_true rfl) dX9_narrow_191 (fun w2 h => ?_)
      obtain ⟨σx9, rfl, hV8, hW10⟩ := h
      have hW11 := Cor.trans hC10 hW10
      refine R_aload_n (pc := 194) dX9_narrow_194 rfl rfl ?_
      refine R_iload_n (pc := 195) dX9_narrow_195 rfl rfl ?_
      refine R_aload_n (pc := 196) dX9_narrow_196 rfl rfl ?_
      refine g_X9_87 (pc := 197) (v := .ref 163) rfl dX9_narrow_197 (c_140 _) rfl ?_
      refine R_iload_n (pc := 200) dX9_narrow_200 rfl rfl ?_
      have hx12 : vp_in (σ.2.2.1 152 (Int32.toNatClampNeg c)) 20 := (vp_of_inR (iva_152 hI _ (lt_of_vp hx1)) (by decide))
      refine R_iaload (pc := 201) dX9_narrow_201 (c_163 _) hx12 ?_
      refine R_aload_n (pc := 202) dX9_narrow_202 rfl rfl ?_
      refine g_X9_29 (pc := 203) (v := .ref 147) rfl dX9_narrow_203 (c_140 _) rfl ?_
      refine R_iload_n (pc := 206) dX9_narrow_206 rfl rfl ?_
      have hx13 : vp_in c 20 := (vp_of_inR hc (by decide))
      refine R_iaload (pc := 207) dX9_narrow_207 (c_147 _) hx13 ?_
      refine R_iconst (pc := 208) (v := (-1)) dX9_narrow_208 (by decide) ?_
      refine R_icne (pc := 209) 218 dX9_narrow_209 (by decide) (fun b209_14 => ?_) (fun b209_14 => ?_)
      · skip
        refine R_aload_n (pc := 218) dX9_narrow_218 rfl rfl ?_
        refine g_X9_29 (pc := 219) (v := .ref 147) rfl dX9_narrow_219 (c_140 _) rfl ?_
        refine R_iload_n (pc := 222) dX9_narrow_222 rfl rfl ?_
        have hx15 : vp_in c 20 := (vp_of_inR hc (by decide))
        refine R_iaload (pc := 223) dX9_narrow_223 (c_147 _) hx15 ?_
        refine k_X9_212 (pc := 224) (gx_X9_outIn _ _ _ _ hV8 hc) rfl (c_140 _) (by decide) (Nat.le_refl _) (Nat.le_refl _) (Nat.le_of_ble_eq_true rfl) dX9_narrow_224 (fun w2 h => ?_)
        obtain ⟨σx18, rfl, hV17, hW19⟩ := h
        have hW20 := Cor.trans hW11 hW19
        refine R_aload_n (pc := 227) dX9_narrow_227 rfl rfl ?_
        refine R_iload_n (pc := 228) dX9_narrow_228 rfl rfl ?_
        refine R_iconst (pc := 229) (v := 0) dX9_narrow_229 (by decide) ?_
        refine R_aload_n (pc := 230) dX9_narrow_230 rfl rfl ?_
        refine g_X9_96 (pc := 231) (v := .ref 166) rfl dX9_narrow_231 (c_140 _) rfl ?_
        refine R_iload_n (pc := 234) dX9_narrow_234 rfl rfl ?_
        have hx21 : vp_in c 20 := (vp_of_inR hc (by decide))
        refine R_iaload (pc := 235) dX9_narrow_235 (c_166 _) hx21 ?_
        refine k_X9_208 (pc := 236) (gx_X9_takenIn _ _ _ _ hV17 (iva_152 hI _ (lt_of_vp hx1))) rfl (c_140 _) (by decide) (Nat.le_refl _) (Nat.le_refl _) (Nat.le_of_ble_eq_true rfl) dX9_narrow_236 (fun w2 h => ?_)
        obtain ⟨σx24, rfl, hV23, hW25⟩ := h
        have hW26 := Cor.trans hW20 hW25
        refine R_iconst (pc := 239) (v := 0) dX9_narrow_239 (by decide) ?_
        refine st_5_4_i_i (pc := 240) dX9_narrow_240 ?_
        have HL242 : ∀ (q j242 : Nat) (σ242 : Sg), j242 + q = 8 → 0 ≤ j242 → Inv σ242 → Cor σ σ242 → R G l yX9_narrow cX9_narrow 5 none 2 0 0 (QV (fun w2 => ∃ σ2, w2 = WW σ2 ∧ Inv σ2 ∧ Cor σ σ2)) 242 [(some (.ref 140)), (some (.int c)), (some (.int b)), (some (.int (σ.2.2.1 152 (Int32.toNatClampNeg c)))), (some (.int (nI j242)))] [] (WW σ242) 0 0 := by
          intro q
          induction q with
          | zero =>
            intro j242 σ242 hj hs242 hI242 hC242
            obtain rfl : j242 = 8 := by omega
            refine R_iload (pc := 242) dX9_narrow_242 rfl ?_
            refine R_aload_n (pc := 244) dX9_narrow_244 rfl rfl ?_
            refine g_X9_215 (pc := 245) (v := .int (σ242.1 14047)) rfl dX9_narrow_245 (c_140 _) rfl ?_
            refine R_icge (pc := 248) 319 dX9_narrow_248 (by decide) (fun _ => ?_) (fun h => absurd (Int32.not_lt.mp (inR_up (iv_14047 hI242) (Int32.le_refl _) (by decide)).2) h)
            exact R_vret (pc := 319) dX9_narrow_319 rfl (Nat.zero_le _) (Nat.zero_le _) ⟨rfl, _, rfl, hI242, hC242⟩
          | succ q ih242 =>
            intro j242 σ242 hj hs242 hI242 hC242
            have hrg242 : inR (nI j242) 0 7 := inR_ix hs242 (show j242 < 8 by omega) (by decide) (by decide) (by decide)
            have hlt242 : j242 < 8 := by omega
            refine R_iload (pc := 242) dX9_narrow_242 rfl ?_
            refine R_aload_n (pc := 244) dX9_narrow_244 rfl rfl ?_
            refine g_X9_215 (pc := 245) (v := .int (σ242.1 14047)) rfl dX9_narrow_245 (c_140 _) rfl ?_
            refine R_icge (pc := 248) 319 dX9_narrow_248 (by decide) (fun b248_28 => ?_) (fun b248_28 => ?_)
            · skip
              exact R_vret (pc := 319) dX9_narrow_319 rfl (Nat.zero_le _) (Nat.zero_le _) ⟨rfl, _, rfl, hI242, hC242⟩
            · skip
              refine R_iload_n (pc := 251) dX9_narrow_251 rfl rfl ?_
              refine R_ifeq (pc := 252) 319 dX9_narrow_252 (by decide) (fun b252_29 => ?_) (fun b252_29 => ?_)
              · skip
                exact R_vret (pc := 319) dX9_narrow_319 rfl (Nat.zero_le _) (Nat.zero_le _) ⟨rfl, _, rfl, hI242, hC242⟩
              · skip
                refine R_aload_n (pc := 255) dX9_narrow_255 rfl rfl ?_
                refine g_X9_114 (pc := 256) (v := .ref 172) rfl dX9_narrow_256 (c_140 _) rfl ?_
                refine R_bipush (pc := 259) (v := 6) dX9_narrow_259 (by decide) ?_
                refine R_iload (pc := 261) dX9_narrow_261 rfl ?_
                refine R_imul (pc := 263) dX9_narrow_263 ?_
                have r30 : inR (6 * (nI j242)) 0 42 := inR_mulc (c := 6) (l := 0) (h := 42) 6 (by decide) (show inR (nI j242) 0 7 from hrg242) (by decide) (by decide)
                have e31 := ti_mulc (c := 6) (l := 0) (h := 42) 6 (by decide) (show inR (nI j242) 0 7 from hrg242) (by decide) (by decide)
                refine R_iconst (pc := 264) (v := 3) dX9_narrow_264 (by decide) ?_
                refine R_iadd (pc := 265) dX9_narrow_265 ?_
                have r32 : inR ((6 * (nI j242)) + 3) 3 45 := inR_add (show inR (6 * (nI j242)) 0 42 from r30) (show inR 3 3 3 from (inR_self _)) (by decide) (by decide)
                have e33 := ti_add (l := 3) (h := 45) (show inR (6 * (nI j242)) 0 42 from r30) (show inR 3 3 3 from (inR_self _)) (by decide) (by decide)
                have hx34 : vp_in ((6 * (nI j242)) + 3) 48 := (vp_ti (by have q0 := e31; have q1 := e33; have q2 := ti_ne b209_14; have q3 := ti_nle b248_28; have q4 := ti_ne b252_29; have q5 := ti_in hc; have q6 := ti_in (iva_152 hI _ (lt_of_vp hx1)); have q7 := ti_in (iva_144 hI10 _ (lt_of_vp hx3)); have q8 := ti_in hrg242; have q9 := ti_in (iv_14047 hI242); have q10 := ti_in r30; have q11 := ti_in r32; have z0 : (-1 : Int32).toInt = -1 := (by decide); have z1 : (0 : Int32).toInt = 0 := (by decide); have z2 : (1 : Int32).toInt = 1 := (by decide); have z3 : (14047 : Int32).toInt = 14047 := (by decide); have z4 : (147 : Int32).toInt = 147 := (by decide); have z5 : (19 : Int32).toInt = 19 := (by decide); have z6 : (3 : Int32).toInt = 3 := (by decide); have z7 : (4 : Int32).toInt = 4 := (by decide); have z8 : (42 : Int32).toInt = 42 := (by decide); have z9 : (45 : Int32).toInt = 45 := (by decide); have z10 : (7 : Int32).toInt = 7 := (by decide); have z11 : (8 : Int32).toInt = 8 := (by decide); omega) (by have q0 := e31; have q1 := e33; have q2 := ti_ne b209_14; have q3 := ti_nle b248_28; have q4 := ti_ne b252_29; have q5 := ti_in hc; have q6 := ti_in (iva_152 hI _ (lt_of_vp hx1)); have q7 := ti_in (iva_144 hI10 _ (lt_of_vp hx3)); have q8 := ti_in hrg242; have q9 := ti_in (iv_14047 hI242); have q10 := ti_in r30; have q11 := ti_in r32; have z0 : (-1 : Int32).toInt = -1 := (by decide); have z1 : (0 : Int32).toInt = 0 := (by decide); have z2 : (1 : Int32).toInt = 1 := (by decide); have z3 : (14047 : Int32).toInt = 14047 := (by decide); have z4 : (147 : Int32).toInt = 147 := (by decide); have z5 : (19 : Int32).toInt = 19 := (by decide); have z6 : (3 : Int32).toInt = 3 := (by decide); have z7 : (4 : Int32).toInt = 4 := (by decide); have z8 : (42 : Int32).toInt = 42 := (by decide); have z9 : (45 : Int32).toInt = 45 := (by decide); have z10 : (7 : Int32).toInt = 7 := (by decide); have z11 : (8 : Int32).toInt = 8 := (by decide); omega))
                refine R_iaload (pc := 266) dX9_narrow_266 (c_172 _) hx34 ?_
                refine R_iconst (pc := 267) (v := 1) dX9_narrow_267 (by decide) ?_
                refine R_icne (pc := 268) 313 dX9_narrow_268 (by decide) (fun b268_35 => ?_) (fun b268_35 => ?_)
                · skip
                  refine inc_5_4_1_i (pc := 313) dX9_narrow_313 ?_
                  have r36 : inR ((nI j242) + 1) 1 8 := inR_add (show inR (nI j242) 0 7 from hrg242) (show inR 1 1 1 from (inR_self _)) (by decide) (by decide)
                  have e37 := ti_add (l := 1) (h := 8) (show inR (nI j242) 0 7 from hrg242) (show inR 1 1 1 from (inR_self _)) (by decide) (by decide)
                  refine R_goto (pc := 316) 242 dX9_narrow_316 (by decide) ?_
                  rw [nI_1]
                  exact ih242 (j242 + 1) _ (by omega) (by omega) hI242 hC242
                · skip
                  refine R_aload_n (pc := 271) dX9_narrow_271 rfl rfl ?_
                  refine R_iload_n (pc := 272) dX9_narrow_272 rfl rfl ?_
                  refine R_bipush (pc := 273) (v := 6) dX9_narrow_273 (by decide) ?_
                  refine R_iload (pc := 275) dX9_narrow_275 rfl ?_
                  refine R_imul (pc := 277) dX9_narrow_277 ?_
                  have r38 : inR (6 * (nI j242)) 0 42 := inR_mulc (c := 6) (l := 0) (h := 42) 6 (by decide) (show inR (nI j242) 0 7 from hrg242) (by decide) (by decide)
                  have e39 := ti_mulc (c := 6) (l := 0) (h := 42) 6 (by decide) (show inR (nI j242) 0 7 from hrg242) (by decide) (by decide)
                  refine k_X9_218 (pc := 278) (gx_X9_isOf _ _ _ hI242 hc r38) rfl (c_140 _) (by decide) (Nat.le_refl _) (Nat.le_refl _) (Nat.le_of_ble_eq_true rfl) dX9_narrow_278 (fun y40 w2 h => ?_)
                  subst h
                  refine R_ifeq (pc := 281) 313 dX9_narrow_281 (by decide) (fun b281_41 => ?_) (fun b281_41 => ?_)
                  · skip
                    refine inc_5_4_1_i (pc := 313) dX9_narrow_313 ?_
                    have r42 : inR ((nI j242) + 1) 1 8 := inR_add (show inR (nI j242) 0 7 from hrg242) (show inR 1 1 1 from (inR_self _)) (by decide) (by decide)
                    have e43 := ti_add (l := 1) (h := 8) (show inR (nI j242) 0 7 from hrg242) (show inR 1 1 1 from (inR_self _)) (by decide) (by decide)
                    refine R_goto (pc := 316) 242 dX9_narrow_316 (by decide) ?_
                    rw [nI_1]
                    exact ih242 (j242 + 1) _ (by omega) (by omega) hI242 hC242
                  · skip
                    refine R_aload_n (pc := 284) dX9_narrow_284 rfl rfl ?_
                    refine R_iload_n (pc := 285) dX9_narrow_285 rfl rfl ?_
                    refine R_aload_n (pc := 286) dX9_narrow_286 rfl rfl ?_
                    refine g_X9_114 (pc := 287) (v := .ref 172) rfl dX9_narrow_287 (c_140 _) rfl ?_
                    refine R_bipush (pc := 290) (v := 6) dX9_narrow_290 (by decide) ?_
                    refine R_iload (pc := 292) dX9_narrow_292 rfl ?_
                    refine R_imul (pc := 294) dX9_narrow_294 ?_
                    have r44 : inR (6 * (nI j242)) 0 42 := inR_mulc (c := 6) (l := 0) (h := 42) 6 (by decide) (show inR (nI j242) 0 7 from hrg242) (by decide) (by decide)
                    have e45 := ti_mulc (c := 6) (l := 0) (h := 42) 6 (by decide) (show inR (nI j242) 0 7 from hrg242) (by decide) (by decide)
                    refine R_iconst (pc := 295) (v := 4) dX9_narrow_295 (by decide) ?_
                    refine R_iadd (pc := 296) dX9_narrow_296 ?_
                    have r46 : inR ((6 * (nI j242)) + 4) 4 46 := inR_add (show inR (6 * (nI j242)) 0 42 from r44) (show inR 4 4 4 from (inR_self _)) (by decide) (by decide)
                    have e47 := ti_add (l := 4) (h := 46) (show inR (6 * (nI j242)) 0 42 from r44) (show inR 4 4 4 from (inR_self _)) (by decide) (by decide)
                    have hx48 : vp_in ((6 * (nI j242)) + 4) 48 := (vp_ti (by have q0 := e31; have q1 := e33; have q2 := e39; have q3 := e45; have q4 := e47; have q5 := ti_ne b209_14; have q6 := ti_nle b248_28; have q7 := ti_ne b252_29; have q8 := ti_eq b268_35; have q9 := ti_ne b281_41; have q10 := ti_in hc; have q11 := ti_in (iva_152 hI _ (lt_of_vp hx1)); have q12 := ti_in (iva_144 hI10 _ (lt_of_vp hx3)); have q13 := ti_in hrg242; have q14 := ti_in (iv_14047 hI242); have q15 := ti_in r44; have q16 := ti_in r32; have q17 := ti_in r46; have z0 : (-1 : Int32).toInt = -1 := (by decide); have z1 : (0 : Int32).toInt = 0 := (by decide); have z2 : (1 : Int32).toInt = 1 := (by decide); have z3 : (14047 : Int32).toInt = 14047 := (by decide); have z4 : (147 : Int32).toInt = 147 := (by decide); have z5 : (172 : Int32).toInt = 172 := (by decide); have z6 : (19 : Int32).toInt = 19 := (by decide); have z7 : (3 : Int32).toInt = 3 := (by decide); have z8 : (4 : Int32).toInt = 4 := (by decide); have z9 : (42 : Int32).toInt = 42 := (by decide); have z10 : (45 : Int32).toInt = 45 := (by decide); have z11 : (46 : Int32).toInt = 46 := (by decide); have z12 : (6 : Int32).toInt = 6 := (by decide); have z13 : (7 : Int32).toInt = 7 := (by decide); have z14 : (8 : Int32).toInt = 8 := (by decide); omega) (by have q0 := e31; have q1 := e33; have q2 := e39; have q3 := e45; have q4 := e47; have q5 := ti_ne b209_14; have q6 := ti_nle b248_28; have q7 := ti_ne b252_29; have q8 := ti_eq b268_35; have q9 := ti_ne b281_41; have q10 := ti_in hc; have q11 := ti_in (iva_152 hI _ (lt_of_vp hx1)); have q12 := ti_in (iva_144 hI10 _ (lt_of_vp hx3)); have q13 := ti_in hrg242; have q14 := ti_in (iv_14047 hI242); have q15 := ti_in r44; have q16 := ti_in r32; have q17 := ti_in r46; have z0 : (-1 : Int32).toInt = -1 := (by decide); have z1 : (0 : Int32).toInt = 0 := (by decide); have z2 : (1 : Int32).toInt = 1 := (by decide); have z3 : (14047 : Int32).toInt = 14047 := (by decide); have z4 : (147 : Int32).toInt = 147 := (by decide); have z5 : (172 : Int32).toInt = 172 := (by decide); have z6 : (19 : Int32).toInt = 19 := (by decide); have z7 : (3 : Int32).toInt = 3 := (by decide); have z8 : (4 : Int32).toInt = 4 := (by decide); have z9 : (42 : Int32).toInt = 42 := (by decide); have z10 : (45 : Int32).toInt = 45 := (by decide); have z11 : (46 : Int32).toInt = 46 := (by decide); have z12 : (6 : Int32).toInt = 6 := (by decide); have z13 : (7 : Int32).toInt = 7 := (by decide); have z14 : (8 : Int32).toInt = 8 := (by decide); omega))
                    refine R_iaload (pc := 297) dX9_narrow_297 (c_172 _) hx48 ?_
                    refine R_aload_n (pc := 298) dX9_narrow_298 rfl rfl ?_
                    refine g_X9_114 (pc := 299) (v := .ref 172) rfl dX9_narrow_299 (c_140 _) rfl ?_
                    refine R_bipush (pc := 302) (v := 6) dX9_narrow_302 (by decide) ?_
                    refine R_iload (pc := 304) dX9_narrow_304 rfl ?_
                    refine R_imul (pc := 306) dX9_narrow_306 ?_
                    have r49 : inR (6 * (nI j242)) 0 42 := inR_mulc (c := 6) (l := 0) (h := 42) 6 (by decide) (show inR (nI j242) 0 7 from hrg242) (by decide) (by decide)
                    have e50 := ti_mulc (c := 6) (l := 0) (h := 42) 6 (by decide) (show inR (nI j242) 0 7 from hrg242) (by decide) (by decide)
                    refine R_iconst (pc := 307) (v := 5) dX9_narrow_307 (by decide) ?_
                    refine R_iadd (pc := 308) dX9_narrow_308 ?_
                    have r51 : inR ((6 * (nI j242)) + 5) 5 47 := inR_add (show inR (6 * (nI j242)) 0 42 from r49) (show inR 5 5 5 from (inR_self _)) (by decide) (by decide)
                    have e52 := ti_add (l := 5) (h := 47) (show inR (6 * (nI j242)) 0 42 from r49) (show inR 5 5 5 from (inR_self _)) (by decide) (by decide)
                    have hx53 : vp_in ((6 * (nI j242)) + 5) 48 := (vp_ti (by have q0 := e31; have q1 := e33; have q2 := e39; have q3 := e45; have q4 := e47; have q5 := e50; have q6 := e52; have q7 := ti_ne b209_14; have q8 := ti_nle b248_28; have q9 := ti_ne b252_29; have q10 := ti_eq b268_35; have q11 := ti_ne b281_41; have q12 := ti_in hc; have q13 := ti_in (iva_152 hI _ (lt_of_vp hx1)); have q14 := ti_in (iva_144 hI10 _ (lt_of_vp hx3)); have q15 := ti_in hrg242; have q16 := ti_in (iv_14047 hI242); have q17 := ti_in r49; have q18 := ti_in r32; have q19 := ti_in r46; have q20 := ti_in r51; have z0 : (-1 : Int32).toInt = -1 := (by decide); have z1 : (0 : Int32).toInt = 0 := (by decide); have z2 : (1 : Int32).toInt = 1 := (by decide); have z3 : (14047 : Int32).toInt = 14047 := (by decide); have z4 : (147 : Int32).toInt = 147 := (by decide); have z5 : (172 : Int32).toInt = 172 := (by decide); have z6 : (19 : Int32).toInt = 19 := (by decide); have z7 : (3 : Int32).toInt = 3 := (by decide); have z8 : (4 : Int32).toInt = 4 := (by decide); have z9 : (42 : Int32).toInt = 42 := (by decide); have z10 : (45 : Int32).toInt = 45 := (by decide); have z11 : (46 : Int32).toInt = 46 := (by decide); have z12 : (47 : Int32).toInt = 47 := (by decide); have z13 : (5 : Int32).toInt = 5 := (by decide); have z14 : (6 : Int32).toInt = 6 := (by decide); have z15 : (7 : Int32).toInt = 7 := (by decide); have z16 : (8 : Int32).toInt = 8 := (by decide); omega) (by have q0 := e31; have q1 := e33; have q2 := e39; have q3 := e45; have q4 := e47; have q5 := e50; have q6 := e52; have q7 := ti_ne b209_14; have q8 := ti_nle b248_28; have q9 := ti_ne b252_29; have q10 := ti_eq b268_35; have q11 := ti_ne b281_41; have q12 := ti_in hc; have q13 := ti_in (iva_152 hI _ (lt_of_vp hx1)); have q14 := ti_in (iva_144 hI10 _ (lt_of_vp hx3)); have q15 := ti_in hrg242; have q16 := ti_in (iv_14047 hI242); have q17 := ti_in r49; have q18 := ti_in r32; have q19 := ti_in r46; have q20 := ti_in r51; have z0 : (-1 : Int32).toInt = -1 := (by decide); have z1 : (0 : Int32).toInt = 0 := (by decide); have z2 : (1 : Int32).toInt = 1 := (by decide); have z3 : (14047 : Int32).toInt = 14047 := (by decide); have z4 : (147 : Int32).toInt = 147 := (by decide); have z5 : (172 : Int32).toInt = 172 := (by decide); have z6 : (19 : Int32).toInt = 19 := (by decide); have z7 : (3 : Int32).toInt = 3 := (by decide); have z8 : (4 : Int32).toInt = 4 := (by decide); have z9 : (42 : Int32).toInt = 42 := (by decide); have z10 : (45 : Int32).toInt = 45 := (by decide); have z11 : (46 : Int32).toInt = 46 := (by decide); have z12 : (47 : Int32).toInt = 47 := (by decide); have z13 : (5 : Int32).toInt = 5 := (by decide); have z14 : (6 : Int32).toInt = 6 := (by decide); have z15 : (7 : Int32).toInt = 7 := (by decide); have z16 : (8 : Int32).toInt = 8 := (by decide); omega))
                    refine R_iaload (pc := 309) dX9_narrow_309 (c_172 _) hx53 ?_
                    refine k_X9_212 (pc := 310) (gx_X9_outIn _ _ _ _ hI242 hc) rfl (c_140 _) (by decide) (Nat.le_refl _) (Nat.le_refl _) (Nat.le_of_ble_eq_true rfl) dX9_narrow_310 (fun w2 h => ?_)
                    obtain ⟨σx56, rfl, hV55, hW57⟩ := h
                    have hW58 := Cor.trans hC242 hW57
                    refine inc_5_4_1_i (pc := 313) dX9_narrow_313 ?_
                    have r59 : inR ((nI j242) + 1) 1 8 := inR_add (show inR (nI j242) 0 7 from hrg242) (show inR 1 1 1 from (inR_self _)) (by decide) (by decide)
                    have e60 := ti_add (l := 1) (h := 8) (show inR (nI j242) 0 7 from hrg242) (show inR 1 1 1 from (inR_self _)) (by decide) (by decide)
                    refine R_goto (pc := 316) 242 dX9_narrow_316 (by decide) ?_
                    rw [nI_1]
                    exact ih242 (j242 + 1) _ (by omega) (by omega) hV55 hW58
        exact HL242 8 0 _ (by omega) (by omega) hV23 hW26
      · skip
        refine R_sipush (pc := 212) (v := 20000) dX9_narrow_212 (by decide) ?_
        refine R_goto (pc := 215) 224 dX9_narrow_215 (by decide) ?_
        refine k_X9_212 (pc := 224) (gx_X9_outIn _ _ _ _ hV8 hc) rfl (c_140 _) (by decide) (Nat.le_refl _) (Nat.le_refl _) (Nat.le_of_ble_eq_true rfl) dX9_narrow_224 (fun w2 h => ?_)
        obtain ⟨σx63, rfl, hV62, hW64⟩ := h
        have hW65 := Cor.trans hW11 hW64
        refine R_aload_n (pc := 227) dX9_narrow_227 rfl rfl ?_
        refine R_iload_n (pc := 228) dX9_narrow_228 rfl rfl ?_
        refine R_iconst (pc := 229) (v := 0) dX9_narrow_229 (by decide) ?_
        refine R_aload_n (pc := 230) dX9_narrow_230 rfl rfl ?_
        refine g_X9_96 (pc := 231) (v := .ref 166) rfl dX9_narrow_231 (c_140 _) rfl ?_
        refine R_iload_n (pc := 234) dX9_narrow_234 rfl rfl ?_
        have hx66 : vp_in c 20 := (vp_of_inR hc (by decide))
        refine R_iaload (pc := 235) dX9_narrow_235 (c_166 _) hx66 ?_
        refine k_X9_208 (pc := 236) (gx_X9_takenIn _ _ _ _ hV62 (iva_152 hI _ (lt_of_vp hx1))) rfl (c_140 _) (by decide) (Nat.le_refl _) (Nat.le_refl _) (Nat.le_of_ble_eq_true rfl) dX9_narrow_236 (fun w2 h => ?_)
        obtain ⟨σx69, rfl, hV68, hW70⟩ := h
        have hW71 := Cor.trans hW65 hW70
        refine R_iconst (pc := 239) (v := 0) dX9_narrow_239 (by decide) ?_
        refine st_5_4_i_i (pc := 240) dX9_narrow_240 ?_
        have HL242 : ∀ (q j242 : Nat) (σ242 : Sg), j242 + q = 8 → 0 ≤ j242 → Inv σ242 → Cor σ σ242 → R G l yX9_narrow cX9_narrow 5 none 2 0 0 (QV (fun w2 => ∃ σ2, w2 = WW σ2 ∧ Inv σ2 ∧ Cor σ σ2)) 242 [(some (.ref 140)), (some (.int c)), (some (.int b)), (some (.int (σ.2.2.1 152 (Int32.toNatClampNeg c)))), (some (.int (nI j242)))] [] (WW σ242) 0 0 := by
          intro q
          induction q with
          | zero =>
            intro j242 σ242 hj hs242 hI242 hC242
            obtain rfl : j242 = 8 := by omega
            refine R_iload (pc := 242) dX9_narrow_242 rfl ?_
            refine R_aload_n (pc := 244) dX9_narrow_244 rfl rfl ?_
            refine g_X9_215 (pc := 245) (v := .int (σ242.1 14047)) rfl dX9_narrow_245 (c_140 _) rfl ?_
            refine R_icge (pc := 248) 319 dX9_narrow_248 (by decide) (fun _ => ?_) (fun h => absurd (Int32.not_lt.mp (inR_up (iv_14047 hI242) (Int32.le_refl _) (by decide)).2) h)
            exact R_vret (pc := 319) dX9_narrow_319 rfl (Nat.zero_le _) (Nat.zero_le _) ⟨rfl, _, rfl, hI242, hC242⟩
          | succ q ih242 =>
            intro j242 σ242 hj hs242 hI242 hC242
            have hrg242 : inR (nI j242) 0 7 := inR_ix hs242 (show j242 < 8 by omega) (by decide) (by decide) (by decide)
            have hlt242 : j242 < 8 := by omega
            refine R_iload (pc := 242) dX9_narrow_242 rfl ?_
            refine R_aload_n (pc := 244) dX9_narrow_244 rfl rfl ?_
            refine g_X9_215 (pc := 245) (v := .int (σ242.1 14047)) rfl dX9_narrow_245 (c_140 _) rfl ?_
            refine R_icge (pc := 248) 319 dX9_narrow_248 (by decide) (fun b248_73 => ?_) (fun b248_73 => ?_)
            · skip
              exact R_vret (pc := 319) dX9_narrow_319 rfl (Nat.zero_le _) (Nat.zero_le _) ⟨rfl, _, rfl, hI242, hC242⟩
            · skip
              refine R_iload_n (pc := 251) dX9_narrow_251 rfl rfl ?_
              refine R_ifeq (pc := 252) 319 dX9_narrow_252 (by decide) (fun b252_74 => ?_) (fun b252_74 => ?_)
              · skip
                exact R_vret (pc := 319) dX9_narrow_319 rfl (Nat.zero_le _) (Nat.zero_le _) ⟨rfl, _, rfl, hI242, hC242⟩
              · skip
                refine R_aload_n (pc := 255) dX9_narrow_255 rfl rfl ?_
                refine g_X9_114 (pc := 256) (v := .ref 172) rfl dX9_narrow_256 (c_140 _) rfl ?_
                refine R_bipush (pc := 259) (v := 6) dX9_narrow_259 (by decide) ?_
                refine R_iload (pc := 261) dX9_narrow_261 rfl ?_
                refine R_imul (pc := 263) dX9_narrow_263 ?_
                have r75 : inR (6 * (nI j242)) 0 42 := inR_mulc (c := 6) (l := 0) (h := 42) 6 (by decide) (show inR (nI j242) 0 7 from hrg242) (by decide) (by decide)
                have e76 := ti_mulc (c := 6) (l := 0) (h := 42) 6 (by decide) (show inR (nI j242) 0 7 from hrg242) (by decide) (by decide)
                refine R_iconst (pc := 264) (v := 3) dX9_narrow_264 (by decide) ?_
                refine R_iadd (pc := 265) dX9_narrow_265 ?_
                have r77 : inR ((6 * (nI j242)) + 3) 3 45 := inR_add (show inR (6 * (nI j242)) 0 42 from r75) (show inR 3 3 3 from (inR_self _)) (by decide) (by decide)
                have e78 := ti_add (l := 3) (h := 45) (show inR (6 * (nI j242)) 0 42 from r75) (show inR 3 3 3 from (inR_self _)) (by decide) (by decide)
                have hx79 : vp_in ((6 * (nI j242)) + 3) 48 := (vp_ti (by have q0 := e76; have q1 := e78; have q2 := ti_eq b209_14; have q3 := ti_nle b248_73; have q4 := ti_ne b252_74; have q5 := ti_in hc; have q6 := ti_in (iva_152 hI _ (lt_of_vp hx1)); have q7 := ti_in (iva_144 hI10 _ (lt_of_vp hx3)); have q8 := ti_in hrg242; have q9 := ti_in (iv_14047 hI242); have q10 := ti_in r75; have q11 := ti_in r77; have z0 : (-1 : Int32).toInt = -1 := (by decide); have z1 : (0 : Int32).toInt = 0 := (by decide); have z2 : (1 : Int32).toInt = 1 := (by decide); have z3 : (14047 : Int32).toInt = 14047 := (by decide); have z4 : (147 : Int32).toInt = 147 := (by decide); have z5 : (19 : Int32).toInt = 19 := (by decide); have z6 : (3 : Int32).toInt = 3 := (by decide); have z7 : (4 : Int32).toInt = 4 := (by decide); have z8 : (42 : Int32).toInt = 42 := (by decide); have z9 : (45 : Int32).toInt = 45 := (by decide); have z10 : (7 : Int32).toInt = 7 := (by decide); have z11 : (8 : Int32).toInt = 8 := (by decide); omega) (by have q0 := e76; have q1 := e78; have q2 := ti_eq b209_14; have q3 := ti_nle b248_73; have q4 := ti_ne b252_74; have q5 := ti_in hc; have q6 := ti_in (iva_152 hI _ (lt_of_vp hx1)); have q7 := ti_in (iva_144 hI10 _ (lt_of_vp hx3)); have q8 := ti_in hrg242; have q9 := ti_in (iv_14047 hI242); have q10 := ti_in r75; have q11 := ti_in r77; have z0 : (-1 : Int32).toInt = -1 := (by decide); have z1 : (0 : Int32).toInt = 0 := (by decide); have z2 : (1 : Int32).toInt = 1 := (by decide); have z3 : (14047 : Int32).toInt = 14047 := (by decide); have z4 : (147 : Int32).toInt = 147 := (by decide); have z5 : (19 : Int32).toInt = 19 := (by decide); have z6 : (3 : Int32).toInt = 3 := (by decide); have z7 : (4 : Int32).toInt = 4 := (by decide); have z8 : (42 : Int32).toInt = 42 := (by decide); have z9 : (45 : Int32).toInt = 45 := (by decide); have z10 : (7 : Int32).toInt = 7 := (by decide); have z11 : (8 : Int32).toInt = 8 := (by decide); omega))
                refine R_iaload (pc := 266) dX9_narrow_266 (c_172 _) hx79 ?_
                refine R_iconst (pc := 267) (v := 1) dX9_narrow_267 (by decide) ?_
                refine R_icne (pc := 268) 313 dX9_narrow_268 (by decide) (fun b268_80 => ?_) (fun b268_80 => ?_)
                · skip
                  refine inc_5_4_1_i (pc := 313) dX9_narrow_313 ?_
                  have r81 : inR ((nI j242) + 1) 1 8 := inR_add (show inR (nI j242) 0 7 from hrg242) (show inR 1 1 1 from (inR_self _)) (by decide) (by decide)
                  have e82 := ti_add (l := 1) (h := 8) (show inR (nI j242) 0 7 from hrg242) (show inR 1 1 1 from (inR_self _)) (by decide) (by decide)
                  refine R_goto (pc := 316) 242 dX9_narrow_316 (by decide) ?_
                  rw [nI_1]
                  exact ih242 (j242 + 1) _ (by omega) (by omega) hI242 hC242
                · skip
                  refine R_aload_n (pc := 271) dX9_narrow_271 rfl rfl ?_
                  refine R_iload_n (pc := 272) dX9_narrow_272 rfl rfl ?_
                  refine R_bipush (pc := 273) (v := 6) dX9_narrow_273 (by decide) ?_
                  refine R_iload (pc := 275) dX9_narrow_275 rfl ?_
                  refine R_imul (pc := 277) dX9_narrow_277 ?_
                  have r83 : inR (6 * (nI j242)) 0 42 := inR_mulc (c := 6) (l := 0) (h := 42) 6 (by decide) (show inR (nI j242) 0 7 from hrg242) (by decide) (by decide)
                  have e84 := ti_mulc (c := 6) (l := 0) (h := 42) 6 (by decide) (show inR (nI j242) 0 7 from hrg242) (by decide) (by decide)
                  refine k_X9_218 (pc := 278) (gx_X9_isOf _ _ _ hI242 hc r83) rfl (c_140 _) (by decide) (Nat.le_refl _) (Nat.le_refl _) (Nat.le_of_ble_eq_true rfl) dX9_narrow_278 (fun y85 w2 h => ?_)
                  subst h
                  refine R_ifeq (pc := 281) 313 dX9_narrow_281 (by decide) (fun b281_86 => ?_) (fun b281_86 => ?_)
                  · skip
                    refine inc_5_4_1_i (pc := 313) dX9_narrow_313 ?_
                    have r87 : inR ((nI j242) + 1) 1 8 := inR_add (show inR (nI j242) 0 7 from hrg242) (show inR 1 1 1 from (inR_self _)) (by decide) (by decide)
                    have e88 := ti_add (l := 1) (h := 8) (show inR (nI j242) 0 7 from hrg242) (show inR 1 1 1 from (inR_self _)) (by decide) (by decide)
                    refine R_goto (pc := 316) 242 dX9_narrow_316 (by decide) ?_
                    rw [nI_1]
                    exact ih242 (j242 + 1) _ (by omega) (by omega) hI242 hC242
                  · skip
                    refine R_aload_n (pc := 284) dX9_narrow_284 rfl rfl ?_
                    refine R_iload_n (pc := 285) dX9_narrow_285 rfl rfl ?_
                    refine R_aload_n (pc := 286) dX9_narrow_286 rfl rfl ?_
                    refine g_X9_114 (pc := 287) (v := .ref 172) rfl dX9_narrow_287 (c_140 _) rfl ?_
                    refine R_bipush (pc := 290) (v := 6) dX9_narrow_290 (by decide) ?_
                    refine R_iload (pc := 292) dX9_narrow_292 rfl ?_
                    refine R_imul (pc := 294) dX9_narrow_294 ?_
                    have r89 : inR (6 * (nI j242)) 0 42 := inR_mulc (c := 6) (l := 0) (h := 42) 6 (by decide) (show inR (nI j242) 0 7 from hrg242) (by decide) (by decide)
                    have e90 := ti_mulc (c := 6) (l := 0) (h := 42) 6 (by decide) (show inR (nI j242) 0 7 from hrg242) (by decide) (by decide)
                    refine R_iconst (pc := 295) (v := 4) dX9_narrow_295 (by decide) ?_
                    refine R_iadd (pc := 296) dX9_narrow_296 ?_
                    have r91 : inR ((6 * (nI j242)) + 4) 4 46 := inR_add (show inR (6 * (nI j242)) 0 42 from r89) (show inR 4 4 4 from (inR_self _)) (by decide) (by decide)
                    have e92 := ti_add (l := 4) (h := 46) (show inR (6 * (nI j242)) 0 42 from r89) (show inR 4 4 4 from (inR_self _)) (by decide) (by decide)
                    have hx93 : vp_in ((6 * (nI j242)) + 4) 48 := (vp_ti (by have q0 := e76; have q1 := e78; have q2 := e84; have q3 := e90; have q4 := e92; have q5 := ti_eq b209_14; have q6 := ti_nle b248_73; have q7 := ti_ne b252_74; have q8 := ti_eq b268_80; have q9 := ti_ne b281_86; have q10 := ti_in hc; have q11 := ti_in (iva_152 hI _ (lt_of_vp hx1)); have q12 := ti_in (iva_144 hI10 _ (lt_of_vp hx3)); have q13 := ti_in hrg242; have q14 := ti_in (iv_14047 hI242); have q15 := ti_in r89; have q16 := ti_in r77; have q17 := ti_in r91; have z0 : (-1 : Int32).toInt = -1 := (by decide); have z1 : (0 : Int32).toInt = 0 := (by decide); have z2 : (1 : Int32).toInt = 1 := (by decide); have z3 : (14047 : Int32).toInt = 14047 := (by decide); have z4 : (147 : Int32).toInt = 147 := (by decide); have z5 : (172 : Int32).toInt = 172 := (by decide); have z6 : (19 : Int32).toInt = 19 := (by decide); have z7 : (3 : Int32).toInt = 3 := (by decide); have z8 : (4 : Int32).toInt = 4 := (by decide); have z9 : (42 : Int32).toInt = 42 := (by decide); have z10 : (45 : Int32).toInt = 45 := (by decide); have z11 : (46 : Int32).toInt = 46 := (by decide); have z12 : (6 : Int32).toInt = 6 := (by decide); have z13 : (7 : Int32).toInt = 7 := (by decide); have z14 : (8 : Int32).toInt = 8 := (by decide); omega) (by have q0 := e76; have q1 := e78; have q2 := e84; have q3 := e90; have q4 := e92; have q5 := ti_eq b209_14; have q6 := ti_nle b248_73; have q7 := ti_ne b252_74; have q8 := ti_eq b268_80; have q9 := ti_ne b281_86; have q10 := ti_in hc; have q11 := ti_in (iva_152 hI _ (lt_of_vp hx1)); have q12 := ti_in (iva_144 hI10 _ (lt_of_vp hx3)); have q13 := ti_in hrg242; have q14 := ti_in (iv_14047 hI242); have q15 := ti_in r89; have q16 := ti_in r77; have q17 := ti_in r91; have z0 : (-1 : Int32).toInt = -1 := (by decide); have z1 : (0 : Int32).toInt = 0 := (by decide); have z2 : (1 : Int32).toInt = 1 := (by decide); have z3 : (14047 : Int32).toInt = 14047 := (by decide); have z4 : (147 : Int32).toInt = 147 := (by decide); have z5 : (172 : Int32).toInt = 172 := (by decide); have z6 : (19 : Int32).toInt = 19 := (by decide); have z7 : (3 : Int32).toInt = 3 := (by decide); have z8 : (4 : Int32).toInt = 4 := (by decide); have z9 : (42 : Int32).toInt = 42 := (by decide); have z10 : (45 : Int32).toInt = 45 := (by decide); have z11 : (46 : Int32).toInt = 46 := (by decide); have z12 : (6 : Int32).toInt = 6 := (by decide); have z13 : (7 : Int32).toInt = 7 := (by decide); have z14 : (8 : Int32).toInt = 8 := (by decide); omega))
                    refine R_iaload (pc := 297) dX9_narrow_297 (c_172 _) hx93 ?_
                    refine R_aload_n (pc := 298) dX9_narrow_298 rfl rfl ?_
                    refine g_X9_114 (pc := 299) (v := .ref 172) rfl dX9_narrow_299 (c_140 _) rfl ?_
                    refine R_bipush (pc := 302) (v := 6) dX9_narrow_302 (by decide) ?_
                    refine R_iload (pc := 304) dX9_narrow_304 rfl ?_
                    refine R_imul (pc := 306) dX9_narrow_306 ?_
                    have r94 : inR (6 * (nI j242)) 0 42 := inR_mulc (c := 6) (l := 0) (h := 42) 6 (by decide) (show inR (nI j242) 0 7 from hrg242) (by decide) (by decide)
                    have e95 := ti_mulc (c := 6) (l := 0) (h := 42) 6 (by decide) (show inR (nI j242) 0 7 from hrg242) (by decide) (by decide)
                    refine R_iconst (pc := 307) (v := 5) dX9_narrow_307 (by decide) ?_
                    refine R_iadd (pc := 308) dX9_narrow_308 ?_
                    have r96 : inR ((6 * (nI j242)) + 5) 5 47 := inR_add (show inR (6 * (nI j242)) 0 42 from r94) (show inR 5 5 5 from (inR_self _)) (by decide) (by decide)
                    have e97 := ti_add (l := 5) (h := 47) (show inR (6 * (nI j242)) 0 42 from r94) (show inR 5 5 5 from (inR_self _)) (by decide) (by decide)
                    have hx98 : vp_in ((6 * (nI j242)) + 5) 48 := (vp_ti (by have q0 := e76; have q1 := e78; have q2 := e84; have q3 := e90; have q4 := e92; have q5 := e95; have q6 := e97; have q7 := ti_eq b209_14; have q8 := ti_nle b248_73; have q9 := ti_ne b252_74; have q10 := ti_eq b268_80; have q11 := ti_ne b281_86; have q12 := ti_in hc; have q13 := ti_in (iva_152 hI _ (lt_of_vp hx1)); have q14 := ti_in (iva_144 hI10 _ (lt_of_vp hx3)); have q15 := ti_in hrg242; have q16 := ti_in (iv_14047 hI242); have q17 := ti_in r94; have q18 := ti_in r77; have q19 := ti_in r91; have q20 := ti_in r96; have z0 : (-1 : Int32).toInt = -1 := (by decide); have z1 : (0 : Int32).toInt = 0 := (by decide); have z2 : (1 : Int32).toInt = 1 := (by decide); have z3 : (14047 : Int32).toInt = 14047 := (by decide); have z4 : (147 : Int32).toInt = 147 := (by decide); have z5 : (172 : Int32).toInt = 172 := (by decide); have z6 : (19 : Int32).toInt = 19 := (by decide); have z7 : (3 : Int32).toInt = 3 := (by decide); have z8 : (4 : Int32).toInt = 4 := (by decide); have z9 : (42 : Int32).toInt = 42 := (by decide); have z10 : (45 : Int32).toInt = 45 := (by decide); have z11 : (46 : Int32).toInt = 46 := (by decide); have z12 : (47 : Int32).toInt = 47 := (by decide); have z13 : (5 : Int32).toInt = 5 := (by decide); have z14 : (6 : Int32).toInt = 6 := (by decide); have z15 : (7 : Int32).toInt = 7 := (by decide); have z16 : (8 : Int32).toInt = 8 := (by decide); omega) (by have q0 := e76; have q1 := e78; have q2 := e84; have q3 := e90; have q4 := e92; have q5 := e95; have q6 := e97; have q7 := ti_eq b209_14; have q8 := ti_nle b248_73; have q9 := ti_ne b252_74; have q10 := ti_eq b268_80; have q11 := ti_ne b281_86; have q12 := ti_in hc; have q13 := ti_in (iva_152 hI _ (lt_of_vp hx1)); have q14 := ti_in (iva_144 hI10 _ (lt_of_vp hx3)); have q15 := ti_in hrg242; have q16 := ti_in (iv_14047 hI242); have q17 := ti_in r94; have q18 := ti_in r77; have q19 := ti_in r91; have q20 := ti_in r96; have z0 : (-1 : Int32).toInt = -1 := (by decide); have z1 : (0 : Int32).toInt = 0 := (by decide); have z2 : (1 : Int32).toInt = 1 := (by decide); have z3 : (14047 : Int32).toInt = 14047 := (by decide); have z4 : (147 : Int32).toInt = 147 := (by decide); have z5 : (172 : Int32).toInt = 172 := (by decide); have z6 : (19 : Int32).toInt = 19 := (by decide); have z7 : (3 : Int32).toInt = 3 := (by decide); have z8 : (4 : Int32).toInt = 4 := (by decide); have z9 : (42 : Int32).toInt = 42 := (by decide); have z10 : (45 : Int32).toInt = 45 := (by decide); have z11 : (46 : Int32).toInt = 46 := (by decide); have z12 : (47 : Int32).toInt = 47 := (by decide); have z13 : (5 : Int32).toInt = 5 := (by decide); have z14 : (6 : Int32).toInt = 6 := (by decide); have z15 : (7 : Int32).toInt = 7 := (by decide); have z16 : (8 : Int32).toInt = 8 := (by decide); omega))
                    refine R_iaload (pc := 309) dX9_narrow_309 (c_172 _) hx98 ?_
                    refine k_X9_212 (pc := 310) (gx_X9_outIn _ _ _ _ hI242 hc) rfl (c_140 _) (by decide) (Nat.le_refl _) (Nat.le_refl _) (Nat.le_of_ble_eq_true rfl) dX9_narrow_310 (fun w2 h => ?_)
                    obtain ⟨σx101, rfl, hV100, hW102⟩ := h
                    have hW103 := Cor.trans hC242 hW102
                    refine inc_5_4_1_i (pc := 313) dX9_narrow_313 ?_
                    have r104 : inR ((nI j242) + 1) 1 8 := inR_add (show inR (nI j242) 0 7 from hrg242) (show inR 1 1 1 from (inR_self _)) (by decide) (by decide)
                    have e105 := ti_add (l := 1) (h := 8) (show inR (nI j242) 0 7 from hrg242) (show inR 1 1 1 from (inR_self _)) (by decide) (by decide)
                    refine R_goto (pc := 316) 242 dX9_narrow_316 (by decide) ?_
                    rw [nI_1]
                    exact ih242 (j242 + 1) _ (by omega) (by omega) hV100 hW103
        exact HL242 8 0 _ (by omega) (by omega) hV68 hW71
    | succ q ih10 =>
      intro j10 σ10 hj hs10 hI10 hC10
      have hrg10 : inR (nI j10) 0 7 := inR_ix hs10 (show j10 < 8 by omega) (by decide) (by decide) (by decide)
      have hlt10 : j10 < 8 := by omega
      refine R_iload (pc := 10) dX9_narrow_10 rfl ?_
      refine R_bipush (pc := 12) (v := 8) dX9_narrow_12 (by decide) ?_
      refine R_icge (pc := 14) 167 dX9_narrow_14 (by decide) (fun h => False.elim (by have q1 := ti_le h; have q2 := ti_in (show inR (nI j10) 0 7 from hrg10); have q3 := ti_in (show inR 8 8 8 from (inR_self _)); have z0 : (0 : Int32).toInt = 0 := (by decide);  have z1 : (7 : Int32).toInt = 7 := (by decide);  have z2 : (8 : Int32).toInt = 8 := (by decide); omega)) (fun _ => ?_)
      refine R_aload_n (pc := 17) dX9_narrow_17 rfl rfl ?_
      refine g_X9_72 (pc := 18) (v := .ref 158) rfl dX9_narrow_18 (c_140 _) rfl ?_
      refine R_bipush (pc := 21) (v := 8) dX9_narrow_21 (by decide) ?_
      refine R_iload_n (pc := 23) dX9_narrow_23 rfl rfl ?_
      refine R_imul (pc := 24) dX9_narrow_24 ?_
      have r107 : inR (8 * c) 0 152 := inR_mulc (c := 8) (l := 0) (h := 152) 8 (by decide) (show inR c 0 19 from hc) (by decide) (by decide)
      have e108 := ti_mulc (c := 8) (l := 0) (h := 152) 8 (by decide) (show inR c 0 19 from hc) (by decide) (by decide)
      refine R_iload (pc := 25) dX9_narrow_25 rfl ?_
      refine R_iadd (pc := 27) dX9_narrow_27 ?_
      have r109 : inR ((8 * c) + (nI j10)) 0 159 := inR_add (show inR (8 * c) 0 152 from r107) (show inR (nI j10) 0 7 from hrg10) (by decide) (by decide)
      have e110 := ti_add (l := 0) (h := 159) (show inR (8 * c) 0 152 from r107) (show inR (nI j10) 0 7 from hrg10) (by decide) (by decide)
      have hx111 : vp_in ((8 * c) + (nI j10)) 160 := (vp_of_inR r109 (by decide))
      refine R_iaload (pc := 28) dX9_narrow_28 (c_158 _) hx111 ?_
      refine R_iconst (pc := 29) (v := 1) dX9_narrow_29 (by decide) ?_
      refine R_icne (pc := 30) 52 dX9_narrow_30 (by decide) (fun b30_112 => ?_) (fun b30_112 => ?_)
      · skip
        refine R_aload_n (pc := 52) dX9_narrow_52 rfl rfl ?_
        refine g_X9_72 (pc := 53) (v := .ref 158) rfl dX9_narrow_53 (c_140 _) rfl ?_
        refine R_bipush (pc := 56) (v := 8) dX9_narrow_56 (by decide) ?_
        refine R_iload_n (pc := 58) dX9_narrow_58 rfl rfl ?_
        refine R_imul (pc := 59) dX9_narrow_59 ?_
        have r113 : inR (8 * c) 0 152 := inR_mulc (c := 8) (l := 0) (h := 152) 8 (by decide) (show inR c 0 19 from hc) (by decide) (by decide)
        have e114 := ti_mulc (c := 8) (l := 0) (h := 152) 8 (by decide) (show inR c 0 19 from hc) (by decide) (by decide)
        refine R_iload (pc := 60) dX9_narrow_60 rfl ?_
        refine R_iadd (pc := 62) dX9_narrow_62 ?_
        have r115 : inR ((8 * c) + (nI j10)) 0 159 := inR_add (show inR (8 * c) 0 152 from r113) (show inR (nI j10) 0 7 from hrg10) (by decide) (by decide)
        have e116 := ti_add (l := 0) (h := 159) (show inR (8 * c) 0 152 from r113) (show inR (nI j10) 0 7 from hrg10) (by decide) (by decide)
        have hx117 : vp_in ((8 * c) + (nI j10)) 160 := (vp_of_inR r115 (by decide))
        refine R_iaload (pc := 63) dX9_narrow_63 (c_158 _) hx117 ?_
        refine R_ifne (pc := 64) 161 dX9_narrow_64 (by decide) (fun b64_118 => ?_) (fun b64_118 => ?_)
        · skip
          refine inc_5_4_1_i (pc := 161) dX9_narrow_161 ?_
          have r119 : inR ((nI j10) + 1) 1 8 := inR_add (show inR (nI j10) 0 7 from hrg10) (show inR 1 1 1 from (inR_self _)) (by decide) (by decide)
          have e120 := ti_add (l := 1) (h := 8) (show inR (nI j10) 0 7 from hrg10) (show inR 1 1 1 from (inR_self _)) (by decide) (by decide)
          refine R_goto (pc := 164) 10 dX9_narrow_164 (by decide) ?_
          rw [nI_1]
          exact ih10 (j10 + 1) _ (by omega) (by omega) hI10 hC10
        · skip
          refine R_aload_n (pc := 67) dX9_narrow_67 rfl rfl ?_
          refine R_iload_n (pc := 68) dX9_narrow_68 rfl rfl ?_
          refine R_aload_n (pc := 69) dX9_narrow_69 rfl rfl ?_
          refine g_X9_87 (pc := 70) (v := .ref 163) rfl dX9_narrow_70 (c_140 _) rfl ?_
          refine R_iload_n (pc := 73) dX9_narrow_73 rfl rfl ?_
          have hx121 : vp_in (σ.2.2.1 152 (Int32.toNatClampNeg c)) 20 := (vp_of_inR (iva_152 hI _ (lt_of_vp hx1)) (by decide))
          refine R_iaload (pc := 74) dX9_narrow_74 (c_163 _) hx121 ?_
          refine R_aload_n (pc := 75) dX9_narrow_75 rfl rfl ?_
          refine g_X9_66 (pc := 76) (v := .ref 156) rfl dX9_narrow_76 (c_140 _) rfl ?_
          refine R_iload (pc := 79) dX9_narrow_79 rfl ?_
          have hx122 : vp_in (nI j10) 8 := (vp_in_nI (by omega) (by decide))
          refine R_iaload (pc := 81) dX9_narrow_81 (c_156 _) hx122 ?_
          refine R_aload_n (pc := 82) dX9_narrow_82 rfl rfl ?_
          refine g_X9_69 (pc := 83) (v := .ref 157) rfl dX9_narrow_83 (c_140 _) rfl ?_
          refine R_iload (pc := 86) dX9_narrow_86 rfl ?_
          have hx123 : vp_in (nI j10) 8 := (vp_in_nI (by omega) (by decide))
          refine R_iaload (pc := 88) dX9_narrow_88 (c_157 _) hx123 ?_
          refine k_X9_124 (pc := 89) (sp_X9_in _ _ _ _) rfl (by decide) (Nat.le_refl _) (Nat.le_refl _) (Nat.le_of_ble_eq_true rfl) dX9_narrow_89 (fun x w2 h => ?_)
          rcases h with ⟨rfl, ⟨h124, rfl⟩ | ⟨h124, rfl⟩⟩
          · skip
            refine R_ifeq (pc := 92) 107 dX9_narrow_92 (by decide) (fun h => absurd h (by decide)) (fun _ => ?_)
            refine R_aload_n (pc := 95) dX9_narrow_95 rfl rfl ?_
            refine g_X9_69 (pc := 96) (v := .ref 157) rfl dX9_narrow_96 (c_140 _) rfl ?_
            refine R_iload (pc := 99) dX9_narrow_99 rfl ?_
            have hx126 : vp_in (nI j10) 8 := (vp_in_nI (by omega) (by decide))
            refine R_iaload (pc := 101) dX9_narrow_101 (c_157 _) hx126 ?_
            refine R_iconst (pc := 102) (v := 1) dX9_narrow_102 (by decide) ?_
            refine R_iadd (pc := 103) dX9_narrow_103 ?_
            refine R_goto (pc := 104) 108 dX9_narrow_104 (by decide) ?_
            refine R_sipush (pc := 108) (v := 20000) dX9_narrow_108 (by decide) ?_
            refine k_X9_208 (pc := 111) (gx_X9_takenIn _ _ _ _ hI10 (iva_152 hI _ (lt_of_vp hx1))) rfl (c_140 _) (by decide) (Nat.le_refl _) (Nat.le_refl _) (Nat.le_of_ble_eq_true rfl) dX9_narrow_111 (fun w2 h => ?_)
            obtain ⟨σx129, rfl, hV128, hW130⟩ := h
            have hW131 := Cor.trans hC10 hW130
            refine R_aload_n (pc := 114) dX9_narrow_114 rfl rfl ?_
            refine R_iload_n (pc := 115) dX9_narrow_115 rfl rfl ?_
            refine R_iconst (pc := 116) (v := 0) dX9_narrow_116 (by decide) ?_
            refine R_aload_n (pc := 117) dX9_narrow_117 rfl rfl ?_
            refine g_X9_90 (pc := 118) (v := .ref 164) rfl dX9_narrow_118 (c_140 _) rfl ?_
            refine R_iload_n (pc := 121) dX9_narrow_121 rfl rfl ?_
            have hx132 : vp_in (σ.2.2.1 152 (Int32.toNatClampNeg c)) 20 := (vp_of_inR (iva_152 hI _ (lt_of_vp hx1)) (by decide))
            refine R_iaload (pc := 122) dX9_narrow_122 (c_164 _) hx132 ?_
            refine R_aload_n (pc := 123) dX9_narrow_123 rfl rfl ?_
            refine g_X9_66 (pc := 124) (v := .ref 156) rfl dX9_narrow_124 (c_140 _) rfl ?_
            refine R_iload (pc := 127) dX9_narrow_127 rfl ?_
            have hx133 : vp_in (nI j10) 8 := (vp_in_nI (by omega) (by decide))
            refine R_iaload (pc := 129) dX9_narrow_129 (c_156 _) hx133 ?_
            refine R_aload_n (pc := 130) dX9_narrow_130 rfl rfl ?_
            refine g_X9_69 (pc := 131) (v := .ref 157) rfl dX9_narrow_131 (c_140 _) rfl ?_
            refine R_iload (pc := 134) dX9_narrow_134 rfl ?_
            have hx134 : vp_in (nI j10) 8 := (vp_in_nI (by omega) (by decide))
            refine R_iaload (pc := 136) dX9_narrow_136 (c_157 _) hx134 ?_
            refine k_X9_124 (pc := 137) (sp_X9_in _ _ _ _) rfl (by decide) (Nat.le_refl _) (Nat.le_refl _) (Nat.le_of_ble_eq_true rfl) dX9_narrow_137 (fun x w2 h => ?_)
            rcases h with ⟨rfl, ⟨h135, rfl⟩ | ⟨h135, rfl⟩⟩
            · skip
              refine R_ifeq (pc := 140) 155 dX9_narrow_140 (by decide) (fun h => absurd h (by decide)) (fun _ => ?_)
              refine R_aload_n (pc := 143) dX9_narrow_143 rfl rfl ?_
              refine g_X9_66 (pc := 144) (v := .ref 156) rfl dX9_narrow_144 (c_140 _) rfl ?_
              refine R_iload (pc := 147) dX9_narrow_147 rfl ?_
              have hx137 : vp_in (nI j10) 8 := (vp_in_nI (by omega) (by decide))
              refine R_iaload (pc := 149) dX9_narrow_149 (c_156 _) hx137 ?_
              refine R_iconst (pc := 150) (v := 1) dX9_narrow_150 (by decide) ?_
              refine R_isub (pc := 151) dX9_narrow_151 ?_
              refine R_goto (pc := 152) 158 dX9_narrow_152 (by decide) ?_
              refine k_X9_208 (pc := 158) (gx_X9_takenIn _ _ _ _ hV128 (iva_152 hI _ (lt_of_vp hx1))) rfl (c_140 _) (by decide) (Nat.le_refl _) (Nat.le_refl _) (Nat.le_of_ble_eq_true rfl) dX9_narrow_158 (fun w2 h => ?_)
              obtain ⟨σx140, rfl, hV139, hW141⟩ := h
              have hW142 := Cor.trans hW131 hW141
              refine inc_5_4_1_i (pc := 161) dX9_narrow_161 ?_
              have r143 : inR ((nI j10) + 1) 1 8 := inR_add (show inR (nI j10) 0 7 from hrg10) (show inR 1 1 1 from (inR_self _)) (by decide) (by decide)
              have e144 := ti_add (l := 1) (h := 8) (show inR (nI j10) 0 7 from hrg10) (show inR 1 1 1 from (inR_self _)) (by decide) (by decide)
              refine R_goto (pc := 164) 10 dX9_narrow_164 (by decide) ?_
              rw [nI_1]
              exact ih10 (j10 + 1) _ (by omega) (by omega) hV139 hW142
            · skip
              refine R_ifeq (pc := 140) 155 dX9_narrow_140 (by decide) (fun _ => ?_) (fun h => absurd (by decide) h)
              refine R_sipush (pc := 155) (v := 20000) dX9_narrow_155 (by decide) ?_
              refine k_X9_208 (pc := 158) (gx_X9_takenIn _ _ _ _ hV128 (iva_152 hI _ (lt_of_vp hx1))) rfl (c_140 _) (by decide) (Nat.le_refl _) (Nat.le_refl _) (Nat.le_of_ble_eq_true rfl) dX9_narrow_158 (fun w2 h => ?_)
              obtain ⟨σx148, rfl, hV147, hW149⟩ := h
              have hW150 := Cor.trans hW131 hW149
              refine inc_5_4_1_i (pc := 161) dX9_narrow_161 ?_
              have r151 : inR ((nI j10) + 1) 1 8 := inR_add (show inR (nI j10) 0 7 from hrg10) (show inR 1 1 1 from (inR_self _)) (by decide) (by decide)
              have e152 := ti_add (l := 1) (h := 8) (show inR (nI j10) 0 7 from hrg10) (show inR 1 1 1 from (inR_self _)) (by decide) (by decide)
              refine R_goto (pc := 164) 10 dX9_narrow_164 (by decide) ?_
              rw [nI_1]
              exact ih10 (j10 + 1) _ (by omega) (by omega) hV147 hW150
          · skip
            refine R_ifeq (pc := 92) 107 dX9_narrow_92 (by decide) (fun _ => ?_) (fun h => absurd (by decide) h)
            refine R_iconst (pc := 107) (v := 0) dX9_narrow_107 (by decide) ?_
            refine R_sipush (pc := 108) (v := 20000) dX9_narrow_108 (by decide) ?_
            refine k_X9_208 (pc := 111) (gx_X9_takenIn _ _ _ _ hI10 (iva_152 hI _ (lt_of_vp hx1))) rfl (c_140 _) (by decide) (Nat.le_refl _) (Nat.le_refl _) (Nat.le_of_ble_eq_true rfl) dX9_narrow_111 (fun w2 h => ?_)
            obtain ⟨σx156, rfl, hV155, hW157⟩ := h
            have hW158 := Cor.trans hC10 hW157
            refine R_aload_n (pc := 114) dX9_narrow_114 rfl rfl ?_
            refine R_iload_n (pc := 115) dX9_narrow_115 rfl rfl ?_
            refine R_iconst (pc := 116) (v := 0) dX9_narrow_116 (by decide) ?_
            refine R_aload_n (pc := 117) dX9_narrow_117 rfl rfl ?_
            refine g_X9_90 (pc := 118) (v := .ref 164) rfl dX9_narrow_118 (c_140 _) rfl ?_
            refine R_iload_n (pc := 121) dX9_narrow_121 rfl rfl ?_
            have hx159 : vp_in (σ.2.2.1 152 (Int32.toNatClampNeg c)) 20 := (vp_of_inR (iva_152 hI _ (lt_of_vp hx1)) (by decide))
            refine R_iaload (pc := 122) dX9_narrow_122 (c_164 _) hx159 ?_
            refine R_aload_n (pc := 123) dX9_narrow_123 rfl rfl ?_
            refine g_X9_66 (pc := 124) (v := .ref 156) rfl dX9_narrow_124 (c_140 _) rfl ?_
            refine R_iload (pc := 127) dX9_narrow_127 rfl ?_
            have hx160 : vp_in (nI j10) 8 := (vp_in_nI (by omega) (by decide))
            refine R_iaload (pc := 129) dX9_narrow_129 (c_156 _) hx160 ?_
            refine R_aload_n (pc := 130) dX9_narrow_130 rfl rfl ?_
            refine g_X9_69 (pc := 131) (v := .ref 157) rfl dX9_narrow_131 (c_140 _) rfl ?_
            refine R_iload (pc := 134) dX9_narrow_134 rfl ?_
            have hx161 : vp_in (nI j10) 8 := (vp_in_nI (by omega) (by decide))
            refine R_iaload (pc := 136) dX9_narrow_136 (c_157 _) hx161 ?_
            refine k_X9_124 (pc := 137) (sp_X9_in _ _ _ _) rfl (by decide) (Nat.le_refl _) (Nat.le_refl _) (Nat.le_of_ble_eq_true rfl) dX9_narrow_137 (fun x w2 h => ?_)
            rcases h with ⟨rfl, ⟨h162, rfl⟩ | ⟨h162, rfl⟩⟩
            · skip
              refine R_ifeq (pc := 140) 155 dX9_narrow_140 (by decide) (fun h => absurd h (by decide)) (fun _ => ?_)
              refine R_aload_n (pc := 143) dX9_narrow_143 rfl rfl ?_
              refine g_X9_66 (pc := 144) (v := .ref 156) rfl dX9_narrow_144 (c_140 _) rfl ?_
              refine R_iload (pc := 147) dX9_narrow_147 rfl ?_
              have hx164 : vp_in (nI j10) 8 := (vp_in_nI (by omega) (by decide))
              refine R_iaload (pc := 149) dX9_narrow_149 (c_156 _) hx164 ?_
              refine R_iconst (pc := 150) (v := 1) dX9_narrow_150 (by decide) ?_
              refine R_isub (pc := 151) dX9_narrow_151 ?_
              refine R_goto (pc := 152) 158 dX9_narrow_152 (by decide) ?_
              refine k_X9_208 (pc := 158) (gx_X9_takenIn _ _ _ _ hV155 (iva_152 hI _ (lt_of_vp hx1))) rfl (c_140 _) (by decide) (Nat.le_refl _) (Nat.le_refl _) (Nat.le_of_ble_eq_true rfl) dX9_narrow_158 (fun w2 h => ?_)
              obtain ⟨σx167, rfl, hV166, hW168⟩ := h
              have hW169 := Cor.trans hW158 hW168
              refine inc_5_4_1_i (pc := 161) dX9_narrow_161 ?_
              have r170 : inR ((nI j10) + 1) 1 8 := inR_add (show inR (nI j10) 0 7 from hrg10) (show inR 1 1 1 from (inR_self _)) (by decide) (by decide)
              have e171 := ti_add (l := 1) (h := 8) (show inR (nI j10) 0 7 from hrg10) (show inR 1 1 1 from (inR_self _)) (by decide) (by decide)
              refine R_goto (pc := 164) 10 dX9_narrow_164 (by decide) ?_
              rw [nI_1]
              exact ih10 (j10 + 1) _ (by omega) (by omega) hV166 hW169
            · skip
              refine R_ifeq (pc := 140) 155 dX9_narrow_140 (by decide) (fun _ => ?_) (fun h => absurd (by decide) h)
              refine R_sipush (pc := 155) (v := 20000) dX9_narrow_155 (by decide) ?_
              refine k_X9_208 (pc := 158) (gx_X9_takenIn _ _ _ _ hV155 (iva_152 hI _ (lt_of_vp hx1))) rfl (c_140 _) (by decide) (Nat.le_refl _) (Nat.le_refl _) (Nat.le_of_ble_eq_true rfl) dX9_narrow_158 (fun w2 h => ?_)
              obtain ⟨σx175, rfl, hV174, hW176⟩ := h
              have hW177 := Cor.trans hW158 hW176
              refine inc_5_4_1_i (pc := 161) dX9_narrow_161 ?_
              have r178 : inR ((nI j10) + 1) 1 8 := inR_add (show inR (nI j10) 0 7 from hrg10) (show inR 1 1 1 from (inR_self _)) (by decide) (by decide)
              have e179 := ti_add (l := 1) (h := 8) (show inR (nI j10) 0 7 from hrg10) (show inR 1 1 1 from (inR_self _)) (by decide) (by decide)
              refine R_goto (pc := 164) 10 dX9_narrow_164 (by decide) ?_
              rw [nI_1]
              exact ih10 (j10 + 1) _ (by omega) (by omega) hV174 hW177
      · skip
        refine R_aload_n (pc := 33) dX9_narrow_33 rfl rfl ?_
        refine R_iload_n (pc := 34) dX9_narrow_34 rfl rfl ?_
        refine R_aload_n (pc := 35) dX9_narrow_35 rfl rfl ?_
        refine g_X9_66 (pc := 36) (v := .ref 156) rfl dX9_narrow_36 (c_140 _) rfl ?_
        refine R_iload (pc := 39) dX9_narrow_39 rfl ?_
        have hx180 : vp_in (nI j10) 8 := (vp_in_nI (by omega) (by decide))
        refine R_iaload (pc := 41) dX9_narrow_41 (c_156 _) hx180 ?_
        refine R_aload_n (pc := 42) dX9_narrow_42 rfl rfl ?_
        refine g_X9_69 (pc := 43) (v := .ref 157) rfl dX9_narrow_43 (c_140 _) rfl ?_
        refine R_iload (pc := 46) dX9_narrow_46 rfl ?_
        have hx181 : vp_in (nI j10) 8 := (vp_in_nI (by omega) (by decide))
        refine R_iaload (pc := 48) dX9_narrow_48 (c_157 _) hx181 ?_
        refine k_X9_208 (pc := 49) (gx_X9_takenIn _ _ _ _ hI10 (iva_152 hI _ (lt_of_vp hx1))) rfl (c_140 _) (by decide) (Nat.le_refl _) (Nat.le_refl _) (Nat.le_of_ble_eq_true rfl) dX9_narrow_49 (fun w2 h => ?_)
        obtain ⟨σx184, rfl, hV183, hW185⟩ := h
        have hW186 := Cor.trans hC10 hW185
        refine R_aload_n (pc := 52) dX9_narrow_52 rfl rfl ?_
        refine g_X9_72 (pc := 53) (v := .ref 158) rfl dX9_narrow_53 (c_140 _) rfl ?_
        refine R_bipush (pc := 56) (v := 8) dX9_narrow_56 (by decide) ?_
        refine R_iload_n (pc := 58) dX9_narrow_58 rfl rfl ?_
        refine R_imul (pc := 59) dX9_narrow_59 ?_
        have r187 : inR (8 * c) 0 152 := inR_mulc (c := 8) (l := 0) (h := 152) 8 (by decide) (show inR c 0 19 from hc) (by decide) (by decide)
        have e188 := ti_mulc (c := 8) (l := 0) (h := 152) 8 (by decide) (show inR c 0 19 from hc) (by decide) (by decide)
        refine R_iload (pc := 60) dX9_narrow_60 rfl ?_
        refine R_iadd (pc := 62) dX9_narrow_62 ?_
        have r189 : inR ((8 * c) + (nI j10)) 0 159 := inR_add (show inR (8 * c) 0 152 from r187) (show inR (nI j10) 0 7 from hrg10) (by decide) (by decide)
        have e190 := ti_add (l := 0) (h := 159) (show inR (8 * c) 0 152 from r187) (show inR (nI j10) 0 7 from hrg10) (by decide) (by decide)
        have hx191 : vp_in ((8 * c) + (nI j10)) 160 := (vp_of_inR r189 (by decide))
        refine R_iaload (pc := 63) dX9_narrow_63 (c_158 _) hx191 ?_
        refine R_ifne (pc := 64) 161 dX9_narrow_64 (by decide) (fun b64_192 => ?_) (fun b64_192 => ?_)
        · skip
          refine inc_5_4_1_i (pc := 161) dX9_narrow_161 ?_
          have r193 : inR ((nI j10) + 1) 1 8 := inR_add (show inR (nI j10) 0 7 from hrg10) (show inR 1 1 1 from (inR_self _)) (by decide) (by decide)
          have e194 := ti_add (l := 1) (h := 8) (show inR (nI j10) 0 7 from hrg10) (show inR 1 1 1 from (inR_self _)) (by decide) (by decide)
          refine R_goto (pc := 164) 10 dX9_narrow_164 (by decide) ?_
          rw [nI_1]
          exact ih10 (j10 + 1) _ (by omega) (by omega) hV183 hW186
        · skip
          refine R_aload_n (pc := 67) dX9_narrow_67 rfl rfl ?_
          refine R_iload_n (pc := 68) dX9_narrow_68 rfl rfl ?_
          refine R_aload_n (pc := 69) dX9_narrow_69 rfl rfl ?_
          refine g_X9_87 (pc := 70) (v := .ref 163) rfl dX9_narrow_70 (c_140 _) rfl ?_
          refine R_iload_n (pc := 73) dX9_narrow_73 rfl rfl ?_
          have hx195 : vp_in (σ.2.2.1 152 (Int32.toNatClampNeg c)) 20 := (vp_of_inR (iva_152 hI _ (lt_of_vp hx1)) (by decide))
          refine R_iaload (pc := 74) dX9_narrow_74 (c_163 _) hx195 ?_
          refine R_aload_n (pc := 75) dX9_narrow_75 rfl rfl ?_
          refine g_X9_66 (pc := 76) (v := .ref 156) rfl dX9_narrow_76 (c_140 _) rfl ?_
          refine R_iload (pc := 79) dX9_narrow_79 rfl ?_
          have hx196 : vp_in (nI j10) 8 := (vp_in_nI (by omega) (by decide))
          refine R_iaload (pc := 81) dX9_narrow_81 (c_156 _) hx196 ?_
          refine R_aload_n (pc := 82) dX9_narrow_82 rfl rfl ?_
          refine g_X9_69 (pc := 83) (v := .ref 157) rfl dX9_narrow_83 (c_140 _) rfl ?_
          refine R_iload (pc := 86) dX9_narrow_86 rfl ?_
          have hx197 : vp_in (nI j10) 8 := (vp_in_nI (by omega) (by decide))
          refine R_iaload (pc := 88) dX9_narrow_88 (c_157 _) hx197 ?_
          refine k_X9_124 (pc := 89) (sp_X9_in _ _ _ _) rfl (by decide) (Nat.le_refl _) (Nat.le_refl _) (Nat.le_of_ble_eq_true rfl) dX9_narrow_89 (fun x w2 h => ?_)
          rcases h with ⟨rfl, ⟨h198, rfl⟩ | ⟨h198, rfl⟩⟩
          · skip
            refine R_ifeq (pc := 92) 107 dX9_narrow_92 (by decide) (fun h => absurd h (by decide)) (fun _ => ?_)
            refine R_aload_n (pc := 95) dX9_narrow_95 rfl rfl ?_
            refine g_X9_69 (pc := 96) (v := .ref 157) rfl dX9_narrow_96 (c_140 _) rfl ?_
            refine R_iload (pc := 99) dX9_narrow_99 rfl ?_
            have hx200 : vp_in (nI j10) 8 := (vp_in_nI (by omega) (by decide))
            refine R_iaload (pc := 101) dX9_narrow_101 (c_157 _) hx200 ?_
            refine R_iconst (pc := 102) (v := 1) dX9_narrow_102 (by decide) ?_
            refine R_iadd (pc := 103) dX9_narrow_103 ?_
            refine R_goto (pc := 104) 108 dX9_narrow_104 (by decide) ?_
            refine R_sipush (pc := 108) (v := 20000) dX9_narrow_108 (by decide) ?_
            refine k_X9_208 (pc := 111) (gx_X9_takenIn _ _ _ _ hV183 (iva_152 hI _ (lt_of_vp hx1))) rfl (c_140 _) (by decide) (Nat.le_refl _) (Nat.le_refl _) (Nat.le_of_ble_eq_true rfl) dX9_narrow_111 (fun w2 h => ?_)
            obtain ⟨σx203, rfl, hV202, hW204⟩ := h
            have hW205 := Cor.trans hW186 hW204
            refine R_aload_n (pc := 114) dX9_narrow_114 rfl rfl ?_
            refine R_iload_n (pc := 115) dX9_narrow_115 rfl rfl ?_
            refine R_iconst (pc := 116) (v := 0) dX9_narrow_116 (by decide) ?_
            refine R_aload_n (pc := 117) dX9_narrow_117 rfl rfl ?_
            refine g_X9_90 (pc := 118) (v := .ref 164) rfl dX9_narrow_118 (c_140 _) rfl ?_
            refine R_iload_n (pc := 121) dX9_narrow_121 rfl rfl ?_
            have hx206 : vp_in (σ.2.2.1 152 (Int32.toNatClampNeg c)) 20 := (vp_of_inR (iva_152 hI _ (lt_of_vp hx1)) (by decide))
            refine R_iaload (pc := 122) dX9_narrow_122 (c_164 _) hx206 ?_
            refine R_aload_n (pc := 123) dX9_narrow_123 rfl rfl ?_
            refine g_X9_66 (pc := 124) (v := .ref 156) rfl dX9_narrow_124 (c_140 _) rfl ?_
            refine R_iload (pc := 127) dX9_narrow_127 rfl ?_
            have hx207 : vp_in (nI j10) 8 := (vp_in_nI (by omega) (by decide))
            refine R_iaload (pc := 129) dX9_narrow_129 (c_156 _) hx207 ?_
            refine R_aload_n (pc := 130) dX9_narrow_130 rfl rfl ?_
            refine g_X9_69 (pc := 131) (v := .ref 157) rfl dX9_narrow_131 (c_140 _) rfl ?_
            refine R_iload (pc := 134) dX9_narrow_134 rfl ?_
            have hx208 : vp_in (nI j10) 8 := (vp_in_nI (by omega) (by decide))
            refine R_iaload (pc := 136) dX9_narrow_136 (c_157 _) hx208 ?_
            refine k_X9_124 (pc := 137) (sp_X9_in _ _ _ _) rfl (by decide) (Nat.le_refl _) (Nat.le_refl _) (Nat.le_of_ble_eq_true rfl) dX9_narrow_137 (fun x w2 h => ?_)
            rcases h with ⟨rfl, ⟨h209, rfl⟩ | ⟨h209, rfl⟩⟩
            · skip
              refine R_ifeq (pc := 140) 155 dX9_narrow_140 (by decide) (fun h => absurd h (by decide)) (fun _ => ?_)
              refine R_aload_n (pc := 143) dX9_narrow_143 rfl rfl ?_
              refine g_X9_66 (pc := 144) (v := .ref 156) rfl dX9_narrow_144 (c_140 _) rfl ?_
              refine R_iload (pc := 147) dX9_narrow_147 rfl ?_
              have hx211 : vp_in (nI j10) 8 := (vp_in_nI (by omega) (by decide))
              refine R_iaload (pc := 149) dX9_narrow_149 (c_156 _) hx211 ?_
              refine R_iconst (pc := 150) (v := 1) dX9_narrow_150 (by decide) ?_
              refine R_isub (pc := 151) dX9_narrow_151 ?_
              refine R_goto (pc := 152) 158 dX9_narrow_152 (by decide) ?_
              refine k_X9_208 (pc := 158) (gx_X9_takenIn _ _ _ _ hV202 (iva_152 hI _ (lt_of_vp hx1))) rfl (c_140 _) (by decide) (Nat.le_refl _) (Nat.le_refl _) (Nat.le_of_ble_eq_true rfl) dX9_narrow_158 (fun w2 h => ?_)
              obtain ⟨σx214, rfl, hV213, hW215⟩ := h
              have hW216 := Cor.trans hW205 hW215
              refine inc_5_4_1_i (pc := 161) dX9_narrow_161 ?_
              have r217 : inR ((nI j10) + 1) 1 8 := inR_add (show inR (nI j10) 0 7 from hrg10) (show inR 1 1 1 from (inR_self _)) (by decide) (by decide)
              have e218 := ti_add (l := 1) (h := 8) (show inR (nI j10) 0 7 from hrg10) (show inR 1 1 1 from (inR_self _)) (by decide) (by decide)
              refine R_goto (pc := 164) 10 dX9_narrow_164 (by decide) ?_
              rw [nI_1]
              exact ih10 (j10 + 1) _ (by omega) (by omega) hV213 hW216
            · skip
              refine R_ifeq (pc := 140) 155 dX9_narrow_140 (by decide) (fun _ => ?_) (fun h => absurd (by decide) h)
              refine R_sipush (pc := 155) (v := 20000) dX9_narrow_155 (by decide) ?_
              refine k_X9_208 (pc := 158) (gx_X9_takenIn _ _ _ _ hV202 (iva_152 hI _ (lt_of_vp hx1))) rfl (c_140 _) (by decide) (Nat.le_refl _) (Nat.le_refl _) (Nat.le_of_ble_eq_true rfl) dX9_narrow_158 (fun w2 h => ?_)
              obtain ⟨σx222, rfl, hV221, hW223⟩ := h
              have hW224 := Cor.trans hW205 hW223
              refine inc_5_4_1_i (pc := 161) dX9_narrow_161 ?_
              have r225 : inR ((nI j10) + 1) 1 8 := inR_add (show inR (nI j10) 0 7 from hrg10) (show inR 1 1 1 from (inR_self _)) (by decide) (by decide)
              have e226 := ti_add (l := 1) (h := 8) (show inR (nI j10) 0 7 from hrg10) (show inR 1 1 1 from (inR_self _)) (by decide) (by decide)
              refine R_goto (pc := 164) 10 dX9_narrow_164 (by decide) ?_
              rw [nI_1]
              exact ih10 (j10 + 1) _ (by omega) (by omega) hV221 hW224
          · skip
            refine R_ifeq (pc := 92) 107 dX9_narrow_92 (by decide) (fun _ => ?_) (fun h => absurd (by decide) h)
            refine R_iconst (pc := 107) (v := 0) dX9_narrow_107 (by decide) ?_
            refine R_sipush (pc := 108) (v := 20000) dX9_narrow_108 (by decide) ?_
            refine k_X9_208 (pc := 111) (gx_X9_takenIn _ _ _ _ hV183 (iva_152 hI _ (lt_of_vp hx1))) rfl (c_140 _) (by decide) (Nat.le_refl _) (Nat.le_refl _) (Nat.le_of_ble_eq_true rfl) dX9_narrow_111 (fun w2 h => ?_)
            obtain ⟨σx230, rfl, hV229, hW231⟩ := h
            have hW232 := Cor.trans hW186 hW231
            refine R_aload_n (pc := 114) dX9_narrow_114 rfl rfl ?_
            refine R_iload_n (pc := 115) dX9_narrow_115 rfl rfl ?_
            refine R_iconst (pc := 116) (v := 0) dX9_narrow_116 (by decide) ?_
            refine R_aload_n (pc := 117) dX9_narrow_117 rfl rfl ?_
            refine g_X9_90 (pc := 118) (v := .ref 164) rfl dX9_narrow_118 (c_140 _) rfl ?_
            refine R_iload_n (pc := 121) dX9_narrow_121 rfl rfl ?_
            have hx233 : vp_in (σ.2.2.1 152 (Int32.toNatClampNeg c)) 20 := (vp_of_inR (iva_152 hI _ (lt_of_vp hx1)) (by decide))
            refine R_iaload (pc := 122) dX9_narrow_122 (c_164 _) hx233 ?_
            refine R_aload_n (pc := 123) dX9_narrow_123 rfl rfl ?_
            refine g_X9_66 (pc := 124) (v := .ref 156) rfl dX9_narrow_124 (c_140 _) rfl ?_
            refine R_iload (pc := 127) dX9_narrow_127 rfl ?_
            have hx234 : vp_in (nI j10) 8 := (vp_in_nI (by omega) (by decide))
            refine R_iaload (pc := 129) dX9_narrow_129 (c_156 _) hx234 ?_
            refine R_aload_n (pc := 130) dX9_narrow_130 rfl rfl ?_
            refine g_X9_69 (pc := 131) (v := .ref 157) rfl dX9_narrow_131 (c_140 _) rfl ?_
            refine R_iload (pc := 134) dX9_narrow_134 rfl ?_
            have hx235 : vp_in (nI j10) 8 := (vp_in_nI (by omega) (by decide))
            refine R_iaload (pc := 136) dX9_narrow_136 (c_157 _) hx235 ?_
            refine k_X9_124 (pc := 137) (sp_X9_in _ _ _ _) rfl (by decide) (Nat.le_refl _) (Nat.le_refl _) (Nat.le_of_ble_eq_true rfl) dX9_narrow_137 (fun x w2 h => ?_)
            rcases h with ⟨rfl, ⟨h236, rfl⟩ | ⟨h236, rfl⟩⟩
            · skip
              refine R_ifeq (pc := 140) 155 dX9_narrow_140 (by decide) (fun h => absurd h (by decide)) (fun _ => ?_)
              refine R_aload_n (pc := 143) dX9_narrow_143 rfl rfl ?_
              refine g_X9_66 (pc := 144) (v := .ref 156) rfl dX9_narrow_144 (c_140 _) rfl ?_
              refine R_iload (pc := 147) dX9_narrow_147 rfl ?_
              have hx238 : vp_in (nI j10) 8 := (vp_in_nI (by omega) (by decide))
              refine R_iaload (pc := 149) dX9_narrow_149 (c_156 _) hx238 ?_
              refine R_iconst (pc := 150) (v := 1) dX9_narrow_150 (by decide) ?_
              refine R_isub (pc := 151) dX9_narrow_151 ?_
              refine R_goto (pc := 152) 158 dX9_narrow_152 (by decide) ?_
              refine k_X9_208 (pc := 158) (gx_X9_takenIn _ _ _ _ hV229 (iva_152 hI _ (lt_of_vp hx1))) rfl (c_140 _) (by decide) (Nat.le_refl _) (Nat.le_refl _) (Nat.le_of_ble_eq_true rfl) dX9_narrow_158 (fun w2 h => ?_)
              obtain ⟨σx241, rfl, hV240, hW242⟩ := h
              have hW243 := Cor.trans hW232 hW242
              refine inc_5_4_1_i (pc := 161) dX9_narrow_161 ?_
              have r244 : inR ((nI j10) + 1) 1 8 := inR_add (show inR (nI j10) 0 7 from hrg10) (show inR 1 1 1 from (inR_self _)) (by decide) (by decide)
              have e245 := ti_add (l := 1) (h := 8) (show inR (nI j10) 0 7 from hrg10) (show inR 1 1 1 from (inR_self _)) (by decide) (by decide)
              refine R_goto (pc := 164) 10 dX9_narrow_164 (by decide) ?_
              rw [nI_1]
              exact ih10 (j10 + 1) _ (by omega) (by omega) hV240 hW243
            · skip
              refine R_ifeq (pc := 140) 155 dX9_narrow_140 (by decide) (fun _ => ?_) (fun h => absurd (by decide) h)
              refine R_sipush (pc := 155) (v := 20000) dX9_narrow_155 (by decide) ?_
              refine k_X9_208 (pc := 158) (gx_X9_takenIn _ _ _ _ hV229 (iva_152 hI _ (lt_of_vp hx1))) rfl (c_140 _) (by decide) (Nat.le_refl _) (Nat.le_refl _) (Nat.le_of_ble_eq_true rfl) dX9_narrow_158 (fun w2 h => ?_)
              obtain ⟨σx249, rfl, hV248, hW250⟩ := h
              have hW251 := Cor.trans hW232 hW250
              refine inc_5_4_1_i (pc := 161) dX9_narrow_161 ?_
              have r252 : inR ((nI j10) + 1) 1 8 := inR_add (show inR (nI j10) 0 7 from hrg10) (show inR 1 1 1 from (inR_self _)) (by decide) (by decide)
              have e253 := ti_add (l := 1) (h := 8) (show inR (nI j10) 0 7 from hrg10) (show inR 1 1 1 from (inR_self _)) (by decide) (by decide)
              refine R_goto (pc := 164) 10 dX9_narrow_164 (by decide) ?_
              rw [nI_1]
              exact ih10 (j10 + 1) _ (by omega) (by omega) hV248 hW251
  exact HL10 8 0 _ (by omega) (by omega) hI (Cor.rfl' σ)
theorem dX9_isEmpty_0 : decode cX9_isEmpty 0 = .ok (.iconst 0, 1) := by decide +kernel
theorem dX9_isEmpty_1 : decode cX9_isEmpty 1 = .ok (.istore_n 2, 1) := by decide +kernel
theorem dX9_isEmpty_2 : decode cX9_isEmpty 2 = .ok (.iconst 0, 1) := by decide +kernel
theorem dX9_isEmpty_3 : decode cX9_isEmpty 3 = .ok (.istore_n 3, 1) := by decide +kernel
theorem dX9_isEmpty_4 : decode cX9_isEmpty 4 = .ok (.iload_n 3, 1) := by decide +kernel
theorem dX9_isEmpty_5 : decode cX9_isEmpty 5 = .ok (.aload_n 0, 1) := by decide +kernel
theorem dX9_isEmpty_6 : decode cX9_isEmpty 6 = .ok (.invokevirtual 120, 3) := by decide +kernel
theorem dX9_isEmpty_9 : decode cX9_isEmpty 9 = .ok (.if_icmp .ge 64, 3) := by decide +kernel
theorem dX9_isEmpty_12 : decode cX9_isEmpty 12 = .ok (.iload_n 2, 1) := by decide +kernel
theorem dX9_isEmpty_13 : decode cX9_isEmpty 13 = .ok (.ifCond .ne 48, 3) := by decide +kernel
theorem dX9_isEmpty_16 : decode cX9_isEmpty 16 = .ok (.iload_n 3, 1) := by decide +kernel
theorem dX9_isEmpty_17 : decode cX9_isEmpty 17 = .ok (.iload_n 1, 1) := by decide +kernel
theorem dX9_isEmpty_18 : decode cX9_isEmpty 18 = .ok (.if_icmp .eq 47, 3) := by decide +kernel
theorem dX9_isEmpty_21 : decode cX9_isEmpty 21 = .ok (.aload_n 0, 1) := by decide +kernel
theorem dX9_isEmpty_22 : decode cX9_isEmpty 22 = .ok (.getfield 93, 3) := by decide +kernel
theorem dX9_isEmpty_25 : decode cX9_isEmpty 25 = .ok (.iload_n 3, 1) := by decide +kernel
theorem dX9_isEmpty_26 : decode cX9_isEmpty 26 = .ok (.iaload, 1) := by decide +kernel
theorem dX9_isEmpty_27 : decode cX9_isEmpty 27 = .ok (.aload_n 0, 1) := by decide +kernel
theorem dX9_isEmpty_28 : decode cX9_isEmpty 28 = .ok (.getfield 96, 3) := by decide +kernel
theorem dX9_isEmpty_31 : decode cX9_isEmpty 31 = .ok (.iload_n 3, 1) := by decide +kernel
theorem dX9_isEmpty_32 : decode cX9_isEmpty 32 = .ok (.iaload, 1) := by decide +kernel
theorem dX9_isEmpty_33 : decode cX9_isEmpty 33 = .ok (.if_icmp .gt 28, 3) := by decide +kernel
theorem dX9_isEmpty_36 : decode cX9_isEmpty 36 = .ok (.aload_n 0, 1) := by decide +kernel
theorem dX9_isEmpty_37 : decode cX9_isEmpty 37 = .ok (.getfield 87, 3) := by decide +kernel
theorem dX9_isEmpty_40 : decode cX9_isEmpty 40 = .ok (.aload_n 0, 1) := by decide +kernel
theorem dX9_isEmpty_41 : decode cX9_isEmpty 41 = .ok (.getfield 54, 3) := by decide +kernel
theorem dX9_isEmpty_44 : decode cX9_isEmpty 44 = .ok (.iload_n 3, 1) := by decide +kernel
theorem dX9_isEmpty_45 : decode cX9_isEmpty 45 = .ok (.iaload, 1) := by decide +kernel
theorem dX9_isEmpty_46 : decode cX9_isEmpty 46 = .ok (.iaload, 1) := by decide +kernel
theorem dX9_isEmpty_47 : decode cX9_isEmpty 47 = .ok (.aload_n 0, 1) := by decide +kernel
theorem dX9_isEmpty_48 : decode cX9_isEmpty 48 = .ok (.getfield 90, 3) := by decide +kernel
theorem dX9_isEmpty_51 : decode cX9_isEmpty 51 = .ok (.aload_n 0, 1) := by decide +kernel
theorem dX9_isEmpty_52 : decode cX9_isEmpty 52 = .ok (.getfield 54, 3) := by decide +kernel
theorem dX9_isEmpty_55 : decode cX9_isEmpty 55 = .ok (.iload_n 3, 1) := by decide +kernel
theorem dX9_isEmpty_56 : decode cX9_isEmpty 56 = .ok (.iaload, 1) := by decide +kernel
theorem dX9_isEmpty_57 : decode cX9_isEmpty 57 = .ok (.iaload, 1) := by decide +kernel
theorem dX9_isEmpty_58 : decode cX9_isEmpty 58 = .ok (.if_icmp .le 7, 3) := by decide +kernel
theorem dX9_isEmpty_61 : decode cX9_isEmpty 61 = .ok (.iconst 1, 1) := by decide +kernel
theorem dX9_isEmpty_62 : decode cX9_isEmpty 62 = .ok (.goto 4, 3) := by decide +kernel
theorem dX9_isEmpty_65 : decode cX9_isEmpty 65 = .ok (.iconst 0, 1) := by decide +kernel
theorem dX9_isEmpty_66 : decode cX9_isEmpty 66 = .ok (.istore_n 2, 1) := by decide +kernel
theorem dX9_isEmpty_67 : decode cX9_isEmpty 67 = .ok (.iinc 3 1, 3) := by decide +kernel
theorem dX9_isEmpty_70 : decode cX9_isEmpty 70 = .ok (.goto (-66), 3) := by decide +kernel
theorem dX9_isEmpty_73 : decode cX9_isEmpty 73 = .ok (.iload_n 2, 1) := by decide +kernel
theorem dX9_isEmpty_74 : decode cX9_isEmpty 74 = .ok (.ireturn, 1) := by decide +kernel
set_option maxRecDepth 100000 in
set_option maxHeartbeats 40000000 in
theorem gx_X9_isEmpty {G : vG} {l : Launch} (σ : Sg) (a : Int32) (hI : Inv σ) : Sp G l yX9_isEmpty cX9_isEmpty 4 (some .boolean) 1 0 0 [.ref 140, .int a] (WW σ) (QI (fun x w2 => w2 = WW σ)) := by
  refine Sp_of_R [(some (.ref 140)), (some (.int a)), none, none] [none, none] rfl (by simp) rfl (Nat.le_of_ble_eq_true rfl) ?_
  refine R_iconst (pc := 0) (v := 0) dX9_isEmpty_0 (by decide) ?_
  refine st_4_2_i_i (pc := 1) dX9_isEmpty_1 ?_
  refine R_iconst (pc := 2) (v := 0) dX9_isEmpty_2 (by decide) ?_
  refine st_4_3_i_i (pc := 3) dX9_isEmpty_3 ?_
  have HL4 : ∀ (q j4 : Nat) (g2_4 : Int32), j4 + q = 20 → 0 ≤ j4 → inR g2_4 0 1 → R G l yX9_isEmpty cX9_isEmpty 4 (some .boolean) 1 0 0 (QI (fun x w2 => w2 = WW σ)) 4 [(some (.ref 140)), (some (.int a)), (some (.int g2_4)), (some (.int (nI j4)))] [] (WW σ) 0 0 := by
    intro q
    induction q with
    | zero =>
      intro j4 g2_4 hj hs4 hg2_4
      obtain rfl : j4 = 20 := by omega
      refine R_iload_n (pc := 4) dX9_isEmpty_4 rfl rfl ?_
      refine R_aload_n (pc := 5) dX9_isEmpty_5 rfl rfl ?_
      refine k_X9_120 (pc := 6) (gx_X9_thereMany _ hI) rfl (c_140 _) (by decide) (Nat.le_refl _) (Nat.le_refl _) (Nat.le_of_ble_eq_true rfl) dX9_isEmpty_6 (fun y1 w2 h => ?_)
      obtain ⟨rfl, hr2⟩ := h
      refine R_icge (pc := 9) 73 dX9_isEmpty_9 (by decide) (fun _ => ?_) (fun h => absurd (Int32.not_lt.mp (inR_up hr2 (Int32.le_refl _) (by decide)).2) h)
      refine R_iload_n (pc := 73) dX9_isEmpty_73 rfl rfl ?_
      exact R_iret (pc := 74) dX9_isEmpty_74 rfl (nar01 hg2_4) (Nat.zero_le _) (Nat.zero_le _) ⟨_, rfl, rfl⟩
    | succ q ih4 =>
      intro j4 g2_4 hj hs4 hg2_4
      have hrg4 : inR (nI j4) 0 19 := inR_ix hs4 (show j4 < 20 by omega) (by decide) (by decide) (by decide)
      have hlt4 : j4 < 20 := by omega
      refine R_iload_n (pc := 4) dX9_isEmpty_4 rfl rfl ?_
      refine R_aload_n (pc := 5) dX9_isEmpty_5 rfl rfl ?_
      refine k_X9_120 (pc := 6) (gx_X9_thereMany _ hI) rfl (c_140 _) (by decide) (Nat.le_refl _) (Nat.le_refl _) (Nat.le_of_ble_eq_true rfl) dX9_isEmpty_6 (fun y4 w2 h => ?_)
      obtain ⟨rfl, hr5⟩ := h
      refine R_icge (pc := 9) 73 dX9_isEmpty_9 (by decide) (fun b9_6 => ?_) (fun b9_6 => ?_)
      · skip
        refine R_iload_n (pc := 73) dX9_isEmpty_73 rfl rfl ?_
        exact R_iret (pc := 74) dX9_isEmpty_74 rfl (nar01 hg2_4) (Nat.zero_le _) (Nat.zero_le _) ⟨_, rfl, rfl⟩
      · skip
        refine R_iload_n (pc := 12) dX9_isEmpty_12 rfl rfl ?_
        refine R_ifne (pc := 13) 61 dX9_isEmpty_13 (by decide) (fun b13_7 => ?_) (fun b13_7 => ?_)
        · skip
          refine R_iconst (pc := 61) (v := 1) dX9_isEmpty_61 (by decide) ?_
          refine R_goto (pc := 62) 66 dX9_isEmpty_62 (by decide) ?_
          refine st_4_2_i_i (pc := 66) dX9_isEmpty_66 ?_
          refine inc_4_3_1_i (pc := 67) dX9_isEmpty_67 ?_
          have r8 : inR ((nI j4) + 1) 1 20 := inR_add (show inR (nI j4) 0 19 from hrg4) (show inR 1 1 1 from (inR_self _)) (by decide) (by decide)
          have e9 := ti_add (l := 1) (h := 20) (show inR (nI j4) 0 19 from hrg4) (show inR 1 1 1 from (inR_self _)) (by decide) (by decide)
          refine R_goto (pc := 70) 4 dX9_isEmpty_70 (by decide) ?_
          rw [nI_1]
          exact ih4 (j4 + 1) _ (by omega) (by omega) (show inR 1 0 1 from ⟨by decide, by decide⟩)
        · skip
          refine R_iload_n (pc := 16) dX9_isEmpty_16 rfl rfl ?_
          refine R_iload_n (pc := 17) dX9_isEmpty_17 rfl rfl ?_
          refine R_iceq (pc := 18) 65 dX9_isEmpty_18 (by decide) (fun b18_10 => ?_) (fun b18_10 => ?_)
          · skip
            refine R_iconst (pc := 65) (v := 0) dX9_isEmpty_65 (by decide) ?_
            refine st_4_2_i_i (pc := 66) dX9_isEmpty_66 ?_
            refine inc_4_3_1_i (pc := 67) dX9_isEmpty_67 ?_
            have r11 : inR ((nI j4) + 1) 1 20 := inR_add (show inR (nI j4) 0 19 from hrg4) (show inR 1 1 1 from (inR_self _)) (by decide) (by decide)
            have e12 := ti_add (l := 1) (h := 20) (show inR (nI j4) 0 19 from hrg4) (show inR 1 1 1 from (inR_self _)) (by decide) (by decide)
            refine R_goto (pc := 70) 4 dX9_isEmpty_70 (by decide) ?_
            rw [nI_1]
            exact ih4 (j4 + 1) _ (by omega) (by omega) (show inR 0 0 1 from ⟨by decide, by decide⟩)
          · skip
            refine R_aload_n (pc := 21) dX9_isEmpty_21 rfl rfl ?_
            refine g_X9_93 (pc := 22) (v := .ref 165) rfl dX9_isEmpty_22 (c_140 _) rfl ?_
            refine R_iload_n (pc := 25) dX9_isEmpty_25 rfl rfl ?_
            have hx13 : vp_in (nI j4) 20 := (vp_in_nI (by omega) (by decide))
            refine R_iaload (pc := 26) dX9_isEmpty_26 (c_165 _) hx13 ?_
            refine R_aload_n (pc := 27) dX9_isEmpty_27 rfl rfl ?_
            refine g_X9_96 (pc := 28) (v := .ref 166) rfl dX9_isEmpty_28 (c_140 _) rfl ?_
            refine R_iload_n (pc := 31) dX9_isEmpty_31 rfl rfl ?_
            have hx14 : vp_in (nI j4) 20 := (vp_in_nI (by omega) (by decide))
            refine R_iaload (pc := 32) dX9_isEmpty_32 (c_166 _) hx14 ?_
            refine R_icgt (pc := 33) 61 dX9_isEmpty_33 (by decide) (fun b33_15 => ?_) (fun b33_15 => ?_)
            · skip
              refine R_iconst (pc := 61) (v := 1) dX9_isEmpty_61 (by decide) ?_
              refine R_goto (pc := 62) 66 dX9_isEmpty_62 (by decide) ?_
              refine st_4_2_i_i (pc := 66) dX9_isEmpty_66 ?_
              refine inc_4_3_1_i (pc := 67) dX9_isEmpty_67 ?_
              have r16 : inR ((nI j4) + 1) 1 20 := inR_add (show inR (nI j4) 0 19 from hrg4) (show inR 1 1 1 from (inR_self _)) (by decide) (by decide)
              have e17 := ti_add (l := 1) (h := 20) (show inR (nI j4) 0 19 from hrg4) (show inR 1 1 1 from (inR_self _)) (by decide) (by decide)
              refine R_goto (pc := 70) 4 dX9_isEmpty_70 (by decide) ?_
              rw [nI_1]
              exact ih4 (j4 + 1) _ (by omega) (by omega) (show inR 1 0 1 from ⟨by decide, by decide⟩)
            · skip
              refine R_aload_n (pc := 36) dX9_isEmpty_36 rfl rfl ?_
              refine g_X9_87 (pc := 37) (v := .ref 163) rfl dX9_isEmpty_37 (c_140 _) rfl ?_
              refine R_aload_n (pc := 40) dX9_isEmpty_40 rfl rfl ?_
              refine g_X9_54 (pc := 41) (v := .ref 152) rfl dX9_isEmpty_41 (c_140 _) rfl ?_
              refine R_iload_n (pc := 44) dX9_isEmpty_44 rfl rfl ?_
              have hx18 : vp_in (nI j4) 20 := (vp_in_nI (by omega) (by decide))
              refine R_iaload (pc := 45) dX9_isEmpty_45 (c_152 _) hx18 ?_
              have hx19 : vp_in (σ.2.2.1 152 (Int32.toNatClampNeg (nI j4))) 20 := (vp_of_inR (iva_152 hI _ (lt_of_vp hx18)) (by decide))
              refine R_iaload (pc := 46) dX9_isEmpty_46 (c_163 _) hx19 ?_
              refine R_aload_n (pc := 47) dX9_isEmpty_47 rfl rfl ?_
              refine g_X9_90 (pc := 48) (v := .ref 164) rfl dX9_isEmpty_48 (c_140 _) rfl ?_
              refine R_aload_n (pc := 51) dX9_isEmpty_51 rfl rfl ?_
              refine g_X9_54 (pc := 52) (v := .ref 152) rfl dX9_isEmpty_52 (c_140 _) rfl ?_
              refine R_iload_n (pc := 55) dX9_isEmpty_55 rfl rfl ?_
              have hx20 : vp_in (nI j4) 20 := (vp_in_nI (by omega) (by decide))
              refine R_iaload (pc := 56) dX9_isEmpty_56 (c_152 _) hx20 ?_
              have hx21 : vp_in (σ.2.2.1 152 (Int32.toNatClampNeg (nI j4))) 20 := (vp_of_inR (iva_152 hI _ (lt_of_vp hx18)) (by decide))
              refine R_iaload (pc := 57) dX9_isEmpty_57 (c_164 _) hx21 ?_
              refine R_icle (pc := 58) 65 dX9_isEmpty_58 (by decide) (fun b58_22 => ?_) (fun b58_22 => ?_)
              · skip
                refine R_iconst (pc := 65) (v := 0) dX9_isEmpty_65 (by decide) ?_
                refine st_4_2_i_i (pc := 66) dX9_isEmpty_66 ?_
                refine inc_4_3_1_i (pc := 67) dX9_isEmpty_67 ?_
                have r23 : inR ((nI j4) + 1) 1 20 := inR_add (show inR (nI j4) 0 19 from hrg4) (show inR 1 1 1 from (inR_self _)) (by decide) (by decide)
                have e24 := ti_add (l := 1) (h := 20) (show inR (nI j4) 0 19 from hrg4) (show inR 1 1 1 from (inR_self _)) (by decide) (by decide)
                refine R_goto (pc := 70) 4 dX9_isEmpty_70 (by decide) ?_
                rw [nI_1]
                exact ih4 (j4 + 1) _ (by omega) (by omega) (show inR 0 0 1 from ⟨by decide, by decide⟩)
              · skip
                refine R_iconst (pc := 61) (v := 1) dX9_isEmpty_61 (by decide) ?_
                refine R_goto (pc := 62) 66 dX9_isEmpty_62 (by decide) ?_
                refine st_4_2_i_i (pc := 66) dX9_isEmpty_66 ?_
                refine inc_4_3_1_i (pc := 67) dX9_isEmpty_67 ?_
                have r25 : inR ((nI j4) + 1) 1 20 := inR_add (show inR (nI j4) 0 19 from hrg4) (show inR 1 1 1 from (inR_self _)) (by decide) (by decide)
                have e26 := ti_add (l := 1) (h := 20) (show inR (nI j4) 0 19 from hrg4) (show inR 1 1 1 from (inR_self _)) (by decide) (by decide)
                refine R_goto (pc := 70) 4 dX9_isEmpty_70 (by decide) ?_
                rw [nI_1]
                exact ih4 (j4 + 1) _ (by omega) (by omega) (show inR 1 0 1 from ⟨by decide, by decide⟩)
  exact HL4 20 0 _ (by omega) (by omega) (show inR 0 0 1 from ⟨by decide, by decide⟩)
