/-! methods on any state that keeps the invariant -/
theorem dX8_timesSeen_0 : decode cX8_timesSeen 0 = .ok (.aload_n 0, 1) := by decide +kernel
theorem dX8_timesSeen_1 : decode cX8_timesSeen 1 = .ok (.getfield 10, 3) := by decide +kernel
theorem dX8_timesSeen_4 : decode cX8_timesSeen 4 = .ok (.aload_n 0, 1) := by decide +kernel
theorem dX8_timesSeen_5 : decode cX8_timesSeen 5 = .ok (.getfield 21, 3) := by decide +kernel
theorem dX8_timesSeen_8 : decode cX8_timesSeen 8 = .ok (.iload_n 1, 1) := by decide +kernel
theorem dX8_timesSeen_9 : decode cX8_timesSeen 9 = .ok (.aload_n 0, 1) := by decide +kernel
theorem dX8_timesSeen_10 : decode cX8_timesSeen 10 = .ok (.getfield 10, 3) := by decide +kernel
theorem dX8_timesSeen_13 : decode cX8_timesSeen 13 = .ok (.invokevirtual 126, 3) := by decide +kernel
theorem dX8_timesSeen_16 : decode cX8_timesSeen 16 = .ok (.invokevirtual 144, 3) := by decide +kernel
theorem dX8_timesSeen_19 : decode cX8_timesSeen 19 = .ok (.invokevirtual 164, 3) := by decide +kernel
theorem dX8_timesSeen_22 : decode cX8_timesSeen 22 = .ok (.invokestatic 159, 3) := by decide +kernel
theorem dX8_timesSeen_25 : decode cX8_timesSeen 25 = .ok (.ireturn, 1) := by decide +kernel
set_option maxRecDepth 100000 in
set_option maxHeartbeats 40000000 in
theorem gx_X8_timesSeen {G : vG} {l : Launch} (σ : Sg) (c : Int32) (hI : Inv σ) (hc : inR c 0 19) : Sp G l yX8_timesSeen cX8_timesSeen 2 (some .int) 4 0 0 [.ref 0, .int c] (WW σ) (QI (fun x w2 => w2 = WW σ)) := by
  refine Sp_of_R [(some (.ref 0)), (some (.int c))] [] rfl (by simp) rfl (Nat.le_of_ble_eq_true rfl) ?_
  refine R_aload_n (pc := 0) dX8_timesSeen_0 rfl rfl ?_
  refine g_X8_10 (pc := 1) (v := .ref 1) rfl dX8_timesSeen_1 (c_0 _) rfl ?_
  refine R_aload_n (pc := 4) dX8_timesSeen_4 rfl rfl ?_
  refine g_X8_21 (pc := 5) (v := .ref 12) rfl dX8_timesSeen_5 (c_0 _) rfl ?_
  refine R_iload_n (pc := 8) dX8_timesSeen_8 rfl rfl ?_
  refine R_aload_n (pc := 9) dX8_timesSeen_9 rfl rfl ?_
  refine g_X8_10 (pc := 10) (v := .ref 1) rfl dX8_timesSeen_10 (c_0 _) rfl ?_
  refine k_X8_126 (pc := 13) (gx_X0_there _ hI) rfl (c_1 _) (by decide) (Nat.le_refl _) (Nat.le_refl _) (Nat.le_of_ble_eq_true rfl) dX8_timesSeen_13 (fun y1 w2 h => ?_)
  subst h
  refine k_X8_144 (pc := 16) (gx_X3_sameCard _ _ _ hI hc) rfl (c_12 _) (by decide) (Nat.le_refl _) (Nat.le_refl _) (Nat.le_of_ble_eq_true rfl) dX8_timesSeen_16 (fun y2 w2 h => ?_)
  subst h
  refine k_X8_164 (pc := 19) (gx_X0_listsOf _ _ hI) rfl (c_1 _) (by decide) (Nat.le_refl _) (Nat.le_refl _) (Nat.le_of_ble_eq_true rfl) dX8_timesSeen_19 (fun y3 w2 h => ?_)
  subst h
  refine k_X8_159 (pc := 22) (sp_J6_bitCount_0f7a4 _ _) rfl (by decide) (Nat.le_refl _) (Nat.le_refl _) (Nat.le_of_ble_eq_true rfl) dX8_timesSeen_22 (fun y4 w2 h => ?_)
  obtain ⟨rfl, -⟩ := h
  exact R_iret (pc := 25) dX8_timesSeen_25 rfl rfl (Nat.zero_le _) (Nat.zero_le _) ⟨_, rfl, rfl⟩
theorem dX8_priceOf_0 : decode cX8_priceOf 0 = .ok (.aload_n 0, 1) := by decide +kernel
theorem dX8_priceOf_1 : decode cX8_priceOf 1 = .ok (.getfield 68, 3) := by decide +kernel
theorem dX8_priceOf_4 : decode cX8_priceOf 4 = .ok (.iconst 1, 1) := by decide +kernel
theorem dX8_priceOf_5 : decode cX8_priceOf 5 = .ok (.aload_n 0, 1) := by decide +kernel
theorem dX8_priceOf_6 : decode cX8_priceOf 6 = .ok (.iload_n 1, 1) := by decide +kernel
theorem dX8_priceOf_7 : decode cX8_priceOf 7 = .ok (.invokevirtual 147, 3) := by decide +kernel
theorem dX8_priceOf_10 : decode cX8_priceOf 10 = .ok (.invokestatic 167, 3) := by decide +kernel
theorem dX8_priceOf_13 : decode cX8_priceOf 13 = .ok (.idiv, 1) := by decide +kernel
theorem dX8_priceOf_14 : decode cX8_priceOf 14 = .ok (.istore_n 2, 1) := by decide +kernel
theorem dX8_priceOf_15 : decode cX8_priceOf 15 = .ok (.aload_n 0, 1) := by decide +kernel
theorem dX8_priceOf_16 : decode cX8_priceOf 16 = .ok (.getfield 28, 3) := by decide +kernel
theorem dX8_priceOf_19 : decode cX8_priceOf 19 = .ok (.aload_n 0, 1) := by decide +kernel
theorem dX8_priceOf_20 : decode cX8_priceOf 20 = .ok (.getfield 10, 3) := by decide +kernel
theorem dX8_priceOf_23 : decode cX8_priceOf 23 = .ok (.getfield 172, 3) := by decide +kernel
theorem dX8_priceOf_26 : decode cX8_priceOf 26 = .ok (.iload_n 1, 1) := by decide +kernel
theorem dX8_priceOf_27 : decode cX8_priceOf 27 = .ok (.iaload, 1) := by decide +kernel
theorem dX8_priceOf_28 : decode cX8_priceOf 28 = .ok (.invokevirtual 175, 3) := by decide +kernel
theorem dX8_priceOf_31 : decode cX8_priceOf 31 = .ok (.aload_n 0, 1) := by decide +kernel
theorem dX8_priceOf_32 : decode cX8_priceOf 32 = .ok (.getfield 28, 3) := by decide +kernel
theorem dX8_priceOf_35 : decode cX8_priceOf 35 = .ok (.aload_n 0, 1) := by decide +kernel
theorem dX8_priceOf_36 : decode cX8_priceOf 36 = .ok (.getfield 10, 3) := by decide +kernel
theorem dX8_priceOf_39 : decode cX8_priceOf 39 = .ok (.getfield 178, 3) := by decide +kernel
theorem dX8_priceOf_42 : decode cX8_priceOf 42 = .ok (.iload_n 1, 1) := by decide +kernel
theorem dX8_priceOf_43 : decode cX8_priceOf 43 = .ok (.iaload, 1) := by decide +kernel
theorem dX8_priceOf_44 : decode cX8_priceOf 44 = .ok (.invokevirtual 181, 3) := by decide +kernel
theorem dX8_priceOf_47 : decode cX8_priceOf 47 = .ok (.ifCond .eq 9, 3) := by decide +kernel
theorem dX8_priceOf_50 : decode cX8_priceOf 50 = .ok (.iload_n 2, 1) := by decide +kernel
theorem dX8_priceOf_51 : decode cX8_priceOf 51 = .ok (.iload_n 2, 1) := by decide +kernel
theorem dX8_priceOf_52 : decode cX8_priceOf 52 = .ok (.iconst 2, 1) := by decide +kernel
theorem dX8_priceOf_53 : decode cX8_priceOf 53 = .ok (.idiv, 1) := by decide +kernel
theorem dX8_priceOf_54 : decode cX8_priceOf 54 = .ok (.iadd, 1) := by decide +kernel
theorem dX8_priceOf_55 : decode cX8_priceOf 55 = .ok (.istore_n 2, 1) := by decide +kernel
theorem dX8_priceOf_56 : decode cX8_priceOf 56 = .ok (.aload_n 0, 1) := by decide +kernel
theorem dX8_priceOf_57 : decode cX8_priceOf 57 = .ok (.getfield 21, 3) := by decide +kernel
theorem dX8_priceOf_60 : decode cX8_priceOf 60 = .ok (.iload_n 1, 1) := by decide +kernel
theorem dX8_priceOf_61 : decode cX8_priceOf 61 = .ok (.aload_n 0, 1) := by decide +kernel
theorem dX8_priceOf_62 : decode cX8_priceOf 62 = .ok (.getfield 10, 3) := by decide +kernel
theorem dX8_priceOf_65 : decode cX8_priceOf 65 = .ok (.invokevirtual 126, 3) := by decide +kernel
theorem dX8_priceOf_68 : decode cX8_priceOf 68 = .ok (.invokevirtual 150, 3) := by decide +kernel
theorem dX8_priceOf_71 : decode cX8_priceOf 71 = .ok (.ifCond .le 9, 3) := by decide +kernel
theorem dX8_priceOf_74 : decode cX8_priceOf 74 = .ok (.iload_n 2, 1) := by decide +kernel
theorem dX8_priceOf_75 : decode cX8_priceOf 75 = .ok (.iload_n 2, 1) := by decide +kernel
theorem dX8_priceOf_76 : decode cX8_priceOf 76 = .ok (.iconst 4, 1) := by decide +kernel
theorem dX8_priceOf_77 : decode cX8_priceOf 77 = .ok (.idiv, 1) := by decide +kernel
theorem dX8_priceOf_78 : decode cX8_priceOf 78 = .ok (.isub, 1) := by decide +kernel
theorem dX8_priceOf_79 : decode cX8_priceOf 79 = .ok (.istore_n 2, 1) := by decide +kernel
theorem dX8_priceOf_80 : decode cX8_priceOf 80 = .ok (.iload_n 2, 1) := by decide +kernel
theorem dX8_priceOf_81 : decode cX8_priceOf 81 = .ok (.ireturn, 1) := by decide +kernel
theorem dX8_of_0 : decode cX8_of 0 = .ok (.aload_n 0, 1) := by decide +kernel
theorem dX8_of_1 : decode cX8_of 1 = .ok (.getfield 10, 3) := by decide +kernel
theorem dX8_of_4 : decode cX8_of 4 = .ok (.iload_n 1, 1) := by decide +kernel
theorem dX8_of_5 : decode cX8_of 5 = .ok (.invokevirtual 90, 3) := by decide +kernel
theorem dX8_of_8 : decode cX8_of 8 = .ok (.ifCond .ne 6, 3) := by decide +kernel
theorem dX8_of_11 : decode cX8_of 11 = .ok (.bipush (-2), 2) := by decide +kernel
theorem dX8_of_13 : decode cX8_of 13 = .ok (.ireturn, 1) := by decide +kernel
theorem dX8_of_14 : decode cX8_of 14 = .ok (.iload_n 2, 1) := by decide +kernel
theorem dX8_of_15 : decode cX8_of 15 = .ok (.tableswitch 106 0 4 #[33, 52, 58, 74, 80], 33) := by decide +kernel
theorem dX8_of_48 : decode cX8_of 48 = .ok (.aload_n 0, 1) := by decide +kernel
theorem dX8_of_49 : decode cX8_of 49 = .ok (.getfield 21, 3) := by decide +kernel
theorem dX8_of_52 : decode cX8_of 52 = .ok (.iload_n 1, 1) := by decide +kernel
theorem dX8_of_53 : decode cX8_of 53 = .ok (.aload_n 0, 1) := by decide +kernel
theorem dX8_of_54 : decode cX8_of 54 = .ok (.getfield 10, 3) := by decide +kernel
theorem dX8_of_57 : decode cX8_of 57 = .ok (.invokevirtual 126, 3) := by decide +kernel
theorem dX8_of_60 : decode cX8_of 60 = .ok (.invokevirtual 144, 3) := by decide +kernel
theorem dX8_of_63 : decode cX8_of 63 = .ok (.invokestatic 134, 3) := by decide +kernel
theorem dX8_of_66 : decode cX8_of 66 = .ok (.ireturn, 1) := by decide +kernel
theorem dX8_of_67 : decode cX8_of 67 = .ok (.aload_n 0, 1) := by decide +kernel
theorem dX8_of_68 : decode cX8_of 68 = .ok (.iload_n 1, 1) := by decide +kernel
theorem dX8_of_69 : decode cX8_of 69 = .ok (.invokevirtual 147, 3) := by decide +kernel
theorem dX8_of_72 : decode cX8_of 72 = .ok (.ireturn, 1) := by decide +kernel
theorem dX8_of_73 : decode cX8_of 73 = .ok (.aload_n 0, 1) := by decide +kernel
theorem dX8_of_74 : decode cX8_of 74 = .ok (.getfield 21, 3) := by decide +kernel
theorem dX8_of_77 : decode cX8_of 77 = .ok (.iload_n 1, 1) := by decide +kernel
theorem dX8_of_78 : decode cX8_of 78 = .ok (.aload_n 0, 1) := by decide +kernel
theorem dX8_of_79 : decode cX8_of 79 = .ok (.getfield 10, 3) := by decide +kernel
theorem dX8_of_82 : decode cX8_of 82 = .ok (.invokevirtual 126, 3) := by decide +kernel
theorem dX8_of_85 : decode cX8_of 85 = .ok (.invokevirtual 150, 3) := by decide +kernel
theorem dX8_of_88 : decode cX8_of 88 = .ok (.ireturn, 1) := by decide +kernel
theorem dX8_of_89 : decode cX8_of 89 = .ok (.aload_n 0, 1) := by decide +kernel
theorem dX8_of_90 : decode cX8_of 90 = .ok (.iload_n 1, 1) := by decide +kernel
theorem dX8_of_91 : decode cX8_of 91 = .ok (.invokevirtual 153, 3) := by decide +kernel
theorem dX8_of_94 : decode cX8_of 94 = .ok (.ireturn, 1) := by decide +kernel
theorem dX8_of_95 : decode cX8_of 95 = .ok (.aload_n 0, 1) := by decide +kernel
theorem dX8_of_96 : decode cX8_of 96 = .ok (.getfield 10, 3) := by decide +kernel
theorem dX8_of_99 : decode cX8_of 99 = .ok (.aload_n 0, 1) := by decide +kernel
theorem dX8_of_100 : decode cX8_of 100 = .ok (.getfield 21, 3) := by decide +kernel
theorem dX8_of_103 : decode cX8_of 103 = .ok (.iload_n 1, 1) := by decide +kernel
theorem dX8_of_104 : decode cX8_of 104 = .ok (.aload_n 0, 1) := by decide +kernel
theorem dX8_of_105 : decode cX8_of 105 = .ok (.getfield 10, 3) := by decide +kernel
theorem dX8_of_108 : decode cX8_of 108 = .ok (.invokevirtual 126, 3) := by decide +kernel
theorem dX8_of_111 : decode cX8_of 111 = .ok (.invokevirtual 130, 3) := by decide +kernel
theorem dX8_of_114 : decode cX8_of 114 = .ok (.invokevirtual 156, 3) := by decide +kernel
theorem dX8_of_117 : decode cX8_of 117 = .ok (.invokestatic 159, 3) := by decide +kernel
theorem dX8_of_120 : decode cX8_of 120 = .ok (.ireturn, 1) := by decide +kernel
theorem dX8_of_121 : decode cX8_of 121 = .ok (.bipush (-3), 2) := by decide +kernel
theorem dX8_of_123 : decode cX8_of 123 = .ok (.ireturn, 1) := by decide +kernel
theorem dX8_series_0 : decode cX8_series 0 = .ok (.iload_n 1, 1) := by decide +kernel
theorem dX8_series_1 : decode cX8_series 1 = .ok (.iconst 0, 1) := by decide +kernel
theorem dX8_series_2 : decode cX8_series 2 = .ok (.iconst 4, 1) := by decide +kernel
theorem dX8_series_3 : decode cX8_series 3 = .ok (.invokestatic 72, 3) := by decide +kernel
theorem dX8_series_6 : decode cX8_series 6 = .ok (.ifCond .ne 6, 3) := by decide +kernel
theorem dX8_series_9 : decode cX8_series 9 = .ok (.bipush (-2), 2) := by decide +kernel
theorem dX8_series_11 : decode cX8_series 11 = .ok (.ireturn, 1) := by decide +kernel
theorem dX8_series_12 : decode cX8_series 12 = .ok (.aload_n 0, 1) := by decide +kernel
theorem dX8_series_13 : decode cX8_series 13 = .ok (.getfield 28, 3) := by decide +kernel
theorem dX8_series_16 : decode cX8_series 16 = .ok (.iload_n 1, 1) := by decide +kernel
theorem dX8_series_17 : decode cX8_series 17 = .ok (.invokevirtual 175, 3) := by decide +kernel
theorem dX8_series_20 : decode cX8_series 20 = .ok (.iload_n 2, 1) := by decide +kernel
theorem dX8_series_21 : decode cX8_series 21 = .ok (.tableswitch 75 0 4 #[35, 43, 51, 59, 67], 35) := by decide +kernel
theorem dX8_series_56 : decode cX8_series 56 = .ok (.aload_n 0, 1) := by decide +kernel
theorem dX8_series_57 : decode cX8_series 57 = .ok (.getfield 28, 3) := by decide +kernel
theorem dX8_series_60 : decode cX8_series 60 = .ok (.getfield 184, 3) := by decide +kernel
theorem dX8_series_63 : decode cX8_series 63 = .ok (.ireturn, 1) := by decide +kernel
theorem dX8_series_64 : decode cX8_series 64 = .ok (.aload_n 0, 1) := by decide +kernel
theorem dX8_series_65 : decode cX8_series 65 = .ok (.getfield 28, 3) := by decide +kernel
theorem dX8_series_68 : decode cX8_series 68 = .ok (.getfield 185, 3) := by decide +kernel
theorem dX8_series_71 : decode cX8_series 71 = .ok (.ireturn, 1) := by decide +kernel
theorem dX8_series_72 : decode cX8_series 72 = .ok (.aload_n 0, 1) := by decide +kernel
theorem dX8_series_73 : decode cX8_series 73 = .ok (.getfield 28, 3) := by decide +kernel
theorem dX8_series_76 : decode cX8_series 76 = .ok (.getfield 188, 3) := by decide +kernel
theorem dX8_series_79 : decode cX8_series 79 = .ok (.ireturn, 1) := by decide +kernel
theorem dX8_series_80 : decode cX8_series 80 = .ok (.aload_n 0, 1) := by decide +kernel
theorem dX8_series_81 : decode cX8_series 81 = .ok (.getfield 28, 3) := by decide +kernel
theorem dX8_series_84 : decode cX8_series 84 = .ok (.invokevirtual 191, 3) := by decide +kernel
theorem dX8_series_87 : decode cX8_series 87 = .ok (.ireturn, 1) := by decide +kernel
theorem dX8_series_88 : decode cX8_series 88 = .ok (.aload_n 0, 1) := by decide +kernel
theorem dX8_series_89 : decode cX8_series 89 = .ok (.getfield 28, 3) := by decide +kernel
theorem dX8_series_92 : decode cX8_series 92 = .ok (.invokevirtual 194, 3) := by decide +kernel
theorem dX8_series_95 : decode cX8_series 95 = .ok (.ireturn, 1) := by decide +kernel
theorem dX8_series_96 : decode cX8_series 96 = .ok (.bipush (-3), 2) := by decide +kernel
theorem dX8_series_98 : decode cX8_series 98 = .ok (.ireturn, 1) := by decide +kernel
set_option maxRecDepth 100000 in
set_option maxHeartbeats 40000000 in
theorem gp_series {G : vG} {l : Launch} (σ : Sg) (a b : Int32) (hI : Inv σ) : Sp G l yX8_series cX8_series 3 (some .int) 2 0 0 [.ref 0, .int a, .int b] (WW σ) (QI (fun _ w2 => ∃ σ2, w2 = WW σ2 ∧ Inv σ2 ∧ Cor σ σ2)) := by
  refine Sp_of_R [(some (.ref 0)), (some (.int a)), (some (.int b))] [] rfl (by simp) rfl (Nat.le_of_ble_eq_true rfl) ?_
  refine R_iload_n (pc := 0) dX8_series_0 rfl rfl ?_
  refine R_iconst (pc := 1) (v := 0) dX8_series_1 (by decide) ?_
  refine R_iconst (pc := 2) (v := 4) dX8_series_2 (by decide) ?_
  refine k_X8_72 (pc := 3) (sp_X8_isWithin _ _ _ _) rfl (by decide) (Nat.le_refl _) (Nat.le_refl _) (Nat.le_of_ble_eq_true rfl) dX8_series_3 (fun x w2 h => ?_)
  rcases h with ⟨rfl, ⟨h1, rfl⟩ | ⟨h1, rfl⟩⟩
  · skip
    refine R_ifne (pc := 6) 12 dX8_series_6 (by decide) (fun _ => ?_) (fun h => absurd h (by decide))
    refine R_aload_n (pc := 12) dX8_series_12 rfl rfl ?_
    refine g_X8_28 (pc := 13) (v := .ref 56) rfl dX8_series_13 (c_0 _) rfl ?_
    refine R_iload_n (pc := 16) dX8_series_16 rfl rfl ?_
    refine k_X8_175 (pc := 17) (gx_X5_gather _ _ hI) rfl (c_56 _) (by decide) (Nat.le_refl _) (Nat.le_refl _) (Nat.le_of_ble_eq_true rfl) dX8_series_17 (fun w2 h => ?_)
    obtain ⟨σx5, rfl, hV4, hW6⟩ := h
    have hW7 := Cor.trans (show Cor σ σ from Cor.rfl' σ) hW6
    refine R_iload_n (pc := 20) dX8_series_20 rfl rfl ?_
    rcases sw4 b with rfl | rfl | rfl | rfl | rfl | hsw
    · skip
      refine R_tin (pc := 21) 56 dX8_series_21 (by decide) (by decide) rfl (by decide) ?_
      refine R_aload_n (pc := 56) dX8_series_56 rfl rfl ?_
      refine g_X8_28 (pc := 57) (v := .ref 56) rfl dX8_series_57 (c_0 _) rfl ?_
      refine g_X8_184 (pc := 60) (v := .int (σx5.1 5602)) rfl dX8_series_60 (c_56 _) rfl ?_
      exact R_iret (pc := 63) dX8_series_63 rfl rfl (Nat.zero_le _) (Nat.zero_le _) ⟨_, rfl, _, rfl, hV4, hW7⟩
    · skip
      refine R_tin (pc := 21) 64 dX8_series_21 (by decide) (by decide) rfl (by decide) ?_
      refine R_aload_n (pc := 64) dX8_series_64 rfl rfl ?_
      refine g_X8_28 (pc := 65) (v := .ref 56) rfl dX8_series_65 (c_0 _) rfl ?_
      refine g_X8_185 (pc := 68) (v := .int (σx5.1 5603)) rfl dX8_series_68 (c_56 _) rfl ?_
      exact R_iret (pc := 71) dX8_series_71 rfl rfl (Nat.zero_le _) (Nat.zero_le _) ⟨_, rfl, _, rfl, hV4, hW7⟩
    · skip
      refine R_tin (pc := 21) 72 dX8_series_21 (by decide) (by decide) rfl (by decide) ?_
      refine R_aload_n (pc := 72) dX8_series_72 rfl rfl ?_
      refine g_X8_28 (pc := 73) (v := .ref 56) rfl dX8_series_73 (c_0 _) rfl ?_
      refine g_X8_188 (pc := 76) (v := .int (σx5.1 5604)) rfl dX8_series_76 (c_56 _) rfl ?_
      exact R_iret (pc := 79) dX8_series_79 rfl rfl (Nat.zero_le _) (Nat.zero_le _) ⟨_, rfl, _, rfl, hV4, hW7⟩
    · skip
      refine R_tin (pc := 21) 80 dX8_series_21 (by decide) (by decide) rfl (by decide) ?_
      refine R_aload_n (pc := 80) dX8_series_80 rfl rfl ?_
      refine g_X8_28 (pc := 81) (v := .ref 56) rfl dX8_series_81 (c_0 _) rfl ?_
      refine k_X8_191 (pc := 84) (gx_X5_missing _ hV4) rfl (c_56 _) (by decide) (Nat.le_refl _) (Nat.le_refl _) (Nat.le_of_ble_eq_true rfl) dX8_series_84 (fun y8 w2 h => ?_)
      subst h
      exact R_iret (pc := 87) dX8_series_87 rfl rfl (Nat.zero_le _) (Nat.zero_le _) ⟨_, rfl, _, rfl, hV4, hW7⟩
    · skip
      refine R_tin (pc := 21) 88 dX8_series_21 (by decide) (by decide) rfl (by decide) ?_
      refine R_aload_n (pc := 88) dX8_series_88 rfl rfl ?_
      refine g_X8_28 (pc := 89) (v := .ref 56) rfl dX8_series_89 (c_0 _) rfl ?_
      refine k_X8_194 (pc := 92) (gx_X5_gaps _ hV4) rfl (c_56 _) (by decide) (Nat.le_refl _) (Nat.le_refl _) (Nat.le_of_ble_eq_true rfl) dX8_series_92 (fun y9 w2 h => ?_)
      subst h
      exact R_iret (pc := 95) dX8_series_95 rfl rfl (Nat.zero_le _) (Nat.zero_le _) ⟨_, rfl, _, rfl, hV4, hW7⟩
    · skip
      refine R_tout (pc := 21) 96 dX8_series_21 hsw (by decide) ?_
      refine R_bipush (pc := 96) (v := (-3)) dX8_series_96 (by decide) ?_
      exact R_iret (pc := 98) dX8_series_98 rfl rfl (Nat.zero_le _) (Nat.zero_le _) ⟨_, rfl, _, rfl, hV4, hW7⟩
  · skip
    refine R_ifne (pc := 6) 12 dX8_series_6 (by decide) (fun h => absurd (by decide) h) (fun _ => ?_)
    refine R_bipush (pc := 9) (v := (-2)) dX8_series_9 (by decide) ?_
    exact R_iret (pc := 11) dX8_series_11 rfl rfl (Nat.zero_le _) (Nat.zero_le _) ⟨_, rfl, _, rfl, hI, (show Cor σ σ from Cor.rfl' σ)⟩
theorem dX8_gap_0 : decode cX8_gap 0 = .ok (.iload_n 1, 1) := by decide +kernel
theorem dX8_gap_1 : decode cX8_gap 1 = .ok (.iconst 0, 1) := by decide +kernel
theorem dX8_gap_2 : decode cX8_gap 2 = .ok (.iconst 4, 1) := by decide +kernel
theorem dX8_gap_3 : decode cX8_gap 3 = .ok (.invokestatic 72, 3) := by decide +kernel
theorem dX8_gap_6 : decode cX8_gap 6 = .ok (.ifCond .ne 6, 3) := by decide +kernel
theorem dX8_gap_9 : decode cX8_gap 9 = .ok (.bipush (-2), 2) := by decide +kernel
theorem dX8_gap_11 : decode cX8_gap 11 = .ok (.ireturn, 1) := by decide +kernel
theorem dX8_gap_12 : decode cX8_gap 12 = .ok (.iload_n 2, 1) := by decide +kernel
theorem dX8_gap_13 : decode cX8_gap 13 = .ok (.ifCond .ge 6, 3) := by decide +kernel
theorem dX8_gap_16 : decode cX8_gap 16 = .ok (.bipush (-3), 2) := by decide +kernel
theorem dX8_gap_18 : decode cX8_gap 18 = .ok (.ireturn, 1) := by decide +kernel
theorem dX8_gap_19 : decode cX8_gap 19 = .ok (.aload_n 0, 1) := by decide +kernel
theorem dX8_gap_20 : decode cX8_gap 20 = .ok (.getfield 28, 3) := by decide +kernel
theorem dX8_gap_23 : decode cX8_gap 23 = .ok (.iload_n 1, 1) := by decide +kernel
theorem dX8_gap_24 : decode cX8_gap 24 = .ok (.invokevirtual 175, 3) := by decide +kernel
theorem dX8_gap_27 : decode cX8_gap 27 = .ok (.aload_n 0, 1) := by decide +kernel
theorem dX8_gap_28 : decode cX8_gap 28 = .ok (.getfield 28, 3) := by decide +kernel
theorem dX8_gap_31 : decode cX8_gap 31 = .ok (.iload_n 2, 1) := by decide +kernel
theorem dX8_gap_32 : decode cX8_gap 32 = .ok (.invokevirtual 197, 3) := by decide +kernel
theorem dX8_gap_35 : decode cX8_gap 35 = .ok (.ireturn, 1) := by decide +kernel
set_option maxRecDepth 100000 in
set_option maxHeartbeats 40000000 in
theorem gp_gap {G : vG} {l : Launch} (σ : Sg) (a b : Int32) (hI : Inv σ) : Sp G l yX8_gap cX8_gap 3 (some .int) 2 0 0 [.ref 0, .int a, .int b] (WW σ) (QI (fun _ w2 => ∃ σ2, w2 = WW σ2 ∧ Inv σ2 ∧ Cor σ σ2)) := by
  refine Sp_of_R [(some (.ref 0)), (some (.int a)), (some (.int b))] [] rfl (by simp) rfl (Nat.le_of_ble_eq_true rfl) ?_
  refine R_iload_n (pc := 0) dX8_gap_0 rfl rfl ?_
  refine R_iconst (pc := 1) (v := 0) dX8_gap_1 (by decide) ?_
  refine R_iconst (pc := 2) (v := 4) dX8_gap_2 (by decide) ?_
  refine k_X8_72 (pc := 3) (sp_X8_isWithin _ _ _ _) rfl (by decide) (Nat.le_refl _) (Nat.le_refl _) (Nat.le_of_ble_eq_true rfl) dX8_gap_3 (fun x w2 h => ?_)
  rcases h with ⟨rfl, ⟨h1, rfl⟩ | ⟨h1, rfl⟩⟩
  · skip
    refine R_ifne (pc := 6) 12 dX8_gap_6 (by decide) (fun _ => ?_) (fun h => absurd h (by decide))
    refine R_iload_n (pc := 12) dX8_gap_12 rfl rfl ?_
    refine R_ifge (pc := 13) 19 dX8_gap_13 (by decide) (fun b13_3 => ?_) (fun b13_3 => ?_)
    · skip
      refine R_aload_n (pc := 19) dX8_gap_19 rfl rfl ?_
      refine g_X8_28 (pc := 20) (v := .ref 56) rfl dX8_gap_20 (c_0 _) rfl ?_
      refine R_iload_n (pc := 23) dX8_gap_23 rfl rfl ?_
      refine k_X8_175 (pc := 24) (gx_X5_gather _ _ hI) rfl (c_56 _) (by decide) (Nat.le_refl _) (Nat.le_refl _) (Nat.le_of_ble_eq_true rfl) dX8_gap_24 (fun w2 h => ?_)
      obtain ⟨σx6, rfl, hV5, hW7⟩ := h
      have hW8 := Cor.trans (show Cor σ σ from Cor.rfl' σ) hW7
      refine R_aload_n (pc := 27) dX8_gap_27 rfl rfl ?_
      refine g_X8_28 (pc := 28) (v := .ref 56) rfl dX8_gap_28 (c_0 _) rfl ?_
      refine R_iload_n (pc := 31) dX8_gap_31 rfl rfl ?_
      refine k_X8_197 (pc := 32) (gx_X5_gapAt _ _ hV5) rfl (c_56 _) (by decide) (Nat.le_refl _) (Nat.le_refl _) (Nat.le_of_ble_eq_true rfl) dX8_gap_32 (fun y9 w2 h => ?_)
      subst h
      exact R_iret (pc := 35) dX8_gap_35 rfl rfl (Nat.zero_le _) (Nat.zero_le _) ⟨_, rfl, _, rfl, hV5, hW8⟩
    · skip
      refine R_bipush (pc := 16) (v := (-3)) dX8_gap_16 (by decide) ?_
      exact R_iret (pc := 18) dX8_gap_18 rfl rfl (Nat.zero_le _) (Nat.zero_le _) ⟨_, rfl, _, rfl, hI, (show Cor σ σ from Cor.rfl' σ)⟩
  · skip
    refine R_ifne (pc := 6) 12 dX8_gap_6 (by decide) (fun h => absurd (by decide) h) (fun _ => ?_)
    refine R_bipush (pc := 9) (v := (-2)) dX8_gap_9 (by decide) ?_
    exact R_iret (pc := 11) dX8_gap_11 rfl rfl (Nat.zero_le _) (Nat.zero_le _) ⟨_, rfl, _, rfl, hI, (show Cor σ σ from Cor.rfl' σ)⟩
theorem dX8_cardsSeen_0 : decode cX8_cardsSeen 0 = .ok (.iconst 0, 1) := by decide +kernel
theorem dX8_cardsSeen_1 : decode cX8_cardsSeen 1 = .ok (.istore_n 2, 1) := by decide +kernel
theorem dX8_cardsSeen_2 : decode cX8_cardsSeen 2 = .ok (.aload_n 0, 1) := by decide +kernel
theorem dX8_cardsSeen_3 : decode cX8_cardsSeen 3 = .ok (.getfield 21, 3) := by decide +kernel
theorem dX8_cardsSeen_6 : decode cX8_cardsSeen 6 = .ok (.aload_n 0, 1) := by decide +kernel
theorem dX8_cardsSeen_7 : decode cX8_cardsSeen 7 = .ok (.getfield 10, 3) := by decide +kernel
theorem dX8_cardsSeen_10 : decode cX8_cardsSeen 10 = .ok (.invokevirtual 126, 3) := by decide +kernel
theorem dX8_cardsSeen_13 : decode cX8_cardsSeen 13 = .ok (.invokevirtual 206, 3) := by decide +kernel
theorem dX8_cardsSeen_16 : decode cX8_cardsSeen 16 = .ok (.istore_n 3, 1) := by decide +kernel
theorem dX8_cardsSeen_17 : decode cX8_cardsSeen 17 = .ok (.iconst 0, 1) := by decide +kernel
theorem dX8_cardsSeen_18 : decode cX8_cardsSeen 18 = .ok (.istore 4, 2) := by decide +kernel
theorem dX8_cardsSeen_20 : decode cX8_cardsSeen 20 = .ok (.iload 4, 2) := by decide +kernel
theorem dX8_cardsSeen_22 : decode cX8_cardsSeen 22 = .ok (.bipush 20, 2) := by decide +kernel
theorem dX8_cardsSeen_24 : decode cX8_cardsSeen 24 = .ok (.if_icmp .ge 31, 3) := by decide +kernel
theorem dX8_cardsSeen_27 : decode cX8_cardsSeen 27 = .ok (.iload_n 3, 1) := by decide +kernel
theorem dX8_cardsSeen_28 : decode cX8_cardsSeen 28 = .ok (.iload 4, 2) := by decide +kernel
theorem dX8_cardsSeen_30 : decode cX8_cardsSeen 30 = .ok (.invokestatic 209, 3) := by decide +kernel
theorem dX8_cardsSeen_33 : decode cX8_cardsSeen 33 = .ok (.ifCond .eq 16, 3) := by decide +kernel
theorem dX8_cardsSeen_36 : decode cX8_cardsSeen 36 = .ok (.aload_n 0, 1) := by decide +kernel
theorem dX8_cardsSeen_37 : decode cX8_cardsSeen 37 = .ok (.iload 4, 2) := by decide +kernel
theorem dX8_cardsSeen_39 : decode cX8_cardsSeen 39 = .ok (.invokevirtual 147, 3) := by decide +kernel
theorem dX8_cardsSeen_42 : decode cX8_cardsSeen 42 = .ok (.iload_n 1, 1) := by decide +kernel
theorem dX8_cardsSeen_43 : decode cX8_cardsSeen 43 = .ok (.if_icmp .ne 6, 3) := by decide +kernel
theorem dX8_cardsSeen_46 : decode cX8_cardsSeen 46 = .ok (.iinc 2 1, 3) := by decide +kernel
theorem dX8_cardsSeen_49 : decode cX8_cardsSeen 49 = .ok (.iinc 4 1, 3) := by decide +kernel
theorem dX8_cardsSeen_52 : decode cX8_cardsSeen 52 = .ok (.goto (-32), 3) := by decide +kernel
theorem dX8_cardsSeen_55 : decode cX8_cardsSeen 55 = .ok (.iload_n 2, 1) := by decide +kernel
theorem dX8_cardsSeen_56 : decode cX8_cardsSeen 56 = .ok (.ireturn, 1) := by decide +kernel
set_option maxRecDepth 100000 in
set_option maxHeartbeats 40000000 in
theorem gx_X8_cardsSeen {G : vG} {l : Launch} (σ : Sg) (t : Int32) (hI : Inv σ) : Sp G l yX8_cardsSeen cX8_cardsSeen 5 (some .int) 5 0 0 [.ref 0, .int t] (WW σ) (QI (fun x w2 => w2 = WW σ)) := by
  refine Sp_of_R [(some (.ref 0)), (some (.int t)), none, none, none] [none, none, none] rfl (by simp) rfl (Nat.le_of_ble_eq_true rfl) ?_
  refine R_iconst (pc := 0) (v := 0) dX8_cardsSeen_0 (by decide) ?_
  refine st_5_2_i_i (pc := 1) dX8_cardsSeen_1 ?_
  refine R_aload_n (pc := 2) dX8_cardsSeen_2 rfl rfl ?_
  refine g_X8_21 (pc := 3) (v := .ref 12) rfl dX8_cardsSeen_3 (c_0 _) rfl ?_
  refine R_aload_n (pc := 6) dX8_cardsSeen_6 rfl rfl ?_
  refine g_X8_10 (pc := 7) (v := .ref 1) rfl dX8_cardsSeen_7 (c_0 _) rfl ?_
  refine k_X8_126 (pc := 10) (gx_X0_there _ hI) rfl (c_1 _) (by decide) (Nat.le_refl _) (Nat.le_refl _) (Nat.le_of_ble_eq_true rfl) dX8_cardsSeen_10 (fun y1 w2 h => ?_)
  subst h
  refine k_X8_206 (pc := 13) (gx_X3_differentCards _ _ hI) rfl (c_12 _) (by decide) (Nat.le_refl _) (Nat.le_refl _) (Nat.le_of_ble_eq_true rfl) dX8_cardsSeen_13 (fun y2 w2 h => ?_)
  subst h
  refine st_5_3_i_i (pc := 16) dX8_cardsSeen_16 ?_
  refine R_iconst (pc := 17) (v := 0) dX8_cardsSeen_17 (by decide) ?_
  refine st_5_4_i_i (pc := 18) dX8_cardsSeen_18 ?_
  have HL20 : ∀ (q j20 : Nat) (g2_20 : Int32), j20 + q = 20 → 0 ≤ j20 → R G l yX8_cardsSeen cX8_cardsSeen 5 (some .int) 5 0 0 (QI (fun x w2 => w2 = WW σ)) 20 [(some (.ref 0)), (some (.int t)), (some (.int g2_20)), (some (.int y2)), (some (.int (nI j20)))] [] (WW σ) 0 0 := by
    intro q
    induction q with
    | zero =>
      intro j20 g2_20 hj hs20
      obtain rfl : j20 = 20 := by omega
      refine R_iload (pc := 20) dX8_cardsSeen_20 rfl ?_
      refine R_bipush (pc := 22) (v := 20) dX8_cardsSeen_22 (by decide) ?_
      refine R_icge (pc := 24) 55 dX8_cardsSeen_24 (by decide) (fun _ => ?_) (fun h => absurd (by decide) h)
      refine R_iload_n (pc := 55) dX8_cardsSeen_55 rfl rfl ?_
      exact R_iret (pc := 56) dX8_cardsSeen_56 rfl rfl (Nat.zero_le _) (Nat.zero_le _) ⟨_, rfl, rfl⟩
    | succ q ih20 =>
      intro j20 g2_20 hj hs20
      have hrg20 : inR (nI j20) 0 19 := inR_ix hs20 (show j20 < 20 by omega) (by decide) (by decide) (by decide)
      have hlt20 : j20 < 20 := by omega
      refine R_iload (pc := 20) dX8_cardsSeen_20 rfl ?_
      refine R_bipush (pc := 22) (v := 20) dX8_cardsSeen_22 (by decide) ?_
      refine R_icge (pc := 24) 55 dX8_cardsSeen_24 (by decide) (fun h => False.elim (by have q1 := ti_le h; have q2 := ti_in (show inR (nI j20) 0 19 from hrg20); have q3 := ti_in (show inR 20 20 20 from (inR_self _)); have z0 : (0 : Int32).toInt = 0 := (by decide);  have z1 : (19 : Int32).toInt = 19 := (by decide);  have z2 : (20 : Int32).toInt = 20 := (by decide); omega)) (fun _ => ?_)
      refine R_iload_n (pc := 27) dX8_cardsSeen_27 rfl rfl ?_
      refine R_iload (pc := 28) dX8_cardsSeen_28 rfl ?_
      refine k_X8_209 (pc := 30) (sp_X8_has _ _ _) rfl (by decide) (Nat.le_refl _) (Nat.le_refl _) (Nat.le_of_ble_eq_true rfl) dX8_cardsSeen_30 (fun x w2 h => ?_)
      rcases h with ⟨rfl, ⟨-, rfl⟩ | ⟨-, rfl⟩⟩
      · skip
        refine R_ifeq (pc := 33) 49 dX8_cardsSeen_33 (by decide) (fun h => absurd h (by decide)) (fun _ => ?_)
        refine R_aload_n (pc := 36) dX8_cardsSeen_36 rfl rfl ?_
        refine R_iload (pc := 37) dX8_cardsSeen_37 rfl ?_
        refine k_X8_147 (pc := 39) (gx_X8_timesSeen _ _ hI hrg20) rfl (c_0 _) (by decide) (Nat.le_refl _) (Nat.le_refl _) (Nat.le_of_ble_eq_true rfl) dX8_cardsSeen_39 (fun y6 w2 h => ?_)
        subst h
        refine R_iload_n (pc := 42) dX8_cardsSeen_42 rfl rfl ?_
        refine R_icne (pc := 43) 49 dX8_cardsSeen_43 (by decide) (fun b43_7 => ?_) (fun b43_7 => ?_)
        · skip
          refine inc_5_4_1_i (pc := 49) dX8_cardsSeen_49 ?_
          have r8 : inR ((nI j20) + 1) 1 20 := inR_add (show inR (nI j20) 0 19 from hrg20) (show inR 1 1 1 from (inR_self _)) (by decide) (by decide)
          have e9 := ti_add (l := 1) (h := 20) (show inR (nI j20) 0 19 from hrg20) (show inR 1 1 1 from (inR_self _)) (by decide) (by decide)
          refine R_goto (pc := 52) 20 dX8_cardsSeen_52 (by decide) ?_
          rw [nI_1]
          exact ih20 (j20 + 1) _ (by omega) (by omega)
        · skip
          refine inc_5_2_1_i (pc := 46) dX8_cardsSeen_46 ?_
          refine inc_5_4_1_i (pc := 49) dX8_cardsSeen_49 ?_
          have r10 : inR ((nI j20) + 1) 1 20 := inR_add (show inR (nI j20) 0 19 from hrg20) (show inR 1 1 1 from (inR_self _)) (by decide) (by decide)
          have e11 := ti_add (l := 1) (h := 20) (show inR (nI j20) 0 19 from hrg20) (show inR 1 1 1 from (inR_self _)) (by decide) (by decide)
          refine R_goto (pc := 52) 20 dX8_cardsSeen_52 (by decide) ?_
          rw [nI_1]
          exact ih20 (j20 + 1) _ (by omega) (by omega)
      · skip
        refine R_ifeq (pc := 33) 49 dX8_cardsSeen_33 (by decide) (fun _ => ?_) (fun h => absurd (by decide) h)
        refine inc_5_4_1_i (pc := 49) dX8_cardsSeen_49 ?_
        have r13 : inR ((nI j20) + 1) 1 20 := inR_add (show inR (nI j20) 0 19 from hrg20) (show inR 1 1 1 from (inR_self _)) (by decide) (by decide)
        have e14 := ti_add (l := 1) (h := 20) (show inR (nI j20) 0 19 from hrg20) (show inR 1 1 1 from (inR_self _)) (by decide) (by decide)
        refine R_goto (pc := 52) 20 dX8_cardsSeen_52 (by decide) ?_
        rw [nI_1]
        exact ih20 (j20 + 1) _ (by omega) (by omega)
  exact HL20 20 0 _ (by omega) (by omega)
theorem dX8_unseen_0 : decode cX8_unseen 0 = .ok (.iload_n 1, 1) := by decide +kernel
theorem dX8_unseen_1 : decode cX8_unseen 1 = .ok (.iconst 0, 1) := by decide +kernel
theorem dX8_unseen_2 : decode cX8_unseen 2 = .ok (.iconst 1, 1) := by decide +kernel
theorem dX8_unseen_3 : decode cX8_unseen 3 = .ok (.invokestatic 72, 3) := by decide +kernel
theorem dX8_unseen_6 : decode cX8_unseen 6 = .ok (.ifCond .ne 6, 3) := by decide +kernel
theorem dX8_unseen_9 : decode cX8_unseen 9 = .ok (.bipush (-3), 2) := by decide +kernel
theorem dX8_unseen_11 : decode cX8_unseen 11 = .ok (.ireturn, 1) := by decide +kernel
theorem dX8_unseen_12 : decode cX8_unseen 12 = .ok (.aload_n 0, 1) := by decide +kernel
theorem dX8_unseen_13 : decode cX8_unseen 13 = .ok (.iconst 1, 1) := by decide +kernel
theorem dX8_unseen_14 : decode cX8_unseen 14 = .ok (.invokevirtual 200, 3) := by decide +kernel
theorem dX8_unseen_17 : decode cX8_unseen 17 = .ok (.istore_n 2, 1) := by decide +kernel
theorem dX8_unseen_18 : decode cX8_unseen 18 = .ok (.aload_n 0, 1) := by decide +kernel
theorem dX8_unseen_19 : decode cX8_unseen 19 = .ok (.iconst 2, 1) := by decide +kernel
theorem dX8_unseen_20 : decode cX8_unseen 20 = .ok (.invokevirtual 200, 3) := by decide +kernel
theorem dX8_unseen_23 : decode cX8_unseen 23 = .ok (.istore_n 3, 1) := by decide +kernel
theorem dX8_unseen_24 : decode cX8_unseen 24 = .ok (.iload_n 3, 1) := by decide +kernel
theorem dX8_unseen_25 : decode cX8_unseen 25 = .ok (.ifCond .le 9, 3) := by decide +kernel
theorem dX8_unseen_28 : decode cX8_unseen 28 = .ok (.iload_n 2, 1) := by decide +kernel
theorem dX8_unseen_29 : decode cX8_unseen 29 = .ok (.iload_n 2, 1) := by decide +kernel
theorem dX8_unseen_30 : decode cX8_unseen 30 = .ok (.imul, 1) := by decide +kernel
theorem dX8_unseen_31 : decode cX8_unseen 31 = .ok (.goto 8, 3) := by decide +kernel
theorem dX8_unseen_34 : decode cX8_unseen 34 = .ok (.iload_n 2, 1) := by decide +kernel
theorem dX8_unseen_35 : decode cX8_unseen 35 = .ok (.iload_n 2, 1) := by decide +kernel
theorem dX8_unseen_36 : decode cX8_unseen 36 = .ok (.iconst 1, 1) := by decide +kernel
theorem dX8_unseen_37 : decode cX8_unseen 37 = .ok (.isub, 1) := by decide +kernel
theorem dX8_unseen_38 : decode cX8_unseen 38 = .ok (.imul, 1) := by decide +kernel
theorem dX8_unseen_39 : decode cX8_unseen 39 = .ok (.istore 4, 2) := by decide +kernel
theorem dX8_unseen_41 : decode cX8_unseen 41 = .ok (.iload_n 3, 1) := by decide +kernel
theorem dX8_unseen_42 : decode cX8_unseen 42 = .ok (.ifCond .le 9, 3) := by decide +kernel
theorem dX8_unseen_45 : decode cX8_unseen 45 = .ok (.iconst 2, 1) := by decide +kernel
theorem dX8_unseen_46 : decode cX8_unseen 46 = .ok (.iload_n 3, 1) := by decide +kernel
theorem dX8_unseen_47 : decode cX8_unseen 47 = .ok (.imul, 1) := by decide +kernel
theorem dX8_unseen_48 : decode cX8_unseen 48 = .ok (.goto 4, 3) := by decide +kernel
theorem dX8_unseen_51 : decode cX8_unseen 51 = .ok (.iconst 2, 1) := by decide +kernel
theorem dX8_unseen_52 : decode cX8_unseen 52 = .ok (.istore 5, 2) := by decide +kernel
theorem dX8_unseen_54 : decode cX8_unseen 54 = .ok (.iconst 1, 1) := by decide +kernel
theorem dX8_unseen_55 : decode cX8_unseen 55 = .ok (.iload 4, 2) := by decide +kernel
theorem dX8_unseen_57 : decode cX8_unseen 57 = .ok (.iload 5, 2) := by decide +kernel
theorem dX8_unseen_59 : decode cX8_unseen 59 = .ok (.invokestatic 203, 3) := by decide +kernel
theorem dX8_unseen_62 : decode cX8_unseen 62 = .ok (.invokestatic 167, 3) := by decide +kernel
theorem dX8_unseen_65 : decode cX8_unseen 65 = .ok (.istore 6, 2) := by decide +kernel
theorem dX8_unseen_67 : decode cX8_unseen 67 = .ok (.iload_n 1, 1) := by decide +kernel
theorem dX8_unseen_68 : decode cX8_unseen 68 = .ok (.ifCond .ne 8, 3) := by decide +kernel
theorem dX8_unseen_71 : decode cX8_unseen 71 = .ok (.iload 4, 2) := by decide +kernel
theorem dX8_unseen_73 : decode cX8_unseen 73 = .ok (.goto 5, 3) := by decide +kernel
theorem dX8_unseen_76 : decode cX8_unseen 76 = .ok (.iload 5, 2) := by decide +kernel
theorem dX8_unseen_78 : decode cX8_unseen 78 = .ok (.iload 6, 2) := by decide +kernel
theorem dX8_unseen_80 : decode cX8_unseen 80 = .ok (.idiv, 1) := by decide +kernel
theorem dX8_unseen_81 : decode cX8_unseen 81 = .ok (.ireturn, 1) := by decide +kernel
set_option maxRecDepth 100000 in
set_option maxHeartbeats 40000000 in
theorem gp_unseen {G : vG} {l : Launch} (σ : Sg) (a : Int32) (hI : Inv σ) : Sp G l yX8_unseen cX8_unseen 7 (some .int) 6 0 0 [.ref 0, .int a] (WW σ) (QI (fun _ w2 => ∃ σ2, w2 = WW σ2 ∧ Inv σ2 ∧ Cor σ σ2)) := by
  refine Sp_of_R [(some (.ref 0)), (some (.int a)), none, none, none, none, none] [none, none, none, none, none] rfl (by simp) rfl (Nat.le_of_ble_eq_true rfl) ?_
  refine R_iload_n (pc := 0) dX8_unseen_0 rfl rfl ?_
  refine R_iconst (pc := 1) (v := 0) dX8_unseen_1 (by decide) ?_
  refine R_iconst (pc := 2) (v := 1) dX8_unseen_2 (by decide) ?_
  refine k_X8_72 (pc := 3) (sp_X8_isWithin _ _ _ _) rfl (by decide) (Nat.le_refl _) (Nat.le_refl _) (Nat.le_of_ble_eq_true rfl) dX8_unseen_3 (fun x w2 h => ?_)
  rcases h with ⟨rfl, ⟨h1, rfl⟩ | ⟨h1, rfl⟩⟩
  · skip
    refine R_ifne (pc := 6) 12 dX8_unseen_6 (by decide) (fun _ => ?_) (fun h => absurd h (by decide))
    refine R_aload_n (pc := 12) dX8_unseen_12 rfl rfl ?_
    refine R_iconst (pc := 13) (v := 1) dX8_unseen_13 (by decide) ?_
    refine k_X8_200 (pc := 14) (gx_X8_cardsSeen _ _ hI) rfl (c_0 _) (by decide) (Nat.le_refl _) (Nat.le_refl _) (Nat.le_of_ble_eq_true rfl) dX8_unseen_14 (fun y3 w2 h => ?_)
    subst h
    refine st_7_2_i_i (pc := 17) dX8_unseen_17 ?_
    refine R_aload_n (pc := 18) dX8_unseen_18 rfl rfl ?_
    refine R_iconst (pc := 19) (v := 2) dX8_unseen_19 (by decide) ?_
    refine k_X8_200 (pc := 20) (gx_X8_cardsSeen _ _ hI) rfl (c_0 _) (by decide) (Nat.le_refl _) (Nat.le_refl _) (Nat.le_of_ble_eq_true rfl) dX8_unseen_20 (fun y4 w2 h => ?_)
    subst h
    refine st_7_3_i_i (pc := 23) dX8_unseen_23 ?_
    refine R_iload_n (pc := 24) dX8_unseen_24 rfl rfl ?_
    refine R_ifle (pc := 25) 34 dX8_unseen_25 (by decide) (fun b25_5 => ?_) (fun b25_5 => ?_)
    · skip
      refine R_iload_n (pc := 34) dX8_unseen_34 rfl rfl ?_
      refine R_iload_n (pc := 35) dX8_unseen_35 rfl rfl ?_
      refine R_iconst (pc := 36) (v := 1) dX8_unseen_36 (by decide) ?_
      refine R_isub (pc := 37) dX8_unseen_37 ?_
      refine R_imul (pc := 38) dX8_unseen_38 ?_
      refine st_7_4_i_i (pc := 39) dX8_unseen_39 ?_
      refine R_iload_n (pc := 41) dX8_unseen_41 rfl rfl ?_
      refine R_ifle (pc := 42) 51 dX8_unseen_42 (by decide) (fun b42_6 => ?_) (fun b42_6 => ?_)
      · skip
        refine R_iconst (pc := 51) (v := 2) dX8_unseen_51 (by decide) ?_
        refine st_7_5_i_i (pc := 52) dX8_unseen_52 ?_
        refine R_iconst (pc := 54) (v := 1) dX8_unseen_54 (by decide) ?_
        refine R_iload (pc := 55) dX8_unseen_55 rfl ?_
        refine R_iload (pc := 57) dX8_unseen_57 rfl ?_
        refine k_X8_203 (pc := 59) (gx_X8_commonDivisor _ _ _) rfl (by decide) (Nat.le_refl _) (Nat.le_refl _) (Nat.le_of_ble_eq_true rfl) dX8_unseen_59 (fun y7 w2 h => ?_)
        subst h
        refine R_mmax (pc := 62) wm_504 dX8_unseen_62 (by decide) (Nat.le_of_ble_eq_true rfl) (Nat.zero_le _) (Nat.zero_le _) ?_
        have r8 : inR (if 1 < y7 then y7 else 1) 1 2147483647 := inR_max (show inR 1 1 1 from (inR_self _)) (show inR y7 (-2147483648) 2147483647 from (inR_any y7)) (by decide) (by decide) (by decide)
        refine st_7_6_i_i (pc := 65) dX8_unseen_65 ?_
        refine R_iload_n (pc := 67) dX8_unseen_67 rfl rfl ?_
        refine R_ifne (pc := 68) 76 dX8_unseen_68 (by decide) (fun b68_9 => ?_) (fun b68_9 => ?_)
        · skip
          refine R_iload (pc := 76) dX8_unseen_76 rfl ?_
          refine R_iload (pc := 78) dX8_unseen_78 rfl ?_
          refine R_idiv (pc := 80) dX8_unseen_80 (max1_ne _) ?_
          exact R_iret (pc := 81) dX8_unseen_81 rfl rfl (Nat.zero_le _) (Nat.zero_le _) ⟨_, rfl, _, rfl, hI, (show Cor σ σ from Cor.rfl' σ)⟩
        · skip
          refine R_iload (pc := 71) dX8_unseen_71 rfl ?_
          refine R_goto (pc := 73) 78 dX8_unseen_73 (by decide) ?_
          refine R_iload (pc := 78) dX8_unseen_78 rfl ?_
          refine R_idiv (pc := 80) dX8_unseen_80 (max1_ne _) ?_
          exact R_iret (pc := 81) dX8_unseen_81 rfl rfl (Nat.zero_le _) (Nat.zero_le _) ⟨_, rfl, _, rfl, hI, (show Cor σ σ from Cor.rfl' σ)⟩
      · skip
        refine R_iconst (pc := 45) (v := 2) dX8_unseen_45 (by decide) ?_
        refine R_iload_n (pc := 46) dX8_unseen_46 rfl rfl ?_
        refine R_imul (pc := 47) dX8_unseen_47 ?_
        refine R_goto (pc := 48) 52 dX8_unseen_48 (by decide) ?_
        refine st_7_5_i_i (pc := 52) dX8_unseen_52 ?_
        refine R_iconst (pc := 54) (v := 1) dX8_unseen_54 (by decide) ?_
        refine R_iload (pc := 55) dX8_unseen_55 rfl ?_
        refine R_iload (pc := 57) dX8_unseen_57 rfl ?_
        refine k_X8_203 (pc := 59) (gx_X8_commonDivisor _ _ _) rfl (by decide) (Nat.le_refl _) (Nat.le_refl _) (Nat.le_of_ble_eq_true rfl) dX8_unseen_59 (fun y10 w2 h => ?_)
        subst h
        refine R_mmax (pc := 62) wm_504 dX8_unseen_62 (by decide) (Nat.le_of_ble_eq_true rfl) (Nat.zero_le _) (Nat.zero_le _) ?_
        have r11 : inR (if 1 < y10 then y10 else 1) 1 2147483647 := inR_max (show inR 1 1 1 from (inR_self _)) (show inR y10 (-2147483648) 2147483647 from (inR_any y10)) (by decide) (by decide) (by decide)
        refine st_7_6_i_i (pc := 65) dX8_unseen_65 ?_
        refine R_iload_n (pc := 67) dX8_unseen_67 rfl rfl ?_
        refine R_ifne (pc := 68) 76 dX8_unseen_68 (by decide) (fun b68_12 => ?_) (fun b68_12 => ?_)
        · skip
          refine R_iload (pc := 76) dX8_unseen_76 rfl ?_
          refine R_iload (pc := 78) dX8_unseen_78 rfl ?_
          refine R_idiv (pc := 80) dX8_unseen_80 (max1_ne _) ?_
          exact R_iret (pc := 81) dX8_unseen_81 rfl rfl (Nat.zero_le _) (Nat.zero_le _) ⟨_, rfl, _, rfl, hI, (show Cor σ σ from Cor.rfl' σ)⟩
        · skip
          refine R_iload (pc := 71) dX8_unseen_71 rfl ?_
          refine R_goto (pc := 73) 78 dX8_unseen_73 (by decide) ?_
          refine R_iload (pc := 78) dX8_unseen_78 rfl ?_
          refine R_idiv (pc := 80) dX8_unseen_80 (max1_ne _) ?_
          exact R_iret (pc := 81) dX8_unseen_81 rfl rfl (Nat.zero_le _) (Nat.zero_le _) ⟨_, rfl, _, rfl, hI, (show Cor σ σ from Cor.rfl' σ)⟩
    · skip
      refine R_iload_n (pc := 28) dX8_unseen_28 rfl rfl ?_
      refine R_iload_n (pc := 29) dX8_unseen_29 rfl rfl ?_
      refine R_imul (pc := 30) dX8_unseen_30 ?_
      refine R_goto (pc := 31) 39 dX8_unseen_31 (by decide) ?_
      refine st_7_4_i_i (pc := 39) dX8_unseen_39 ?_
      refine R_iload_n (pc := 41) dX8_unseen_41 rfl rfl ?_
      refine R_ifle (pc := 42) 51 dX8_unseen_42 (by decide) (fun b42_13 => ?_) (fun b42_13 => ?_)
      · skip
        refine R_iconst (pc := 51) (v := 2) dX8_unseen_51 (by decide) ?_
        refine st_7_5_i_i (pc := 52) dX8_unseen_52 ?_
        refine R_iconst (pc := 54) (v := 1) dX8_unseen_54 (by decide) ?_
        refine R_iload (pc := 55) dX8_unseen_55 rfl ?_
        refine R_iload (pc := 57) dX8_unseen_57 rfl ?_
        refine k_X8_203 (pc := 59) (gx_X8_commonDivisor _ _ _) rfl (by decide) (Nat.le_refl _) (Nat.le_refl _) (Nat.le_of_ble_eq_true rfl) dX8_unseen_59 (fun y14 w2 h => ?_)
        subst h
        refine R_mmax (pc := 62) wm_504 dX8_unseen_62 (by decide) (Nat.le_of_ble_eq_true rfl) (Nat.zero_le _) (Nat.zero_le _) ?_
        have r15 : inR (if 1 < y14 then y14 else 1) 1 2147483647 := inR_max (show inR 1 1 1 from (inR_self _)) (show inR y14 (-2147483648) 2147483647 from (inR_any y14)) (by decide) (by decide) (by decide)
        refine st_7_6_i_i (pc := 65) dX8_unseen_65 ?_
        refine R_iload_n (pc := 67) dX8_unseen_67 rfl rfl ?_
        refine R_ifne (pc := 68) 76 dX8_unseen_68 (by decide) (fun b68_16 => ?_) (fun b68_16 => ?_)
        · skip
          refine R_iload (pc := 76) dX8_unseen_76 rfl ?_
          refine R_iload (pc := 78) dX8_unseen_78 rfl ?_
          refine R_idiv (pc := 80) dX8_unseen_80 (max1_ne _) ?_
          exact R_iret (pc := 81) dX8_unseen_81 rfl rfl (Nat.zero_le _) (Nat.zero_le _) ⟨_, rfl, _, rfl, hI, (show Cor σ σ from Cor.rfl' σ)⟩
        · skip
          refine R_iload (pc := 71) dX8_unseen_71 rfl ?_
          refine R_goto (pc := 73) 78 dX8_unseen_73 (by decide) ?_
          refine R_iload (pc := 78) dX8_unseen_78 rfl ?_
          refine R_idiv (pc := 80) dX8_unseen_80 (max1_ne _) ?_
          exact R_iret (pc := 81) dX8_unseen_81 rfl rfl (Nat.zero_le _) (Nat.zero_le _) ⟨_, rfl, _, rfl, hI, (show Cor σ σ from Cor.rfl' σ)⟩
      · skip
        refine R_iconst (pc := 45) (v := 2) dX8_unseen_45 (by decide) ?_
        refine R_iload_n (pc := 46) dX8_unseen_46 rfl rfl ?_
        refine R_imul (pc := 47) dX8_unseen_47 ?_
        refine R_goto (pc := 48) 52 dX8_unseen_48 (by decide) ?_
        refine st_7_5_i_i (pc := 52) dX8_unseen_52 ?_
        refine R_iconst (pc := 54) (v := 1) dX8_unseen_54 (by decide) ?_
        refine R_iload (pc := 55) dX8_unseen_55 rfl ?_
        refine R_iload (pc := 57) dX8_unseen_57 rfl ?_
        refine k_X8_203 (pc := 59) (gx_X8_commonDivisor _ _ _) rfl (by decide) (Nat.le_refl _) (Nat.le_refl _) (Nat.le_of_ble_eq_true rfl) dX8_unseen_59 (fun y17 w2 h => ?_)
        subst h
        refine R_mmax (pc := 62) wm_504 dX8_unseen_62 (by decide) (Nat.le_of_ble_eq_true rfl) (Nat.zero_le _) (Nat.zero_le _) ?_
        have r18 : inR (if 1 < y17 then y17 else 1) 1 2147483647 := inR_max (show inR 1 1 1 from (inR_self _)) (show inR y17 (-2147483648) 2147483647 from (inR_any y17)) (by decide) (by decide) (by decide)
        refine st_7_6_i_i (pc := 65) dX8_unseen_65 ?_
        refine R_iload_n (pc := 67) dX8_unseen_67 rfl rfl ?_
        refine R_ifne (pc := 68) 76 dX8_unseen_68 (by decide) (fun b68_19 => ?_) (fun b68_19 => ?_)
        · skip
          refine R_iload (pc := 76) dX8_unseen_76 rfl ?_
          refine R_iload (pc := 78) dX8_unseen_78 rfl ?_
          refine R_idiv (pc := 80) dX8_unseen_80 (max1_ne _) ?_
          exact R_iret (pc := 81) dX8_unseen_81 rfl rfl (Nat.zero_le _) (Nat.zero_le _) ⟨_, rfl, _, rfl, hI, (show Cor σ σ from Cor.rfl' σ)⟩
        · skip
          refine R_iload (pc := 71) dX8_unseen_71 rfl ?_
          refine R_goto (pc := 73) 78 dX8_unseen_73 (by decide) ?_
          refine R_iload (pc := 78) dX8_unseen_78 rfl ?_
          refine R_idiv (pc := 80) dX8_unseen_80 (max1_ne _) ?_
          exact R_iret (pc := 81) dX8_unseen_81 rfl rfl (Nat.zero_le _) (Nat.zero_le _) ⟨_, rfl, _, rfl, hI, (show Cor σ σ from Cor.rfl' σ)⟩
  · skip
    refine R_ifne (pc := 6) 12 dX8_unseen_6 (by decide) (fun h => absurd (by decide) h) (fun _ => ?_)
    refine R_bipush (pc := 9) (v := (-3)) dX8_unseen_9 (by decide) ?_
    exact R_iret (pc := 11) dX8_unseen_11 rfl rfl (Nat.zero_le _) (Nat.zero_le _) ⟨_, rfl, _, rfl, hI, (show Cor σ σ from Cor.rfl' σ)⟩
theorem dX8_cardsInBoth_0 : decode cX8_cardsInBoth 0 = .ok (.iconst 0, 1) := by decide +kernel
theorem dX8_cardsInBoth_1 : decode cX8_cardsInBoth 1 = .ok (.istore_n 3, 1) := by decide +kernel
theorem dX8_cardsInBoth_2 : decode cX8_cardsInBoth 2 = .ok (.aload_n 0, 1) := by decide +kernel
theorem dX8_cardsInBoth_3 : decode cX8_cardsInBoth 3 = .ok (.getfield 21, 3) := by decide +kernel
theorem dX8_cardsInBoth_6 : decode cX8_cardsInBoth 6 = .ok (.aload_n 0, 1) := by decide +kernel
theorem dX8_cardsInBoth_7 : decode cX8_cardsInBoth 7 = .ok (.getfield 10, 3) := by decide +kernel
theorem dX8_cardsInBoth_10 : decode cX8_cardsInBoth 10 = .ok (.invokevirtual 126, 3) := by decide +kernel
theorem dX8_cardsInBoth_13 : decode cX8_cardsInBoth 13 = .ok (.invokevirtual 206, 3) := by decide +kernel
theorem dX8_cardsInBoth_16 : decode cX8_cardsInBoth 16 = .ok (.istore 4, 2) := by decide +kernel
theorem dX8_cardsInBoth_18 : decode cX8_cardsInBoth 18 = .ok (.iconst 0, 1) := by decide +kernel
theorem dX8_cardsInBoth_19 : decode cX8_cardsInBoth 19 = .ok (.istore 5, 2) := by decide +kernel
theorem dX8_cardsInBoth_21 : decode cX8_cardsInBoth 21 = .ok (.iload 5, 2) := by decide +kernel
theorem dX8_cardsInBoth_23 : decode cX8_cardsInBoth 23 = .ok (.bipush 20, 2) := by decide +kernel
theorem dX8_cardsInBoth_25 : decode cX8_cardsInBoth 25 = .ok (.if_icmp .ge 65, 3) := by decide +kernel
theorem dX8_cardsInBoth_28 : decode cX8_cardsInBoth 28 = .ok (.iload 4, 2) := by decide +kernel
theorem dX8_cardsInBoth_30 : decode cX8_cardsInBoth 30 = .ok (.iload 5, 2) := by decide +kernel
theorem dX8_cardsInBoth_32 : decode cX8_cardsInBoth 32 = .ok (.invokestatic 209, 3) := by decide +kernel
theorem dX8_cardsInBoth_35 : decode cX8_cardsInBoth 35 = .ok (.ifCond .eq 49, 3) := by decide +kernel
theorem dX8_cardsInBoth_38 : decode cX8_cardsInBoth 38 = .ok (.aload_n 0, 1) := by decide +kernel
theorem dX8_cardsInBoth_39 : decode cX8_cardsInBoth 39 = .ok (.getfield 10, 3) := by decide +kernel
theorem dX8_cardsInBoth_42 : decode cX8_cardsInBoth 42 = .ok (.aload_n 0, 1) := by decide +kernel
theorem dX8_cardsInBoth_43 : decode cX8_cardsInBoth 43 = .ok (.getfield 21, 3) := by decide +kernel
theorem dX8_cardsInBoth_46 : decode cX8_cardsInBoth 46 = .ok (.iload 5, 2) := by decide +kernel
theorem dX8_cardsInBoth_48 : decode cX8_cardsInBoth 48 = .ok (.aload_n 0, 1) := by decide +kernel
theorem dX8_cardsInBoth_49 : decode cX8_cardsInBoth 49 = .ok (.getfield 10, 3) := by decide +kernel
theorem dX8_cardsInBoth_52 : decode cX8_cardsInBoth 52 = .ok (.invokevirtual 126, 3) := by decide +kernel
theorem dX8_cardsInBoth_55 : decode cX8_cardsInBoth 55 = .ok (.invokevirtual 144, 3) := by decide +kernel
theorem dX8_cardsInBoth_58 : decode cX8_cardsInBoth 58 = .ok (.invokevirtual 164, 3) := by decide +kernel
theorem dX8_cardsInBoth_61 : decode cX8_cardsInBoth 61 = .ok (.istore 6, 2) := by decide +kernel
theorem dX8_cardsInBoth_63 : decode cX8_cardsInBoth 63 = .ok (.iload 6, 2) := by decide +kernel
theorem dX8_cardsInBoth_65 : decode cX8_cardsInBoth 65 = .ok (.iload_n 1, 1) := by decide +kernel
theorem dX8_cardsInBoth_66 : decode cX8_cardsInBoth 66 = .ok (.invokestatic 209, 3) := by decide +kernel
theorem dX8_cardsInBoth_69 : decode cX8_cardsInBoth 69 = .ok (.ifCond .eq 15, 3) := by decide +kernel
theorem dX8_cardsInBoth_72 : decode cX8_cardsInBoth 72 = .ok (.iload 6, 2) := by decide +kernel
theorem dX8_cardsInBoth_74 : decode cX8_cardsInBoth 74 = .ok (.iload_n 2, 1) := by decide +kernel
theorem dX8_cardsInBoth_75 : decode cX8_cardsInBoth 75 = .ok (.invokestatic 209, 3) := by decide +kernel
theorem dX8_cardsInBoth_78 : decode cX8_cardsInBoth 78 = .ok (.ifCond .eq 6, 3) := by decide +kernel
theorem dX8_cardsInBoth_81 : decode cX8_cardsInBoth 81 = .ok (.iinc 3 1, 3) := by decide +kernel
theorem dX8_cardsInBoth_84 : decode cX8_cardsInBoth 84 = .ok (.iinc 5 1, 3) := by decide +kernel
theorem dX8_cardsInBoth_87 : decode cX8_cardsInBoth 87 = .ok (.goto (-66), 3) := by decide +kernel
theorem dX8_cardsInBoth_90 : decode cX8_cardsInBoth 90 = .ok (.iload_n 3, 1) := by decide +kernel
theorem dX8_cardsInBoth_91 : decode cX8_cardsInBoth 91 = .ok (.ireturn, 1) := by decide +kernel
set_option maxRecDepth 100000 in
set_option maxHeartbeats 40000000 in
theorem gx_X8_cardsInBoth {G : vG} {l : Launch} (σ : Sg) (a b : Int32) (hI : Inv σ) : Sp G l yX8_cardsInBoth cX8_cardsInBoth 7 (some .int) 5 0 0 [.ref 0, .int a, .int b] (WW σ) (QI (fun x w2 => w2 = WW σ)) := by
  refine Sp_of_R [(some (.ref 0)), (some (.int a)), (some (.int b)), none, none, none, none] [none, none, none, none] rfl (by simp) rfl (Nat.le_of_ble_eq_true rfl) ?_
  refine R_iconst (pc := 0) (v := 0) dX8_cardsInBoth_0 (by decide) ?_
  refine st_7_3_i_i (pc := 1) dX8_cardsInBoth_1 ?_
  refine R_aload_n (pc := 2) dX8_cardsInBoth_2 rfl rfl ?_
  refine g_X8_21 (pc := 3) (v := .ref 12) rfl dX8_cardsInBoth_3 (c_0 _) rfl ?_
  refine R_aload_n (pc := 6) dX8_cardsInBoth_6 rfl rfl ?_
  refine g_X8_10 (pc := 7) (v := .ref 1) rfl dX8_cardsInBoth_7 (c_0 _) rfl ?_
  refine k_X8_126 (pc := 10) (gx_X0_there _ hI) rfl (c_1 _) (by decide) (Nat.le_refl _) (Nat.le_refl _) (Nat.le_of_ble_eq_true rfl) dX8_cardsInBoth_10 (fun y1 w2 h => ?_)
  subst h
  refine k_X8_206 (pc := 13) (gx_X3_differentCards _ _ hI) rfl (c_12 _) (by decide) (Nat.le_refl _) (Nat.le_refl _) (Nat.le_of_ble_eq_true rfl) dX8_cardsInBoth_13 (fun y2 w2 h => ?_)
  subst h
  refine st_7_4_i_i (pc := 16) dX8_cardsInBoth_16 ?_
  refine R_iconst (pc := 18) (v := 0) dX8_cardsInBoth_18 (by decide) ?_
  refine st_7_5_i_i (pc := 19) dX8_cardsInBoth_19 ?_
  have HL21 : ∀ (q j21 : Nat) (g3_21 : Int32) (g6_21 : Option Value), j21 + q = 20 → 0 ≤ j21 → R G l yX8_cardsInBoth cX8_cardsInBoth 7 (some .int) 5 0 0 (QI (fun x w2 => w2 = WW σ)) 21 [(some (.ref 0)), (some (.int a)), (some (.int b)), (some (.int g3_21)), (some (.int y2)), (some (.int (nI j21))), g6_21] [] (WW σ) 0 0 := by
    intro q
    induction q with
    | zero =>
      intro j21 g3_21 g6_21 hj hs21
      obtain rfl : j21 = 20 := by omega
      refine R_iload (pc := 21) dX8_cardsInBoth_21 rfl ?_
      refine R_bipush (pc := 23) (v := 20) dX8_cardsInBoth_23 (by decide) ?_
      refine R_icge (pc := 25) 90 dX8_cardsInBoth_25 (by decide) (fun _ => ?_) (fun h => absurd (by decide) h)
      refine R_iload_n (pc := 90) dX8_cardsInBoth_90 rfl rfl ?_
      exact R_iret (pc := 91) dX8_cardsInBoth_91 rfl rfl (Nat.zero_le _) (Nat.zero_le _) ⟨_, rfl, rfl⟩
    | succ q ih21 =>
      intro j21 g3_21 g6_21 hj hs21
      have hrg21 : inR (nI j21) 0 19 := inR_ix hs21 (show j21 < 20 by omega) (by decide) (by decide) (by decide)
      have hlt21 : j21 < 20 := by omega
      refine R_iload (pc := 21) dX8_cardsInBoth_21 rfl ?_
      refine R_bipush (pc := 23) (v := 20) dX8_cardsInBoth_23 (by decide) ?_
      refine R_icge (pc := 25) 90 dX8_cardsInBoth_25 (by decide) (fun h => False.elim (by have q1 := ti_le h; have q2 := ti_in (show inR (nI j21) 0 19 from hrg21); have q3 := ti_in (show inR 20 20 20 from (inR_self _)); have z0 : (0 : Int32).toInt = 0 := (by decide);  have z1 : (19 : Int32).toInt = 19 := (by decide);  have z2 : (20 : Int32).toInt = 20 := (by decide); omega)) (fun _ => ?_)
      refine R_iload (pc := 28) dX8_cardsInBoth_28 rfl ?_
      refine R_iload (pc := 30) dX8_cardsInBoth_30 rfl ?_
      refine k_X8_209 (pc := 32) (sp_X8_has _ _ _) rfl (by decide) (Nat.le_refl _) (Nat.le_refl _) (Nat.le_of_ble_eq_true rfl) dX8_cardsInBoth_32 (fun x w2 h => ?_)
      rcases h with ⟨rfl, ⟨-, rfl⟩ | ⟨-, rfl⟩⟩
      · skip
        refine R_ifeq (pc := 35) 84 dX8_cardsInBoth_35 (by decide) (fun h => absurd h (by decide)) (fun _ => ?_)
        refine R_aload_n (pc := 38) dX8_cardsInBoth_38 rfl rfl ?_
        refine g_X8_10 (pc := 39) (v := .ref 1) rfl dX8_cardsInBoth_39 (c_0 _) rfl ?_
        refine R_aload_n (pc := 42) dX8_cardsInBoth_42 rfl rfl ?_
        refine g_X8_21 (pc := 43) (v := .ref 12) rfl dX8_cardsInBoth_43 (c_0 _) rfl ?_
        refine R_iload (pc := 46) dX8_cardsInBoth_46 rfl ?_
        refine R_aload_n (pc := 48) dX8_cardsInBoth_48 rfl rfl ?_
        refine g_X8_10 (pc := 49) (v := .ref 1) rfl dX8_cardsInBoth_49 (c_0 _) rfl ?_
        refine k_X8_126 (pc := 52) (gx_X0_there _ hI) rfl (c_1 _) (by decide) (Nat.le_refl _) (Nat.le_refl _) (Nat.le_of_ble_eq_true rfl) dX8_cardsInBoth_52 (fun y6 w2 h => ?_)
        subst h
        refine k_X8_144 (pc := 55) (gx_X3_sameCard _ _ _ hI hrg21) rfl (c_12 _) (by decide) (Nat.le_refl _) (Nat.le_refl _) (Nat.le_of_ble_eq_true rfl) dX8_cardsInBoth_55 (fun y7 w2 h => ?_)
        subst h
        refine k_X8_164 (pc := 58) (gx_X0_listsOf _ _ hI) rfl (c_1 _) (by decide) (Nat.le_refl _) (Nat.le_refl _) (Nat.le_of_ble_eq_true rfl) dX8_cardsInBoth_58 (fun y8 w2 h => ?_)
        subst h
        refine st_7_6_i_i (pc := 61) dX8_cardsInBoth_61 ?_
        refine R_iload (pc := 63) dX8_cardsInBoth_63 rfl ?_
        refine R_iload_n (pc := 65) dX8_cardsInBoth_65 rfl rfl ?_
        refine k_X8_209 (pc := 66) (sp_X8_has _ _ _) rfl (by decide) (Nat.le_refl _) (Nat.le_refl _) (Nat.le_of_ble_eq_true rfl) dX8_cardsInBoth_66 (fun x w2 h => ?_)
        rcases h with ⟨rfl, ⟨-, rfl⟩ | ⟨-, rfl⟩⟩
        · skip
          refine R_ifeq (pc := 69) 84 dX8_cardsInBoth_69 (by decide) (fun h => absurd h (by decide)) (fun _ => ?_)
          refine R_iload (pc := 72) dX8_cardsInBoth_72 rfl ?_
          refine R_iload_n (pc := 74) dX8_cardsInBoth_74 rfl rfl ?_
          refine k_X8_209 (pc := 75) (sp_X8_has _ _ _) rfl (by decide) (Nat.le_refl _) (Nat.le_refl _) (Nat.le_of_ble_eq_true rfl) dX8_cardsInBoth_75 (fun x w2 h => ?_)
          rcases h with ⟨rfl, ⟨-, rfl⟩ | ⟨-, rfl⟩⟩
          · skip
            refine R_ifeq (pc := 78) 84 dX8_cardsInBoth_78 (by decide) (fun h => absurd h (by decide)) (fun _ => ?_)
            refine inc_7_3_1_i (pc := 81) dX8_cardsInBoth_81 ?_
            refine inc_7_5_1_i (pc := 84) dX8_cardsInBoth_84 ?_
            have r11 : inR ((nI j21) + 1) 1 20 := inR_add (show inR (nI j21) 0 19 from hrg21) (show inR 1 1 1 from (inR_self _)) (by decide) (by decide)
            have e12 := ti_add (l := 1) (h := 20) (show inR (nI j21) 0 19 from hrg21) (show inR 1 1 1 from (inR_self _)) (by decide) (by decide)
            refine R_goto (pc := 87) 21 dX8_cardsInBoth_87 (by decide) ?_
            rw [nI_1]
            exact ih21 (j21 + 1) _ _ (by omega) (by omega)
          · skip
            refine R_ifeq (pc := 78) 84 dX8_cardsInBoth_78 (by decide) (fun _ => ?_) (fun h => absurd (by decide) h)
            refine inc_7_5_1_i (pc := 84) dX8_cardsInBoth_84 ?_
            have r14 : inR ((nI j21) + 1) 1 20 := inR_add (show inR (nI j21) 0 19 from hrg21) (show inR 1 1 1 from (inR_self _)) (by decide) (by decide)
            have e15 := ti_add (l := 1) (h := 20) (show inR (nI j21) 0 19 from hrg21) (show inR 1 1 1 from (inR_self _)) (by decide) (by decide)
            refine R_goto (pc := 87) 21 dX8_cardsInBoth_87 (by decide) ?_
            rw [nI_1]
            exact ih21 (j21 + 1) _ _ (by omega) (by omega)
        · skip
          refine R_ifeq (pc := 69) 84 dX8_cardsInBoth_69 (by decide) (fun _ => ?_) (fun h => absurd (by decide) h)
          refine inc_7_5_1_i (pc := 84) dX8_cardsInBoth_84 ?_
          have r17 : inR ((nI j21) + 1) 1 20 := inR_add (show inR (nI j21) 0 19 from hrg21) (show inR 1 1 1 from (inR_self _)) (by decide) (by decide)
          have e18 := ti_add (l := 1) (h := 20) (show inR (nI j21) 0 19 from hrg21) (show inR 1 1 1 from (inR_self _)) (by decide) (by decide)
          refine R_goto (pc := 87) 21 dX8_cardsInBoth_87 (by decide) ?_
          rw [nI_1]
          exact ih21 (j21 + 1) _ _ (by omega) (by omega)
      · skip
        refine R_ifeq (pc := 35) 84 dX8_cardsInBoth_35 (by decide) (fun _ => ?_) (fun h => absurd (by decide) h)
        refine inc_7_5_1_i (pc := 84) dX8_cardsInBoth_84 ?_
        have r20 : inR ((nI j21) + 1) 1 20 := inR_add (show inR (nI j21) 0 19 from hrg21) (show inR 1 1 1 from (inR_self _)) (by decide) (by decide)
        have e21 := ti_add (l := 1) (h := 20) (show inR (nI j21) 0 19 from hrg21) (show inR 1 1 1 from (inR_self _)) (by decide) (by decide)
        refine R_goto (pc := 87) 21 dX8_cardsInBoth_87 (by decide) ?_
        rw [nI_1]
        exact ih21 (j21 + 1) _ _ (by omega) (by omega)
  exact HL21 20 0 _ _ (by omega) (by omega)
theorem dX8_overlap_0 : decode cX8_overlap 0 = .ok (.iload_n 1, 1) := by decide +kernel
theorem dX8_overlap_1 : decode cX8_overlap 1 = .ok (.iconst 0, 1) := by decide +kernel
theorem dX8_overlap_2 : decode cX8_overlap 2 = .ok (.iconst 3, 1) := by decide +kernel
theorem dX8_overlap_3 : decode cX8_overlap 3 = .ok (.invokestatic 72, 3) := by decide +kernel
theorem dX8_overlap_6 : decode cX8_overlap 6 = .ok (.ifCond .eq 17, 3) := by decide +kernel
theorem dX8_overlap_9 : decode cX8_overlap 9 = .ok (.iload_n 2, 1) := by decide +kernel
theorem dX8_overlap_10 : decode cX8_overlap 10 = .ok (.iconst 0, 1) := by decide +kernel
theorem dX8_overlap_11 : decode cX8_overlap 11 = .ok (.iconst 3, 1) := by decide +kernel
theorem dX8_overlap_12 : decode cX8_overlap 12 = .ok (.invokestatic 72, 3) := by decide +kernel
theorem dX8_overlap_15 : decode cX8_overlap 15 = .ok (.ifCond .eq 8, 3) := by decide +kernel
theorem dX8_overlap_18 : decode cX8_overlap 18 = .ok (.iload_n 1, 1) := by decide +kernel
theorem dX8_overlap_19 : decode cX8_overlap 19 = .ok (.iload_n 2, 1) := by decide +kernel
theorem dX8_overlap_20 : decode cX8_overlap 20 = .ok (.if_icmp .ne 6, 3) := by decide +kernel
theorem dX8_overlap_23 : decode cX8_overlap 23 = .ok (.bipush (-2), 2) := by decide +kernel
theorem dX8_overlap_25 : decode cX8_overlap 25 = .ok (.ireturn, 1) := by decide +kernel
theorem dX8_overlap_26 : decode cX8_overlap 26 = .ok (.iload_n 3, 1) := by decide +kernel
theorem dX8_overlap_27 : decode cX8_overlap 27 = .ok (.iconst 0, 1) := by decide +kernel
theorem dX8_overlap_28 : decode cX8_overlap 28 = .ok (.iconst 2, 1) := by decide +kernel
theorem dX8_overlap_29 : decode cX8_overlap 29 = .ok (.invokestatic 72, 3) := by decide +kernel
theorem dX8_overlap_32 : decode cX8_overlap 32 = .ok (.ifCond .ne 6, 3) := by decide +kernel
theorem dX8_overlap_35 : decode cX8_overlap 35 = .ok (.bipush (-3), 2) := by decide +kernel
theorem dX8_overlap_37 : decode cX8_overlap 37 = .ok (.ireturn, 1) := by decide +kernel
theorem dX8_overlap_38 : decode cX8_overlap 38 = .ok (.aload_n 0, 1) := by decide +kernel
theorem dX8_overlap_39 : decode cX8_overlap 39 = .ok (.iload_n 1, 1) := by decide +kernel
theorem dX8_overlap_40 : decode cX8_overlap 40 = .ok (.iload_n 2, 1) := by decide +kernel
theorem dX8_overlap_41 : decode cX8_overlap 41 = .ok (.invokevirtual 212, 3) := by decide +kernel
theorem dX8_overlap_44 : decode cX8_overlap 44 = .ok (.istore 4, 2) := by decide +kernel
theorem dX8_overlap_46 : decode cX8_overlap 46 = .ok (.iload_n 3, 1) := by decide +kernel
theorem dX8_overlap_47 : decode cX8_overlap 47 = .ok (.ifCond .ne 6, 3) := by decide +kernel
theorem dX8_overlap_50 : decode cX8_overlap 50 = .ok (.iload 4, 2) := by decide +kernel
theorem dX8_overlap_52 : decode cX8_overlap 52 = .ok (.ireturn, 1) := by decide +kernel
theorem dX8_overlap_53 : decode cX8_overlap 53 = .ok (.iload 4, 2) := by decide +kernel
theorem dX8_overlap_55 : decode cX8_overlap 55 = .ok (.ifCond .ne 5, 3) := by decide +kernel
theorem dX8_overlap_58 : decode cX8_overlap 58 = .ok (.iconst (-1), 1) := by decide +kernel
theorem dX8_overlap_59 : decode cX8_overlap 59 = .ok (.ireturn, 1) := by decide +kernel
theorem dX8_overlap_60 : decode cX8_overlap 60 = .ok (.iload_n 3, 1) := by decide +kernel
theorem dX8_overlap_61 : decode cX8_overlap 61 = .ok (.iconst 1, 1) := by decide +kernel
theorem dX8_overlap_62 : decode cX8_overlap 62 = .ok (.if_icmp .ne 19, 3) := by decide +kernel
theorem dX8_overlap_65 : decode cX8_overlap 65 = .ok (.aload_n 0, 1) := by decide +kernel
theorem dX8_overlap_66 : decode cX8_overlap 66 = .ok (.iload_n 1, 1) := by decide +kernel
theorem dX8_overlap_67 : decode cX8_overlap 67 = .ok (.iload_n 1, 1) := by decide +kernel
theorem dX8_overlap_68 : decode cX8_overlap 68 = .ok (.invokevirtual 212, 3) := by decide +kernel
theorem dX8_overlap_71 : decode cX8_overlap 71 = .ok (.aload_n 0, 1) := by decide +kernel
theorem dX8_overlap_72 : decode cX8_overlap 72 = .ok (.iload_n 2, 1) := by decide +kernel
theorem dX8_overlap_73 : decode cX8_overlap 73 = .ok (.iload_n 2, 1) := by decide +kernel
theorem dX8_overlap_74 : decode cX8_overlap 74 = .ok (.invokevirtual 212, 3) := by decide +kernel
theorem dX8_overlap_77 : decode cX8_overlap 77 = .ok (.imul, 1) := by decide +kernel
theorem dX8_overlap_78 : decode cX8_overlap 78 = .ok (.goto 5, 3) := by decide +kernel
theorem dX8_overlap_81 : decode cX8_overlap 81 = .ok (.iload 4, 2) := by decide +kernel
theorem dX8_overlap_83 : decode cX8_overlap 83 = .ok (.ireturn, 1) := by decide +kernel
set_option maxRecDepth 100000 in
set_option maxHeartbeats 40000000 in
theorem gp_overlap {G : vG} {l : Launch} (σ : Sg) (a b c : Int32) (hI : Inv σ) : Sp G l yX8_overlap cX8_overlap 5 (some .int) 6 0 0 [.ref 0, .int a, .int b, .int c] (WW σ) (QI (fun _ w2 => ∃ σ2, w2 = WW σ2 ∧ Inv σ2 ∧ Cor σ σ2)) := by
  refine Sp_of_R [(some (.ref 0)), (some (.int a)), (some (.int b)), (some (.int c)), none] [none] rfl (by simp) rfl (Nat.le_of_ble_eq_true rfl) ?_
  refine R_iload_n (pc := 0) dX8_overlap_0 rfl rfl ?_
  refine R_iconst (pc := 1) (v := 0) dX8_overlap_1 (by decide) ?_
  refine R_iconst (pc := 2) (v := 3) dX8_overlap_2 (by decide) ?_
  refine k_X8_72 (pc := 3) (sp_X8_isWithin _ _ _ _) rfl (by decide) (Nat.le_refl _) (Nat.le_refl _) (Nat.le_of_ble_eq_true rfl) dX8_overlap_3 (fun x w2 h => ?_)
  rcases h with ⟨rfl, ⟨h1, rfl⟩ | ⟨h1, rfl⟩⟩
  · skip
    refine R_ifeq (pc := 6) 23 dX8_overlap_6 (by decide) (fun h => absurd h (by decide)) (fun _ => ?_)
    refine R_iload_n (pc := 9) dX8_overlap_9 rfl rfl ?_
    refine R_iconst (pc := 10) (v := 0) dX8_overlap_10 (by decide) ?_
    refine R_iconst (pc := 11) (v := 3) dX8_overlap_11 (by decide) ?_
    refine k_X8_72 (pc := 12) (sp_X8_isWithin _ _ _ _) rfl (by decide) (Nat.le_refl _) (Nat.le_refl _) (Nat.le_of_ble_eq_true rfl) dX8_overlap_12 (fun x w2 h => ?_)
    rcases h with ⟨rfl, ⟨h3, rfl⟩ | ⟨h3, rfl⟩⟩
    · skip
      refine R_ifeq (pc := 15) 23 dX8_overlap_15 (by decide) (fun h => absurd h (by decide)) (fun _ => ?_)
      refine R_iload_n (pc := 18) dX8_overlap_18 rfl rfl ?_
      refine R_iload_n (pc := 19) dX8_overlap_19 rfl rfl ?_
      refine R_icne (pc := 20) 26 dX8_overlap_20 (by decide) (fun b20_5 => ?_) (fun b20_5 => ?_)
      · skip
        refine R_iload_n (pc := 26) dX8_overlap_26 rfl rfl ?_
        refine R_iconst (pc := 27) (v := 0) dX8_overlap_27 (by decide) ?_
        refine R_iconst (pc := 28) (v := 2) dX8_overlap_28 (by decide) ?_
        refine k_X8_72 (pc := 29) (sp_X8_isWithin _ _ _ _) rfl (by decide) (Nat.le_refl _) (Nat.le_refl _) (Nat.le_of_ble_eq_true rfl) dX8_overlap_29 (fun x w2 h => ?_)
        rcases h with ⟨rfl, ⟨h6, rfl⟩ | ⟨h6, rfl⟩⟩
        · skip
          refine R_ifne (pc := 32) 38 dX8_overlap_32 (by decide) (fun _ => ?_) (fun h => absurd h (by decide))
          refine R_aload_n (pc := 38) dX8_overlap_38 rfl rfl ?_
          refine R_iload_n (pc := 39) dX8_overlap_39 rfl rfl ?_
          refine R_iload_n (pc := 40) dX8_overlap_40 rfl rfl ?_
          refine k_X8_212 (pc := 41) (gx_X8_cardsInBoth _ _ _ hI) rfl (c_0 _) (by decide) (Nat.le_refl _) (Nat.le_refl _) (Nat.le_of_ble_eq_true rfl) dX8_overlap_41 (fun y8 w2 h => ?_)
          subst h
          refine st_5_4_i_i (pc := 44) dX8_overlap_44 ?_
          refine R_iload_n (pc := 46) dX8_overlap_46 rfl rfl ?_
          refine R_ifne (pc := 47) 53 dX8_overlap_47 (by decide) (fun b47_9 => ?_) (fun b47_9 => ?_)
          · skip
            refine R_iload (pc := 53) dX8_overlap_53 rfl ?_
            refine R_ifne (pc := 55) 60 dX8_overlap_55 (by decide) (fun b55_10 => ?_) (fun b55_10 => ?_)
            · skip
              refine R_iload_n (pc := 60) dX8_overlap_60 rfl rfl ?_
              refine R_iconst (pc := 61) (v := 1) dX8_overlap_61 (by decide) ?_
              refine R_icne (pc := 62) 81 dX8_overlap_62 (by decide) (fun b62_11 => ?_) (fun b62_11 => ?_)
              · skip
                refine R_iload (pc := 81) dX8_overlap_81 rfl ?_
                exact R_iret (pc := 83) dX8_overlap_83 rfl rfl (Nat.zero_le _) (Nat.zero_le _) ⟨_, rfl, _, rfl, hI, (show Cor σ σ from Cor.rfl' σ)⟩
              · skip
                refine R_aload_n (pc := 65) dX8_overlap_65 rfl rfl ?_
                refine R_iload_n (pc := 66) dX8_overlap_66 rfl rfl ?_
                refine R_iload_n (pc := 67) dX8_overlap_67 rfl rfl ?_
                refine k_X8_212 (pc := 68) (gx_X8_cardsInBoth _ _ _ hI) rfl (c_0 _) (by decide) (Nat.le_refl _) (Nat.le_refl _) (Nat.le_of_ble_eq_true rfl) dX8_overlap_68 (fun y12 w2 h => ?_)
                subst h
                refine R_aload_n (pc := 71) dX8_overlap_71 rfl rfl ?_
                refine R_iload_n (pc := 72) dX8_overlap_72 rfl rfl ?_
                refine R_iload_n (pc := 73) dX8_overlap_73 rfl rfl ?_
                refine k_X8_212 (pc := 74) (gx_X8_cardsInBoth _ _ _ hI) rfl (c_0 _) (by decide) (Nat.le_refl _) (Nat.le_refl _) (Nat.le_of_ble_eq_true rfl) dX8_overlap_74 (fun y13 w2 h => ?_)
                subst h
                refine R_imul (pc := 77) dX8_overlap_77 ?_
                refine R_goto (pc := 78) 83 dX8_overlap_78 (by decide) ?_
                exact R_iret (pc := 83) dX8_overlap_83 rfl rfl (Nat.zero_le _) (Nat.zero_le _) ⟨_, rfl, _, rfl, hI, (show Cor σ σ from Cor.rfl' σ)⟩
            · skip
              refine R_iconst (pc := 58) (v := (-1)) dX8_overlap_58 (by decide) ?_
              exact R_iret (pc := 59) dX8_overlap_59 rfl rfl (Nat.zero_le _) (Nat.zero_le _) ⟨_, rfl, _, rfl, hI, (show Cor σ σ from Cor.rfl' σ)⟩
          · skip
            refine R_iload (pc := 50) dX8_overlap_50 rfl ?_
            exact R_iret (pc := 52) dX8_overlap_52 rfl rfl (Nat.zero_le _) (Nat.zero_le _) ⟨_, rfl, _, rfl, hI, (show Cor σ σ from Cor.rfl' σ)⟩
        · skip
          refine R_ifne (pc := 32) 38 dX8_overlap_32 (by decide) (fun h => absurd (by decide) h) (fun _ => ?_)
          refine R_bipush (pc := 35) (v := (-3)) dX8_overlap_35 (by decide) ?_
          exact R_iret (pc := 37) dX8_overlap_37 rfl rfl (Nat.zero_le _) (Nat.zero_le _) ⟨_, rfl, _, rfl, hI, (show Cor σ σ from Cor.rfl' σ)⟩
      · skip
        refine R_bipush (pc := 23) (v := (-2)) dX8_overlap_23 (by decide) ?_
        exact R_iret (pc := 25) dX8_overlap_25 rfl rfl (Nat.zero_le _) (Nat.zero_le _) ⟨_, rfl, _, rfl, hI, (show Cor σ σ from Cor.rfl' σ)⟩
    · skip
      refine R_ifeq (pc := 15) 23 dX8_overlap_15 (by decide) (fun _ => ?_) (fun h => absurd (by decide) h)
      refine R_bipush (pc := 23) (v := (-2)) dX8_overlap_23 (by decide) ?_
      exact R_iret (pc := 25) dX8_overlap_25 rfl rfl (Nat.zero_le _) (Nat.zero_le _) ⟨_, rfl, _, rfl, hI, (show Cor σ σ from Cor.rfl' σ)⟩
  · skip
    refine R_ifeq (pc := 6) 23 dX8_overlap_6 (by decide) (fun _ => ?_) (fun h => absurd (by decide) h)
    refine R_bipush (pc := 23) (v := (-2)) dX8_overlap_23 (by decide) ?_
    exact R_iret (pc := 25) dX8_overlap_25 rfl rfl (Nat.zero_le _) (Nat.zero_le _) ⟨_, rfl, _, rfl, hI, (show Cor σ σ from Cor.rfl' σ)⟩
theorem dX8_feature_0 : decode cX8_feature 0 = .ok (.iload_n 1, 1) := by decide +kernel
theorem dX8_feature_1 : decode cX8_feature 1 = .ok (.iconst 0, 1) := by decide +kernel
theorem dX8_feature_2 : decode cX8_feature 2 = .ok (.bipush 7, 2) := by decide +kernel
theorem dX8_feature_4 : decode cX8_feature 4 = .ok (.invokestatic 72, 3) := by decide +kernel
theorem dX8_feature_7 : decode cX8_feature 7 = .ok (.ifCond .ne 6, 3) := by decide +kernel
theorem dX8_feature_10 : decode cX8_feature 10 = .ok (.bipush (-2), 2) := by decide +kernel
theorem dX8_feature_12 : decode cX8_feature 12 = .ok (.ireturn, 1) := by decide +kernel
theorem dX8_feature_13 : decode cX8_feature 13 = .ok (.iload_n 2, 1) := by decide +kernel
theorem dX8_feature_14 : decode cX8_feature 14 = .ok (.iload_n 3, 1) := by decide +kernel
theorem dX8_feature_15 : decode cX8_feature 15 = .ok (.invokestatic 215, 3) := by decide +kernel
theorem dX8_feature_18 : decode cX8_feature 18 = .ok (.ifCond .ne 6, 3) := by decide +kernel
theorem dX8_feature_21 : decode cX8_feature 21 = .ok (.bipush (-3), 2) := by decide +kernel
theorem dX8_feature_23 : decode cX8_feature 23 = .ok (.ireturn, 1) := by decide +kernel
theorem dX8_feature_24 : decode cX8_feature 24 = .ok (.aload_n 0, 1) := by decide +kernel
theorem dX8_feature_25 : decode cX8_feature 25 = .ok (.getfield 37, 3) := by decide +kernel
theorem dX8_feature_28 : decode cX8_feature 28 = .ok (.getfield 218, 3) := by decide +kernel
theorem dX8_feature_31 : decode cX8_feature 31 = .ok (.iload_n 1, 1) := by decide +kernel
theorem dX8_feature_32 : decode cX8_feature 32 = .ok (.iload_n 2, 1) := by decide +kernel
theorem dX8_feature_33 : decode cX8_feature 33 = .ok (.iastore, 1) := by decide +kernel
theorem dX8_feature_34 : decode cX8_feature 34 = .ok (.aload_n 0, 1) := by decide +kernel
theorem dX8_feature_35 : decode cX8_feature 35 = .ok (.getfield 37, 3) := by decide +kernel
theorem dX8_feature_38 : decode cX8_feature 38 = .ok (.getfield 221, 3) := by decide +kernel
theorem dX8_feature_41 : decode cX8_feature 41 = .ok (.iload_n 1, 1) := by decide +kernel
theorem dX8_feature_42 : decode cX8_feature 42 = .ok (.iload_n 3, 1) := by decide +kernel
theorem dX8_feature_43 : decode cX8_feature 43 = .ok (.iastore, 1) := by decide +kernel
theorem dX8_feature_44 : decode cX8_feature 44 = .ok (.iconst 1, 1) := by decide +kernel
theorem dX8_feature_45 : decode cX8_feature 45 = .ok (.ireturn, 1) := by decide +kernel
theorem dX8_back_0 : decode cX8_back 0 = .ok (.iload_n 1, 1) := by decide +kernel
theorem dX8_back_1 : decode cX8_back 1 = .ok (.iconst 0, 1) := by decide +kernel
theorem dX8_back_2 : decode cX8_back 2 = .ok (.iconst 4, 1) := by decide +kernel
theorem dX8_back_3 : decode cX8_back 3 = .ok (.invokestatic 72, 3) := by decide +kernel
theorem dX8_back_6 : decode cX8_back 6 = .ok (.ifCond .ne 6, 3) := by decide +kernel
theorem dX8_back_9 : decode cX8_back 9 = .ok (.bipush (-2), 2) := by decide +kernel
theorem dX8_back_11 : decode cX8_back 11 = .ok (.ireturn, 1) := by decide +kernel
theorem dX8_back_12 : decode cX8_back 12 = .ok (.iload_n 2, 1) := by decide +kernel
theorem dX8_back_13 : decode cX8_back 13 = .ok (.iload_n 3, 1) := by decide +kernel
theorem dX8_back_14 : decode cX8_back 14 = .ok (.invokestatic 215, 3) := by decide +kernel
theorem dX8_back_17 : decode cX8_back 17 = .ok (.ifCond .ne 6, 3) := by decide +kernel
theorem dX8_back_20 : decode cX8_back 20 = .ok (.bipush (-3), 2) := by decide +kernel
theorem dX8_back_22 : decode cX8_back 22 = .ok (.ireturn, 1) := by decide +kernel
theorem dX8_back_23 : decode cX8_back 23 = .ok (.aload_n 0, 1) := by decide +kernel
theorem dX8_back_24 : decode cX8_back 24 = .ok (.getfield 37, 3) := by decide +kernel
theorem dX8_back_27 : decode cX8_back 27 = .ok (.getfield 227, 3) := by decide +kernel
theorem dX8_back_30 : decode cX8_back 30 = .ok (.iload_n 1, 1) := by decide +kernel
theorem dX8_back_31 : decode cX8_back 31 = .ok (.iload_n 2, 1) := by decide +kernel
theorem dX8_back_32 : decode cX8_back 32 = .ok (.iastore, 1) := by decide +kernel
theorem dX8_back_33 : decode cX8_back 33 = .ok (.aload_n 0, 1) := by decide +kernel
theorem dX8_back_34 : decode cX8_back 34 = .ok (.getfield 37, 3) := by decide +kernel
theorem dX8_back_37 : decode cX8_back 37 = .ok (.getfield 230, 3) := by decide +kernel
theorem dX8_back_40 : decode cX8_back 40 = .ok (.iload_n 1, 1) := by decide +kernel
theorem dX8_back_41 : decode cX8_back 41 = .ok (.iload_n 3, 1) := by decide +kernel
theorem dX8_back_42 : decode cX8_back 42 = .ok (.iastore, 1) := by decide +kernel
theorem dX8_back_43 : decode cX8_back 43 = .ok (.iconst 1, 1) := by decide +kernel
theorem dX8_back_44 : decode cX8_back 44 = .ok (.ireturn, 1) := by decide +kernel
theorem dX8_shows_0 : decode cX8_shows 0 = .ok (.aload_n 0, 1) := by decide +kernel
theorem dX8_shows_1 : decode cX8_shows 1 = .ok (.getfield 10, 3) := by decide +kernel
theorem dX8_shows_4 : decode cX8_shows 4 = .ok (.iload_n 1, 1) := by decide +kernel
theorem dX8_shows_5 : decode cX8_shows 5 = .ok (.invokevirtual 90, 3) := by decide +kernel
theorem dX8_shows_8 : decode cX8_shows 8 = .ok (.ifCond .eq 13, 3) := by decide +kernel
theorem dX8_shows_11 : decode cX8_shows 11 = .ok (.iload_n 2, 1) := by decide +kernel
theorem dX8_shows_12 : decode cX8_shows 12 = .ok (.iconst 0, 1) := by decide +kernel
theorem dX8_shows_13 : decode cX8_shows 13 = .ok (.bipush 7, 2) := by decide +kernel
theorem dX8_shows_15 : decode cX8_shows 15 = .ok (.invokestatic 72, 3) := by decide +kernel
theorem dX8_shows_18 : decode cX8_shows 18 = .ok (.ifCond .ne 6, 3) := by decide +kernel
theorem dX8_shows_21 : decode cX8_shows 21 = .ok (.bipush (-2), 2) := by decide +kernel
theorem dX8_shows_23 : decode cX8_shows 23 = .ok (.ireturn, 1) := by decide +kernel
theorem dX8_shows_24 : decode cX8_shows 24 = .ok (.iload_n 3, 1) := by decide +kernel
theorem dX8_shows_25 : decode cX8_shows 25 = .ok (.ifCond .eq 16, 3) := by decide +kernel
theorem dX8_shows_28 : decode cX8_shows 28 = .ok (.iload_n 3, 1) := by decide +kernel
theorem dX8_shows_29 : decode cX8_shows 29 = .ok (.iconst 1, 1) := by decide +kernel
theorem dX8_shows_30 : decode cX8_shows 30 = .ok (.if_icmp .eq 11, 3) := by decide +kernel
theorem dX8_shows_33 : decode cX8_shows 33 = .ok (.iload_n 3, 1) := by decide +kernel
theorem dX8_shows_34 : decode cX8_shows 34 = .ok (.iconst 2, 1) := by decide +kernel
theorem dX8_shows_35 : decode cX8_shows 35 = .ok (.if_icmp .eq 6, 3) := by decide +kernel
theorem dX8_shows_38 : decode cX8_shows 38 = .ok (.bipush (-3), 2) := by decide +kernel
theorem dX8_shows_40 : decode cX8_shows 40 = .ok (.ireturn, 1) := by decide +kernel
theorem dX8_shows_41 : decode cX8_shows 41 = .ok (.aload_n 0, 1) := by decide +kernel
theorem dX8_shows_42 : decode cX8_shows 42 = .ok (.getfield 37, 3) := by decide +kernel
theorem dX8_shows_45 : decode cX8_shows 45 = .ok (.getfield 224, 3) := by decide +kernel
theorem dX8_shows_48 : decode cX8_shows 48 = .ok (.iload_n 1, 1) := by decide +kernel
theorem dX8_shows_49 : decode cX8_shows 49 = .ok (.aaload, 1) := by decide +kernel
theorem dX8_shows_50 : decode cX8_shows 50 = .ok (.iload_n 2, 1) := by decide +kernel
theorem dX8_shows_51 : decode cX8_shows 51 = .ok (.iaload, 1) := by decide +kernel
theorem dX8_shows_52 : decode cX8_shows 52 = .ok (.istore 4, 2) := by decide +kernel
theorem dX8_shows_54 : decode cX8_shows 54 = .ok (.aload_n 0, 1) := by decide +kernel
theorem dX8_shows_55 : decode cX8_shows 55 = .ok (.getfield 37, 3) := by decide +kernel
theorem dX8_shows_58 : decode cX8_shows 58 = .ok (.getfield 224, 3) := by decide +kernel
theorem dX8_shows_61 : decode cX8_shows 61 = .ok (.iload_n 1, 1) := by decide +kernel
theorem dX8_shows_62 : decode cX8_shows 62 = .ok (.aaload, 1) := by decide +kernel
theorem dX8_shows_63 : decode cX8_shows 63 = .ok (.iload_n 2, 1) := by decide +kernel
theorem dX8_shows_64 : decode cX8_shows 64 = .ok (.iload_n 3, 1) := by decide +kernel
theorem dX8_shows_65 : decode cX8_shows 65 = .ok (.iastore, 1) := by decide +kernel
theorem dX8_shows_66 : decode cX8_shows 66 = .ok (.iload 4, 2) := by decide +kernel
theorem dX8_shows_68 : decode cX8_shows 68 = .ok (.ireturn, 1) := by decide +kernel
theorem dX8_later_0 : decode cX8_later 0 = .ok (.aload_n 0, 1) := by decide +kernel
theorem dX8_later_1 : decode cX8_later 1 = .ok (.iload_n 1, 1) := by decide +kernel
theorem dX8_later_2 : decode cX8_later 2 = .ok (.iload_n 2, 1) := by decide +kernel
theorem dX8_later_3 : decode cX8_later 3 = .ok (.invokevirtual 118, 3) := by decide +kernel
theorem dX8_later_6 : decode cX8_later 6 = .ok (.ifCond .ne 6, 3) := by decide +kernel
theorem dX8_later_9 : decode cX8_later 9 = .ok (.bipush (-2), 2) := by decide +kernel
theorem dX8_later_11 : decode cX8_later 11 = .ok (.ireturn, 1) := by decide +kernel
theorem dX8_later_12 : decode cX8_later 12 = .ok (.aload_n 0, 1) := by decide +kernel
theorem dX8_later_13 : decode cX8_later 13 = .ok (.getfield 37, 3) := by decide +kernel
theorem dX8_later_16 : decode cX8_later 16 = .ok (.getfield 233, 3) := by decide +kernel
theorem dX8_later_19 : decode cX8_later 19 = .ok (.bipush 12, 2) := by decide +kernel
theorem dX8_later_21 : decode cX8_later 21 = .ok (.if_icmp .lt 6, 3) := by decide +kernel
theorem dX8_later_24 : decode cX8_later 24 = .ok (.bipush (-5), 2) := by decide +kernel
theorem dX8_later_26 : decode cX8_later 26 = .ok (.ireturn, 1) := by decide +kernel
theorem dX8_later_27 : decode cX8_later 27 = .ok (.aload_n 0, 1) := by decide +kernel
theorem dX8_later_28 : decode cX8_later 28 = .ok (.getfield 37, 3) := by decide +kernel
theorem dX8_later_31 : decode cX8_later 31 = .ok (.getfield 236, 3) := by decide +kernel
theorem dX8_later_34 : decode cX8_later 34 = .ok (.aload_n 0, 1) := by decide +kernel
theorem dX8_later_35 : decode cX8_later 35 = .ok (.getfield 37, 3) := by decide +kernel
theorem dX8_later_38 : decode cX8_later 38 = .ok (.getfield 233, 3) := by decide +kernel
theorem dX8_later_41 : decode cX8_later 41 = .ok (.iload_n 1, 1) := by decide +kernel
theorem dX8_later_42 : decode cX8_later 42 = .ok (.iastore, 1) := by decide +kernel
theorem dX8_later_43 : decode cX8_later 43 = .ok (.aload_n 0, 1) := by decide +kernel
theorem dX8_later_44 : decode cX8_later 44 = .ok (.getfield 37, 3) := by decide +kernel
theorem dX8_later_47 : decode cX8_later 47 = .ok (.getfield 239, 3) := by decide +kernel
theorem dX8_later_50 : decode cX8_later 50 = .ok (.aload_n 0, 1) := by decide +kernel
theorem dX8_later_51 : decode cX8_later 51 = .ok (.getfield 37, 3) := by decide +kernel
theorem dX8_later_54 : decode cX8_later 54 = .ok (.getfield 233, 3) := by decide +kernel
theorem dX8_later_57 : decode cX8_later 57 = .ok (.iload_n 2, 1) := by decide +kernel
theorem dX8_later_58 : decode cX8_later 58 = .ok (.iastore, 1) := by decide +kernel
theorem dX8_later_59 : decode cX8_later 59 = .ok (.aload_n 0, 1) := by decide +kernel
theorem dX8_later_60 : decode cX8_later 60 = .ok (.getfield 37, 3) := by decide +kernel
theorem dX8_later_63 : decode cX8_later 63 = .ok (.dup, 1) := by decide +kernel
theorem dX8_later_64 : decode cX8_later 64 = .ok (.getfield 233, 3) := by decide +kernel
theorem dX8_later_67 : decode cX8_later 67 = .ok (.iconst 1, 1) := by decide +kernel
theorem dX8_later_68 : decode cX8_later 68 = .ok (.iadd, 1) := by decide +kernel
theorem dX8_later_69 : decode cX8_later 69 = .ok (.putfield 233, 3) := by decide +kernel
theorem dX8_later_72 : decode cX8_later 72 = .ok (.aload_n 0, 1) := by decide +kernel
theorem dX8_later_73 : decode cX8_later 73 = .ok (.getfield 37, 3) := by decide +kernel
theorem dX8_later_76 : decode cX8_later 76 = .ok (.getfield 233, 3) := by decide +kernel
theorem dX8_later_79 : decode cX8_later 79 = .ok (.ireturn, 1) := by decide +kernel
theorem dX8_landmark_0 : decode cX8_landmark 0 = .ok (.iload_n 1, 1) := by decide +kernel
theorem dX8_landmark_1 : decode cX8_landmark 1 = .ok (.iconst 0, 1) := by decide +kernel
theorem dX8_landmark_2 : decode cX8_landmark 2 = .ok (.bipush 7, 2) := by decide +kernel
theorem dX8_landmark_4 : decode cX8_landmark 4 = .ok (.invokestatic 72, 3) := by decide +kernel
theorem dX8_landmark_7 : decode cX8_landmark 7 = .ok (.ifCond .ne 6, 3) := by decide +kernel
theorem dX8_landmark_10 : decode cX8_landmark 10 = .ok (.bipush (-2), 2) := by decide +kernel
theorem dX8_landmark_12 : decode cX8_landmark 12 = .ok (.ireturn, 1) := by decide +kernel
theorem dX8_landmark_13 : decode cX8_landmark 13 = .ok (.iload_n 2, 1) := by decide +kernel
theorem dX8_landmark_14 : decode cX8_landmark 14 = .ok (.iconst 0, 1) := by decide +kernel
theorem dX8_landmark_15 : decode cX8_landmark 15 = .ok (.bipush 63, 2) := by decide +kernel
theorem dX8_landmark_17 : decode cX8_landmark 17 = .ok (.invokestatic 72, 3) := by decide +kernel
theorem dX8_landmark_20 : decode cX8_landmark 20 = .ok (.ifCond .ne 12, 3) := by decide +kernel
theorem dX8_landmark_23 : decode cX8_landmark 23 = .ok (.iload_n 2, 1) := by decide +kernel
theorem dX8_landmark_24 : decode cX8_landmark 24 = .ok (.bipush 64, 2) := by decide +kernel
theorem dX8_landmark_26 : decode cX8_landmark 26 = .ok (.if_icmp .eq 6, 3) := by decide +kernel
theorem dX8_landmark_29 : decode cX8_landmark 29 = .ok (.bipush (-3), 2) := by decide +kernel
theorem dX8_landmark_31 : decode cX8_landmark 31 = .ok (.ireturn, 1) := by decide +kernel
theorem dX8_landmark_32 : decode cX8_landmark 32 = .ok (.aload_n 0, 1) := by decide +kernel
theorem dX8_landmark_33 : decode cX8_landmark 33 = .ok (.getfield 44, 3) := by decide +kernel
theorem dX8_landmark_36 : decode cX8_landmark 36 = .ok (.getfield 264, 3) := by decide +kernel
theorem dX8_landmark_39 : decode cX8_landmark 39 = .ok (.iload_n 1, 1) := by decide +kernel
theorem dX8_landmark_40 : decode cX8_landmark 40 = .ok (.iload_n 2, 1) := by decide +kernel
theorem dX8_landmark_41 : decode cX8_landmark 41 = .ok (.iastore, 1) := by decide +kernel
theorem dX8_landmark_42 : decode cX8_landmark 42 = .ok (.iconst 1, 1) := by decide +kernel
theorem dX8_landmark_43 : decode cX8_landmark 43 = .ok (.ireturn, 1) := by decide +kernel
theorem dX8_walls_0 : decode cX8_walls 0 = .ok (.aload_n 0, 1) := by decide +kernel
theorem dX8_walls_1 : decode cX8_walls 1 = .ok (.getfield 44, 3) := by decide +kernel
theorem dX8_walls_4 : decode cX8_walls 4 = .ok (.lload_n 1, 1) := by decide +kernel
theorem dX8_walls_5 : decode cX8_walls 5 = .ok (.putfield 267, 3) := by decide +kernel
theorem dX8_walls_8 : decode cX8_walls 8 = .ok (.iconst 1, 1) := by decide +kernel
theorem dX8_walls_9 : decode cX8_walls 9 = .ok (.ireturn, 1) := by decide +kernel
theorem dX8_view_0 : decode cX8_view 0 = .ok (.aload_n 0, 1) := by decide +kernel
theorem dX8_view_1 : decode cX8_view 1 = .ok (.getfield 10, 3) := by decide +kernel
theorem dX8_view_4 : decode cX8_view 4 = .ok (.iload_n 1, 1) := by decide +kernel
theorem dX8_view_5 : decode cX8_view 5 = .ok (.invokevirtual 90, 3) := by decide +kernel
theorem dX8_view_8 : decode cX8_view 8 = .ok (.ifCond .eq 13, 3) := by decide +kernel
theorem dX8_view_11 : decode cX8_view 11 = .ok (.iload_n 2, 1) := by decide +kernel
theorem dX8_view_12 : decode cX8_view 12 = .ok (.iconst 0, 1) := by decide +kernel
theorem dX8_view_13 : decode cX8_view 13 = .ok (.bipush 7, 2) := by decide +kernel
theorem dX8_view_15 : decode cX8_view 15 = .ok (.invokestatic 72, 3) := by decide +kernel
theorem dX8_view_18 : decode cX8_view 18 = .ok (.ifCond .ne 6, 3) := by decide +kernel
theorem dX8_view_21 : decode cX8_view 21 = .ok (.bipush (-2), 2) := by decide +kernel
theorem dX8_view_23 : decode cX8_view 23 = .ok (.ireturn, 1) := by decide +kernel
theorem dX8_view_24 : decode cX8_view 24 = .ok (.aload_n 0, 1) := by decide +kernel
theorem dX8_view_25 : decode cX8_view 25 = .ok (.getfield 44, 3) := by decide +kernel
theorem dX8_view_28 : decode cX8_view 28 = .ok (.iload_n 1, 1) := by decide +kernel
theorem dX8_view_29 : decode cX8_view 29 = .ok (.iload_n 2, 1) := by decide +kernel
theorem dX8_view_30 : decode cX8_view 30 = .ok (.invokevirtual 271, 3) := by decide +kernel
theorem dX8_view_33 : decode cX8_view 33 = .ok (.ifCond .eq 6, 3) := by decide +kernel
theorem dX8_view_36 : decode cX8_view 36 = .ok (.bipush (-4), 2) := by decide +kernel
theorem dX8_view_38 : decode cX8_view 38 = .ok (.ireturn, 1) := by decide +kernel
theorem dX8_view_39 : decode cX8_view 39 = .ok (.aload_n 0, 1) := by decide +kernel
theorem dX8_view_40 : decode cX8_view 40 = .ok (.getfield 44, 3) := by decide +kernel
theorem dX8_view_43 : decode cX8_view 43 = .ok (.getfield 274, 3) := by decide +kernel
theorem dX8_view_46 : decode cX8_view 46 = .ok (.iload_n 1, 1) := by decide +kernel
theorem dX8_view_47 : decode cX8_view 47 = .ok (.iaload, 1) := by decide +kernel
theorem dX8_view_48 : decode cX8_view 48 = .ok (.iconst 5, 1) := by decide +kernel
theorem dX8_view_49 : decode cX8_view 49 = .ok (.if_icmp .lt 6, 3) := by decide +kernel
theorem dX8_view_52 : decode cX8_view 52 = .ok (.bipush (-5), 2) := by decide +kernel
theorem dX8_view_54 : decode cX8_view 54 = .ok (.ireturn, 1) := by decide +kernel
theorem dX8_view_55 : decode cX8_view 55 = .ok (.aload_n 0, 1) := by decide +kernel
theorem dX8_view_56 : decode cX8_view 56 = .ok (.getfield 44, 3) := by decide +kernel
theorem dX8_view_59 : decode cX8_view 59 = .ok (.getfield 277, 3) := by decide +kernel
theorem dX8_view_62 : decode cX8_view 62 = .ok (.iload_n 1, 1) := by decide +kernel
theorem dX8_view_63 : decode cX8_view 63 = .ok (.aaload, 1) := by decide +kernel
theorem dX8_view_64 : decode cX8_view 64 = .ok (.aload_n 0, 1) := by decide +kernel
theorem dX8_view_65 : decode cX8_view 65 = .ok (.getfield 44, 3) := by decide +kernel
theorem dX8_view_68 : decode cX8_view 68 = .ok (.getfield 274, 3) := by decide +kernel
theorem dX8_view_71 : decode cX8_view 71 = .ok (.iload_n 1, 1) := by decide +kernel
theorem dX8_view_72 : decode cX8_view 72 = .ok (.iaload, 1) := by decide +kernel
theorem dX8_view_73 : decode cX8_view 73 = .ok (.iload_n 2, 1) := by decide +kernel
theorem dX8_view_74 : decode cX8_view 74 = .ok (.iastore, 1) := by decide +kernel
theorem dX8_view_75 : decode cX8_view 75 = .ok (.aload_n 0, 1) := by decide +kernel
theorem dX8_view_76 : decode cX8_view 76 = .ok (.getfield 44, 3) := by decide +kernel
theorem dX8_view_79 : decode cX8_view 79 = .ok (.getfield 274, 3) := by decide +kernel
theorem dX8_view_82 : decode cX8_view 82 = .ok (.iload_n 1, 1) := by decide +kernel
theorem dX8_view_83 : decode cX8_view 83 = .ok (.dup2, 1) := by decide +kernel
theorem dX8_view_84 : decode cX8_view 84 = .ok (.iaload, 1) := by decide +kernel
theorem dX8_view_85 : decode cX8_view 85 = .ok (.iconst 1, 1) := by decide +kernel
theorem dX8_view_86 : decode cX8_view 86 = .ok (.iadd, 1) := by decide +kernel
theorem dX8_view_87 : decode cX8_view 87 = .ok (.iastore, 1) := by decide +kernel
theorem dX8_view_88 : decode cX8_view 88 = .ok (.aload_n 0, 1) := by decide +kernel
theorem dX8_view_89 : decode cX8_view 89 = .ok (.getfield 44, 3) := by decide +kernel
theorem dX8_view_92 : decode cX8_view 92 = .ok (.getfield 274, 3) := by decide +kernel
theorem dX8_view_95 : decode cX8_view 95 = .ok (.iload_n 1, 1) := by decide +kernel
theorem dX8_view_96 : decode cX8_view 96 = .ok (.iaload, 1) := by decide +kernel
theorem dX8_view_97 : decode cX8_view 97 = .ok (.ireturn, 1) := by decide +kernel
theorem dX8_unview_0 : decode cX8_unview 0 = .ok (.aload_n 0, 1) := by decide +kernel
theorem dX8_unview_1 : decode cX8_unview 1 = .ok (.getfield 10, 3) := by decide +kernel
theorem dX8_unview_4 : decode cX8_unview 4 = .ok (.iload_n 1, 1) := by decide +kernel
theorem dX8_unview_5 : decode cX8_unview 5 = .ok (.invokevirtual 90, 3) := by decide +kernel
theorem dX8_unview_8 : decode cX8_unview 8 = .ok (.ifCond .ne 6, 3) := by decide +kernel
theorem dX8_unview_11 : decode cX8_unview 11 = .ok (.bipush (-2), 2) := by decide +kernel
theorem dX8_unview_13 : decode cX8_unview 13 = .ok (.ireturn, 1) := by decide +kernel
theorem dX8_unview_14 : decode cX8_unview 14 = .ok (.aload_n 0, 1) := by decide +kernel
theorem dX8_unview_15 : decode cX8_unview 15 = .ok (.getfield 44, 3) := by decide +kernel
theorem dX8_unview_18 : decode cX8_unview 18 = .ok (.getfield 274, 3) := by decide +kernel
theorem dX8_unview_21 : decode cX8_unview 21 = .ok (.iload_n 1, 1) := by decide +kernel
theorem dX8_unview_22 : decode cX8_unview 22 = .ok (.iaload, 1) := by decide +kernel
theorem dX8_unview_23 : decode cX8_unview 23 = .ok (.istore_n 2, 1) := by decide +kernel
theorem dX8_unview_24 : decode cX8_unview 24 = .ok (.aload_n 0, 1) := by decide +kernel
theorem dX8_unview_25 : decode cX8_unview 25 = .ok (.getfield 44, 3) := by decide +kernel
theorem dX8_unview_28 : decode cX8_unview 28 = .ok (.getfield 274, 3) := by decide +kernel
theorem dX8_unview_31 : decode cX8_unview 31 = .ok (.iload_n 1, 1) := by decide +kernel
theorem dX8_unview_32 : decode cX8_unview 32 = .ok (.iconst 0, 1) := by decide +kernel
theorem dX8_unview_33 : decode cX8_unview 33 = .ok (.iastore, 1) := by decide +kernel
theorem dX8_unview_34 : decode cX8_unview 34 = .ok (.iload_n 2, 1) := by decide +kernel
theorem dX8_unview_35 : decode cX8_unview 35 = .ok (.ireturn, 1) := by decide +kernel
theorem dX8_stood_0 : decode cX8_stood 0 = .ok (.aload_n 0, 1) := by decide +kernel
theorem dX8_stood_1 : decode cX8_stood 1 = .ok (.getfield 10, 3) := by decide +kernel
theorem dX8_stood_4 : decode cX8_stood 4 = .ok (.iload_n 1, 1) := by decide +kernel
theorem dX8_stood_5 : decode cX8_stood 5 = .ok (.invokevirtual 90, 3) := by decide +kernel
theorem dX8_stood_8 : decode cX8_stood 8 = .ok (.ifCond .eq 14, 3) := by decide +kernel
theorem dX8_stood_11 : decode cX8_stood 11 = .ok (.aload_n 0, 1) := by decide +kernel
theorem dX8_stood_12 : decode cX8_stood 12 = .ok (.getfield 44, 3) := by decide +kernel
theorem dX8_stood_15 : decode cX8_stood 15 = .ok (.iload_n 1, 1) := by decide +kernel
theorem dX8_stood_16 : decode cX8_stood 16 = .ok (.invokevirtual 280, 3) := by decide +kernel
theorem dX8_stood_19 : decode cX8_stood 19 = .ok (.goto 4, 3) := by decide +kernel
theorem dX8_stood_22 : decode cX8_stood 22 = .ok (.lconst 0, 1) := by decide +kernel
theorem dX8_stood_23 : decode cX8_stood 23 = .ok (.lreturn, 1) := by decide +kernel
set_option maxRecDepth 100000 in
set_option maxHeartbeats 40000000 in
theorem gp_stood {G : vG} {l : Launch} (σ : Sg) (a : Int32) (hI : Inv σ) : Sp G l yX8_stood cX8_stood 2 (some .long) 4 0 0 [.ref 0, .int a] (WW σ) (QL (fun _ w2 => ∃ σ2, w2 = WW σ2 ∧ Inv σ2 ∧ Cor σ σ2)) := by
  refine Sp_of_R [(some (.ref 0)), (some (.int a))] [] rfl (by simp) rfl (Nat.le_of_ble_eq_true rfl) ?_
  refine R_aload_n (pc := 0) dX8_stood_0 rfl rfl ?_
  refine g_X8_10 (pc := 1) (v := .ref 1) rfl dX8_stood_1 (c_0 _) rfl ?_
  refine R_iload_n (pc := 4) dX8_stood_4 rfl rfl ?_
  refine k_X8_90 (pc := 5) (gx_X0_isThere _ _ hI) rfl (c_1 _) (by decide) (Nat.le_refl _) (Nat.le_refl _) (Nat.le_of_ble_eq_true rfl) dX8_stood_5 (fun x w2 h => ?_)
  rcases h with ⟨rfl, ⟨h1, rfl⟩ | rfl⟩
  · skip
    refine R_ifeq (pc := 8) 22 dX8_stood_8 (by decide) (fun h => absurd h (by decide)) (fun _ => ?_)
    refine R_aload_n (pc := 11) dX8_stood_11 rfl rfl ?_
    refine g_X8_44 (pc := 12) (v := .ref 93) rfl dX8_stood_12 (c_0 _) rfl ?_
    refine R_iload_n (pc := 15) dX8_stood_15 rfl rfl ?_
    refine k_X8_280 (pc := 16) (gx_X2_standing _ _ hI h1) rfl (c_93 _) (by decide) (Nat.le_refl _) (Nat.le_refl _) (Nat.le_of_ble_eq_true rfl) dX8_stood_16 (fun y3 w2 h => ?_)
    subst h
    refine R_goto (pc := 19) 23 dX8_stood_19 (by decide) ?_
    exact R_lret (pc := 23) dX8_stood_23 rfl (Nat.zero_le _) (Nat.zero_le _) ⟨_, rfl, _, rfl, hI, (show Cor σ σ from Cor.rfl' σ)⟩
  · skip
    refine R_ifeq (pc := 8) 22 dX8_stood_8 (by decide) (fun _ => ?_) (fun h => absurd (by decide) h)
    refine R_lconst (pc := 22) (v := 0) dX8_stood_22 (by decide) ?_
    exact R_lret (pc := 23) dX8_stood_23 rfl (Nat.zero_le _) (Nat.zero_le _) ⟨_, rfl, _, rfl, hI, (show Cor σ σ from Cor.rfl' σ)⟩
theorem dX8_together_0 : decode cX8_together 0 = .ok (.aload_n 0, 1) := by decide +kernel
theorem dX8_together_1 : decode cX8_together 1 = .ok (.getfield 10, 3) := by decide +kernel
theorem dX8_together_4 : decode cX8_together 4 = .ok (.iload_n 1, 1) := by decide +kernel
theorem dX8_together_5 : decode cX8_together 5 = .ok (.invokevirtual 90, 3) := by decide +kernel
theorem dX8_together_8 : decode cX8_together 8 = .ok (.ifCond .ne 6, 3) := by decide +kernel
theorem dX8_together_11 : decode cX8_together 11 = .ok (.bipush (-2), 2) := by decide +kernel
theorem dX8_together_13 : decode cX8_together 13 = .ok (.ireturn, 1) := by decide +kernel
theorem dX8_together_14 : decode cX8_together 14 = .ok (.aload_n 0, 1) := by decide +kernel
theorem dX8_together_15 : decode cX8_together 15 = .ok (.getfield 21, 3) := by decide +kernel
theorem dX8_together_18 : decode cX8_together 18 = .ok (.iload_n 1, 1) := by decide +kernel
theorem dX8_together_19 : decode cX8_together 19 = .ok (.aload_n 0, 1) := by decide +kernel
theorem dX8_together_20 : decode cX8_together 20 = .ok (.getfield 10, 3) := by decide +kernel
theorem dX8_together_23 : decode cX8_together 23 = .ok (.invokevirtual 126, 3) := by decide +kernel
theorem dX8_together_26 : decode cX8_together 26 = .ok (.invokevirtual 130, 3) := by decide +kernel
theorem dX8_together_29 : decode cX8_together 29 = .ok (.istore_n 2, 1) := by decide +kernel
theorem dX8_together_30 : decode cX8_together 30 = .ok (.ldc2_w 284, 3) := by decide +kernel
theorem dX8_together_33 : decode cX8_together 33 = .ok (.lstore_n 3, 1) := by decide +kernel
theorem dX8_together_34 : decode cX8_together 34 = .ok (.iconst 0, 1) := by decide +kernel
theorem dX8_together_35 : decode cX8_together 35 = .ok (.istore 5, 2) := by decide +kernel
theorem dX8_together_37 : decode cX8_together 37 = .ok (.iload 5, 2) := by decide +kernel
theorem dX8_together_39 : decode cX8_together 39 = .ok (.bipush 20, 2) := by decide +kernel
theorem dX8_together_41 : decode cX8_together 41 = .ok (.if_icmp .ge 43, 3) := by decide +kernel
theorem dX8_together_44 : decode cX8_together 44 = .ok (.iload_n 2, 1) := by decide +kernel
theorem dX8_together_45 : decode cX8_together 45 = .ok (.iload 5, 2) := by decide +kernel
theorem dX8_together_47 : decode cX8_together 47 = .ok (.invokestatic 209, 3) := by decide +kernel
theorem dX8_together_50 : decode cX8_together 50 = .ok (.ifCond .eq 28, 3) := by decide +kernel
theorem dX8_together_53 : decode cX8_together 53 = .ok (.aload_n 0, 1) := by decide +kernel
theorem dX8_together_54 : decode cX8_together 54 = .ok (.getfield 44, 3) := by decide +kernel
theorem dX8_together_57 : decode cX8_together 57 = .ok (.getfield 274, 3) := by decide +kernel
theorem dX8_together_60 : decode cX8_together 60 = .ok (.iload 5, 2) := by decide +kernel
theorem dX8_together_62 : decode cX8_together 62 = .ok (.iaload, 1) := by decide +kernel
theorem dX8_together_63 : decode cX8_together 63 = .ok (.ifCond .le 15, 3) := by decide +kernel
theorem dX8_together_66 : decode cX8_together 66 = .ok (.lload_n 3, 1) := by decide +kernel
theorem dX8_together_67 : decode cX8_together 67 = .ok (.aload_n 0, 1) := by decide +kernel
theorem dX8_together_68 : decode cX8_together 68 = .ok (.getfield 44, 3) := by decide +kernel
theorem dX8_together_71 : decode cX8_together 71 = .ok (.iload 5, 2) := by decide +kernel
theorem dX8_together_73 : decode cX8_together 73 = .ok (.invokevirtual 280, 3) := by decide +kernel
theorem dX8_together_76 : decode cX8_together 76 = .ok (.land, 1) := by decide +kernel
theorem dX8_together_77 : decode cX8_together 77 = .ok (.lstore_n 3, 1) := by decide +kernel
theorem dX8_together_78 : decode cX8_together 78 = .ok (.iinc 5 1, 3) := by decide +kernel
theorem dX8_together_81 : decode cX8_together 81 = .ok (.goto (-44), 3) := by decide +kernel
theorem dX8_together_84 : decode cX8_together 84 = .ok (.lload_n 3, 1) := by decide +kernel
theorem dX8_together_85 : decode cX8_together 85 = .ok (.invokestatic 286, 3) := by decide +kernel
theorem dX8_together_88 : decode cX8_together 88 = .ok (.ireturn, 1) := by decide +kernel
set_option maxRecDepth 100000 in
set_option maxHeartbeats 40000000 in
theorem gp_together {G : vG} {l : Launch} (σ : Sg) (a : Int32) (hI : Inv σ) : Sp G l yX8_together cX8_together 6 (some .int) 4 0 0 [.ref 0, .int a] (WW σ) (QI (fun _ w2 => ∃ σ2, w2 = WW σ2 ∧ Inv σ2 ∧ Cor σ σ2)) := by
  refine Sp_of_R [(some (.ref 0)), (some (.int a)), none, none, none, none] [none, none, none, none] rfl (by simp) rfl (Nat.le_of_ble_eq_true rfl) ?_
  refine R_aload_n (pc := 0) dX8_together_0 rfl rfl ?_
  refine g_X8_10 (pc := 1) (v := .ref 1) rfl dX8_together_1 (c_0 _) rfl ?_
  refine R_iload_n (pc := 4) dX8_together_4 rfl rfl ?_
  refine k_X8_90 (pc := 5) (gx_X0_isThere _ _ hI) rfl (c_1 _) (by decide) (Nat.le_refl _) (Nat.le_refl _) (Nat.le_of_ble_eq_true rfl) dX8_together_5 (fun x w2 h => ?_)
  rcases h with ⟨rfl, ⟨h1, rfl⟩ | rfl⟩
  · skip
    refine R_ifne (pc := 8) 14 dX8_together_8 (by decide) (fun _ => ?_) (fun h => absurd h (by decide))
    refine R_aload_n (pc := 14) dX8_together_14 rfl rfl ?_
    refine g_X8_21 (pc := 15) (v := .ref 12) rfl dX8_together_15 (c_0 _) rfl ?_
    refine R_iload_n (pc := 18) dX8_together_18 rfl rfl ?_
    refine R_aload_n (pc := 19) dX8_together_19 rfl rfl ?_
    refine g_X8_10 (pc := 20) (v := .ref 1) rfl dX8_together_20 (c_0 _) rfl ?_
    refine k_X8_126 (pc := 23) (gx_X0_there _ hI) rfl (c_1 _) (by decide) (Nat.le_refl _) (Nat.le_refl _) (Nat.le_of_ble_eq_true rfl) dX8_together_23 (fun y3 w2 h => ?_)
    subst h
    refine k_X8_130 (pc := 26) (gx_X3_sameNegative _ _ _ hI h1) rfl (c_12 _) (by decide) (Nat.le_refl _) (Nat.le_refl _) (Nat.le_of_ble_eq_true rfl) dX8_together_26 (fun y4 w2 h => ?_)
    subst h
    refine st_6_2_i_i (pc := 29) dX8_together_29 ?_
    refine R_ldc2 (pc := 30) w_697c dX8_together_30 ?_
    refine st_6_3_l_i (pc := 33) dX8_together_33 ?_
    refine R_iconst (pc := 34) (v := 0) dX8_together_34 (by decide) ?_
    refine st_6_5_i_n (pc := 35) dX8_together_35 ?_
    have HL37 : ∀ (q j37 : Nat) (g3_37 : Int64), j37 + q = 20 → 0 ≤ j37 → R G l yX8_together cX8_together 6 (some .int) 4 0 0 (QI (fun _ w2 => ∃ σ2, w2 = WW σ2 ∧ Inv σ2 ∧ Cor σ σ2)) 37 [(some (.ref 0)), (some (.int a)), (some (.int y4)), (some (.long g3_37)), none, (some (.int (nI j37)))] [] (WW σ) 0 0 := by
      intro q
      induction q with
      | zero =>
        intro j37 g3_37 hj hs37
        obtain rfl : j37 = 20 := by omega
        refine R_iload (pc := 37) dX8_together_37 rfl ?_
        refine R_bipush (pc := 39) (v := 20) dX8_together_39 (by decide) ?_
        refine R_icge (pc := 41) 84 dX8_together_41 (by decide) (fun _ => ?_) (fun h => absurd (by decide) h)
        refine R_lload_n (pc := 84) dX8_together_84 rfl rfl ?_
        refine k_X8_286 (pc := 85) (sp_J13_bitCount_95d88 _ _) rfl (by decide) (Nat.le_refl _) (Nat.le_refl _) (Nat.le_of_ble_eq_true rfl) dX8_together_85 (fun y6 w2 h => ?_)
        subst h
        exact R_iret (pc := 88) dX8_together_88 rfl rfl (Nat.zero_le _) (Nat.zero_le _) ⟨_, rfl, _, rfl, hI, (show Cor σ σ from Cor.rfl' σ)⟩
      | succ q ih37 =>
        intro j37 g3_37 hj hs37
        have hrg37 : inR (nI j37) 0 19 := inR_ix hs37 (show j37 < 20 by omega) (by decide) (by decide) (by decide)
        have hlt37 : j37 < 20 := by omega
        refine R_iload (pc := 37) dX8_together_37 rfl ?_
        refine R_bipush (pc := 39) (v := 20) dX8_together_39 (by decide) ?_
        refine R_icge (pc := 41) 84 dX8_together_41 (by decide) (fun h => False.elim (by have q1 := ti_le h; have q2 := ti_in (show inR (nI j37) 0 19 from hrg37); have q3 := ti_in (show inR 20 20 20 from (inR_self _)); have z0 : (0 : Int32).toInt = 0 := (by decide);  have z1 : (19 : Int32).toInt = 19 := (by decide);  have z2 : (20 : Int32).toInt = 20 := (by decide); omega)) (fun _ => ?_)
        refine R_iload_n (pc := 44) dX8_together_44 rfl rfl ?_
        refine R_iload (pc := 45) dX8_together_45 rfl ?_
        refine k_X8_209 (pc := 47) (sp_X8_has _ _ _) rfl (by decide) (Nat.le_refl _) (Nat.le_refl _) (Nat.le_of_ble_eq_true rfl) dX8_together_47 (fun x w2 h => ?_)
        rcases h with ⟨rfl, ⟨-, rfl⟩ | ⟨-, rfl⟩⟩
        · skip
          refine R_ifeq (pc := 50) 78 dX8_together_50 (by decide) (fun h => absurd h (by decide)) (fun _ => ?_)
          refine R_aload_n (pc := 53) dX8_together_53 rfl rfl ?_
          refine g_X8_44 (pc := 54) (v := .ref 93) rfl dX8_together_54 (c_0 _) rfl ?_
          refine g_X8_274 (pc := 57) (v := .ref 116) rfl dX8_together_57 (c_93 _) rfl ?_
          refine R_iload (pc := 60) dX8_together_60 rfl ?_
          have hx9 : vp_in (nI j37) 20 := (vp_in_nI (by omega) (by decide))
          refine R_iaload (pc := 62) dX8_together_62 (c_116 _) hx9 ?_
          refine R_ifle (pc := 63) 78 dX8_together_63 (by decide) (fun b63_10 => ?_) (fun b63_10 => ?_)
          · skip
            refine inc_6_5_1_n (pc := 78) dX8_together_78 ?_
            have r11 : inR ((nI j37) + 1) 1 20 := inR_add (show inR (nI j37) 0 19 from hrg37) (show inR 1 1 1 from (inR_self _)) (by decide) (by decide)
            have e12 := ti_add (l := 1) (h := 20) (show inR (nI j37) 0 19 from hrg37) (show inR 1 1 1 from (inR_self _)) (by decide) (by decide)
            refine R_goto (pc := 81) 37 dX8_together_81 (by decide) ?_
            rw [nI_1]
            exact ih37 (j37 + 1) _ (by omega) (by omega)
          · skip
            refine R_lload_n (pc := 66) dX8_together_66 rfl rfl ?_
            refine R_aload_n (pc := 67) dX8_together_67 rfl rfl ?_
            refine g_X8_44 (pc := 68) (v := .ref 93) rfl dX8_together_68 (c_0 _) rfl ?_
            refine R_iload (pc := 71) dX8_together_71 rfl ?_
            refine k_X8_280 (pc := 73) (gx_X2_standing _ _ hI hrg37) rfl (c_93 _) (by decide) (Nat.le_refl _) (Nat.le_refl _) (Nat.le_of_ble_eq_true rfl) dX8_together_73 (fun y13 w2 h => ?_)
            subst h
            refine R_land (pc := 76) dX8_together_76 ?_
            refine st_6_3_l_i (pc := 77) dX8_together_77 ?_
            refine inc_6_5_1_n (pc := 78) dX8_together_78 ?_
            have r14 : inR ((nI j37) + 1) 1 20 := inR_add (show inR (nI j37) 0 19 from hrg37) (show inR 1 1 1 from (inR_self _)) (by decide) (by decide)
            have e15 := ti_add (l := 1) (h := 20) (show inR (nI j37) 0 19 from hrg37) (show inR 1 1 1 from (inR_self _)) (by decide) (by decide)
            refine R_goto (pc := 81) 37 dX8_together_81 (by decide) ?_
            rw [nI_1]
            exact ih37 (j37 + 1) _ (by omega) (by omega)
        · skip
          refine R_ifeq (pc := 50) 78 dX8_together_50 (by decide) (fun _ => ?_) (fun h => absurd (by decide) h)
          refine inc_6_5_1_n (pc := 78) dX8_together_78 ?_
          have r17 : inR ((nI j37) + 1) 1 20 := inR_add (show inR (nI j37) 0 19 from hrg37) (show inR 1 1 1 from (inR_self _)) (by decide) (by decide)
          have e18 := ti_add (l := 1) (h := 20) (show inR (nI j37) 0 19 from hrg37) (show inR 1 1 1 from (inR_self _)) (by decide) (by decide)
          refine R_goto (pc := 81) 37 dX8_together_81 (by decide) ?_
          rw [nI_1]
          exact ih37 (j37 + 1) _ (by omega) (by omega)
    exact HL37 20 0 _ (by omega) (by omega)
  · skip
    refine R_ifne (pc := 8) 14 dX8_together_8 (by decide) (fun h => absurd (by decide) h) (fun _ => ?_)
    refine R_bipush (pc := 11) (v := (-2)) dX8_together_11 (by decide) ?_
    exact R_iret (pc := 13) dX8_together_13 rfl rfl (Nat.zero_le _) (Nat.zero_le _) ⟨_, rfl, _, rfl, hI, (show Cor σ σ from Cor.rfl' σ)⟩
theorem dX8_erase_0 : decode cX8_erase 0 = .ok (.aload_n 0, 1) := by decide +kernel
theorem dX8_erase_1 : decode cX8_erase 1 = .ok (.getfield 51, 3) := by decide +kernel
theorem dX8_erase_4 : decode cX8_erase 4 = .ok (.getfield 291, 3) := by decide +kernel
theorem dX8_erase_7 : decode cX8_erase 7 = .ok (.istore_n 1, 1) := by decide +kernel
theorem dX8_erase_8 : decode cX8_erase 8 = .ok (.aload_n 0, 1) := by decide +kernel
theorem dX8_erase_9 : decode cX8_erase 9 = .ok (.getfield 51, 3) := by decide +kernel
theorem dX8_erase_12 : decode cX8_erase 12 = .ok (.iconst 0, 1) := by decide +kernel
theorem dX8_erase_13 : decode cX8_erase 13 = .ok (.putfield 291, 3) := by decide +kernel
theorem dX8_erase_16 : decode cX8_erase 16 = .ok (.iload_n 1, 1) := by decide +kernel
theorem dX8_erase_17 : decode cX8_erase 17 = .ok (.ireturn, 1) := by decide +kernel
