/-! methods on any state that keeps the invariant -/
theorem dX8_isSpan_0 : decode cX8_isSpan 0 = .ok (.iload_n 0, 1) := by decide +kernel
theorem dX8_isSpan_1 : decode cX8_isSpan 1 = .ok (.iconst 0, 1) := by decide +kernel
theorem dX8_isSpan_2 : decode cX8_isSpan 2 = .ok (.sipush 20000, 3) := by decide +kernel
theorem dX8_isSpan_5 : decode cX8_isSpan 5 = .ok (.invokestatic 72, 3) := by decide +kernel
theorem dX8_isSpan_8 : decode cX8_isSpan 8 = .ok (.ifCond .eq 18, 3) := by decide +kernel
theorem dX8_isSpan_11 : decode cX8_isSpan 11 = .ok (.iload_n 1, 1) := by decide +kernel
theorem dX8_isSpan_12 : decode cX8_isSpan 12 = .ok (.iload_n 0, 1) := by decide +kernel
theorem dX8_isSpan_13 : decode cX8_isSpan 13 = .ok (.sipush 20000, 3) := by decide +kernel
theorem dX8_isSpan_16 : decode cX8_isSpan 16 = .ok (.invokestatic 72, 3) := by decide +kernel
theorem dX8_isSpan_19 : decode cX8_isSpan 19 = .ok (.ifCond .eq 7, 3) := by decide +kernel
theorem dX8_isSpan_22 : decode cX8_isSpan 22 = .ok (.iconst 1, 1) := by decide +kernel
theorem dX8_isSpan_23 : decode cX8_isSpan 23 = .ok (.goto 4, 3) := by decide +kernel
theorem dX8_isSpan_26 : decode cX8_isSpan 26 = .ok (.iconst 0, 1) := by decide +kernel
theorem dX8_isSpan_27 : decode cX8_isSpan 27 = .ok (.ireturn, 1) := by decide +kernel
theorem dX8_areTwoThere_0 : decode cX8_areTwoThere 0 = .ok (.iload_n 1, 1) := by decide +kernel
theorem dX8_areTwoThere_1 : decode cX8_areTwoThere 1 = .ok (.iload_n 2, 1) := by decide +kernel
theorem dX8_areTwoThere_2 : decode cX8_areTwoThere 2 = .ok (.if_icmp .eq 29, 3) := by decide +kernel
theorem dX8_areTwoThere_5 : decode cX8_areTwoThere 5 = .ok (.aload_n 0, 1) := by decide +kernel
theorem dX8_areTwoThere_6 : decode cX8_areTwoThere 6 = .ok (.getfield 10, 3) := by decide +kernel
theorem dX8_areTwoThere_9 : decode cX8_areTwoThere 9 = .ok (.iload_n 1, 1) := by decide +kernel
theorem dX8_areTwoThere_10 : decode cX8_areTwoThere 10 = .ok (.invokevirtual 90, 3) := by decide +kernel
theorem dX8_areTwoThere_13 : decode cX8_areTwoThere 13 = .ok (.ifCond .eq 18, 3) := by decide +kernel
theorem dX8_areTwoThere_16 : decode cX8_areTwoThere 16 = .ok (.aload_n 0, 1) := by decide +kernel
theorem dX8_areTwoThere_17 : decode cX8_areTwoThere 17 = .ok (.getfield 10, 3) := by decide +kernel
theorem dX8_areTwoThere_20 : decode cX8_areTwoThere 20 = .ok (.iload_n 2, 1) := by decide +kernel
theorem dX8_areTwoThere_21 : decode cX8_areTwoThere 21 = .ok (.invokevirtual 90, 3) := by decide +kernel
theorem dX8_areTwoThere_24 : decode cX8_areTwoThere 24 = .ok (.ifCond .eq 7, 3) := by decide +kernel
theorem dX8_areTwoThere_27 : decode cX8_areTwoThere 27 = .ok (.iconst 1, 1) := by decide +kernel
theorem dX8_areTwoThere_28 : decode cX8_areTwoThere 28 = .ok (.goto 4, 3) := by decide +kernel
theorem dX8_areTwoThere_31 : decode cX8_areTwoThere 31 = .ok (.iconst 0, 1) := by decide +kernel
theorem dX8_areTwoThere_32 : decode cX8_areTwoThere 32 = .ok (.ireturn, 1) := by decide +kernel
set_option maxRecDepth 100000 in
set_option maxHeartbeats 40000000 in
theorem gx_X8_areTwoThere {G : vG} {l : Launch} (σ : Sg) (a b : Int32) (hI : Inv σ) : Sp G l yX8_areTwoThere cX8_areTwoThere 3 (some .boolean) 1 0 0 [.ref 0, .int a, .int b] (WW σ) (QI (fun x w2 => w2 = WW σ ∧ (inR a 0 19 ∧ inR b 0 19 ∧ x = 1 ∨ x = 0))) := by
  refine Sp_of_R [(some (.ref 0)), (some (.int a)), (some (.int b))] [] rfl (by simp) rfl (Nat.le_of_ble_eq_true rfl) ?_
  refine R_iload_n (pc := 0) dX8_areTwoThere_0 rfl rfl ?_
  refine R_iload_n (pc := 1) dX8_areTwoThere_1 rfl rfl ?_
  refine R_iceq (pc := 2) 31 dX8_areTwoThere_2 (by decide) (fun b2_1 => ?_) (fun b2_1 => ?_)
  · skip
    refine R_iconst (pc := 31) (v := 0) dX8_areTwoThere_31 (by decide) ?_
    exact R_iret (pc := 32) dX8_areTwoThere_32 rfl rfl (Nat.zero_le _) (Nat.zero_le _) ⟨_, rfl, rfl, Or.inr rfl⟩
  · skip
    refine R_aload_n (pc := 5) dX8_areTwoThere_5 rfl rfl ?_
    refine g_X8_10 (pc := 6) (v := .ref 1) rfl dX8_areTwoThere_6 (c_0 _) rfl ?_
    refine R_iload_n (pc := 9) dX8_areTwoThere_9 rfl rfl ?_
    refine k_X8_90 (pc := 10) (gx_X0_isThere _ _ hI) rfl (c_1 _) (by decide) (Nat.le_refl _) (Nat.le_refl _) (Nat.le_of_ble_eq_true rfl) dX8_areTwoThere_10 (fun x w2 h => ?_)
    rcases h with ⟨rfl, ⟨h2, rfl⟩ | rfl⟩
    · skip
      refine R_ifeq (pc := 13) 31 dX8_areTwoThere_13 (by decide) (fun h => absurd h (by decide)) (fun _ => ?_)
      refine R_aload_n (pc := 16) dX8_areTwoThere_16 rfl rfl ?_
      refine g_X8_10 (pc := 17) (v := .ref 1) rfl dX8_areTwoThere_17 (c_0 _) rfl ?_
      refine R_iload_n (pc := 20) dX8_areTwoThere_20 rfl rfl ?_
      refine k_X8_90 (pc := 21) (gx_X0_isThere _ _ hI) rfl (c_1 _) (by decide) (Nat.le_refl _) (Nat.le_refl _) (Nat.le_of_ble_eq_true rfl) dX8_areTwoThere_21 (fun x w2 h => ?_)
      rcases h with ⟨rfl, ⟨h4, rfl⟩ | rfl⟩
      · skip
        refine R_ifeq (pc := 24) 31 dX8_areTwoThere_24 (by decide) (fun h => absurd h (by decide)) (fun _ => ?_)
        refine R_iconst (pc := 27) (v := 1) dX8_areTwoThere_27 (by decide) ?_
        refine R_goto (pc := 28) 32 dX8_areTwoThere_28 (by decide) ?_
        exact R_iret (pc := 32) dX8_areTwoThere_32 rfl rfl (Nat.zero_le _) (Nat.zero_le _) ⟨_, rfl, rfl, Or.inl ⟨h2, h4, rfl⟩⟩
      · skip
        refine R_ifeq (pc := 24) 31 dX8_areTwoThere_24 (by decide) (fun _ => ?_) (fun h => absurd (by decide) h)
        refine R_iconst (pc := 31) (v := 0) dX8_areTwoThere_31 (by decide) ?_
        exact R_iret (pc := 32) dX8_areTwoThere_32 rfl rfl (Nat.zero_le _) (Nat.zero_le _) ⟨_, rfl, rfl, Or.inr rfl⟩
    · skip
      refine R_ifeq (pc := 13) 31 dX8_areTwoThere_13 (by decide) (fun _ => ?_) (fun h => absurd (by decide) h)
      refine R_iconst (pc := 31) (v := 0) dX8_areTwoThere_31 (by decide) ?_
      exact R_iret (pc := 32) dX8_areTwoThere_32 rfl rfl (Nat.zero_le _) (Nat.zero_le _) ⟨_, rfl, rfl, Or.inr rfl⟩
theorem dX8_card_0 : decode cX8_card 0 = .ok (.iload_n 1, 1) := by decide +kernel
theorem dX8_card_1 : decode cX8_card 1 = .ok (.iconst 0, 1) := by decide +kernel
theorem dX8_card_2 : decode cX8_card 2 = .ok (.iconst 3, 1) := by decide +kernel
theorem dX8_card_3 : decode cX8_card 3 = .ok (.invokestatic 72, 3) := by decide +kernel
theorem dX8_card_6 : decode cX8_card 6 = .ok (.ifCond .eq 22, 3) := by decide +kernel
theorem dX8_card_9 : decode cX8_card 9 = .ok (.iload_n 2, 1) := by decide +kernel
theorem dX8_card_10 : decode cX8_card 10 = .ok (.iconst 0, 1) := by decide +kernel
theorem dX8_card_11 : decode cX8_card 11 = .ok (.iconst 4, 1) := by decide +kernel
theorem dX8_card_12 : decode cX8_card 12 = .ok (.invokestatic 72, 3) := by decide +kernel
theorem dX8_card_15 : decode cX8_card 15 = .ok (.ifCond .eq 13, 3) := by decide +kernel
theorem dX8_card_18 : decode cX8_card 18 = .ok (.iload 4, 2) := by decide +kernel
theorem dX8_card_20 : decode cX8_card 20 = .ok (.iconst 0, 1) := by decide +kernel
theorem dX8_card_21 : decode cX8_card 21 = .ok (.iconst 4, 1) := by decide +kernel
theorem dX8_card_22 : decode cX8_card 22 = .ok (.invokestatic 72, 3) := by decide +kernel
theorem dX8_card_25 : decode cX8_card 25 = .ok (.ifCond .ne 6, 3) := by decide +kernel
theorem dX8_card_28 : decode cX8_card 28 = .ok (.bipush (-2), 2) := by decide +kernel
theorem dX8_card_30 : decode cX8_card 30 = .ok (.ireturn, 1) := by decide +kernel
theorem dX8_card_31 : decode cX8_card 31 = .ok (.iload_n 3, 1) := by decide +kernel
theorem dX8_card_32 : decode cX8_card 32 = .ok (.iconst 0, 1) := by decide +kernel
theorem dX8_card_33 : decode cX8_card 33 = .ok (.bipush 99, 2) := by decide +kernel
theorem dX8_card_35 : decode cX8_card 35 = .ok (.invokestatic 72, 3) := by decide +kernel
theorem dX8_card_38 : decode cX8_card 38 = .ok (.ifCond .eq 25, 3) := by decide +kernel
theorem dX8_card_41 : decode cX8_card 41 = .ok (.iload 7, 2) := by decide +kernel
theorem dX8_card_43 : decode cX8_card 43 = .ok (.iconst 0, 1) := by decide +kernel
theorem dX8_card_44 : decode cX8_card 44 = .ok (.iconst 4, 1) := by decide +kernel
theorem dX8_card_45 : decode cX8_card 45 = .ok (.invokestatic 72, 3) := by decide +kernel
theorem dX8_card_48 : decode cX8_card 48 = .ok (.ifCond .eq 15, 3) := by decide +kernel
theorem dX8_card_51 : decode cX8_card 51 = .ok (.iload 8, 2) := by decide +kernel
theorem dX8_card_53 : decode cX8_card 53 = .ok (.iconst (-1), 1) := by decide +kernel
theorem dX8_card_54 : decode cX8_card 54 = .ok (.sipush 20000, 3) := by decide +kernel
theorem dX8_card_57 : decode cX8_card 57 = .ok (.invokestatic 72, 3) := by decide +kernel
theorem dX8_card_60 : decode cX8_card 60 = .ok (.ifCond .ne 6, 3) := by decide +kernel
theorem dX8_card_63 : decode cX8_card 63 = .ok (.bipush (-3), 2) := by decide +kernel
theorem dX8_card_65 : decode cX8_card 65 = .ok (.ireturn, 1) := by decide +kernel
theorem dX8_card_66 : decode cX8_card 66 = .ok (.aload_n 0, 1) := by decide +kernel
theorem dX8_card_67 : decode cX8_card 67 = .ok (.getfield 10, 3) := by decide +kernel
theorem dX8_card_70 : decode cX8_card 70 = .ok (.getfield 76, 3) := by decide +kernel
theorem dX8_card_73 : decode cX8_card 73 = .ok (.bipush 20, 2) := by decide +kernel
theorem dX8_card_75 : decode cX8_card 75 = .ok (.if_icmp .lt 6, 3) := by decide +kernel
theorem dX8_card_78 : decode cX8_card 78 = .ok (.bipush (-5), 2) := by decide +kernel
theorem dX8_card_80 : decode cX8_card 80 = .ok (.ireturn, 1) := by decide +kernel
theorem dX8_card_81 : decode cX8_card 81 = .ok (.aload_n 0, 1) := by decide +kernel
theorem dX8_card_82 : decode cX8_card 82 = .ok (.getfield 10, 3) := by decide +kernel
theorem dX8_card_85 : decode cX8_card 85 = .ok (.getfield 76, 3) := by decide +kernel
theorem dX8_card_88 : decode cX8_card 88 = .ok (.istore 9, 2) := by decide +kernel
theorem dX8_card_90 : decode cX8_card 90 = .ok (.aload_n 0, 1) := by decide +kernel
theorem dX8_card_91 : decode cX8_card 91 = .ok (.getfield 10, 3) := by decide +kernel
theorem dX8_card_94 : decode cX8_card 94 = .ok (.iload_n 1, 1) := by decide +kernel
theorem dX8_card_95 : decode cX8_card 95 = .ok (.iload_n 2, 1) := by decide +kernel
theorem dX8_card_96 : decode cX8_card 96 = .ok (.iload_n 3, 1) := by decide +kernel
theorem dX8_card_97 : decode cX8_card 97 = .ok (.iload 4, 2) := by decide +kernel
theorem dX8_card_99 : decode cX8_card 99 = .ok (.lload 5, 2) := by decide +kernel
theorem dX8_card_101 : decode cX8_card 101 = .ok (.iload 7, 2) := by decide +kernel
theorem dX8_card_103 : decode cX8_card 103 = .ok (.iload 8, 2) := by decide +kernel
theorem dX8_card_105 : decode cX8_card 105 = .ok (.invokevirtual 79, 3) := by decide +kernel
theorem dX8_card_108 : decode cX8_card 108 = .ok (.aload_n 0, 1) := by decide +kernel
theorem dX8_card_109 : decode cX8_card 109 = .ok (.getfield 21, 3) := by decide +kernel
theorem dX8_card_112 : decode cX8_card 112 = .ok (.iload 9, 2) := by decide +kernel
theorem dX8_card_114 : decode cX8_card 114 = .ok (.invokevirtual 83, 3) := by decide +kernel
theorem dX8_card_117 : decode cX8_card 117 = .ok (.aload_n 0, 1) := by decide +kernel
theorem dX8_card_118 : decode cX8_card 118 = .ok (.getfield 21, 3) := by decide +kernel
theorem dX8_card_121 : decode cX8_card 121 = .ok (.iload 9, 2) := by decide +kernel
theorem dX8_card_123 : decode cX8_card 123 = .ok (.invokevirtual 87, 3) := by decide +kernel
theorem dX8_card_126 : decode cX8_card 126 = .ok (.iload 9, 2) := by decide +kernel
theorem dX8_card_128 : decode cX8_card 128 = .ok (.ireturn, 1) := by decide +kernel
theorem dX8_caption_0 : decode cX8_caption 0 = .ok (.aload_n 0, 1) := by decide +kernel
theorem dX8_caption_1 : decode cX8_caption 1 = .ok (.getfield 10, 3) := by decide +kernel
theorem dX8_caption_4 : decode cX8_caption 4 = .ok (.iload_n 1, 1) := by decide +kernel
theorem dX8_caption_5 : decode cX8_caption 5 = .ok (.invokevirtual 90, 3) := by decide +kernel
theorem dX8_caption_8 : decode cX8_caption 8 = .ok (.ifCond .ne 6, 3) := by decide +kernel
theorem dX8_caption_11 : decode cX8_caption 11 = .ok (.bipush (-2), 2) := by decide +kernel
theorem dX8_caption_13 : decode cX8_caption 13 = .ok (.ireturn, 1) := by decide +kernel
theorem dX8_caption_14 : decode cX8_caption 14 = .ok (.iload 4, 2) := by decide +kernel
theorem dX8_caption_16 : decode cX8_caption 16 = .ok (.iconst 0, 1) := by decide +kernel
theorem dX8_caption_17 : decode cX8_caption 17 = .ok (.bipush 8, 2) := by decide +kernel
theorem dX8_caption_19 : decode cX8_caption 19 = .ok (.invokestatic 72, 3) := by decide +kernel
theorem dX8_caption_22 : decode cX8_caption 22 = .ok (.ifCond .ne 6, 3) := by decide +kernel
theorem dX8_caption_25 : decode cX8_caption 25 = .ok (.bipush (-3), 2) := by decide +kernel
theorem dX8_caption_27 : decode cX8_caption 27 = .ok (.ireturn, 1) := by decide +kernel
theorem dX8_caption_28 : decode cX8_caption 28 = .ok (.iconst 0, 1) := by decide +kernel
theorem dX8_caption_29 : decode cX8_caption 29 = .ok (.istore 5, 2) := by decide +kernel
theorem dX8_caption_31 : decode cX8_caption 31 = .ok (.iload 5, 2) := by decide +kernel
theorem dX8_caption_33 : decode cX8_caption 33 = .ok (.iload 4, 2) := by decide +kernel
theorem dX8_caption_35 : decode cX8_caption 35 = .ok (.if_icmp .ge 24, 3) := by decide +kernel
theorem dX8_caption_38 : decode cX8_caption 38 = .ok (.lload_n 2, 1) := by decide +kernel
theorem dX8_caption_39 : decode cX8_caption 39 = .ok (.iload 5, 2) := by decide +kernel
theorem dX8_caption_41 : decode cX8_caption 41 = .ok (.invokestatic 94, 3) := by decide +kernel
theorem dX8_caption_44 : decode cX8_caption 44 = .ok (.invokestatic 98, 3) := by decide +kernel
theorem dX8_caption_47 : decode cX8_caption 47 = .ok (.ifCond .ne 6, 3) := by decide +kernel
theorem dX8_caption_50 : decode cX8_caption 50 = .ok (.bipush (-3), 2) := by decide +kernel
theorem dX8_caption_52 : decode cX8_caption 52 = .ok (.ireturn, 1) := by decide +kernel
theorem dX8_caption_53 : decode cX8_caption 53 = .ok (.iinc 5 1, 3) := by decide +kernel
theorem dX8_caption_56 : decode cX8_caption 56 = .ok (.goto (-25), 3) := by decide +kernel
theorem dX8_caption_59 : decode cX8_caption 59 = .ok (.aload_n 0, 1) := by decide +kernel
theorem dX8_caption_60 : decode cX8_caption 60 = .ok (.getfield 10, 3) := by decide +kernel
theorem dX8_caption_63 : decode cX8_caption 63 = .ok (.getfield 101, 3) := by decide +kernel
theorem dX8_caption_66 : decode cX8_caption 66 = .ok (.iload_n 1, 1) := by decide +kernel
theorem dX8_caption_67 : decode cX8_caption 67 = .ok (.lload_n 2, 1) := by decide +kernel
theorem dX8_caption_68 : decode cX8_caption 68 = .ok (.lastore, 1) := by decide +kernel
theorem dX8_caption_69 : decode cX8_caption 69 = .ok (.aload_n 0, 1) := by decide +kernel
theorem dX8_caption_70 : decode cX8_caption 70 = .ok (.getfield 10, 3) := by decide +kernel
theorem dX8_caption_73 : decode cX8_caption 73 = .ok (.getfield 105, 3) := by decide +kernel
theorem dX8_caption_76 : decode cX8_caption 76 = .ok (.iload_n 1, 1) := by decide +kernel
theorem dX8_caption_77 : decode cX8_caption 77 = .ok (.iload 4, 2) := by decide +kernel
theorem dX8_caption_79 : decode cX8_caption 79 = .ok (.iastore, 1) := by decide +kernel
theorem dX8_caption_80 : decode cX8_caption 80 = .ok (.aload_n 0, 1) := by decide +kernel
theorem dX8_caption_81 : decode cX8_caption 81 = .ok (.getfield 21, 3) := by decide +kernel
theorem dX8_caption_84 : decode cX8_caption 84 = .ok (.iload_n 1, 1) := by decide +kernel
theorem dX8_caption_85 : decode cX8_caption 85 = .ok (.invokevirtual 87, 3) := by decide +kernel
theorem dX8_caption_88 : decode cX8_caption 88 = .ok (.iconst 1, 1) := by decide +kernel
theorem dX8_caption_89 : decode cX8_caption 89 = .ok (.ireturn, 1) := by decide +kernel
theorem dX8_days_0 : decode cX8_days 0 = .ok (.iload_n 1, 1) := by decide +kernel
theorem dX8_days_1 : decode cX8_days 1 = .ok (.iconst 1, 1) := by decide +kernel
theorem dX8_days_2 : decode cX8_days 2 = .ok (.bipush 99, 2) := by decide +kernel
theorem dX8_days_4 : decode cX8_days 4 = .ok (.invokestatic 72, 3) := by decide +kernel
theorem dX8_days_7 : decode cX8_days 7 = .ok (.ifCond .eq 18, 3) := by decide +kernel
theorem dX8_days_10 : decode cX8_days 10 = .ok (.aload_n 0, 1) := by decide +kernel
theorem dX8_days_11 : decode cX8_days 11 = .ok (.getfield 10, 3) := by decide +kernel
theorem dX8_days_14 : decode cX8_days 14 = .ok (.getfield 109, 3) := by decide +kernel
theorem dX8_days_17 : decode cX8_days 17 = .ok (.iload_n 1, 1) := by decide +kernel
theorem dX8_days_18 : decode cX8_days 18 = .ok (.iadd, 1) := by decide +kernel
theorem dX8_days_19 : decode cX8_days 19 = .ok (.sipush 999, 3) := by decide +kernel
theorem dX8_days_22 : decode cX8_days 22 = .ok (.if_icmp .le 6, 3) := by decide +kernel
theorem dX8_days_25 : decode cX8_days 25 = .ok (.bipush (-3), 2) := by decide +kernel
theorem dX8_days_27 : decode cX8_days 27 = .ok (.ireturn, 1) := by decide +kernel
theorem dX8_days_28 : decode cX8_days 28 = .ok (.aload_n 0, 1) := by decide +kernel
theorem dX8_days_29 : decode cX8_days 29 = .ok (.getfield 10, 3) := by decide +kernel
theorem dX8_days_32 : decode cX8_days 32 = .ok (.dup, 1) := by decide +kernel
theorem dX8_days_33 : decode cX8_days 33 = .ok (.getfield 109, 3) := by decide +kernel
theorem dX8_days_36 : decode cX8_days 36 = .ok (.iload_n 1, 1) := by decide +kernel
theorem dX8_days_37 : decode cX8_days 37 = .ok (.iadd, 1) := by decide +kernel
theorem dX8_days_38 : decode cX8_days 38 = .ok (.putfield 109, 3) := by decide +kernel
theorem dX8_days_41 : decode cX8_days 41 = .ok (.aload_n 0, 1) := by decide +kernel
theorem dX8_days_42 : decode cX8_days 42 = .ok (.getfield 10, 3) := by decide +kernel
theorem dX8_days_45 : decode cX8_days 45 = .ok (.getfield 109, 3) := by decide +kernel
theorem dX8_days_48 : decode cX8_days 48 = .ok (.ireturn, 1) := by decide +kernel
theorem dX8_set_0 : decode cX8_set 0 = .ok (.iload_n 1, 1) := by decide +kernel
theorem dX8_set_1 : decode cX8_set 1 = .ok (.ifCond .ne 32, 3) := by decide +kernel
theorem dX8_set_4 : decode cX8_set 4 = .ok (.iload_n 2, 1) := by decide +kernel
theorem dX8_set_5 : decode cX8_set 5 = .ok (.iconst 0, 1) := by decide +kernel
theorem dX8_set_6 : decode cX8_set 6 = .ok (.bipush 8, 2) := by decide +kernel
theorem dX8_set_8 : decode cX8_set 8 = .ok (.invokestatic 72, 3) := by decide +kernel
theorem dX8_set_11 : decode cX8_set 11 = .ok (.ifCond .eq 22, 3) := by decide +kernel
theorem dX8_set_14 : decode cX8_set 14 = .ok (.aload_n 0, 1) := by decide +kernel
theorem dX8_set_15 : decode cX8_set 15 = .ok (.getfield 21, 3) := by decide +kernel
theorem dX8_set_18 : decode cX8_set 18 = .ok (.getfield 112, 3) := by decide +kernel
theorem dX8_set_21 : decode cX8_set 21 = .ok (.istore_n 3, 1) := by decide +kernel
theorem dX8_set_22 : decode cX8_set 22 = .ok (.aload_n 0, 1) := by decide +kernel
theorem dX8_set_23 : decode cX8_set 23 = .ok (.getfield 21, 3) := by decide +kernel
theorem dX8_set_26 : decode cX8_set 26 = .ok (.iload_n 2, 1) := by decide +kernel
theorem dX8_set_27 : decode cX8_set 27 = .ok (.putfield 112, 3) := by decide +kernel
theorem dX8_set_30 : decode cX8_set 30 = .ok (.goto 70, 3) := by decide +kernel
theorem dX8_set_33 : decode cX8_set 33 = .ok (.iload_n 1, 1) := by decide +kernel
theorem dX8_set_34 : decode cX8_set 34 = .ok (.iconst 1, 1) := by decide +kernel
theorem dX8_set_35 : decode cX8_set 35 = .ok (.if_icmp .ne 33, 3) := by decide +kernel
theorem dX8_set_38 : decode cX8_set 38 = .ok (.iload_n 2, 1) := by decide +kernel
theorem dX8_set_39 : decode cX8_set 39 = .ok (.iconst 0, 1) := by decide +kernel
theorem dX8_set_40 : decode cX8_set 40 = .ok (.sipush 999, 3) := by decide +kernel
theorem dX8_set_43 : decode cX8_set 43 = .ok (.invokestatic 72, 3) := by decide +kernel
theorem dX8_set_46 : decode cX8_set 46 = .ok (.ifCond .eq 22, 3) := by decide +kernel
theorem dX8_set_49 : decode cX8_set 49 = .ok (.aload_n 0, 1) := by decide +kernel
theorem dX8_set_50 : decode cX8_set 50 = .ok (.getfield 10, 3) := by decide +kernel
theorem dX8_set_53 : decode cX8_set 53 = .ok (.getfield 115, 3) := by decide +kernel
theorem dX8_set_56 : decode cX8_set 56 = .ok (.istore_n 3, 1) := by decide +kernel
theorem dX8_set_57 : decode cX8_set 57 = .ok (.aload_n 0, 1) := by decide +kernel
theorem dX8_set_58 : decode cX8_set 58 = .ok (.getfield 10, 3) := by decide +kernel
theorem dX8_set_61 : decode cX8_set 61 = .ok (.iload_n 2, 1) := by decide +kernel
theorem dX8_set_62 : decode cX8_set 62 = .ok (.putfield 115, 3) := by decide +kernel
theorem dX8_set_65 : decode cX8_set 65 = .ok (.goto 35, 3) := by decide +kernel
theorem dX8_set_68 : decode cX8_set 68 = .ok (.iload_n 1, 1) := by decide +kernel
theorem dX8_set_69 : decode cX8_set 69 = .ok (.iconst 2, 1) := by decide +kernel
theorem dX8_set_70 : decode cX8_set 70 = .ok (.if_icmp .ne 27, 3) := by decide +kernel
theorem dX8_set_73 : decode cX8_set 73 = .ok (.iload_n 2, 1) := by decide +kernel
theorem dX8_set_74 : decode cX8_set 74 = .ok (.iconst 1, 1) := by decide +kernel
theorem dX8_set_75 : decode cX8_set 75 = .ok (.sipush 10000, 3) := by decide +kernel
theorem dX8_set_78 : decode cX8_set 78 = .ok (.invokestatic 72, 3) := by decide +kernel
theorem dX8_set_81 : decode cX8_set 81 = .ok (.ifCond .eq 16, 3) := by decide +kernel
theorem dX8_set_84 : decode cX8_set 84 = .ok (.aload_n 0, 1) := by decide +kernel
theorem dX8_set_85 : decode cX8_set 85 = .ok (.getfield 68, 3) := by decide +kernel
theorem dX8_set_88 : decode cX8_set 88 = .ok (.istore_n 3, 1) := by decide +kernel
theorem dX8_set_89 : decode cX8_set 89 = .ok (.aload_n 0, 1) := by decide +kernel
theorem dX8_set_90 : decode cX8_set 90 = .ok (.iload_n 2, 1) := by decide +kernel
theorem dX8_set_91 : decode cX8_set 91 = .ok (.putfield 68, 3) := by decide +kernel
theorem dX8_set_94 : decode cX8_set 94 = .ok (.goto 6, 3) := by decide +kernel
theorem dX8_set_97 : decode cX8_set 97 = .ok (.bipush (-3), 2) := by decide +kernel
theorem dX8_set_99 : decode cX8_set 99 = .ok (.istore_n 3, 1) := by decide +kernel
theorem dX8_set_100 : decode cX8_set 100 = .ok (.iload_n 3, 1) := by decide +kernel
theorem dX8_set_101 : decode cX8_set 101 = .ok (.ireturn, 1) := by decide +kernel
theorem dX8_difference_0 : decode cX8_difference 0 = .ok (.aload_n 0, 1) := by decide +kernel
theorem dX8_difference_1 : decode cX8_difference 1 = .ok (.iload_n 1, 1) := by decide +kernel
theorem dX8_difference_2 : decode cX8_difference 2 = .ok (.iload_n 2, 1) := by decide +kernel
theorem dX8_difference_3 : decode cX8_difference 3 = .ok (.invokevirtual 118, 3) := by decide +kernel
theorem dX8_difference_6 : decode cX8_difference 6 = .ok (.ifCond .eq 17, 3) := by decide +kernel
theorem dX8_difference_9 : decode cX8_difference 9 = .ok (.aload_n 0, 1) := by decide +kernel
theorem dX8_difference_10 : decode cX8_difference 10 = .ok (.getfield 21, 3) := by decide +kernel
theorem dX8_difference_13 : decode cX8_difference 13 = .ok (.getfield 122, 3) := by decide +kernel
theorem dX8_difference_16 : decode cX8_difference 16 = .ok (.iload_n 1, 1) := by decide +kernel
theorem dX8_difference_17 : decode cX8_difference 17 = .ok (.aaload, 1) := by decide +kernel
theorem dX8_difference_18 : decode cX8_difference 18 = .ok (.iload_n 2, 1) := by decide +kernel
theorem dX8_difference_19 : decode cX8_difference 19 = .ok (.iaload, 1) := by decide +kernel
theorem dX8_difference_20 : decode cX8_difference 20 = .ok (.goto 5, 3) := by decide +kernel
theorem dX8_difference_23 : decode cX8_difference 23 = .ok (.bipush (-2), 2) := by decide +kernel
theorem dX8_difference_25 : decode cX8_difference 25 = .ok (.ireturn, 1) := by decide +kernel
set_option maxRecDepth 100000 in
set_option maxHeartbeats 40000000 in
theorem gp_difference {G : vG} {l : Launch} (σ : Sg) (a b : Int32) (hI : Inv σ) : Sp G l yX8_difference cX8_difference 3 (some .int) 2 0 0 [.ref 0, .int a, .int b] (WW σ) (QI (fun _ w2 => ∃ σ2, w2 = WW σ2 ∧ Inv σ2 ∧ Cor σ σ2)) := by
  refine Sp_of_R [(some (.ref 0)), (some (.int a)), (some (.int b))] [] rfl (by simp) rfl (Nat.le_of_ble_eq_true rfl) ?_
  refine R_aload_n (pc := 0) dX8_difference_0 rfl rfl ?_
  refine R_iload_n (pc := 1) dX8_difference_1 rfl rfl ?_
  refine R_iload_n (pc := 2) dX8_difference_2 rfl rfl ?_
  refine k_X8_118 (pc := 3) (gx_X8_areTwoThere _ _ _ hI) rfl (c_0 _) (by decide) (Nat.le_refl _) (Nat.le_refl _) (Nat.le_of_ble_eq_true rfl) dX8_difference_3 (fun x w2 h => ?_)
  rcases h with ⟨rfl, ⟨h1, h1b, rfl⟩ | rfl⟩
  · skip
    refine R_ifeq (pc := 6) 23 dX8_difference_6 (by decide) (fun h => absurd h (by decide)) (fun _ => ?_)
    refine R_aload_n (pc := 9) dX8_difference_9 rfl rfl ?_
    refine g_X8_21 (pc := 10) (v := .ref 12) rfl dX8_difference_10 (c_0 _) rfl ?_
    refine g_X8_122 (pc := 13) (v := .ref 13) rfl dX8_difference_13 (c_12 _) rfl ?_
    refine R_iload_n (pc := 16) dX8_difference_16 rfl rfl ?_
    have hx3 : vp_in a 20 := (vp_of_inR h1 (by decide))
    refine R_aaload (pc := 17) (b := 14 + (Int32.toNatClampNeg a)) dX8_difference_17 (c_13 _) hx3 (if_pos (lt_of_vp hx3)) ?_
    refine R_iload_n (pc := 18) dX8_difference_18 rfl rfl ?_
    have hx4 : vp_in b 20 := (vp_of_inR h1b (by decide))
    refine R_iaload (pc := 19) dX8_difference_19 (r_13 _ _ (lt_of_vp hx3)) hx4 ?_
    refine R_goto (pc := 20) 25 dX8_difference_20 (by decide) ?_
    exact R_iret (pc := 25) dX8_difference_25 rfl rfl (Nat.zero_le _) (Nat.zero_le _) ⟨_, rfl, _, rfl, hI, (show Cor σ σ from Cor.rfl' σ)⟩
  · skip
    refine R_ifeq (pc := 6) 23 dX8_difference_6 (by decide) (fun _ => ?_) (fun h => absurd (by decide) h)
    refine R_bipush (pc := 23) (v := (-2)) dX8_difference_23 (by decide) ?_
    exact R_iret (pc := 25) dX8_difference_25 rfl rfl (Nat.zero_le _) (Nat.zero_le _) ⟨_, rfl, _, rfl, hI, (show Cor σ σ from Cor.rfl' σ)⟩
theorem dX8_far_0 : decode cX8_far 0 = .ok (.aload_n 0, 1) := by decide +kernel
theorem dX8_far_1 : decode cX8_far 1 = .ok (.getfield 10, 3) := by decide +kernel
theorem dX8_far_4 : decode cX8_far 4 = .ok (.iload_n 1, 1) := by decide +kernel
theorem dX8_far_5 : decode cX8_far 5 = .ok (.invokevirtual 90, 3) := by decide +kernel
theorem dX8_far_8 : decode cX8_far 8 = .ok (.ifCond .eq 28, 3) := by decide +kernel
theorem dX8_far_11 : decode cX8_far 11 = .ok (.aload_n 0, 1) := by decide +kernel
theorem dX8_far_12 : decode cX8_far 12 = .ok (.getfield 10, 3) := by decide +kernel
theorem dX8_far_15 : decode cX8_far 15 = .ok (.iload_n 2, 1) := by decide +kernel
theorem dX8_far_16 : decode cX8_far 16 = .ok (.invokevirtual 90, 3) := by decide +kernel
theorem dX8_far_19 : decode cX8_far 19 = .ok (.ifCond .eq 17, 3) := by decide +kernel
theorem dX8_far_22 : decode cX8_far 22 = .ok (.aload_n 0, 1) := by decide +kernel
theorem dX8_far_23 : decode cX8_far 23 = .ok (.getfield 21, 3) := by decide +kernel
theorem dX8_far_26 : decode cX8_far 26 = .ok (.getfield 138, 3) := by decide +kernel
theorem dX8_far_29 : decode cX8_far 29 = .ok (.iload_n 1, 1) := by decide +kernel
theorem dX8_far_30 : decode cX8_far 30 = .ok (.aaload, 1) := by decide +kernel
theorem dX8_far_31 : decode cX8_far 31 = .ok (.iload_n 2, 1) := by decide +kernel
theorem dX8_far_32 : decode cX8_far 32 = .ok (.iaload, 1) := by decide +kernel
theorem dX8_far_33 : decode cX8_far 33 = .ok (.goto 5, 3) := by decide +kernel
theorem dX8_far_36 : decode cX8_far 36 = .ok (.bipush (-2), 2) := by decide +kernel
theorem dX8_far_38 : decode cX8_far 38 = .ok (.ireturn, 1) := by decide +kernel
set_option maxRecDepth 100000 in
set_option maxHeartbeats 40000000 in
theorem gp_far {G : vG} {l : Launch} (σ : Sg) (a b : Int32) (hI : Inv σ) : Sp G l yX8_far cX8_far 3 (some .int) 1 0 0 [.ref 0, .int a, .int b] (WW σ) (QI (fun _ w2 => ∃ σ2, w2 = WW σ2 ∧ Inv σ2 ∧ Cor σ σ2)) := by
  refine Sp_of_R [(some (.ref 0)), (some (.int a)), (some (.int b))] [] rfl (by simp) rfl (Nat.le_of_ble_eq_true rfl) ?_
  refine R_aload_n (pc := 0) dX8_far_0 rfl rfl ?_
  refine g_X8_10 (pc := 1) (v := .ref 1) rfl dX8_far_1 (c_0 _) rfl ?_
  refine R_iload_n (pc := 4) dX8_far_4 rfl rfl ?_
  refine k_X8_90 (pc := 5) (gx_X0_isThere _ _ hI) rfl (c_1 _) (by decide) (Nat.le_refl _) (Nat.le_refl _) (Nat.le_of_ble_eq_true rfl) dX8_far_5 (fun x w2 h => ?_)
  rcases h with ⟨rfl, ⟨h1, rfl⟩ | rfl⟩
  · skip
    refine R_ifeq (pc := 8) 36 dX8_far_8 (by decide) (fun h => absurd h (by decide)) (fun _ => ?_)
    refine R_aload_n (pc := 11) dX8_far_11 rfl rfl ?_
    refine g_X8_10 (pc := 12) (v := .ref 1) rfl dX8_far_12 (c_0 _) rfl ?_
    refine R_iload_n (pc := 15) dX8_far_15 rfl rfl ?_
    refine k_X8_90 (pc := 16) (gx_X0_isThere _ _ hI) rfl (c_1 _) (by decide) (Nat.le_refl _) (Nat.le_refl _) (Nat.le_of_ble_eq_true rfl) dX8_far_16 (fun x w2 h => ?_)
    rcases h with ⟨rfl, ⟨h3, rfl⟩ | rfl⟩
    · skip
      refine R_ifeq (pc := 19) 36 dX8_far_19 (by decide) (fun h => absurd h (by decide)) (fun _ => ?_)
      refine R_aload_n (pc := 22) dX8_far_22 rfl rfl ?_
      refine g_X8_21 (pc := 23) (v := .ref 12) rfl dX8_far_23 (c_0 _) rfl ?_
      refine g_X8_138 (pc := 26) (v := .ref 34) rfl dX8_far_26 (c_12 _) rfl ?_
      refine R_iload_n (pc := 29) dX8_far_29 rfl rfl ?_
      have hx5 : vp_in a 20 := (vp_of_inR h1 (by decide))
      refine R_aaload (pc := 30) (b := 35 + (Int32.toNatClampNeg a)) dX8_far_30 (c_34 _) hx5 (if_pos (lt_of_vp hx5)) ?_
      refine R_iload_n (pc := 31) dX8_far_31 rfl rfl ?_
      have hx6 : vp_in b 20 := (vp_of_inR h3 (by decide))
      refine R_iaload (pc := 32) dX8_far_32 (r_34 _ _ (lt_of_vp hx5)) hx6 ?_
      refine R_goto (pc := 33) 38 dX8_far_33 (by decide) ?_
      exact R_iret (pc := 38) dX8_far_38 rfl rfl (Nat.zero_le _) (Nat.zero_le _) ⟨_, rfl, _, rfl, hI, (show Cor σ σ from Cor.rfl' σ)⟩
    · skip
      refine R_ifeq (pc := 19) 36 dX8_far_19 (by decide) (fun _ => ?_) (fun h => absurd (by decide) h)
      refine R_bipush (pc := 36) (v := (-2)) dX8_far_36 (by decide) ?_
      exact R_iret (pc := 38) dX8_far_38 rfl rfl (Nat.zero_le _) (Nat.zero_le _) ⟨_, rfl, _, rfl, hI, (show Cor σ σ from Cor.rfl' σ)⟩
  · skip
    refine R_ifeq (pc := 8) 36 dX8_far_8 (by decide) (fun _ => ?_) (fun h => absurd (by decide) h)
    refine R_bipush (pc := 36) (v := (-2)) dX8_far_36 (by decide) ?_
    exact R_iret (pc := 38) dX8_far_38 rfl rfl (Nat.zero_le _) (Nat.zero_le _) ⟨_, rfl, _, rfl, hI, (show Cor σ σ from Cor.rfl' σ)⟩
theorem dX8_match_0 : decode cX8_match 0 = .ok (.aload_n 0, 1) := by decide +kernel
theorem dX8_match_1 : decode cX8_match 1 = .ok (.iload_n 1, 1) := by decide +kernel
theorem dX8_match_2 : decode cX8_match 2 = .ok (.iload_n 2, 1) := by decide +kernel
theorem dX8_match_3 : decode cX8_match 3 = .ok (.invokevirtual 118, 3) := by decide +kernel
theorem dX8_match_6 : decode cX8_match 6 = .ok (.ifCond .ne 6, 3) := by decide +kernel
theorem dX8_match_9 : decode cX8_match 9 = .ok (.bipush (-2), 2) := by decide +kernel
theorem dX8_match_11 : decode cX8_match 11 = .ok (.ireturn, 1) := by decide +kernel
theorem dX8_match_12 : decode cX8_match 12 = .ok (.aload_n 0, 1) := by decide +kernel
theorem dX8_match_13 : decode cX8_match 13 = .ok (.getfield 21, 3) := by decide +kernel
theorem dX8_match_16 : decode cX8_match 16 = .ok (.iload_n 1, 1) := by decide +kernel
theorem dX8_match_17 : decode cX8_match 17 = .ok (.iload_n 2, 1) := by decide +kernel
theorem dX8_match_18 : decode cX8_match 18 = .ok (.invokevirtual 141, 3) := by decide +kernel
theorem dX8_match_21 : decode cX8_match 21 = .ok (.ifCond .eq 7, 3) := by decide +kernel
theorem dX8_match_24 : decode cX8_match 24 = .ok (.iconst 1, 1) := by decide +kernel
theorem dX8_match_25 : decode cX8_match 25 = .ok (.goto 4, 3) := by decide +kernel
theorem dX8_match_28 : decode cX8_match 28 = .ok (.iconst 0, 1) := by decide +kernel
theorem dX8_match_29 : decode cX8_match 29 = .ok (.ireturn, 1) := by decide +kernel
set_option maxRecDepth 100000 in
set_option maxHeartbeats 40000000 in
theorem gp_match {G : vG} {l : Launch} (σ : Sg) (a b : Int32) (hI : Inv σ) : Sp G l yX8_match cX8_match 3 (some .int) 2 0 0 [.ref 0, .int a, .int b] (WW σ) (QI (fun _ w2 => ∃ σ2, w2 = WW σ2 ∧ Inv σ2 ∧ Cor σ σ2)) := by
  refine Sp_of_R [(some (.ref 0)), (some (.int a)), (some (.int b))] [] rfl (by simp) rfl (Nat.le_of_ble_eq_true rfl) ?_
  refine R_aload_n (pc := 0) dX8_match_0 rfl rfl ?_
  refine R_iload_n (pc := 1) dX8_match_1 rfl rfl ?_
  refine R_iload_n (pc := 2) dX8_match_2 rfl rfl ?_
  refine k_X8_118 (pc := 3) (gx_X8_areTwoThere _ _ _ hI) rfl (c_0 _) (by decide) (Nat.le_refl _) (Nat.le_refl _) (Nat.le_of_ble_eq_true rfl) dX8_match_3 (fun x w2 h => ?_)
  rcases h with ⟨rfl, ⟨h1, h1b, rfl⟩ | rfl⟩
  · skip
    refine R_ifne (pc := 6) 12 dX8_match_6 (by decide) (fun _ => ?_) (fun h => absurd h (by decide))
    refine R_aload_n (pc := 12) dX8_match_12 rfl rfl ?_
    refine g_X8_21 (pc := 13) (v := .ref 12) rfl dX8_match_13 (c_0 _) rfl ?_
    refine R_iload_n (pc := 16) dX8_match_16 rfl rfl ?_
    refine R_iload_n (pc := 17) dX8_match_17 rfl rfl ?_
    refine k_X8_141 (pc := 18) (gx_X3_isMatch _ _ _ hI h1 h1b) rfl (c_12 _) (by decide) (Nat.le_refl _) (Nat.le_refl _) (Nat.le_of_ble_eq_true rfl) dX8_match_18 (fun x w2 h => ?_)
    rcases h with ⟨rfl, rfl | rfl⟩
    · skip
      refine R_ifeq (pc := 21) 28 dX8_match_21 (by decide) (fun h => absurd h (by decide)) (fun _ => ?_)
      refine R_iconst (pc := 24) (v := 1) dX8_match_24 (by decide) ?_
      refine R_goto (pc := 25) 29 dX8_match_25 (by decide) ?_
      exact R_iret (pc := 29) dX8_match_29 rfl rfl (Nat.zero_le _) (Nat.zero_le _) ⟨_, rfl, _, rfl, hI, (show Cor σ σ from Cor.rfl' σ)⟩
    · skip
      refine R_ifeq (pc := 21) 28 dX8_match_21 (by decide) (fun _ => ?_) (fun h => absurd (by decide) h)
      refine R_iconst (pc := 28) (v := 0) dX8_match_28 (by decide) ?_
      exact R_iret (pc := 29) dX8_match_29 rfl rfl (Nat.zero_le _) (Nat.zero_le _) ⟨_, rfl, _, rfl, hI, (show Cor σ σ from Cor.rfl' σ)⟩
  · skip
    refine R_ifne (pc := 6) 12 dX8_match_6 (by decide) (fun h => absurd (by decide) h) (fun _ => ?_)
    refine R_bipush (pc := 9) (v := (-2)) dX8_match_9 (by decide) ?_
    exact R_iret (pc := 11) dX8_match_11 rfl rfl (Nat.zero_le _) (Nat.zero_le _) ⟨_, rfl, _, rfl, hI, (show Cor σ σ from Cor.rfl' σ)⟩
theorem dX8_negative_0 : decode cX8_negative 0 = .ok (.aload_n 0, 1) := by decide +kernel
theorem dX8_negative_1 : decode cX8_negative 1 = .ok (.getfield 10, 3) := by decide +kernel
theorem dX8_negative_4 : decode cX8_negative 4 = .ok (.iload_n 1, 1) := by decide +kernel
theorem dX8_negative_5 : decode cX8_negative 5 = .ok (.invokevirtual 90, 3) := by decide +kernel
theorem dX8_negative_8 : decode cX8_negative 8 = .ok (.ifCond .eq 24, 3) := by decide +kernel
theorem dX8_negative_11 : decode cX8_negative 11 = .ok (.aload_n 0, 1) := by decide +kernel
theorem dX8_negative_12 : decode cX8_negative 12 = .ok (.getfield 21, 3) := by decide +kernel
theorem dX8_negative_15 : decode cX8_negative 15 = .ok (.iload_n 1, 1) := by decide +kernel
theorem dX8_negative_16 : decode cX8_negative 16 = .ok (.aload_n 0, 1) := by decide +kernel
theorem dX8_negative_17 : decode cX8_negative 17 = .ok (.getfield 10, 3) := by decide +kernel
theorem dX8_negative_20 : decode cX8_negative 20 = .ok (.invokevirtual 126, 3) := by decide +kernel
theorem dX8_negative_23 : decode cX8_negative 23 = .ok (.invokevirtual 130, 3) := by decide +kernel
theorem dX8_negative_26 : decode cX8_negative 26 = .ok (.invokestatic 134, 3) := by decide +kernel
theorem dX8_negative_29 : decode cX8_negative 29 = .ok (.goto 5, 3) := by decide +kernel
theorem dX8_negative_32 : decode cX8_negative 32 = .ok (.bipush (-2), 2) := by decide +kernel
theorem dX8_negative_34 : decode cX8_negative 34 = .ok (.ireturn, 1) := by decide +kernel
set_option maxRecDepth 100000 in
set_option maxHeartbeats 40000000 in
theorem gp_negative {G : vG} {l : Launch} (σ : Sg) (a : Int32) (hI : Inv σ) : Sp G l yX8_negative cX8_negative 2 (some .int) 4 0 0 [.ref 0, .int a] (WW σ) (QI (fun _ w2 => ∃ σ2, w2 = WW σ2 ∧ Inv σ2 ∧ Cor σ σ2)) := by
  refine Sp_of_R [(some (.ref 0)), (some (.int a))] [] rfl (by simp) rfl (Nat.le_of_ble_eq_true rfl) ?_
  refine R_aload_n (pc := 0) dX8_negative_0 rfl rfl ?_
  refine g_X8_10 (pc := 1) (v := .ref 1) rfl dX8_negative_1 (c_0 _) rfl ?_
  refine R_iload_n (pc := 4) dX8_negative_4 rfl rfl ?_
  refine k_X8_90 (pc := 5) (gx_X0_isThere _ _ hI) rfl (c_1 _) (by decide) (Nat.le_refl _) (Nat.le_refl _) (Nat.le_of_ble_eq_true rfl) dX8_negative_5 (fun x w2 h => ?_)
  rcases h with ⟨rfl, ⟨h1, rfl⟩ | rfl⟩
  · skip
    refine R_ifeq (pc := 8) 32 dX8_negative_8 (by decide) (fun h => absurd h (by decide)) (fun _ => ?_)
    refine R_aload_n (pc := 11) dX8_negative_11 rfl rfl ?_
    refine g_X8_21 (pc := 12) (v := .ref 12) rfl dX8_negative_12 (c_0 _) rfl ?_
    refine R_iload_n (pc := 15) dX8_negative_15 rfl rfl ?_
    refine R_aload_n (pc := 16) dX8_negative_16 rfl rfl ?_
    refine g_X8_10 (pc := 17) (v := .ref 1) rfl dX8_negative_17 (c_0 _) rfl ?_
    refine k_X8_126 (pc := 20) (gx_X0_there _ hI) rfl (c_1 _) (by decide) (Nat.le_refl _) (Nat.le_refl _) (Nat.le_of_ble_eq_true rfl) dX8_negative_20 (fun y3 w2 h => ?_)
    subst h
    refine k_X8_130 (pc := 23) (gx_X3_sameNegative _ _ _ hI h1) rfl (c_12 _) (by decide) (Nat.le_refl _) (Nat.le_refl _) (Nat.le_of_ble_eq_true rfl) dX8_negative_23 (fun y4 w2 h => ?_)
    subst h
    refine k_X8_134 (pc := 26) (gx_X8_lowest _ _) rfl (by decide) (Nat.le_refl _) (Nat.le_refl _) (Nat.le_of_ble_eq_true rfl) dX8_negative_26 (fun y5 w2 h => ?_)
    obtain ⟨rfl, -⟩ := h
    refine R_goto (pc := 29) 34 dX8_negative_29 (by decide) ?_
    exact R_iret (pc := 34) dX8_negative_34 rfl rfl (Nat.zero_le _) (Nat.zero_le _) ⟨_, rfl, _, rfl, hI, (show Cor σ σ from Cor.rfl' σ)⟩
  · skip
    refine R_ifeq (pc := 8) 32 dX8_negative_8 (by decide) (fun _ => ?_) (fun h => absurd (by decide) h)
    refine R_bipush (pc := 32) (v := (-2)) dX8_negative_32 (by decide) ?_
    exact R_iret (pc := 34) dX8_negative_34 rfl rfl (Nat.zero_le _) (Nat.zero_le _) ⟨_, rfl, _, rfl, hI, (show Cor σ σ from Cor.rfl' σ)⟩
