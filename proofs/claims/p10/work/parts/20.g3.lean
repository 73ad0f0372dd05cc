/-! methods on any state that keeps the invariant -/
theorem dX8_lowest_0 : decode cX8_lowest 0 = .ok (.iload_n 0, 1) := by decide +kernel
theorem dX8_lowest_1 : decode cX8_lowest 1 = .ok (.iload_n 0, 1) := by decide +kernel
theorem dX8_lowest_2 : decode cX8_lowest 2 = .ok (.ineg, 1) := by decide +kernel
theorem dX8_lowest_3 : decode cX8_lowest 3 = .ok (.iand, 1) := by decide +kernel
theorem dX8_lowest_4 : decode cX8_lowest 4 = .ok (.iconst 1, 1) := by decide +kernel
theorem dX8_lowest_5 : decode cX8_lowest 5 = .ok (.isub, 1) := by decide +kernel
theorem dX8_lowest_6 : decode cX8_lowest 6 = .ok (.invokestatic 159, 3) := by decide +kernel
theorem dX8_lowest_9 : decode cX8_lowest 9 = .ok (.ireturn, 1) := by decide +kernel
set_option maxRecDepth 100000 in
set_option maxHeartbeats 40000000 in
theorem gx_X8_lowest {G : vG} {l : Launch} (w : VW) (a : Int32) : Sp G l yX8_lowest cX8_lowest 1 (some .int) 1 0 0 [.int a] (w) (QI (fun x w2 => w2 = w ∧ x = pcI ((a &&& -a) - 1))) := by
  refine Sp_of_R [(some (.int a))] [] rfl (by simp) rfl (Nat.le_of_ble_eq_true rfl) ?_
  refine R_iload_n (pc := 0) dX8_lowest_0 rfl rfl ?_
  refine R_iload_n (pc := 1) dX8_lowest_1 rfl rfl ?_
  refine R_ineg (pc := 2) dX8_lowest_2 ?_
  refine R_iand (pc := 3) dX8_lowest_3 ?_
  refine R_iconst (pc := 4) (v := 1) dX8_lowest_4 (by decide) ?_
  refine R_isub (pc := 5) dX8_lowest_5 ?_
  refine k_X8_159 (pc := 6) (sp_J6_bitCount_0f7a4 _ _) rfl (by decide) (Nat.le_refl _) (Nat.le_refl _) (Nat.le_of_ble_eq_true rfl) dX8_lowest_6 (fun x w2 h => ?_)
  obtain ⟨rfl, rfl⟩ := h
  exact R_iret (pc := 9) dX8_lowest_9 rfl rfl (Nat.zero_le _) (Nat.zero_le _) ⟨_, rfl, rfl, rfl⟩
theorem dX3_cellsInBoth_0 : decode cX3_cellsInBoth 0 = .ok (.sipush 255, 3) := by decide +kernel
theorem dX3_cellsInBoth_3 : decode cX3_cellsInBoth 3 = .ok (.iconst 0, 1) := by decide +kernel
theorem dX3_cellsInBoth_4 : decode cX3_cellsInBoth 4 = .ok (.iload_n 2, 1) := by decide +kernel
theorem dX3_cellsInBoth_5 : decode cX3_cellsInBoth 5 = .ok (.ineg, 1) := by decide +kernel
theorem dX3_cellsInBoth_6 : decode cX3_cellsInBoth 6 = .ok (.invokestatic 66, 3) := by decide +kernel
theorem dX3_cellsInBoth_9 : decode cX3_cellsInBoth 9 = .ok (.ishl, 1) := by decide +kernel
theorem dX3_cellsInBoth_10 : decode cX3_cellsInBoth 10 = .ok (.sipush 255, 3) := by decide +kernel
theorem dX3_cellsInBoth_13 : decode cX3_cellsInBoth 13 = .ok (.iconst 0, 1) := by decide +kernel
theorem dX3_cellsInBoth_14 : decode cX3_cellsInBoth 14 = .ok (.iload_n 2, 1) := by decide +kernel
theorem dX3_cellsInBoth_15 : decode cX3_cellsInBoth 15 = .ok (.invokestatic 66, 3) := by decide +kernel
theorem dX3_cellsInBoth_18 : decode cX3_cellsInBoth 18 = .ok (.ishr, 1) := by decide +kernel
theorem dX3_cellsInBoth_19 : decode cX3_cellsInBoth 19 = .ok (.iand, 1) := by decide +kernel
theorem dX3_cellsInBoth_20 : decode cX3_cellsInBoth 20 = .ok (.i2l, 1) := by decide +kernel
theorem dX3_cellsInBoth_21 : decode cX3_cellsInBoth 21 = .ok (.lstore 4, 2) := by decide +kernel
theorem dX3_cellsInBoth_23 : decode cX3_cellsInBoth 23 = .ok (.iload_n 0, 1) := by decide +kernel
theorem dX3_cellsInBoth_24 : decode cX3_cellsInBoth 24 = .ok (.iload_n 1, 1) := by decide +kernel
theorem dX3_cellsInBoth_25 : decode cX3_cellsInBoth 25 = .ok (.iload_n 3, 1) := by decide +kernel
theorem dX3_cellsInBoth_26 : decode cX3_cellsInBoth 26 = .ok (.isub, 1) := by decide +kernel
theorem dX3_cellsInBoth_27 : decode cX3_cellsInBoth 27 = .ok (.invokestatic 66, 3) := by decide +kernel
theorem dX3_cellsInBoth_30 : decode cX3_cellsInBoth 30 = .ok (.istore 6, 2) := by decide +kernel
theorem dX3_cellsInBoth_32 : decode cX3_cellsInBoth 32 = .ok (.bipush 7, 2) := by decide +kernel
theorem dX3_cellsInBoth_34 : decode cX3_cellsInBoth 34 = .ok (.bipush 7, 2) := by decide +kernel
theorem dX3_cellsInBoth_36 : decode cX3_cellsInBoth 36 = .ok (.iload_n 3, 1) := by decide +kernel
theorem dX3_cellsInBoth_37 : decode cX3_cellsInBoth 37 = .ok (.isub, 1) := by decide +kernel
theorem dX3_cellsInBoth_38 : decode cX3_cellsInBoth 38 = .ok (.invokestatic 61, 3) := by decide +kernel
theorem dX3_cellsInBoth_41 : decode cX3_cellsInBoth 41 = .ok (.istore 7, 2) := by decide +kernel
theorem dX3_cellsInBoth_43 : decode cX3_cellsInBoth 43 = .ok (.lconst 0, 1) := by decide +kernel
theorem dX3_cellsInBoth_44 : decode cX3_cellsInBoth 44 = .ok (.lstore 8, 2) := by decide +kernel
theorem dX3_cellsInBoth_46 : decode cX3_cellsInBoth 46 = .ok (.iload 6, 2) := by decide +kernel
theorem dX3_cellsInBoth_48 : decode cX3_cellsInBoth 48 = .ok (.istore 10, 2) := by decide +kernel
theorem dX3_cellsInBoth_50 : decode cX3_cellsInBoth 50 = .ok (.iload 10, 2) := by decide +kernel
theorem dX3_cellsInBoth_52 : decode cX3_cellsInBoth 52 = .ok (.iload 7, 2) := by decide +kernel
theorem dX3_cellsInBoth_54 : decode cX3_cellsInBoth 54 = .ok (.if_icmp .gt 22, 3) := by decide +kernel
theorem dX3_cellsInBoth_57 : decode cX3_cellsInBoth 57 = .ok (.lload 8, 2) := by decide +kernel
theorem dX3_cellsInBoth_59 : decode cX3_cellsInBoth 59 = .ok (.lload 4, 2) := by decide +kernel
theorem dX3_cellsInBoth_61 : decode cX3_cellsInBoth 61 = .ok (.bipush 8, 2) := by decide +kernel
theorem dX3_cellsInBoth_63 : decode cX3_cellsInBoth 63 = .ok (.iload 10, 2) := by decide +kernel
theorem dX3_cellsInBoth_65 : decode cX3_cellsInBoth 65 = .ok (.imul, 1) := by decide +kernel
theorem dX3_cellsInBoth_66 : decode cX3_cellsInBoth 66 = .ok (.lshl, 1) := by decide +kernel
theorem dX3_cellsInBoth_67 : decode cX3_cellsInBoth 67 = .ok (.lor, 1) := by decide +kernel
theorem dX3_cellsInBoth_68 : decode cX3_cellsInBoth 68 = .ok (.lstore 8, 2) := by decide +kernel
theorem dX3_cellsInBoth_70 : decode cX3_cellsInBoth 70 = .ok (.iinc 10 1, 3) := by decide +kernel
theorem dX3_cellsInBoth_73 : decode cX3_cellsInBoth 73 = .ok (.goto (-23), 3) := by decide +kernel
theorem dX3_cellsInBoth_76 : decode cX3_cellsInBoth 76 = .ok (.lload 8, 2) := by decide +kernel
theorem dX3_cellsInBoth_78 : decode cX3_cellsInBoth 78 = .ok (.lreturn, 1) := by decide +kernel
theorem dX3_fewestOtherwise_0 : decode cX3_fewestOtherwise 0 = .ok (.iconst (-1), 1) := by decide +kernel
theorem dX3_fewestOtherwise_1 : decode cX3_fewestOtherwise 1 = .ok (.istore_n 3, 1) := by decide +kernel
theorem dX3_fewestOtherwise_2 : decode cX3_fewestOtherwise 2 = .ok (.bipush (-2), 2) := by decide +kernel
theorem dX3_fewestOtherwise_4 : decode cX3_fewestOtherwise 4 = .ok (.istore 4, 2) := by decide +kernel
theorem dX3_fewestOtherwise_6 : decode cX3_fewestOtherwise 6 = .ok (.iload 4, 2) := by decide +kernel
theorem dX3_fewestOtherwise_8 : decode cX3_fewestOtherwise 8 = .ok (.iconst 2, 1) := by decide +kernel
theorem dX3_fewestOtherwise_9 : decode cX3_fewestOtherwise 9 = .ok (.if_icmp .gt 121, 3) := by decide +kernel
theorem dX3_fewestOtherwise_12 : decode cX3_fewestOtherwise 12 = .ok (.bipush (-2), 2) := by decide +kernel
theorem dX3_fewestOtherwise_14 : decode cX3_fewestOtherwise 14 = .ok (.istore 5, 2) := by decide +kernel
theorem dX3_fewestOtherwise_16 : decode cX3_fewestOtherwise 16 = .ok (.iload 5, 2) := by decide +kernel
theorem dX3_fewestOtherwise_18 : decode cX3_fewestOtherwise 18 = .ok (.iconst 2, 1) := by decide +kernel
theorem dX3_fewestOtherwise_19 : decode cX3_fewestOtherwise 19 = .ok (.if_icmp .gt 105, 3) := by decide +kernel
theorem dX3_fewestOtherwise_22 : decode cX3_fewestOtherwise 22 = .ok (.aload_n 0, 1) := by decide +kernel
theorem dX3_fewestOtherwise_23 : decode cX3_fewestOtherwise 23 = .ok (.getfield 27, 3) := by decide +kernel
theorem dX3_fewestOtherwise_26 : decode cX3_fewestOtherwise 26 = .ok (.getfield 40, 3) := by decide +kernel
theorem dX3_fewestOtherwise_29 : decode cX3_fewestOtherwise 29 = .ok (.iload_n 1, 1) := by decide +kernel
theorem dX3_fewestOtherwise_30 : decode cX3_fewestOtherwise 30 = .ok (.iaload, 1) := by decide +kernel
theorem dX3_fewestOtherwise_31 : decode cX3_fewestOtherwise 31 = .ok (.aload_n 0, 1) := by decide +kernel
theorem dX3_fewestOtherwise_32 : decode cX3_fewestOtherwise 32 = .ok (.getfield 27, 3) := by decide +kernel
theorem dX3_fewestOtherwise_35 : decode cX3_fewestOtherwise 35 = .ok (.getfield 40, 3) := by decide +kernel
theorem dX3_fewestOtherwise_38 : decode cX3_fewestOtherwise 38 = .ok (.iload_n 2, 1) := by decide +kernel
theorem dX3_fewestOtherwise_39 : decode cX3_fewestOtherwise 39 = .ok (.iaload, 1) := by decide +kernel
theorem dX3_fewestOtherwise_40 : decode cX3_fewestOtherwise 40 = .ok (.iload 5, 2) := by decide +kernel
theorem dX3_fewestOtherwise_42 : decode cX3_fewestOtherwise 42 = .ok (.iload 4, 2) := by decide +kernel
theorem dX3_fewestOtherwise_44 : decode cX3_fewestOtherwise 44 = .ok (.invokestatic 43, 3) := by decide +kernel
theorem dX3_fewestOtherwise_47 : decode cX3_fewestOtherwise 47 = .ok (.lstore 6, 2) := by decide +kernel
theorem dX3_fewestOtherwise_49 : decode cX3_fewestOtherwise 49 = .ok (.lload 6, 2) := by decide +kernel
theorem dX3_fewestOtherwise_51 : decode cX3_fewestOtherwise 51 = .ok (.invokestatic 47, 3) := by decide +kernel
theorem dX3_fewestOtherwise_54 : decode cX3_fewestOtherwise 54 = .ok (.bipush 24, 2) := by decide +kernel
theorem dX3_fewestOtherwise_56 : decode cX3_fewestOtherwise 56 = .ok (.if_icmp .lt 62, 3) := by decide +kernel
theorem dX3_fewestOtherwise_59 : decode cX3_fewestOtherwise 59 = .ok (.aload_n 0, 1) := by decide +kernel
theorem dX3_fewestOtherwise_60 : decode cX3_fewestOtherwise 60 = .ok (.getfield 27, 3) := by decide +kernel
theorem dX3_fewestOtherwise_63 : decode cX3_fewestOtherwise 63 = .ok (.getfield 53, 3) := by decide +kernel
theorem dX3_fewestOtherwise_66 : decode cX3_fewestOtherwise 66 = .ok (.iload_n 2, 1) := by decide +kernel
theorem dX3_fewestOtherwise_67 : decode cX3_fewestOtherwise 67 = .ok (.laload, 1) := by decide +kernel
theorem dX3_fewestOtherwise_68 : decode cX3_fewestOtherwise 68 = .ok (.bipush 8, 2) := by decide +kernel
theorem dX3_fewestOtherwise_70 : decode cX3_fewestOtherwise 70 = .ok (.iload 4, 2) := by decide +kernel
theorem dX3_fewestOtherwise_72 : decode cX3_fewestOtherwise 72 = .ok (.imul, 1) := by decide +kernel
theorem dX3_fewestOtherwise_73 : decode cX3_fewestOtherwise 73 = .ok (.iload 5, 2) := by decide +kernel
theorem dX3_fewestOtherwise_75 : decode cX3_fewestOtherwise 75 = .ok (.iadd, 1) := by decide +kernel
theorem dX3_fewestOtherwise_76 : decode cX3_fewestOtherwise 76 = .ok (.invokestatic 57, 3) := by decide +kernel
theorem dX3_fewestOtherwise_79 : decode cX3_fewestOtherwise 79 = .ok (.lstore 8, 2) := by decide +kernel
theorem dX3_fewestOtherwise_81 : decode cX3_fewestOtherwise 81 = .ok (.aload_n 0, 1) := by decide +kernel
theorem dX3_fewestOtherwise_82 : decode cX3_fewestOtherwise 82 = .ok (.getfield 27, 3) := by decide +kernel
theorem dX3_fewestOtherwise_85 : decode cX3_fewestOtherwise 85 = .ok (.getfield 53, 3) := by decide +kernel
theorem dX3_fewestOtherwise_88 : decode cX3_fewestOtherwise 88 = .ok (.iload_n 1, 1) := by decide +kernel
theorem dX3_fewestOtherwise_89 : decode cX3_fewestOtherwise 89 = .ok (.laload, 1) := by decide +kernel
theorem dX3_fewestOtherwise_90 : decode cX3_fewestOtherwise 90 = .ok (.lload 8, 2) := by decide +kernel
theorem dX3_fewestOtherwise_92 : decode cX3_fewestOtherwise 92 = .ok (.lxor, 1) := by decide +kernel
theorem dX3_fewestOtherwise_93 : decode cX3_fewestOtherwise 93 = .ok (.lload 6, 2) := by decide +kernel
theorem dX3_fewestOtherwise_95 : decode cX3_fewestOtherwise 95 = .ok (.land, 1) := by decide +kernel
theorem dX3_fewestOtherwise_96 : decode cX3_fewestOtherwise 96 = .ok (.invokestatic 47, 3) := by decide +kernel
theorem dX3_fewestOtherwise_99 : decode cX3_fewestOtherwise 99 = .ok (.istore 10, 2) := by decide +kernel
theorem dX3_fewestOtherwise_101 : decode cX3_fewestOtherwise 101 = .ok (.iload_n 3, 1) := by decide +kernel
theorem dX3_fewestOtherwise_102 : decode cX3_fewestOtherwise 102 = .ok (.iconst (-1), 1) := by decide +kernel
theorem dX3_fewestOtherwise_103 : decode cX3_fewestOtherwise 103 = .ok (.if_icmp .ne 8, 3) := by decide +kernel
theorem dX3_fewestOtherwise_106 : decode cX3_fewestOtherwise 106 = .ok (.iload 10, 2) := by decide +kernel
theorem dX3_fewestOtherwise_108 : decode cX3_fewestOtherwise 108 = .ok (.goto 9, 3) := by decide +kernel
theorem dX3_fewestOtherwise_111 : decode cX3_fewestOtherwise 111 = .ok (.iload_n 3, 1) := by decide +kernel
theorem dX3_fewestOtherwise_112 : decode cX3_fewestOtherwise 112 = .ok (.iload 10, 2) := by decide +kernel
theorem dX3_fewestOtherwise_114 : decode cX3_fewestOtherwise 114 = .ok (.invokestatic 61, 3) := by decide +kernel
theorem dX3_fewestOtherwise_117 : decode cX3_fewestOtherwise 117 = .ok (.istore_n 3, 1) := by decide +kernel
theorem dX3_fewestOtherwise_118 : decode cX3_fewestOtherwise 118 = .ok (.iinc 5 1, 3) := by decide +kernel
theorem dX3_fewestOtherwise_121 : decode cX3_fewestOtherwise 121 = .ok (.goto (-105), 3) := by decide +kernel
theorem dX3_fewestOtherwise_124 : decode cX3_fewestOtherwise 124 = .ok (.iinc 4 1, 3) := by decide +kernel
theorem dX3_fewestOtherwise_127 : decode cX3_fewestOtherwise 127 = .ok (.goto (-121), 3) := by decide +kernel
theorem dX3_fewestOtherwise_130 : decode cX3_fewestOtherwise 130 = .ok (.iload_n 3, 1) := by decide +kernel
theorem dX3_fewestOtherwise_131 : decode cX3_fewestOtherwise 131 = .ok (.ireturn, 1) := by decide +kernel
theorem dX3_comparePicture_0 : decode cX3_comparePicture 0 = .ok (.iconst 0, 1) := by decide +kernel
theorem dX3_comparePicture_1 : decode cX3_comparePicture 1 = .ok (.istore_n 2, 1) := by decide +kernel
theorem dX3_comparePicture_2 : decode cX3_comparePicture 2 = .ok (.iload_n 2, 1) := by decide +kernel
theorem dX3_comparePicture_3 : decode cX3_comparePicture 3 = .ok (.aload_n 0, 1) := by decide +kernel
theorem dX3_comparePicture_4 : decode cX3_comparePicture 4 = .ok (.getfield 27, 3) := by decide +kernel
theorem dX3_comparePicture_7 : decode cX3_comparePicture 7 = .ok (.getfield 31, 3) := by decide +kernel
theorem dX3_comparePicture_10 : decode cX3_comparePicture 10 = .ok (.if_icmp .ge 34, 3) := by decide +kernel
theorem dX3_comparePicture_13 : decode cX3_comparePicture 13 = .ok (.aload_n 0, 1) := by decide +kernel
theorem dX3_comparePicture_14 : decode cX3_comparePicture 14 = .ok (.iload_n 1, 1) := by decide +kernel
theorem dX3_comparePicture_15 : decode cX3_comparePicture 15 = .ok (.iload_n 2, 1) := by decide +kernel
theorem dX3_comparePicture_16 : decode cX3_comparePicture 16 = .ok (.invokevirtual 36, 3) := by decide +kernel
theorem dX3_comparePicture_19 : decode cX3_comparePicture 19 = .ok (.istore_n 3, 1) := by decide +kernel
theorem dX3_comparePicture_20 : decode cX3_comparePicture 20 = .ok (.aload_n 0, 1) := by decide +kernel
theorem dX3_comparePicture_21 : decode cX3_comparePicture 21 = .ok (.getfield 11, 3) := by decide +kernel
theorem dX3_comparePicture_24 : decode cX3_comparePicture 24 = .ok (.iload_n 1, 1) := by decide +kernel
theorem dX3_comparePicture_25 : decode cX3_comparePicture 25 = .ok (.aaload, 1) := by decide +kernel
theorem dX3_comparePicture_26 : decode cX3_comparePicture 26 = .ok (.iload_n 2, 1) := by decide +kernel
theorem dX3_comparePicture_27 : decode cX3_comparePicture 27 = .ok (.iload_n 3, 1) := by decide +kernel
theorem dX3_comparePicture_28 : decode cX3_comparePicture 28 = .ok (.iastore, 1) := by decide +kernel
theorem dX3_comparePicture_29 : decode cX3_comparePicture 29 = .ok (.aload_n 0, 1) := by decide +kernel
theorem dX3_comparePicture_30 : decode cX3_comparePicture 30 = .ok (.getfield 11, 3) := by decide +kernel
theorem dX3_comparePicture_33 : decode cX3_comparePicture 33 = .ok (.iload_n 2, 1) := by decide +kernel
theorem dX3_comparePicture_34 : decode cX3_comparePicture 34 = .ok (.aaload, 1) := by decide +kernel
theorem dX3_comparePicture_35 : decode cX3_comparePicture 35 = .ok (.iload_n 1, 1) := by decide +kernel
theorem dX3_comparePicture_36 : decode cX3_comparePicture 36 = .ok (.iload_n 3, 1) := by decide +kernel
theorem dX3_comparePicture_37 : decode cX3_comparePicture 37 = .ok (.iastore, 1) := by decide +kernel
theorem dX3_comparePicture_38 : decode cX3_comparePicture 38 = .ok (.iinc 2 1, 3) := by decide +kernel
theorem dX3_comparePicture_41 : decode cX3_comparePicture 41 = .ok (.goto (-39), 3) := by decide +kernel
theorem dX3_comparePicture_44 : decode cX3_comparePicture 44 = .ok (.return_, 1) := by decide +kernel
