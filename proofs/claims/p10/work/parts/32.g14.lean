/-! methods on any state that keeps the invariant -/
theorem dX9_feature_0 : decode cX9_feature 0 = .ok (.iload_n 1, 1) := by decide +kernel
theorem dX9_feature_1 : decode cX9_feature 1 = .ok (.iconst 0, 1) := by decide +kernel
theorem dX9_feature_2 : decode cX9_feature 2 = .ok (.bipush 7, 2) := by decide +kernel
theorem dX9_feature_4 : decode cX9_feature 4 = .ok (.invokestatic 124, 3) := by decide +kernel
theorem dX9_feature_7 : decode cX9_feature 7 = .ok (.ifCond .ne 6, 3) := by decide +kernel
theorem dX9_feature_10 : decode cX9_feature 10 = .ok (.bipush (-2), 2) := by decide +kernel
theorem dX9_feature_12 : decode cX9_feature 12 = .ok (.ireturn, 1) := by decide +kernel
theorem dX9_feature_13 : decode cX9_feature 13 = .ok (.iload_n 2, 1) := by decide +kernel
theorem dX9_feature_14 : decode cX9_feature 14 = .ok (.invokestatic 198, 3) := by decide +kernel
theorem dX9_feature_17 : decode cX9_feature 17 = .ok (.ifCond .eq 14, 3) := by decide +kernel
theorem dX9_feature_20 : decode cX9_feature 20 = .ok (.iload_n 3, 1) := by decide +kernel
theorem dX9_feature_21 : decode cX9_feature 21 = .ok (.iload_n 2, 1) := by decide +kernel
theorem dX9_feature_22 : decode cX9_feature 22 = .ok (.sipush 20000, 3) := by decide +kernel
theorem dX9_feature_25 : decode cX9_feature 25 = .ok (.invokestatic 124, 3) := by decide +kernel
theorem dX9_feature_28 : decode cX9_feature 28 = .ok (.ifCond .ne 6, 3) := by decide +kernel
theorem dX9_feature_31 : decode cX9_feature 31 = .ok (.bipush (-3), 2) := by decide +kernel
theorem dX9_feature_33 : decode cX9_feature 33 = .ok (.ireturn, 1) := by decide +kernel
theorem dX9_feature_34 : decode cX9_feature 34 = .ok (.aload_n 0, 1) := by decide +kernel
theorem dX9_feature_35 : decode cX9_feature 35 = .ok (.getfield 66, 3) := by decide +kernel
theorem dX9_feature_38 : decode cX9_feature 38 = .ok (.iload_n 1, 1) := by decide +kernel
theorem dX9_feature_39 : decode cX9_feature 39 = .ok (.iload_n 2, 1) := by decide +kernel
theorem dX9_feature_40 : decode cX9_feature 40 = .ok (.iastore, 1) := by decide +kernel
theorem dX9_feature_41 : decode cX9_feature 41 = .ok (.aload_n 0, 1) := by decide +kernel
theorem dX9_feature_42 : decode cX9_feature 42 = .ok (.getfield 69, 3) := by decide +kernel
theorem dX9_feature_45 : decode cX9_feature 45 = .ok (.iload_n 1, 1) := by decide +kernel
theorem dX9_feature_46 : decode cX9_feature 46 = .ok (.iload_n 3, 1) := by decide +kernel
theorem dX9_feature_47 : decode cX9_feature 47 = .ok (.iastore, 1) := by decide +kernel
theorem dX9_feature_48 : decode cX9_feature 48 = .ok (.iconst 1, 1) := by decide +kernel
theorem dX9_feature_49 : decode cX9_feature 49 = .ok (.ireturn, 1) := by decide +kernel
theorem dX9_shows_0 : decode cX9_shows 0 = .ok (.aload_n 0, 1) := by decide +kernel
theorem dX9_shows_1 : decode cX9_shows 1 = .ok (.iload_n 1, 1) := by decide +kernel
theorem dX9_shows_2 : decode cX9_shows 2 = .ok (.invokevirtual 135, 3) := by decide +kernel
theorem dX9_shows_5 : decode cX9_shows 5 = .ok (.ifCond .eq 13, 3) := by decide +kernel
theorem dX9_shows_8 : decode cX9_shows 8 = .ok (.iload_n 2, 1) := by decide +kernel
theorem dX9_shows_9 : decode cX9_shows 9 = .ok (.iconst 0, 1) := by decide +kernel
theorem dX9_shows_10 : decode cX9_shows 10 = .ok (.bipush 7, 2) := by decide +kernel
theorem dX9_shows_12 : decode cX9_shows 12 = .ok (.invokestatic 124, 3) := by decide +kernel
theorem dX9_shows_15 : decode cX9_shows 15 = .ok (.ifCond .ne 6, 3) := by decide +kernel
theorem dX9_shows_18 : decode cX9_shows 18 = .ok (.bipush (-2), 2) := by decide +kernel
theorem dX9_shows_20 : decode cX9_shows 20 = .ok (.ireturn, 1) := by decide +kernel
theorem dX9_shows_21 : decode cX9_shows 21 = .ok (.iload_n 3, 1) := by decide +kernel
theorem dX9_shows_22 : decode cX9_shows 22 = .ok (.iconst 0, 1) := by decide +kernel
theorem dX9_shows_23 : decode cX9_shows 23 = .ok (.iconst 2, 1) := by decide +kernel
theorem dX9_shows_24 : decode cX9_shows 24 = .ok (.invokestatic 124, 3) := by decide +kernel
theorem dX9_shows_27 : decode cX9_shows 27 = .ok (.ifCond .ne 6, 3) := by decide +kernel
theorem dX9_shows_30 : decode cX9_shows 30 = .ok (.bipush (-3), 2) := by decide +kernel
theorem dX9_shows_32 : decode cX9_shows 32 = .ok (.ireturn, 1) := by decide +kernel
theorem dX9_shows_33 : decode cX9_shows 33 = .ok (.aload_n 0, 1) := by decide +kernel
theorem dX9_shows_34 : decode cX9_shows 34 = .ok (.getfield 72, 3) := by decide +kernel
theorem dX9_shows_37 : decode cX9_shows 37 = .ok (.bipush 8, 2) := by decide +kernel
theorem dX9_shows_39 : decode cX9_shows 39 = .ok (.iload_n 1, 1) := by decide +kernel
theorem dX9_shows_40 : decode cX9_shows 40 = .ok (.imul, 1) := by decide +kernel
theorem dX9_shows_41 : decode cX9_shows 41 = .ok (.iload_n 2, 1) := by decide +kernel
theorem dX9_shows_42 : decode cX9_shows 42 = .ok (.iadd, 1) := by decide +kernel
theorem dX9_shows_43 : decode cX9_shows 43 = .ok (.iaload, 1) := by decide +kernel
theorem dX9_shows_44 : decode cX9_shows 44 = .ok (.istore 4, 2) := by decide +kernel
theorem dX9_shows_46 : decode cX9_shows 46 = .ok (.aload_n 0, 1) := by decide +kernel
theorem dX9_shows_47 : decode cX9_shows 47 = .ok (.getfield 72, 3) := by decide +kernel
theorem dX9_shows_50 : decode cX9_shows 50 = .ok (.bipush 8, 2) := by decide +kernel
theorem dX9_shows_52 : decode cX9_shows 52 = .ok (.iload_n 1, 1) := by decide +kernel
theorem dX9_shows_53 : decode cX9_shows 53 = .ok (.imul, 1) := by decide +kernel
theorem dX9_shows_54 : decode cX9_shows 54 = .ok (.iload_n 2, 1) := by decide +kernel
theorem dX9_shows_55 : decode cX9_shows 55 = .ok (.iadd, 1) := by decide +kernel
theorem dX9_shows_56 : decode cX9_shows 56 = .ok (.iload_n 3, 1) := by decide +kernel
theorem dX9_shows_57 : decode cX9_shows 57 = .ok (.iastore, 1) := by decide +kernel
theorem dX9_shows_58 : decode cX9_shows 58 = .ok (.iload 4, 2) := by decide +kernel
theorem dX9_shows_60 : decode cX9_shows 60 = .ok (.ireturn, 1) := by decide +kernel
theorem dX9_back_0 : decode cX9_back 0 = .ok (.iload_n 1, 1) := by decide +kernel
theorem dX9_back_1 : decode cX9_back 1 = .ok (.iconst 0, 1) := by decide +kernel
theorem dX9_back_2 : decode cX9_back 2 = .ok (.iconst 4, 1) := by decide +kernel
theorem dX9_back_3 : decode cX9_back 3 = .ok (.invokestatic 124, 3) := by decide +kernel
theorem dX9_back_6 : decode cX9_back 6 = .ok (.ifCond .ne 6, 3) := by decide +kernel
theorem dX9_back_9 : decode cX9_back 9 = .ok (.bipush (-2), 2) := by decide +kernel
theorem dX9_back_11 : decode cX9_back 11 = .ok (.ireturn, 1) := by decide +kernel
theorem dX9_back_12 : decode cX9_back 12 = .ok (.iload_n 2, 1) := by decide +kernel
theorem dX9_back_13 : decode cX9_back 13 = .ok (.invokestatic 198, 3) := by decide +kernel
theorem dX9_back_16 : decode cX9_back 16 = .ok (.ifCond .eq 14, 3) := by decide +kernel
theorem dX9_back_19 : decode cX9_back 19 = .ok (.iload_n 3, 1) := by decide +kernel
theorem dX9_back_20 : decode cX9_back 20 = .ok (.iload_n 2, 1) := by decide +kernel
theorem dX9_back_21 : decode cX9_back 21 = .ok (.sipush 20000, 3) := by decide +kernel
theorem dX9_back_24 : decode cX9_back 24 = .ok (.invokestatic 124, 3) := by decide +kernel
theorem dX9_back_27 : decode cX9_back 27 = .ok (.ifCond .ne 6, 3) := by decide +kernel
theorem dX9_back_30 : decode cX9_back 30 = .ok (.bipush (-3), 2) := by decide +kernel
theorem dX9_back_32 : decode cX9_back 32 = .ok (.ireturn, 1) := by decide +kernel
theorem dX9_back_33 : decode cX9_back 33 = .ok (.aload_n 0, 1) := by decide +kernel
theorem dX9_back_34 : decode cX9_back 34 = .ok (.getfield 75, 3) := by decide +kernel
theorem dX9_back_37 : decode cX9_back 37 = .ok (.iload_n 1, 1) := by decide +kernel
theorem dX9_back_38 : decode cX9_back 38 = .ok (.iload_n 2, 1) := by decide +kernel
theorem dX9_back_39 : decode cX9_back 39 = .ok (.iastore, 1) := by decide +kernel
theorem dX9_back_40 : decode cX9_back 40 = .ok (.aload_n 0, 1) := by decide +kernel
theorem dX9_back_41 : decode cX9_back 41 = .ok (.getfield 78, 3) := by decide +kernel
theorem dX9_back_44 : decode cX9_back 44 = .ok (.iload_n 1, 1) := by decide +kernel
theorem dX9_back_45 : decode cX9_back 45 = .ok (.iload_n 3, 1) := by decide +kernel
theorem dX9_back_46 : decode cX9_back 46 = .ok (.iastore, 1) := by decide +kernel
theorem dX9_back_47 : decode cX9_back 47 = .ok (.iconst 1, 1) := by decide +kernel
theorem dX9_back_48 : decode cX9_back 48 = .ok (.ireturn, 1) := by decide +kernel
theorem dX9_later_0 : decode cX9_later 0 = .ok (.aload_n 0, 1) := by decide +kernel
theorem dX9_later_1 : decode cX9_later 1 = .ok (.iload_n 1, 1) := by decide +kernel
theorem dX9_later_2 : decode cX9_later 2 = .ok (.invokevirtual 135, 3) := by decide +kernel
theorem dX9_later_5 : decode cX9_later 5 = .ok (.ifCond .eq 16, 3) := by decide +kernel
theorem dX9_later_8 : decode cX9_later 8 = .ok (.aload_n 0, 1) := by decide +kernel
theorem dX9_later_9 : decode cX9_later 9 = .ok (.iload_n 2, 1) := by decide +kernel
theorem dX9_later_10 : decode cX9_later 10 = .ok (.invokevirtual 135, 3) := by decide +kernel
theorem dX9_later_13 : decode cX9_later 13 = .ok (.ifCond .eq 8, 3) := by decide +kernel
theorem dX9_later_16 : decode cX9_later 16 = .ok (.iload_n 1, 1) := by decide +kernel
theorem dX9_later_17 : decode cX9_later 17 = .ok (.iload_n 2, 1) := by decide +kernel
theorem dX9_later_18 : decode cX9_later 18 = .ok (.if_icmp .ne 6, 3) := by decide +kernel
theorem dX9_later_21 : decode cX9_later 21 = .ok (.bipush (-2), 2) := by decide +kernel
theorem dX9_later_23 : decode cX9_later 23 = .ok (.ireturn, 1) := by decide +kernel
theorem dX9_later_24 : decode cX9_later 24 = .ok (.aload_n 0, 1) := by decide +kernel
theorem dX9_later_25 : decode cX9_later 25 = .ok (.getfield 201, 3) := by decide +kernel
theorem dX9_later_28 : decode cX9_later 28 = .ok (.bipush 12, 2) := by decide +kernel
theorem dX9_later_30 : decode cX9_later 30 = .ok (.if_icmp .ne 6, 3) := by decide +kernel
theorem dX9_later_33 : decode cX9_later 33 = .ok (.bipush (-5), 2) := by decide +kernel
theorem dX9_later_35 : decode cX9_later 35 = .ok (.ireturn, 1) := by decide +kernel
theorem dX9_later_36 : decode cX9_later 36 = .ok (.aload_n 0, 1) := by decide +kernel
theorem dX9_later_37 : decode cX9_later 37 = .ok (.getfield 81, 3) := by decide +kernel
theorem dX9_later_40 : decode cX9_later 40 = .ok (.aload_n 0, 1) := by decide +kernel
theorem dX9_later_41 : decode cX9_later 41 = .ok (.getfield 201, 3) := by decide +kernel
theorem dX9_later_44 : decode cX9_later 44 = .ok (.iload_n 1, 1) := by decide +kernel
theorem dX9_later_45 : decode cX9_later 45 = .ok (.iastore, 1) := by decide +kernel
theorem dX9_later_46 : decode cX9_later 46 = .ok (.aload_n 0, 1) := by decide +kernel
theorem dX9_later_47 : decode cX9_later 47 = .ok (.getfield 84, 3) := by decide +kernel
theorem dX9_later_50 : decode cX9_later 50 = .ok (.aload_n 0, 1) := by decide +kernel
theorem dX9_later_51 : decode cX9_later 51 = .ok (.getfield 201, 3) := by decide +kernel
theorem dX9_later_54 : decode cX9_later 54 = .ok (.iload_n 2, 1) := by decide +kernel
theorem dX9_later_55 : decode cX9_later 55 = .ok (.iastore, 1) := by decide +kernel
theorem dX9_later_56 : decode cX9_later 56 = .ok (.aload_n 0, 1) := by decide +kernel
theorem dX9_later_57 : decode cX9_later 57 = .ok (.dup, 1) := by decide +kernel
theorem dX9_later_58 : decode cX9_later 58 = .ok (.getfield 201, 3) := by decide +kernel
theorem dX9_later_61 : decode cX9_later 61 = .ok (.iconst 1, 1) := by decide +kernel
theorem dX9_later_62 : decode cX9_later 62 = .ok (.iadd, 1) := by decide +kernel
theorem dX9_later_63 : decode cX9_later 63 = .ok (.putfield 201, 3) := by decide +kernel
theorem dX9_later_66 : decode cX9_later 66 = .ok (.aload_n 0, 1) := by decide +kernel
theorem dX9_later_67 : decode cX9_later 67 = .ok (.getfield 201, 3) := by decide +kernel
theorem dX9_later_70 : decode cX9_later 70 = .ok (.ireturn, 1) := by decide +kernel
theorem dX9_landmark_0 : decode cX9_landmark 0 = .ok (.iload_n 1, 1) := by decide +kernel
theorem dX9_landmark_1 : decode cX9_landmark 1 = .ok (.iconst 0, 1) := by decide +kernel
theorem dX9_landmark_2 : decode cX9_landmark 2 = .ok (.bipush 7, 2) := by decide +kernel
theorem dX9_landmark_4 : decode cX9_landmark 4 = .ok (.invokestatic 124, 3) := by decide +kernel
theorem dX9_landmark_7 : decode cX9_landmark 7 = .ok (.ifCond .ne 6, 3) := by decide +kernel
theorem dX9_landmark_10 : decode cX9_landmark 10 = .ok (.bipush (-2), 2) := by decide +kernel
theorem dX9_landmark_12 : decode cX9_landmark 12 = .ok (.ireturn, 1) := by decide +kernel
theorem dX9_landmark_13 : decode cX9_landmark 13 = .ok (.iload_n 2, 1) := by decide +kernel
theorem dX9_landmark_14 : decode cX9_landmark 14 = .ok (.iconst 0, 1) := by decide +kernel
theorem dX9_landmark_15 : decode cX9_landmark 15 = .ok (.bipush 64, 2) := by decide +kernel
theorem dX9_landmark_17 : decode cX9_landmark 17 = .ok (.invokestatic 124, 3) := by decide +kernel
theorem dX9_landmark_20 : decode cX9_landmark 20 = .ok (.ifCond .ne 6, 3) := by decide +kernel
theorem dX9_landmark_23 : decode cX9_landmark 23 = .ok (.bipush (-3), 2) := by decide +kernel
theorem dX9_landmark_25 : decode cX9_landmark 25 = .ok (.ireturn, 1) := by decide +kernel
theorem dX9_landmark_26 : decode cX9_landmark 26 = .ok (.aload_n 0, 1) := by decide +kernel
theorem dX9_landmark_27 : decode cX9_landmark 27 = .ok (.getfield 99, 3) := by decide +kernel
theorem dX9_landmark_30 : decode cX9_landmark 30 = .ok (.iload_n 1, 1) := by decide +kernel
theorem dX9_landmark_31 : decode cX9_landmark 31 = .ok (.iload_n 2, 1) := by decide +kernel
theorem dX9_landmark_32 : decode cX9_landmark 32 = .ok (.iastore, 1) := by decide +kernel
theorem dX9_landmark_33 : decode cX9_landmark 33 = .ok (.iconst 1, 1) := by decide +kernel
theorem dX9_landmark_34 : decode cX9_landmark 34 = .ok (.ireturn, 1) := by decide +kernel
theorem dX9_walls_0 : decode cX9_walls 0 = .ok (.aload_n 0, 1) := by decide +kernel
theorem dX9_walls_1 : decode cX9_walls 1 = .ok (.lload_n 1, 1) := by decide +kernel
theorem dX9_walls_2 : decode cX9_walls 2 = .ok (.putfield 232, 3) := by decide +kernel
theorem dX9_walls_5 : decode cX9_walls 5 = .ok (.iconst 1, 1) := by decide +kernel
theorem dX9_walls_6 : decode cX9_walls 6 = .ok (.ireturn, 1) := by decide +kernel
theorem dX9_view_0 : decode cX9_view 0 = .ok (.aload_n 0, 1) := by decide +kernel
theorem dX9_view_1 : decode cX9_view 1 = .ok (.iload_n 1, 1) := by decide +kernel
theorem dX9_view_2 : decode cX9_view 2 = .ok (.invokevirtual 135, 3) := by decide +kernel
theorem dX9_view_5 : decode cX9_view 5 = .ok (.ifCond .eq 13, 3) := by decide +kernel
theorem dX9_view_8 : decode cX9_view 8 = .ok (.iload_n 2, 1) := by decide +kernel
theorem dX9_view_9 : decode cX9_view 9 = .ok (.iconst 0, 1) := by decide +kernel
theorem dX9_view_10 : decode cX9_view 10 = .ok (.bipush 7, 2) := by decide +kernel
theorem dX9_view_12 : decode cX9_view 12 = .ok (.invokestatic 124, 3) := by decide +kernel
theorem dX9_view_15 : decode cX9_view 15 = .ok (.ifCond .ne 6, 3) := by decide +kernel
theorem dX9_view_18 : decode cX9_view 18 = .ok (.bipush (-2), 2) := by decide +kernel
theorem dX9_view_20 : decode cX9_view 20 = .ok (.ireturn, 1) := by decide +kernel
theorem dX9_view_21 : decode cX9_view 21 = .ok (.iconst 0, 1) := by decide +kernel
theorem dX9_view_22 : decode cX9_view 22 = .ok (.istore_n 3, 1) := by decide +kernel
theorem dX9_view_23 : decode cX9_view 23 = .ok (.iload_n 3, 1) := by decide +kernel
theorem dX9_view_24 : decode cX9_view 24 = .ok (.aload_n 0, 1) := by decide +kernel
theorem dX9_view_25 : decode cX9_view 25 = .ok (.getfield 102, 3) := by decide +kernel
theorem dX9_view_28 : decode cX9_view 28 = .ok (.iload_n 1, 1) := by decide +kernel
theorem dX9_view_29 : decode cX9_view 29 = .ok (.iaload, 1) := by decide +kernel
theorem dX9_view_30 : decode cX9_view 30 = .ok (.if_icmp .ge 26, 3) := by decide +kernel
theorem dX9_view_33 : decode cX9_view 33 = .ok (.aload_n 0, 1) := by decide +kernel
theorem dX9_view_34 : decode cX9_view 34 = .ok (.getfield 105, 3) := by decide +kernel
theorem dX9_view_37 : decode cX9_view 37 = .ok (.iconst 5, 1) := by decide +kernel
theorem dX9_view_38 : decode cX9_view 38 = .ok (.iload_n 1, 1) := by decide +kernel
theorem dX9_view_39 : decode cX9_view 39 = .ok (.imul, 1) := by decide +kernel
theorem dX9_view_40 : decode cX9_view 40 = .ok (.iload_n 3, 1) := by decide +kernel
theorem dX9_view_41 : decode cX9_view 41 = .ok (.iadd, 1) := by decide +kernel
theorem dX9_view_42 : decode cX9_view 42 = .ok (.iaload, 1) := by decide +kernel
theorem dX9_view_43 : decode cX9_view 43 = .ok (.iload_n 2, 1) := by decide +kernel
theorem dX9_view_44 : decode cX9_view 44 = .ok (.if_icmp .ne 6, 3) := by decide +kernel
theorem dX9_view_47 : decode cX9_view 47 = .ok (.bipush (-4), 2) := by decide +kernel
theorem dX9_view_49 : decode cX9_view 49 = .ok (.ireturn, 1) := by decide +kernel
theorem dX9_view_50 : decode cX9_view 50 = .ok (.iinc 3 1, 3) := by decide +kernel
theorem dX9_view_53 : decode cX9_view 53 = .ok (.goto (-30), 3) := by decide +kernel
theorem dX9_view_56 : decode cX9_view 56 = .ok (.aload_n 0, 1) := by decide +kernel
theorem dX9_view_57 : decode cX9_view 57 = .ok (.getfield 102, 3) := by decide +kernel
theorem dX9_view_60 : decode cX9_view 60 = .ok (.iload_n 1, 1) := by decide +kernel
theorem dX9_view_61 : decode cX9_view 61 = .ok (.iaload, 1) := by decide +kernel
theorem dX9_view_62 : decode cX9_view 62 = .ok (.iconst 5, 1) := by decide +kernel
theorem dX9_view_63 : decode cX9_view 63 = .ok (.if_icmp .ne 6, 3) := by decide +kernel
theorem dX9_view_66 : decode cX9_view 66 = .ok (.bipush (-5), 2) := by decide +kernel
theorem dX9_view_68 : decode cX9_view 68 = .ok (.ireturn, 1) := by decide +kernel
theorem dX9_view_69 : decode cX9_view 69 = .ok (.aload_n 0, 1) := by decide +kernel
theorem dX9_view_70 : decode cX9_view 70 = .ok (.getfield 105, 3) := by decide +kernel
theorem dX9_view_73 : decode cX9_view 73 = .ok (.iconst 5, 1) := by decide +kernel
theorem dX9_view_74 : decode cX9_view 74 = .ok (.iload_n 1, 1) := by decide +kernel
theorem dX9_view_75 : decode cX9_view 75 = .ok (.imul, 1) := by decide +kernel
theorem dX9_view_76 : decode cX9_view 76 = .ok (.aload_n 0, 1) := by decide +kernel
theorem dX9_view_77 : decode cX9_view 77 = .ok (.getfield 102, 3) := by decide +kernel
theorem dX9_view_80 : decode cX9_view 80 = .ok (.iload_n 1, 1) := by decide +kernel
theorem dX9_view_81 : decode cX9_view 81 = .ok (.iaload, 1) := by decide +kernel
theorem dX9_view_82 : decode cX9_view 82 = .ok (.iadd, 1) := by decide +kernel
theorem dX9_view_83 : decode cX9_view 83 = .ok (.iload_n 2, 1) := by decide +kernel
theorem dX9_view_84 : decode cX9_view 84 = .ok (.iastore, 1) := by decide +kernel
theorem dX9_view_85 : decode cX9_view 85 = .ok (.aload_n 0, 1) := by decide +kernel
theorem dX9_view_86 : decode cX9_view 86 = .ok (.getfield 102, 3) := by decide +kernel
theorem dX9_view_89 : decode cX9_view 89 = .ok (.iload_n 1, 1) := by decide +kernel
theorem dX9_view_90 : decode cX9_view 90 = .ok (.dup2, 1) := by decide +kernel
theorem dX9_view_91 : decode cX9_view 91 = .ok (.iaload, 1) := by decide +kernel
theorem dX9_view_92 : decode cX9_view 92 = .ok (.iconst 1, 1) := by decide +kernel
theorem dX9_view_93 : decode cX9_view 93 = .ok (.iadd, 1) := by decide +kernel
theorem dX9_view_94 : decode cX9_view 94 = .ok (.iastore, 1) := by decide +kernel
theorem dX9_view_95 : decode cX9_view 95 = .ok (.aload_n 0, 1) := by decide +kernel
theorem dX9_view_96 : decode cX9_view 96 = .ok (.getfield 102, 3) := by decide +kernel
theorem dX9_view_99 : decode cX9_view 99 = .ok (.iload_n 1, 1) := by decide +kernel
theorem dX9_view_100 : decode cX9_view 100 = .ok (.iaload, 1) := by decide +kernel
theorem dX9_view_101 : decode cX9_view 101 = .ok (.ireturn, 1) := by decide +kernel
theorem dX9_unview_0 : decode cX9_unview 0 = .ok (.aload_n 0, 1) := by decide +kernel
theorem dX9_unview_1 : decode cX9_unview 1 = .ok (.iload_n 1, 1) := by decide +kernel
theorem dX9_unview_2 : decode cX9_unview 2 = .ok (.invokevirtual 135, 3) := by decide +kernel
theorem dX9_unview_5 : decode cX9_unview 5 = .ok (.ifCond .ne 6, 3) := by decide +kernel
theorem dX9_unview_8 : decode cX9_unview 8 = .ok (.bipush (-2), 2) := by decide +kernel
theorem dX9_unview_10 : decode cX9_unview 10 = .ok (.ireturn, 1) := by decide +kernel
theorem dX9_unview_11 : decode cX9_unview 11 = .ok (.aload_n 0, 1) := by decide +kernel
theorem dX9_unview_12 : decode cX9_unview 12 = .ok (.getfield 102, 3) := by decide +kernel
theorem dX9_unview_15 : decode cX9_unview 15 = .ok (.iload_n 1, 1) := by decide +kernel
theorem dX9_unview_16 : decode cX9_unview 16 = .ok (.iaload, 1) := by decide +kernel
theorem dX9_unview_17 : decode cX9_unview 17 = .ok (.istore_n 2, 1) := by decide +kernel
theorem dX9_unview_18 : decode cX9_unview 18 = .ok (.aload_n 0, 1) := by decide +kernel
theorem dX9_unview_19 : decode cX9_unview 19 = .ok (.getfield 102, 3) := by decide +kernel
theorem dX9_unview_22 : decode cX9_unview 22 = .ok (.iload_n 1, 1) := by decide +kernel
theorem dX9_unview_23 : decode cX9_unview 23 = .ok (.iconst 0, 1) := by decide +kernel
theorem dX9_unview_24 : decode cX9_unview 24 = .ok (.iastore, 1) := by decide +kernel
theorem dX9_unview_25 : decode cX9_unview 25 = .ok (.iload_n 2, 1) := by decide +kernel
theorem dX9_unview_26 : decode cX9_unview 26 = .ok (.ireturn, 1) := by decide +kernel
theorem dX9_write_0 : decode cX9_write 0 = .ok (.iload_n 3, 1) := by decide +kernel
theorem dX9_write_1 : decode cX9_write 1 = .ok (.iconst 1, 1) := by decide +kernel
theorem dX9_write_2 : decode cX9_write 2 = .ok (.bipush 8, 2) := by decide +kernel
theorem dX9_write_4 : decode cX9_write 4 = .ok (.invokestatic 124, 3) := by decide +kernel
theorem dX9_write_7 : decode cX9_write 7 = .ok (.ifCond .ne 6, 3) := by decide +kernel
theorem dX9_write_10 : decode cX9_write 10 = .ok (.bipush (-3), 2) := by decide +kernel
theorem dX9_write_12 : decode cX9_write 12 = .ok (.ireturn, 1) := by decide +kernel
theorem dX9_write_13 : decode cX9_write 13 = .ok (.aload_n 0, 1) := by decide +kernel
theorem dX9_write_14 : decode cX9_write 14 = .ok (.getfield 254, 3) := by decide +kernel
theorem dX9_write_17 : decode cX9_write 17 = .ok (.iload_n 3, 1) := by decide +kernel
theorem dX9_write_18 : decode cX9_write 18 = .ok (.iadd, 1) := by decide +kernel
theorem dX9_write_19 : decode cX9_write 19 = .ok (.sipush 160, 3) := by decide +kernel
theorem dX9_write_22 : decode cX9_write 22 = .ok (.if_icmp .le 6, 3) := by decide +kernel
theorem dX9_write_25 : decode cX9_write 25 = .ok (.bipush (-5), 2) := by decide +kernel
theorem dX9_write_27 : decode cX9_write 27 = .ok (.ireturn, 1) := by decide +kernel
theorem dX9_write_28 : decode cX9_write 28 = .ok (.iconst 0, 1) := by decide +kernel
theorem dX9_write_29 : decode cX9_write 29 = .ok (.istore 4, 2) := by decide +kernel
theorem dX9_write_31 : decode cX9_write 31 = .ok (.iload 4, 2) := by decide +kernel
theorem dX9_write_33 : decode cX9_write 33 = .ok (.iload_n 3, 1) := by decide +kernel
theorem dX9_write_34 : decode cX9_write 34 = .ok (.if_icmp .ge 33, 3) := by decide +kernel
theorem dX9_write_37 : decode cX9_write 37 = .ok (.aload_n 0, 1) := by decide +kernel
theorem dX9_write_38 : decode cX9_write 38 = .ok (.getfield 108, 3) := by decide +kernel
theorem dX9_write_41 : decode cX9_write 41 = .ok (.aload_n 0, 1) := by decide +kernel
theorem dX9_write_42 : decode cX9_write 42 = .ok (.getfield 254, 3) := by decide +kernel
theorem dX9_write_45 : decode cX9_write 45 = .ok (.iload 4, 2) := by decide +kernel
theorem dX9_write_47 : decode cX9_write 47 = .ok (.iadd, 1) := by decide +kernel
theorem dX9_write_48 : decode cX9_write 48 = .ok (.lload_n 1, 1) := by decide +kernel
theorem dX9_write_49 : decode cX9_write 49 = .ok (.bipush 8, 2) := by decide +kernel
theorem dX9_write_51 : decode cX9_write 51 = .ok (.iload 4, 2) := by decide +kernel
theorem dX9_write_53 : decode cX9_write 53 = .ok (.imul, 1) := by decide +kernel
theorem dX9_write_54 : decode cX9_write 54 = .ok (.lshr, 1) := by decide +kernel
theorem dX9_write_55 : decode cX9_write 55 = .ok (.ldc2_w 138, 3) := by decide +kernel
theorem dX9_write_58 : decode cX9_write 58 = .ok (.land, 1) := by decide +kernel
theorem dX9_write_59 : decode cX9_write 59 = .ok (.l2i, 1) := by decide +kernel
theorem dX9_write_60 : decode cX9_write 60 = .ok (.iastore, 1) := by decide +kernel
theorem dX9_write_61 : decode cX9_write 61 = .ok (.iinc 4 1, 3) := by decide +kernel
theorem dX9_write_64 : decode cX9_write 64 = .ok (.goto (-33), 3) := by decide +kernel
theorem dX9_write_67 : decode cX9_write 67 = .ok (.aload_n 0, 1) := by decide +kernel
theorem dX9_write_68 : decode cX9_write 68 = .ok (.dup, 1) := by decide +kernel
theorem dX9_write_69 : decode cX9_write 69 = .ok (.getfield 254, 3) := by decide +kernel
theorem dX9_write_72 : decode cX9_write 72 = .ok (.iload_n 3, 1) := by decide +kernel
theorem dX9_write_73 : decode cX9_write 73 = .ok (.iadd, 1) := by decide +kernel
theorem dX9_write_74 : decode cX9_write 74 = .ok (.putfield 254, 3) := by decide +kernel
theorem dX9_write_77 : decode cX9_write 77 = .ok (.aload_n 0, 1) := by decide +kernel
theorem dX9_write_78 : decode cX9_write 78 = .ok (.getfield 254, 3) := by decide +kernel
theorem dX9_write_81 : decode cX9_write 81 = .ok (.ireturn, 1) := by decide +kernel
theorem dX9_erase_0 : decode cX9_erase 0 = .ok (.aload_n 0, 1) := by decide +kernel
theorem dX9_erase_1 : decode cX9_erase 1 = .ok (.getfield 254, 3) := by decide +kernel
theorem dX9_erase_4 : decode cX9_erase 4 = .ok (.istore_n 1, 1) := by decide +kernel
theorem dX9_erase_5 : decode cX9_erase 5 = .ok (.aload_n 0, 1) := by decide +kernel
theorem dX9_erase_6 : decode cX9_erase 6 = .ok (.iconst 0, 1) := by decide +kernel
theorem dX9_erase_7 : decode cX9_erase 7 = .ok (.putfield 254, 3) := by decide +kernel
theorem dX9_erase_10 : decode cX9_erase 10 = .ok (.iload_n 1, 1) := by decide +kernel
theorem dX9_erase_11 : decode cX9_erase 11 = .ok (.ireturn, 1) := by decide +kernel
theorem dX9_takenIn_0 : decode cX9_takenIn 0 = .ok (.iload_n 2, 1) := by decide +kernel
theorem dX9_takenIn_1 : decode cX9_takenIn 1 = .ok (.aload_n 0, 1) := by decide +kernel
theorem dX9_takenIn_2 : decode cX9_takenIn 2 = .ok (.getfield 87, 3) := by decide +kernel
theorem dX9_takenIn_5 : decode cX9_takenIn 5 = .ok (.iload_n 1, 1) := by decide +kernel
theorem dX9_takenIn_6 : decode cX9_takenIn 6 = .ok (.iaload, 1) := by decide +kernel
theorem dX9_takenIn_7 : decode cX9_takenIn 7 = .ok (.if_icmp .le 15, 3) := by decide +kernel
theorem dX9_takenIn_10 : decode cX9_takenIn 10 = .ok (.aload_n 0, 1) := by decide +kernel
theorem dX9_takenIn_11 : decode cX9_takenIn 11 = .ok (.getfield 87, 3) := by decide +kernel
theorem dX9_takenIn_14 : decode cX9_takenIn 14 = .ok (.iload_n 1, 1) := by decide +kernel
theorem dX9_takenIn_15 : decode cX9_takenIn 15 = .ok (.iload_n 2, 1) := by decide +kernel
theorem dX9_takenIn_16 : decode cX9_takenIn 16 = .ok (.iastore, 1) := by decide +kernel
theorem dX9_takenIn_17 : decode cX9_takenIn 17 = .ok (.aload_n 0, 1) := by decide +kernel
theorem dX9_takenIn_18 : decode cX9_takenIn 18 = .ok (.iconst 1, 1) := by decide +kernel
theorem dX9_takenIn_19 : decode cX9_takenIn 19 = .ok (.putfield 204, 3) := by decide +kernel
theorem dX9_takenIn_22 : decode cX9_takenIn 22 = .ok (.iload_n 3, 1) := by decide +kernel
theorem dX9_takenIn_23 : decode cX9_takenIn 23 = .ok (.aload_n 0, 1) := by decide +kernel
theorem dX9_takenIn_24 : decode cX9_takenIn 24 = .ok (.getfield 90, 3) := by decide +kernel
theorem dX9_takenIn_27 : decode cX9_takenIn 27 = .ok (.iload_n 1, 1) := by decide +kernel
theorem dX9_takenIn_28 : decode cX9_takenIn 28 = .ok (.iaload, 1) := by decide +kernel
theorem dX9_takenIn_29 : decode cX9_takenIn 29 = .ok (.if_icmp .ge 15, 3) := by decide +kernel
theorem dX9_takenIn_32 : decode cX9_takenIn 32 = .ok (.aload_n 0, 1) := by decide +kernel
theorem dX9_takenIn_33 : decode cX9_takenIn 33 = .ok (.getfield 90, 3) := by decide +kernel
theorem dX9_takenIn_36 : decode cX9_takenIn 36 = .ok (.iload_n 1, 1) := by decide +kernel
theorem dX9_takenIn_37 : decode cX9_takenIn 37 = .ok (.iload_n 3, 1) := by decide +kernel
theorem dX9_takenIn_38 : decode cX9_takenIn 38 = .ok (.iastore, 1) := by decide +kernel
theorem dX9_takenIn_39 : decode cX9_takenIn 39 = .ok (.aload_n 0, 1) := by decide +kernel
theorem dX9_takenIn_40 : decode cX9_takenIn 40 = .ok (.iconst 1, 1) := by decide +kernel
theorem dX9_takenIn_41 : decode cX9_takenIn 41 = .ok (.putfield 204, 3) := by decide +kernel
theorem dX9_takenIn_44 : decode cX9_takenIn 44 = .ok (.return_, 1) := by decide +kernel
theorem dX9_outIn_0 : decode cX9_outIn 0 = .ok (.iload_n 2, 1) := by decide +kernel
theorem dX9_outIn_1 : decode cX9_outIn 1 = .ok (.aload_n 0, 1) := by decide +kernel
theorem dX9_outIn_2 : decode cX9_outIn 2 = .ok (.getfield 93, 3) := by decide +kernel
theorem dX9_outIn_5 : decode cX9_outIn 5 = .ok (.iload_n 1, 1) := by decide +kernel
theorem dX9_outIn_6 : decode cX9_outIn 6 = .ok (.iaload, 1) := by decide +kernel
theorem dX9_outIn_7 : decode cX9_outIn 7 = .ok (.if_icmp .le 15, 3) := by decide +kernel
theorem dX9_outIn_10 : decode cX9_outIn 10 = .ok (.aload_n 0, 1) := by decide +kernel
theorem dX9_outIn_11 : decode cX9_outIn 11 = .ok (.getfield 93, 3) := by decide +kernel
theorem dX9_outIn_14 : decode cX9_outIn 14 = .ok (.iload_n 1, 1) := by decide +kernel
theorem dX9_outIn_15 : decode cX9_outIn 15 = .ok (.iload_n 2, 1) := by decide +kernel
theorem dX9_outIn_16 : decode cX9_outIn 16 = .ok (.iastore, 1) := by decide +kernel
theorem dX9_outIn_17 : decode cX9_outIn 17 = .ok (.aload_n 0, 1) := by decide +kernel
theorem dX9_outIn_18 : decode cX9_outIn 18 = .ok (.iconst 1, 1) := by decide +kernel
theorem dX9_outIn_19 : decode cX9_outIn 19 = .ok (.putfield 204, 3) := by decide +kernel
theorem dX9_outIn_22 : decode cX9_outIn 22 = .ok (.iload_n 3, 1) := by decide +kernel
theorem dX9_outIn_23 : decode cX9_outIn 23 = .ok (.aload_n 0, 1) := by decide +kernel
theorem dX9_outIn_24 : decode cX9_outIn 24 = .ok (.getfield 96, 3) := by decide +kernel
theorem dX9_outIn_27 : decode cX9_outIn 27 = .ok (.iload_n 1, 1) := by decide +kernel
theorem dX9_outIn_28 : decode cX9_outIn 28 = .ok (.iaload, 1) := by decide +kernel
theorem dX9_outIn_29 : decode cX9_outIn 29 = .ok (.if_icmp .ge 15, 3) := by decide +kernel
theorem dX9_outIn_32 : decode cX9_outIn 32 = .ok (.aload_n 0, 1) := by decide +kernel
theorem dX9_outIn_33 : decode cX9_outIn 33 = .ok (.getfield 96, 3) := by decide +kernel
theorem dX9_outIn_36 : decode cX9_outIn 36 = .ok (.iload_n 1, 1) := by decide +kernel
theorem dX9_outIn_37 : decode cX9_outIn 37 = .ok (.iload_n 3, 1) := by decide +kernel
theorem dX9_outIn_38 : decode cX9_outIn 38 = .ok (.iastore, 1) := by decide +kernel
theorem dX9_outIn_39 : decode cX9_outIn 39 = .ok (.aload_n 0, 1) := by decide +kernel
theorem dX9_outIn_40 : decode cX9_outIn 40 = .ok (.iconst 1, 1) := by decide +kernel
theorem dX9_outIn_41 : decode cX9_outIn 41 = .ok (.putfield 204, 3) := by decide +kernel
theorem dX9_outIn_44 : decode cX9_outIn 44 = .ok (.return_, 1) := by decide +kernel
theorem dX9_isOf_0 : decode cX9_isOf 0 = .ok (.aload_n 0, 1) := by decide +kernel
theorem dX9_isOf_1 : decode cX9_isOf 1 = .ok (.getfield 114, 3) := by decide +kernel
theorem dX9_isOf_4 : decode cX9_isOf 4 = .ok (.iload_n 2, 1) := by decide +kernel
theorem dX9_isOf_5 : decode cX9_isOf 5 = .ok (.iaload, 1) := by decide +kernel
theorem dX9_isOf_6 : decode cX9_isOf 6 = .ok (.aload_n 0, 1) := by decide +kernel
theorem dX9_isOf_7 : decode cX9_isOf 7 = .ok (.getfield 13, 3) := by decide +kernel
theorem dX9_isOf_10 : decode cX9_isOf 10 = .ok (.iload_n 1, 1) := by decide +kernel
theorem dX9_isOf_11 : decode cX9_isOf 11 = .ok (.iaload, 1) := by decide +kernel
theorem dX9_isOf_12 : decode cX9_isOf 12 = .ok (.if_icmp .ne 35, 3) := by decide +kernel
theorem dX9_isOf_15 : decode cX9_isOf 15 = .ok (.aload_n 0, 1) := by decide +kernel
theorem dX9_isOf_16 : decode cX9_isOf 16 = .ok (.getfield 16, 3) := by decide +kernel
theorem dX9_isOf_19 : decode cX9_isOf 19 = .ok (.iload_n 1, 1) := by decide +kernel
theorem dX9_isOf_20 : decode cX9_isOf 20 = .ok (.iaload, 1) := by decide +kernel
theorem dX9_isOf_21 : decode cX9_isOf 21 = .ok (.aload_n 0, 1) := by decide +kernel
theorem dX9_isOf_22 : decode cX9_isOf 22 = .ok (.getfield 114, 3) := by decide +kernel
theorem dX9_isOf_25 : decode cX9_isOf 25 = .ok (.iload_n 2, 1) := by decide +kernel
theorem dX9_isOf_26 : decode cX9_isOf 26 = .ok (.iconst 1, 1) := by decide +kernel
theorem dX9_isOf_27 : decode cX9_isOf 27 = .ok (.iadd, 1) := by decide +kernel
theorem dX9_isOf_28 : decode cX9_isOf 28 = .ok (.iaload, 1) := by decide +kernel
theorem dX9_isOf_29 : decode cX9_isOf 29 = .ok (.aload_n 0, 1) := by decide +kernel
theorem dX9_isOf_30 : decode cX9_isOf 30 = .ok (.getfield 114, 3) := by decide +kernel
theorem dX9_isOf_33 : decode cX9_isOf 33 = .ok (.iload_n 2, 1) := by decide +kernel
theorem dX9_isOf_34 : decode cX9_isOf 34 = .ok (.iconst 2, 1) := by decide +kernel
theorem dX9_isOf_35 : decode cX9_isOf 35 = .ok (.iadd, 1) := by decide +kernel
theorem dX9_isOf_36 : decode cX9_isOf 36 = .ok (.iaload, 1) := by decide +kernel
theorem dX9_isOf_37 : decode cX9_isOf 37 = .ok (.invokestatic 124, 3) := by decide +kernel
theorem dX9_isOf_40 : decode cX9_isOf 40 = .ok (.ifCond .eq 7, 3) := by decide +kernel
theorem dX9_isOf_43 : decode cX9_isOf 43 = .ok (.iconst 1, 1) := by decide +kernel
theorem dX9_isOf_44 : decode cX9_isOf 44 = .ok (.goto 4, 3) := by decide +kernel
theorem dX9_isOf_47 : decode cX9_isOf 47 = .ok (.iconst 0, 1) := by decide +kernel
theorem dX9_isOf_48 : decode cX9_isOf 48 = .ok (.ireturn, 1) := by decide +kernel
set_option maxRecDepth 100000 in
set_option maxHeartbeats 40000000 in
theorem gx_X9_isOf {G : vG} {l : Launch} (σ : Sg) (c k : Int32) (hI : Inv σ) (hc : inR c 0 19) (hk : inR k 0 42) : Sp G l yX9_isOf cX9_isOf 3 (some .boolean) 1 0 0 [.ref 140, .int c, .int k] (WW σ) (QI (fun x w2 => w2 = WW σ)) := by
  refine Sp_of_R [(some (.ref 140)), (some (.int c)), (some (.int k))] [] rfl (by simp) rfl (Nat.le_of_ble_eq_true rfl) ?_
  refine R_aload_n (pc := 0) dX9_isOf_0 rfl rfl ?_
  refine g_X9_114 (pc := 1) (v := .ref 172) rfl dX9_isOf_1 (c_140 _) rfl ?_
  refine R_iload_n (pc := 4) dX9_isOf_4 rfl rfl ?_
  have hx1 : vp_in k 48 := (vp_of_inR hk (by decide))
  refine R_iaload (pc := 5) dX9_isOf_5 (c_172 _) hx1 ?_
  refine R_aload_n (pc := 6) dX9_isOf_6 rfl rfl ?_
  refine g_X9_13 (pc := 7) (v := .ref 142) rfl dX9_isOf_7 (c_140 _) rfl ?_
  refine R_iload_n (pc := 10) dX9_isOf_10 rfl rfl ?_
  have hx2 : vp_in c 20 := (vp_of_inR hc (by decide))
  refine R_iaload (pc := 11) dX9_isOf_11 (c_142 _) hx2 ?_
  refine R_icne (pc := 12) 47 dX9_isOf_12 (by decide) (fun b12_3 => ?_) (fun b12_3 => ?_)
  · skip
    refine R_iconst (pc := 47) (v := 0) dX9_isOf_47 (by decide) ?_
    exact R_iret (pc := 48) dX9_isOf_48 rfl rfl (Nat.zero_le _) (Nat.zero_le _) ⟨_, rfl, rfl⟩
  · skip
    refine R_aload_n (pc := 15) dX9_isOf_15 rfl rfl ?_
    refine g_X9_16 (pc := 16) (v := .ref 143) rfl dX9_isOf_16 (c_140 _) rfl ?_
    refine R_iload_n (pc := 19) dX9_isOf_19 rfl rfl ?_
    have hx4 : vp_in c 20 := (vp_of_inR hc (by decide))
    refine R_iaload (pc := 20) dX9_isOf_20 (c_143 _) hx4 ?_
    refine R_aload_n (pc := 21) dX9_isOf_21 rfl rfl ?_
    refine g_X9_114 (pc := 22) (v := .ref 172) rfl dX9_isOf_22 (c_140 _) rfl ?_
    refine R_iload_n (pc := 25) dX9_isOf_25 rfl rfl ?_
    refine R_iconst (pc := 26) (v := 1) dX9_isOf_26 (by decide) ?_
    refine R_iadd (pc := 27) dX9_isOf_27 ?_
    have r5 : inR (k + 1) 1 43 := inR_add (show inR k 0 42 from hk) (show inR 1 1 1 from (inR_self _)) (by decide) (by decide)
    have e6 := ti_add (l := 1) (h := 43) (show inR k 0 42 from hk) (show inR 1 1 1 from (inR_self _)) (by decide) (by decide)
    have hx7 : vp_in (k + 1) 48 := (vp_ti (by have q0 := e6; have q1 := ti_eq b12_3; have q2 := ti_in hc; have q3 := ti_in hk; have q4 := ti_in r5; have z0 : (0 : Int32).toInt = 0 := (by decide); have z1 : (1 : Int32).toInt = 1 := (by decide); have z2 : (142 : Int32).toInt = 142 := (by decide); have z3 : (172 : Int32).toInt = 172 := (by decide); have z4 : (19 : Int32).toInt = 19 := (by decide); have z5 : (42 : Int32).toInt = 42 := (by decide); have z6 : (43 : Int32).toInt = 43 := (by decide); omega) (by have q0 := e6; have q1 := ti_eq b12_3; have q2 := ti_in hc; have q3 := ti_in hk; have q4 := ti_in r5; have z0 : (0 : Int32).toInt = 0 := (by decide); have z1 : (1 : Int32).toInt = 1 := (by decide); have z2 : (142 : Int32).toInt = 142 := (by decide); have z3 : (172 : Int32).toInt = 172 := (by decide); have z4 : (19 : Int32).toInt = 19 := (by decide); have z5 : (42 : Int32).toInt = 42 := (by decide); have z6 : (43 : Int32).toInt = 43 := (by decide); omega))
    refine R_iaload (pc := 28) dX9_isOf_28 (c_172 _) hx7 ?_
    refine R_aload_n (pc := 29) dX9_isOf_29 rfl rfl ?_
    refine g_X9_114 (pc := 30) (v := .ref 172) rfl dX9_isOf_30 (c_140 _) rfl ?_
    refine R_iload_n (pc := 33) dX9_isOf_33 rfl rfl ?_
    refine R_iconst (pc := 34) (v := 2) dX9_isOf_34 (by decide) ?_
    refine R_iadd (pc := 35) dX9_isOf_35 ?_
    have r8 : inR (k + 2) 2 44 := inR_add (show inR k 0 42 from hk) (show inR 2 2 2 from (inR_self _)) (by decide) (by decide)
    have e9 := ti_add (l := 2) (h := 44) (show inR k 0 42 from hk) (show inR 2 2 2 from (inR_self _)) (by decide) (by decide)
    have hx10 : vp_in (k + 2) 48 := (vp_ti (by have q0 := e6; have q1 := e9; have q2 := ti_eq b12_3; have q3 := ti_in hc; have q4 := ti_in hk; have q5 := ti_in r5; have q6 := ti_in r8; have z0 : (0 : Int32).toInt = 0 := (by decide); have z1 : (1 : Int32).toInt = 1 := (by decide); have z2 : (142 : Int32).toInt = 142 := (by decide); have z3 : (172 : Int32).toInt = 172 := (by decide); have z4 : (19 : Int32).toInt = 19 := (by decide); have z5 : (2 : Int32).toInt = 2 := (by decide); have z6 : (42 : Int32).toInt = 42 := (by decide); have z7 : (43 : Int32).toInt = 43 := (by decide); have z8 : (44 : Int32).toInt = 44 := (by decide); omega) (by have q0 := e6; have q1 := e9; have q2 := ti_eq b12_3; have q3 := ti_in hc; have q4 := ti_in hk; have q5 := ti_in r5; have q6 := ti_in r8; have z0 : (0 : Int32).toInt = 0 := (by decide); have z1 : (1 : Int32).toInt = 1 := (by decide); have z2 : (142 : Int32).toInt = 142 := (by decide); have z3 : (172 : Int32).toInt = 172 := (by decide); have z4 : (19 : Int32).toInt = 19 := (by decide); have z5 : (2 : Int32).toInt = 2 := (by decide); have z6 : (42 : Int32).toInt = 42 := (by decide); have z7 : (43 : Int32).toInt = 43 := (by decide); have z8 : (44 : Int32).toInt = 44 := (by decide); omega))
    refine R_iaload (pc := 36) dX9_isOf_36 (c_172 _) hx10 ?_
    refine k_X9_124 (pc := 37) (sp_X9_in _ _ _ _) rfl (by decide) (Nat.le_refl _) (Nat.le_refl _) (Nat.le_of_ble_eq_true rfl) dX9_isOf_37 (fun x w2 h => ?_)
    rcases h with ⟨rfl, ⟨h11, rfl⟩ | ⟨h11, rfl⟩⟩
    · skip
      refine R_ifeq (pc := 40) 47 dX9_isOf_40 (by decide) (fun h => absurd h (by decide)) (fun _ => ?_)
      refine R_iconst (pc := 43) (v := 1) dX9_isOf_43 (by decide) ?_
      refine R_goto (pc := 44) 48 dX9_isOf_44 (by decide) ?_
      exact R_iret (pc := 48) dX9_isOf_48 rfl rfl (Nat.zero_le _) (Nat.zero_le _) ⟨_, rfl, rfl⟩
    · skip
      refine R_ifeq (pc := 40) 47 dX9_isOf_40 (by decide) (fun _ => ?_) (fun h => absurd (by decide) h)
      refine R_iconst (pc := 47) (v := 0) dX9_isOf_47 (by decide) ?_
      exact R_iret (pc := 48) dX9_isOf_48 rfl rfl (Nat.zero_le _) (Nat.zero_le _) ⟨_, rfl, rfl⟩
theorem dX9_narrow_0 : decode cX9_narrow 0 = .ok (.aload_n 0, 1) := by decide +kernel
theorem dX9_narrow_1 : decode cX9_narrow 1 = .ok (.getfield 54, 3) := by decide +kernel
theorem dX9_narrow_4 : decode cX9_narrow 4 = .ok (.iload_n 1, 1) := by decide +kernel
theorem dX9_narrow_5 : decode cX9_narrow 5 = .ok (.iaload, 1) := by decide +kernel
theorem dX9_narrow_6 : decode cX9_narrow 6 = .ok (.istore_n 3, 1) := by decide +kernel
theorem dX9_narrow_7 : decode cX9_narrow 7 = .ok (.iconst 0, 1) := by decide +kernel
theorem dX9_narrow_8 : decode cX9_narrow 8 = .ok (.istore 4, 2) := by decide +kernel
theorem dX9_narrow_10 : decode cX9_narrow 10 = .ok (.iload 4, 2) := by decide +kernel
theorem dX9_narrow_12 : decode cX9_narrow 12 = .ok (.bipush 8, 2) := by decide +kernel
theorem dX9_narrow_14 : decode cX9_narrow 14 = .ok (.if_icmp .ge 153, 3) := by decide +kernel
theorem dX9_narrow_17 : decode cX9_narrow 17 = .ok (.aload_n 0, 1) := by decide +kernel
theorem dX9_narrow_18 : decode cX9_narrow 18 = .ok (.getfield 72, 3) := by decide +kernel
theorem dX9_narrow_21 : decode cX9_narrow 21 = .ok (.bipush 8, 2) := by decide +kernel
theorem dX9_narrow_23 : decode cX9_narrow 23 = .ok (.iload_n 1, 1) := by decide +kernel
theorem dX9_narrow_24 : decode cX9_narrow 24 = .ok (.imul, 1) := by decide +kernel
theorem dX9_narrow_25 : decode cX9_narrow 25 = .ok (.iload 4, 2) := by decide +kernel
theorem dX9_narrow_27 : decode cX9_narrow 27 = .ok (.iadd, 1) := by decide +kernel
theorem dX9_narrow_28 : decode cX9_narrow 28 = .ok (.iaload, 1) := by decide +kernel
theorem dX9_narrow_29 : decode cX9_narrow 29 = .ok (.iconst 1, 1) := by decide +kernel
theorem dX9_narrow_30 : decode cX9_narrow 30 = .ok (.if_icmp .ne 22, 3) := by decide +kernel
theorem dX9_narrow_33 : decode cX9_narrow 33 = .ok (.aload_n 0, 1) := by decide +kernel
theorem dX9_narrow_34 : decode cX9_narrow 34 = .ok (.iload_n 3, 1) := by decide +kernel
theorem dX9_narrow_35 : decode cX9_narrow 35 = .ok (.aload_n 0, 1) := by decide +kernel
theorem dX9_narrow_36 : decode cX9_narrow 36 = .ok (.getfield 66, 3) := by decide +kernel
theorem dX9_narrow_39 : decode cX9_narrow 39 = .ok (.iload 4, 2) := by decide +kernel
theorem dX9_narrow_41 : decode cX9_narrow 41 = .ok (.iaload, 1) := by decide +kernel
theorem dX9_narrow_42 : decode cX9_narrow 42 = .ok (.aload_n 0, 1) := by decide +kernel
theorem dX9_narrow_43 : decode cX9_narrow 43 = .ok (.getfield 69, 3) := by decide +kernel
theorem dX9_narrow_46 : decode cX9_narrow 46 = .ok (.iload 4, 2) := by decide +kernel
theorem dX9_narrow_48 : decode cX9_narrow 48 = .ok (.iaload, 1) := by decide +kernel
theorem dX9_narrow_49 : decode cX9_narrow 49 = .ok (.invokevirtual 208, 3) := by decide +kernel
theorem dX9_narrow_52 : decode cX9_narrow 52 = .ok (.aload_n 0, 1) := by decide +kernel
theorem dX9_narrow_53 : decode cX9_narrow 53 = .ok (.getfield 72, 3) := by decide +kernel
theorem dX9_narrow_56 : decode cX9_narrow 56 = .ok (.bipush 8, 2) := by decide +kernel
theorem dX9_narrow_58 : decode cX9_narrow 58 = .ok (.iload_n 1, 1) := by decide +kernel
theorem dX9_narrow_59 : decode cX9_narrow 59 = .ok (.imul, 1) := by decide +kernel
theorem dX9_narrow_60 : decode cX9_narrow 60 = .ok (.iload 4, 2) := by decide +kernel
theorem dX9_narrow_62 : decode cX9_narrow 62 = .ok (.iadd, 1) := by decide +kernel
theorem dX9_narrow_63 : decode cX9_narrow 63 = .ok (.iaload, 1) := by decide +kernel
theorem dX9_narrow_64 : decode cX9_narrow 64 = .ok (.ifCond .ne 97, 3) := by decide +kernel
theorem dX9_narrow_67 : decode cX9_narrow 67 = .ok (.aload_n 0, 1) := by decide +kernel
theorem dX9_narrow_68 : decode cX9_narrow 68 = .ok (.iload_n 3, 1) := by decide +kernel
theorem dX9_narrow_69 : decode cX9_narrow 69 = .ok (.aload_n 0, 1) := by decide +kernel
theorem dX9_narrow_70 : decode cX9_narrow 70 = .ok (.getfield 87, 3) := by decide +kernel
theorem dX9_narrow_73 : decode cX9_narrow 73 = .ok (.iload_n 3, 1) := by decide +kernel
theorem dX9_narrow_74 : decode cX9_narrow 74 = .ok (.iaload, 1) := by decide +kernel
theorem dX9_narrow_75 : decode cX9_narrow 75 = .ok (.aload_n 0, 1) := by decide +kernel
theorem dX9_narrow_76 : decode cX9_narrow 76 = .ok (.getfield 66, 3) := by decide +kernel
theorem dX9_narrow_79 : decode cX9_narrow 79 = .ok (.iload 4, 2) := by decide +kernel
theorem dX9_narrow_81 : decode cX9_narrow 81 = .ok (.iaload, 1) := by decide +kernel
theorem dX9_narrow_82 : decode cX9_narrow 82 = .ok (.aload_n 0, 1) := by decide +kernel
theorem dX9_narrow_83 : decode cX9_narrow 83 = .ok (.getfield 69, 3) := by decide +kernel
theorem dX9_narrow_86 : decode cX9_narrow 86 = .ok (.iload 4, 2) := by decide +kernel
theorem dX9_narrow_88 : decode cX9_narrow 88 = .ok (.iaload, 1) := by decide +kernel
theorem dX9_narrow_89 : decode cX9_narrow 89 = .ok (.invokestatic 124, 3) := by decide +kernel
theorem dX9_narrow_92 : decode cX9_narrow 92 = .ok (.ifCond .eq 15, 3) := by decide +kernel
theorem dX9_narrow_95 : decode cX9_narrow 95 = .ok (.aload_n 0, 1) := by decide +kernel
theorem dX9_narrow_96 : decode cX9_narrow 96 = .ok (.getfield 69, 3) := by decide +kernel
theorem dX9_narrow_99 : decode cX9_narrow 99 = .ok (.iload 4, 2) := by decide +kernel
theorem dX9_narrow_101 : decode cX9_narrow 101 = .ok (.iaload, 1) := by decide +kernel
theorem dX9_narrow_102 : decode cX9_narrow 102 = .ok (.iconst 1, 1) := by decide +kernel
theorem dX9_narrow_103 : decode cX9_narrow 103 = .ok (.iadd, 1) := by decide +kernel
theorem dX9_narrow_104 : decode cX9_narrow 104 = .ok (.goto 4, 3) := by decide +kernel
theorem dX9_narrow_107 : decode cX9_narrow 107 = .ok (.iconst 0, 1) := by decide +kernel
theorem dX9_narrow_108 : decode cX9_narrow 108 = .ok (.sipush 20000, 3) := by decide +kernel
theorem dX9_narrow_111 : decode cX9_narrow 111 = .ok (.invokevirtual 208, 3) := by decide +kernel
theorem dX9_narrow_114 : decode cX9_narrow 114 = .ok (.aload_n 0, 1) := by decide +kernel
theorem dX9_narrow_115 : decode cX9_narrow 115 = .ok (.iload_n 3, 1) := by decide +kernel
theorem dX9_narrow_116 : decode cX9_narrow 116 = .ok (.iconst 0, 1) := by decide +kernel
theorem dX9_narrow_117 : decode cX9_narrow 117 = .ok (.aload_n 0, 1) := by decide +kernel
theorem dX9_narrow_118 : decode cX9_narrow 118 = .ok (.getfield 90, 3) := by decide +kernel
theorem dX9_narrow_121 : decode cX9_narrow 121 = .ok (.iload_n 3, 1) := by decide +kernel
theorem dX9_narrow_122 : decode cX9_narrow 122 = .ok (.iaload, 1) := by decide +kernel
theorem dX9_narrow_123 : decode cX9_narrow 123 = .ok (.aload_n 0, 1) := by decide +kernel
theorem dX9_narrow_124 : decode cX9_narrow 124 = .ok (.getfield 66, 3) := by decide +kernel
theorem dX9_narrow_127 : decode cX9_narrow 127 = .ok (.iload 4, 2) := by decide +kernel
theorem dX9_narrow_129 : decode cX9_narrow 129 = .ok (.iaload, 1) := by decide +kernel
theorem dX9_narrow_130 : decode cX9_narrow 130 = .ok (.aload_n 0, 1) := by decide +kernel
theorem dX9_narrow_131 : decode cX9_narrow 131 = .ok (.getfield 69, 3) := by decide +kernel
theorem dX9_narrow_134 : decode cX9_narrow 134 = .ok (.iload 4, 2) := by decide +kernel
theorem dX9_narrow_136 : decode cX9_narrow 136 = .ok (.iaload, 1) := by decide +kernel
theorem dX9_narrow_137 : decode cX9_narrow 137 = .ok (.invokestatic 124, 3) := by decide +kernel
theorem dX9_narrow_140 : decode cX9_narrow 140 = .ok (.ifCond .eq 15, 3) := by decide +kernel
theorem dX9_narrow_143 : decode cX9_narrow 143 = .ok (.aload_n 0, 1) := by decide +kernel
theorem dX9_narrow_144 : decode cX9_narrow 144 = .ok (.getfield 66, 3) := by decide +kernel
theorem dX9_narrow_147 : decode cX9_narrow 147 = .ok (.iload 4, 2) := by decide +kernel
theorem dX9_narrow_149 : decode cX9_narrow 149 = .ok (.iaload, 1) := by decide +kernel
theorem dX9_narrow_150 : decode cX9_narrow 150 = .ok (.iconst 1, 1) := by decide +kernel
theorem dX9_narrow_151 : decode cX9_narrow 151 = .ok (.isub, 1) := by decide +kernel
theorem dX9_narrow_152 : decode cX9_narrow 152 = .ok (.goto 6, 3) := by decide +kernel
theorem dX9_narrow_155 : decode cX9_narrow 155 = .ok (.sipush 20000, 3) := by decide +kernel
theorem dX9_narrow_158 : decode cX9_narrow 158 = .ok (.invokevirtual 208, 3) := by decide +kernel
theorem dX9_narrow_161 : decode cX9_narrow 161 = .ok (.iinc 4 1, 3) := by decide +kernel
theorem dX9_narrow_164 : decode cX9_narrow 164 = .ok (.goto (-154), 3) := by decide +kernel
theorem dX9_narrow_167 : decode cX9_narrow 167 = .ok (.aload_n 0, 1) := by decide +kernel
theorem dX9_narrow_168 : decode cX9_narrow 168 = .ok (.iload_n 1, 1) := by decide +kernel
theorem dX9_narrow_169 : decode cX9_narrow 169 = .ok (.aload_n 0, 1) := by decide +kernel
theorem dX9_narrow_170 : decode cX9_narrow 170 = .ok (.getfield 75, 3) := by decide +kernel
theorem dX9_narrow_173 : decode cX9_narrow 173 = .ok (.aload_n 0, 1) := by decide +kernel
theorem dX9_narrow_174 : decode cX9_narrow 174 = .ok (.getfield 19, 3) := by decide +kernel
theorem dX9_narrow_177 : decode cX9_narrow 177 = .ok (.iload_n 1, 1) := by decide +kernel
theorem dX9_narrow_178 : decode cX9_narrow 178 = .ok (.iaload, 1) := by decide +kernel
theorem dX9_narrow_179 : decode cX9_narrow 179 = .ok (.iaload, 1) := by decide +kernel
theorem dX9_narrow_180 : decode cX9_narrow 180 = .ok (.aload_n 0, 1) := by decide +kernel
theorem dX9_narrow_181 : decode cX9_narrow 181 = .ok (.getfield 78, 3) := by decide +kernel
theorem dX9_narrow_184 : decode cX9_narrow 184 = .ok (.aload_n 0, 1) := by decide +kernel
theorem dX9_narrow_185 : decode cX9_narrow 185 = .ok (.getfield 19, 3) := by decide +kernel
theorem dX9_narrow_188 : decode cX9_narrow 188 = .ok (.iload_n 1, 1) := by decide +kernel
theorem dX9_narrow_189 : decode cX9_narrow 189 = .ok (.iaload, 1) := by decide +kernel
theorem dX9_narrow_190 : decode cX9_narrow 190 = .ok (.iaload, 1) := by decide +kernel
theorem dX9_narrow_191 : decode cX9_narrow 191 = .ok (.invokevirtual 212, 3) := by decide +kernel
theorem dX9_narrow_194 : decode cX9_narrow 194 = .ok (.aload_n 0, 1) := by decide +kernel
theorem dX9_narrow_195 : decode cX9_narrow 195 = .ok (.iload_n 1, 1) := by decide +kernel
theorem dX9_narrow_196 : decode cX9_narrow 196 = .ok (.aload_n 0, 1) := by decide +kernel
theorem dX9_narrow_197 : decode cX9_narrow 197 = .ok (.getfield 87, 3) := by decide +kernel
theorem dX9_narrow_200 : decode cX9_narrow 200 = .ok (.iload_n 3, 1) := by decide +kernel
theorem dX9_narrow_201 : decode cX9_narrow 201 = .ok (.iaload, 1) := by decide +kernel
theorem dX9_narrow_202 : decode cX9_narrow 202 = .ok (.aload_n 0, 1) := by decide +kernel
theorem dX9_narrow_203 : decode cX9_narrow 203 = .ok (.getfield 29, 3) := by decide +kernel
theorem dX9_narrow_206 : decode cX9_narrow 206 = .ok (.iload_n 1, 1) := by decide +kernel
theorem dX9_narrow_207 : decode cX9_narrow 207 = .ok (.iaload, 1) := by decide +kernel
theorem dX9_narrow_208 : decode cX9_narrow 208 = .ok (.iconst (-1), 1) := by decide +kernel
theorem dX9_narrow_209 : decode cX9_narrow 209 = .ok (.if_icmp .ne 9, 3) := by decide +kernel
theorem dX9_narrow_212 : decode cX9_narrow 212 = .ok (.sipush 20000, 3) := by decide +kernel
theorem dX9_narrow_215 : decode cX9_narrow 215 = .ok (.goto 9, 3) := by decide +kernel
theorem dX9_narrow_218 : decode cX9_narrow 218 = .ok (.aload_n 0, 1) := by decide +kernel
theorem dX9_narrow_219 : decode cX9_narrow 219 = .ok (.getfield 29, 3) := by decide +kernel
theorem dX9_narrow_222 : decode cX9_narrow 222 = .ok (.iload_n 1, 1) := by decide +kernel
theorem dX9_narrow_223 : decode cX9_narrow 223 = .ok (.iaload, 1) := by decide +kernel
theorem dX9_narrow_224 : decode cX9_narrow 224 = .ok (.invokevirtual 212, 3) := by decide +kernel
theorem dX9_narrow_227 : decode cX9_narrow 227 = .ok (.aload_n 0, 1) := by decide +kernel
theorem dX9_narrow_228 : decode cX9_narrow 228 = .ok (.iload_n 3, 1) := by decide +kernel
theorem dX9_narrow_229 : decode cX9_narrow 229 = .ok (.iconst 0, 1) := by decide +kernel
theorem dX9_narrow_230 : decode cX9_narrow 230 = .ok (.aload_n 0, 1) := by decide +kernel
theorem dX9_narrow_231 : decode cX9_narrow 231 = .ok (.getfield 96, 3) := by decide +kernel
theorem dX9_narrow_234 : decode cX9_narrow 234 = .ok (.iload_n 1, 1) := by decide +kernel
theorem dX9_narrow_235 : decode cX9_narrow 235 = .ok (.iaload, 1) := by decide +kernel
theorem dX9_narrow_236 : decode cX9_narrow 236 = .ok (.invokevirtual 208, 3) := by decide +kernel
theorem dX9_narrow_239 : decode cX9_narrow 239 = .ok (.iconst 0, 1) := by decide +kernel
theorem dX9_narrow_240 : decode cX9_narrow 240 = .ok (.istore 4, 2) := by decide +kernel
theorem dX9_narrow_242 : decode cX9_narrow 242 = .ok (.iload 4, 2) := by decide +kernel
theorem dX9_narrow_244 : decode cX9_narrow 244 = .ok (.aload_n 0, 1) := by decide +kernel
theorem dX9_narrow_245 : decode cX9_narrow 245 = .ok (.getfield 215, 3) := by decide +kernel
theorem dX9_narrow_248 : decode cX9_narrow 248 = .ok (.if_icmp .ge 71, 3) := by decide +kernel
theorem dX9_narrow_251 : decode cX9_narrow 251 = .ok (.iload_n 2, 1) := by decide +kernel
theorem dX9_narrow_252 : decode cX9_narrow 252 = .ok (.ifCond .eq 67, 3) := by decide +kernel
theorem dX9_narrow_255 : decode cX9_narrow 255 = .ok (.aload_n 0, 1) := by decide +kernel
theorem dX9_narrow_256 : decode cX9_narrow 256 = .ok (.getfield 114, 3) := by decide +kernel
theorem dX9_narrow_259 : decode cX9_narrow 259 = .ok (.bipush 6, 2) := by decide +kernel
theorem dX9_narrow_261 : decode cX9_narrow 261 = .ok (.iload 4, 2) := by decide +kernel
theorem dX9_narrow_263 : decode cX9_narrow 263 = .ok (.imul, 1) := by decide +kernel
theorem dX9_narrow_264 : decode cX9_narrow 264 = .ok (.iconst 3, 1) := by decide +kernel
theorem dX9_narrow_265 : decode cX9_narrow 265 = .ok (.iadd, 1) := by decide +kernel
theorem dX9_narrow_266 : decode cX9_narrow 266 = .ok (.iaload, 1) := by decide +kernel
theorem dX9_narrow_267 : decode cX9_narrow 267 = .ok (.iconst 1, 1) := by decide +kernel
theorem dX9_narrow_268 : decode cX9_narrow 268 = .ok (.if_icmp .ne 45, 3) := by decide +kernel
theorem dX9_narrow_271 : decode cX9_narrow 271 = .ok (.aload_n 0, 1) := by decide +kernel
theorem dX9_narrow_272 : decode cX9_narrow 272 = .ok (.iload_n 1, 1) := by decide +kernel
theorem dX9_narrow_273 : decode cX9_narrow 273 = .ok (.bipush 6, 2) := by decide +kernel
theorem dX9_narrow_275 : decode cX9_narrow 275 = .ok (.iload 4, 2) := by decide +kernel
theorem dX9_narrow_277 : decode cX9_narrow 277 = .ok (.imul, 1) := by decide +kernel
theorem dX9_narrow_278 : decode cX9_narrow 278 = .ok (.invokevirtual 218, 3) := by decide +kernel
theorem dX9_narrow_281 : decode cX9_narrow 281 = .ok (.ifCond .eq 32, 3) := by decide +kernel
theorem dX9_narrow_284 : decode cX9_narrow 284 = .ok (.aload_n 0, 1) := by decide +kernel
theorem dX9_narrow_285 : decode cX9_narrow 285 = .ok (.iload_n 1, 1) := by decide +kernel
theorem dX9_narrow_286 : decode cX9_narrow 286 = .ok (.aload_n 0, 1) := by decide +kernel
theorem dX9_narrow_287 : decode cX9_narrow 287 = .ok (.getfield 114, 3) := by decide +kernel
theorem dX9_narrow_290 : decode cX9_narrow 290 = .ok (.bipush 6, 2) := by decide +kernel
theorem dX9_narrow_292 : decode cX9_narrow 292 = .ok (.iload 4, 2) := by decide +kernel
theorem dX9_narrow_294 : decode cX9_narrow 294 = .ok (.imul, 1) := by decide +kernel
theorem dX9_narrow_295 : decode cX9_narrow 295 = .ok (.iconst 4, 1) := by decide +kernel
theorem dX9_narrow_296 : decode cX9_narrow 296 = .ok (.iadd, 1) := by decide +kernel
theorem dX9_narrow_297 : decode cX9_narrow 297 = .ok (.iaload, 1) := by decide +kernel
theorem dX9_narrow_298 : decode cX9_narrow 298 = .ok (.aload_n 0, 1) := by decide +kernel
theorem dX9_narrow_299 : decode cX9_narrow 299 = .ok (.getfield 114, 3) := by decide +kernel
theorem dX9_narrow_302 : decode cX9_narrow 302 = .ok (.bipush 6, 2) := by decide +kernel
theorem dX9_narrow_304 : decode cX9_narrow 304 = .ok (.iload 4, 2) := by decide +kernel
theorem dX9_narrow_306 : decode cX9_narrow 306 = .ok (.imul, 1) := by decide +kernel
theorem dX9_narrow_307 : decode cX9_narrow 307 = .ok (.iconst 5, 1) := by decide +kernel
theorem dX9_narrow_308 : decode cX9_narrow 308 = .ok (.iadd, 1) := by decide +kernel
theorem dX9_narrow_309 : decode cX9_narrow 309 = .ok (.iaload, 1) := by decide +kernel
theorem dX9_narrow_310 : decode cX9_narrow 310 = .ok (.invokevirtual 212, 3) := by decide +kernel
theorem dX9_narrow_313 : decode cX9_narrow 313 = .ok (.iinc 4 1, 3) := by decide +kernel
theorem dX9_narrow_316 : decode cX9_narrow 316 = .ok (.goto (-74), 3) := by decide +kernel
theorem dX9_narrow_319 : decode cX9_narrow 319 = .ok (.return_, 1) := by decide +kernel
theorem dX9_isEmpty_0 : decode cX9_isEmpty 0 = .ok (.iconst 0, 1) := by decide +kernel
theorem dX9_isEmpty_1 : decode cX9_isEmpty 1 = .ok (.istore_n 2, 1) := by decide +kernel
theorem dX9_isEmpty_2 : decode cX9_isEmpty 2 = .ok (.iconst 0, 1) := by decide +kernel
theorem dX9_isEmpty_3 : decode cX9_isEmpty 3 = .ok (.istore_n 3, 1) := by decide +kernel
theorem dX9_isEmpty_4 : decode cX9_isEmpty 4 = .ok (.iload_n 3, 1) := by decide +kernel
theorem dX9_isEmpty_5 : decode cX9_isEmpty 5 = .ok (.aload_n 0, 1) := by decide +kernel
theorem dX9_isEmpty_6 : decode cX9_isEmpty 6 = .ok (.invokevirtual 120, 3) := by decide +kernel
theorem dX9_isEmpty_9 : decode cX9_isEmpty 9 = .ok (.if_icmp .ge 64, 3) := by decide +kernel
theorem dX9_isEmpty_12 : decode cX9_isEmpty 12 = .ok (.iload_n 2, 1) := by decide +kernel
theorem dX9_isEmpty_13 : decode cX9_isEmpty 13 = .ok (.ifCond .ne 48, 3) := by decide +kernel
theorem dX9_isEmpty_16 : decode cX9_isEmpty 16 = .ok (.iload_n 3, 1) := by decide +kernel
theorem dX9_isEmpty_17 : decode cX9_isEmpty 17 = .ok (.iload_n 1, 1) := by decide +kernel
theorem dX9_isEmpty_18 : decode cX9_isEmpty 18 = .ok (.if_icmp .eq 47, 3) := by decide +kernel
theorem dX9_isEmpty_21 : decode cX9_isEmpty 21 = .ok (.aload_n 0, 1) := by decide +kernel
theorem dX9_isEmpty_22 : decode cX9_isEmpty 22 = .ok (.getfield 93, 3) := by decide +kernel
theorem dX9_isEmpty_25 : decode cX9_isEmpty 25 = .ok (.iload_n 3, 1) := by decide +kernel
theorem dX9_isEmpty_26 : decode cX9_isEmpty 26 = .ok (.iaload, 1) := by decide +kernel
theorem dX9_isEmpty_27 : decode cX9_isEmpty 27 = .ok (.aload_n 0, 1) := by decide +kernel
theorem dX9_isEmpty_28 : decode cX9_isEmpty 28 = .ok (.getfield 96, 3) := by decide +kernel
theorem dX9_isEmpty_31 : decode cX9_isEmpty 31 = .ok (.iload_n 3, 1) := by decide +kernel
theorem dX9_isEmpty_32 : decode cX9_isEmpty 32 = .ok (.iaload, 1) := by decide +kernel
theorem dX9_isEmpty_33 : decode cX9_isEmpty 33 = .ok (.if_icmp .gt 28, 3) := by decide +kernel
theorem dX9_isEmpty_36 : decode cX9_isEmpty 36 = .ok (.aload_n 0, 1) := by decide +kernel
theorem dX9_isEmpty_37 : decode cX9_isEmpty 37 = .ok (.getfield 87, 3) := by decide +kernel
theorem dX9_isEmpty_40 : decode cX9_isEmpty 40 = .ok (.aload_n 0, 1) := by decide +kernel
theorem dX9_isEmpty_41 : decode cX9_isEmpty 41 = .ok (.getfield 54, 3) := by decide +kernel
theorem dX9_isEmpty_44 : decode cX9_isEmpty 44 = .ok (.iload_n 3, 1) := by decide +kernel
theorem dX9_isEmpty_45 : decode cX9_isEmpty 45 = .ok (.iaload, 1) := by decide +kernel
theorem dX9_isEmpty_46 : decode cX9_isEmpty 46 = .ok (.iaload, 1) := by decide +kernel
theorem dX9_isEmpty_47 : decode cX9_isEmpty 47 = .ok (.aload_n 0, 1) := by decide +kernel
theorem dX9_isEmpty_48 : decode cX9_isEmpty 48 = .ok (.getfield 90, 3) := by decide +kernel
theorem dX9_isEmpty_51 : decode cX9_isEmpty 51 = .ok (.aload_n 0, 1) := by decide +kernel
theorem dX9_isEmpty_52 : decode cX9_isEmpty 52 = .ok (.getfield 54, 3) := by decide +kernel
theorem dX9_isEmpty_55 : decode cX9_isEmpty 55 = .ok (.iload_n 3, 1) := by decide +kernel
theorem dX9_isEmpty_56 : decode cX9_isEmpty 56 = .ok (.iaload, 1) := by decide +kernel
theorem dX9_isEmpty_57 : decode cX9_isEmpty 57 = .ok (.iaload, 1) := by decide +kernel
theorem dX9_isEmpty_58 : decode cX9_isEmpty 58 = .ok (.if_icmp .le 7, 3) := by decide +kernel
theorem dX9_isEmpty_61 : decode cX9_isEmpty 61 = .ok (.iconst 1, 1) := by decide +kernel
theorem dX9_isEmpty_62 : decode cX9_isEmpty 62 = .ok (.goto 4, 3) := by decide +kernel
theorem dX9_isEmpty_65 : decode cX9_isEmpty 65 = .ok (.iconst 0, 1) := by decide +kernel
theorem dX9_isEmpty_66 : decode cX9_isEmpty 66 = .ok (.istore_n 2, 1) := by decide +kernel
theorem dX9_isEmpty_67 : decode cX9_isEmpty 67 = .ok (.iinc 3 1, 3) := by decide +kernel
theorem dX9_isEmpty_70 : decode cX9_isEmpty 70 = .ok (.goto (-66), 3) := by decide +kernel
theorem dX9_isEmpty_73 : decode cX9_isEmpty 73 = .ok (.iload_n 2, 1) := by decide +kernel
theorem dX9_isEmpty_74 : decode cX9_isEmpty 74 = .ok (.ireturn, 1) := by decide +kernel
