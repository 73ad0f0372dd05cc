
def σR : Sg := uI σF 11704 (-1)
def T1 (τ : Sg) : Sg := uJ (mx τ) 14041 (-2)

theorem dX6_findWrong_0 : decode cX6_findWrong 0 = .ok (.aload_n 0, 1) := by decide +kernel
theorem dX6_findWrong_1 : decode cX6_findWrong 1 = .ok (.getfield 24, 3) := by decide +kernel
theorem dX6_findWrong_4 : decode cX6_findWrong 4 = .ok (.iconst (-1), 1) := by decide +kernel
theorem dX6_findWrong_5 : decode cX6_findWrong 5 = .ok (.if_icmp .ne 11, 3) := by decide +kernel
theorem dX6_findWrong_8 : decode cX6_findWrong 8 = .ok (.aload_n 0, 1) := by decide +kernel
theorem dX6_findWrong_9 : decode cX6_findWrong 9 = .ok (.aload_n 0, 1) := by decide +kernel
theorem dX6_findWrong_10 : decode cX6_findWrong 10 = .ok (.getfield 40, 3) := by decide +kernel
theorem dX6_findWrong_13 : decode cX6_findWrong 13 = .ok (.putfield 24, 3) := by decide +kernel
theorem dX6_findWrong_16 : decode cX6_findWrong 16 = .ok (.return_, 1) := by decide +kernel
set_option maxRecDepth 100000 in
set_option maxHeartbeats 40000000 in
theorem fx_X6_findWrongR {G : vG} {l : Launch}  : Sp G l yX6_findWrong cX6_findWrong 1 none 0 0 0 [.ref 117] (WW σR) (QV (fun w2 => w2 = WW σF)) := by
  refine Sp_of_R [(some (.ref 117))] [] rfl (by simp) rfl (Nat.le_of_ble_eq_true rfl) ?_
  refine R_aload_n (pc := 0) dX6_findWrong_0 rfl rfl ?_
  refine g_X6_24 (pc := 1) (v := .int (-1)) rfl dX6_findWrong_1 (c_117 _) rfl ?_
  refine R_iconst (pc := 4) (v := (-1)) dX6_findWrong_4 (by decide) ?_
  refine R_icne (pc := 5) 16 dX6_findWrong_5 (by decide) (fun h => absurd (by decide) h) (fun _ => ?_)
  refine R_aload_n (pc := 8) dX6_findWrong_8 rfl rfl ?_
  refine R_aload_n (pc := 9) dX6_findWrong_9 rfl rfl ?_
  refine g_X6_40 (pc := 10) (v := .int 0) rfl dX6_findWrong_10 (c_117 _) rfl ?_
  refine p_X6_24 (pc := 13) rfl dX6_findWrong_13 (c_117 _) (Nat.le_of_ble_eq_true rfl) rfl rfl (s_117_4 _ _) ?_
  exact R_vret (pc := 16) dX6_findWrong_16 rfl (Nat.zero_le _) (Nat.zero_le _) ⟨rfl, rfl⟩
set_option maxRecDepth 100000 in
set_option maxHeartbeats 40000000 in
theorem fx_X6_findWrongF {G : vG} {l : Launch}  : Sp G l yX6_findWrong cX6_findWrong 1 none 0 0 0 [.ref 117] (WW σF) (QV (fun w2 => w2 = WW σF)) := by
  refine Sp_of_R [(some (.ref 117))] [] rfl (by simp) rfl (Nat.le_of_ble_eq_true rfl) ?_
  refine R_aload_n (pc := 0) dX6_findWrong_0 rfl rfl ?_
  refine g_X6_24 (pc := 1) (v := .int 0) rfl dX6_findWrong_1 (c_117 _) rfl ?_
  refine R_iconst (pc := 4) (v := (-1)) dX6_findWrong_4 (by decide) ?_
  refine R_icne (pc := 5) 16 dX6_findWrong_5 (by decide) (fun _ => ?_) (fun h => absurd h (by decide))
  exact R_vret (pc := 16) dX6_findWrong_16 rfl (Nat.zero_le _) (Nat.zero_le _) ⟨rfl, rfl⟩
theorem dX6_isAt_0 : decode cX6_isAt 0 = .ok (.aload_n 0, 1) := by decide +kernel
theorem dX6_isAt_1 : decode cX6_isAt 1 = .ok (.getfield 21, 3) := by decide +kernel
theorem dX6_isAt_4 : decode cX6_isAt 4 = .ok (.aload_n 0, 1) := by decide +kernel
theorem dX6_isAt_5 : decode cX6_isAt 5 = .ok (.getfield 40, 3) := by decide +kernel
theorem dX6_isAt_8 : decode cX6_isAt 8 = .ok (.isub, 1) := by decide +kernel
theorem dX6_isAt_9 : decode cX6_isAt 9 = .ok (.aload_n 1, 1) := by decide +kernel
theorem dX6_isAt_10 : decode cX6_isAt 10 = .ok (.invokevirtual 92, 3) := by decide +kernel
theorem dX6_isAt_13 : decode cX6_isAt 13 = .ok (.if_icmp .eq 5, 3) := by decide +kernel
theorem dX6_isAt_16 : decode cX6_isAt 16 = .ok (.iconst 0, 1) := by decide +kernel
theorem dX6_isAt_17 : decode cX6_isAt 17 = .ok (.ireturn, 1) := by decide +kernel
theorem dX6_isAt_18 : decode cX6_isAt 18 = .ok (.iconst 0, 1) := by decide +kernel
theorem dX6_isAt_19 : decode cX6_isAt 19 = .ok (.istore_n 2, 1) := by decide +kernel
theorem dX6_isAt_20 : decode cX6_isAt 20 = .ok (.iload_n 2, 1) := by decide +kernel
theorem dX6_isAt_21 : decode cX6_isAt 21 = .ok (.aload_n 1, 1) := by decide +kernel
theorem dX6_isAt_22 : decode cX6_isAt 22 = .ok (.invokevirtual 92, 3) := by decide +kernel
theorem dX6_isAt_25 : decode cX6_isAt 25 = .ok (.if_icmp .ge 30, 3) := by decide +kernel
theorem dX6_isAt_28 : decode cX6_isAt 28 = .ok (.aload_n 0, 1) := by decide +kernel
theorem dX6_isAt_29 : decode cX6_isAt 29 = .ok (.getfield 9, 3) := by decide +kernel
theorem dX6_isAt_32 : decode cX6_isAt 32 = .ok (.aload_n 0, 1) := by decide +kernel
theorem dX6_isAt_33 : decode cX6_isAt 33 = .ok (.getfield 40, 3) := by decide +kernel
theorem dX6_isAt_36 : decode cX6_isAt 36 = .ok (.iload_n 2, 1) := by decide +kernel
theorem dX6_isAt_37 : decode cX6_isAt 37 = .ok (.iadd, 1) := by decide +kernel
theorem dX6_isAt_38 : decode cX6_isAt 38 = .ok (.iaload, 1) := by decide +kernel
theorem dX6_isAt_39 : decode cX6_isAt 39 = .ok (.aload_n 1, 1) := by decide +kernel
theorem dX6_isAt_40 : decode cX6_isAt 40 = .ok (.iload_n 2, 1) := by decide +kernel
theorem dX6_isAt_41 : decode cX6_isAt 41 = .ok (.invokevirtual 97, 3) := by decide +kernel
theorem dX6_isAt_44 : decode cX6_isAt 44 = .ok (.if_icmp .eq 5, 3) := by decide +kernel
theorem dX6_isAt_47 : decode cX6_isAt 47 = .ok (.iconst 0, 1) := by decide +kernel
theorem dX6_isAt_48 : decode cX6_isAt 48 = .ok (.ireturn, 1) := by decide +kernel
theorem dX6_isAt_49 : decode cX6_isAt 49 = .ok (.iinc 2 1, 3) := by decide +kernel
theorem dX6_isAt_52 : decode cX6_isAt 52 = .ok (.goto (-32), 3) := by decide +kernel
theorem dX6_isAt_55 : decode cX6_isAt 55 = .ok (.iconst 1, 1) := by decide +kernel
theorem dX6_isAt_56 : decode cX6_isAt 56 = .ok (.ireturn, 1) := by decide +kernel
set_option maxRecDepth 100000 in
set_option maxHeartbeats 40000000 in
theorem fx_X6_isAtR0 {G : vG} {l : Launch}  : Sp G l yX6_isAt cX6_isAt 3 (some .boolean) 5 0 0 [.ref 117, .ref 1000000] (WW σR) (QI (fun x w2 => w2 = WW σR ∧ x = 0)) := by
  refine Sp_of_R [(some (.ref 117)), (some (.ref 1000000)), none] [none] rfl (by simp) rfl (Nat.le_of_ble_eq_true rfl) ?_
  refine R_aload_n (pc := 0) dX6_isAt_0 rfl rfl ?_
  refine g_X6_21 (pc := 1) (v := .int 0) rfl dX6_isAt_1 (c_117 _) rfl ?_
  refine R_aload_n (pc := 4) dX6_isAt_4 rfl rfl ?_
  refine g_X6_40 (pc := 5) (v := .int 0) rfl dX6_isAt_5 (c_117 _) rfl ?_
  refine R_isub (pc := 8) dX6_isAt_8 ?_
  refine R_cv 0 (by decide) ?_
  refine R_aload_n (pc := 9) dX6_isAt_9 rfl rfl ?_
  refine k_len (pc := 10) (i := 0) 2 (by decide) (by decide) rfl (by decide) (Nat.zero_le _) (Nat.zero_le _) (Nat.le_of_ble_eq_true rfl) dX6_isAt_10 ?_
  refine R_iceq (pc := 13) 18 dX6_isAt_13 (by decide) (fun h => absurd h (by decide)) (fun _ => ?_)
  refine R_iconst (pc := 16) (v := 0) dX6_isAt_16 (by decide) ?_
  exact R_iret (pc := 17) dX6_isAt_17 rfl rfl (Nat.zero_le _) (Nat.zero_le _) ⟨_, rfl, rfl, rfl⟩
set_option maxRecDepth 100000 in
set_option maxHeartbeats 40000000 in
theorem fx_X6_isAtF3 {G : vG} {l : Launch}  : Sp G l yX6_isAt cX6_isAt 3 (some .boolean) 5 0 0 [.ref 117, .ref 1000003] (WW σF) (QI (fun x w2 => w2 = WW σF ∧ x = 0)) := by
  refine Sp_of_R [(some (.ref 117)), (some (.ref 1000003)), none] [none] rfl (by simp) rfl (Nat.le_of_ble_eq_true rfl) ?_
  refine R_aload_n (pc := 0) dX6_isAt_0 rfl rfl ?_
  refine g_X6_21 (pc := 1) (v := .int 0) rfl dX6_isAt_1 (c_117 _) rfl ?_
  refine R_aload_n (pc := 4) dX6_isAt_4 rfl rfl ?_
  refine g_X6_40 (pc := 5) (v := .int 0) rfl dX6_isAt_5 (c_117 _) rfl ?_
  refine R_isub (pc := 8) dX6_isAt_8 ?_
  refine R_cv 0 (by decide) ?_
  refine R_aload_n (pc := 9) dX6_isAt_9 rfl rfl ?_
  refine k_len (pc := 10) (i := 3) 3 (by decide) (by decide) rfl (by decide) (Nat.zero_le _) (Nat.zero_le _) (Nat.le_of_ble_eq_true rfl) dX6_isAt_10 ?_
  refine R_iceq (pc := 13) 18 dX6_isAt_13 (by decide) (fun h => absurd h (by decide)) (fun _ => ?_)
  refine R_iconst (pc := 16) (v := 0) dX6_isAt_16 (by decide) ?_
  exact R_iret (pc := 17) dX6_isAt_17 rfl rfl (Nat.zero_le _) (Nat.zero_le _) ⟨_, rfl, rfl, rfl⟩
theorem dX6_goOn_0 : decode cX6_goOn 0 = .ok (.aload_n 0, 1) := by decide +kernel
theorem dX6_goOn_1 : decode cX6_goOn 1 = .ok (.aload_n 0, 1) := by decide +kernel
theorem dX6_goOn_2 : decode cX6_goOn 2 = .ok (.getfield 21, 3) := by decide +kernel
theorem dX6_goOn_5 : decode cX6_goOn 5 = .ok (.putfield 40, 3) := by decide +kernel
theorem dX6_goOn_8 : decode cX6_goOn 8 = .ok (.aload_n 0, 1) := by decide +kernel
theorem dX6_goOn_9 : decode cX6_goOn 9 = .ok (.getfield 40, 3) := by decide +kernel
theorem dX6_goOn_12 : decode cX6_goOn 12 = .ok (.aload_n 0, 1) := by decide +kernel
theorem dX6_goOn_13 : decode cX6_goOn 13 = .ok (.getfield 43, 3) := by decide +kernel
theorem dX6_goOn_16 : decode cX6_goOn 16 = .ok (.if_icmp .ge 30, 3) := by decide +kernel
theorem dX6_goOn_19 : decode cX6_goOn 19 = .ok (.aload_n 0, 1) := by decide +kernel
theorem dX6_goOn_20 : decode cX6_goOn 20 = .ok (.getfield 9, 3) := by decide +kernel
theorem dX6_goOn_23 : decode cX6_goOn 23 = .ok (.aload_n 0, 1) := by decide +kernel
theorem dX6_goOn_24 : decode cX6_goOn 24 = .ok (.getfield 40, 3) := by decide +kernel
theorem dX6_goOn_27 : decode cX6_goOn 27 = .ok (.iaload, 1) := by decide +kernel
theorem dX6_goOn_28 : decode cX6_goOn 28 = .ok (.bipush 32, 2) := by decide +kernel
theorem dX6_goOn_30 : decode cX6_goOn 30 = .ok (.if_icmp .ne 16, 3) := by decide +kernel
theorem dX6_goOn_33 : decode cX6_goOn 33 = .ok (.aload_n 0, 1) := by decide +kernel
theorem dX6_goOn_34 : decode cX6_goOn 34 = .ok (.dup, 1) := by decide +kernel
theorem dX6_goOn_35 : decode cX6_goOn 35 = .ok (.getfield 40, 3) := by decide +kernel
theorem dX6_goOn_38 : decode cX6_goOn 38 = .ok (.iconst 1, 1) := by decide +kernel
theorem dX6_goOn_39 : decode cX6_goOn 39 = .ok (.iadd, 1) := by decide +kernel
theorem dX6_goOn_40 : decode cX6_goOn 40 = .ok (.putfield 40, 3) := by decide +kernel
theorem dX6_goOn_43 : decode cX6_goOn 43 = .ok (.goto (-35), 3) := by decide +kernel
theorem dX6_goOn_46 : decode cX6_goOn 46 = .ok (.aload_n 0, 1) := by decide +kernel
theorem dX6_goOn_47 : decode cX6_goOn 47 = .ok (.aload_n 0, 1) := by decide +kernel
theorem dX6_goOn_48 : decode cX6_goOn 48 = .ok (.getfield 40, 3) := by decide +kernel
theorem dX6_goOn_51 : decode cX6_goOn 51 = .ok (.iconst 1, 1) := by decide +kernel
theorem dX6_goOn_52 : decode cX6_goOn 52 = .ok (.iadd, 1) := by decide +kernel
theorem dX6_goOn_53 : decode cX6_goOn 53 = .ok (.aload_n 0, 1) := by decide +kernel
theorem dX6_goOn_54 : decode cX6_goOn 54 = .ok (.getfield 43, 3) := by decide +kernel
theorem dX6_goOn_57 : decode cX6_goOn 57 = .ok (.invokestatic 105, 3) := by decide +kernel
theorem dX6_goOn_60 : decode cX6_goOn 60 = .ok (.putfield 21, 3) := by decide +kernel
theorem dX6_goOn_63 : decode cX6_goOn 63 = .ok (.aload_n 0, 1) := by decide +kernel
theorem dX6_goOn_64 : decode cX6_goOn 64 = .ok (.getfield 21, 3) := by decide +kernel
theorem dX6_goOn_67 : decode cX6_goOn 67 = .ok (.aload_n 0, 1) := by decide +kernel
theorem dX6_goOn_68 : decode cX6_goOn 68 = .ok (.getfield 43, 3) := by decide +kernel
theorem dX6_goOn_71 : decode cX6_goOn 71 = .ok (.if_icmp .ge 40, 3) := by decide +kernel
theorem dX6_goOn_74 : decode cX6_goOn 74 = .ok (.aload_n 0, 1) := by decide +kernel
theorem dX6_goOn_75 : decode cX6_goOn 75 = .ok (.getfield 9, 3) := by decide +kernel
theorem dX6_goOn_78 : decode cX6_goOn 78 = .ok (.aload_n 0, 1) := by decide +kernel
theorem dX6_goOn_79 : decode cX6_goOn 79 = .ok (.getfield 40, 3) := by decide +kernel
theorem dX6_goOn_82 : decode cX6_goOn 82 = .ok (.iaload, 1) := by decide +kernel
theorem dX6_goOn_83 : decode cX6_goOn 83 = .ok (.aload_n 0, 1) := by decide +kernel
theorem dX6_goOn_84 : decode cX6_goOn 84 = .ok (.getfield 9, 3) := by decide +kernel
theorem dX6_goOn_87 : decode cX6_goOn 87 = .ok (.aload_n 0, 1) := by decide +kernel
theorem dX6_goOn_88 : decode cX6_goOn 88 = .ok (.getfield 21, 3) := by decide +kernel
theorem dX6_goOn_91 : decode cX6_goOn 91 = .ok (.iaload, 1) := by decide +kernel
theorem dX6_goOn_92 : decode cX6_goOn 92 = .ok (.invokestatic 110, 3) := by decide +kernel
theorem dX6_goOn_95 : decode cX6_goOn 95 = .ok (.ifCond .eq 16, 3) := by decide +kernel
theorem dX6_goOn_98 : decode cX6_goOn 98 = .ok (.aload_n 0, 1) := by decide +kernel
theorem dX6_goOn_99 : decode cX6_goOn 99 = .ok (.dup, 1) := by decide +kernel
theorem dX6_goOn_100 : decode cX6_goOn 100 = .ok (.getfield 21, 3) := by decide +kernel
theorem dX6_goOn_103 : decode cX6_goOn 103 = .ok (.iconst 1, 1) := by decide +kernel
theorem dX6_goOn_104 : decode cX6_goOn 104 = .ok (.iadd, 1) := by decide +kernel
theorem dX6_goOn_105 : decode cX6_goOn 105 = .ok (.putfield 21, 3) := by decide +kernel
theorem dX6_goOn_108 : decode cX6_goOn 108 = .ok (.goto (-45), 3) := by decide +kernel
theorem dX6_goOn_111 : decode cX6_goOn 111 = .ok (.return_, 1) := by decide +kernel
set_option maxRecDepth 100000 in
set_option maxHeartbeats 40000000 in
theorem fx_X6_goOn {G : vG} {l : Launch}  : Sp G l yX6_goOn cX6_goOn 1 none 2 0 0 [.ref 117] (WW σR) (QV (fun w2 => w2 = WW σR)) := by
  refine Sp_of_R [(some (.ref 117))] [] rfl (by simp) rfl (Nat.le_of_ble_eq_true rfl) ?_
  refine R_aload_n (pc := 0) dX6_goOn_0 rfl rfl ?_
  refine R_aload_n (pc := 1) dX6_goOn_1 rfl rfl ?_
  refine g_X6_21 (pc := 2) (v := .int 0) rfl dX6_goOn_2 (c_117 _) rfl ?_
  refine p_X6_40 (pc := 5) rfl dX6_goOn_5 (c_117 _) (Nat.le_of_ble_eq_true rfl) rfl rfl (s_117_2 _ _) ?_
  refine R_aload_n (pc := 8) dX6_goOn_8 rfl rfl ?_
  refine g_X6_40 (pc := 9) (v := .int 0) rfl dX6_goOn_9 (c_117 _) rfl ?_
  refine R_aload_n (pc := 12) dX6_goOn_12 rfl rfl ?_
  refine g_X6_43 (pc := 13) (v := .int 0) rfl dX6_goOn_13 (c_117 _) rfl ?_
  refine R_icge (pc := 16) 46 dX6_goOn_16 (by decide) (fun _ => ?_) (fun h => absurd (by decide) h)
  refine R_aload_n (pc := 46) dX6_goOn_46 rfl rfl ?_
  refine R_aload_n (pc := 47) dX6_goOn_47 rfl rfl ?_
  refine g_X6_40 (pc := 48) (v := .int 0) rfl dX6_goOn_48 (c_117 _) rfl ?_
  refine R_iconst (pc := 51) (v := 1) dX6_goOn_51 (by decide) ?_
  refine R_iadd (pc := 52) dX6_goOn_52 ?_
  refine R_cv 1 (by decide) ?_
  refine R_aload_n (pc := 53) dX6_goOn_53 rfl rfl ?_
  refine g_X6_43 (pc := 54) (v := .int 0) rfl dX6_goOn_54 (c_117 _) rfl ?_
  refine R_mmin (pc := 57) wm_719 dX6_goOn_57 (by decide) (Nat.le_of_ble_eq_true rfl) (Nat.zero_le _) (Nat.zero_le _) ?_
  refine R_cv 0 (by decide) ?_
  refine p_X6_21 (pc := 60) rfl dX6_goOn_60 (c_117 _) (Nat.le_of_ble_eq_true rfl) rfl rfl (s_117_3 _ _) ?_
  refine R_aload_n (pc := 63) dX6_goOn_63 rfl rfl ?_
  refine g_X6_21 (pc := 64) (v := .int 0) rfl dX6_goOn_64 (c_117 _) rfl ?_
  refine R_aload_n (pc := 67) dX6_goOn_67 rfl rfl ?_
  refine g_X6_43 (pc := 68) (v := .int 0) rfl dX6_goOn_68 (c_117 _) rfl ?_
  refine R_icge (pc := 71) 111 dX6_goOn_71 (by decide) (fun _ => ?_) (fun h => absurd (by decide) h)
  exact R_vret (pc := 111) dX6_goOn_111 rfl (Nat.zero_le _) (Nat.zero_le _) ⟨rfl, rfl⟩
theorem dX6_numberAt_0 : decode cX6_numberAt 0 = .ok (.aload_n 0, 1) := by decide +kernel
theorem dX6_numberAt_1 : decode cX6_numberAt 1 = .ok (.getfield 21, 3) := by decide +kernel
theorem dX6_numberAt_4 : decode cX6_numberAt 4 = .ok (.aload_n 0, 1) := by decide +kernel
theorem dX6_numberAt_5 : decode cX6_numberAt 5 = .ok (.getfield 40, 3) := by decide +kernel
theorem dX6_numberAt_8 : decode cX6_numberAt 8 = .ok (.isub, 1) := by decide +kernel
theorem dX6_numberAt_9 : decode cX6_numberAt 9 = .ok (.istore_n 1, 1) := by decide +kernel
theorem dX6_numberAt_10 : decode cX6_numberAt 10 = .ok (.iload_n 1, 1) := by decide +kernel
theorem dX6_numberAt_11 : decode cX6_numberAt 11 = .ok (.iconst 1, 1) := by decide +kernel
theorem dX6_numberAt_12 : decode cX6_numberAt 12 = .ok (.if_icmp .lt 23, 3) := by decide +kernel
theorem dX6_numberAt_15 : decode cX6_numberAt 15 = .ok (.iload_n 1, 1) := by decide +kernel
theorem dX6_numberAt_16 : decode cX6_numberAt 16 = .ok (.iconst 5, 1) := by decide +kernel
theorem dX6_numberAt_17 : decode cX6_numberAt 17 = .ok (.if_icmp .gt 18, 3) := by decide +kernel
theorem dX6_numberAt_20 : decode cX6_numberAt 20 = .ok (.aload_n 0, 1) := by decide +kernel
theorem dX6_numberAt_21 : decode cX6_numberAt 21 = .ok (.getfield 9, 3) := by decide +kernel
theorem dX6_numberAt_24 : decode cX6_numberAt 24 = .ok (.aload_n 0, 1) := by decide +kernel
theorem dX6_numberAt_25 : decode cX6_numberAt 25 = .ok (.getfield 40, 3) := by decide +kernel
theorem dX6_numberAt_28 : decode cX6_numberAt 28 = .ok (.iaload, 1) := by decide +kernel
theorem dX6_numberAt_29 : decode cX6_numberAt 29 = .ok (.invokestatic 101, 3) := by decide +kernel
theorem dX6_numberAt_32 : decode cX6_numberAt 32 = .ok (.ifCond .ne 5, 3) := by decide +kernel
theorem dX6_numberAt_35 : decode cX6_numberAt 35 = .ok (.iconst (-1), 1) := by decide +kernel
theorem dX6_numberAt_36 : decode cX6_numberAt 36 = .ok (.ireturn, 1) := by decide +kernel
theorem dX6_numberAt_37 : decode cX6_numberAt 37 = .ok (.iconst 0, 1) := by decide +kernel
theorem dX6_numberAt_38 : decode cX6_numberAt 38 = .ok (.istore_n 2, 1) := by decide +kernel
theorem dX6_numberAt_39 : decode cX6_numberAt 39 = .ok (.aload_n 0, 1) := by decide +kernel
theorem dX6_numberAt_40 : decode cX6_numberAt 40 = .ok (.getfield 40, 3) := by decide +kernel
theorem dX6_numberAt_43 : decode cX6_numberAt 43 = .ok (.istore_n 3, 1) := by decide +kernel
theorem dX6_numberAt_44 : decode cX6_numberAt 44 = .ok (.iload_n 3, 1) := by decide +kernel
theorem dX6_numberAt_45 : decode cX6_numberAt 45 = .ok (.aload_n 0, 1) := by decide +kernel
theorem dX6_numberAt_46 : decode cX6_numberAt 46 = .ok (.getfield 21, 3) := by decide +kernel
theorem dX6_numberAt_49 : decode cX6_numberAt 49 = .ok (.if_icmp .ge 24, 3) := by decide +kernel
theorem dX6_numberAt_52 : decode cX6_numberAt 52 = .ok (.bipush 10, 2) := by decide +kernel
theorem dX6_numberAt_54 : decode cX6_numberAt 54 = .ok (.iload_n 2, 1) := by decide +kernel
theorem dX6_numberAt_55 : decode cX6_numberAt 55 = .ok (.imul, 1) := by decide +kernel
theorem dX6_numberAt_56 : decode cX6_numberAt 56 = .ok (.aload_n 0, 1) := by decide +kernel
theorem dX6_numberAt_57 : decode cX6_numberAt 57 = .ok (.getfield 9, 3) := by decide +kernel
theorem dX6_numberAt_60 : decode cX6_numberAt 60 = .ok (.iload_n 3, 1) := by decide +kernel
theorem dX6_numberAt_61 : decode cX6_numberAt 61 = .ok (.iaload, 1) := by decide +kernel
theorem dX6_numberAt_62 : decode cX6_numberAt 62 = .ok (.iadd, 1) := by decide +kernel
theorem dX6_numberAt_63 : decode cX6_numberAt 63 = .ok (.bipush 48, 2) := by decide +kernel
theorem dX6_numberAt_65 : decode cX6_numberAt 65 = .ok (.isub, 1) := by decide +kernel
theorem dX6_numberAt_66 : decode cX6_numberAt 66 = .ok (.istore_n 2, 1) := by decide +kernel
theorem dX6_numberAt_67 : decode cX6_numberAt 67 = .ok (.iinc 3 1, 3) := by decide +kernel
theorem dX6_numberAt_70 : decode cX6_numberAt 70 = .ok (.goto (-26), 3) := by decide +kernel
theorem dX6_numberAt_73 : decode cX6_numberAt 73 = .ok (.iload_n 2, 1) := by decide +kernel
theorem dX6_numberAt_74 : decode cX6_numberAt 74 = .ok (.ireturn, 1) := by decide +kernel
set_option maxRecDepth 100000 in
set_option maxHeartbeats 40000000 in
theorem fx_X6_numberAt {G : vG} {l : Launch}  : Sp G l yX6_numberAt cX6_numberAt 4 (some .int) 1 0 0 [.ref 117] (WW σF) (QI (fun x w2 => w2 = WW σF ∧ x = -1)) := by
  refine Sp_of_R [(some (.ref 117)), none, none, none] [none, none, none] rfl (by simp) rfl (Nat.le_of_ble_eq_true rfl) ?_
  refine R_aload_n (pc := 0) dX6_numberAt_0 rfl rfl ?_
  refine g_X6_21 (pc := 1) (v := .int 0) rfl dX6_numberAt_1 (c_117 _) rfl ?_
  refine R_aload_n (pc := 4) dX6_numberAt_4 rfl rfl ?_
  refine g_X6_40 (pc := 5) (v := .int 0) rfl dX6_numberAt_5 (c_117 _) rfl ?_
  refine R_isub (pc := 8) dX6_numberAt_8 ?_
  refine R_cv 0 (by decide) ?_
  refine st_4_1_i_a (pc := 9) dX6_numberAt_9 ?_
  refine R_iload_n (pc := 10) dX6_numberAt_10 rfl rfl ?_
  refine R_iconst (pc := 11) (v := 1) dX6_numberAt_11 (by decide) ?_
  refine R_iclt (pc := 12) 35 dX6_numberAt_12 (by decide) (fun _ => ?_) (fun h => absurd (by decide) h)
  refine R_iconst (pc := 35) (v := (-1)) dX6_numberAt_35 (by decide) ?_
  exact R_iret (pc := 36) dX6_numberAt_36 rfl rfl (Nat.zero_le _) (Nat.zero_le _) ⟨_, rfl, rfl, rfl⟩
theorem dX6_readNumber_0 : decode cX6_readNumber 0 = .ok (.aload_n 0, 1) := by decide +kernel
theorem dX6_readNumber_1 : decode cX6_readNumber 1 = .ok (.invokevirtual 84, 3) := by decide +kernel
theorem dX6_readNumber_4 : decode cX6_readNumber 4 = .ok (.istore_n 3, 1) := by decide +kernel
theorem dX6_readNumber_5 : decode cX6_readNumber 5 = .ok (.aload_n 0, 1) := by decide +kernel
theorem dX6_readNumber_6 : decode cX6_readNumber 6 = .ok (.getfield 24, 3) := by decide +kernel
theorem dX6_readNumber_9 : decode cX6_readNumber 9 = .ok (.iconst (-1), 1) := by decide +kernel
theorem dX6_readNumber_10 : decode cX6_readNumber 10 = .ok (.if_icmp .ne 12, 3) := by decide +kernel
theorem dX6_readNumber_13 : decode cX6_readNumber 13 = .ok (.iload_n 3, 1) := by decide +kernel
theorem dX6_readNumber_14 : decode cX6_readNumber 14 = .ok (.iload_n 1, 1) := by decide +kernel
theorem dX6_readNumber_15 : decode cX6_readNumber 15 = .ok (.iload_n 2, 1) := by decide +kernel
theorem dX6_readNumber_16 : decode cX6_readNumber 16 = .ok (.invokestatic 88, 3) := by decide +kernel
theorem dX6_readNumber_19 : decode cX6_readNumber 19 = .ok (.ifCond .ne 9, 3) := by decide +kernel
theorem dX6_readNumber_22 : decode cX6_readNumber 22 = .ok (.aload_n 0, 1) := by decide +kernel
theorem dX6_readNumber_23 : decode cX6_readNumber 23 = .ok (.invokevirtual 44, 3) := by decide +kernel
theorem dX6_readNumber_26 : decode cX6_readNumber 26 = .ok (.iload_n 1, 1) := by decide +kernel
theorem dX6_readNumber_27 : decode cX6_readNumber 27 = .ok (.ireturn, 1) := by decide +kernel
theorem dX6_readNumber_28 : decode cX6_readNumber 28 = .ok (.aload_n 0, 1) := by decide +kernel
theorem dX6_readNumber_29 : decode cX6_readNumber 29 = .ok (.invokevirtual 27, 3) := by decide +kernel
theorem dX6_readNumber_32 : decode cX6_readNumber 32 = .ok (.iload_n 3, 1) := by decide +kernel
theorem dX6_readNumber_33 : decode cX6_readNumber 33 = .ok (.ireturn, 1) := by decide +kernel
set_option maxRecDepth 100000 in
set_option maxHeartbeats 40000000 in
theorem fx_X6_readNumber {G : vG} {l : Launch} (a b : Int32) : Sp G l yX6_readNumber cX6_readNumber 4 (some .int) 3 0 0 [.ref 117, .int a, .int b] (WW σF) (QI (fun x w2 => w2 = WW σF ∧ x = a)) := by
  refine Sp_of_R [(some (.ref 117)), (some (.int a)), (some (.int b)), none] [none] rfl (by simp) rfl (Nat.le_of_ble_eq_true rfl) ?_
  refine R_aload_n (pc := 0) dX6_readNumber_0 rfl rfl ?_
  refine k_X6_84 (pc := 1) (fx_X6_numberAt) rfl (c_117 _) (by decide) (Nat.le_refl _) (Nat.le_refl _) (Nat.le_of_ble_eq_true rfl) dX6_readNumber_1 (fun x w2 h => ?_)
  obtain ⟨rfl, rfl⟩ := h
  refine st_4_3_i_i (pc := 4) dX6_readNumber_4 ?_
  refine R_aload_n (pc := 5) dX6_readNumber_5 rfl rfl ?_
  refine g_X6_24 (pc := 6) (v := .int 0) rfl dX6_readNumber_6 (c_117 _) rfl ?_
  refine R_iconst (pc := 9) (v := (-1)) dX6_readNumber_9 (by decide) ?_
  refine R_icne (pc := 10) 22 dX6_readNumber_10 (by decide) (fun _ => ?_) (fun h => absurd h (by decide))
  refine R_aload_n (pc := 22) dX6_readNumber_22 rfl rfl ?_
  refine k_X6_44 (pc := 23) (fx_X6_findWrongF) rfl (c_117 _) (by decide) (Nat.le_refl _) (Nat.le_refl _) (Nat.le_of_ble_eq_true rfl) dX6_readNumber_23 (fun w2 h => ?_)
  subst h
  refine R_iload_n (pc := 26) dX6_readNumber_26 rfl rfl ?_
  exact R_iret (pc := 27) dX6_readNumber_27 rfl rfl (Nat.zero_le _) (Nat.zero_le _) ⟨_, rfl, rfl, rfl⟩
theorem dX6_readWord_0 : decode cX6_readWord 0 = .ok (.aload_n 0, 1) := by decide +kernel
theorem dX6_readWord_1 : decode cX6_readWord 1 = .ok (.getfield 24, 3) := by decide +kernel
theorem dX6_readWord_4 : decode cX6_readWord 4 = .ok (.iconst (-1), 1) := by decide +kernel
theorem dX6_readWord_5 : decode cX6_readWord 5 = .ok (.if_icmp .ne 18, 3) := by decide +kernel
theorem dX6_readWord_8 : decode cX6_readWord 8 = .ok (.aload_n 0, 1) := by decide +kernel
theorem dX6_readWord_9 : decode cX6_readWord 9 = .ok (.aload_n 1, 1) := by decide +kernel
theorem dX6_readWord_10 : decode cX6_readWord 10 = .ok (.invokevirtual 36, 3) := by decide +kernel
theorem dX6_readWord_13 : decode cX6_readWord 13 = .ok (.ifCond .eq 10, 3) := by decide +kernel
theorem dX6_readWord_16 : decode cX6_readWord 16 = .ok (.aload_n 0, 1) := by decide +kernel
theorem dX6_readWord_17 : decode cX6_readWord 17 = .ok (.invokevirtual 27, 3) := by decide +kernel
theorem dX6_readWord_20 : decode cX6_readWord 20 = .ok (.goto 7, 3) := by decide +kernel
theorem dX6_readWord_23 : decode cX6_readWord 23 = .ok (.aload_n 0, 1) := by decide +kernel
theorem dX6_readWord_24 : decode cX6_readWord 24 = .ok (.invokevirtual 44, 3) := by decide +kernel
theorem dX6_readWord_27 : decode cX6_readWord 27 = .ok (.return_, 1) := by decide +kernel
set_option maxRecDepth 100000 in
set_option maxHeartbeats 40000000 in
theorem fx_X6_readWordR0 {G : vG} {l : Launch}  : Sp G l yX6_readWord cX6_readWord 2 none 6 0 0 [.ref 117, .ref 1000000] (WW σR) (QV (fun w2 => w2 = WW σF)) := by
  refine Sp_of_R [(some (.ref 117)), (some (.ref 1000000))] [] rfl (by simp) rfl (Nat.le_of_ble_eq_true rfl) ?_
  refine R_aload_n (pc := 0) dX6_readWord_0 rfl rfl ?_
  refine g_X6_24 (pc := 1) (v := .int (-1)) rfl dX6_readWord_1 (c_117 _) rfl ?_
  refine R_iconst (pc := 4) (v := (-1)) dX6_readWord_4 (by decide) ?_
  refine R_icne (pc := 5) 23 dX6_readWord_5 (by decide) (fun h => absurd (by decide) h) (fun _ => ?_)
  refine R_aload_n (pc := 8) dX6_readWord_8 rfl rfl ?_
  refine R_aload_n (pc := 9) dX6_readWord_9 rfl rfl ?_
  refine k_X6_36 (pc := 10) (fx_X6_isAtR0) rfl (c_117 _) (by decide) (Nat.le_refl _) (Nat.le_refl _) (Nat.le_of_ble_eq_true rfl) dX6_readWord_10 (fun x w2 h => ?_)
  obtain ⟨rfl, rfl⟩ := h
  refine R_ifeq (pc := 13) 23 dX6_readWord_13 (by decide) (fun _ => ?_) (fun h => absurd (by decide) h)
  refine R_aload_n (pc := 23) dX6_readWord_23 rfl rfl ?_
  refine k_X6_44 (pc := 24) (fx_X6_findWrongR) rfl (c_117 _) (by decide) (Nat.le_refl _) (Nat.le_refl _) (Nat.le_of_ble_eq_true rfl) dX6_readWord_24 (fun w2 h => ?_)
  subst h
  exact R_vret (pc := 27) dX6_readWord_27 rfl (Nat.zero_le _) (Nat.zero_le _) ⟨rfl, rfl⟩
set_option maxRecDepth 100000 in
set_option maxHeartbeats 40000000 in
theorem fx_X6_readWordF {G : vG} {l : Launch} (b : Nat) : Sp G l yX6_readWord cX6_readWord 2 none 6 0 0 [.ref 117, .ref b] (WW σF) (QV (fun w2 => w2 = WW σF)) := by
  refine Sp_of_R [(some (.ref 117)), (some (.ref b))] [] rfl (by simp) rfl (Nat.le_of_ble_eq_true rfl) ?_
  refine R_aload_n (pc := 0) dX6_readWord_0 rfl rfl ?_
  refine g_X6_24 (pc := 1) (v := .int 0) rfl dX6_readWord_1 (c_117 _) rfl ?_
  refine R_iconst (pc := 4) (v := (-1)) dX6_readWord_4 (by decide) ?_
  refine R_icne (pc := 5) 23 dX6_readWord_5 (by decide) (fun _ => ?_) (fun h => absurd h (by decide))
  refine R_aload_n (pc := 23) dX6_readWord_23 rfl rfl ?_
  refine k_X6_44 (pc := 24) (fx_X6_findWrongF) rfl (c_117 _) (by decide) (Nat.le_refl _) (Nat.le_refl _) (Nat.le_of_ble_eq_true rfl) dX6_readWord_24 (fun w2 h => ?_)
  subst h
  exact R_vret (pc := 27) dX6_readWord_27 rfl (Nat.zero_le _) (Nat.zero_le _) ⟨rfl, rfl⟩
theorem dX6_readLine_0 : decode cX6_readLine 0 = .ok (.aload_n 0, 1) := by decide +kernel
theorem dX6_readLine_1 : decode cX6_readLine 1 = .ok (.ldc 47, 2) := by decide +kernel
theorem dX6_readLine_3 : decode cX6_readLine 3 = .ok (.invokevirtual 49, 3) := by decide +kernel
theorem dX6_readLine_6 : decode cX6_readLine 6 = .ok (.aload_n 0, 1) := by decide +kernel
theorem dX6_readLine_7 : decode cX6_readLine 7 = .ok (.iconst 0, 1) := by decide +kernel
theorem dX6_readLine_8 : decode cX6_readLine 8 = .ok (.iconst 4, 1) := by decide +kernel
theorem dX6_readLine_9 : decode cX6_readLine 9 = .ok (.invokevirtual 53, 3) := by decide +kernel
theorem dX6_readLine_12 : decode cX6_readLine 12 = .ok (.istore_n 2, 1) := by decide +kernel
theorem dX6_readLine_13 : decode cX6_readLine 13 = .ok (.aload_n 0, 1) := by decide +kernel
theorem dX6_readLine_14 : decode cX6_readLine 14 = .ok (.ldc 57, 2) := by decide +kernel
theorem dX6_readLine_16 : decode cX6_readLine 16 = .ok (.invokevirtual 49, 3) := by decide +kernel
theorem dX6_readLine_19 : decode cX6_readLine 19 = .ok (.aload_n 0, 1) := by decide +kernel
theorem dX6_readLine_20 : decode cX6_readLine 20 = .ok (.iconst 1, 1) := by decide +kernel
theorem dX6_readLine_21 : decode cX6_readLine 21 = .ok (.bipush 99, 2) := by decide +kernel
theorem dX6_readLine_23 : decode cX6_readLine 23 = .ok (.invokevirtual 53, 3) := by decide +kernel
theorem dX6_readLine_26 : decode cX6_readLine 26 = .ok (.istore_n 3, 1) := by decide +kernel
theorem dX6_readLine_27 : decode cX6_readLine 27 = .ok (.aload_n 0, 1) := by decide +kernel
theorem dX6_readLine_28 : decode cX6_readLine 28 = .ok (.ldc 59, 2) := by decide +kernel
theorem dX6_readLine_30 : decode cX6_readLine 30 = .ok (.invokevirtual 49, 3) := by decide +kernel
theorem dX6_readLine_33 : decode cX6_readLine 33 = .ok (.aload_n 0, 1) := by decide +kernel
theorem dX6_readLine_34 : decode cX6_readLine 34 = .ok (.iload_n 3, 1) := by decide +kernel
theorem dX6_readLine_35 : decode cX6_readLine 35 = .ok (.bipush 99, 2) := by decide +kernel
theorem dX6_readLine_37 : decode cX6_readLine 37 = .ok (.invokevirtual 53, 3) := by decide +kernel
theorem dX6_readLine_40 : decode cX6_readLine 40 = .ok (.istore 4, 2) := by decide +kernel
theorem dX6_readLine_42 : decode cX6_readLine 42 = .ok (.aload_n 0, 1) := by decide +kernel
theorem dX6_readLine_43 : decode cX6_readLine 43 = .ok (.ldc 61, 2) := by decide +kernel
theorem dX6_readLine_45 : decode cX6_readLine 45 = .ok (.invokevirtual 36, 3) := by decide +kernel
theorem dX6_readLine_48 : decode cX6_readLine 48 = .ok (.istore 5, 2) := by decide +kernel
theorem dX6_readLine_50 : decode cX6_readLine 50 = .ok (.iload 5, 2) := by decide +kernel
theorem dX6_readLine_52 : decode cX6_readLine 52 = .ok (.ifCond .eq 39, 3) := by decide +kernel
theorem dX6_readLine_55 : decode cX6_readLine 55 = .ok (.aload_n 0, 1) := by decide +kernel
theorem dX6_readLine_56 : decode cX6_readLine 56 = .ok (.ldc 61, 2) := by decide +kernel
theorem dX6_readLine_58 : decode cX6_readLine 58 = .ok (.invokevirtual 49, 3) := by decide +kernel
theorem dX6_readLine_61 : decode cX6_readLine 61 = .ok (.aload_n 0, 1) := by decide +kernel
theorem dX6_readLine_62 : decode cX6_readLine 62 = .ok (.iconst 0, 1) := by decide +kernel
theorem dX6_readLine_63 : decode cX6_readLine 63 = .ok (.sipush 20000, 3) := by decide +kernel
theorem dX6_readLine_66 : decode cX6_readLine 66 = .ok (.invokevirtual 53, 3) := by decide +kernel
theorem dX6_readLine_69 : decode cX6_readLine 69 = .ok (.istore 6, 2) := by decide +kernel
theorem dX6_readLine_71 : decode cX6_readLine 71 = .ok (.aload_n 0, 1) := by decide +kernel
theorem dX6_readLine_72 : decode cX6_readLine 72 = .ok (.ldc 59, 2) := by decide +kernel
theorem dX6_readLine_74 : decode cX6_readLine 74 = .ok (.invokevirtual 49, 3) := by decide +kernel
theorem dX6_readLine_77 : decode cX6_readLine 77 = .ok (.aload_n 0, 1) := by decide +kernel
theorem dX6_readLine_78 : decode cX6_readLine 78 = .ok (.iload 6, 2) := by decide +kernel
theorem dX6_readLine_80 : decode cX6_readLine 80 = .ok (.sipush 20000, 3) := by decide +kernel
theorem dX6_readLine_83 : decode cX6_readLine 83 = .ok (.invokevirtual 53, 3) := by decide +kernel
theorem dX6_readLine_86 : decode cX6_readLine 86 = .ok (.istore 7, 2) := by decide +kernel
theorem dX6_readLine_88 : decode cX6_readLine 88 = .ok (.goto 21, 3) := by decide +kernel
theorem dX6_readLine_91 : decode cX6_readLine 91 = .ok (.aload_n 0, 1) := by decide +kernel
theorem dX6_readLine_92 : decode cX6_readLine 92 = .ok (.ldc 63, 2) := by decide +kernel
theorem dX6_readLine_94 : decode cX6_readLine 94 = .ok (.invokevirtual 49, 3) := by decide +kernel
theorem dX6_readLine_97 : decode cX6_readLine 97 = .ok (.aload_n 0, 1) := by decide +kernel
theorem dX6_readLine_98 : decode cX6_readLine 98 = .ok (.iconst 0, 1) := by decide +kernel
theorem dX6_readLine_99 : decode cX6_readLine 99 = .ok (.iconst 4, 1) := by decide +kernel
theorem dX6_readLine_100 : decode cX6_readLine 100 = .ok (.invokevirtual 53, 3) := by decide +kernel
theorem dX6_readLine_103 : decode cX6_readLine 103 = .ok (.istore 6, 2) := by decide +kernel
theorem dX6_readLine_105 : decode cX6_readLine 105 = .ok (.iload 6, 2) := by decide +kernel
theorem dX6_readLine_107 : decode cX6_readLine 107 = .ok (.istore 7, 2) := by decide +kernel
theorem dX6_readLine_109 : decode cX6_readLine 109 = .ok (.aload_n 0, 1) := by decide +kernel
theorem dX6_readLine_110 : decode cX6_readLine 110 = .ok (.getfield 24, 3) := by decide +kernel
theorem dX6_readLine_113 : decode cX6_readLine 113 = .ok (.iconst (-1), 1) := by decide +kernel
theorem dX6_readLine_114 : decode cX6_readLine 114 = .ok (.if_icmp .ne 86, 3) := by decide +kernel
theorem dX6_readLine_117 : decode cX6_readLine 117 = .ok (.aload_n 1, 1) := by decide +kernel
theorem dX6_readLine_118 : decode cX6_readLine 118 = .ok (.getfield 15, 3) := by decide +kernel
theorem dX6_readLine_121 : decode cX6_readLine 121 = .ok (.bipush 8, 2) := by decide +kernel
theorem dX6_readLine_123 : decode cX6_readLine 123 = .ok (.if_icmp .ge 77, 3) := by decide +kernel
theorem dX6_readLine_126 : decode cX6_readLine 126 = .ok (.aload_n 1, 1) := by decide +kernel
theorem dX6_readLine_127 : decode cX6_readLine 127 = .ok (.getfield 65, 3) := by decide +kernel
theorem dX6_readLine_130 : decode cX6_readLine 130 = .ok (.aload_n 1, 1) := by decide +kernel
theorem dX6_readLine_131 : decode cX6_readLine 131 = .ok (.getfield 15, 3) := by decide +kernel
theorem dX6_readLine_134 : decode cX6_readLine 134 = .ok (.iload_n 2, 1) := by decide +kernel
theorem dX6_readLine_135 : decode cX6_readLine 135 = .ok (.iastore, 1) := by decide +kernel
theorem dX6_readLine_136 : decode cX6_readLine 136 = .ok (.aload_n 1, 1) := by decide +kernel
theorem dX6_readLine_137 : decode cX6_readLine 137 = .ok (.getfield 68, 3) := by decide +kernel
theorem dX6_readLine_140 : decode cX6_readLine 140 = .ok (.aload_n 1, 1) := by decide +kernel
theorem dX6_readLine_141 : decode cX6_readLine 141 = .ok (.getfield 15, 3) := by decide +kernel
theorem dX6_readLine_144 : decode cX6_readLine 144 = .ok (.iload_n 3, 1) := by decide +kernel
theorem dX6_readLine_145 : decode cX6_readLine 145 = .ok (.iastore, 1) := by decide +kernel
theorem dX6_readLine_146 : decode cX6_readLine 146 = .ok (.aload_n 1, 1) := by decide +kernel
theorem dX6_readLine_147 : decode cX6_readLine 147 = .ok (.getfield 71, 3) := by decide +kernel
theorem dX6_readLine_150 : decode cX6_readLine 150 = .ok (.aload_n 1, 1) := by decide +kernel
theorem dX6_readLine_151 : decode cX6_readLine 151 = .ok (.getfield 15, 3) := by decide +kernel
theorem dX6_readLine_154 : decode cX6_readLine 154 = .ok (.iload 4, 2) := by decide +kernel
theorem dX6_readLine_156 : decode cX6_readLine 156 = .ok (.iastore, 1) := by decide +kernel
theorem dX6_readLine_157 : decode cX6_readLine 157 = .ok (.aload_n 1, 1) := by decide +kernel
theorem dX6_readLine_158 : decode cX6_readLine 158 = .ok (.getfield 74, 3) := by decide +kernel
theorem dX6_readLine_161 : decode cX6_readLine 161 = .ok (.aload_n 1, 1) := by decide +kernel
theorem dX6_readLine_162 : decode cX6_readLine 162 = .ok (.getfield 15, 3) := by decide +kernel
theorem dX6_readLine_165 : decode cX6_readLine 165 = .ok (.iload 5, 2) := by decide +kernel
theorem dX6_readLine_167 : decode cX6_readLine 167 = .ok (.bastore, 1) := by decide +kernel
theorem dX6_readLine_168 : decode cX6_readLine 168 = .ok (.aload_n 1, 1) := by decide +kernel
theorem dX6_readLine_169 : decode cX6_readLine 169 = .ok (.getfield 78, 3) := by decide +kernel
theorem dX6_readLine_172 : decode cX6_readLine 172 = .ok (.aload_n 1, 1) := by decide +kernel
theorem dX6_readLine_173 : decode cX6_readLine 173 = .ok (.getfield 15, 3) := by decide +kernel
theorem dX6_readLine_176 : decode cX6_readLine 176 = .ok (.iload 6, 2) := by decide +kernel
theorem dX6_readLine_178 : decode cX6_readLine 178 = .ok (.iastore, 1) := by decide +kernel
theorem dX6_readLine_179 : decode cX6_readLine 179 = .ok (.aload_n 1, 1) := by decide +kernel
theorem dX6_readLine_180 : decode cX6_readLine 180 = .ok (.getfield 81, 3) := by decide +kernel
theorem dX6_readLine_183 : decode cX6_readLine 183 = .ok (.aload_n 1, 1) := by decide +kernel
theorem dX6_readLine_184 : decode cX6_readLine 184 = .ok (.getfield 15, 3) := by decide +kernel
theorem dX6_readLine_187 : decode cX6_readLine 187 = .ok (.iload 7, 2) := by decide +kernel
theorem dX6_readLine_189 : decode cX6_readLine 189 = .ok (.iastore, 1) := by decide +kernel
theorem dX6_readLine_190 : decode cX6_readLine 190 = .ok (.aload_n 1, 1) := by decide +kernel
theorem dX6_readLine_191 : decode cX6_readLine 191 = .ok (.dup, 1) := by decide +kernel
theorem dX6_readLine_192 : decode cX6_readLine 192 = .ok (.getfield 15, 3) := by decide +kernel
theorem dX6_readLine_195 : decode cX6_readLine 195 = .ok (.iconst 1, 1) := by decide +kernel
theorem dX6_readLine_196 : decode cX6_readLine 196 = .ok (.iadd, 1) := by decide +kernel
theorem dX6_readLine_197 : decode cX6_readLine 197 = .ok (.putfield 15, 3) := by decide +kernel
theorem dX6_readLine_200 : decode cX6_readLine 200 = .ok (.return_, 1) := by decide +kernel
set_option maxRecDepth 100000 in
set_option maxHeartbeats 40000000 in
theorem fx_X6_readLine {G : vG} {l : Launch}  : Sp G l yX6_readLine cX6_readLine 8 none 7 0 0 [.ref 117, .ref 133] (WW σR) (QV (fun w2 => w2 = WW σF)) := by
  refine Sp_of_R [(some (.ref 117)), (some (.ref 133)), none, none, none, none, none, none] [none, none, none, none, none, none] rfl (by simp) rfl (Nat.le_of_ble_eq_true rfl) ?_
  refine R_aload_n (pc := 0) dX6_readLine_0 rfl rfl ?_
  refine R_ldcS (pc := 1) (i := 0) rfl rfl dX6_readLine_1 (adS _ (by decide)) ?_
  refine k_X6_49 (pc := 3) (fx_X6_readWordR0) rfl (c_117 _) (by decide) (Nat.le_refl _) (Nat.le_refl _) (Nat.le_of_ble_eq_true rfl) dX6_readLine_3 (fun w2 h => ?_)
  subst h
  refine R_aload_n (pc := 6) dX6_readLine_6 rfl rfl ?_
  refine R_iconst (pc := 7) (v := 0) dX6_readLine_7 (by decide) ?_
  refine R_iconst (pc := 8) (v := 4) dX6_readLine_8 (by decide) ?_
  refine k_X6_53 (pc := 9) (fx_X6_readNumber _ _) rfl (c_117 _) (by decide) (Nat.le_refl _) (Nat.le_refl _) (Nat.le_of_ble_eq_true rfl) dX6_readLine_9 (fun x w2 h => ?_)
  obtain ⟨rfl, rfl⟩ := h
  refine st_8_2_i_a (pc := 12) dX6_readLine_12 ?_
  refine R_aload_n (pc := 13) dX6_readLine_13 rfl rfl ?_
  refine R_ldcS (pc := 14) (i := 1) rfl rfl dX6_readLine_14 (adS _ (by decide)) ?_
  refine k_X6_49 (pc := 16) (fx_X6_readWordF _) rfl (c_117 _) (by decide) (Nat.le_refl _) (Nat.le_refl _) (Nat.le_of_ble_eq_true rfl) dX6_readLine_16 (fun w2 h => ?_)
  subst h
  refine R_aload_n (pc := 19) dX6_readLine_19 rfl rfl ?_
  refine R_iconst (pc := 20) (v := 1) dX6_readLine_20 (by decide) ?_
  refine R_bipush (pc := 21) (v := 99) dX6_readLine_21 (by decide) ?_
  refine k_X6_53 (pc := 23) (fx_X6_readNumber _ _) rfl (c_117 _) (by decide) (Nat.le_refl _) (Nat.le_refl _) (Nat.le_of_ble_eq_true rfl) dX6_readLine_23 (fun x w2 h => ?_)
  obtain ⟨rfl, rfl⟩ := h
  refine st_8_3_i_i (pc := 26) dX6_readLine_26 ?_
  refine R_aload_n (pc := 27) dX6_readLine_27 rfl rfl ?_
  refine R_ldcS (pc := 28) (i := 2) rfl rfl dX6_readLine_28 (adS _ (by decide)) ?_
  refine k_X6_49 (pc := 30) (fx_X6_readWordF _) rfl (c_117 _) (by decide) (Nat.le_refl _) (Nat.le_refl _) (Nat.le_of_ble_eq_true rfl) dX6_readLine_30 (fun w2 h => ?_)
  subst h
  refine R_aload_n (pc := 33) dX6_readLine_33 rfl rfl ?_
  refine R_iload_n (pc := 34) dX6_readLine_34 rfl rfl ?_
  refine R_bipush (pc := 35) (v := 99) dX6_readLine_35 (by decide) ?_
  refine k_X6_53 (pc := 37) (fx_X6_readNumber _ _) rfl (c_117 _) (by decide) (Nat.le_refl _) (Nat.le_refl _) (Nat.le_of_ble_eq_true rfl) dX6_readLine_37 (fun x w2 h => ?_)
  obtain ⟨rfl, rfl⟩ := h
  refine st_8_4_i_i (pc := 40) dX6_readLine_40 ?_
  refine R_aload_n (pc := 42) dX6_readLine_42 rfl rfl ?_
  refine R_ldcS (pc := 43) (i := 3) rfl rfl dX6_readLine_43 (adS _ (by decide)) ?_
  refine k_X6_36 (pc := 45) (fx_X6_isAtF3) rfl (c_117 _) (by decide) (Nat.le_refl _) (Nat.le_refl _) (Nat.le_of_ble_eq_true rfl) dX6_readLine_45 (fun x w2 h => ?_)
  obtain ⟨rfl, rfl⟩ := h
  refine st_8_5_i_i (pc := 48) dX6_readLine_48 ?_
  refine R_iload (pc := 50) dX6_readLine_50 rfl ?_
  refine R_ifeq (pc := 52) 91 dX6_readLine_52 (by decide) (fun _ => ?_) (fun h => absurd (by decide) h)
  refine R_aload_n (pc := 91) dX6_readLine_91 rfl rfl ?_
  refine R_ldcS (pc := 92) (i := 4) rfl rfl dX6_readLine_92 (adS _ (by decide)) ?_
  refine k_X6_49 (pc := 94) (fx_X6_readWordF _) rfl (c_117 _) (by decide) (Nat.le_refl _) (Nat.le_refl _) (Nat.le_of_ble_eq_true rfl) dX6_readLine_94 (fun w2 h => ?_)
  subst h
  refine R_aload_n (pc := 97) dX6_readLine_97 rfl rfl ?_
  refine R_iconst (pc := 98) (v := 0) dX6_readLine_98 (by decide) ?_
  refine R_iconst (pc := 99) (v := 4) dX6_readLine_99 (by decide) ?_
  refine k_X6_53 (pc := 100) (fx_X6_readNumber _ _) rfl (c_117 _) (by decide) (Nat.le_refl _) (Nat.le_refl _) (Nat.le_of_ble_eq_true rfl) dX6_readLine_100 (fun x w2 h => ?_)
  obtain ⟨rfl, rfl⟩ := h
  refine st_8_6_i_i (pc := 103) dX6_readLine_103 ?_
  refine R_iload (pc := 105) dX6_readLine_105 rfl ?_
  refine st_8_7_i_i (pc := 107) dX6_readLine_107 ?_
  refine R_aload_n (pc := 109) dX6_readLine_109 rfl rfl ?_
  refine g_X6_24 (pc := 110) (v := .int 0) rfl dX6_readLine_110 (c_117 _) rfl ?_
  refine R_iconst (pc := 113) (v := (-1)) dX6_readLine_113 (by decide) ?_
  refine R_icne (pc := 114) 200 dX6_readLine_114 (by decide) (fun _ => ?_) (fun h => absurd h (by decide))
  exact R_vret (pc := 200) dX6_readLine_200 rfl (Nat.zero_le _) (Nat.zero_le _) ⟨rfl, rfl⟩
theorem dX6_read_0 : decode cX6_read 0 = .ok (.aload_n 1, 1) := by decide +kernel
theorem dX6_read_1 : decode cX6_read 1 = .ok (.iconst 0, 1) := by decide +kernel
theorem dX6_read_2 : decode cX6_read 2 = .ok (.putfield 15, 3) := by decide +kernel
theorem dX6_read_5 : decode cX6_read 5 = .ok (.aload_n 0, 1) := by decide +kernel
theorem dX6_read_6 : decode cX6_read 6 = .ok (.iconst 0, 1) := by decide +kernel
theorem dX6_read_7 : decode cX6_read 7 = .ok (.putfield 21, 3) := by decide +kernel
theorem dX6_read_10 : decode cX6_read 10 = .ok (.aload_n 0, 1) := by decide +kernel
theorem dX6_read_11 : decode cX6_read 11 = .ok (.iconst (-1), 1) := by decide +kernel
theorem dX6_read_12 : decode cX6_read 12 = .ok (.putfield 24, 3) := by decide +kernel
theorem dX6_read_15 : decode cX6_read 15 = .ok (.aload_n 0, 1) := by decide +kernel
theorem dX6_read_16 : decode cX6_read 16 = .ok (.invokevirtual 27, 3) := by decide +kernel
theorem dX6_read_19 : decode cX6_read 19 = .ok (.aload_n 0, 1) := by decide +kernel
theorem dX6_read_20 : decode cX6_read 20 = .ok (.aload_n 1, 1) := by decide +kernel
theorem dX6_read_21 : decode cX6_read 21 = .ok (.invokevirtual 30, 3) := by decide +kernel
theorem dX6_read_24 : decode cX6_read 24 = .ok (.iconst 1, 1) := by decide +kernel
theorem dX6_read_25 : decode cX6_read 25 = .ok (.istore_n 2, 1) := by decide +kernel
theorem dX6_read_26 : decode cX6_read 26 = .ok (.iload_n 2, 1) := by decide +kernel
theorem dX6_read_27 : decode cX6_read 27 = .ok (.bipush 8, 2) := by decide +kernel
theorem dX6_read_29 : decode cX6_read 29 = .ok (.if_icmp .ge 35, 3) := by decide +kernel
theorem dX6_read_32 : decode cX6_read 32 = .ok (.aload_n 0, 1) := by decide +kernel
theorem dX6_read_33 : decode cX6_read 33 = .ok (.getfield 24, 3) := by decide +kernel
theorem dX6_read_36 : decode cX6_read 36 = .ok (.iconst (-1), 1) := by decide +kernel
theorem dX6_read_37 : decode cX6_read 37 = .ok (.if_icmp .ne 27, 3) := by decide +kernel
theorem dX6_read_40 : decode cX6_read 40 = .ok (.aload_n 0, 1) := by decide +kernel
theorem dX6_read_41 : decode cX6_read 41 = .ok (.ldc 34, 2) := by decide +kernel
theorem dX6_read_43 : decode cX6_read 43 = .ok (.invokevirtual 36, 3) := by decide +kernel
theorem dX6_read_46 : decode cX6_read 46 = .ok (.ifCond .eq 18, 3) := by decide +kernel
theorem dX6_read_49 : decode cX6_read 49 = .ok (.aload_n 0, 1) := by decide +kernel
theorem dX6_read_50 : decode cX6_read 50 = .ok (.invokevirtual 27, 3) := by decide +kernel
theorem dX6_read_53 : decode cX6_read 53 = .ok (.aload_n 0, 1) := by decide +kernel
theorem dX6_read_54 : decode cX6_read 54 = .ok (.aload_n 1, 1) := by decide +kernel
theorem dX6_read_55 : decode cX6_read 55 = .ok (.invokevirtual 30, 3) := by decide +kernel
theorem dX6_read_58 : decode cX6_read 58 = .ok (.iinc 2 1, 3) := by decide +kernel
theorem dX6_read_61 : decode cX6_read 61 = .ok (.goto (-35), 3) := by decide +kernel
theorem dX6_read_64 : decode cX6_read 64 = .ok (.aload_n 0, 1) := by decide +kernel
theorem dX6_read_65 : decode cX6_read 65 = .ok (.getfield 40, 3) := by decide +kernel
theorem dX6_read_68 : decode cX6_read 68 = .ok (.aload_n 0, 1) := by decide +kernel
theorem dX6_read_69 : decode cX6_read 69 = .ok (.getfield 43, 3) := by decide +kernel
theorem dX6_read_72 : decode cX6_read 72 = .ok (.if_icmp .ge 7, 3) := by decide +kernel
theorem dX6_read_75 : decode cX6_read 75 = .ok (.aload_n 0, 1) := by decide +kernel
theorem dX6_read_76 : decode cX6_read 76 = .ok (.invokevirtual 44, 3) := by decide +kernel
theorem dX6_read_79 : decode cX6_read 79 = .ok (.aload_n 0, 1) := by decide +kernel
theorem dX6_read_80 : decode cX6_read 80 = .ok (.getfield 24, 3) := by decide +kernel
theorem dX6_read_83 : decode cX6_read 83 = .ok (.ireturn, 1) := by decide +kernel
set_option maxRecDepth 100000 in
set_option maxHeartbeats 40000000 in
theorem fx_X6_read {G : vG} {l : Launch}  : Sp G l yX6_read cX6_read 3 (some .int) 8 0 0 [.ref 117, .ref 133] (WW σF) (QI (fun x w2 => w2 = WW σF ∧ x = 0)) := by
  refine Sp_of_R [(some (.ref 117)), (some (.ref 133)), none] [none] rfl (by simp) rfl (Nat.le_of_ble_eq_true rfl) ?_
  refine R_aload_n (pc := 0) dX6_read_0 rfl rfl ?_
  refine R_iconst (pc := 1) (v := 0) dX6_read_1 (by decide) ?_
  refine p_X6_15 (pc := 2) rfl dX6_read_2 (c_133 _) (Nat.le_of_ble_eq_true rfl) rfl rfl (s_133_6 _ _) ?_
  refine R_aload_n (pc := 5) dX6_read_5 rfl rfl ?_
  refine R_iconst (pc := 6) (v := 0) dX6_read_6 (by decide) ?_
  refine p_X6_21 (pc := 7) rfl dX6_read_7 (c_117 _) (Nat.le_of_ble_eq_true rfl) rfl rfl (s_117_3 _ _) ?_
  refine R_aload_n (pc := 10) dX6_read_10 rfl rfl ?_
  refine R_iconst (pc := 11) (v := (-1)) dX6_read_11 (by decide) ?_
  refine p_X6_24 (pc := 12) rfl dX6_read_12 (c_117 _) (Nat.le_of_ble_eq_true rfl) rfl rfl (s_117_4 _ _) ?_
  refine R_aload_n (pc := 15) dX6_read_15 rfl rfl ?_
  refine R_weq (WW σR) rfl ?_
  refine k_X6_27 (pc := 16) (fx_X6_goOn) rfl (c_117 _) (by decide) (Nat.le_refl _) (Nat.le_refl _) (Nat.le_of_ble_eq_true rfl) dX6_read_16 (fun w2 h => ?_)
  subst h
  refine R_aload_n (pc := 19) dX6_read_19 rfl rfl ?_
  refine R_aload_n (pc := 20) dX6_read_20 rfl rfl ?_
  refine k_X6_30 (pc := 21) (fx_X6_readLine) rfl (c_117 _) (by decide) (Nat.le_refl _) (Nat.le_refl _) (Nat.le_of_ble_eq_true rfl) dX6_read_21 (fun w2 h => ?_)
  subst h
  refine R_iconst (pc := 24) (v := 1) dX6_read_24 (by decide) ?_
  refine st_3_2_i_a (pc := 25) dX6_read_25 ?_
  refine R_iload_n (pc := 26) dX6_read_26 rfl rfl ?_
  refine R_bipush (pc := 27) (v := 8) dX6_read_27 (by decide) ?_
  refine R_icge (pc := 29) 64 dX6_read_29 (by decide) (fun h => absurd h (by decide)) (fun _ => ?_)
  refine R_aload_n (pc := 32) dX6_read_32 rfl rfl ?_
  refine g_X6_24 (pc := 33) (v := .int 0) rfl dX6_read_33 (c_117 _) rfl ?_
  refine R_iconst (pc := 36) (v := (-1)) dX6_read_36 (by decide) ?_
  refine R_icne (pc := 37) 64 dX6_read_37 (by decide) (fun _ => ?_) (fun h => absurd h (by decide))
  refine R_aload_n (pc := 64) dX6_read_64 rfl rfl ?_
  refine g_X6_40 (pc := 65) (v := .int 0) rfl dX6_read_65 (c_117 _) rfl ?_
  refine R_aload_n (pc := 68) dX6_read_68 rfl rfl ?_
  refine g_X6_43 (pc := 69) (v := .int 0) rfl dX6_read_69 (c_117 _) rfl ?_
  refine R_icge (pc := 72) 79 dX6_read_72 (by decide) (fun _ => ?_) (fun h => absurd (by decide) h)
  refine R_aload_n (pc := 79) dX6_read_79 rfl rfl ?_
  refine g_X6_24 (pc := 80) (v := .int 0) rfl dX6_read_80 (c_117 _) rfl ?_
  exact R_iret (pc := 83) dX6_read_83 rfl rfl (Nat.zero_le _) (Nat.zero_le _) ⟨_, rfl, rfl, rfl⟩
theorem dX8_fault_0 : decode cX8_fault 0 = .ok (.aload_n 0, 1) := by decide +kernel
theorem dX8_fault_1 : decode cX8_fault 1 = .ok (.getfield 51, 3) := by decide +kernel
theorem dX8_fault_4 : decode cX8_fault 4 = .ok (.aload_n 0, 1) := by decide +kernel
theorem dX8_fault_5 : decode cX8_fault 5 = .ok (.getfield 65, 3) := by decide +kernel
theorem dX8_fault_8 : decode cX8_fault 8 = .ok (.invokevirtual 295, 3) := by decide +kernel
theorem dX8_fault_11 : decode cX8_fault 11 = .ok (.ireturn, 1) := by decide +kernel
set_option maxRecDepth 100000 in
set_option maxHeartbeats 40000000 in
theorem fp_fault {G : vG} {l : Launch}  : Sp G l yX8_fault cX8_fault 1 (some .int) 9 0 0 [.ref 0] (WW σF) (QI (fun x w2 => x = 0 ∧ ∃ τ, w2 = WW (mx τ))) := by
  refine Sp_of_R [(some (.ref 0))] [] rfl (by simp) rfl (Nat.le_of_ble_eq_true rfl) ?_
  refine R_aload_n (pc := 0) dX8_fault_0 rfl rfl ?_
  refine g_X8_51 (pc := 1) (v := .ref 117) rfl dX8_fault_1 (c_0 _) rfl ?_
  refine R_aload_n (pc := 4) dX8_fault_4 rfl rfl ?_
  refine g_X8_65 (pc := 5) (v := .ref 133) rfl dX8_fault_5 (c_0 _) rfl ?_
  refine k_X8_295 (pc := 8) (fx_X6_read) rfl (c_117 _) (by decide) (Nat.le_refl _) (Nat.le_refl _) (Nat.le_of_ble_eq_true rfl) dX8_fault_8 (fun x w2 h => ?_)
  obtain ⟨rfl, rfl⟩ := h
  exact R_iret (pc := 11) dX8_fault_11 rfl rfl (Nat.zero_le _) (Nat.zero_le _) ⟨_, rfl, rfl, mxI _ rfl⟩
theorem dX8_catalogue_0 : decode cX8_catalogue 0 = .ok (.aload_n 0, 1) := by decide +kernel
theorem dX8_catalogue_1 : decode cX8_catalogue 1 = .ok (.getfield 51, 3) := by decide +kernel
theorem dX8_catalogue_4 : decode cX8_catalogue 4 = .ok (.aload_n 0, 1) := by decide +kernel
theorem dX8_catalogue_5 : decode cX8_catalogue 5 = .ok (.getfield 65, 3) := by decide +kernel
theorem dX8_catalogue_8 : decode cX8_catalogue 8 = .ok (.invokevirtual 295, 3) := by decide +kernel
theorem dX8_catalogue_11 : decode cX8_catalogue 11 = .ok (.iconst (-1), 1) := by decide +kernel
theorem dX8_catalogue_12 : decode cX8_catalogue 12 = .ok (.if_icmp .eq 6, 3) := by decide +kernel
theorem dX8_catalogue_15 : decode cX8_catalogue 15 = .ok (.bipush (-4), 2) := by decide +kernel
theorem dX8_catalogue_17 : decode cX8_catalogue 17 = .ok (.ireturn, 1) := by decide +kernel
theorem dX8_catalogue_18 : decode cX8_catalogue 18 = .ok (.aload_n 0, 1) := by decide +kernel
theorem dX8_catalogue_19 : decode cX8_catalogue 19 = .ok (.getfield 62, 3) := by decide +kernel
theorem dX8_catalogue_22 : decode cX8_catalogue 22 = .ok (.astore_n 1, 1) := by decide +kernel
theorem dX8_catalogue_23 : decode cX8_catalogue 23 = .ok (.aload_n 0, 1) := by decide +kernel
theorem dX8_catalogue_24 : decode cX8_catalogue 24 = .ok (.aload_n 0, 1) := by decide +kernel
theorem dX8_catalogue_25 : decode cX8_catalogue 25 = .ok (.getfield 65, 3) := by decide +kernel
theorem dX8_catalogue_28 : decode cX8_catalogue 28 = .ok (.putfield 62, 3) := by decide +kernel
theorem dX8_catalogue_31 : decode cX8_catalogue 31 = .ok (.aload_n 0, 1) := by decide +kernel
theorem dX8_catalogue_32 : decode cX8_catalogue 32 = .ok (.aload_n 1, 1) := by decide +kernel
theorem dX8_catalogue_33 : decode cX8_catalogue 33 = .ok (.putfield 65, 3) := by decide +kernel
theorem dX8_catalogue_36 : decode cX8_catalogue 36 = .ok (.aload_n 0, 1) := by decide +kernel
theorem dX8_catalogue_37 : decode cX8_catalogue 37 = .ok (.getfield 62, 3) := by decide +kernel
theorem dX8_catalogue_40 : decode cX8_catalogue 40 = .ok (.getfield 299, 3) := by decide +kernel
theorem dX8_catalogue_43 : decode cX8_catalogue 43 = .ok (.ireturn, 1) := by decide +kernel
set_option maxRecDepth 100000 in
set_option maxHeartbeats 40000000 in
theorem fp_catalogue {G : vG} {l : Launch}  : Sp G l yX8_catalogue cX8_catalogue 2 (some .int) 9 0 0 [.ref 0] (WW σF) (QI (fun x w2 => x = -4 ∧ ∃ τ, w2 = WW (mx τ))) := by
  refine Sp_of_R [(some (.ref 0)), none] [none] rfl (by simp) rfl (Nat.le_of_ble_eq_true rfl) ?_
  refine R_aload_n (pc := 0) dX8_catalogue_0 rfl rfl ?_
  refine g_X8_51 (pc := 1) (v := .ref 117) rfl dX8_catalogue_1 (c_0 _) rfl ?_
  refine R_aload_n (pc := 4) dX8_catalogue_4 rfl rfl ?_
  refine g_X8_65 (pc := 5) (v := .ref 133) rfl dX8_catalogue_5 (c_0 _) rfl ?_
  refine k_X8_295 (pc := 8) (fx_X6_read) rfl (c_117 _) (by decide) (Nat.le_refl _) (Nat.le_refl _) (Nat.le_of_ble_eq_true rfl) dX8_catalogue_8 (fun x w2 h => ?_)
  obtain ⟨rfl, rfl⟩ := h
  refine R_iconst (pc := 11) (v := (-1)) dX8_catalogue_11 (by decide) ?_
  refine R_iceq (pc := 12) 18 dX8_catalogue_12 (by decide) (fun h => absurd h (by decide)) (fun _ => ?_)
  refine R_bipush (pc := 15) (v := (-4)) dX8_catalogue_15 (by decide) ?_
  exact R_iret (pc := 17) dX8_catalogue_17 rfl rfl (Nat.zero_le _) (Nat.zero_le _) ⟨_, rfl, rfl, mxI _ rfl⟩
theorem dX9_nextToken_0 : decode cX9_nextToken 0 = .ok (.aload_n 0, 1) := by decide +kernel
theorem dX9_nextToken_1 : decode cX9_nextToken 1 = .ok (.getfield 257, 3) := by decide +kernel
theorem dX9_nextToken_4 : decode cX9_nextToken 4 = .ok (.aload_n 0, 1) := by decide +kernel
theorem dX9_nextToken_5 : decode cX9_nextToken 5 = .ok (.getfield 254, 3) := by decide +kernel
theorem dX9_nextToken_8 : decode cX9_nextToken 8 = .ok (.if_icmp .ge 30, 3) := by decide +kernel
theorem dX9_nextToken_11 : decode cX9_nextToken 11 = .ok (.aload_n 0, 1) := by decide +kernel
theorem dX9_nextToken_12 : decode cX9_nextToken 12 = .ok (.getfield 108, 3) := by decide +kernel
theorem dX9_nextToken_15 : decode cX9_nextToken 15 = .ok (.aload_n 0, 1) := by decide +kernel
theorem dX9_nextToken_16 : decode cX9_nextToken 16 = .ok (.getfield 257, 3) := by decide +kernel
theorem dX9_nextToken_19 : decode cX9_nextToken 19 = .ok (.iaload, 1) := by decide +kernel
theorem dX9_nextToken_20 : decode cX9_nextToken 20 = .ok (.bipush 32, 2) := by decide +kernel
theorem dX9_nextToken_22 : decode cX9_nextToken 22 = .ok (.if_icmp .ne 16, 3) := by decide +kernel
theorem dX9_nextToken_25 : decode cX9_nextToken 25 = .ok (.aload_n 0, 1) := by decide +kernel
theorem dX9_nextToken_26 : decode cX9_nextToken 26 = .ok (.dup, 1) := by decide +kernel
theorem dX9_nextToken_27 : decode cX9_nextToken 27 = .ok (.getfield 257, 3) := by decide +kernel
theorem dX9_nextToken_30 : decode cX9_nextToken 30 = .ok (.iconst 1, 1) := by decide +kernel
theorem dX9_nextToken_31 : decode cX9_nextToken 31 = .ok (.iadd, 1) := by decide +kernel
theorem dX9_nextToken_32 : decode cX9_nextToken 32 = .ok (.putfield 257, 3) := by decide +kernel
theorem dX9_nextToken_35 : decode cX9_nextToken 35 = .ok (.goto (-35), 3) := by decide +kernel
theorem dX9_nextToken_38 : decode cX9_nextToken 38 = .ok (.aload_n 0, 1) := by decide +kernel
theorem dX9_nextToken_39 : decode cX9_nextToken 39 = .ok (.aload_n 0, 1) := by decide +kernel
theorem dX9_nextToken_40 : decode cX9_nextToken 40 = .ok (.getfield 257, 3) := by decide +kernel
theorem dX9_nextToken_43 : decode cX9_nextToken 43 = .ok (.putfield 260, 3) := by decide +kernel
theorem dX9_nextToken_46 : decode cX9_nextToken 46 = .ok (.aload_n 0, 1) := by decide +kernel
theorem dX9_nextToken_47 : decode cX9_nextToken 47 = .ok (.iconst 0, 1) := by decide +kernel
theorem dX9_nextToken_48 : decode cX9_nextToken 48 = .ok (.putfield 263, 3) := by decide +kernel
theorem dX9_nextToken_51 : decode cX9_nextToken 51 = .ok (.aload_n 0, 1) := by decide +kernel
theorem dX9_nextToken_52 : decode cX9_nextToken 52 = .ok (.iconst 0, 1) := by decide +kernel
theorem dX9_nextToken_53 : decode cX9_nextToken 53 = .ok (.putfield 266, 3) := by decide +kernel
theorem dX9_nextToken_56 : decode cX9_nextToken 56 = .ok (.aload_n 0, 1) := by decide +kernel
theorem dX9_nextToken_57 : decode cX9_nextToken 57 = .ok (.getfield 257, 3) := by decide +kernel
theorem dX9_nextToken_60 : decode cX9_nextToken 60 = .ok (.aload_n 0, 1) := by decide +kernel
theorem dX9_nextToken_61 : decode cX9_nextToken 61 = .ok (.getfield 254, 3) := by decide +kernel
theorem dX9_nextToken_64 : decode cX9_nextToken 64 = .ok (.if_icmp .ne 13, 3) := by decide +kernel
theorem dX9_nextToken_67 : decode cX9_nextToken 67 = .ok (.aload_n 0, 1) := by decide +kernel
theorem dX9_nextToken_68 : decode cX9_nextToken 68 = .ok (.ldc2_w 269, 3) := by decide +kernel
theorem dX9_nextToken_71 : decode cX9_nextToken 71 = .ok (.putfield 271, 3) := by decide +kernel
theorem dX9_nextToken_74 : decode cX9_nextToken 74 = .ok (.goto 320, 3) := by decide +kernel
theorem dX9_nextToken_77 : decode cX9_nextToken 77 = .ok (.aload_n 0, 1) := by decide +kernel
theorem dX9_nextToken_78 : decode cX9_nextToken 78 = .ok (.getfield 108, 3) := by decide +kernel
theorem dX9_nextToken_81 : decode cX9_nextToken 81 = .ok (.aload_n 0, 1) := by decide +kernel
theorem dX9_nextToken_82 : decode cX9_nextToken 82 = .ok (.getfield 257, 3) := by decide +kernel
theorem dX9_nextToken_85 : decode cX9_nextToken 85 = .ok (.iaload, 1) := by decide +kernel
theorem dX9_nextToken_86 : decode cX9_nextToken 86 = .ok (.bipush 97, 2) := by decide +kernel
theorem dX9_nextToken_88 : decode cX9_nextToken 88 = .ok (.bipush 122, 2) := by decide +kernel
theorem dX9_nextToken_90 : decode cX9_nextToken 90 = .ok (.invokestatic 124, 3) := by decide +kernel
theorem dX9_nextToken_93 : decode cX9_nextToken 93 = .ok (.ifCond .eq 129, 3) := by decide +kernel
theorem dX9_nextToken_96 : decode cX9_nextToken 96 = .ok (.aload_n 0, 1) := by decide +kernel
theorem dX9_nextToken_97 : decode cX9_nextToken 97 = .ok (.lconst 0, 1) := by decide +kernel
theorem dX9_nextToken_98 : decode cX9_nextToken 98 = .ok (.putfield 271, 3) := by decide +kernel
theorem dX9_nextToken_101 : decode cX9_nextToken 101 = .ok (.aload_n 0, 1) := by decide +kernel
theorem dX9_nextToken_102 : decode cX9_nextToken 102 = .ok (.getfield 257, 3) := by decide +kernel
theorem dX9_nextToken_105 : decode cX9_nextToken 105 = .ok (.aload_n 0, 1) := by decide +kernel
theorem dX9_nextToken_106 : decode cX9_nextToken 106 = .ok (.getfield 254, 3) := by decide +kernel
theorem dX9_nextToken_109 : decode cX9_nextToken 109 = .ok (.if_icmp .ge 82, 3) := by decide +kernel
theorem dX9_nextToken_112 : decode cX9_nextToken 112 = .ok (.aload_n 0, 1) := by decide +kernel
theorem dX9_nextToken_113 : decode cX9_nextToken 113 = .ok (.getfield 108, 3) := by decide +kernel
theorem dX9_nextToken_116 : decode cX9_nextToken 116 = .ok (.aload_n 0, 1) := by decide +kernel
theorem dX9_nextToken_117 : decode cX9_nextToken 117 = .ok (.getfield 257, 3) := by decide +kernel
theorem dX9_nextToken_120 : decode cX9_nextToken 120 = .ok (.iaload, 1) := by decide +kernel
theorem dX9_nextToken_121 : decode cX9_nextToken 121 = .ok (.bipush 97, 2) := by decide +kernel
theorem dX9_nextToken_123 : decode cX9_nextToken 123 = .ok (.bipush 122, 2) := by decide +kernel
theorem dX9_nextToken_125 : decode cX9_nextToken 125 = .ok (.invokestatic 124, 3) := by decide +kernel
theorem dX9_nextToken_128 : decode cX9_nextToken 128 = .ok (.ifCond .eq 63, 3) := by decide +kernel
theorem dX9_nextToken_131 : decode cX9_nextToken 131 = .ok (.aload_n 0, 1) := by decide +kernel
theorem dX9_nextToken_132 : decode cX9_nextToken 132 = .ok (.aload_n 0, 1) := by decide +kernel
theorem dX9_nextToken_133 : decode cX9_nextToken 133 = .ok (.getfield 257, 3) := by decide +kernel
theorem dX9_nextToken_136 : decode cX9_nextToken 136 = .ok (.aload_n 0, 1) := by decide +kernel
theorem dX9_nextToken_137 : decode cX9_nextToken 137 = .ok (.getfield 260, 3) := by decide +kernel
theorem dX9_nextToken_140 : decode cX9_nextToken 140 = .ok (.isub, 1) := by decide +kernel
theorem dX9_nextToken_141 : decode cX9_nextToken 141 = .ok (.bipush 9, 2) := by decide +kernel
theorem dX9_nextToken_143 : decode cX9_nextToken 143 = .ok (.if_icmp .ge 29, 3) := by decide +kernel
theorem dX9_nextToken_146 : decode cX9_nextToken 146 = .ok (.ldc2_w 274, 3) := by decide +kernel
theorem dX9_nextToken_149 : decode cX9_nextToken 149 = .ok (.aload_n 0, 1) := by decide +kernel
theorem dX9_nextToken_150 : decode cX9_nextToken 150 = .ok (.getfield 271, 3) := by decide +kernel
theorem dX9_nextToken_153 : decode cX9_nextToken 153 = .ok (.lmul, 1) := by decide +kernel
theorem dX9_nextToken_154 : decode cX9_nextToken 154 = .ok (.aload_n 0, 1) := by decide +kernel
theorem dX9_nextToken_155 : decode cX9_nextToken 155 = .ok (.getfield 108, 3) := by decide +kernel
theorem dX9_nextToken_158 : decode cX9_nextToken 158 = .ok (.aload_n 0, 1) := by decide +kernel
theorem dX9_nextToken_159 : decode cX9_nextToken 159 = .ok (.getfield 257, 3) := by decide +kernel
theorem dX9_nextToken_162 : decode cX9_nextToken 162 = .ok (.iaload, 1) := by decide +kernel
theorem dX9_nextToken_163 : decode cX9_nextToken 163 = .ok (.i2l, 1) := by decide +kernel
theorem dX9_nextToken_164 : decode cX9_nextToken 164 = .ok (.ladd, 1) := by decide +kernel
theorem dX9_nextToken_165 : decode cX9_nextToken 165 = .ok (.ldc2_w 276, 3) := by decide +kernel
theorem dX9_nextToken_168 : decode cX9_nextToken 168 = .ok (.lsub, 1) := by decide +kernel
theorem dX9_nextToken_169 : decode cX9_nextToken 169 = .ok (.goto 6, 3) := by decide +kernel
theorem dX9_nextToken_172 : decode cX9_nextToken 172 = .ok (.ldc2_w 278, 3) := by decide +kernel
theorem dX9_nextToken_175 : decode cX9_nextToken 175 = .ok (.putfield 271, 3) := by decide +kernel
theorem dX9_nextToken_178 : decode cX9_nextToken 178 = .ok (.aload_n 0, 1) := by decide +kernel
theorem dX9_nextToken_179 : decode cX9_nextToken 179 = .ok (.dup, 1) := by decide +kernel
theorem dX9_nextToken_180 : decode cX9_nextToken 180 = .ok (.getfield 257, 3) := by decide +kernel
theorem dX9_nextToken_183 : decode cX9_nextToken 183 = .ok (.iconst 1, 1) := by decide +kernel
theorem dX9_nextToken_184 : decode cX9_nextToken 184 = .ok (.iadd, 1) := by decide +kernel
theorem dX9_nextToken_185 : decode cX9_nextToken 185 = .ok (.putfield 257, 3) := by decide +kernel
theorem dX9_nextToken_188 : decode cX9_nextToken 188 = .ok (.goto (-87), 3) := by decide +kernel
theorem dX9_nextToken_191 : decode cX9_nextToken 191 = .ok (.aload_n 0, 1) := by decide +kernel
theorem dX9_nextToken_192 : decode cX9_nextToken 192 = .ok (.aload_n 0, 1) := by decide +kernel
theorem dX9_nextToken_193 : decode cX9_nextToken 193 = .ok (.getfield 257, 3) := by decide +kernel
theorem dX9_nextToken_196 : decode cX9_nextToken 196 = .ok (.aload_n 0, 1) := by decide +kernel
theorem dX9_nextToken_197 : decode cX9_nextToken 197 = .ok (.getfield 260, 3) := by decide +kernel
theorem dX9_nextToken_200 : decode cX9_nextToken 200 = .ok (.isub, 1) := by decide +kernel
theorem dX9_nextToken_201 : decode cX9_nextToken 201 = .ok (.bipush 9, 2) := by decide +kernel
theorem dX9_nextToken_203 : decode cX9_nextToken 203 = .ok (.if_icmp .le 9, 3) := by decide +kernel
theorem dX9_nextToken_206 : decode cX9_nextToken 206 = .ok (.ldc2_w 278, 3) := by decide +kernel
theorem dX9_nextToken_209 : decode cX9_nextToken 209 = .ok (.goto 7, 3) := by decide +kernel
theorem dX9_nextToken_212 : decode cX9_nextToken 212 = .ok (.aload_n 0, 1) := by decide +kernel
theorem dX9_nextToken_213 : decode cX9_nextToken 213 = .ok (.getfield 271, 3) := by decide +kernel
theorem dX9_nextToken_216 : decode cX9_nextToken 216 = .ok (.putfield 271, 3) := by decide +kernel
theorem dX9_nextToken_219 : decode cX9_nextToken 219 = .ok (.goto 175, 3) := by decide +kernel
theorem dX9_nextToken_222 : decode cX9_nextToken 222 = .ok (.aload_n 0, 1) := by decide +kernel
theorem dX9_nextToken_223 : decode cX9_nextToken 223 = .ok (.getfield 108, 3) := by decide +kernel
theorem dX9_nextToken_226 : decode cX9_nextToken 226 = .ok (.aload_n 0, 1) := by decide +kernel
theorem dX9_nextToken_227 : decode cX9_nextToken 227 = .ok (.getfield 257, 3) := by decide +kernel
theorem dX9_nextToken_230 : decode cX9_nextToken 230 = .ok (.iaload, 1) := by decide +kernel
theorem dX9_nextToken_231 : decode cX9_nextToken 231 = .ok (.bipush 48, 2) := by decide +kernel
theorem dX9_nextToken_233 : decode cX9_nextToken 233 = .ok (.bipush 57, 2) := by decide +kernel
theorem dX9_nextToken_235 : decode cX9_nextToken 235 = .ok (.invokestatic 124, 3) := by decide +kernel
theorem dX9_nextToken_238 : decode cX9_nextToken 238 = .ok (.ifCond .eq 119, 3) := by decide +kernel
theorem dX9_nextToken_241 : decode cX9_nextToken 241 = .ok (.aload_n 0, 1) := by decide +kernel
theorem dX9_nextToken_242 : decode cX9_nextToken 242 = .ok (.getfield 257, 3) := by decide +kernel
theorem dX9_nextToken_245 : decode cX9_nextToken 245 = .ok (.aload_n 0, 1) := by decide +kernel
theorem dX9_nextToken_246 : decode cX9_nextToken 246 = .ok (.getfield 254, 3) := by decide +kernel
theorem dX9_nextToken_249 : decode cX9_nextToken 249 = .ok (.if_icmp .ge 84, 3) := by decide +kernel
theorem dX9_nextToken_252 : decode cX9_nextToken 252 = .ok (.aload_n 0, 1) := by decide +kernel
theorem dX9_nextToken_253 : decode cX9_nextToken 253 = .ok (.getfield 108, 3) := by decide +kernel
theorem dX9_nextToken_256 : decode cX9_nextToken 256 = .ok (.aload_n 0, 1) := by decide +kernel
theorem dX9_nextToken_257 : decode cX9_nextToken 257 = .ok (.getfield 257, 3) := by decide +kernel
theorem dX9_nextToken_260 : decode cX9_nextToken 260 = .ok (.iaload, 1) := by decide +kernel
theorem dX9_nextToken_261 : decode cX9_nextToken 261 = .ok (.bipush 48, 2) := by decide +kernel
theorem dX9_nextToken_263 : decode cX9_nextToken 263 = .ok (.bipush 57, 2) := by decide +kernel
theorem dX9_nextToken_265 : decode cX9_nextToken 265 = .ok (.invokestatic 124, 3) := by decide +kernel
theorem dX9_nextToken_268 : decode cX9_nextToken 268 = .ok (.ifCond .eq 65, 3) := by decide +kernel
theorem dX9_nextToken_271 : decode cX9_nextToken 271 = .ok (.aload_n 0, 1) := by decide +kernel
theorem dX9_nextToken_272 : decode cX9_nextToken 272 = .ok (.aload_n 0, 1) := by decide +kernel
theorem dX9_nextToken_273 : decode cX9_nextToken 273 = .ok (.getfield 263, 3) := by decide +kernel
theorem dX9_nextToken_276 : decode cX9_nextToken 276 = .ok (.iconst 5, 1) := by decide +kernel
theorem dX9_nextToken_277 : decode cX9_nextToken 277 = .ok (.if_icmp .ge 26, 3) := by decide +kernel
theorem dX9_nextToken_280 : decode cX9_nextToken 280 = .ok (.bipush 10, 2) := by decide +kernel
theorem dX9_nextToken_282 : decode cX9_nextToken 282 = .ok (.aload_n 0, 1) := by decide +kernel
theorem dX9_nextToken_283 : decode cX9_nextToken 283 = .ok (.getfield 266, 3) := by decide +kernel
theorem dX9_nextToken_286 : decode cX9_nextToken 286 = .ok (.imul, 1) := by decide +kernel
theorem dX9_nextToken_287 : decode cX9_nextToken 287 = .ok (.aload_n 0, 1) := by decide +kernel
theorem dX9_nextToken_288 : decode cX9_nextToken 288 = .ok (.getfield 108, 3) := by decide +kernel
theorem dX9_nextToken_291 : decode cX9_nextToken 291 = .ok (.aload_n 0, 1) := by decide +kernel
theorem dX9_nextToken_292 : decode cX9_nextToken 292 = .ok (.getfield 257, 3) := by decide +kernel
theorem dX9_nextToken_295 : decode cX9_nextToken 295 = .ok (.iaload, 1) := by decide +kernel
theorem dX9_nextToken_296 : decode cX9_nextToken 296 = .ok (.iadd, 1) := by decide +kernel
theorem dX9_nextToken_297 : decode cX9_nextToken 297 = .ok (.bipush 48, 2) := by decide +kernel
theorem dX9_nextToken_299 : decode cX9_nextToken 299 = .ok (.isub, 1) := by decide +kernel
theorem dX9_nextToken_300 : decode cX9_nextToken 300 = .ok (.goto 7, 3) := by decide +kernel
theorem dX9_nextToken_303 : decode cX9_nextToken 303 = .ok (.aload_n 0, 1) := by decide +kernel
theorem dX9_nextToken_304 : decode cX9_nextToken 304 = .ok (.getfield 266, 3) := by decide +kernel
theorem dX9_nextToken_307 : decode cX9_nextToken 307 = .ok (.putfield 266, 3) := by decide +kernel
theorem dX9_nextToken_310 : decode cX9_nextToken 310 = .ok (.aload_n 0, 1) := by decide +kernel
theorem dX9_nextToken_311 : decode cX9_nextToken 311 = .ok (.dup, 1) := by decide +kernel
theorem dX9_nextToken_312 : decode cX9_nextToken 312 = .ok (.getfield 263, 3) := by decide +kernel
theorem dX9_nextToken_315 : decode cX9_nextToken 315 = .ok (.iconst 1, 1) := by decide +kernel
theorem dX9_nextToken_316 : decode cX9_nextToken 316 = .ok (.iadd, 1) := by decide +kernel
theorem dX9_nextToken_317 : decode cX9_nextToken 317 = .ok (.putfield 263, 3) := by decide +kernel
theorem dX9_nextToken_320 : decode cX9_nextToken 320 = .ok (.aload_n 0, 1) := by decide +kernel
theorem dX9_nextToken_321 : decode cX9_nextToken 321 = .ok (.dup, 1) := by decide +kernel
theorem dX9_nextToken_322 : decode cX9_nextToken 322 = .ok (.getfield 257, 3) := by decide +kernel
theorem dX9_nextToken_325 : decode cX9_nextToken 325 = .ok (.iconst 1, 1) := by decide +kernel
theorem dX9_nextToken_326 : decode cX9_nextToken 326 = .ok (.iadd, 1) := by decide +kernel
theorem dX9_nextToken_327 : decode cX9_nextToken 327 = .ok (.putfield 257, 3) := by decide +kernel
theorem dX9_nextToken_330 : decode cX9_nextToken 330 = .ok (.goto (-89), 3) := by decide +kernel
theorem dX9_nextToken_333 : decode cX9_nextToken 333 = .ok (.aload_n 0, 1) := by decide +kernel
theorem dX9_nextToken_334 : decode cX9_nextToken 334 = .ok (.aload_n 0, 1) := by decide +kernel
theorem dX9_nextToken_335 : decode cX9_nextToken 335 = .ok (.getfield 263, 3) := by decide +kernel
theorem dX9_nextToken_338 : decode cX9_nextToken 338 = .ok (.iconst 5, 1) := by decide +kernel
theorem dX9_nextToken_339 : decode cX9_nextToken 339 = .ok (.if_icmp .le 9, 3) := by decide +kernel
theorem dX9_nextToken_342 : decode cX9_nextToken 342 = .ok (.ldc2_w 278, 3) := by decide +kernel
theorem dX9_nextToken_345 : decode cX9_nextToken 345 = .ok (.goto 6, 3) := by decide +kernel
theorem dX9_nextToken_348 : decode cX9_nextToken 348 = .ok (.ldc2_w 252, 3) := by decide +kernel
theorem dX9_nextToken_351 : decode cX9_nextToken 351 = .ok (.putfield 271, 3) := by decide +kernel
theorem dX9_nextToken_354 : decode cX9_nextToken 354 = .ok (.goto 40, 3) := by decide +kernel
theorem dX9_nextToken_357 : decode cX9_nextToken 357 = .ok (.aload_n 0, 1) := by decide +kernel
theorem dX9_nextToken_358 : decode cX9_nextToken 358 = .ok (.aload_n 0, 1) := by decide +kernel
theorem dX9_nextToken_359 : decode cX9_nextToken 359 = .ok (.getfield 108, 3) := by decide +kernel
theorem dX9_nextToken_362 : decode cX9_nextToken 362 = .ok (.aload_n 0, 1) := by decide +kernel
theorem dX9_nextToken_363 : decode cX9_nextToken 363 = .ok (.getfield 257, 3) := by decide +kernel
theorem dX9_nextToken_366 : decode cX9_nextToken 366 = .ok (.iaload, 1) := by decide +kernel
theorem dX9_nextToken_367 : decode cX9_nextToken 367 = .ok (.bipush 59, 2) := by decide +kernel
theorem dX9_nextToken_369 : decode cX9_nextToken 369 = .ok (.if_icmp .ne 9, 3) := by decide +kernel
theorem dX9_nextToken_372 : decode cX9_nextToken 372 = .ok (.ldc2_w 280, 3) := by decide +kernel
theorem dX9_nextToken_375 : decode cX9_nextToken 375 = .ok (.goto 6, 3) := by decide +kernel
theorem dX9_nextToken_378 : decode cX9_nextToken 378 = .ok (.ldc2_w 278, 3) := by decide +kernel
theorem dX9_nextToken_381 : decode cX9_nextToken 381 = .ok (.putfield 271, 3) := by decide +kernel
theorem dX9_nextToken_384 : decode cX9_nextToken 384 = .ok (.aload_n 0, 1) := by decide +kernel
theorem dX9_nextToken_385 : decode cX9_nextToken 385 = .ok (.dup, 1) := by decide +kernel
theorem dX9_nextToken_386 : decode cX9_nextToken 386 = .ok (.getfield 257, 3) := by decide +kernel
theorem dX9_nextToken_389 : decode cX9_nextToken 389 = .ok (.iconst 1, 1) := by decide +kernel
theorem dX9_nextToken_390 : decode cX9_nextToken 390 = .ok (.iadd, 1) := by decide +kernel
theorem dX9_nextToken_391 : decode cX9_nextToken 391 = .ok (.putfield 257, 3) := by decide +kernel
theorem dX9_nextToken_394 : decode cX9_nextToken 394 = .ok (.return_, 1) := by decide +kernel
set_option maxRecDepth 100000 in
set_option maxHeartbeats 40000000 in
theorem fx_X9_nextToken {G : vG} {l : Launch} (τ : Sg) : Sp G l yX9_nextToken cX9_nextToken 1 none 1 0 0 [.ref 140] (WW (mx τ)) (QV (fun w2 => w2 = WW (T1 τ))) := by
  refine Sp_of_R [(some (.ref 140))] [] rfl (by simp) rfl (Nat.le_of_ble_eq_true rfl) ?_
  refine R_aload_n (pc := 0) dX9_nextToken_0 rfl rfl ?_
  refine g_X9_257 (pc := 1) (v := .int 0) rfl dX9_nextToken_1 (c_140 _) rfl ?_
  refine R_aload_n (pc := 4) dX9_nextToken_4 rfl rfl ?_
  refine g_X9_254 (pc := 5) (v := .int 0) rfl dX9_nextToken_5 (c_140 _) rfl ?_
  refine R_icge (pc := 8) 38 dX9_nextToken_8 (by decide) (fun _ => ?_) (fun h => absurd (by decide) h)
  refine R_aload_n (pc := 38) dX9_nextToken_38 rfl rfl ?_
  refine R_aload_n (pc := 39) dX9_nextToken_39 rfl rfl ?_
  refine g_X9_257 (pc := 40) (v := .int 0) rfl dX9_nextToken_40 (c_140 _) rfl ?_
  refine p_X9_260 (pc := 43) rfl dX9_nextToken_43 (c_140 _) (Nat.le_of_ble_eq_true rfl) rfl rfl (s_140_40 _ _) ?_
  refine R_aload_n (pc := 46) dX9_nextToken_46 rfl rfl ?_
  refine R_iconst (pc := 47) (v := 0) dX9_nextToken_47 (by decide) ?_
  refine p_X9_263 (pc := 48) rfl dX9_nextToken_48 (c_140 _) (Nat.le_of_ble_eq_true rfl) rfl rfl (s_140_42 _ _) ?_
  refine R_aload_n (pc := 51) dX9_nextToken_51 rfl rfl ?_
  refine R_iconst (pc := 52) (v := 0) dX9_nextToken_52 (by decide) ?_
  refine p_X9_266 (pc := 53) rfl dX9_nextToken_53 (c_140 _) (Nat.le_of_ble_eq_true rfl) rfl rfl (s_140_43 _ _) ?_
  refine R_aload_n (pc := 56) dX9_nextToken_56 rfl rfl ?_
  refine g_X9_257 (pc := 57) (v := .int 0) rfl dX9_nextToken_57 (c_140 _) rfl ?_
  refine R_aload_n (pc := 60) dX9_nextToken_60 rfl rfl ?_
  refine g_X9_254 (pc := 61) (v := .int 0) rfl dX9_nextToken_61 (c_140 _) rfl ?_
  refine R_icne (pc := 64) 77 dX9_nextToken_64 (by decide) (fun h => absurd (by decide) h) (fun _ => ?_)
  refine R_aload_n (pc := 67) dX9_nextToken_67 rfl rfl ?_
  refine R_ldc2 (pc := 68) w_1242c dX9_nextToken_68 ?_
  refine p_X9_271 (pc := 71) rfl dX9_nextToken_71 (c_140 _) (Nat.le_of_ble_eq_true rfl) rfl rfl (s_140_41 _ _) ?_
  refine R_goto (pc := 74) 394 dX9_nextToken_74 (by decide) ?_
  exact R_vret (pc := 394) dX9_nextToken_394 rfl (Nat.zero_le _) (Nat.zero_le _) ⟨rfl, rfl⟩
theorem dX9_fails_0 : decode cX9_fails 0 = .ok (.aload_n 0, 1) := by decide +kernel
theorem dX9_fails_1 : decode cX9_fails 1 = .ok (.aload_n 0, 1) := by decide +kernel
theorem dX9_fails_2 : decode cX9_fails 2 = .ok (.getfield 260, 3) := by decide +kernel
theorem dX9_fails_5 : decode cX9_fails 5 = .ok (.putfield 282, 3) := by decide +kernel
theorem dX9_fails_8 : decode cX9_fails 8 = .ok (.iconst 0, 1) := by decide +kernel
theorem dX9_fails_9 : decode cX9_fails 9 = .ok (.ireturn, 1) := by decide +kernel
set_option maxRecDepth 100000 in
set_option maxHeartbeats 40000000 in
theorem fx_X9_fails {G : vG} {l : Launch} (τ : Sg) : Sp G l yX9_fails cX9_fails 1 (some .boolean) 0 0 0 [.ref 140] (WW (T1 τ)) (QI (fun x w2 => w2 = WW (T1 τ) ∧ x = 0)) := by
  refine Sp_of_R [(some (.ref 140))] [] rfl (by simp) rfl (Nat.le_of_ble_eq_true rfl) ?_
  refine R_aload_n (pc := 0) dX9_fails_0 rfl rfl ?_
  refine R_aload_n (pc := 1) dX9_fails_1 rfl rfl ?_
  refine g_X9_260 (pc := 2) (v := .int 0) rfl dX9_fails_2 (c_140 _) rfl ?_
  refine p_X9_282 (pc := 5) rfl dX9_fails_5 (c_140 _) (Nat.le_of_ble_eq_true rfl) rfl rfl (s_140_44 _ _) ?_
  refine R_iconst (pc := 8) (v := 0) dX9_fails_8 (by decide) ?_
  exact R_iret (pc := 9) dX9_fails_9 rfl rfl (Nat.zero_le _) (Nat.zero_le _) ⟨_, rfl, rfl, rfl⟩
theorem dX9_isWord_0 : decode cX9_isWord 0 = .ok (.aload_n 0, 1) := by decide +kernel
theorem dX9_isWord_1 : decode cX9_isWord 1 = .ok (.invokevirtual 285, 3) := by decide +kernel
theorem dX9_isWord_4 : decode cX9_isWord 4 = .ok (.aload_n 0, 1) := by decide +kernel
theorem dX9_isWord_5 : decode cX9_isWord 5 = .ok (.getfield 271, 3) := by decide +kernel
theorem dX9_isWord_8 : decode cX9_isWord 8 = .ok (.lload_n 1, 1) := by decide +kernel
theorem dX9_isWord_9 : decode cX9_isWord 9 = .ok (.lcmp, 1) := by decide +kernel
theorem dX9_isWord_10 : decode cX9_isWord 10 = .ok (.ifCond .eq 10, 3) := by decide +kernel
theorem dX9_isWord_13 : decode cX9_isWord 13 = .ok (.aload_n 0, 1) := by decide +kernel
theorem dX9_isWord_14 : decode cX9_isWord 14 = .ok (.invokevirtual 288, 3) := by decide +kernel
theorem dX9_isWord_17 : decode cX9_isWord 17 = .ok (.ifCond .eq 7, 3) := by decide +kernel
theorem dX9_isWord_20 : decode cX9_isWord 20 = .ok (.iconst 1, 1) := by decide +kernel
theorem dX9_isWord_21 : decode cX9_isWord 21 = .ok (.goto 4, 3) := by decide +kernel
theorem dX9_isWord_24 : decode cX9_isWord 24 = .ok (.iconst 0, 1) := by decide +kernel
theorem dX9_isWord_25 : decode cX9_isWord 25 = .ok (.ireturn, 1) := by decide +kernel
set_option maxRecDepth 100000 in
set_option maxHeartbeats 40000000 in
theorem fx_X9_isWord {G : vG} {l : Launch} (τ : Sg) : Sp G l yX9_isWord cX9_isWord 3 (some .boolean) 2 0 0 [.ref 140, .long 411] (WW (mx τ)) (QI (fun x w2 => w2 = WW (T1 τ) ∧ x = 0)) := by
  refine Sp_of_R [(some (.ref 140)), (some (.long 411)), none] [] rfl (by simp) rfl (Nat.le_of_ble_eq_true rfl) ?_
  refine R_aload_n (pc := 0) dX9_isWord_0 rfl rfl ?_
  refine k_X9_285 (pc := 1) (fx_X9_nextToken _) rfl (c_140 _) (by decide) (Nat.le_refl _) (Nat.le_refl _) (Nat.le_of_ble_eq_true rfl) dX9_isWord_1 (fun w2 h => ?_)
  subst h
  refine R_aload_n (pc := 4) dX9_isWord_4 rfl rfl ?_
  refine g_X9_271 (pc := 5) (v := .long (-2)) rfl dX9_isWord_5 (c_140 _) rfl ?_
  refine R_lload_n (pc := 8) dX9_isWord_8 rfl rfl ?_
  refine R_lcmp (pc := 9) dX9_isWord_9 ?_
  refine R_cv (-1) (by decide) ?_
  refine R_ifeq (pc := 10) 20 dX9_isWord_10 (by decide) (fun h => absurd h (by decide)) (fun _ => ?_)
  refine R_aload_n (pc := 13) dX9_isWord_13 rfl rfl ?_
  refine k_X9_288 (pc := 14) (fx_X9_fails _) rfl (c_140 _) (by decide) (Nat.le_refl _) (Nat.le_refl _) (Nat.le_of_ble_eq_true rfl) dX9_isWord_14 (fun x w2 h => ?_)
  obtain ⟨rfl, rfl⟩ := h
  refine R_ifeq (pc := 17) 24 dX9_isWord_17 (by decide) (fun _ => ?_) (fun h => absurd (by decide) h)
  refine R_iconst (pc := 24) (v := 0) dX9_isWord_24 (by decide) ?_
  exact R_iret (pc := 25) dX9_isWord_25 rfl rfl (Nat.zero_le _) (Nat.zero_le _) ⟨_, rfl, rfl, rfl⟩
theorem dX9_isLine_0 : decode cX9_isLine 0 = .ok (.aload_n 0, 1) := by decide +kernel
theorem dX9_isLine_1 : decode cX9_isLine 1 = .ok (.ldc2_w 292, 3) := by decide +kernel
theorem dX9_isLine_4 : decode cX9_isLine 4 = .ok (.invokevirtual 294, 3) := by decide +kernel
theorem dX9_isLine_7 : decode cX9_isLine 7 = .ok (.ifCond .eq 66, 3) := by decide +kernel
theorem dX9_isLine_10 : decode cX9_isLine 10 = .ok (.aload_n 0, 1) := by decide +kernel
theorem dX9_isLine_11 : decode cX9_isLine 11 = .ok (.iload_n 1, 1) := by decide +kernel
theorem dX9_isLine_12 : decode cX9_isLine 12 = .ok (.iconst 0, 1) := by decide +kernel
theorem dX9_isLine_13 : decode cX9_isLine 13 = .ok (.iconst 4, 1) := by decide +kernel
theorem dX9_isLine_14 : decode cX9_isLine 14 = .ok (.invokevirtual 298, 3) := by decide +kernel
theorem dX9_isLine_17 : decode cX9_isLine 17 = .ok (.ifCond .eq 56, 3) := by decide +kernel
theorem dX9_isLine_20 : decode cX9_isLine 20 = .ok (.aload_n 0, 1) := by decide +kernel
theorem dX9_isLine_21 : decode cX9_isLine 21 = .ok (.ldc2_w 301, 3) := by decide +kernel
theorem dX9_isLine_24 : decode cX9_isLine 24 = .ok (.invokevirtual 294, 3) := by decide +kernel
theorem dX9_isLine_27 : decode cX9_isLine 27 = .ok (.ifCond .eq 46, 3) := by decide +kernel
theorem dX9_isLine_30 : decode cX9_isLine 30 = .ok (.aload_n 0, 1) := by decide +kernel
theorem dX9_isLine_31 : decode cX9_isLine 31 = .ok (.iload_n 1, 1) := by decide +kernel
theorem dX9_isLine_32 : decode cX9_isLine 32 = .ok (.iconst 1, 1) := by decide +kernel
theorem dX9_isLine_33 : decode cX9_isLine 33 = .ok (.iadd, 1) := by decide +kernel
theorem dX9_isLine_34 : decode cX9_isLine 34 = .ok (.iconst 1, 1) := by decide +kernel
theorem dX9_isLine_35 : decode cX9_isLine 35 = .ok (.bipush 99, 2) := by decide +kernel
theorem dX9_isLine_37 : decode cX9_isLine 37 = .ok (.invokevirtual 298, 3) := by decide +kernel
theorem dX9_isLine_40 : decode cX9_isLine 40 = .ok (.ifCond .eq 33, 3) := by decide +kernel
theorem dX9_isLine_43 : decode cX9_isLine 43 = .ok (.aload_n 0, 1) := by decide +kernel
theorem dX9_isLine_44 : decode cX9_isLine 44 = .ok (.ldc2_w 303, 3) := by decide +kernel
theorem dX9_isLine_47 : decode cX9_isLine 47 = .ok (.invokevirtual 294, 3) := by decide +kernel
theorem dX9_isLine_50 : decode cX9_isLine 50 = .ok (.ifCond .eq 23, 3) := by decide +kernel
theorem dX9_isLine_53 : decode cX9_isLine 53 = .ok (.aload_n 0, 1) := by decide +kernel
theorem dX9_isLine_54 : decode cX9_isLine 54 = .ok (.iload_n 1, 1) := by decide +kernel
theorem dX9_isLine_55 : decode cX9_isLine 55 = .ok (.iconst 2, 1) := by decide +kernel
theorem dX9_isLine_56 : decode cX9_isLine 56 = .ok (.iadd, 1) := by decide +kernel
theorem dX9_isLine_57 : decode cX9_isLine 57 = .ok (.aload_n 0, 1) := by decide +kernel
theorem dX9_isLine_58 : decode cX9_isLine 58 = .ok (.getfield 111, 3) := by decide +kernel
theorem dX9_isLine_61 : decode cX9_isLine 61 = .ok (.iload_n 1, 1) := by decide +kernel
theorem dX9_isLine_62 : decode cX9_isLine 62 = .ok (.iconst 1, 1) := by decide +kernel
theorem dX9_isLine_63 : decode cX9_isLine 63 = .ok (.iadd, 1) := by decide +kernel
theorem dX9_isLine_64 : decode cX9_isLine 64 = .ok (.iaload, 1) := by decide +kernel
theorem dX9_isLine_65 : decode cX9_isLine 65 = .ok (.bipush 99, 2) := by decide +kernel
theorem dX9_isLine_67 : decode cX9_isLine 67 = .ok (.invokevirtual 298, 3) := by decide +kernel
theorem dX9_isLine_70 : decode cX9_isLine 70 = .ok (.ifCond .ne 5, 3) := by decide +kernel
theorem dX9_isLine_73 : decode cX9_isLine 73 = .ok (.iconst 0, 1) := by decide +kernel
theorem dX9_isLine_74 : decode cX9_isLine 74 = .ok (.ireturn, 1) := by decide +kernel
theorem dX9_isLine_75 : decode cX9_isLine 75 = .ok (.aload_n 0, 1) := by decide +kernel
theorem dX9_isLine_76 : decode cX9_isLine 76 = .ok (.invokevirtual 285, 3) := by decide +kernel
theorem dX9_isLine_79 : decode cX9_isLine 79 = .ok (.aload_n 0, 1) := by decide +kernel
theorem dX9_isLine_80 : decode cX9_isLine 80 = .ok (.getfield 111, 3) := by decide +kernel
theorem dX9_isLine_83 : decode cX9_isLine 83 = .ok (.iload_n 1, 1) := by decide +kernel
theorem dX9_isLine_84 : decode cX9_isLine 84 = .ok (.iconst 3, 1) := by decide +kernel
theorem dX9_isLine_85 : decode cX9_isLine 85 = .ok (.iadd, 1) := by decide +kernel
theorem dX9_isLine_86 : decode cX9_isLine 86 = .ok (.aload_n 0, 1) := by decide +kernel
theorem dX9_isLine_87 : decode cX9_isLine 87 = .ok (.getfield 271, 3) := by decide +kernel
theorem dX9_isLine_90 : decode cX9_isLine 90 = .ok (.ldc2_w 305, 3) := by decide +kernel
theorem dX9_isLine_93 : decode cX9_isLine 93 = .ok (.lcmp, 1) := by decide +kernel
theorem dX9_isLine_94 : decode cX9_isLine 94 = .ok (.ifCond .ne 7, 3) := by decide +kernel
theorem dX9_isLine_97 : decode cX9_isLine 97 = .ok (.iconst 1, 1) := by decide +kernel
theorem dX9_isLine_98 : decode cX9_isLine 98 = .ok (.goto 4, 3) := by decide +kernel
theorem dX9_isLine_101 : decode cX9_isLine 101 = .ok (.iconst 0, 1) := by decide +kernel
theorem dX9_isLine_102 : decode cX9_isLine 102 = .ok (.iastore, 1) := by decide +kernel
theorem dX9_isLine_103 : decode cX9_isLine 103 = .ok (.aload_n 0, 1) := by decide +kernel
theorem dX9_isLine_104 : decode cX9_isLine 104 = .ok (.getfield 111, 3) := by decide +kernel
theorem dX9_isLine_107 : decode cX9_isLine 107 = .ok (.iload_n 1, 1) := by decide +kernel
theorem dX9_isLine_108 : decode cX9_isLine 108 = .ok (.iconst 5, 1) := by decide +kernel
theorem dX9_isLine_109 : decode cX9_isLine 109 = .ok (.iadd, 1) := by decide +kernel
theorem dX9_isLine_110 : decode cX9_isLine 110 = .ok (.iconst 0, 1) := by decide +kernel
theorem dX9_isLine_111 : decode cX9_isLine 111 = .ok (.iastore, 1) := by decide +kernel
theorem dX9_isLine_112 : decode cX9_isLine 112 = .ok (.aload_n 0, 1) := by decide +kernel
theorem dX9_isLine_113 : decode cX9_isLine 113 = .ok (.getfield 271, 3) := by decide +kernel
theorem dX9_isLine_116 : decode cX9_isLine 116 = .ok (.ldc2_w 307, 3) := by decide +kernel
theorem dX9_isLine_119 : decode cX9_isLine 119 = .ok (.lcmp, 1) := by decide +kernel
theorem dX9_isLine_120 : decode cX9_isLine 120 = .ok (.ifCond .ne 13, 3) := by decide +kernel
theorem dX9_isLine_123 : decode cX9_isLine 123 = .ok (.aload_n 0, 1) := by decide +kernel
theorem dX9_isLine_124 : decode cX9_isLine 124 = .ok (.iload_n 1, 1) := by decide +kernel
theorem dX9_isLine_125 : decode cX9_isLine 125 = .ok (.iconst 4, 1) := by decide +kernel
theorem dX9_isLine_126 : decode cX9_isLine 126 = .ok (.iadd, 1) := by decide +kernel
theorem dX9_isLine_127 : decode cX9_isLine 127 = .ok (.iconst 0, 1) := by decide +kernel
theorem dX9_isLine_128 : decode cX9_isLine 128 = .ok (.iconst 4, 1) := by decide +kernel
theorem dX9_isLine_129 : decode cX9_isLine 129 = .ok (.invokevirtual 298, 3) := by decide +kernel
theorem dX9_isLine_132 : decode cX9_isLine 132 = .ok (.ireturn, 1) := by decide +kernel
theorem dX9_isLine_133 : decode cX9_isLine 133 = .ok (.aload_n 0, 1) := by decide +kernel
theorem dX9_isLine_134 : decode cX9_isLine 134 = .ok (.getfield 271, 3) := by decide +kernel
theorem dX9_isLine_137 : decode cX9_isLine 137 = .ok (.ldc2_w 305, 3) := by decide +kernel
theorem dX9_isLine_140 : decode cX9_isLine 140 = .ok (.lcmp, 1) := by decide +kernel
theorem dX9_isLine_141 : decode cX9_isLine 141 = .ok (.ifCond .ne 56, 3) := by decide +kernel
theorem dX9_isLine_144 : decode cX9_isLine 144 = .ok (.aload_n 0, 1) := by decide +kernel
theorem dX9_isLine_145 : decode cX9_isLine 145 = .ok (.iload_n 1, 1) := by decide +kernel
theorem dX9_isLine_146 : decode cX9_isLine 146 = .ok (.iconst 4, 1) := by decide +kernel
theorem dX9_isLine_147 : decode cX9_isLine 147 = .ok (.iadd, 1) := by decide +kernel
theorem dX9_isLine_148 : decode cX9_isLine 148 = .ok (.iconst 0, 1) := by decide +kernel
theorem dX9_isLine_149 : decode cX9_isLine 149 = .ok (.sipush 20000, 3) := by decide +kernel
theorem dX9_isLine_152 : decode cX9_isLine 152 = .ok (.invokevirtual 298, 3) := by decide +kernel
theorem dX9_isLine_155 : decode cX9_isLine 155 = .ok (.ifCond .eq 38, 3) := by decide +kernel
theorem dX9_isLine_158 : decode cX9_isLine 158 = .ok (.aload_n 0, 1) := by decide +kernel
theorem dX9_isLine_159 : decode cX9_isLine 159 = .ok (.ldc2_w 303, 3) := by decide +kernel
theorem dX9_isLine_162 : decode cX9_isLine 162 = .ok (.invokevirtual 294, 3) := by decide +kernel
theorem dX9_isLine_165 : decode cX9_isLine 165 = .ok (.ifCond .eq 28, 3) := by decide +kernel
theorem dX9_isLine_168 : decode cX9_isLine 168 = .ok (.aload_n 0, 1) := by decide +kernel
theorem dX9_isLine_169 : decode cX9_isLine 169 = .ok (.iload_n 1, 1) := by decide +kernel
theorem dX9_isLine_170 : decode cX9_isLine 170 = .ok (.iconst 5, 1) := by decide +kernel
theorem dX9_isLine_171 : decode cX9_isLine 171 = .ok (.iadd, 1) := by decide +kernel
theorem dX9_isLine_172 : decode cX9_isLine 172 = .ok (.aload_n 0, 1) := by decide +kernel
theorem dX9_isLine_173 : decode cX9_isLine 173 = .ok (.getfield 111, 3) := by decide +kernel
theorem dX9_isLine_176 : decode cX9_isLine 176 = .ok (.iload_n 1, 1) := by decide +kernel
theorem dX9_isLine_177 : decode cX9_isLine 177 = .ok (.iconst 4, 1) := by decide +kernel
theorem dX9_isLine_178 : decode cX9_isLine 178 = .ok (.iadd, 1) := by decide +kernel
theorem dX9_isLine_179 : decode cX9_isLine 179 = .ok (.iaload, 1) := by decide +kernel
theorem dX9_isLine_180 : decode cX9_isLine 180 = .ok (.sipush 20000, 3) := by decide +kernel
theorem dX9_isLine_183 : decode cX9_isLine 183 = .ok (.invokevirtual 298, 3) := by decide +kernel
theorem dX9_isLine_186 : decode cX9_isLine 186 = .ok (.ifCond .eq 7, 3) := by decide +kernel
theorem dX9_isLine_189 : decode cX9_isLine 189 = .ok (.iconst 1, 1) := by decide +kernel
theorem dX9_isLine_190 : decode cX9_isLine 190 = .ok (.goto 11, 3) := by decide +kernel
theorem dX9_isLine_193 : decode cX9_isLine 193 = .ok (.iconst 0, 1) := by decide +kernel
theorem dX9_isLine_194 : decode cX9_isLine 194 = .ok (.goto 7, 3) := by decide +kernel
theorem dX9_isLine_197 : decode cX9_isLine 197 = .ok (.aload_n 0, 1) := by decide +kernel
theorem dX9_isLine_198 : decode cX9_isLine 198 = .ok (.invokevirtual 288, 3) := by decide +kernel
theorem dX9_isLine_201 : decode cX9_isLine 201 = .ok (.ireturn, 1) := by decide +kernel
set_option maxRecDepth 100000 in
set_option maxHeartbeats 40000000 in
theorem fx_X9_isLine {G : vG} {l : Launch} (τ : Sg) (a : Int32) : Sp G l yX9_isLine cX9_isLine 2 (some .boolean) 3 0 0 [.ref 140, .int a] (WW (mx τ)) (QI (fun x w2 => w2 = WW (T1 τ) ∧ x = 0)) := by
  refine Sp_of_R [(some (.ref 140)), (some (.int a))] [] rfl (by simp) rfl (Nat.le_of_ble_eq_true rfl) ?_
  refine R_aload_n (pc := 0) dX9_isLine_0 rfl rfl ?_
  refine R_ldc2 (pc := 1) w_1233c dX9_isLine_1 ?_
  refine R_weq (WW (mx τ)) rfl ?_
  refine k_X9_294 (pc := 4) (fx_X9_isWord _) rfl (c_140 _) (by decide) (Nat.le_refl _) (Nat.le_refl _) (Nat.le_of_ble_eq_true rfl) dX9_isLine_4 (fun x w2 h => ?_)
  obtain ⟨rfl, rfl⟩ := h
  refine R_ifeq (pc := 7) 73 dX9_isLine_7 (by decide) (fun _ => ?_) (fun h => absurd (by decide) h)
  refine R_iconst (pc := 73) (v := 0) dX9_isLine_73 (by decide) ?_
  exact R_iret (pc := 74) dX9_isLine_74 rfl rfl (Nat.zero_le _) (Nat.zero_le _) ⟨_, rfl, rfl, rfl⟩
theorem dX9_isRead_0 : decode cX9_isRead 0 = .ok (.aload_n 0, 1) := by decide +kernel
theorem dX9_isRead_1 : decode cX9_isRead 1 = .ok (.iconst 0, 1) := by decide +kernel
theorem dX9_isRead_2 : decode cX9_isRead 2 = .ok (.putfield 257, 3) := by decide +kernel
theorem dX9_isRead_5 : decode cX9_isRead 5 = .ok (.aload_n 0, 1) := by decide +kernel
theorem dX9_isRead_6 : decode cX9_isRead 6 = .ok (.iconst 0, 1) := by decide +kernel
theorem dX9_isRead_7 : decode cX9_isRead 7 = .ok (.putfield 309, 3) := by decide +kernel
theorem dX9_isRead_10 : decode cX9_isRead 10 = .ok (.iconst 1, 1) := by decide +kernel
theorem dX9_isRead_11 : decode cX9_isRead 11 = .ok (.istore_n 1, 1) := by decide +kernel
theorem dX9_isRead_12 : decode cX9_isRead 12 = .ok (.iload_n 1, 1) := by decide +kernel
theorem dX9_isRead_13 : decode cX9_isRead 13 = .ok (.ifCond .eq 62, 3) := by decide +kernel
theorem dX9_isRead_16 : decode cX9_isRead 16 = .ok (.aload_n 0, 1) := by decide +kernel
theorem dX9_isRead_17 : decode cX9_isRead 17 = .ok (.bipush 6, 2) := by decide +kernel
theorem dX9_isRead_19 : decode cX9_isRead 19 = .ok (.aload_n 0, 1) := by decide +kernel
theorem dX9_isRead_20 : decode cX9_isRead 20 = .ok (.getfield 309, 3) := by decide +kernel
theorem dX9_isRead_23 : decode cX9_isRead 23 = .ok (.imul, 1) := by decide +kernel
theorem dX9_isRead_24 : decode cX9_isRead 24 = .ok (.invokevirtual 312, 3) := by decide +kernel
theorem dX9_isRead_27 : decode cX9_isRead 27 = .ok (.ifCond .ne 5, 3) := by decide +kernel
theorem dX9_isRead_30 : decode cX9_isRead 30 = .ok (.iconst 0, 1) := by decide +kernel
theorem dX9_isRead_31 : decode cX9_isRead 31 = .ok (.ireturn, 1) := by decide +kernel
theorem dX9_isRead_32 : decode cX9_isRead 32 = .ok (.aload_n 0, 1) := by decide +kernel
theorem dX9_isRead_33 : decode cX9_isRead 33 = .ok (.dup, 1) := by decide +kernel
theorem dX9_isRead_34 : decode cX9_isRead 34 = .ok (.getfield 309, 3) := by decide +kernel
theorem dX9_isRead_37 : decode cX9_isRead 37 = .ok (.iconst 1, 1) := by decide +kernel
theorem dX9_isRead_38 : decode cX9_isRead 38 = .ok (.iadd, 1) := by decide +kernel
theorem dX9_isRead_39 : decode cX9_isRead 39 = .ok (.putfield 309, 3) := by decide +kernel
theorem dX9_isRead_42 : decode cX9_isRead 42 = .ok (.aload_n 0, 1) := by decide +kernel
theorem dX9_isRead_43 : decode cX9_isRead 43 = .ok (.invokevirtual 285, 3) := by decide +kernel
theorem dX9_isRead_46 : decode cX9_isRead 46 = .ok (.aload_n 0, 1) := by decide +kernel
theorem dX9_isRead_47 : decode cX9_isRead 47 = .ok (.getfield 271, 3) := by decide +kernel
theorem dX9_isRead_50 : decode cX9_isRead 50 = .ok (.ldc2_w 280, 3) := by decide +kernel
theorem dX9_isRead_53 : decode cX9_isRead 53 = .ok (.lcmp, 1) := by decide +kernel
theorem dX9_isRead_54 : decode cX9_isRead 54 = .ok (.ifCond .ne 16, 3) := by decide +kernel
theorem dX9_isRead_57 : decode cX9_isRead 57 = .ok (.aload_n 0, 1) := by decide +kernel
theorem dX9_isRead_58 : decode cX9_isRead 58 = .ok (.getfield 309, 3) := by decide +kernel
theorem dX9_isRead_61 : decode cX9_isRead 61 = .ok (.bipush 8, 2) := by decide +kernel
theorem dX9_isRead_63 : decode cX9_isRead 63 = .ok (.if_icmp .ge 7, 3) := by decide +kernel
theorem dX9_isRead_66 : decode cX9_isRead 66 = .ok (.iconst 1, 1) := by decide +kernel
theorem dX9_isRead_67 : decode cX9_isRead 67 = .ok (.goto 4, 3) := by decide +kernel
theorem dX9_isRead_70 : decode cX9_isRead 70 = .ok (.iconst 0, 1) := by decide +kernel
theorem dX9_isRead_71 : decode cX9_isRead 71 = .ok (.istore_n 1, 1) := by decide +kernel
theorem dX9_isRead_72 : decode cX9_isRead 72 = .ok (.goto (-60), 3) := by decide +kernel
theorem dX9_isRead_75 : decode cX9_isRead 75 = .ok (.aload_n 0, 1) := by decide +kernel
theorem dX9_isRead_76 : decode cX9_isRead 76 = .ok (.getfield 271, 3) := by decide +kernel
theorem dX9_isRead_79 : decode cX9_isRead 79 = .ok (.ldc2_w 269, 3) := by decide +kernel
theorem dX9_isRead_82 : decode cX9_isRead 82 = .ok (.lcmp, 1) := by decide +kernel
theorem dX9_isRead_83 : decode cX9_isRead 83 = .ok (.ifCond .eq 10, 3) := by decide +kernel
theorem dX9_isRead_86 : decode cX9_isRead 86 = .ok (.aload_n 0, 1) := by decide +kernel
theorem dX9_isRead_87 : decode cX9_isRead 87 = .ok (.invokevirtual 288, 3) := by decide +kernel
theorem dX9_isRead_90 : decode cX9_isRead 90 = .ok (.ifCond .eq 7, 3) := by decide +kernel
theorem dX9_isRead_93 : decode cX9_isRead 93 = .ok (.iconst 1, 1) := by decide +kernel
theorem dX9_isRead_94 : decode cX9_isRead 94 = .ok (.goto 4, 3) := by decide +kernel
theorem dX9_isRead_97 : decode cX9_isRead 97 = .ok (.iconst 0, 1) := by decide +kernel
theorem dX9_isRead_98 : decode cX9_isRead 98 = .ok (.ireturn, 1) := by decide +kernel
set_option maxRecDepth 100000 in
set_option maxHeartbeats 40000000 in
theorem fx_X9_isRead {G : vG} {l : Launch} (τ : Sg) : Sp G l yX9_isRead cX9_isRead 2 (some .boolean) 4 0 0 [.ref 140] (WW (mx τ)) (QI (fun x w2 => w2 = WW (T1 τ) ∧ x = 0)) := by
  refine Sp_of_R [(some (.ref 140)), none] [none] rfl (by simp) rfl (Nat.le_of_ble_eq_true rfl) ?_
  refine R_aload_n (pc := 0) dX9_isRead_0 rfl rfl ?_
  refine R_iconst (pc := 1) (v := 0) dX9_isRead_1 (by decide) ?_
  refine p_X9_257 (pc := 2) rfl dX9_isRead_2 (c_140 _) (Nat.le_of_ble_eq_true rfl) rfl rfl (s_140_39 _ _) ?_
  refine R_aload_n (pc := 5) dX9_isRead_5 rfl rfl ?_
  refine R_iconst (pc := 6) (v := 0) dX9_isRead_6 (by decide) ?_
  refine p_X9_309 (pc := 7) rfl dX9_isRead_7 (c_140 _) (Nat.le_of_ble_eq_true rfl) rfl rfl (s_140_45 _ _) ?_
  refine R_iconst (pc := 10) (v := 1) dX9_isRead_10 (by decide) ?_
  refine st_2_1_i_a (pc := 11) dX9_isRead_11 ?_
  refine R_iload_n (pc := 12) dX9_isRead_12 rfl rfl ?_
  refine R_ifeq (pc := 13) 75 dX9_isRead_13 (by decide) (fun h => absurd h (by decide)) (fun _ => ?_)
  refine R_aload_n (pc := 16) dX9_isRead_16 rfl rfl ?_
  refine R_bipush (pc := 17) (v := 6) dX9_isRead_17 (by decide) ?_
  refine R_aload_n (pc := 19) dX9_isRead_19 rfl rfl ?_
  refine g_X9_309 (pc := 20) (v := .int 0) rfl dX9_isRead_20 (c_140 _) rfl ?_
  refine R_imul (pc := 23) dX9_isRead_23 ?_
  refine R_cv 0 (by decide) ?_
  refine R_weq (WW (mx τ)) rfl ?_
  refine k_X9_312 (pc := 24) (fx_X9_isLine _ _) rfl (c_140 _) (by decide) (Nat.le_refl _) (Nat.le_refl _) (Nat.le_of_ble_eq_true rfl) dX9_isRead_24 (fun x w2 h => ?_)
  obtain ⟨rfl, rfl⟩ := h
  refine R_ifne (pc := 27) 32 dX9_isRead_27 (by decide) (fun h => absurd (by decide) h) (fun _ => ?_)
  refine R_iconst (pc := 30) (v := 0) dX9_isRead_30 (by decide) ?_
  exact R_iret (pc := 31) dX9_isRead_31 rfl rfl (Nat.zero_le _) (Nat.zero_le _) ⟨_, rfl, rfl, rfl⟩
theorem dX9_fault_0 : decode cX9_fault 0 = .ok (.aload_n 0, 1) := by decide +kernel
theorem dX9_fault_1 : decode cX9_fault 1 = .ok (.invokevirtual 315, 3) := by decide +kernel
theorem dX9_fault_4 : decode cX9_fault 4 = .ok (.ifCond .eq 7, 3) := by decide +kernel
theorem dX9_fault_7 : decode cX9_fault 7 = .ok (.iconst (-1), 1) := by decide +kernel
theorem dX9_fault_8 : decode cX9_fault 8 = .ok (.goto 7, 3) := by decide +kernel
theorem dX9_fault_11 : decode cX9_fault 11 = .ok (.aload_n 0, 1) := by decide +kernel
theorem dX9_fault_12 : decode cX9_fault 12 = .ok (.getfield 282, 3) := by decide +kernel
theorem dX9_fault_15 : decode cX9_fault 15 = .ok (.ireturn, 1) := by decide +kernel
set_option maxRecDepth 100000 in
set_option maxHeartbeats 40000000 in
theorem fm_fault {G : vG} {l : Launch} (τ : Sg)  : Sp G l yX9_fault cX9_fault 1 (some .int) 5 0 0 [.ref 140] (WW (mx τ)) (QI (fun x _ => x = 0)) := by
  refine Sp_of_R [(some (.ref 140))] [] rfl (by simp) rfl (Nat.le_of_ble_eq_true rfl) ?_
  refine R_aload_n (pc := 0) dX9_fault_0 rfl rfl ?_
  refine R_weq (WW (mx τ)) rfl ?_
  refine k_X9_315 (pc := 1) (fx_X9_isRead _) rfl (c_140 _) (by decide) (Nat.le_refl _) (Nat.le_refl _) (Nat.le_of_ble_eq_true rfl) dX9_fault_1 (fun x w2 h => ?_)
  obtain ⟨rfl, rfl⟩ := h
  refine R_ifeq (pc := 4) 11 dX9_fault_4 (by decide) (fun _ => ?_) (fun h => absurd (by decide) h)
  refine R_aload_n (pc := 11) dX9_fault_11 rfl rfl ?_
  refine g_X9_282 (pc := 12) (v := .int 0) rfl dX9_fault_12 (c_140 _) rfl ?_
  exact R_iret (pc := 15) dX9_fault_15 rfl rfl (Nat.zero_le _) (Nat.zero_le _) ⟨_, rfl, rfl⟩
theorem dX9_catalogue_0 : decode cX9_catalogue 0 = .ok (.aload_n 0, 1) := by decide +kernel
theorem dX9_catalogue_1 : decode cX9_catalogue 1 = .ok (.invokevirtual 315, 3) := by decide +kernel
theorem dX9_catalogue_4 : decode cX9_catalogue 4 = .ok (.ifCond .ne 6, 3) := by decide +kernel
theorem dX9_catalogue_7 : decode cX9_catalogue 7 = .ok (.bipush (-4), 2) := by decide +kernel
theorem dX9_catalogue_9 : decode cX9_catalogue 9 = .ok (.ireturn, 1) := by decide +kernel
theorem dX9_catalogue_10 : decode cX9_catalogue 10 = .ok (.iconst 0, 1) := by decide +kernel
theorem dX9_catalogue_11 : decode cX9_catalogue 11 = .ok (.istore_n 1, 1) := by decide +kernel
theorem dX9_catalogue_12 : decode cX9_catalogue 12 = .ok (.iload_n 1, 1) := by decide +kernel
theorem dX9_catalogue_13 : decode cX9_catalogue 13 = .ok (.bipush 48, 2) := by decide +kernel
theorem dX9_catalogue_15 : decode cX9_catalogue 15 = .ok (.if_icmp .ge 21, 3) := by decide +kernel
theorem dX9_catalogue_18 : decode cX9_catalogue 18 = .ok (.aload_n 0, 1) := by decide +kernel
theorem dX9_catalogue_19 : decode cX9_catalogue 19 = .ok (.getfield 114, 3) := by decide +kernel
theorem dX9_catalogue_22 : decode cX9_catalogue 22 = .ok (.iload_n 1, 1) := by decide +kernel
theorem dX9_catalogue_23 : decode cX9_catalogue 23 = .ok (.aload_n 0, 1) := by decide +kernel
theorem dX9_catalogue_24 : decode cX9_catalogue 24 = .ok (.getfield 111, 3) := by decide +kernel
theorem dX9_catalogue_27 : decode cX9_catalogue 27 = .ok (.iload_n 1, 1) := by decide +kernel
theorem dX9_catalogue_28 : decode cX9_catalogue 28 = .ok (.iaload, 1) := by decide +kernel
theorem dX9_catalogue_29 : decode cX9_catalogue 29 = .ok (.iastore, 1) := by decide +kernel
theorem dX9_catalogue_30 : decode cX9_catalogue 30 = .ok (.iinc 1 1, 3) := by decide +kernel
theorem dX9_catalogue_33 : decode cX9_catalogue 33 = .ok (.goto (-21), 3) := by decide +kernel
theorem dX9_catalogue_36 : decode cX9_catalogue 36 = .ok (.aload_n 0, 1) := by decide +kernel
theorem dX9_catalogue_37 : decode cX9_catalogue 37 = .ok (.aload_n 0, 1) := by decide +kernel
theorem dX9_catalogue_38 : decode cX9_catalogue 38 = .ok (.getfield 309, 3) := by decide +kernel
theorem dX9_catalogue_41 : decode cX9_catalogue 41 = .ok (.putfield 215, 3) := by decide +kernel
theorem dX9_catalogue_44 : decode cX9_catalogue 44 = .ok (.aload_n 0, 1) := by decide +kernel
theorem dX9_catalogue_45 : decode cX9_catalogue 45 = .ok (.getfield 215, 3) := by decide +kernel
theorem dX9_catalogue_48 : decode cX9_catalogue 48 = .ok (.ireturn, 1) := by decide +kernel
set_option maxRecDepth 100000 in
set_option maxHeartbeats 40000000 in
theorem fm_catalogue {G : vG} {l : Launch} (τ : Sg)  : Sp G l yX9_catalogue cX9_catalogue 2 (some .int) 5 0 0 [.ref 140] (WW (mx τ)) (QI (fun x _ => x = -4)) := by
  refine Sp_of_R [(some (.ref 140)), none] [none] rfl (by simp) rfl (Nat.le_of_ble_eq_true rfl) ?_
  refine R_aload_n (pc := 0) dX9_catalogue_0 rfl rfl ?_
  refine R_weq (WW (mx τ)) rfl ?_
  refine k_X9_315 (pc := 1) (fx_X9_isRead _) rfl (c_140 _) (by decide) (Nat.le_refl _) (Nat.le_refl _) (Nat.le_of_ble_eq_true rfl) dX9_catalogue_1 (fun x w2 h => ?_)
  obtain ⟨rfl, rfl⟩ := h
  refine R_ifne (pc := 4) 10 dX9_catalogue_4 (by decide) (fun h => absurd (by decide) h) (fun _ => ?_)
  refine R_bipush (pc := 7) (v := (-4)) dX9_catalogue_7 (by decide) ?_
  exact R_iret (pc := 9) dX9_catalogue_9 rfl rfl (Nat.zero_le _) (Nat.zero_le _) ⟨_, rfl, rfl⟩
