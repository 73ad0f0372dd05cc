/-! methods on any state that keeps the invariant -/
theorem dX9_isWall_0 : decode cX9_isWall 0 = .ok (.aload_n 0, 1) := by decide +kernel
theorem dX9_isWall_1 : decode cX9_isWall 1 = .ok (.getfield 232, 3) := by decide +kernel
theorem dX9_isWall_4 : decode cX9_isWall 4 = .ok (.iload_n 1, 1) := by decide +kernel
theorem dX9_isWall_5 : decode cX9_isWall 5 = .ok (.lshr, 1) := by decide +kernel
theorem dX9_isWall_6 : decode cX9_isWall 6 = .ok (.lconst 1, 1) := by decide +kernel
theorem dX9_isWall_7 : decode cX9_isWall 7 = .ok (.land, 1) := by decide +kernel
theorem dX9_isWall_8 : decode cX9_isWall 8 = .ok (.lconst 1, 1) := by decide +kernel
theorem dX9_isWall_9 : decode cX9_isWall 9 = .ok (.lcmp, 1) := by decide +kernel
theorem dX9_isWall_10 : decode cX9_isWall 10 = .ok (.ifCond .ne 7, 3) := by decide +kernel
theorem dX9_isWall_13 : decode cX9_isWall 13 = .ok (.iconst 1, 1) := by decide +kernel
theorem dX9_isWall_14 : decode cX9_isWall 14 = .ok (.goto 4, 3) := by decide +kernel
theorem dX9_isWall_17 : decode cX9_isWall 17 = .ok (.iconst 0, 1) := by decide +kernel
theorem dX9_isWall_18 : decode cX9_isWall 18 = .ok (.ireturn, 1) := by decide +kernel
set_option maxRecDepth 100000 in
set_option maxHeartbeats 40000000 in
theorem gx_X9_isWall {G : vG} {l : Launch} (σ : Sg) (a : Int32) (hI : Inv σ) : Sp G l yX9_isWall cX9_isWall 2 (some .boolean) 0 0 0 [.ref 140, .int a] (WW σ) (QI (fun x w2 => w2 = WW σ ∧ (x = 1 ∨ x = 0))) := by
  refine Sp_of_R [(some (.ref 140)), (some (.int a))] [] rfl (by simp) rfl (Nat.le_of_ble_eq_true rfl) ?_
  refine R_aload_n (pc := 0) dX9_isWall_0 rfl rfl ?_
  refine g_X9_232 (pc := 1) (v := .long (σ.2.1 14034)) rfl dX9_isWall_1 (c_140 _) rfl ?_
  refine R_iload_n (pc := 4) dX9_isWall_4 rfl rfl ?_
  refine R_lshr (pc := 5) dX9_isWall_5 ?_
  refine R_lconst (pc := 6) (v := 1) dX9_isWall_6 (by decide) ?_
  refine R_land (pc := 7) dX9_isWall_7 ?_
  refine R_lconst (pc := 8) (v := 1) dX9_isWall_8 (by decide) ?_
  refine R_lcmp (pc := 9) dX9_isWall_9 ?_
  refine R_ifne (pc := 10) 17 dX9_isWall_10 (by decide) (fun b10_1 => ?_) (fun b10_1 => ?_)
  · skip
    refine R_iconst (pc := 17) (v := 0) dX9_isWall_17 (by decide) ?_
    exact R_iret (pc := 18) dX9_isWall_18 rfl rfl (Nat.zero_le _) (Nat.zero_le _) ⟨_, rfl, rfl, Or.inr rfl⟩
  · skip
    refine R_iconst (pc := 13) (v := 1) dX9_isWall_13 (by decide) ?_
    refine R_goto (pc := 14) 18 dX9_isWall_14 (by decide) ?_
    exact R_iret (pc := 18) dX9_isWall_18 rfl rfl (Nat.zero_le _) (Nat.zero_le _) ⟨_, rfl, rfl, Or.inl rfl⟩
theorem dX9_isOrdered_0 : decode cX9_isOrdered 0 = .ok (.iload_n 2, 1) := by decide +kernel
theorem dX9_isOrdered_1 : decode cX9_isOrdered 1 = .ok (.bipush 8, 2) := by decide +kernel
theorem dX9_isOrdered_3 : decode cX9_isOrdered 3 = .ok (.irem, 1) := by decide +kernel
theorem dX9_isOrdered_4 : decode cX9_isOrdered 4 = .ok (.iload_n 1, 1) := by decide +kernel
theorem dX9_isOrdered_5 : decode cX9_isOrdered 5 = .ok (.bipush 8, 2) := by decide +kernel
theorem dX9_isOrdered_7 : decode cX9_isOrdered 7 = .ok (.irem, 1) := by decide +kernel
theorem dX9_isOrdered_8 : decode cX9_isOrdered 8 = .ok (.isub, 1) := by decide +kernel
theorem dX9_isOrdered_9 : decode cX9_isOrdered 9 = .ok (.istore 4, 2) := by decide +kernel
theorem dX9_isOrdered_11 : decode cX9_isOrdered 11 = .ok (.iload_n 2, 1) := by decide +kernel
theorem dX9_isOrdered_12 : decode cX9_isOrdered 12 = .ok (.bipush 8, 2) := by decide +kernel
theorem dX9_isOrdered_14 : decode cX9_isOrdered 14 = .ok (.idiv, 1) := by decide +kernel
theorem dX9_isOrdered_15 : decode cX9_isOrdered 15 = .ok (.iload_n 1, 1) := by decide +kernel
theorem dX9_isOrdered_16 : decode cX9_isOrdered 16 = .ok (.bipush 8, 2) := by decide +kernel
theorem dX9_isOrdered_18 : decode cX9_isOrdered 18 = .ok (.idiv, 1) := by decide +kernel
theorem dX9_isOrdered_19 : decode cX9_isOrdered 19 = .ok (.isub, 1) := by decide +kernel
theorem dX9_isOrdered_20 : decode cX9_isOrdered 20 = .ok (.istore 5, 2) := by decide +kernel
theorem dX9_isOrdered_22 : decode cX9_isOrdered 22 = .ok (.iload_n 3, 1) := by decide +kernel
theorem dX9_isOrdered_23 : decode cX9_isOrdered 23 = .ok (.bipush 8, 2) := by decide +kernel
theorem dX9_isOrdered_25 : decode cX9_isOrdered 25 = .ok (.irem, 1) := by decide +kernel
theorem dX9_isOrdered_26 : decode cX9_isOrdered 26 = .ok (.iload_n 1, 1) := by decide +kernel
theorem dX9_isOrdered_27 : decode cX9_isOrdered 27 = .ok (.bipush 8, 2) := by decide +kernel
theorem dX9_isOrdered_29 : decode cX9_isOrdered 29 = .ok (.irem, 1) := by decide +kernel
theorem dX9_isOrdered_30 : decode cX9_isOrdered 30 = .ok (.isub, 1) := by decide +kernel
theorem dX9_isOrdered_31 : decode cX9_isOrdered 31 = .ok (.istore 6, 2) := by decide +kernel
theorem dX9_isOrdered_33 : decode cX9_isOrdered 33 = .ok (.iload_n 3, 1) := by decide +kernel
theorem dX9_isOrdered_34 : decode cX9_isOrdered 34 = .ok (.bipush 8, 2) := by decide +kernel
theorem dX9_isOrdered_36 : decode cX9_isOrdered 36 = .ok (.idiv, 1) := by decide +kernel
theorem dX9_isOrdered_37 : decode cX9_isOrdered 37 = .ok (.iload_n 1, 1) := by decide +kernel
theorem dX9_isOrdered_38 : decode cX9_isOrdered 38 = .ok (.bipush 8, 2) := by decide +kernel
theorem dX9_isOrdered_40 : decode cX9_isOrdered 40 = .ok (.idiv, 1) := by decide +kernel
theorem dX9_isOrdered_41 : decode cX9_isOrdered 41 = .ok (.isub, 1) := by decide +kernel
theorem dX9_isOrdered_42 : decode cX9_isOrdered 42 = .ok (.istore 7, 2) := by decide +kernel
theorem dX9_isOrdered_44 : decode cX9_isOrdered 44 = .ok (.iload 4, 2) := by decide +kernel
theorem dX9_isOrdered_46 : decode cX9_isOrdered 46 = .ok (.iload 7, 2) := by decide +kernel
theorem dX9_isOrdered_48 : decode cX9_isOrdered 48 = .ok (.imul, 1) := by decide +kernel
theorem dX9_isOrdered_49 : decode cX9_isOrdered 49 = .ok (.iload 5, 2) := by decide +kernel
theorem dX9_isOrdered_51 : decode cX9_isOrdered 51 = .ok (.iload 6, 2) := by decide +kernel
theorem dX9_isOrdered_53 : decode cX9_isOrdered 53 = .ok (.imul, 1) := by decide +kernel
theorem dX9_isOrdered_54 : decode cX9_isOrdered 54 = .ok (.isub, 1) := by decide +kernel
theorem dX9_isOrdered_55 : decode cX9_isOrdered 55 = .ok (.ifCond .le 7, 3) := by decide +kernel
theorem dX9_isOrdered_58 : decode cX9_isOrdered 58 = .ok (.iconst 1, 1) := by decide +kernel
theorem dX9_isOrdered_59 : decode cX9_isOrdered 59 = .ok (.goto 4, 3) := by decide +kernel
theorem dX9_isOrdered_62 : decode cX9_isOrdered 62 = .ok (.iconst 0, 1) := by decide +kernel
theorem dX9_isOrdered_63 : decode cX9_isOrdered 63 = .ok (.ireturn, 1) := by decide +kernel
set_option maxRecDepth 100000 in
set_option maxHeartbeats 40000000 in
theorem gx_X9_isOrdered {G : vG} {l : Launch} (σ : Sg) (a b c : Int32) (hI : Inv σ) : Sp G l yX9_isOrdered cX9_isOrdered 8 (some .boolean) 0 0 0 [.ref 140, .int a, .int b, .int c] (WW σ) (QI (fun x w2 => w2 = WW σ ∧ (x = 1 ∨ x = 0))) := by
  refine Sp_of_R [(some (.ref 140)), (some (.int a)), (some (.int b)), (some (.int c)), none, none, none, none] [none, none, none, none] rfl (by simp) rfl (Nat.le_of_ble_eq_true rfl) ?_
  refine R_iload_n (pc := 0) dX9_isOrdered_0 rfl rfl ?_
  refine R_bipush (pc := 1) (v := 8) dX9_isOrdered_1 (by decide) ?_
  refine R_irem (pc := 3) dX9_isOrdered_3 (by decide) ?_
  refine R_iload_n (pc := 4) dX9_isOrdered_4 rfl rfl ?_
  refine R_bipush (pc := 5) (v := 8) dX9_isOrdered_5 (by decide) ?_
  refine R_irem (pc := 7) dX9_isOrdered_7 (by decide) ?_
  refine R_isub (pc := 8) dX9_isOrdered_8 ?_
  refine st_8_4_i_i (pc := 9) dX9_isOrdered_9 ?_
  refine R_iload_n (pc := 11) dX9_isOrdered_11 rfl rfl ?_
  refine R_bipush (pc := 12) (v := 8) dX9_isOrdered_12 (by decide) ?_
  refine R_idiv (pc := 14) dX9_isOrdered_14 (by decide) ?_
  refine R_iload_n (pc := 15) dX9_isOrdered_15 rfl rfl ?_
  refine R_bipush (pc := 16) (v := 8) dX9_isOrdered_16 (by decide) ?_
  refine R_idiv (pc := 18) dX9_isOrdered_18 (by decide) ?_
  refine R_isub (pc := 19) dX9_isOrdered_19 ?_
  refine st_8_5_i_i (pc := 20) dX9_isOrdered_20 ?_
  refine R_iload_n (pc := 22) dX9_isOrdered_22 rfl rfl ?_
  refine R_bipush (pc := 23) (v := 8) dX9_isOrdered_23 (by decide) ?_
  refine R_irem (pc := 25) dX9_isOrdered_25 (by decide) ?_
  refine R_iload_n (pc := 26) dX9_isOrdered_26 rfl rfl ?_
  refine R_bipush (pc := 27) (v := 8) dX9_isOrdered_27 (by decide) ?_
  refine R_irem (pc := 29) dX9_isOrdered_29 (by decide) ?_
  refine R_isub (pc := 30) dX9_isOrdered_30 ?_
  refine st_8_6_i_i (pc := 31) dX9_isOrdered_31 ?_
  refine R_iload_n (pc := 33) dX9_isOrdered_33 rfl rfl ?_
  refine R_bipush (pc := 34) (v := 8) dX9_isOrdered_34 (by decide) ?_
  refine R_idiv (pc := 36) dX9_isOrdered_36 (by decide) ?_
  refine R_iload_n (pc := 37) dX9_isOrdered_37 rfl rfl ?_
  refine R_bipush (pc := 38) (v := 8) dX9_isOrdered_38 (by decide) ?_
  refine R_idiv (pc := 40) dX9_isOrdered_40 (by decide) ?_
  refine R_isub (pc := 41) dX9_isOrdered_41 ?_
  refine st_8_7_i_i (pc := 42) dX9_isOrdered_42 ?_
  refine R_iload (pc := 44) dX9_isOrdered_44 rfl ?_
  refine R_iload (pc := 46) dX9_isOrdered_46 rfl ?_
  refine R_imul (pc := 48) dX9_isOrdered_48 ?_
  refine R_iload (pc := 49) dX9_isOrdered_49 rfl ?_
  refine R_iload (pc := 51) dX9_isOrdered_51 rfl ?_
  refine R_imul (pc := 53) dX9_isOrdered_53 ?_
  refine R_isub (pc := 54) dX9_isOrdered_54 ?_
  refine R_ifle (pc := 55) 62 dX9_isOrdered_55 (by decide) (fun b55_1 => ?_) (fun b55_1 => ?_)
  · skip
    refine R_iconst (pc := 62) (v := 0) dX9_isOrdered_62 (by decide) ?_
    exact R_iret (pc := 63) dX9_isOrdered_63 rfl rfl (Nat.zero_le _) (Nat.zero_le _) ⟨_, rfl, rfl, Or.inr rfl⟩
  · skip
    refine R_iconst (pc := 58) (v := 1) dX9_isOrdered_58 (by decide) ?_
    refine R_goto (pc := 59) 63 dX9_isOrdered_59 (by decide) ?_
    exact R_iret (pc := 63) dX9_isOrdered_63 rfl rfl (Nat.zero_le _) (Nat.zero_le _) ⟨_, rfl, rfl, Or.inl rfl⟩
theorem dX9_count_0 : decode cX9_count 0 = .ok (.iconst 0, 1) := by decide +kernel
theorem dX9_count_1 : decode cX9_count 1 = .ok (.istore_n 2, 1) := by decide +kernel
theorem dX9_count_2 : decode cX9_count 2 = .ok (.iload_n 1, 1) := by decide +kernel
theorem dX9_count_3 : decode cX9_count 3 = .ok (.iconst 2, 1) := by decide +kernel
theorem dX9_count_4 : decode cX9_count 4 = .ok (.if_icmp .eq 8, 3) := by decide +kernel
theorem dX9_count_7 : decode cX9_count 7 = .ok (.iload_n 1, 1) := by decide +kernel
theorem dX9_count_8 : decode cX9_count 8 = .ok (.iconst 3, 1) := by decide +kernel
theorem dX9_count_9 : decode cX9_count 9 = .ok (.if_icmp .ne 77, 3) := by decide +kernel
theorem dX9_count_12 : decode cX9_count 12 = .ok (.aload_n 0, 1) := by decide +kernel
theorem dX9_count_13 : decode cX9_count 13 = .ok (.invokevirtual 162, 3) := by decide +kernel
theorem dX9_count_16 : decode cX9_count 16 = .ok (.aload_n 0, 1) := by decide +kernel
theorem dX9_count_17 : decode cX9_count 17 = .ok (.aload_n 0, 1) := by decide +kernel
theorem dX9_count_18 : decode cX9_count 18 = .ok (.getfield 54, 3) := by decide +kernel
theorem dX9_count_21 : decode cX9_count 21 = .ok (.iconst 0, 1) := by decide +kernel
theorem dX9_count_22 : decode cX9_count 22 = .ok (.iconst (-1), 1) := by decide +kernel
theorem dX9_count_23 : decode cX9_count 23 = .ok (.invokevirtual 165, 3) := by decide +kernel
theorem dX9_count_26 : decode cX9_count 26 = .ok (.aload_n 0, 1) := by decide +kernel
theorem dX9_count_27 : decode cX9_count 27 = .ok (.aload_n 0, 1) := by decide +kernel
theorem dX9_count_28 : decode cX9_count 28 = .ok (.getfield 57, 3) := by decide +kernel
theorem dX9_count_31 : decode cX9_count 31 = .ok (.iconst 1, 1) := by decide +kernel
theorem dX9_count_32 : decode cX9_count 32 = .ok (.iconst (-1), 1) := by decide +kernel
theorem dX9_count_33 : decode cX9_count 33 = .ok (.invokevirtual 165, 3) := by decide +kernel
theorem dX9_count_36 : decode cX9_count 36 = .ok (.iconst 0, 1) := by decide +kernel
theorem dX9_count_37 : decode cX9_count 37 = .ok (.istore_n 3, 1) := by decide +kernel
theorem dX9_count_38 : decode cX9_count 38 = .ok (.iload_n 3, 1) := by decide +kernel
theorem dX9_count_39 : decode cX9_count 39 = .ok (.aload_n 0, 1) := by decide +kernel
theorem dX9_count_40 : decode cX9_count 40 = .ok (.invokevirtual 120, 3) := by decide +kernel
theorem dX9_count_43 : decode cX9_count 43 = .ok (.if_icmp .ge 41, 3) := by decide +kernel
theorem dX9_count_46 : decode cX9_count 46 = .ok (.iload_n 2, 1) := by decide +kernel
theorem dX9_count_47 : decode cX9_count 47 = .ok (.iload_n 1, 1) := by decide +kernel
theorem dX9_count_48 : decode cX9_count 48 = .ok (.iconst 2, 1) := by decide +kernel
theorem dX9_count_49 : decode cX9_count 49 = .ok (.if_icmp .ne 12, 3) := by decide +kernel
theorem dX9_count_52 : decode cX9_count 52 = .ok (.aload_n 0, 1) := by decide +kernel
theorem dX9_count_53 : decode cX9_count 53 = .ok (.getfield 54, 3) := by decide +kernel
theorem dX9_count_56 : decode cX9_count 56 = .ok (.iload_n 3, 1) := by decide +kernel
theorem dX9_count_57 : decode cX9_count 57 = .ok (.iaload, 1) := by decide +kernel
theorem dX9_count_58 : decode cX9_count 58 = .ok (.goto 9, 3) := by decide +kernel
theorem dX9_count_61 : decode cX9_count 61 = .ok (.aload_n 0, 1) := by decide +kernel
theorem dX9_count_62 : decode cX9_count 62 = .ok (.getfield 57, 3) := by decide +kernel
theorem dX9_count_65 : decode cX9_count 65 = .ok (.iload_n 3, 1) := by decide +kernel
theorem dX9_count_66 : decode cX9_count 66 = .ok (.iaload, 1) := by decide +kernel
theorem dX9_count_67 : decode cX9_count 67 = .ok (.iload_n 3, 1) := by decide +kernel
theorem dX9_count_68 : decode cX9_count 68 = .ok (.if_icmp .ne 7, 3) := by decide +kernel
theorem dX9_count_71 : decode cX9_count 71 = .ok (.iconst 1, 1) := by decide +kernel
theorem dX9_count_72 : decode cX9_count 72 = .ok (.goto 4, 3) := by decide +kernel
theorem dX9_count_75 : decode cX9_count 75 = .ok (.iconst 0, 1) := by decide +kernel
theorem dX9_count_76 : decode cX9_count 76 = .ok (.iadd, 1) := by decide +kernel
theorem dX9_count_77 : decode cX9_count 77 = .ok (.istore_n 2, 1) := by decide +kernel
theorem dX9_count_78 : decode cX9_count 78 = .ok (.iinc 3 1, 3) := by decide +kernel
theorem dX9_count_81 : decode cX9_count 81 = .ok (.goto (-43), 3) := by decide +kernel
theorem dX9_count_84 : decode cX9_count 84 = .ok (.iload_n 2, 1) := by decide +kernel
theorem dX9_count_85 : decode cX9_count 85 = .ok (.ireturn, 1) := by decide +kernel
theorem dX9_count_86 : decode cX9_count 86 = .ok (.iload_n 1, 1) := by decide +kernel
theorem dX9_count_87 : decode cX9_count 87 = .ok (.tableswitch 75 0 7 #[45, 50, 75, 75, 55, 60, 65, 70], 45) := by decide +kernel
theorem dX9_count_132 : decode cX9_count 132 = .ok (.aload_n 0, 1) := by decide +kernel
theorem dX9_count_133 : decode cX9_count 133 = .ok (.getfield 117, 3) := by decide +kernel
theorem dX9_count_136 : decode cX9_count 136 = .ok (.ireturn, 1) := by decide +kernel
theorem dX9_count_137 : decode cX9_count 137 = .ok (.aload_n 0, 1) := by decide +kernel
theorem dX9_count_138 : decode cX9_count 138 = .ok (.invokevirtual 120, 3) := by decide +kernel
theorem dX9_count_141 : decode cX9_count 141 = .ok (.ireturn, 1) := by decide +kernel
theorem dX9_count_142 : decode cX9_count 142 = .ok (.aload_n 0, 1) := by decide +kernel
theorem dX9_count_143 : decode cX9_count 143 = .ok (.getfield 132, 3) := by decide +kernel
theorem dX9_count_146 : decode cX9_count 146 = .ok (.ireturn, 1) := by decide +kernel
theorem dX9_count_147 : decode cX9_count 147 = .ok (.aload_n 0, 1) := by decide +kernel
theorem dX9_count_148 : decode cX9_count 148 = .ok (.getfield 254, 3) := by decide +kernel
theorem dX9_count_151 : decode cX9_count 151 = .ok (.ireturn, 1) := by decide +kernel
theorem dX9_count_152 : decode cX9_count 152 = .ok (.aload_n 0, 1) := by decide +kernel
theorem dX9_count_153 : decode cX9_count 153 = .ok (.getfield 215, 3) := by decide +kernel
theorem dX9_count_156 : decode cX9_count 156 = .ok (.ireturn, 1) := by decide +kernel
theorem dX9_count_157 : decode cX9_count 157 = .ok (.aload_n 0, 1) := by decide +kernel
theorem dX9_count_158 : decode cX9_count 158 = .ok (.getfield 201, 3) := by decide +kernel
theorem dX9_count_161 : decode cX9_count 161 = .ok (.ireturn, 1) := by decide +kernel
theorem dX9_count_162 : decode cX9_count 162 = .ok (.bipush (-3), 2) := by decide +kernel
theorem dX9_count_164 : decode cX9_count 164 = .ok (.ireturn, 1) := by decide +kernel
set_option maxRecDepth 100000 in
set_option maxHeartbeats 40000000 in
theorem gp_m_count {G : vG} {l : Launch} (σ : Sg) (a : Int32) (hI : Inv σ) : Sp G l yX9_count cX9_count 4 (some .int) 4 0 0 [.ref 140, .int a] (WW σ) (QI (fun _ w2 => ∃ σ2, w2 = WW σ2 ∧ Inv σ2 ∧ Cor σ σ2)) := by
  refine Sp_of_R [(some (.ref 140)), (some (.int a)), none, none] [none, none] rfl (by simp) rfl (Nat.le_of_ble_eq_true rfl) ?_
  refine R_iconst (pc := 0) (v := 0) dX9_count_0 (by decide) ?_
  refine st_4_2_i_i (pc := 1) dX9_count_1 ?_
  refine R_iload_n (pc := 2) dX9_count_2 rfl rfl ?_
  refine R_iconst (pc := 3) (v := 2) dX9_count_3 (by decide) ?_
  refine R_iceq (pc := 4) 12 dX9_count_4 (by decide) (fun b4_1 => ?_) (fun b4_1 => ?_)
  · skip
    refine R_aload_n (pc := 12) dX9_count_12 rfl rfl ?_
    refine k_X9_162 (pc := 13) (gx_X9_findUnlike _ hI) rfl (c_140 _) (by decide) (Nat.le_refl _) (Nat.le_refl _) (Nat.le_of_ble_eq_true rfl) dX9_count_13 (fun w2 h => ?_)
    obtain ⟨σx4, rfl, hV3, hW5⟩ := h
    have hW6 := Cor.trans (show Cor σ σ from Cor.rfl' σ) hW5
    refine R_aload_n (pc := 16) dX9_count_16 rfl rfl ?_
    refine R_aload_n (pc := 17) dX9_count_17 rfl rfl ?_
    refine g_X9_54 (pc := 18) (v := .ref 152) rfl dX9_count_18 (c_140 _) rfl ?_
    refine R_iconst (pc := 21) (v := 0) dX9_count_21 (by decide) ?_
    refine R_iconst (pc := 22) (v := (-1)) dX9_count_22 (by decide) ?_
    refine k_X9_165 (pc := 23) (gx_X9_findChains_152 _ _ _ hV3) rfl (c_140 _) (by decide) (Nat.le_refl _) (Nat.le_refl _) (Nat.le_of_ble_eq_true rfl) dX9_count_23 (fun w2 h => ?_)
    obtain ⟨σx9, rfl, hV8, hW10⟩ := h
    have hW11 := Cor.trans hW6 hW10
    refine R_aload_n (pc := 26) dX9_count_26 rfl rfl ?_
    refine R_aload_n (pc := 27) dX9_count_27 rfl rfl ?_
    refine g_X9_57 (pc := 28) (v := .ref 153) rfl dX9_count_28 (c_140 _) rfl ?_
    refine R_iconst (pc := 31) (v := 1) dX9_count_31 (by decide) ?_
    refine R_iconst (pc := 32) (v := (-1)) dX9_count_32 (by decide) ?_
    refine k_X9_165 (pc := 33) (gx_X9_findChains_153 _ _ _ hV8) rfl (c_140 _) (by decide) (Nat.le_refl _) (Nat.le_refl _) (Nat.le_of_ble_eq_true rfl) dX9_count_33 (fun w2 h => ?_)
    obtain ⟨σx14, rfl, hV13, hW15⟩ := h
    have hW16 := Cor.trans hW11 hW15
    refine R_iconst (pc := 36) (v := 0) dX9_count_36 (by decide) ?_
    refine st_4_3_i_i (pc := 37) dX9_count_37 ?_
    have HL38 : ∀ (q j38 : Nat) (g2_38 : Int32), j38 + q = 20 → 0 ≤ j38 → R G l yX9_count cX9_count 4 (some .int) 4 0 0 (QI (fun _ w2 => ∃ σ2, w2 = WW σ2 ∧ Inv σ2 ∧ Cor σ σ2)) 38 [(some (.ref 140)), (some (.int a)), (some (.int g2_38)), (some (.int (nI j38)))] [] (WW σx14) 0 0 := by
      intro q
      induction q with
      | zero =>
        intro j38 g2_38 hj hs38
        obtain rfl : j38 = 20 := by omega
        refine R_iload_n (pc := 38) dX9_count_38 rfl rfl ?_
        refine R_aload_n (pc := 39) dX9_count_39 rfl rfl ?_
        refine k_X9_120 (pc := 40) (gx_X9_thereMany _ hV13) rfl (c_140 _) (by decide) (Nat.le_refl _) (Nat.le_refl _) (Nat.le_of_ble_eq_true rfl) dX9_count_40 (fun y17 w2 h => ?_)
        obtain ⟨rfl, hr18⟩ := h
        refine R_icge (pc := 43) 84 dX9_count_43 (by decide) (fun _ => ?_) (fun h => absurd (Int32.not_lt.mp (inR_up hr18 (Int32.le_refl _) (by decide)).2) h)
        refine R_iload_n (pc := 84) dX9_count_84 rfl rfl ?_
        exact R_iret (pc := 85) dX9_count_85 rfl rfl (Nat.zero_le _) (Nat.zero_le _) ⟨_, rfl, _, rfl, hV13, hW16⟩
      | succ q ih38 =>
        intro j38 g2_38 hj hs38
        have hrg38 : inR (nI j38) 0 19 := inR_ix hs38 (show j38 < 20 by omega) (by decide) (by decide) (by decide)
        have hlt38 : j38 < 20 := by omega
        refine R_iload_n (pc := 38) dX9_count_38 rfl rfl ?_
        refine R_aload_n (pc := 39) dX9_count_39 rfl rfl ?_
        refine k_X9_120 (pc := 40) (gx_X9_thereMany _ hV13) rfl (c_140 _) (by decide) (Nat.le_refl _) (Nat.le_refl _) (Nat.le_of_ble_eq_true rfl) dX9_count_40 (fun y20 w2 h => ?_)
        obtain ⟨rfl, hr21⟩ := h
        refine R_icge (pc := 43) 84 dX9_count_43 (by decide) (fun b43_22 => ?_) (fun b43_22 => ?_)
        · skip
          refine R_iload_n (pc := 84) dX9_count_84 rfl rfl ?_
          exact R_iret (pc := 85) dX9_count_85 rfl rfl (Nat.zero_le _) (Nat.zero_le _) ⟨_, rfl, _, rfl, hV13, hW16⟩
        · skip
          refine R_iload_n (pc := 46) dX9_count_46 rfl rfl ?_
          refine R_iload_n (pc := 47) dX9_count_47 rfl rfl ?_
          refine R_iconst (pc := 48) (v := 2) dX9_count_48 (by decide) ?_
          refine R_icne (pc := 49) 61 dX9_count_49 (by decide) (fun b49_23 => ?_) (fun b49_23 => ?_)
          · skip
            refine R_aload_n (pc := 61) dX9_count_61 rfl rfl ?_
            refine g_X9_57 (pc := 62) (v := .ref 153) rfl dX9_count_62 (c_140 _) rfl ?_
            refine R_iload_n (pc := 65) dX9_count_65 rfl rfl ?_
            have hx24 : vp_in (nI j38) 20 := (vp_in_nI (by omega) (by decide))
            refine R_iaload (pc := 66) dX9_count_66 (c_153 _) hx24 ?_
            refine R_iload_n (pc := 67) dX9_count_67 rfl rfl ?_
            refine R_icne (pc := 68) 75 dX9_count_68 (by decide) (fun b68_25 => ?_) (fun b68_25 => ?_)
            · skip
              refine R_iconst (pc := 75) (v := 0) dX9_count_75 (by decide) ?_
              refine R_iadd (pc := 76) dX9_count_76 ?_
              refine st_4_2_i_i (pc := 77) dX9_count_77 ?_
              refine inc_4_3_1_i (pc := 78) dX9_count_78 ?_
              have r26 : inR ((nI j38) + 1) 1 20 := inR_add (show inR (nI j38) 0 19 from hrg38) (show inR 1 1 1 from (inR_self _)) (by decide) (by decide)
              have e27 := ti_add (l := 1) (h := 20) (show inR (nI j38) 0 19 from hrg38) (show inR 1 1 1 from (inR_self _)) (by decide) (by decide)
              refine R_goto (pc := 81) 38 dX9_count_81 (by decide) ?_
              rw [nI_1]
              exact ih38 (j38 + 1) _ (by omega) (by omega)
            · skip
              refine R_iconst (pc := 71) (v := 1) dX9_count_71 (by decide) ?_
              refine R_goto (pc := 72) 76 dX9_count_72 (by decide) ?_
              refine R_iadd (pc := 76) dX9_count_76 ?_
              refine st_4_2_i_i (pc := 77) dX9_count_77 ?_
              refine inc_4_3_1_i (pc := 78) dX9_count_78 ?_
              have r28 : inR ((nI j38) + 1) 1 20 := inR_add (show inR (nI j38) 0 19 from hrg38) (show inR 1 1 1 from (inR_self _)) (by decide) (by decide)
              have e29 := ti_add (l := 1) (h := 20) (show inR (nI j38) 0 19 from hrg38) (show inR 1 1 1 from (inR_self _)) (by decide) (by decide)
              refine R_goto (pc := 81) 38 dX9_count_81 (by decide) ?_
              rw [nI_1]
              exact ih38 (j38 + 1) _ (by omega) (by omega)
          · skip
            refine R_aload_n (pc := 52) dX9_count_52 rfl rfl ?_
            refine g_X9_54 (pc := 53) (v := .ref 152) rfl dX9_count_53 (c_140 _) rfl ?_
            refine R_iload_n (pc := 56) dX9_count_56 rfl rfl ?_
            have hx30 : vp_in (nI j38) 20 := (vp_in_nI (by omega) (by decide))
            refine R_iaload (pc := 57) dX9_count_57 (c_152 _) hx30 ?_
            refine R_goto (pc := 58) 67 dX9_count_58 (by decide) ?_
            refine R_iload_n (pc := 67) dX9_count_67 rfl rfl ?_
            refine R_icne (pc := 68) 75 dX9_count_68 (by decide) (fun b68_31 => ?_) (fun b68_31 => ?_)
            · skip
              refine R_iconst (pc := 75) (v := 0) dX9_count_75 (by decide) ?_
              refine R_iadd (pc := 76) dX9_count_76 ?_
              refine st_4_2_i_i (pc := 77) dX9_count_77 ?_
              refine inc_4_3_1_i (pc := 78) dX9_count_78 ?_
              have r32 : inR ((nI j38) + 1) 1 20 := inR_add (show inR (nI j38) 0 19 from hrg38) (show inR 1 1 1 from (inR_self _)) (by decide) (by decide)
              have e33 := ti_add (l := 1) (h := 20) (show inR (nI j38) 0 19 from hrg38) (show inR 1 1 1 from (inR_self _)) (by decide) (by decide)
              refine R_goto (pc := 81) 38 dX9_count_81 (by decide) ?_
              rw [nI_1]
              exact ih38 (j38 + 1) _ (by omega) (by omega)
            · skip
              refine R_iconst (pc := 71) (v := 1) dX9_count_71 (by decide) ?_
              refine R_goto (pc := 72) 76 dX9_count_72 (by decide) ?_
              refine R_iadd (pc := 76) dX9_count_76 ?_
              refine st_4_2_i_i (pc := 77) dX9_count_77 ?_
              refine inc_4_3_1_i (pc := 78) dX9_count_78 ?_
              have r34 : inR ((nI j38) + 1) 1 20 := inR_add (show inR (nI j38) 0 19 from hrg38) (show inR 1 1 1 from (inR_self _)) (by decide) (by decide)
              have e35 := ti_add (l := 1) (h := 20) (show inR (nI j38) 0 19 from hrg38) (show inR 1 1 1 from (inR_self _)) (by decide) (by decide)
              refine R_goto (pc := 81) 38 dX9_count_81 (by decide) ?_
              rw [nI_1]
              exact ih38 (j38 + 1) _ (by omega) (by omega)
    exact HL38 20 0 _ (by omega) (by omega)
  · skip
    refine R_iload_n (pc := 7) dX9_count_7 rfl rfl ?_
    refine R_iconst (pc := 8) (v := 3) dX9_count_8 (by decide) ?_
    refine R_icne (pc := 9) 86 dX9_count_9 (by decide) (fun b9_36 => ?_) (fun b9_36 => ?_)
    · skip
      refine R_iload_n (pc := 86) dX9_count_86 rfl rfl ?_
      rcases sw7 a with rfl | rfl | rfl | rfl | rfl | rfl | rfl | rfl | hsw
      · skip
        refine R_tin (pc := 87) 132 dX9_count_87 (by decide) (by decide) rfl (by decide) ?_
        refine R_aload_n (pc := 132) dX9_count_132 rfl rfl ?_
        refine g_X9_117 (pc := 133) (v := .int (σ.1 14000)) rfl dX9_count_133 (c_140 _) rfl ?_
        exact R_iret (pc := 136) dX9_count_136 rfl rfl (Nat.zero_le _) (Nat.zero_le _) ⟨_, rfl, _, rfl, hI, (show Cor σ σ from Cor.rfl' σ)⟩
      · skip
        refine R_tin (pc := 87) 137 dX9_count_87 (by decide) (by decide) rfl (by decide) ?_
        refine R_aload_n (pc := 137) dX9_count_137 rfl rfl ?_
        refine k_X9_120 (pc := 138) (gx_X9_thereMany _ hI) rfl (c_140 _) (by decide) (Nat.le_refl _) (Nat.le_refl _) (Nat.le_of_ble_eq_true rfl) dX9_count_138 (fun y37 w2 h => ?_)
        obtain ⟨rfl, hr38⟩ := h
        exact R_iret (pc := 141) dX9_count_141 rfl rfl (Nat.zero_le _) (Nat.zero_le _) ⟨_, rfl, _, rfl, hI, (show Cor σ σ from Cor.rfl' σ)⟩
      · skip
        refine R_tin (pc := 87) 162 dX9_count_87 (by decide) (by decide) rfl (by decide) ?_
        refine R_bipush (pc := 162) (v := (-3)) dX9_count_162 (by decide) ?_
        exact R_iret (pc := 164) dX9_count_164 rfl rfl (Nat.zero_le _) (Nat.zero_le _) ⟨_, rfl, _, rfl, hI, (show Cor σ σ from Cor.rfl' σ)⟩
      · skip
        refine R_tin (pc := 87) 162 dX9_count_87 (by decide) (by decide) rfl (by decide) ?_
        refine R_bipush (pc := 162) (v := (-3)) dX9_count_162 (by decide) ?_
        exact R_iret (pc := 164) dX9_count_164 rfl rfl (Nat.zero_le _) (Nat.zero_le _) ⟨_, rfl, _, rfl, hI, (show Cor σ σ from Cor.rfl' σ)⟩
      · skip
        refine R_tin (pc := 87) 142 dX9_count_87 (by decide) (by decide) rfl (by decide) ?_
        refine R_aload_n (pc := 142) dX9_count_142 rfl rfl ?_
        refine g_X9_132 (pc := 143) (v := .int (σ.1 14011)) rfl dX9_count_143 (c_140 _) rfl ?_
        exact R_iret (pc := 146) dX9_count_146 rfl rfl (Nat.zero_le _) (Nat.zero_le _) ⟨_, rfl, _, rfl, hI, (show Cor σ σ from Cor.rfl' σ)⟩
      · skip
        refine R_tin (pc := 87) 147 dX9_count_87 (by decide) (by decide) rfl (by decide) ?_
        refine R_aload_n (pc := 147) dX9_count_147 rfl rfl ?_
        refine g_X9_254 (pc := 148) (v := .int (σ.1 14037)) rfl dX9_count_148 (c_140 _) rfl ?_
        exact R_iret (pc := 151) dX9_count_151 rfl rfl (Nat.zero_le _) (Nat.zero_le _) ⟨_, rfl, _, rfl, hI, (show Cor σ σ from Cor.rfl' σ)⟩
      · skip
        refine R_tin (pc := 87) 152 dX9_count_87 (by decide) (by decide) rfl (by decide) ?_
        refine R_aload_n (pc := 152) dX9_count_152 rfl rfl ?_
        refine g_X9_215 (pc := 153) (v := .int (σ.1 14047)) rfl dX9_count_153 (c_140 _) rfl ?_
        exact R_iret (pc := 156) dX9_count_156 rfl rfl (Nat.zero_le _) (Nat.zero_le _) ⟨_, rfl, _, rfl, hI, (show Cor σ σ from Cor.rfl' σ)⟩
      · skip
        refine R_tin (pc := 87) 157 dX9_count_87 (by decide) (by decide) rfl (by decide) ?_
        refine R_aload_n (pc := 157) dX9_count_157 rfl rfl ?_
        refine g_X9_201 (pc := 158) (v := .int (σ.1 14025)) rfl dX9_count_158 (c_140 _) rfl ?_
        exact R_iret (pc := 161) dX9_count_161 rfl rfl (Nat.zero_le _) (Nat.zero_le _) ⟨_, rfl, _, rfl, hI, (show Cor σ σ from Cor.rfl' σ)⟩
      · skip
        refine R_tout (pc := 87) 162 dX9_count_87 hsw (by decide) ?_
        refine R_bipush (pc := 162) (v := (-3)) dX9_count_162 (by decide) ?_
        exact R_iret (pc := 164) dX9_count_164 rfl rfl (Nat.zero_le _) (Nat.zero_le _) ⟨_, rfl, _, rfl, hI, (show Cor σ σ from Cor.rfl' σ)⟩
    · skip
      refine R_aload_n (pc := 12) dX9_count_12 rfl rfl ?_
      refine k_X9_162 (pc := 13) (gx_X9_findUnlike _ hI) rfl (c_140 _) (by decide) (Nat.le_refl _) (Nat.le_refl _) (Nat.le_of_ble_eq_true rfl) dX9_count_13 (fun w2 h => ?_)
      obtain ⟨σx41, rfl, hV40, hW42⟩ := h
      have hW43 := Cor.trans (show Cor σ σ from Cor.rfl' σ) hW42
      refine R_aload_n (pc := 16) dX9_count_16 rfl rfl ?_
      refine R_aload_n (pc := 17) dX9_count_17 rfl rfl ?_
      refine g_X9_54 (pc := 18) (v := .ref 152) rfl dX9_count_18 (c_140 _) rfl ?_
      refine R_iconst (pc := 21) (v := 0) dX9_count_21 (by decide) ?_
      refine R_iconst (pc := 22) (v := (-1)) dX9_count_22 (by decide) ?_
      refine k_X9_165 (pc := 23) (gx_X9_findChains_152 _ _ _ hV40) rfl (c_140 _) (by decide) (Nat.le_refl _) (Nat.le_refl _) (Nat.le_of_ble_eq_true rfl) dX9_count_23 (fun w2 h => ?_)
      obtain ⟨σx46, rfl, hV45, hW47⟩ := h
      have hW48 := Cor.trans hW43 hW47
      refine R_aload_n (pc := 26) dX9_count_26 rfl rfl ?_
      refine R_aload_n (pc := 27) dX9_count_27 rfl rfl ?_
      refine g_X9_57 (pc := 28) (v := .ref 153) rfl dX9_count_28 (c_140 _) rfl ?_
      refine R_iconst (pc := 31) (v := 1) dX9_count_31 (by decide) ?_
      refine R_iconst (pc := 32) (v := (-1)) dX9_count_32 (by decide) ?_
      refine k_X9_165 (pc := 33) (gx_X9_findChains_153 _ _ _ hV45) rfl (c_140 _) (by decide) (Nat.le_refl _) (Nat.le_refl _) (Nat.le_of_ble_eq_true rfl) dX9_count_33 (fun w2 h => ?_)
      obtain ⟨σx51, rfl, hV50, hW52⟩ := h
      have hW53 := Cor.trans hW48 hW52
      refine R_iconst (pc := 36) (v := 0) dX9_count_36 (by decide) ?_
      refine st_4_3_i_i (pc := 37) dX9_count_37 ?_
      have HL38 : ∀ (q j38 : Nat) (g2_38 : Int32), j38 + q = 20 → 0 ≤ j38 → R G l yX9_count cX9_count 4 (some .int) 4 0 0 (QI (fun _ w2 => ∃ σ2, w2 = WW σ2 ∧ Inv σ2 ∧ Cor σ σ2)) 38 [(some (.ref 140)), (some (.int a)), (some (.int g2_38)), (some (.int (nI j38)))] [] (WW σx51) 0 0 := by
        intro q
        induction q with
        | zero =>
          intro j38 g2_38 hj hs38
          obtain rfl : j38 = 20 := by omega
          refine R_iload_n (pc := 38) dX9_count_38 rfl rfl ?_
          refine R_aload_n (pc := 39) dX9_count_39 rfl rfl ?_
          refine k_X9_120 (pc := 40) (gx_X9_thereMany _ hV50) rfl (c_140 _) (by decide) (Nat.le_refl _) (Nat.le_refl _) (Nat.le_of_ble_eq_true rfl) dX9_count_40 (fun y54 w2 h => ?_)
          obtain ⟨rfl, hr55⟩ := h
          refine R_icge (pc := 43) 84 dX9_count_43 (by decide) (fun _ => ?_) (fun h => absurd (Int32.not_lt.mp (inR_up hr55 (Int32.le_refl _) (by decide)).2) h)
          refine R_iload_n (pc := 84) dX9_count_84 rfl rfl ?_
          exact R_iret (pc := 85) dX9_count_85 rfl rfl (Nat.zero_le _) (Nat.zero_le _) ⟨_, rfl, _, rfl, hV50, hW53⟩
        | succ q ih38 =>
          intro j38 g2_38 hj hs38
          have hrg38 : inR (nI j38) 0 19 := inR_ix hs38 (show j38 < 20 by omega) (by decide) (by decide) (by decide)
          have hlt38 : j38 < 20 := by omega
          refine R_iload_n (pc := 38) dX9_count_38 rfl rfl ?_
          refine R_aload_n (pc := 39) dX9_count_39 rfl rfl ?_
          refine k_X9_120 (pc := 40) (gx_X9_thereMany _ hV50) rfl (c_140 _) (by decide) (Nat.le_refl _) (Nat.le_refl _) (Nat.le_of_ble_eq_true rfl) dX9_count_40 (fun y57 w2 h => ?_)
          obtain ⟨rfl, hr58⟩ := h
          refine R_icge (pc := 43) 84 dX9_count_43 (by decide) (fun b43_59 => ?_) (fun b43_59 => ?_)
          · skip
            refine R_iload_n (pc := 84) dX9_count_84 rfl rfl ?_
            exact R_iret (pc := 85) dX9_count_85 rfl rfl (Nat.zero_le _) (Nat.zero_le _) ⟨_, rfl, _, rfl, hV50, hW53⟩
          · skip
            refine R_iload_n (pc := 46) dX9_count_46 rfl rfl ?_
            refine R_iload_n (pc := 47) dX9_count_47 rfl rfl ?_
            refine R_iconst (pc := 48) (v := 2) dX9_count_48 (by decide) ?_
            refine R_icne (pc := 49) 61 dX9_count_49 (by decide) (fun b49_60 => ?_) (fun b49_60 => ?_)
            · skip
              refine R_aload_n (pc := 61) dX9_count_61 rfl rfl ?_
              refine g_X9_57 (pc := 62) (v := .ref 153) rfl dX9_count_62 (c_140 _) rfl ?_
              refine R_iload_n (pc := 65) dX9_count_65 rfl rfl ?_
              have hx61 : vp_in (nI j38) 20 := (vp_in_nI (by omega) (by decide))
              refine R_iaload (pc := 66) dX9_count_66 (c_153 _) hx61 ?_
              refine R_iload_n (pc := 67) dX9_count_67 rfl rfl ?_
              refine R_icne (pc := 68) 75 dX9_count_68 (by decide) (fun b68_62 => ?_) (fun b68_62 => ?_)
              · skip
                refine R_iconst (pc := 75) (v := 0) dX9_count_75 (by decide) ?_
                refine R_iadd (pc := 76) dX9_count_76 ?_
                refine st_4_2_i_i (pc := 77) dX9_count_77 ?_
                refine inc_4_3_1_i (pc := 78) dX9_count_78 ?_
                have r63 : inR ((nI j38) + 1) 1 20 := inR_add (show inR (nI j38) 0 19 from hrg38) (show inR 1 1 1 from (inR_self _)) (by decide) (by decide)
                have e64 := ti_add (l := 1) (h := 20) (show inR (nI j38) 0 19 from hrg38) (show inR 1 1 1 from (inR_self _)) (by decide) (by decide)
                refine R_goto (pc := 81) 38 dX9_count_81 (by decide) ?_
                rw [nI_1]
                exact ih38 (j38 + 1) _ (by omega) (by omega)
              · skip
                refine R_iconst (pc := 71) (v := 1) dX9_count_71 (by decide) ?_
                refine R_goto (pc := 72) 76 dX9_count_72 (by decide) ?_
                refine R_iadd (pc := 76) dX9_count_76 ?_
                refine st_4_2_i_i (pc := 77) dX9_count_77 ?_
                refine inc_4_3_1_i (pc := 78) dX9_count_78 ?_
                have r65 : inR ((nI j38) + 1) 1 20 := inR_add (show inR (nI j38) 0 19 from hrg38) (show inR 1 1 1 from (inR_self _)) (by decide) (by decide)
                have e66 := ti_add (l := 1) (h := 20) (show inR (nI j38) 0 19 from hrg38) (show inR 1 1 1 from (inR_self _)) (by decide) (by decide)
                refine R_goto (pc := 81) 38 dX9_count_81 (by decide) ?_
                rw [nI_1]
                exact ih38 (j38 + 1) _ (by omega) (by omega)
            · skip
              refine R_aload_n (pc := 52) dX9_count_52 rfl rfl ?_
              refine g_X9_54 (pc := 53) (v := .ref 152) rfl dX9_count_53 (c_140 _) rfl ?_
              refine R_iload_n (pc := 56) dX9_count_56 rfl rfl ?_
              have hx67 : vp_in (nI j38) 20 := (vp_in_nI (by omega) (by decide))
              refine R_iaload (pc := 57) dX9_count_57 (c_152 _) hx67 ?_
              refine R_goto (pc := 58) 67 dX9_count_58 (by decide) ?_
              refine R_iload_n (pc := 67) dX9_count_67 rfl rfl ?_
              refine R_icne (pc := 68) 75 dX9_count_68 (by decide) (fun b68_68 => ?_) (fun b68_68 => ?_)
              · skip
                refine R_iconst (pc := 75) (v := 0) dX9_count_75 (by decide) ?_
                refine R_iadd (pc := 76) dX9_count_76 ?_
                refine st_4_2_i_i (pc := 77) dX9_count_77 ?_
                refine inc_4_3_1_i (pc := 78) dX9_count_78 ?_
                have r69 : inR ((nI j38) + 1) 1 20 := inR_add (show inR (nI j38) 0 19 from hrg38) (show inR 1 1 1 from (inR_self _)) (by decide) (by decide)
                have e70 := ti_add (l := 1) (h := 20) (show inR (nI j38) 0 19 from hrg38) (show inR 1 1 1 from (inR_self _)) (by decide) (by decide)
                refine R_goto (pc := 81) 38 dX9_count_81 (by decide) ?_
                rw [nI_1]
                exact ih38 (j38 + 1) _ (by omega) (by omega)
              · skip
                refine R_iconst (pc := 71) (v := 1) dX9_count_71 (by decide) ?_
                refine R_goto (pc := 72) 76 dX9_count_72 (by decide) ?_
                refine R_iadd (pc := 76) dX9_count_76 ?_
                refine st_4_2_i_i (pc := 77) dX9_count_77 ?_
                refine inc_4_3_1_i (pc := 78) dX9_count_78 ?_
                have r71 : inR ((nI j38) + 1) 1 20 := inR_add (show inR (nI j38) 0 19 from hrg38) (show inR 1 1 1 from (inR_self _)) (by decide) (by decide)
                have e72 := ti_add (l := 1) (h := 20) (show inR (nI j38) 0 19 from hrg38) (show inR 1 1 1 from (inR_self _)) (by decide) (by decide)
                refine R_goto (pc := 81) 38 dX9_count_81 (by decide) ?_
                rw [nI_1]
                exact ih38 (j38 + 1) _ (by omega) (by omega)
      exact HL38 20 0 _ (by omega) (by omega)
