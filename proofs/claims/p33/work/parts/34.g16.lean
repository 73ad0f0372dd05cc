/-! methods on any state that keeps the invariant -/
theorem dX9_isWall_0 : decode cX9_isWall 0 = .ok (.aload_n 0, 1) := by decide +kernel
theorem dX9_isWall_1 : decode cX9_isWall 1 = .ok (.getfield 232, 3) := by decide +kernel
theorem dX9_isWall_4 : decode cX9_isWall 4 = .ok (.iload_n 1, 1) := by decide +kernel
theorem dX9_isWall_5 : decode cX9_isWall 5 = .ok (.lshr, 1) := by decide +kernel
theorem dX9_isWall_6 : decode cX9_isWall 6 = .ok (.lconst 1, 1) := by decide +kernel
theorem dX9_isWall_7 : decode cX9_isWall 7 = .ok (.land, 1) := by decide +kernel
theorem dX9_isWall_8 : decode cX9_isWall 8 = .ok (.lconst 1, 1) := by decide +kernel
theorem dX9_isWall_9 : decode cX9_isWall 9 = .ok (.lcmp, 1) := by decide +kernel
theorem dX9_isWall_10 : decode cX9_isWall 10 = .ok (.ifCond .ne 7, 3) := by decide +kernel
theorem dX9_isWall_13 : decode cX9_isWall 13 = .ok (.iconst 1, 1) := by decide +kernel
theorem dX9_isWall_14 : decode cX9_isWall 14 = .ok (.goto 4, 3) := by decide +kernel
theorem dX9_isWall_17 : decode cX9_isWall 17 = .ok (.iconst 0, 1) := by decide +kernel
theorem dX9_isWall_18 : decode cX9_isWall 18 = .ok (.ireturn, 1) := by decide +kernel
set_option maxRecDepth 100000 in
set_option maxHeartbeats 40000000 in
theorem gx_X9_isWall {G : vG} {l : Launch} (σ : Sg) (a : Int32) (hI : Inv σ) : Sp G l yX9_isWall cX9_isWall 2 (some .boolean) 0 0 0 [.ref 140, .int a] (WW σ) (QI (fun x w2 => w2 = WW σ ∧ (x = 1 ∨ x = 0))) := by
  refine Sp_of_R [(some (.ref 140)), (some (.int a))] [] rfl (by simp) rfl (Nat.le_of_ble_eq_true rfl) ?_
  refine R_aload_n (pc := 0) dX9_isWall_0 rfl rfl ?_
  refine g_X9_232 (pc := 1) (v := .long (σ.2.1 14034)) rfl dX9_isWall_1 (c_140 _) rfl ?_
  refine R_iload_n (pc := 4) dX9_isWall_4 rfl rfl ?_
  refine R_lshr (pc := 5) dX9_isWall_5 ?_
  refine R_lconst (pc := 6) (v := 1) dX9_isWall_6 (by decide) ?_
  refine R_land (pc := 7) dX9_isWall_7 ?_
  refine R_lconst (pc := 8) (v := 1) dX9_isWall_8 (by decide) ?_
  refine R_lcmp (pc := 9) dX9_isWall_9 ?_
  refine R_ifne (pc := 10) 17 dX9_isWall_10 (by decide) (fun b10_1 => ?_) (fun b10_1 => ?_)
  · skip
    refine R_iconst (pc := 17) (v := 0) dX9_isWall_17 (by decide) ?_
    exact R_iret (pc := 18) dX9_isWall_18 rfl rfl (Nat.zero_le _) (Nat.zero_le _) ⟨_, rfl, rfl, Or.inr rfl⟩
  · skip
    refine R_iconst (pc := 13) (v := 1) dX9_isWall_13 (by decide) ?_
    refine R_goto (pc := 14) 18 dX9_isWall_14 (by decide) ?_
    exact R_iret (pc := 18) dX9_isWall_18 rfl rfl (Nat.zero_le _) (Nat.zero_le _) ⟨_, rfl, rfl, Or.inl rfl⟩
theorem dX9_isOrdered_0 : decode cX9_isOrdered 0 = .ok (.iload_n 2, 1) := by decide +kernel
theorem dX9_isOrdered_1 : decode cX9_isOrdered 1 = .ok (.bipush 8, 2) := by decide +kernel
theorem dX9_isOrdered_3 : decode cX9_isOrdered 3 = .ok (.irem, 1) := by decide +kernel
theorem dX9_isOrdered_4 : decode cX9_isOrdered 4 = .ok (.iload_n 1, 1) := by decide +kernel
theorem dX9_isOrdered_5 : decode cX9_isOrdered 5 = .ok (.bipush 8, 2) := by decide +kernel
theorem dX9_isOrdered_7 : decode cX9_isOrdered 7 = .ok (.irem, 1) := by decide +kernel
theorem dX9_isOrdered_8 : decode cX9_isOrdered 8 = .ok (.isub, 1) := by decide +kernel
theorem dX9_isOrdered_9 : decode cX9_isOrdered 9 = .ok (.istore 4, 2) := by decide +kernel
theorem dX9_isOrdered_11 : decode cX9_isOrdered 11 = .ok (.iload_n 2, 1) := by decide +kernel
theorem dX9_isOrdered_12 : decode cX9_isOrdered 12 = .ok (.bipush 8, 2) := by decide +kernel
theorem dX9_isOrdered_14 : decode cX9_isOrdered 14 = .ok (.idiv, 1) := by decide +kernel
theorem dX9_isOrdered_15 : decode cX9_isOrdered 15 = .ok (.iload_n 1, 1) := by decide +kernel
theorem dX9_isOrdered_16 : decode cX9_isOrdered 16 = .ok (.bipush 8, 2) := by decide +kernel
theorem dX9_isOrdered_18 : decode cX9_isOrdered 18 = .ok (.idiv, 1) := by decide +kernel
theorem dX9_isOrdered_19 : decode cX9_isOrdered 19 = .ok (.isub, 1) := by decide +kernel
theorem dX9_isOrdered_20 : decode cX9_isOrdered 20 = .ok (.istore 5, 2) := by decide +kernel
theorem dX9_isOrdered_22 : decode cX9_isOrdered 22 = .ok (.iload_n 3, 1) := by decide +kernel
theorem dX9_isOrdered_23 : decode cX9_isOrdered 23 = .ok (.bipush 8, 2) := by decide +kernel
theorem dX9_isOrdered_25 : decode cX9_isOrdered 25 = .ok (.irem, 1) := by decide +kernel
theorem dX9_isOrdered_26 : decode cX9_isOrdered 26 = .ok (.iload_n 1, 1) := by decide +kernel
theorem dX9_isOrdered_27 : decode cX9_isOrdered 27 = .ok (.bipush 8, 2) := by decide +kernel
theorem dX9_isOrdered_29 : decode cX9_isOrdered 29 = .ok (.irem, 1) := by decide +kernel
theorem dX9_isOrdered_30 : decode cX9_isOrdered 30 = .ok (.isub, 1) := by decide +kernel
theorem dX9_isOrdered_31 : decode cX9_isOrdered 31 = .ok (.istore 6, 2) := by decide +kernel
theorem dX9_isOrdered_33 : decode cX9_isOrdered 33 = .ok (.iload_n 3, 1) := by decide +kernel
theorem dX9_isOrdered_34 : decode cX9_isOrdered 34 = .ok (.bipush 8, 2) := by decide +kernel
theorem dX9_isOrdered_36 : decode cX9_isOrdered 36 = .ok (.idiv, 1) := by decide +kernel
theorem dX9_isOrdered_37 : decode cX9_isOrdered 37 = .ok (.iload_n 1, 1) := by decide +kernel
theorem dX9_isOrdered_38 : decode cX9_isOrdered 38 = .ok (.bipush 8, 2) := by decide +kernel
theorem dX9_isOrdered_40 : decode cX9_isOrdered 40 = .ok (.idiv, 1) := by decide +kernel
theorem dX9_isOrdered_41 : decode cX9_isOrdered 41 = .ok (.isub, 1) := by decide +kernel
theorem dX9_isOrdered_42 : decode cX9_isOrdered 42 = .ok (.istore 7, 2) := by decide +kernel
theorem dX9_isOrdered_44 : decode cX9_isOrdered 44 = .ok (.iload 4, 2) := by decide +kernel
theorem dX9_isOrdered_46 : decode cX9_isOrdered 46 = .ok (.iload 7, 2) := by decide +kernel
theorem dX9_isOrdered_48 : decode cX9_isOrdered 48 = .ok (.imul, 1) := by decide +kernel
theorem dX9_isOrdered_49 : decode cX9_isOrdered 49 = .ok (.iload 5, 2) := by decide +kernel
theorem dX9_isOrdered_51 : decode cX9_isOrdered 51 = .ok (.iload 6, 2) := by decide +kernel
theorem dX9_isOrdered_53 : decode cX9_isOrdered 53 = .ok (.imul, 1) := by decide +kernel
theorem dX9_isOrdered_54 : decode cX9_isOrdered 54 = .ok (.isub, 1) := by decide +kernel
theorem dX9_isOrdered_55 : decode cX9_isOrdered 55 = .ok (.ifCond .le 7, 3) := by decide +kernel
theorem dX9_isOrdered_58 : decode cX9_isOrdered 58 = .ok (.iconst 1, 1) := by decide +kernel
theorem dX9_isOrdered_59 : decode cX9_isOrdered 59 = .ok (.goto 4, 3) := by decide +kernel
theorem dX9_isOrdered_62 : decode cX9_isOrdered 62 = .ok (.iconst 0, 1) := by decide +kernel
theorem dX9_isOrdered_63 : decode cX9_isOrdered 63 = .ok (.ireturn, 1) := by decide +kernel
set_option maxRecDepth 100000 in
set_option maxHeartbeats 40000000 in
theorem gx_X9_isOrdered {G : vG} {l : Launch} (σ : Sg) (a b c : Int32) (hI : Inv σ) : Sp G l yX9_isOrdered cX9_isOrdered 8 (some .boolean) 0 0 0 [.ref 140, .int a, .int b, .int c] (WW σ) (QI (fun x w2 => w2 = WW σ ∧ (x = 1 ∨ x = 0))) := by
  refine Sp_of_R [(some (.ref 140)), (some (.int a)), (some (.int b)), (some (.int c)), none, none, none, none] [none, none, none, none] rfl (by simp) rfl (Nat.le_of_ble_eq_true rfl) ?_
  refine R_iload_n (pc := 0) dX9_isOrdered_0 rfl rfl ?_
  refine R_bipush (pc := 1) (v := 8) dX9_isOrdered_1 (by decide) ?_
  refine R_irem (pc := 3) dX9_isOrdered_3 (by decide) ?_
  refine R_iload_n (pc := 4) dX9_isOrdered_4 rfl rfl ?_
  refine R_bipush (pc := 5) (v := 8) dX9_isOrdered_5 (by decide) ?_
  refine R_irem (pc := 7) dX9_isOrdered_7 (by decide) ?_
  refine R_isub (pc := 8) dX9_isOrdered_8 ?_
  refine st_8_4_i_i (pc := 9) dX9_isOrdered_9 ?_
  refine R_iload_n (pc := 11) dX9_isOrdered_11 rfl rfl ?_
  refine R_bipush (pc := 12) (v := 8) dX9_isOrdered_12 (by decide) ?_
  refine R_idiv (pc := 14) dX9_isOrdered_14 (by decide) ?_
  refine R_iload_n (pc := 15) dX9_isOrdered_15 rfl rfl ?_
  refine R_bipush (pc := 16) (v := 8) dX9_isOrdered_16 (by decide) ?_
  refine R_idiv (pc := 18) dX9_isOrdered_18 (by decide) ?_
  refine R_isub (pc := 19) dX9_isOrdered_19 ?_
  refine st_8_5_i_i (pc := 20) dX9_isOrdered_20 ?_
  refine R_iload_n (pc := 22) dX9_isOrdered_22 rfl rfl ?_
  refine R_bipush (pc := 23) (v := 8) dX9_isOrdered_23 (by decide) ?_
  refine R_irem (pc := 25) dX9_isOrdered_25 (by decide) ?_
  refine R_iload_n (pc := 26) dX9_isOrdered_26 rfl rfl ?_
  refine R_bipush (pc := 27) (v := 8) dX9_isOrdered_27 (by decide) ?_
  refine R_irem (pc := 29) dX9_isOrdered_29 (by decide) ?_
  refine R_isub (pc := 30) dX9_isOrdered_30 ?_
  refine st_8_6_i_i (pc := 31) dX9_isOrdered_31 ?_
  refine R_iload_n (pc := 33) dX9_isOrdered_33 rfl rfl ?_
  refine R_bipush (pc := 34) (v := 8) dX9_isOrdered_34 (by decide) ?_
  refine R_idiv (pc := 36) dX9_isOrdered_36 (by decide) ?_
  refine R_iload_n (pc := 37) dX9_isOrdered_37 rfl rfl ?_
  refine R_bipush (pc := 38) (v := 8) dX9_isOrdered_38 (by decide) ?_
  refine R_idiv (pc := 40) dX9_isOrdered_40 (by decide) ?_
  refine R_isub (pc := 41) dX9_isOrdered_41 ?_
  refine st_8_7_i_i (pc := 42) dX9_isOrdered_42 ?_
  refine R_iload (pc := 44) dX9_isOrdered_44 rfl ?_
  refine R_iload (pc := 46) dX9_isOrdered_46 rfl ?_
  refine R_imul (pc := 48) dX9_isOrdered_48 ?_
  refine R_iload (pc := 49) dX9_isOrdered_49 rfl ?_
  refine R_iload (pc := 51) dX9_isOrdered_51 rfl ?_
  refine R_imul (pc := 53) dX9_isOrdered_53 ?_
  refine R_isub (pc := 54) dX9_isOrdered_54 ?_
  refine R_ifle (pc := 55) 62 dX9_isOrdered_55 (by decide) (fun b55_1 => ?_) (fun b55_1 => ?_)
  · skip
    refine R_iconst (pc := 62) (v := 0) dX9_isOrdered_62 (by decide) ?_
    exact R_iret (pc := 63) dX9_isOrdered_63 rfl rfl (Nat.zero_le _) (Nat.zero_le _) ⟨_, rfl, rfl, Or.inr rfl⟩
  · skip
    refine R_iconst (pc := 58) (v := 1) dX9_isOrdered_58 (by decide) ?_
    refine R_goto (pc := 59) 63 dX9_isOrdered_59 (by decide) ?_
    exact R_iret (pc := 63) dX9_isOrdered_63 rfl rfl (Nat.zero_le _) (Nat.zero_le _) ⟨_, rfl, rfl, Or.inl rfl⟩
theorem dX9_count_0 : decode cX9_count 0 = .ok (.iconst 0, 1) := by decide +kernel
theorem dX9_count_1 : decode cX9_count 1 = .ok (.istore_n 2, 1) := by decide +kernel
theorem dX9_count_2 : decode cX9_count 2 = .ok (.iload_n 1, 1) := by decide +kernel
theorem dX9_count_3 : decode cX9_count 3 = .ok (.iconst 2, 1) := by decide +kernel
theorem dX9_count_4 : decode cX9_count 4 = .ok (.if_icmp .eq 8, 3) := by decide +kernel
theorem dX9_count_7 : decode cX9_count 7 = .ok (.iload_n 1, 1) := by decide +kernel
theorem dX9_count_8 : decode cX9_count 8 = .ok (.iconst 3, 1) := by decide +kernel
theorem dX9_count_9 : decode cX9_count 9 = .ok (.if_icmp .ne 77, 3) := by decide +kernel
theorem dX9_count_12 : decode cX9_count 12 = .ok (.aload_n 0, 1) := by decide +kernel
theorem dX9_count_13 : decode cX9_count 13 = .ok (.invokevirtual 162, 3) := by decide +kernel
theorem dX9_count_16 : decode cX9_count 16 = .ok (.aload_n 0, 1) := by decide +kernel
theorem dX9_count_17 : decode cX9_count 17 = .ok (.aload_n 0, 1) := by decide +kernel
theorem dX9_count_18 : decode cX9_count 18 = .ok (.getfield 54, 3) := by decide +kernel
theorem dX9_count_21 : decode cX9_count 21 = .ok (.iconst 0, 1) := by decide +kernel
theorem dX9_count_22 : decode cX9_count 22 = .ok (.iconst (-1), 1) := by decide +kernel
theorem dX9_count_23 : decode cX9_count 23 = .ok (.invokevirtual 165, 3) := by decide +kernel
theorem dX9_count_26 : decode cX9_count 26 = .ok (.aload_n 0, 1) := by decide +kernel
theorem dX9_count_27 : decode cX9_count 27 = .ok (.aload_n 0, 1) := by decide +kernel
theorem dX9_count_28 : decode cX9_count 28 = .ok (.getfield 57, 3) := by decide +kernel
theorem dX9_count_31 : decode cX9_count 31 = .ok (.iconst 1, 1) := by decide +kernel
theorem dX9_count_32 : decode cX9_count 32 = .ok (.iconst (-1), 1) := by decide +kernel
theorem dX9_count_33 : decode cX9_count 33 = .ok (.invokevirtual 165, 3) := by decide +kernel
theorem dX9_count_36 : decode cX9_count 36 = .ok (.iconst 0, 1) := by decide +kernel
theorem dX9_count_37 : decode cX9_count 37 = .ok (.istore_n 3, 1) := by decide +kernel
theorem dX9_count_38 : decode cX9_count 38 = .ok (.iload_n 3, 1) := by decide +kernel
theorem dX9_count_39 : decode cX9_count 39 = .ok (.aload_n 0, 1) := by decide +kernel
theorem dX9_count_40 : decode cX9_count 40 = .ok (.invokevirtual 120, 3) := by decide +kernel
theorem dX9_count_43 : decode cX9_count 43 = .ok (.if_icmp .ge 41, 3) := by decide +kernel
theorem dX9_count_46 : decode cX9_count 46 = .ok (.iload_n 2, 1) := by decide +kernel
theorem dX9_count_47 : decode cX9_count 47 = .ok (.iload_n 1, 1) := by decide +kernel
theorem dX9_count_48 : decode cX9_count 48 = .ok (.iconst 2, 1) := by decide +kernel
theorem dX9_count_49 : decode cX9_count 49 = .ok (.if_icmp .ne 12, 3) := by decide +kernel
theorem dX9_count_52 : decode cX9_count 52 = .ok (.aload_n 0, 1) := by decide +kernel
theorem dX9_count_53 : decode cX9_count 53 = .ok (.getfield 54, 3) := by decide +kernel
theorem dX9_count_56 : decode cX9_count 56 = .ok (.iload_n 3, 1) := by decide +kernel
theorem dX9_count_57 : decode cX9_count 57 = .ok (.iaload, 1) := by decide +kernel
theorem dX9_count_58 : decode cX9_count 58 = .ok (.goto 9, 3) := by decide +kernel
theorem dX9_count_61 : decode cX9_count 61 = .ok (.aload_n 0, 1) := by decide +kernel
theorem dX9_count_62 : decode cX9_count 62 = .ok (.getfield 57, 3) := by decide +kernel
theorem dX9_count_65 : decode cX9_count 65 = .ok (.iload_n 3, 1) := by decide +kernel
theorem dX9_count_66 : decode cX9_count 66 = .ok (.iaload, 1) := by decide +kernel
theorem dX9_count_67 : decode cX9_count 67 = .ok (.iload_n 3, 1) := by decide +kernel
theorem dX9_count_68 : decode cX9_count 68 = .ok (.if_icmp .ne 7, 3) := by decide +kernel
theorem dX9_count_71 : decode cX9_count 71 = .ok (.iconst 1, 1) := by decide +kernel
theorem dX9_count_72 : decode cX9_count 72 = .ok (.goto 4, 3) := by decide +kernel
theorem dX9_count_75 : decode cX9_count 75 = .ok (.iconst 0, 1) := by decide +kernel
theorem dX9_count_76 : decode cX9_count 76 = .ok (.iadd, 1) := by decide +kernel
theorem dX9_count_77 : decode cX9_count 77 = .ok (.istore_n 2, 1) := by decide +kernel
theorem dX9_count_78 : decode cX9_count 78 = .ok (.iinc 3 1, 3) := by decide +kernel
theorem dX9_count_81 : decode cX9_count 81 = .ok (.goto (-43), 3) := by decide +kernel
theorem dX9_count_84 : decode cX9_count 84 = .ok (.iload_n 2, 1) := by decide +kernel
theorem dX9_count_85 : decode cX9_count 85 = .ok (.ireturn, 1) := by decide +kernel
theorem dX9_count_86 : decode cX9_count 86 = .ok (.iload_n 1, 1) := by decide +kernel
theorem dX9_count_87 : decode cX9_count 87 = .ok (.tableswitch 75 0 7 #[45, 50, 75, 75, 55, 60, 65, 70], 45) := by decide +kernel
theorem dX9_count_132 : decode cX9_count 132 = .ok (.aload_n 0, 1) := by decide +kernel
theorem dX9_count_133 : decode cX9_count 133 = .ok (.getfield 117, 3) := by decide +kernel
theorem dX9_count_136 : decode cX9_count 136 = .ok (.ireturn, 1) := by decide +kernel
theorem dX9_count_137 : decode cX9_count 137 = .ok (.aload_n 0, 1) := by decide +kernel
theorem dX9_count_138 : decode cX9_count 138 = .ok (.invokevirtual 120, 3) := by decide +kernel
theorem dX9_count_141 : decode cX9_count 141 = .ok (.ireturn, 1) := by decide +kernel
theorem dX9_count_142 : decode cX9_count 142 = .ok (.aload_n 0, 1) := by decide +kernel
theorem dX9_count_143 : decode cX9_count 143 = .ok (.getfield 132, 3) := by decide +kernel
theorem dX9_count_146 : decode cX9_count 146 = .ok (.ireturn, 1) := by decide +kernel
theorem dX9_count_147 : decode cX9_count 147 = .ok (.aload_n 0, 1) := by decide +kernel
theorem dX9_count_148 : decode cX9_count 148 = .ok (.getfield 254, 3) := by decide +kernel
theorem dX9_count_151 : decode cX9_count 151 = .ok (.ireturn, 1) := by decide +kernel
theorem dX9_count_152 : decode cX9_count 152 = .ok (.aload_n 0, 1) := by decide +kernel
theorem dX9_count_153 : decode cX9_count 153 = .ok (.getfield 215, 3) := by decide +kernel
theorem dX9_count_156 : decode cX9_count 156 = .ok (.ireturn, 1) := by decide +kernel
theorem dX9_count_157 : decode cX9_count 157 = .ok (.aload_n 0, 1) := by decide +kernel
theorem dX9_count_158 : decode cX9_count 158 = .ok (.getfield 201, 3) := by decide +kernel
theorem dX9_count_161 : decode cX9_count 161 = .ok (.ireturn, 1) := by decide +kernel
theorem dX9_count_162 : decode cX9_count 162 = .ok (.bipush (-3), 2) := by decide +kernel
theorem dX9_count_164 : decode cX9_count 164 = .ok (.ireturn, 1) := by decide +kernel
