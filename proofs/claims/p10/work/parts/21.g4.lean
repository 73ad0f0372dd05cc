/-! methods on any state that keeps the invariant -/
theorem dX3_fewestChanges_0 : decode cX3_fewestChanges 0 = .ok (.aload_n 0, 1) := by decide +kernel
theorem dX3_fewestChanges_1 : decode cX3_fewestChanges 1 = .ok (.getfield 27, 3) := by decide +kernel
theorem dX3_fewestChanges_4 : decode cX3_fewestChanges 4 = .ok (.getfield 72, 3) := by decide +kernel
theorem dX3_fewestChanges_7 : decode cX3_fewestChanges 7 = .ok (.iload_n 1, 1) := by decide +kernel
theorem dX3_fewestChanges_8 : decode cX3_fewestChanges 8 = .ok (.iaload, 1) := by decide +kernel
theorem dX3_fewestChanges_9 : decode cX3_fewestChanges 9 = .ok (.istore_n 3, 1) := by decide +kernel
theorem dX3_fewestChanges_10 : decode cX3_fewestChanges 10 = .ok (.aload_n 0, 1) := by decide +kernel
theorem dX3_fewestChanges_11 : decode cX3_fewestChanges 11 = .ok (.getfield 27, 3) := by decide +kernel
theorem dX3_fewestChanges_14 : decode cX3_fewestChanges 14 = .ok (.getfield 72, 3) := by decide +kernel
theorem dX3_fewestChanges_17 : decode cX3_fewestChanges 17 = .ok (.iload_n 2, 1) := by decide +kernel
theorem dX3_fewestChanges_18 : decode cX3_fewestChanges 18 = .ok (.iaload, 1) := by decide +kernel
theorem dX3_fewestChanges_19 : decode cX3_fewestChanges 19 = .ok (.istore 4, 2) := by decide +kernel
theorem dX3_fewestChanges_21 : decode cX3_fewestChanges 21 = .ok (.iconst 0, 1) := by decide +kernel
theorem dX3_fewestChanges_22 : decode cX3_fewestChanges 22 = .ok (.istore 5, 2) := by decide +kernel
theorem dX3_fewestChanges_24 : decode cX3_fewestChanges 24 = .ok (.iload 5, 2) := by decide +kernel
theorem dX3_fewestChanges_26 : decode cX3_fewestChanges 26 = .ok (.iload 4, 2) := by decide +kernel
theorem dX3_fewestChanges_28 : decode cX3_fewestChanges 28 = .ok (.if_icmp .gt 18, 3) := by decide +kernel
theorem dX3_fewestChanges_31 : decode cX3_fewestChanges 31 = .ok (.aload_n 0, 1) := by decide +kernel
theorem dX3_fewestChanges_32 : decode cX3_fewestChanges 32 = .ok (.getfield 19, 3) := by decide +kernel
theorem dX3_fewestChanges_35 : decode cX3_fewestChanges 35 = .ok (.iload 5, 2) := by decide +kernel
theorem dX3_fewestChanges_37 : decode cX3_fewestChanges 37 = .ok (.iload 5, 2) := by decide +kernel
theorem dX3_fewestChanges_39 : decode cX3_fewestChanges 39 = .ok (.iastore, 1) := by decide +kernel
theorem dX3_fewestChanges_40 : decode cX3_fewestChanges 40 = .ok (.iinc 5 1, 3) := by decide +kernel
theorem dX3_fewestChanges_43 : decode cX3_fewestChanges 43 = .ok (.goto (-19), 3) := by decide +kernel
theorem dX3_fewestChanges_46 : decode cX3_fewestChanges 46 = .ok (.iconst 1, 1) := by decide +kernel
theorem dX3_fewestChanges_47 : decode cX3_fewestChanges 47 = .ok (.istore 5, 2) := by decide +kernel
theorem dX3_fewestChanges_49 : decode cX3_fewestChanges 49 = .ok (.iload 5, 2) := by decide +kernel
theorem dX3_fewestChanges_51 : decode cX3_fewestChanges 51 = .ok (.iload_n 3, 1) := by decide +kernel
theorem dX3_fewestChanges_52 : decode cX3_fewestChanges 52 = .ok (.if_icmp .gt 141, 3) := by decide +kernel
theorem dX3_fewestChanges_55 : decode cX3_fewestChanges 55 = .ok (.aload_n 0, 1) := by decide +kernel
theorem dX3_fewestChanges_56 : decode cX3_fewestChanges 56 = .ok (.getfield 19, 3) := by decide +kernel
theorem dX3_fewestChanges_59 : decode cX3_fewestChanges 59 = .ok (.iconst 0, 1) := by decide +kernel
theorem dX3_fewestChanges_60 : decode cX3_fewestChanges 60 = .ok (.iaload, 1) := by decide +kernel
theorem dX3_fewestChanges_61 : decode cX3_fewestChanges 61 = .ok (.istore 6, 2) := by decide +kernel
theorem dX3_fewestChanges_63 : decode cX3_fewestChanges 63 = .ok (.aload_n 0, 1) := by decide +kernel
theorem dX3_fewestChanges_64 : decode cX3_fewestChanges 64 = .ok (.getfield 19, 3) := by decide +kernel
theorem dX3_fewestChanges_67 : decode cX3_fewestChanges 67 = .ok (.iconst 0, 1) := by decide +kernel
theorem dX3_fewestChanges_68 : decode cX3_fewestChanges 68 = .ok (.iload 5, 2) := by decide +kernel
theorem dX3_fewestChanges_70 : decode cX3_fewestChanges 70 = .ok (.iastore, 1) := by decide +kernel
theorem dX3_fewestChanges_71 : decode cX3_fewestChanges 71 = .ok (.iconst 1, 1) := by decide +kernel
theorem dX3_fewestChanges_72 : decode cX3_fewestChanges 72 = .ok (.istore 7, 2) := by decide +kernel
theorem dX3_fewestChanges_74 : decode cX3_fewestChanges 74 = .ok (.iload 7, 2) := by decide +kernel
theorem dX3_fewestChanges_76 : decode cX3_fewestChanges 76 = .ok (.iload 4, 2) := by decide +kernel
theorem dX3_fewestChanges_78 : decode cX3_fewestChanges 78 = .ok (.if_icmp .gt 109, 3) := by decide +kernel
theorem dX3_fewestChanges_81 : decode cX3_fewestChanges 81 = .ok (.aload_n 0, 1) := by decide +kernel
theorem dX3_fewestChanges_82 : decode cX3_fewestChanges 82 = .ok (.getfield 27, 3) := by decide +kernel
theorem dX3_fewestChanges_85 : decode cX3_fewestChanges 85 = .ok (.getfield 75, 3) := by decide +kernel
theorem dX3_fewestChanges_88 : decode cX3_fewestChanges 88 = .ok (.iload_n 1, 1) := by decide +kernel
theorem dX3_fewestChanges_89 : decode cX3_fewestChanges 89 = .ok (.laload, 1) := by decide +kernel
theorem dX3_fewestChanges_90 : decode cX3_fewestChanges 90 = .ok (.iload 5, 2) := by decide +kernel
theorem dX3_fewestChanges_92 : decode cX3_fewestChanges 92 = .ok (.iconst 1, 1) := by decide +kernel
theorem dX3_fewestChanges_93 : decode cX3_fewestChanges 93 = .ok (.isub, 1) := by decide +kernel
theorem dX3_fewestChanges_94 : decode cX3_fewestChanges 94 = .ok (.invokestatic 78, 3) := by decide +kernel
theorem dX3_fewestChanges_97 : decode cX3_fewestChanges 97 = .ok (.aload_n 0, 1) := by decide +kernel
theorem dX3_fewestChanges_98 : decode cX3_fewestChanges 98 = .ok (.getfield 27, 3) := by decide +kernel
theorem dX3_fewestChanges_101 : decode cX3_fewestChanges 101 = .ok (.getfield 75, 3) := by decide +kernel
theorem dX3_fewestChanges_104 : decode cX3_fewestChanges 104 = .ok (.iload_n 2, 1) := by decide +kernel
theorem dX3_fewestChanges_105 : decode cX3_fewestChanges 105 = .ok (.laload, 1) := by decide +kernel
theorem dX3_fewestChanges_106 : decode cX3_fewestChanges 106 = .ok (.iload 7, 2) := by decide +kernel
theorem dX3_fewestChanges_108 : decode cX3_fewestChanges 108 = .ok (.iconst 1, 1) := by decide +kernel
theorem dX3_fewestChanges_109 : decode cX3_fewestChanges 109 = .ok (.isub, 1) := by decide +kernel
theorem dX3_fewestChanges_110 : decode cX3_fewestChanges 110 = .ok (.invokestatic 78, 3) := by decide +kernel
theorem dX3_fewestChanges_113 : decode cX3_fewestChanges 113 = .ok (.if_icmp .ne 7, 3) := by decide +kernel
theorem dX3_fewestChanges_116 : decode cX3_fewestChanges 116 = .ok (.iconst 1, 1) := by decide +kernel
theorem dX3_fewestChanges_117 : decode cX3_fewestChanges 117 = .ok (.goto 4, 3) := by decide +kernel
theorem dX3_fewestChanges_120 : decode cX3_fewestChanges 120 = .ok (.iconst 0, 1) := by decide +kernel
theorem dX3_fewestChanges_121 : decode cX3_fewestChanges 121 = .ok (.istore 8, 2) := by decide +kernel
theorem dX3_fewestChanges_123 : decode cX3_fewestChanges 123 = .ok (.iload 8, 2) := by decide +kernel
theorem dX3_fewestChanges_125 : decode cX3_fewestChanges 125 = .ok (.ifCond .eq 8, 3) := by decide +kernel
theorem dX3_fewestChanges_128 : decode cX3_fewestChanges 128 = .ok (.iload 6, 2) := by decide +kernel
theorem dX3_fewestChanges_130 : decode cX3_fewestChanges 130 = .ok (.goto 7, 3) := by decide +kernel
theorem dX3_fewestChanges_133 : decode cX3_fewestChanges 133 = .ok (.iload 6, 2) := by decide +kernel
theorem dX3_fewestChanges_135 : decode cX3_fewestChanges 135 = .ok (.iconst 1, 1) := by decide +kernel
theorem dX3_fewestChanges_136 : decode cX3_fewestChanges 136 = .ok (.iadd, 1) := by decide +kernel
theorem dX3_fewestChanges_137 : decode cX3_fewestChanges 137 = .ok (.istore 9, 2) := by decide +kernel
theorem dX3_fewestChanges_139 : decode cX3_fewestChanges 139 = .ok (.aload_n 0, 1) := by decide +kernel
theorem dX3_fewestChanges_140 : decode cX3_fewestChanges 140 = .ok (.getfield 19, 3) := by decide +kernel
theorem dX3_fewestChanges_143 : decode cX3_fewestChanges 143 = .ok (.iload 7, 2) := by decide +kernel
theorem dX3_fewestChanges_145 : decode cX3_fewestChanges 145 = .ok (.iaload, 1) := by decide +kernel
theorem dX3_fewestChanges_146 : decode cX3_fewestChanges 146 = .ok (.istore 6, 2) := by decide +kernel
theorem dX3_fewestChanges_148 : decode cX3_fewestChanges 148 = .ok (.aload_n 0, 1) := by decide +kernel
theorem dX3_fewestChanges_149 : decode cX3_fewestChanges 149 = .ok (.getfield 19, 3) := by decide +kernel
theorem dX3_fewestChanges_152 : decode cX3_fewestChanges 152 = .ok (.iload 7, 2) := by decide +kernel
theorem dX3_fewestChanges_154 : decode cX3_fewestChanges 154 = .ok (.iload 9, 2) := by decide +kernel
theorem dX3_fewestChanges_156 : decode cX3_fewestChanges 156 = .ok (.aload_n 0, 1) := by decide +kernel
theorem dX3_fewestChanges_157 : decode cX3_fewestChanges 157 = .ok (.getfield 19, 3) := by decide +kernel
theorem dX3_fewestChanges_160 : decode cX3_fewestChanges 160 = .ok (.iload 7, 2) := by decide +kernel
theorem dX3_fewestChanges_162 : decode cX3_fewestChanges 162 = .ok (.iaload, 1) := by decide +kernel
theorem dX3_fewestChanges_163 : decode cX3_fewestChanges 163 = .ok (.aload_n 0, 1) := by decide +kernel
theorem dX3_fewestChanges_164 : decode cX3_fewestChanges 164 = .ok (.getfield 19, 3) := by decide +kernel
theorem dX3_fewestChanges_167 : decode cX3_fewestChanges 167 = .ok (.iload 7, 2) := by decide +kernel
theorem dX3_fewestChanges_169 : decode cX3_fewestChanges 169 = .ok (.iconst 1, 1) := by decide +kernel
theorem dX3_fewestChanges_170 : decode cX3_fewestChanges 170 = .ok (.isub, 1) := by decide +kernel
theorem dX3_fewestChanges_171 : decode cX3_fewestChanges 171 = .ok (.iaload, 1) := by decide +kernel
theorem dX3_fewestChanges_172 : decode cX3_fewestChanges 172 = .ok (.invokestatic 61, 3) := by decide +kernel
theorem dX3_fewestChanges_175 : decode cX3_fewestChanges 175 = .ok (.iconst 1, 1) := by decide +kernel
theorem dX3_fewestChanges_176 : decode cX3_fewestChanges 176 = .ok (.iadd, 1) := by decide +kernel
theorem dX3_fewestChanges_177 : decode cX3_fewestChanges 177 = .ok (.invokestatic 61, 3) := by decide +kernel
theorem dX3_fewestChanges_180 : decode cX3_fewestChanges 180 = .ok (.iastore, 1) := by decide +kernel
theorem dX3_fewestChanges_181 : decode cX3_fewestChanges 181 = .ok (.iinc 7 1, 3) := by decide +kernel
theorem dX3_fewestChanges_184 : decode cX3_fewestChanges 184 = .ok (.goto (-110), 3) := by decide +kernel
theorem dX3_fewestChanges_187 : decode cX3_fewestChanges 187 = .ok (.iinc 5 1, 3) := by decide +kernel
theorem dX3_fewestChanges_190 : decode cX3_fewestChanges 190 = .ok (.goto (-141), 3) := by decide +kernel
theorem dX3_fewestChanges_193 : decode cX3_fewestChanges 193 = .ok (.aload_n 0, 1) := by decide +kernel
theorem dX3_fewestChanges_194 : decode cX3_fewestChanges 194 = .ok (.getfield 19, 3) := by decide +kernel
theorem dX3_fewestChanges_197 : decode cX3_fewestChanges 197 = .ok (.iload 4, 2) := by decide +kernel
theorem dX3_fewestChanges_199 : decode cX3_fewestChanges 199 = .ok (.iaload, 1) := by decide +kernel
theorem dX3_fewestChanges_200 : decode cX3_fewestChanges 200 = .ok (.ireturn, 1) := by decide +kernel
theorem dX3_compareWord_0 : decode cX3_compareWord 0 = .ok (.iconst 0, 1) := by decide +kernel
theorem dX3_compareWord_1 : decode cX3_compareWord 1 = .ok (.istore_n 2, 1) := by decide +kernel
theorem dX3_compareWord_2 : decode cX3_compareWord 2 = .ok (.iload_n 2, 1) := by decide +kernel
theorem dX3_compareWord_3 : decode cX3_compareWord 3 = .ok (.aload_n 0, 1) := by decide +kernel
theorem dX3_compareWord_4 : decode cX3_compareWord 4 = .ok (.getfield 27, 3) := by decide +kernel
theorem dX3_compareWord_7 : decode cX3_compareWord 7 = .ok (.getfield 31, 3) := by decide +kernel
theorem dX3_compareWord_10 : decode cX3_compareWord 10 = .ok (.if_icmp .ge 34, 3) := by decide +kernel
theorem dX3_compareWord_13 : decode cX3_compareWord 13 = .ok (.aload_n 0, 1) := by decide +kernel
theorem dX3_compareWord_14 : decode cX3_compareWord 14 = .ok (.iload_n 1, 1) := by decide +kernel
theorem dX3_compareWord_15 : decode cX3_compareWord 15 = .ok (.iload_n 2, 1) := by decide +kernel
theorem dX3_compareWord_16 : decode cX3_compareWord 16 = .ok (.invokevirtual 69, 3) := by decide +kernel
theorem dX3_compareWord_19 : decode cX3_compareWord 19 = .ok (.istore_n 3, 1) := by decide +kernel
theorem dX3_compareWord_20 : decode cX3_compareWord 20 = .ok (.aload_n 0, 1) := by decide +kernel
theorem dX3_compareWord_21 : decode cX3_compareWord 21 = .ok (.getfield 16, 3) := by decide +kernel
theorem dX3_compareWord_24 : decode cX3_compareWord 24 = .ok (.iload_n 1, 1) := by decide +kernel
theorem dX3_compareWord_25 : decode cX3_compareWord 25 = .ok (.aaload, 1) := by decide +kernel
theorem dX3_compareWord_26 : decode cX3_compareWord 26 = .ok (.iload_n 2, 1) := by decide +kernel
theorem dX3_compareWord_27 : decode cX3_compareWord 27 = .ok (.iload_n 3, 1) := by decide +kernel
theorem dX3_compareWord_28 : decode cX3_compareWord 28 = .ok (.iastore, 1) := by decide +kernel
theorem dX3_compareWord_29 : decode cX3_compareWord 29 = .ok (.aload_n 0, 1) := by decide +kernel
theorem dX3_compareWord_30 : decode cX3_compareWord 30 = .ok (.getfield 16, 3) := by decide +kernel
theorem dX3_compareWord_33 : decode cX3_compareWord 33 = .ok (.iload_n 2, 1) := by decide +kernel
theorem dX3_compareWord_34 : decode cX3_compareWord 34 = .ok (.aaload, 1) := by decide +kernel
theorem dX3_compareWord_35 : decode cX3_compareWord 35 = .ok (.iload_n 1, 1) := by decide +kernel
theorem dX3_compareWord_36 : decode cX3_compareWord 36 = .ok (.iload_n 3, 1) := by decide +kernel
theorem dX3_compareWord_37 : decode cX3_compareWord 37 = .ok (.iastore, 1) := by decide +kernel
theorem dX3_compareWord_38 : decode cX3_compareWord 38 = .ok (.iinc 2 1, 3) := by decide +kernel
theorem dX3_compareWord_41 : decode cX3_compareWord 41 = .ok (.goto (-39), 3) := by decide +kernel
theorem dX3_compareWord_44 : decode cX3_compareWord 44 = .ok (.return_, 1) := by decide +kernel
theorem dX3_isLike_0 : decode cX3_isLike 0 = .ok (.aload_n 0, 1) := by decide +kernel
theorem dX3_isLike_1 : decode cX3_isLike 1 = .ok (.getfield 11, 3) := by decide +kernel
theorem dX3_isLike_4 : decode cX3_isLike 4 = .ok (.iload_n 1, 1) := by decide +kernel
theorem dX3_isLike_5 : decode cX3_isLike 5 = .ok (.aaload, 1) := by decide +kernel
theorem dX3_isLike_6 : decode cX3_isLike 6 = .ok (.iload_n 2, 1) := by decide +kernel
theorem dX3_isLike_7 : decode cX3_isLike 7 = .ok (.iaload, 1) := by decide +kernel
theorem dX3_isLike_8 : decode cX3_isLike 8 = .ok (.iconst (-1), 1) := by decide +kernel
theorem dX3_isLike_9 : decode cX3_isLike 9 = .ok (.if_icmp .eq 22, 3) := by decide +kernel
theorem dX3_isLike_12 : decode cX3_isLike 12 = .ok (.aload_n 0, 1) := by decide +kernel
theorem dX3_isLike_13 : decode cX3_isLike 13 = .ok (.getfield 11, 3) := by decide +kernel
theorem dX3_isLike_16 : decode cX3_isLike 16 = .ok (.iload_n 1, 1) := by decide +kernel
theorem dX3_isLike_17 : decode cX3_isLike 17 = .ok (.aaload, 1) := by decide +kernel
theorem dX3_isLike_18 : decode cX3_isLike 18 = .ok (.iload_n 2, 1) := by decide +kernel
theorem dX3_isLike_19 : decode cX3_isLike 19 = .ok (.iaload, 1) := by decide +kernel
theorem dX3_isLike_20 : decode cX3_isLike 20 = .ok (.aload_n 0, 1) := by decide +kernel
theorem dX3_isLike_21 : decode cX3_isLike 21 = .ok (.getfield 23, 3) := by decide +kernel
theorem dX3_isLike_24 : decode cX3_isLike 24 = .ok (.if_icmp .gt 7, 3) := by decide +kernel
theorem dX3_isLike_27 : decode cX3_isLike 27 = .ok (.iconst 1, 1) := by decide +kernel
theorem dX3_isLike_28 : decode cX3_isLike 28 = .ok (.goto 4, 3) := by decide +kernel
theorem dX3_isLike_31 : decode cX3_isLike 31 = .ok (.iconst 0, 1) := by decide +kernel
theorem dX3_isLike_32 : decode cX3_isLike 32 = .ok (.ireturn, 1) := by decide +kernel
set_option maxRecDepth 100000 in
set_option maxHeartbeats 40000000 in
theorem gx_X3_isLike {G : vG} {l : Launch} (σ : Sg) (a b : Int32) (hI : Inv σ) (ha : inR a 0 19) (hb : inR b 0 19) : Sp G l yX3_isLike cX3_isLike 3 (some .boolean) 0 0 0 [.ref 12, .int a, .int b] (WW σ) (QI (fun x w2 => w2 = WW σ ∧ (x = 1 ∨ x = 0))) := by
  refine Sp_of_R [(some (.ref 12)), (some (.int a)), (some (.int b))] [] rfl (by simp) rfl (Nat.le_of_ble_eq_true rfl) ?_
  refine R_aload_n (pc := 0) dX3_isLike_0 rfl rfl ?_
  refine g_X3_11 (pc := 1) (v := .ref 13) rfl dX3_isLike_1 (c_12 _) rfl ?_
  refine R_iload_n (pc := 4) dX3_isLike_4 rfl rfl ?_
  have hx1 : vp_in a 20 := (vp_of_inR ha (by decide))
  refine R_aaload (pc := 5) (b := 14 + (Int32.toNatClampNeg a)) dX3_isLike_5 (c_13 _) hx1 (if_pos (lt_of_vp hx1)) ?_
  refine R_iload_n (pc := 6) dX3_isLike_6 rfl rfl ?_
  have hx2 : vp_in b 20 := (vp_of_inR hb (by decide))
  refine R_iaload (pc := 7) dX3_isLike_7 (r_13 _ _ (lt_of_vp hx1)) hx2 ?_
  refine R_iconst (pc := 8) (v := (-1)) dX3_isLike_8 (by decide) ?_
  refine R_iceq (pc := 9) 31 dX3_isLike_9 (by decide) (fun b9_3 => ?_) (fun b9_3 => ?_)
  · skip
    refine R_iconst (pc := 31) (v := 0) dX3_isLike_31 (by decide) ?_
    exact R_iret (pc := 32) dX3_isLike_32 rfl rfl (Nat.zero_le _) (Nat.zero_le _) ⟨_, rfl, rfl, Or.inr rfl⟩
  · skip
    refine R_aload_n (pc := 12) dX3_isLike_12 rfl rfl ?_
    refine g_X3_11 (pc := 13) (v := .ref 13) rfl dX3_isLike_13 (c_12 _) rfl ?_
    refine R_iload_n (pc := 16) dX3_isLike_16 rfl rfl ?_
    have hx4 : vp_in a 20 := (vp_of_inR ha (by decide))
    refine R_aaload (pc := 17) (b := 14 + (Int32.toNatClampNeg a)) dX3_isLike_17 (c_13 _) hx4 (if_pos (lt_of_vp hx4)) ?_
    refine R_iload_n (pc := 18) dX3_isLike_18 rfl rfl ?_
    have hx5 : vp_in b 20 := (vp_of_inR hb (by decide))
    refine R_iaload (pc := 19) dX3_isLike_19 (r_13 _ _ (lt_of_vp hx4)) hx5 ?_
    refine R_aload_n (pc := 20) dX3_isLike_20 rfl rfl ?_
    refine g_X3_23 (pc := 21) (v := .int (σ.1 1204)) rfl dX3_isLike_21 (c_12 _) rfl ?_
    refine R_icgt (pc := 24) 31 dX3_isLike_24 (by decide) (fun b24_6 => ?_) (fun b24_6 => ?_)
    · skip
      refine R_iconst (pc := 31) (v := 0) dX3_isLike_31 (by decide) ?_
      exact R_iret (pc := 32) dX3_isLike_32 rfl rfl (Nat.zero_le _) (Nat.zero_le _) ⟨_, rfl, rfl, Or.inr rfl⟩
    · skip
      refine R_iconst (pc := 27) (v := 1) dX3_isLike_27 (by decide) ?_
      refine R_goto (pc := 28) 32 dX3_isLike_28 (by decide) ?_
      exact R_iret (pc := 32) dX3_isLike_32 rfl rfl (Nat.zero_le _) (Nat.zero_le _) ⟨_, rfl, rfl, Or.inl rfl⟩
theorem dX3_isMatch_0 : decode cX3_isMatch 0 = .ok (.aload_n 0, 1) := by decide +kernel
theorem dX3_isMatch_1 : decode cX3_isMatch 1 = .ok (.getfield 27, 3) := by decide +kernel
theorem dX3_isMatch_4 : decode cX3_isMatch 4 = .ok (.getfield 82, 3) := by decide +kernel
theorem dX3_isMatch_7 : decode cX3_isMatch 7 = .ok (.iload_n 1, 1) := by decide +kernel
theorem dX3_isMatch_8 : decode cX3_isMatch 8 = .ok (.iaload, 1) := by decide +kernel
theorem dX3_isMatch_9 : decode cX3_isMatch 9 = .ok (.aload_n 0, 1) := by decide +kernel
theorem dX3_isMatch_10 : decode cX3_isMatch 10 = .ok (.getfield 27, 3) := by decide +kernel
theorem dX3_isMatch_13 : decode cX3_isMatch 13 = .ok (.getfield 82, 3) := by decide +kernel
theorem dX3_isMatch_16 : decode cX3_isMatch 16 = .ok (.iload_n 2, 1) := by decide +kernel
theorem dX3_isMatch_17 : decode cX3_isMatch 17 = .ok (.iaload, 1) := by decide +kernel
theorem dX3_isMatch_18 : decode cX3_isMatch 18 = .ok (.if_icmp .eq 27, 3) := by decide +kernel
theorem dX3_isMatch_21 : decode cX3_isMatch 21 = .ok (.aload_n 0, 1) := by decide +kernel
theorem dX3_isMatch_22 : decode cX3_isMatch 22 = .ok (.getfield 27, 3) := by decide +kernel
theorem dX3_isMatch_25 : decode cX3_isMatch 25 = .ok (.getfield 82, 3) := by decide +kernel
theorem dX3_isMatch_28 : decode cX3_isMatch 28 = .ok (.iload_n 1, 1) := by decide +kernel
theorem dX3_isMatch_29 : decode cX3_isMatch 29 = .ok (.iaload, 1) := by decide +kernel
theorem dX3_isMatch_30 : decode cX3_isMatch 30 = .ok (.ifCond .eq 15, 3) := by decide +kernel
theorem dX3_isMatch_33 : decode cX3_isMatch 33 = .ok (.aload_n 0, 1) := by decide +kernel
theorem dX3_isMatch_34 : decode cX3_isMatch 34 = .ok (.getfield 27, 3) := by decide +kernel
theorem dX3_isMatch_37 : decode cX3_isMatch 37 = .ok (.getfield 82, 3) := by decide +kernel
theorem dX3_isMatch_40 : decode cX3_isMatch 40 = .ok (.iload_n 2, 1) := by decide +kernel
theorem dX3_isMatch_41 : decode cX3_isMatch 41 = .ok (.iaload, 1) := by decide +kernel
theorem dX3_isMatch_42 : decode cX3_isMatch 42 = .ok (.ifCond .ne 7, 3) := by decide +kernel
theorem dX3_isMatch_45 : decode cX3_isMatch 45 = .ok (.iconst 1, 1) := by decide +kernel
theorem dX3_isMatch_46 : decode cX3_isMatch 46 = .ok (.goto 4, 3) := by decide +kernel
theorem dX3_isMatch_49 : decode cX3_isMatch 49 = .ok (.iconst 0, 1) := by decide +kernel
theorem dX3_isMatch_50 : decode cX3_isMatch 50 = .ok (.istore_n 3, 1) := by decide +kernel
theorem dX3_isMatch_51 : decode cX3_isMatch 51 = .ok (.aload_n 0, 1) := by decide +kernel
theorem dX3_isMatch_52 : decode cX3_isMatch 52 = .ok (.getfield 27, 3) := by decide +kernel
theorem dX3_isMatch_55 : decode cX3_isMatch 55 = .ok (.getfield 85, 3) := by decide +kernel
theorem dX3_isMatch_58 : decode cX3_isMatch 58 = .ok (.iload_n 1, 1) := by decide +kernel
theorem dX3_isMatch_59 : decode cX3_isMatch 59 = .ok (.iaload, 1) := by decide +kernel
theorem dX3_isMatch_60 : decode cX3_isMatch 60 = .ok (.aload_n 0, 1) := by decide +kernel
theorem dX3_isMatch_61 : decode cX3_isMatch 61 = .ok (.getfield 27, 3) := by decide +kernel
theorem dX3_isMatch_64 : decode cX3_isMatch 64 = .ok (.getfield 85, 3) := by decide +kernel
theorem dX3_isMatch_67 : decode cX3_isMatch 67 = .ok (.iload_n 2, 1) := by decide +kernel
theorem dX3_isMatch_68 : decode cX3_isMatch 68 = .ok (.iaload, 1) := by decide +kernel
theorem dX3_isMatch_69 : decode cX3_isMatch 69 = .ok (.if_icmp .eq 74, 3) := by decide +kernel
theorem dX3_isMatch_72 : decode cX3_isMatch 72 = .ok (.aload_n 0, 1) := by decide +kernel
theorem dX3_isMatch_73 : decode cX3_isMatch 73 = .ok (.getfield 27, 3) := by decide +kernel
theorem dX3_isMatch_76 : decode cX3_isMatch 76 = .ok (.getfield 88, 3) := by decide +kernel
theorem dX3_isMatch_79 : decode cX3_isMatch 79 = .ok (.iload_n 1, 1) := by decide +kernel
theorem dX3_isMatch_80 : decode cX3_isMatch 80 = .ok (.iaload, 1) := by decide +kernel
theorem dX3_isMatch_81 : decode cX3_isMatch 81 = .ok (.aload_n 0, 1) := by decide +kernel
theorem dX3_isMatch_82 : decode cX3_isMatch 82 = .ok (.getfield 27, 3) := by decide +kernel
theorem dX3_isMatch_85 : decode cX3_isMatch 85 = .ok (.getfield 88, 3) := by decide +kernel
theorem dX3_isMatch_88 : decode cX3_isMatch 88 = .ok (.iload_n 2, 1) := by decide +kernel
theorem dX3_isMatch_89 : decode cX3_isMatch 89 = .ok (.iaload, 1) := by decide +kernel
theorem dX3_isMatch_90 : decode cX3_isMatch 90 = .ok (.if_icmp .ne 53, 3) := by decide +kernel
theorem dX3_isMatch_93 : decode cX3_isMatch 93 = .ok (.aload_n 0, 1) := by decide +kernel
theorem dX3_isMatch_94 : decode cX3_isMatch 94 = .ok (.getfield 27, 3) := by decide +kernel
theorem dX3_isMatch_97 : decode cX3_isMatch 97 = .ok (.getfield 91, 3) := by decide +kernel
theorem dX3_isMatch_100 : decode cX3_isMatch 100 = .ok (.iload_n 1, 1) := by decide +kernel
theorem dX3_isMatch_101 : decode cX3_isMatch 101 = .ok (.iaload, 1) := by decide +kernel
theorem dX3_isMatch_102 : decode cX3_isMatch 102 = .ok (.aload_n 0, 1) := by decide +kernel
theorem dX3_isMatch_103 : decode cX3_isMatch 103 = .ok (.getfield 27, 3) := by decide +kernel
theorem dX3_isMatch_106 : decode cX3_isMatch 106 = .ok (.getfield 91, 3) := by decide +kernel
theorem dX3_isMatch_109 : decode cX3_isMatch 109 = .ok (.iload_n 2, 1) := by decide +kernel
theorem dX3_isMatch_110 : decode cX3_isMatch 110 = .ok (.iaload, 1) := by decide +kernel
theorem dX3_isMatch_111 : decode cX3_isMatch 111 = .ok (.if_icmp .ne 32, 3) := by decide +kernel
theorem dX3_isMatch_114 : decode cX3_isMatch 114 = .ok (.iload_n 3, 1) := by decide +kernel
theorem dX3_isMatch_115 : decode cX3_isMatch 115 = .ok (.ifCond .eq 28, 3) := by decide +kernel
theorem dX3_isMatch_118 : decode cX3_isMatch 118 = .ok (.aload_n 0, 1) := by decide +kernel
theorem dX3_isMatch_119 : decode cX3_isMatch 119 = .ok (.iload_n 1, 1) := by decide +kernel
theorem dX3_isMatch_120 : decode cX3_isMatch 120 = .ok (.iload_n 2, 1) := by decide +kernel
theorem dX3_isMatch_121 : decode cX3_isMatch 121 = .ok (.invokevirtual 94, 3) := by decide +kernel
theorem dX3_isMatch_124 : decode cX3_isMatch 124 = .ok (.ifCond .eq 19, 3) := by decide +kernel
theorem dX3_isMatch_127 : decode cX3_isMatch 127 = .ok (.aload_n 0, 1) := by decide +kernel
theorem dX3_isMatch_128 : decode cX3_isMatch 128 = .ok (.getfield 16, 3) := by decide +kernel
theorem dX3_isMatch_131 : decode cX3_isMatch 131 = .ok (.iload_n 1, 1) := by decide +kernel
theorem dX3_isMatch_132 : decode cX3_isMatch 132 = .ok (.aaload, 1) := by decide +kernel
theorem dX3_isMatch_133 : decode cX3_isMatch 133 = .ok (.iload_n 2, 1) := by decide +kernel
theorem dX3_isMatch_134 : decode cX3_isMatch 134 = .ok (.iaload, 1) := by decide +kernel
theorem dX3_isMatch_135 : decode cX3_isMatch 135 = .ok (.iconst 2, 1) := by decide +kernel
theorem dX3_isMatch_136 : decode cX3_isMatch 136 = .ok (.if_icmp .gt 7, 3) := by decide +kernel
theorem dX3_isMatch_139 : decode cX3_isMatch 139 = .ok (.iconst 1, 1) := by decide +kernel
theorem dX3_isMatch_140 : decode cX3_isMatch 140 = .ok (.goto 4, 3) := by decide +kernel
theorem dX3_isMatch_143 : decode cX3_isMatch 143 = .ok (.iconst 0, 1) := by decide +kernel
theorem dX3_isMatch_144 : decode cX3_isMatch 144 = .ok (.ireturn, 1) := by decide +kernel
set_option maxRecDepth 100000 in
set_option maxHeartbeats 40000000 in
theorem gx_X3_isMatch {G : vG} {l : Launch} (σ : Sg) (a b : Int32) (hI : Inv σ) (ha : inR a 0 19) (hb : inR b 0 19) : Sp G l yX3_isMatch cX3_isMatch 4 (some .boolean) 1 0 0 [.ref 12, .int a, .int b] (WW σ) (QI (fun x w2 => w2 = WW σ ∧ (x = 1 ∨ x = 0))) := by
  refine Sp_of_R [(some (.ref 12)), (some (.int a)), (some (.int b)), none] [none] rfl (by simp) rfl (Nat.le_of_ble_eq_true rfl) ?_
  refine R_aload_n (pc := 0) dX3_isMatch_0 rfl rfl ?_
  refine g_X3_27 (pc := 1) (v := .ref 1) rfl dX3_isMatch_1 (c_12 _) rfl ?_
  refine g_X3_82 (pc := 4) (v := .ref 4) rfl dX3_isMatch_4 (c_1 _) rfl ?_
  refine R_iload_n (pc := 7) dX3_isMatch_7 rfl rfl ?_
  have hx1 : vp_in a 20 := (vp_of_inR ha (by decide))
  refine R_iaload (pc := 8) dX3_isMatch_8 (c_4 _) hx1 ?_
  refine R_aload_n (pc := 9) dX3_isMatch_9 rfl rfl ?_
  refine g_X3_27 (pc := 10) (v := .ref 1) rfl dX3_isMatch_10 (c_12 _) rfl ?_
  refine g_X3_82 (pc := 13) (v := .ref 4) rfl dX3_isMatch_13 (c_1 _) rfl ?_
  refine R_iload_n (pc := 16) dX3_isMatch_16 rfl rfl ?_
  have hx2 : vp_in b 20 := (vp_of_inR hb (by decide))
  refine R_iaload (pc := 17) dX3_isMatch_17 (c_4 _) hx2 ?_
  refine R_iceq (pc := 18) 45 dX3_isMatch_18 (by decide) (fun b18_3 => ?_) (fun b18_3 => ?_)
  · skip
    refine R_iconst (pc := 45) (v := 1) dX3_isMatch_45 (by decide) ?_
    refine R_goto (pc := 46) 50 dX3_isMatch_46 (by decide) ?_
    refine st_4_3_i_i (pc := 50) dX3_isMatch_50 ?_
    refine R_aload_n (pc := 51) dX3_isMatch_51 rfl rfl ?_
    refine g_X3_27 (pc := 52) (v := .ref 1) rfl dX3_isMatch_52 (c_12 _) rfl ?_
    refine g_X3_85 (pc := 55) (v := .ref 2) rfl dX3_isMatch_55 (c_1 _) rfl ?_
    refine R_iload_n (pc := 58) dX3_isMatch_58 rfl rfl ?_
    have hx4 : vp_in a 20 := (vp_of_inR ha (by decide))
    refine R_iaload (pc := 59) dX3_isMatch_59 (c_2 _) hx4 ?_
    refine R_aload_n (pc := 60) dX3_isMatch_60 rfl rfl ?_
    refine g_X3_27 (pc := 61) (v := .ref 1) rfl dX3_isMatch_61 (c_12 _) rfl ?_
    refine g_X3_85 (pc := 64) (v := .ref 2) rfl dX3_isMatch_64 (c_1 _) rfl ?_
    refine R_iload_n (pc := 67) dX3_isMatch_67 rfl rfl ?_
    have hx5 : vp_in b 20 := (vp_of_inR hb (by decide))
    refine R_iaload (pc := 68) dX3_isMatch_68 (c_2 _) hx5 ?_
    refine R_iceq (pc := 69) 143 dX3_isMatch_69 (by decide) (fun b69_6 => ?_) (fun b69_6 => ?_)
    · skip
      refine R_iconst (pc := 143) (v := 0) dX3_isMatch_143 (by decide) ?_
      exact R_iret (pc := 144) dX3_isMatch_144 rfl rfl (Nat.zero_le _) (Nat.zero_le _) ⟨_, rfl, rfl, Or.inr rfl⟩
    · skip
      refine R_aload_n (pc := 72) dX3_isMatch_72 rfl rfl ?_
      refine g_X3_27 (pc := 73) (v := .ref 1) rfl dX3_isMatch_73 (c_12 _) rfl ?_
      refine g_X3_88 (pc := 76) (v := .ref 3) rfl dX3_isMatch_76 (c_1 _) rfl ?_
      refine R_iload_n (pc := 79) dX3_isMatch_79 rfl rfl ?_
      have hx7 : vp_in a 20 := (vp_of_inR ha (by decide))
      refine R_iaload (pc := 80) dX3_isMatch_80 (c_3 _) hx7 ?_
      refine R_aload_n (pc := 81) dX3_isMatch_81 rfl rfl ?_
      refine g_X3_27 (pc := 82) (v := .ref 1) rfl dX3_isMatch_82 (c_12 _) rfl ?_
      refine g_X3_88 (pc := 85) (v := .ref 3) rfl dX3_isMatch_85 (c_1 _) rfl ?_
      refine R_iload_n (pc := 88) dX3_isMatch_88 rfl rfl ?_
      have hx8 : vp_in b 20 := (vp_of_inR hb (by decide))
      refine R_iaload (pc := 89) dX3_isMatch_89 (c_3 _) hx8 ?_
      refine R_icne (pc := 90) 143 dX3_isMatch_90 (by decide) (fun b90_9 => ?_) (fun b90_9 => ?_)
      · skip
        refine R_iconst (pc := 143) (v := 0) dX3_isMatch_143 (by decide) ?_
        exact R_iret (pc := 144) dX3_isMatch_144 rfl rfl (Nat.zero_le _) (Nat.zero_le _) ⟨_, rfl, rfl, Or.inr rfl⟩
      · skip
        refine R_aload_n (pc := 93) dX3_isMatch_93 rfl rfl ?_
        refine g_X3_27 (pc := 94) (v := .ref 1) rfl dX3_isMatch_94 (c_12 _) rfl ?_
        refine g_X3_91 (pc := 97) (v := .ref 5) rfl dX3_isMatch_97 (c_1 _) rfl ?_
        refine R_iload_n (pc := 100) dX3_isMatch_100 rfl rfl ?_
        have hx10 : vp_in a 20 := (vp_of_inR ha (by decide))
        refine R_iaload (pc := 101) dX3_isMatch_101 (c_5 _) hx10 ?_
        refine R_aload_n (pc := 102) dX3_isMatch_102 rfl rfl ?_
        refine g_X3_27 (pc := 103) (v := .ref 1) rfl dX3_isMatch_103 (c_12 _) rfl ?_
        refine g_X3_91 (pc := 106) (v := .ref 5) rfl dX3_isMatch_106 (c_1 _) rfl ?_
        refine R_iload_n (pc := 109) dX3_isMatch_109 rfl rfl ?_
        have hx11 : vp_in b 20 := (vp_of_inR hb (by decide))
        refine R_iaload (pc := 110) dX3_isMatch_110 (c_5 _) hx11 ?_
        refine R_icne (pc := 111) 143 dX3_isMatch_111 (by decide) (fun b111_12 => ?_) (fun b111_12 => ?_)
        · skip
          refine R_iconst (pc := 143) (v := 0) dX3_isMatch_143 (by decide) ?_
          exact R_iret (pc := 144) dX3_isMatch_144 rfl rfl (Nat.zero_le _) (Nat.zero_le _) ⟨_, rfl, rfl, Or.inr rfl⟩
        · skip
          refine R_iload_n (pc := 114) dX3_isMatch_114 rfl rfl ?_
          refine R_ifeq (pc := 115) 143 dX3_isMatch_115 (by decide) (fun h => absurd h (by decide)) (fun _ => ?_)
          refine R_aload_n (pc := 118) dX3_isMatch_118 rfl rfl ?_
          refine R_iload_n (pc := 119) dX3_isMatch_119 rfl rfl ?_
          refine R_iload_n (pc := 120) dX3_isMatch_120 rfl rfl ?_
          refine k_X3_94 (pc := 121) (gx_X3_isLike _ _ _ hI ha hb) rfl (c_12 _) (by decide) (Nat.le_refl _) (Nat.le_refl _) (Nat.le_of_ble_eq_true rfl) dX3_isMatch_121 (fun x w2 h => ?_)
          rcases h with ⟨rfl, rfl | rfl⟩
          · skip
            refine R_ifeq (pc := 124) 143 dX3_isMatch_124 (by decide) (fun h => absurd h (by decide)) (fun _ => ?_)
            refine R_aload_n (pc := 127) dX3_isMatch_127 rfl rfl ?_
            refine g_X3_16 (pc := 128) (v := .ref 34) rfl dX3_isMatch_128 (c_12 _) rfl ?_
            refine R_iload_n (pc := 131) dX3_isMatch_131 rfl rfl ?_
            have hx16 : vp_in a 20 := (vp_of_inR ha (by decide))
            refine R_aaload (pc := 132) (b := 35 + (Int32.toNatClampNeg a)) dX3_isMatch_132 (c_34 _) hx16 (if_pos (lt_of_vp hx16)) ?_
            refine R_iload_n (pc := 133) dX3_isMatch_133 rfl rfl ?_
            have hx17 : vp_in b 20 := (vp_of_inR hb (by decide))
            refine R_iaload (pc := 134) dX3_isMatch_134 (r_34 _ _ (lt_of_vp hx16)) hx17 ?_
            refine R_iconst (pc := 135) (v := 2) dX3_isMatch_135 (by decide) ?_
            refine R_icgt (pc := 136) 143 dX3_isMatch_136 (by decide) (fun b136_18 => ?_) (fun b136_18 => ?_)
            · skip
              refine R_iconst (pc := 143) (v := 0) dX3_isMatch_143 (by decide) ?_
              exact R_iret (pc := 144) dX3_isMatch_144 rfl rfl (Nat.zero_le _) (Nat.zero_le _) ⟨_, rfl, rfl, Or.inr rfl⟩
            · skip
              refine R_iconst (pc := 139) (v := 1) dX3_isMatch_139 (by decide) ?_
              refine R_goto (pc := 140) 144 dX3_isMatch_140 (by decide) ?_
              exact R_iret (pc := 144) dX3_isMatch_144 rfl rfl (Nat.zero_le _) (Nat.zero_le _) ⟨_, rfl, rfl, Or.inl rfl⟩
          · skip
            refine R_ifeq (pc := 124) 143 dX3_isMatch_124 (by decide) (fun _ => ?_) (fun h => absurd (by decide) h)
            refine R_iconst (pc := 143) (v := 0) dX3_isMatch_143 (by decide) ?_
            exact R_iret (pc := 144) dX3_isMatch_144 rfl rfl (Nat.zero_le _) (Nat.zero_le _) ⟨_, rfl, rfl, Or.inr rfl⟩
  · skip
    refine R_aload_n (pc := 21) dX3_isMatch_21 rfl rfl ?_
    refine g_X3_27 (pc := 22) (v := .ref 1) rfl dX3_isMatch_22 (c_12 _) rfl ?_
    refine g_X3_82 (pc := 25) (v := .ref 4) rfl dX3_isMatch_25 (c_1 _) rfl ?_
    refine R_iload_n (pc := 28) dX3_isMatch_28 rfl rfl ?_
    have hx20 : vp_in a 20 := (vp_of_inR ha (by decide))
    refine R_iaload (pc := 29) dX3_isMatch_29 (c_4 _) hx20 ?_
    refine R_ifeq (pc := 30) 45 dX3_isMatch_30 (by decide) (fun b30_21 => ?_) (fun b30_21 => ?_)
    · skip
      refine R_iconst (pc := 45) (v := 1) dX3_isMatch_45 (by decide) ?_
      refine R_goto (pc := 46) 50 dX3_isMatch_46 (by decide) ?_
      refine st_4_3_i_i (pc := 50) dX3_isMatch_50 ?_
      refine R_aload_n (pc := 51) dX3_isMatch_51 rfl rfl ?_
      refine g_X3_27 (pc := 52) (v := .ref 1) rfl dX3_isMatch_52 (c_12 _) rfl ?_
      refine g_X3_85 (pc := 55) (v := .ref 2) rfl dX3_isMatch_55 (c_1 _) rfl ?_
      refine R_iload_n (pc := 58) dX3_isMatch_58 rfl rfl ?_
      have hx22 : vp_in a 20 := (vp_of_inR ha (by decide))
      refine R_iaload (pc := 59) dX3_isMatch_59 (c_2 _) hx22 ?_
      refine R_aload_n (pc := 60) dX3_isMatch_60 rfl rfl ?_
      refine g_X3_27 (pc := 61) (v := .ref 1) rfl dX3_isMatch_61 (c_12 _) rfl ?_
      refine g_X3_85 (pc := 64) (v := .ref 2) rfl dX3_isMatch_64 (c_1 _) rfl ?_
      refine R_iload_n (pc := 67) dX3_isMatch_67 rfl rfl ?_
      have hx23 : vp_in b 20 := (vp_of_inR hb (by decide))
      refine R_iaload (pc := 68) dX3_isMatch_68 (c_2 _) hx23 ?_
      refine R_iceq (pc := 69) 143 dX3_isMatch_69 (by decide) (fun b69_24 => ?_) (fun b69_24 => ?_)
      · skip
        refine R_iconst (pc := 143) (v := 0) dX3_isMatch_143 (by decide) ?_
        exact R_iret (pc := 144) dX3_isMatch_144 rfl rfl (Nat.zero_le _) (Nat.zero_le _) ⟨_, rfl, rfl, Or.inr rfl⟩
      · skip
        refine R_aload_n (pc := 72) dX3_isMatch_72 rfl rfl ?_
        refine g_X3_27 (pc := 73) (v := .ref 1) rfl dX3_isMatch_73 (c_12 _) rfl ?_
        refine g_X3_88 (pc := 76) (v := .ref 3) rfl dX3_isMatch_76 (c_1 _) rfl ?_
        refine R_iload_n (pc := 79) dX3_isMatch_79 rfl rfl ?_
        have hx25 : vp_in a 20 := (vp_of_inR ha (by decide))
        refine R_iaload (pc := 80) dX3_isMatch_80 (c_3 _) hx25 ?_
        refine R_aload_n (pc := 81) dX3_isMatch_81 rfl rfl ?_
        refine g_X3_27 (pc := 82) (v := .ref 1) rfl dX3_isMatch_82 (c_12 _) rfl ?_
        refine g_X3_88 (pc := 85) (v := .ref 3) rfl dX3_isMatch_85 (c_1 _) rfl ?_
        refine R_iload_n (pc := 88) dX3_isMatch_88 rfl rfl ?_
        have hx26 : vp_in b 20 := (vp_of_inR hb (by decide))
        refine R_iaload (pc := 89) dX3_isMatch_89 (c_3 _) hx26 ?_
        refine R_icne (pc := 90) 143 dX3_isMatch_90 (by decide) (fun b90_27 => ?_) (fun b90_27 => ?_)
        · skip
          refine R_iconst (pc := 143) (v := 0) dX3_isMatch_143 (by decide) ?_
          exact R_iret (pc := 144) dX3_isMatch_144 rfl rfl (Nat.zero_le _) (Nat.zero_le _) ⟨_, rfl, rfl, Or.inr rfl⟩
        · skip
          refine R_aload_n (pc := 93) dX3_isMatch_93 rfl rfl ?_
          refine g_X3_27 (pc := 94) (v := .ref 1) rfl dX3_isMatch_94 (c_12 _) rfl ?_
          refine g_X3_91 (pc := 97) (v := .ref 5) rfl dX3_isMatch_97 (c_1 _) rfl ?_
          refine R_iload_n (pc := 100) dX3_isMatch_100 rfl rfl ?_
          have hx28 : vp_in a 20 := (vp_of_inR ha (by decide))
          refine R_iaload (pc := 101) dX3_isMatch_101 (c_5 _) hx28 ?_
          refine R_aload_n (pc := 102) dX3_isMatch_102 rfl rfl ?_
          refine g_X3_27 (pc := 103) (v := .ref 1) rfl dX3_isMatch_103 (c_12 _) rfl ?_
          refine g_X3_91 (pc := 106) (v := .ref 5) rfl dX3_isMatch_106 (c_1 _) rfl ?_
          refine R_iload_n (pc := 109) dX3_isMatch_109 rfl rfl ?_
          have hx29 : vp_in b 20 := (vp_of_inR hb (by decide))
          refine R_iaload (pc := 110) dX3_isMatch_110 (c_5 _) hx29 ?_
          refine R_icne (pc := 111) 143 dX3_isMatch_111 (by decide) (fun b111_30 => ?_) (fun b111_30 => ?_)
          · skip
            refine R_iconst (pc := 143) (v := 0) dX3_isMatch_143 (by decide) ?_
            exact R_iret (pc := 144) dX3_isMatch_144 rfl rfl (Nat.zero_le _) (Nat.zero_le _) ⟨_, rfl, rfl, Or.inr rfl⟩
          · skip
            refine R_iload_n (pc := 114) dX3_isMatch_114 rfl rfl ?_
            refine R_ifeq (pc := 115) 143 dX3_isMatch_115 (by decide) (fun h => absurd h (by decide)) (fun _ => ?_)
            refine R_aload_n (pc := 118) dX3_isMatch_118 rfl rfl ?_
            refine R_iload_n (pc := 119) dX3_isMatch_119 rfl rfl ?_
            refine R_iload_n (pc := 120) dX3_isMatch_120 rfl rfl ?_
            refine k_X3_94 (pc := 121) (gx_X3_isLike _ _ _ hI ha hb) rfl (c_12 _) (by decide) (Nat.le_refl _) (Nat.le_refl _) (Nat.le_of_ble_eq_true rfl) dX3_isMatch_121 (fun x w2 h => ?_)
            rcases h with ⟨rfl, rfl | rfl⟩
            · skip
              refine R_ifeq (pc := 124) 143 dX3_isMatch_124 (by decide) (fun h => absurd h (by decide)) (fun _ => ?_)
              refine R_aload_n (pc := 127) dX3_isMatch_127 rfl rfl ?_
              refine g_X3_16 (pc := 128) (v := .ref 34) rfl dX3_isMatch_128 (c_12 _) rfl ?_
              refine R_iload_n (pc := 131) dX3_isMatch_131 rfl rfl ?_
              have hx34 : vp_in a 20 := (vp_of_inR ha (by decide))
              refine R_aaload (pc := 132) (b := 35 + (Int32.toNatClampNeg a)) dX3_isMatch_132 (c_34 _) hx34 (if_pos (lt_of_vp hx34)) ?_
              refine R_iload_n (pc := 133) dX3_isMatch_133 rfl rfl ?_
              have hx35 : vp_in b 20 := (vp_of_inR hb (by decide))
              refine R_iaload (pc := 134) dX3_isMatch_134 (r_34 _ _ (lt_of_vp hx34)) hx35 ?_
              refine R_iconst (pc := 135) (v := 2) dX3_isMatch_135 (by decide) ?_
              refine R_icgt (pc := 136) 143 dX3_isMatch_136 (by decide) (fun b136_36 => ?_) (fun b136_36 => ?_)
              · skip
                refine R_iconst (pc := 143) (v := 0) dX3_isMatch_143 (by decide) ?_
                exact R_iret (pc := 144) dX3_isMatch_144 rfl rfl (Nat.zero_le _) (Nat.zero_le _) ⟨_, rfl, rfl, Or.inr rfl⟩
              · skip
                refine R_iconst (pc := 139) (v := 1) dX3_isMatch_139 (by decide) ?_
                refine R_goto (pc := 140) 144 dX3_isMatch_140 (by decide) ?_
                exact R_iret (pc := 144) dX3_isMatch_144 rfl rfl (Nat.zero_le _) (Nat.zero_le _) ⟨_, rfl, rfl, Or.inl rfl⟩
            · skip
              refine R_ifeq (pc := 124) 143 dX3_isMatch_124 (by decide) (fun _ => ?_) (fun h => absurd (by decide) h)
              refine R_iconst (pc := 143) (v := 0) dX3_isMatch_143 (by decide) ?_
              exact R_iret (pc := 144) dX3_isMatch_144 rfl rfl (Nat.zero_le _) (Nat.zero_le _) ⟨_, rfl, rfl, Or.inr rfl⟩
    · skip
      refine R_aload_n (pc := 33) dX3_isMatch_33 rfl rfl ?_
      refine g_X3_27 (pc := 34) (v := .ref 1) rfl dX3_isMatch_34 (c_12 _) rfl ?_
      refine g_X3_82 (pc := 37) (v := .ref 4) rfl dX3_isMatch_37 (c_1 _) rfl ?_
      refine R_iload_n (pc := 40) dX3_isMatch_40 rfl rfl ?_
      have hx38 : vp_in b 20 := (vp_of_inR hb (by decide))
      refine R_iaload (pc := 41) dX3_isMatch_41 (c_4 _) hx38 ?_
      refine R_ifne (pc := 42) 49 dX3_isMatch_42 (by decide) (fun b42_39 => ?_) (fun b42_39 => ?_)
      · skip
        refine R_iconst (pc := 49) (v := 0) dX3_isMatch_49 (by decide) ?_
        refine st_4_3_i_i (pc := 50) dX3_isMatch_50 ?_
        refine R_aload_n (pc := 51) dX3_isMatch_51 rfl rfl ?_
        refine g_X3_27 (pc := 52) (v := .ref 1) rfl dX3_isMatch_52 (c_12 _) rfl ?_
        refine g_X3_85 (pc := 55) (v := .ref 2) rfl dX3_isMatch_55 (c_1 _) rfl ?_
        refine R_iload_n (pc := 58) dX3_isMatch_58 rfl rfl ?_
        have hx40 : vp_in a 20 := (vp_of_inR ha (by decide))
        refine R_iaload (pc := 59) dX3_isMatch_59 (c_2 _) hx40 ?_
        refine R_aload_n (pc := 60) dX3_isMatch_60 rfl rfl ?_
        refine g_X3_27 (pc := 61) (v := .ref 1) rfl dX3_isMatch_61 (c_12 _) rfl ?_
        refine g_X3_85 (pc := 64) (v := .ref 2) rfl dX3_isMatch_64 (c_1 _) rfl ?_
        refine R_iload_n (pc := 67) dX3_isMatch_67 rfl rfl ?_
        have hx41 : vp_in b 20 := (vp_of_inR hb (by decide))
        refine R_iaload (pc := 68) dX3_isMatch_68 (c_2 _) hx41 ?_
        refine R_iceq (pc := 69) 143 dX3_isMatch_69 (by decide) (fun b69_42 => ?_) (fun b69_42 => ?_)
        · skip
          refine R_iconst (pc := 143) (v := 0) dX3_isMatch_143 (by decide) ?_
          exact R_iret (pc := 144) dX3_isMatch_144 rfl rfl (Nat.zero_le _) (Nat.zero_le _) ⟨_, rfl, rfl, Or.inr rfl⟩
        · skip
          refine R_aload_n (pc := 72) dX3_isMatch_72 rfl rfl ?_
          refine g_X3_27 (pc := 73) (v := .ref 1) rfl dX3_isMatch_73 (c_12 _) rfl ?_
          refine g_X3_88 (pc := 76) (v := .ref 3) rfl dX3_isMatch_76 (c_1 _) rfl ?_
          refine R_iload_n (pc := 79) dX3_isMatch_79 rfl rfl ?_
          have hx43 : vp_in a 20 := (vp_of_inR ha (by decide))
          refine R_iaload (pc := 80) dX3_isMatch_80 (c_3 _) hx43 ?_
          refine R_aload_n (pc := 81) dX3_isMatch_81 rfl rfl ?_
          refine g_X3_27 (pc := 82) (v := .ref 1) rfl dX3_isMatch_82 (c_12 _) rfl ?_
          refine g_X3_88 (pc := 85) (v := .ref 3) rfl dX3_isMatch_85 (c_1 _) rfl ?_
          refine R_iload_n (pc := 88) dX3_isMatch_88 rfl rfl ?_
          have hx44 : vp_in b 20 := (vp_of_inR hb (by decide))
          refine R_iaload (pc := 89) dX3_isMatch_89 (c_3 _) hx44 ?_
          refine R_icne (pc := 90) 143 dX3_isMatch_90 (by decide) (fun b90_45 => ?_) (fun b90_45 => ?_)
          · skip
            refine R_iconst (pc := 143) (v := 0) dX3_isMatch_143 (by decide) ?_
            exact R_iret (pc := 144) dX3_isMatch_144 rfl rfl (Nat.zero_le _) (Nat.zero_le _) ⟨_, rfl, rfl, Or.inr rfl⟩
          · skip
            refine R_aload_n (pc := 93) dX3_isMatch_93 rfl rfl ?_
            refine g_X3_27 (pc := 94) (v := .ref 1) rfl dX3_isMatch_94 (c_12 _) rfl ?_
            refine g_X3_91 (pc := 97) (v := .ref 5) rfl dX3_isMatch_97 (c_1 _) rfl ?_
            refine R_iload_n (pc := 100) dX3_isMatch_100 rfl rfl ?_
            have hx46 : vp_in a 20 := (vp_of_inR ha (by decide))
            refine R_iaload (pc := 101) dX3_isMatch_101 (c_5 _) hx46 ?_
            refine R_aload_n (pc := 102) dX3_isMatch_102 rfl rfl ?_
            refine g_X3_27 (pc := 103) (v := .ref 1) rfl dX3_isMatch_103 (c_12 _) rfl ?_
            refine g_X3_91 (pc := 106) (v := .ref 5) rfl dX3_isMatch_106 (c_1 _) rfl ?_
            refine R_iload_n (pc := 109) dX3_isMatch_109 rfl rfl ?_
            have hx47 : vp_in b 20 := (vp_of_inR hb (by decide))
            refine R_iaload (pc := 110) dX3_isMatch_110 (c_5 _) hx47 ?_
            refine R_icne (pc := 111) 143 dX3_isMatch_111 (by decide) (fun b111_48 => ?_) (fun b111_48 => ?_)
            · skip
              refine R_iconst (pc := 143) (v := 0) dX3_isMatch_143 (by decide) ?_
              exact R_iret (pc := 144) dX3_isMatch_144 rfl rfl (Nat.zero_le _) (Nat.zero_le _) ⟨_, rfl, rfl, Or.inr rfl⟩
            · skip
              refine R_iload_n (pc := 114) dX3_isMatch_114 rfl rfl ?_
              refine R_ifeq (pc := 115) 143 dX3_isMatch_115 (by decide) (fun _ => ?_) (fun h => absurd (by decide) h)
              refine R_iconst (pc := 143) (v := 0) dX3_isMatch_143 (by decide) ?_
              exact R_iret (pc := 144) dX3_isMatch_144 rfl rfl (Nat.zero_le _) (Nat.zero_le _) ⟨_, rfl, rfl, Or.inr rfl⟩
      · skip
        refine R_iconst (pc := 45) (v := 1) dX3_isMatch_45 (by decide) ?_
        refine R_goto (pc := 46) 50 dX3_isMatch_46 (by decide) ?_
        refine st_4_3_i_i (pc := 50) dX3_isMatch_50 ?_
        refine R_aload_n (pc := 51) dX3_isMatch_51 rfl rfl ?_
        refine g_X3_27 (pc := 52) (v := .ref 1) rfl dX3_isMatch_52 (c_12 _) rfl ?_
        refine g_X3_85 (pc := 55) (v := .ref 2) rfl dX3_isMatch_55 (c_1 _) rfl ?_
        refine R_iload_n (pc := 58) dX3_isMatch_58 rfl rfl ?_
        have hx50 : vp_in a 20 := (vp_of_inR ha (by decide))
        refine R_iaload (pc := 59) dX3_isMatch_59 (c_2 _) hx50 ?_
        refine R_aload_n (pc := 60) dX3_isMatch_60 rfl rfl ?_
        refine g_X3_27 (pc := 61) (v := .ref 1) rfl dX3_isMatch_61 (c_12 _) rfl ?_
        refine g_X3_85 (pc := 64) (v := .ref 2) rfl dX3_isMatch_64 (c_1 _) rfl ?_
        refine R_iload_n (pc := 67) dX3_isMatch_67 rfl rfl ?_
        have hx51 : vp_in b 20 := (vp_of_inR hb (by decide))
        refine R_iaload (pc := 68) dX3_isMatch_68 (c_2 _) hx51 ?_
        refine R_iceq (pc := 69) 143 dX3_isMatch_69 (by decide) (fun b69_52 => ?_) (fun b69_52 => ?_)
        · skip
          refine R_iconst (pc := 143) (v := 0) dX3_isMatch_143 (by decide) ?_
          exact R_iret (pc := 144) dX3_isMatch_144 rfl rfl (Nat.zero_le _) (Nat.zero_le _) ⟨_, rfl, rfl, Or.inr rfl⟩
        · skip
          refine R_aload_n (pc := 72) dX3_isMatch_72 rfl rfl ?_
          refine g_X3_27 (pc := 73) (v := .ref 1) rfl dX3_isMatch_73 (c_12 _) rfl ?_
          refine g_X3_88 (pc := 76) (v := .ref 3) rfl dX3_isMatch_76 (c_1 _) rfl ?_
          refine R_iload_n (pc := 79) dX3_isMatch_79 rfl rfl ?_
          have hx53 : vp_in a 20 := (vp_of_inR ha (by decide))
          refine R_iaload (pc := 80) dX3_isMatch_80 (c_3 _) hx53 ?_
          refine R_aload_n (pc := 81) dX3_isMatch_81 rfl rfl ?_
          refine g_X3_27 (pc := 82) (v := .ref 1) rfl dX3_isMatch_82 (c_12 _) rfl ?_
          refine g_X3_88 (pc := 85) (v := .ref 3) rfl dX3_isMatch_85 (c_1 _) rfl ?_
          refine R_iload_n (pc := 88) dX3_isMatch_88 rfl rfl ?_
          have hx54 : vp_in b 20 := (vp_of_inR hb (by decide))
          refine R_iaload (pc := 89) dX3_isMatch_89 (c_3 _) hx54 ?_
          refine R_icne (pc := 90) 143 dX3_isMatch_90 (by decide) (fun b90_55 => ?_) (fun b90_55 => ?_)
          · skip
            refine R_iconst (pc := 143) (v := 0) dX3_isMatch_143 (by decide) ?_
            exact R_iret (pc := 144) dX3_isMatch_144 rfl rfl (Nat.zero_le _) (Nat.zero_le _) ⟨_, rfl, rfl, Or.inr rfl⟩
          · skip
            refine R_aload_n (pc := 93) dX3_isMatch_93 rfl rfl ?_
            refine g_X3_27 (pc := 94) (v := .ref 1) rfl dX3_isMatch_94 (c_12 _) rfl ?_
            refine g_X3_91 (pc := 97) (v := .ref 5) rfl dX3_isMatch_97 (c_1 _) rfl ?_
            refine R_iload_n (pc := 100) dX3_isMatch_100 rfl rfl ?_
            have hx56 : vp_in a 20 := (vp_of_inR ha (by decide))
            refine R_iaload (pc := 101) dX3_isMatch_101 (c_5 _) hx56 ?_
            refine R_aload_n (pc := 102) dX3_isMatch_102 rfl rfl ?_
            refine g_X3_27 (pc := 103) (v := .ref 1) rfl dX3_isMatch_103 (c_12 _) rfl ?_
            refine g_X3_91 (pc := 106) (v := .ref 5) rfl dX3_isMatch_106 (c_1 _) rfl ?_
            refine R_iload_n (pc := 109) dX3_isMatch_109 rfl rfl ?_
            have hx57 : vp_in b 20 := (vp_of_inR hb (by decide))
            refine R_iaload (pc := 110) dX3_isMatch_110 (c_5 _) hx57 ?_
            refine R_icne (pc := 111) 143 dX3_isMatch_111 (by decide) (fun b111_58 => ?_) (fun b111_58 => ?_)
            · skip
              refine R_iconst (pc := 143) (v := 0) dX3_isMatch_143 (by decide) ?_
              exact R_iret (pc := 144) dX3_isMatch_144 rfl rfl (Nat.zero_le _) (Nat.zero_le _) ⟨_, rfl, rfl, Or.inr rfl⟩
            · skip
              refine R_iload_n (pc := 114) dX3_isMatch_114 rfl rfl ?_
              refine R_ifeq (pc := 115) 143 dX3_isMatch_115 (by decide) (fun h => absurd h (by decide)) (fun _ => ?_)
              refine R_aload_n (pc := 118) dX3_isMatch_118 rfl rfl ?_
              refine R_iload_n (pc := 119) dX3_isMatch_119 rfl rfl ?_
              refine R_iload_n (pc := 120) dX3_isMatch_120 rfl rfl ?_
              refine k_X3_94 (pc := 121) (gx_X3_isLike _ _ _ hI ha hb) rfl (c_12 _) (by decide) (Nat.le_refl _) (Nat.le_refl _) (Nat.le_of_ble_eq_true rfl) dX3_isMatch_121 (fun x w2 h => ?_)
              rcases h with ⟨rfl, rfl | rfl⟩
              · skip
                refine R_ifeq (pc := 124) 143 dX3_isMatch_124 (by decide) (fun h => absurd h (by decide)) (fun _ => ?_)
                refine R_aload_n (pc := 127) dX3_isMatch_127 rfl rfl ?_
                refine g_X3_16 (pc := 128) (v := .ref 34) rfl dX3_isMatch_128 (c_12 _) rfl ?_
                refine R_iload_n (pc := 131) dX3_isMatch_131 rfl rfl ?_
                have hx62 : vp_in a 20 := (vp_of_inR ha (by decide))
                refine R_aaload (pc := 132) (b := 35 + (Int32.toNatClampNeg a)) dX3_isMatch_132 (c_34 _) hx62 (if_pos (lt_of_vp hx62)) ?_
                refine R_iload_n (pc := 133) dX3_isMatch_133 rfl rfl ?_
                have hx63 : vp_in b 20 := (vp_of_inR hb (by decide))
                refine R_iaload (pc := 134) dX3_isMatch_134 (r_34 _ _ (lt_of_vp hx62)) hx63 ?_
                refine R_iconst (pc := 135) (v := 2) dX3_isMatch_135 (by decide) ?_
                refine R_icgt (pc := 136) 143 dX3_isMatch_136 (by decide) (fun b136_64 => ?_) (fun b136_64 => ?_)
                · skip
                  refine R_iconst (pc := 143) (v := 0) dX3_isMatch_143 (by decide) ?_
                  exact R_iret (pc := 144) dX3_isMatch_144 rfl rfl (Nat.zero_le _) (Nat.zero_le _) ⟨_, rfl, rfl, Or.inr rfl⟩
                · skip
                  refine R_iconst (pc := 139) (v := 1) dX3_isMatch_139 (by decide) ?_
                  refine R_goto (pc := 140) 144 dX3_isMatch_140 (by decide) ?_
                  exact R_iret (pc := 144) dX3_isMatch_144 rfl rfl (Nat.zero_le _) (Nat.zero_le _) ⟨_, rfl, rfl, Or.inl rfl⟩
              · skip
                refine R_ifeq (pc := 124) 143 dX3_isMatch_124 (by decide) (fun _ => ?_) (fun h => absurd (by decide) h)
                refine R_iconst (pc := 143) (v := 0) dX3_isMatch_143 (by decide) ?_
                exact R_iret (pc := 144) dX3_isMatch_144 rfl rfl (Nat.zero_le _) (Nat.zero_le _) ⟨_, rfl, rfl, Or.inr rfl⟩
theorem dX3_chained_0 : decode cX3_chained 0 = .ok (.iconst 1, 1) := by decide +kernel
theorem dX3_chained_1 : decode cX3_chained 1 = .ok (.iload_n 1, 1) := by decide +kernel
theorem dX3_chained_2 : decode cX3_chained 2 = .ok (.ishl, 1) := by decide +kernel
theorem dX3_chained_3 : decode cX3_chained 3 = .ok (.istore 4, 2) := by decide +kernel
theorem dX3_chained_5 : decode cX3_chained 5 = .ok (.iload 4, 2) := by decide +kernel
theorem dX3_chained_7 : decode cX3_chained 7 = .ok (.istore 5, 2) := by decide +kernel
theorem dX3_chained_9 : decode cX3_chained 9 = .ok (.iconst 0, 1) := by decide +kernel
theorem dX3_chained_10 : decode cX3_chained 10 = .ok (.istore 6, 2) := by decide +kernel
theorem dX3_chained_12 : decode cX3_chained 12 = .ok (.iload 6, 2) := by decide +kernel
theorem dX3_chained_14 : decode cX3_chained 14 = .ok (.bipush 20, 2) := by decide +kernel
theorem dX3_chained_16 : decode cX3_chained 16 = .ok (.if_icmp .ge 113, 3) := by decide +kernel
theorem dX3_chained_19 : decode cX3_chained 19 = .ok (.iload 5, 2) := by decide +kernel
theorem dX3_chained_21 : decode cX3_chained 21 = .ok (.ifCond .eq 108, 3) := by decide +kernel
theorem dX3_chained_24 : decode cX3_chained 24 = .ok (.iload 5, 2) := by decide +kernel
theorem dX3_chained_26 : decode cX3_chained 26 = .ok (.invokestatic 102, 3) := by decide +kernel
theorem dX3_chained_29 : decode cX3_chained 29 = .ok (.istore 7, 2) := by decide +kernel
theorem dX3_chained_31 : decode cX3_chained 31 = .ok (.iload 5, 2) := by decide +kernel
theorem dX3_chained_33 : decode cX3_chained 33 = .ok (.iconst 1, 1) := by decide +kernel
theorem dX3_chained_34 : decode cX3_chained 34 = .ok (.iload 7, 2) := by decide +kernel
theorem dX3_chained_36 : decode cX3_chained 36 = .ok (.ishl, 1) := by decide +kernel
theorem dX3_chained_37 : decode cX3_chained 37 = .ok (.iconst (-1), 1) := by decide +kernel
theorem dX3_chained_38 : decode cX3_chained 38 = .ok (.ixor, 1) := by decide +kernel
theorem dX3_chained_39 : decode cX3_chained 39 = .ok (.iand, 1) := by decide +kernel
theorem dX3_chained_40 : decode cX3_chained 40 = .ok (.istore 5, 2) := by decide +kernel
theorem dX3_chained_42 : decode cX3_chained 42 = .ok (.iconst 0, 1) := by decide +kernel
theorem dX3_chained_43 : decode cX3_chained 43 = .ok (.istore 8, 2) := by decide +kernel
theorem dX3_chained_45 : decode cX3_chained 45 = .ok (.iload 8, 2) := by decide +kernel
theorem dX3_chained_47 : decode cX3_chained 47 = .ok (.bipush 20, 2) := by decide +kernel
theorem dX3_chained_49 : decode cX3_chained 49 = .ok (.if_icmp .ge 74, 3) := by decide +kernel
theorem dX3_chained_52 : decode cX3_chained 52 = .ok (.iload_n 2, 1) := by decide +kernel
theorem dX3_chained_53 : decode cX3_chained 53 = .ok (.iload 4, 2) := by decide +kernel
theorem dX3_chained_55 : decode cX3_chained 55 = .ok (.iconst (-1), 1) := by decide +kernel
theorem dX3_chained_56 : decode cX3_chained 56 = .ok (.ixor, 1) := by decide +kernel
theorem dX3_chained_57 : decode cX3_chained 57 = .ok (.iand, 1) := by decide +kernel
theorem dX3_chained_58 : decode cX3_chained 58 = .ok (.iload 8, 2) := by decide +kernel
theorem dX3_chained_60 : decode cX3_chained 60 = .ok (.invokestatic 106, 3) := by decide +kernel
theorem dX3_chained_63 : decode cX3_chained 63 = .ok (.istore 9, 2) := by decide +kernel
theorem dX3_chained_65 : decode cX3_chained 65 = .ok (.iload 9, 2) := by decide +kernel
theorem dX3_chained_67 : decode cX3_chained 67 = .ok (.ifCond .eq 50, 3) := by decide +kernel
theorem dX3_chained_70 : decode cX3_chained 70 = .ok (.iload_n 3, 1) := by decide +kernel
theorem dX3_chained_71 : decode cX3_chained 71 = .ok (.ifCond .eq 17, 3) := by decide +kernel
theorem dX3_chained_74 : decode cX3_chained 74 = .ok (.aload_n 0, 1) := by decide +kernel
theorem dX3_chained_75 : decode cX3_chained 75 = .ok (.iload 7, 2) := by decide +kernel
theorem dX3_chained_77 : decode cX3_chained 77 = .ok (.iload 8, 2) := by decide +kernel
theorem dX3_chained_79 : decode cX3_chained 79 = .ok (.invokevirtual 109, 3) := by decide +kernel
theorem dX3_chained_82 : decode cX3_chained 82 = .ok (.ifCond .eq 35, 3) := by decide +kernel
theorem dX3_chained_85 : decode cX3_chained 85 = .ok (.goto 14, 3) := by decide +kernel
theorem dX3_chained_88 : decode cX3_chained 88 = .ok (.aload_n 0, 1) := by decide +kernel
theorem dX3_chained_89 : decode cX3_chained 89 = .ok (.iload 7, 2) := by decide +kernel
theorem dX3_chained_91 : decode cX3_chained 91 = .ok (.iload 8, 2) := by decide +kernel
theorem dX3_chained_93 : decode cX3_chained 93 = .ok (.invokevirtual 94, 3) := by decide +kernel
theorem dX3_chained_96 : decode cX3_chained 96 = .ok (.ifCond .eq 21, 3) := by decide +kernel
theorem dX3_chained_99 : decode cX3_chained 99 = .ok (.iload 4, 2) := by decide +kernel
theorem dX3_chained_101 : decode cX3_chained 101 = .ok (.iconst 1, 1) := by decide +kernel
theorem dX3_chained_102 : decode cX3_chained 102 = .ok (.iload 8, 2) := by decide +kernel
theorem dX3_chained_104 : decode cX3_chained 104 = .ok (.ishl, 1) := by decide +kernel
theorem dX3_chained_105 : decode cX3_chained 105 = .ok (.ior, 1) := by decide +kernel
theorem dX3_chained_106 : decode cX3_chained 106 = .ok (.istore 4, 2) := by decide +kernel
theorem dX3_chained_108 : decode cX3_chained 108 = .ok (.iload 5, 2) := by decide +kernel
theorem dX3_chained_110 : decode cX3_chained 110 = .ok (.iconst 1, 1) := by decide +kernel
theorem dX3_chained_111 : decode cX3_chained 111 = .ok (.iload 8, 2) := by decide +kernel
theorem dX3_chained_113 : decode cX3_chained 113 = .ok (.ishl, 1) := by decide +kernel
theorem dX3_chained_114 : decode cX3_chained 114 = .ok (.ior, 1) := by decide +kernel
theorem dX3_chained_115 : decode cX3_chained 115 = .ok (.istore 5, 2) := by decide +kernel
theorem dX3_chained_117 : decode cX3_chained 117 = .ok (.iinc 8 1, 3) := by decide +kernel
theorem dX3_chained_120 : decode cX3_chained 120 = .ok (.goto (-75), 3) := by decide +kernel
theorem dX3_chained_123 : decode cX3_chained 123 = .ok (.iinc 6 1, 3) := by decide +kernel
theorem dX3_chained_126 : decode cX3_chained 126 = .ok (.goto (-114), 3) := by decide +kernel
theorem dX3_chained_129 : decode cX3_chained 129 = .ok (.iload 4, 2) := by decide +kernel
theorem dX3_chained_131 : decode cX3_chained 131 = .ok (.ireturn, 1) := by decide +kernel
set_option maxRecDepth 100000 in
set_option maxHeartbeats 40000000 in
theorem gx_X3_chained {G : vG} {l : Launch} (σ : Sg) (c b m : Int32) (hI : Inv σ) (hc : inR c 0 19) : Sp G l yX3_chained cX3_chained 10 (some .int) 2 0 0 [.ref 12, .int c, .int b, .int m] (WW σ) (QI (fun x w2 => w2 = WW σ)) := by
  refine Sp_of_R [(some (.ref 12)), (some (.int c)), (some (.int b)), (some (.int m)), none, none, none, none, none, none] [none, none, none, none, none, none] rfl (by simp) rfl (Nat.le_of_ble_eq_true rfl) ?_
  refine R_iconst (pc := 0) (v := 1) dX3_chained_0 (by decide) ?_
  refine R_iload_n (pc := 1) dX3_chained_1 rfl rfl ?_
  refine R_ishl (pc := 2) dX3_chained_2 ?_
  have r1 : inR (1 <<< (c &&& 31)) 0 1048575 := shl20 hc
  refine st_10_4_i_i (pc := 3) dX3_chained_3 ?_
  refine R_iload (pc := 5) dX3_chained_5 rfl ?_
  refine st_10_5_i_i (pc := 7) dX3_chained_7 ?_
  refine R_iconst (pc := 9) (v := 0) dX3_chained_9 (by decide) ?_
  refine st_10_6_i_i (pc := 10) dX3_chained_10 ?_
  have HL12 : ∀ (q j12 : Nat) (g4_12 : Int32) (g5_12 : Int32) (g7_12 : Option Value) (g8_12 : Option Value) (g9_12 : Option Value), j12 + q = 20 → 0 ≤ j12 → inR g5_12 0 1048575 → R G l yX3_chained cX3_chained 10 (some .int) 2 0 0 (QI (fun x w2 => w2 = WW σ)) 12 [(some (.ref 12)), (some (.int c)), (some (.int b)), (some (.int m)), (some (.int g4_12)), (some (.int g5_12)), (some (.int (nI j12))), g7_12, g8_12, g9_12] [] (WW σ) 0 0 := by
    intro q
    induction q with
    | zero =>
      intro j12 g4_12 g5_12 g7_12 g8_12 g9_12 hj hs12 hg5_12
      obtain rfl : j12 = 20 := by omega
      refine R_iload (pc := 12) dX3_chained_12 rfl ?_
      refine R_bipush (pc := 14) (v := 20) dX3_chained_14 (by decide) ?_
      refine R_icge (pc := 16) 129 dX3_chained_16 (by decide) (fun _ => ?_) (fun h => absurd (by decide) h)
      refine R_iload (pc := 129) dX3_chained_129 rfl ?_
      exact R_iret (pc := 131) dX3_chained_131 rfl rfl (Nat.zero_le _) (Nat.zero_le _) ⟨_, rfl, rfl⟩
    | succ q ih12 =>
      intro j12 g4_12 g5_12 g7_12 g8_12 g9_12 hj hs12 hg5_12
      have hrg12 : inR (nI j12) 0 19 := inR_ix hs12 (show j12 < 20 by omega) (by decide) (by decide) (by decide)
      have hlt12 : j12 < 20 := by omega
      refine R_iload (pc := 12) dX3_chained_12 rfl ?_
      refine R_bipush (pc := 14) (v := 20) dX3_chained_14 (by decide) ?_
      refine R_icge (pc := 16) 129 dX3_chained_16 (by decide) (fun h => False.elim (by have q1 := ti_le h; have q2 := ti_in (show inR (nI j12) 0 19 from hrg12); have q3 := ti_in (show inR 20 20 20 from (inR_self _)); have z0 : (0 : Int32).toInt = 0 := (by decide);  have z1 : (19 : Int32).toInt = 19 := (by decide);  have z2 : (20 : Int32).toInt = 20 := (by decide); omega)) (fun _ => ?_)
      refine R_iload (pc := 19) dX3_chained_19 rfl ?_
      refine R_ifeq (pc := 21) 129 dX3_chained_21 (by decide) (fun b21_4 => ?_) (fun b21_4 => ?_)
      · skip
        refine R_iload (pc := 129) dX3_chained_129 rfl ?_
        exact R_iret (pc := 131) dX3_chained_131 rfl rfl (Nat.zero_le _) (Nat.zero_le _) ⟨_, rfl, rfl⟩
      · skip
        refine R_iload (pc := 24) dX3_chained_24 rfl ?_
        refine k_X3_102 (pc := 26) (gx_X8_lowest _ _) rfl (by decide) (Nat.le_refl _) (Nat.le_refl _) (Nat.le_of_ble_eq_true rfl) dX3_chained_26 (fun x w2 h => ?_)
        obtain ⟨rfl, rfl⟩ := h
        have r5 : inR (pcI ((g5_12 &&& -g5_12) - 1)) 0 19 := lowest_in hg5_12 b21_4
        refine st_10_7_i_i (pc := 29) dX3_chained_29 ?_
        refine R_iload (pc := 31) dX3_chained_31 rfl ?_
        refine R_iconst (pc := 33) (v := 1) dX3_chained_33 (by decide) ?_
        refine R_iload (pc := 34) dX3_chained_34 rfl ?_
        refine R_ishl (pc := 36) dX3_chained_36 ?_
        have r6 : inR (1 <<< ((pcI ((g5_12 &&& -g5_12) - 1)) &&& 31)) 0 1048575 := shl20 r5
        refine R_iconst (pc := 37) (v := (-1)) dX3_chained_37 (by decide) ?_
        refine R_ixor (pc := 38) dX3_chained_38 ?_
        refine R_iand (pc := 39) dX3_chained_39 ?_
        have r7 : inR (g5_12 &&& ((1 <<< ((pcI ((g5_12 &&& -g5_12) - 1)) &&& 31)) ^^^ (-1))) 0 1048575 := inR_and hg5_12
        refine st_10_5_i_i (pc := 40) dX3_chained_40 ?_
        refine R_iconst (pc := 42) (v := 0) dX3_chained_42 (by decide) ?_
        refine st_10_8_i_i (pc := 43) dX3_chained_43 ?_
        have HL45 : ∀ (q j45 : Nat) (g4_45 : Int32) (g5_45 : Int32) (g9_45 : Option Value), j45 + q = 20 → 0 ≤ j45 → inR g5_45 0 1048575 → R G l yX3_chained cX3_chained 10 (some .int) 2 0 0 (QI (fun x w2 => w2 = WW σ)) 45 [(some (.ref 12)), (some (.int c)), (some (.int b)), (some (.int m)), (some (.int g4_45)), (some (.int g5_45)), (some (.int (nI j12))), (some (.int (pcI ((g5_12 &&& -g5_12) - 1)))), (some (.int (nI j45))), g9_45] [] (WW σ) 0 0 := by
          intro q
          induction q with
          | zero =>
            intro j45 g4_45 g5_45 g9_45 hj hs45 hg5_45
            obtain rfl : j45 = 20 := by omega
            refine R_iload (pc := 45) dX3_chained_45 rfl ?_
            refine R_bipush (pc := 47) (v := 20) dX3_chained_47 (by decide) ?_
            refine R_icge (pc := 49) 123 dX3_chained_49 (by decide) (fun _ => ?_) (fun h => absurd (by decide) h)
            refine inc_10_6_1_i (pc := 123) dX3_chained_123 ?_
            have r9 : inR ((nI j12) + 1) 1 20 := inR_add (show inR (nI j12) 0 19 from hrg12) (show inR 1 1 1 from (inR_self _)) (by decide) (by decide)
            have e10 := ti_add (l := 1) (h := 20) (show inR (nI j12) 0 19 from hrg12) (show inR 1 1 1 from (inR_self _)) (by decide) (by decide)
            refine R_goto (pc := 126) 12 dX3_chained_126 (by decide) ?_
            rw [nI_1]
            exact ih12 (j12 + 1) _ _ _ _ _ (by omega) (by omega) hg5_45
          | succ q ih45 =>
            intro j45 g4_45 g5_45 g9_45 hj hs45 hg5_45
            have hrg45 : inR (nI j45) 0 19 := inR_ix hs45 (show j45 < 20 by omega) (by decide) (by decide) (by decide)
            have hlt45 : j45 < 20 := by omega
            refine R_iload (pc := 45) dX3_chained_45 rfl ?_
            refine R_bipush (pc := 47) (v := 20) dX3_chained_47 (by decide) ?_
            refine R_icge (pc := 49) 123 dX3_chained_49 (by decide) (fun h => False.elim (by have q1 := ti_le h; have q2 := ti_in (show inR (nI j45) 0 19 from hrg45); have q3 := ti_in (show inR 20 20 20 from (inR_self _)); have z0 : (0 : Int32).toInt = 0 := (by decide);  have z1 : (19 : Int32).toInt = 19 := (by decide);  have z2 : (20 : Int32).toInt = 20 := (by decide); omega)) (fun _ => ?_)
            refine R_iload_n (pc := 52) dX3_chained_52 rfl rfl ?_
            refine R_iload (pc := 53) dX3_chained_53 rfl ?_
            refine R_iconst (pc := 55) (v := (-1)) dX3_chained_55 (by decide) ?_
            refine R_ixor (pc := 56) dX3_chained_56 ?_
            refine R_iand (pc := 57) dX3_chained_57 ?_
            refine R_iload (pc := 58) dX3_chained_58 rfl ?_
            refine k_X3_106 (pc := 60) (sp_X8_has _ _ _) rfl (by decide) (Nat.le_refl _) (Nat.le_refl _) (Nat.le_of_ble_eq_true rfl) dX3_chained_60 (fun x w2 h => ?_)
            rcases h with ⟨rfl, ⟨-, rfl⟩ | ⟨-, rfl⟩⟩
            · skip
              refine st_10_9_i_i (pc := 63) dX3_chained_63 ?_
              refine R_iload (pc := 65) dX3_chained_65 rfl ?_
              refine R_ifeq (pc := 67) 117 dX3_chained_67 (by decide) (fun h => absurd h (by decide)) (fun _ => ?_)
              refine R_iload_n (pc := 70) dX3_chained_70 rfl rfl ?_
              refine R_ifeq (pc := 71) 88 dX3_chained_71 (by decide) (fun b71_13 => ?_) (fun b71_13 => ?_)
              · skip
                refine R_aload_n (pc := 88) dX3_chained_88 rfl rfl ?_
                refine R_iload (pc := 89) dX3_chained_89 rfl ?_
                refine R_iload (pc := 91) dX3_chained_91 rfl ?_
                refine k_X3_94 (pc := 93) (gx_X3_isLike _ _ _ hI r5 hrg45) rfl (c_12 _) (by decide) (Nat.le_refl _) (Nat.le_refl _) (Nat.le_of_ble_eq_true rfl) dX3_chained_93 (fun x w2 h => ?_)
                rcases h with ⟨rfl, rfl | rfl⟩
                · skip
                  refine R_ifeq (pc := 96) 117 dX3_chained_96 (by decide) (fun h => absurd h (by decide)) (fun _ => ?_)
                  refine R_iload (pc := 99) dX3_chained_99 rfl ?_
                  refine R_iconst (pc := 101) (v := 1) dX3_chained_101 (by decide) ?_
                  refine R_iload (pc := 102) dX3_chained_102 rfl ?_
                  refine R_ishl (pc := 104) dX3_chained_104 ?_
                  have r16 : inR (1 <<< ((nI j45) &&& 31)) 0 1048575 := shl20 hrg45
                  refine R_ior (pc := 105) dX3_chained_105 ?_
                  refine st_10_4_i_i (pc := 106) dX3_chained_106 ?_
                  refine R_iload (pc := 108) dX3_chained_108 rfl ?_
                  refine R_iconst (pc := 110) (v := 1) dX3_chained_110 (by decide) ?_
                  refine R_iload (pc := 111) dX3_chained_111 rfl ?_
                  refine R_ishl (pc := 113) dX3_chained_113 ?_
                  have r17 : inR (1 <<< ((nI j45) &&& 31)) 0 1048575 := shl20 hrg45
                  refine R_ior (pc := 114) dX3_chained_114 ?_
                  have r18 : inR (g5_45 ||| (1 <<< ((nI j45) &&& 31))) 0 1048575 := inR_or 20 (by decide) hg5_45 r17
                  refine st_10_5_i_i (pc := 115) dX3_chained_115 ?_
                  refine inc_10_8_1_i (pc := 117) dX3_chained_117 ?_
                  have r19 : inR ((nI j45) + 1) 1 20 := inR_add (show inR (nI j45) 0 19 from hrg45) (show inR 1 1 1 from (inR_self _)) (by decide) (by decide)
                  have e20 := ti_add (l := 1) (h := 20) (show inR (nI j45) 0 19 from hrg45) (show inR 1 1 1 from (inR_self _)) (by decide) (by decide)
                  refine R_goto (pc := 120) 45 dX3_chained_120 (by decide) ?_
                  rw [nI_1]
                  exact ih45 (j45 + 1) _ _ _ (by omega) (by omega) r18
                · skip
                  refine R_ifeq (pc := 96) 117 dX3_chained_96 (by decide) (fun _ => ?_) (fun h => absurd (by decide) h)
                  refine inc_10_8_1_i (pc := 117) dX3_chained_117 ?_
                  have r22 : inR ((nI j45) + 1) 1 20 := inR_add (show inR (nI j45) 0 19 from hrg45) (show inR 1 1 1 from (inR_self _)) (by decide) (by decide)
                  have e23 := ti_add (l := 1) (h := 20) (show inR (nI j45) 0 19 from hrg45) (show inR 1 1 1 from (inR_self _)) (by decide) (by decide)
                  refine R_goto (pc := 120) 45 dX3_chained_120 (by decide) ?_
                  rw [nI_1]
                  exact ih45 (j45 + 1) _ _ _ (by omega) (by omega) hg5_45
              · skip
                refine R_aload_n (pc := 74) dX3_chained_74 rfl rfl ?_
                refine R_iload (pc := 75) dX3_chained_75 rfl ?_
                refine R_iload (pc := 77) dX3_chained_77 rfl ?_
                refine k_X3_109 (pc := 79) (gx_X3_isMatch _ _ _ hI r5 hrg45) rfl (c_12 _) (by decide) (Nat.le_refl _) (Nat.le_refl _) (Nat.le_of_ble_eq_true rfl) dX3_chained_79 (fun x w2 h => ?_)
                rcases h with ⟨rfl, rfl | rfl⟩
                · skip
                  refine R_ifeq (pc := 82) 117 dX3_chained_82 (by decide) (fun h => absurd h (by decide)) (fun _ => ?_)
                  refine R_goto (pc := 85) 99 dX3_chained_85 (by decide) ?_
                  refine R_iload (pc := 99) dX3_chained_99 rfl ?_
                  refine R_iconst (pc := 101) (v := 1) dX3_chained_101 (by decide) ?_
                  refine R_iload (pc := 102) dX3_chained_102 rfl ?_
                  refine R_ishl (pc := 104) dX3_chained_104 ?_
                  have r26 : inR (1 <<< ((nI j45) &&& 31)) 0 1048575 := shl20 hrg45
                  refine R_ior (pc := 105) dX3_chained_105 ?_
                  refine st_10_4_i_i (pc := 106) dX3_chained_106 ?_
                  refine R_iload (pc := 108) dX3_chained_108 rfl ?_
                  refine R_iconst (pc := 110) (v := 1) dX3_chained_110 (by decide) ?_
                  refine R_iload (pc := 111) dX3_chained_111 rfl ?_
                  refine R_ishl (pc := 113) dX3_chained_113 ?_
                  have r27 : inR (1 <<< ((nI j45) &&& 31)) 0 1048575 := shl20 hrg45
                  refine R_ior (pc := 114) dX3_chained_114 ?_
                  have r28 : inR (g5_45 ||| (1 <<< ((nI j45) &&& 31))) 0 1048575 := inR_or 20 (by decide) hg5_45 r27
                  refine st_10_5_i_i (pc := 115) dX3_chained_115 ?_
                  refine inc_10_8_1_i (pc := 117) dX3_chained_117 ?_
                  have r29 : inR ((nI j45) + 1) 1 20 := inR_add (show inR (nI j45) 0 19 from hrg45) (show inR 1 1 1 from (inR_self _)) (by decide) (by decide)
                  have e30 := ti_add (l := 1) (h := 20) (show inR (nI j45) 0 19 from hrg45) (show inR 1 1 1 from (inR_self _)) (by decide) (by decide)
                  refine R_goto (pc := 120) 45 dX3_chained_120 (by decide) ?_
                  rw [nI_1]
                  exact ih45 (j45 + 1) _ _ _ (by omega) (by omega) r28
                · skip
                  refine R_ifeq (pc := 82) 117 dX3_chained_82 (by decide) (fun _ => ?_) (fun h => absurd (by decide) h)
                  refine inc_10_8_1_i (pc := 117) dX3_chained_117 ?_
                  have r32 : inR ((nI j45) + 1) 1 20 := inR_add (show inR (nI j45) 0 19 from hrg45) (show inR 1 1 1 from (inR_self _)) (by decide) (by decide)
                  have e33 := ti_add (l := 1) (h := 20) (show inR (nI j45) 0 19 from hrg45) (show inR 1 1 1 from (inR_self _)) (by decide) (by decide)
                  refine R_goto (pc := 120) 45 dX3_chained_120 (by decide) ?_
                  rw [nI_1]
                  exact ih45 (j45 + 1) _ _ _ (by omega) (by omega) hg5_45
            · skip
              refine st_10_9_i_i (pc := 63) dX3_chained_63 ?_
              refine R_iload (pc := 65) dX3_chained_65 rfl ?_
              refine R_ifeq (pc := 67) 117 dX3_chained_67 (by decide) (fun _ => ?_) (fun h => absurd (by decide) h)
              refine inc_10_8_1_i (pc := 117) dX3_chained_117 ?_
              have r35 : inR ((nI j45) + 1) 1 20 := inR_add (show inR (nI j45) 0 19 from hrg45) (show inR 1 1 1 from (inR_self _)) (by decide) (by decide)
              have e36 := ti_add (l := 1) (h := 20) (show inR (nI j45) 0 19 from hrg45) (show inR 1 1 1 from (inR_self _)) (by decide) (by decide)
              refine R_goto (pc := 120) 45 dX3_chained_120 (by decide) ?_
              rw [nI_1]
              exact ih45 (j45 + 1) _ _ _ (by omega) (by omega) hg5_45
        exact HL45 20 0 _ _ _ (by omega) (by omega) r7
  exact HL12 20 0 _ _ _ _ _ (by omega) (by omega) r1
theorem dX3_sameNegative_0 : decode cX3_sameNegative 0 = .ok (.aload_n 0, 1) := by decide +kernel
theorem dX3_sameNegative_1 : decode cX3_sameNegative 1 = .ok (.iload_n 1, 1) := by decide +kernel
theorem dX3_sameNegative_2 : decode cX3_sameNegative 2 = .ok (.iload_n 2, 1) := by decide +kernel
theorem dX3_sameNegative_3 : decode cX3_sameNegative 3 = .ok (.iconst 0, 1) := by decide +kernel
theorem dX3_sameNegative_4 : decode cX3_sameNegative 4 = .ok (.invokevirtual 98, 3) := by decide +kernel
theorem dX3_sameNegative_7 : decode cX3_sameNegative 7 = .ok (.ireturn, 1) := by decide +kernel
set_option maxRecDepth 100000 in
set_option maxHeartbeats 40000000 in
theorem gx_X3_sameNegative {G : vG} {l : Launch} (σ : Sg) (c b : Int32) (hI : Inv σ) (hc : inR c 0 19) : Sp G l yX3_sameNegative cX3_sameNegative 3 (some .int) 3 0 0 [.ref 12, .int c, .int b] (WW σ) (QI (fun x w2 => w2 = WW σ)) := by
  refine Sp_of_R [(some (.ref 12)), (some (.int c)), (some (.int b))] [] rfl (by simp) rfl (Nat.le_of_ble_eq_true rfl) ?_
  refine R_aload_n (pc := 0) dX3_sameNegative_0 rfl rfl ?_
  refine R_iload_n (pc := 1) dX3_sameNegative_1 rfl rfl ?_
  refine R_iload_n (pc := 2) dX3_sameNegative_2 rfl rfl ?_
  refine R_iconst (pc := 3) (v := 0) dX3_sameNegative_3 (by decide) ?_
  refine k_X3_98 (pc := 4) (gx_X3_chained _ _ _ _ hI hc) rfl (c_12 _) (by decide) (Nat.le_refl _) (Nat.le_refl _) (Nat.le_of_ble_eq_true rfl) dX3_sameNegative_4 (fun y1 w2 h => ?_)
  subst h
  exact R_iret (pc := 7) dX3_sameNegative_7 rfl rfl (Nat.zero_le _) (Nat.zero_le _) ⟨_, rfl, rfl⟩
theorem dX3_sameCard_0 : decode cX3_sameCard 0 = .ok (.aload_n 0, 1) := by decide +kernel
theorem dX3_sameCard_1 : decode cX3_sameCard 1 = .ok (.iload_n 1, 1) := by decide +kernel
theorem dX3_sameCard_2 : decode cX3_sameCard 2 = .ok (.iload_n 2, 1) := by decide +kernel
theorem dX3_sameCard_3 : decode cX3_sameCard 3 = .ok (.iconst 1, 1) := by decide +kernel
theorem dX3_sameCard_4 : decode cX3_sameCard 4 = .ok (.invokevirtual 98, 3) := by decide +kernel
theorem dX3_sameCard_7 : decode cX3_sameCard 7 = .ok (.ireturn, 1) := by decide +kernel
set_option maxRecDepth 100000 in
set_option maxHeartbeats 40000000 in
theorem gx_X3_sameCard {G : vG} {l : Launch} (σ : Sg) (c b : Int32) (hI : Inv σ) (hc : inR c 0 19) : Sp G l yX3_sameCard cX3_sameCard 3 (some .int) 3 0 0 [.ref 12, .int c, .int b] (WW σ) (QI (fun x w2 => w2 = WW σ)) := by
  refine Sp_of_R [(some (.ref 12)), (some (.int c)), (some (.int b))] [] rfl (by simp) rfl (Nat.le_of_ble_eq_true rfl) ?_
  refine R_aload_n (pc := 0) dX3_sameCard_0 rfl rfl ?_
  refine R_iload_n (pc := 1) dX3_sameCard_1 rfl rfl ?_
  refine R_iload_n (pc := 2) dX3_sameCard_2 rfl rfl ?_
  refine R_iconst (pc := 3) (v := 1) dX3_sameCard_3 (by decide) ?_
  refine k_X3_98 (pc := 4) (gx_X3_chained _ _ _ _ hI hc) rfl (c_12 _) (by decide) (Nat.le_refl _) (Nat.le_refl _) (Nat.le_of_ble_eq_true rfl) dX3_sameCard_4 (fun y1 w2 h => ?_)
  subst h
  exact R_iret (pc := 7) dX3_sameCard_7 rfl rfl (Nat.zero_le _) (Nat.zero_le _) ⟨_, rfl, rfl⟩
theorem dX3_leastOfChains_0 : decode cX3_leastOfChains 0 = .ok (.iconst 0, 1) := by decide +kernel
theorem dX3_leastOfChains_1 : decode cX3_leastOfChains 1 = .ok (.istore_n 3, 1) := by decide +kernel
theorem dX3_leastOfChains_2 : decode cX3_leastOfChains 2 = .ok (.iload_n 1, 1) := by decide +kernel
theorem dX3_leastOfChains_3 : decode cX3_leastOfChains 3 = .ok (.istore 4, 2) := by decide +kernel
theorem dX3_leastOfChains_5 : decode cX3_leastOfChains 5 = .ok (.iconst 0, 1) := by decide +kernel
theorem dX3_leastOfChains_6 : decode cX3_leastOfChains 6 = .ok (.istore 5, 2) := by decide +kernel
theorem dX3_leastOfChains_8 : decode cX3_leastOfChains 8 = .ok (.iload 5, 2) := by decide +kernel
theorem dX3_leastOfChains_10 : decode cX3_leastOfChains 10 = .ok (.bipush 20, 2) := by decide +kernel
theorem dX3_leastOfChains_12 : decode cX3_leastOfChains 12 = .ok (.if_icmp .ge 42, 3) := by decide +kernel
theorem dX3_leastOfChains_15 : decode cX3_leastOfChains 15 = .ok (.iload 4, 2) := by decide +kernel
theorem dX3_leastOfChains_17 : decode cX3_leastOfChains 17 = .ok (.iload 5, 2) := by decide +kernel
theorem dX3_leastOfChains_19 : decode cX3_leastOfChains 19 = .ok (.invokestatic 106, 3) := by decide +kernel
theorem dX3_leastOfChains_22 : decode cX3_leastOfChains 22 = .ok (.ifCond .eq 26, 3) := by decide +kernel
theorem dX3_leastOfChains_25 : decode cX3_leastOfChains 25 = .ok (.iload 4, 2) := by decide +kernel
theorem dX3_leastOfChains_27 : decode cX3_leastOfChains 27 = .ok (.aload_n 0, 1) := by decide +kernel
theorem dX3_leastOfChains_28 : decode cX3_leastOfChains 28 = .ok (.iload 5, 2) := by decide +kernel
theorem dX3_leastOfChains_30 : decode cX3_leastOfChains 30 = .ok (.iload 4, 2) := by decide +kernel
theorem dX3_leastOfChains_32 : decode cX3_leastOfChains 32 = .ok (.iload_n 2, 1) := by decide +kernel
theorem dX3_leastOfChains_33 : decode cX3_leastOfChains 33 = .ok (.invokevirtual 98, 3) := by decide +kernel
theorem dX3_leastOfChains_36 : decode cX3_leastOfChains 36 = .ok (.iconst (-1), 1) := by decide +kernel
theorem dX3_leastOfChains_37 : decode cX3_leastOfChains 37 = .ok (.ixor, 1) := by decide +kernel
theorem dX3_leastOfChains_38 : decode cX3_leastOfChains 38 = .ok (.iand, 1) := by decide +kernel
theorem dX3_leastOfChains_39 : decode cX3_leastOfChains 39 = .ok (.istore 4, 2) := by decide +kernel
theorem dX3_leastOfChains_41 : decode cX3_leastOfChains 41 = .ok (.iload_n 3, 1) := by decide +kernel
theorem dX3_leastOfChains_42 : decode cX3_leastOfChains 42 = .ok (.iconst 1, 1) := by decide +kernel
theorem dX3_leastOfChains_43 : decode cX3_leastOfChains 43 = .ok (.iload 5, 2) := by decide +kernel
theorem dX3_leastOfChains_45 : decode cX3_leastOfChains 45 = .ok (.ishl, 1) := by decide +kernel
theorem dX3_leastOfChains_46 : decode cX3_leastOfChains 46 = .ok (.ior, 1) := by decide +kernel
theorem dX3_leastOfChains_47 : decode cX3_leastOfChains 47 = .ok (.istore_n 3, 1) := by decide +kernel
theorem dX3_leastOfChains_48 : decode cX3_leastOfChains 48 = .ok (.iinc 5 1, 3) := by decide +kernel
theorem dX3_leastOfChains_51 : decode cX3_leastOfChains 51 = .ok (.goto (-43), 3) := by decide +kernel
theorem dX3_leastOfChains_54 : decode cX3_leastOfChains 54 = .ok (.iload_n 3, 1) := by decide +kernel
theorem dX3_leastOfChains_55 : decode cX3_leastOfChains 55 = .ok (.ireturn, 1) := by decide +kernel
set_option maxRecDepth 100000 in
set_option maxHeartbeats 40000000 in
theorem gx_X3_leastOfChains {G : vG} {l : Launch} (σ : Sg) (b m : Int32) (hI : Inv σ) : Sp G l yX3_leastOfChains cX3_leastOfChains 6 (some .int) 3 0 0 [.ref 12, .int b, .int m] (WW σ) (QI (fun x w2 => w2 = WW σ)) := by
  refine Sp_of_R [(some (.ref 12)), (some (.int b)), (some (.int m)), none, none, none] [none, none, none] rfl (by simp) rfl (Nat.le_of_ble_eq_true rfl) ?_
  refine R_iconst (pc := 0) (v := 0) dX3_leastOfChains_0 (by decide) ?_
  refine st_6_3_i_i (pc := 1) dX3_leastOfChains_1 ?_
  refine R_iload_n (pc := 2) dX3_leastOfChains_2 rfl rfl ?_
  refine st_6_4_i_i (pc := 3) dX3_leastOfChains_3 ?_
  refine R_iconst (pc := 5) (v := 0) dX3_leastOfChains_5 (by decide) ?_
  refine st_6_5_i_i (pc := 6) dX3_leastOfChains_6 ?_
  have HL8 : ∀ (q j8 : Nat) (g3_8 : Int32) (g4_8 : Int32), j8 + q = 20 → 0 ≤ j8 → R G l yX3_leastOfChains cX3_leastOfChains 6 (some .int) 3 0 0 (QI (fun x w2 => w2 = WW σ)) 8 [(some (.ref 12)), (some (.int b)), (some (.int m)), (some (.int g3_8)), (some (.int g4_8)), (some (.int (nI j8)))] [] (WW σ) 0 0 := by
    intro q
    induction q with
    | zero =>
      intro j8 g3_8 g4_8 hj hs8
      obtain rfl : j8 = 20 := by omega
      refine R_iload (pc := 8) dX3_leastOfChains_8 rfl ?_
      refine R_bipush (pc := 10) (v := 20) dX3_leastOfChains_10 (by decide) ?_
      refine R_icge (pc := 12) 54 dX3_leastOfChains_12 (by decide) (fun _ => ?_) (fun h => absurd (by decide) h)
      refine R_iload_n (pc := 54) dX3_leastOfChains_54 rfl rfl ?_
      exact R_iret (pc := 55) dX3_leastOfChains_55 rfl rfl (Nat.zero_le _) (Nat.zero_le _) ⟨_, rfl, rfl⟩
    | succ q ih8 =>
      intro j8 g3_8 g4_8 hj hs8
      have hrg8 : inR (nI j8) 0 19 := inR_ix hs8 (show j8 < 20 by omega) (by decide) (by decide) (by decide)
      have hlt8 : j8 < 20 := by omega
      refine R_iload (pc := 8) dX3_leastOfChains_8 rfl ?_
      refine R_bipush (pc := 10) (v := 20) dX3_leastOfChains_10 (by decide) ?_
      refine R_icge (pc := 12) 54 dX3_leastOfChains_12 (by decide) (fun h => False.elim (by have q1 := ti_le h; have q2 := ti_in (show inR (nI j8) 0 19 from hrg8); have q3 := ti_in (show inR 20 20 20 from (inR_self _)); have z0 : (0 : Int32).toInt = 0 := (by decide);  have z1 : (19 : Int32).toInt = 19 := (by decide);  have z2 : (20 : Int32).toInt = 20 := (by decide); omega)) (fun _ => ?_)
      refine R_iload (pc := 15) dX3_leastOfChains_15 rfl ?_
      refine R_iload (pc := 17) dX3_leastOfChains_17 rfl ?_
      refine k_X3_106 (pc := 19) (sp_X8_has _ _ _) rfl (by decide) (Nat.le_refl _) (Nat.le_refl _) (Nat.le_of_ble_eq_true rfl) dX3_leastOfChains_19 (fun x w2 h => ?_)
      rcases h with ⟨rfl, ⟨-, rfl⟩ | ⟨-, rfl⟩⟩
      · skip
        refine R_ifeq (pc := 22) 48 dX3_leastOfChains_22 (by decide) (fun h => absurd h (by decide)) (fun _ => ?_)
        refine R_iload (pc := 25) dX3_leastOfChains_25 rfl ?_
        refine R_aload_n (pc := 27) dX3_leastOfChains_27 rfl rfl ?_
        refine R_iload (pc := 28) dX3_leastOfChains_28 rfl ?_
        refine R_iload (pc := 30) dX3_leastOfChains_30 rfl ?_
        refine R_iload_n (pc := 32) dX3_leastOfChains_32 rfl rfl ?_
        refine k_X3_98 (pc := 33) (gx_X3_chained _ _ _ _ hI hrg8) rfl (c_12 _) (by decide) (Nat.le_refl _) (Nat.le_refl _) (Nat.le_of_ble_eq_true rfl) dX3_leastOfChains_33 (fun y4 w2 h => ?_)
        subst h
        refine R_iconst (pc := 36) (v := (-1)) dX3_leastOfChains_36 (by decide) ?_
        refine R_ixor (pc := 37) dX3_leastOfChains_37 ?_
        refine R_iand (pc := 38) dX3_leastOfChains_38 ?_
        refine st_6_4_i_i (pc := 39) dX3_leastOfChains_39 ?_
        refine R_iload_n (pc := 41) dX3_leastOfChains_41 rfl rfl ?_
        refine R_iconst (pc := 42) (v := 1) dX3_leastOfChains_42 (by decide) ?_
        refine R_iload (pc := 43) dX3_leastOfChains_43 rfl ?_
        refine R_ishl (pc := 45) dX3_leastOfChains_45 ?_
        have r5 : inR (1 <<< ((nI j8) &&& 31)) 0 1048575 := shl20 hrg8
        refine R_ior (pc := 46) dX3_leastOfChains_46 ?_
        refine st_6_3_i_i (pc := 47) dX3_leastOfChains_47 ?_
        refine inc_6_5_1_i (pc := 48) dX3_leastOfChains_48 ?_
        have r6 : inR ((nI j8) + 1) 1 20 := inR_add (show inR (nI j8) 0 19 from hrg8) (show inR 1 1 1 from (inR_self _)) (by decide) (by decide)
        have e7 := ti_add (l := 1) (h := 20) (show inR (nI j8) 0 19 from hrg8) (show inR 1 1 1 from (inR_self _)) (by decide) (by decide)
        refine R_goto (pc := 51) 8 dX3_leastOfChains_51 (by decide) ?_
        rw [nI_1]
        exact ih8 (j8 + 1) _ _ (by omega) (by omega)
      · skip
        refine R_ifeq (pc := 22) 48 dX3_leastOfChains_22 (by decide) (fun _ => ?_) (fun h => absurd (by decide) h)
        refine inc_6_5_1_i (pc := 48) dX3_leastOfChains_48 ?_
        have r9 : inR ((nI j8) + 1) 1 20 := inR_add (show inR (nI j8) 0 19 from hrg8) (show inR 1 1 1 from (inR_self _)) (by decide) (by decide)
        have e10 := ti_add (l := 1) (h := 20) (show inR (nI j8) 0 19 from hrg8) (show inR 1 1 1 from (inR_self _)) (by decide) (by decide)
        refine R_goto (pc := 51) 8 dX3_leastOfChains_51 (by decide) ?_
        rw [nI_1]
        exact ih8 (j8 + 1) _ _ (by omega) (by omega)
  exact HL8 20 0 _ _ (by omega) (by omega)
theorem dX3_negatives_0 : decode cX3_negatives 0 = .ok (.aload_n 0, 1) := by decide +kernel
theorem dX3_negatives_1 : decode cX3_negatives 1 = .ok (.iload_n 1, 1) := by decide +kernel
theorem dX3_negatives_2 : decode cX3_negatives 2 = .ok (.iconst 0, 1) := by decide +kernel
theorem dX3_negatives_3 : decode cX3_negatives 3 = .ok (.invokevirtual 112, 3) := by decide +kernel
theorem dX3_negatives_6 : decode cX3_negatives 6 = .ok (.ireturn, 1) := by decide +kernel
set_option maxRecDepth 100000 in
set_option maxHeartbeats 40000000 in
theorem gx_X3_negatives {G : vG} {l : Launch} (σ : Sg) (b : Int32) (hI : Inv σ) : Sp G l yX3_negatives cX3_negatives 2 (some .int) 4 0 0 [.ref 12, .int b] (WW σ) (QI (fun x w2 => w2 = WW σ)) := by
  refine Sp_of_R [(some (.ref 12)), (some (.int b))] [] rfl (by simp) rfl (Nat.le_of_ble_eq_true rfl) ?_
  refine R_aload_n (pc := 0) dX3_negatives_0 rfl rfl ?_
  refine R_iload_n (pc := 1) dX3_negatives_1 rfl rfl ?_
  refine R_iconst (pc := 2) (v := 0) dX3_negatives_2 (by decide) ?_
  refine k_X3_112 (pc := 3) (gx_X3_leastOfChains _ _ _ hI) rfl (c_12 _) (by decide) (Nat.le_refl _) (Nat.le_refl _) (Nat.le_of_ble_eq_true rfl) dX3_negatives_3 (fun y1 w2 h => ?_)
  subst h
  exact R_iret (pc := 6) dX3_negatives_6 rfl rfl (Nat.zero_le _) (Nat.zero_le _) ⟨_, rfl, rfl⟩
theorem dX3_differentCards_0 : decode cX3_differentCards 0 = .ok (.aload_n 0, 1) := by decide +kernel
theorem dX3_differentCards_1 : decode cX3_differentCards 1 = .ok (.iload_n 1, 1) := by decide +kernel
theorem dX3_differentCards_2 : decode cX3_differentCards 2 = .ok (.iconst 1, 1) := by decide +kernel
theorem dX3_differentCards_3 : decode cX3_differentCards 3 = .ok (.invokevirtual 112, 3) := by decide +kernel
theorem dX3_differentCards_6 : decode cX3_differentCards 6 = .ok (.ireturn, 1) := by decide +kernel
set_option maxRecDepth 100000 in
set_option maxHeartbeats 40000000 in
theorem gx_X3_differentCards {G : vG} {l : Launch} (σ : Sg) (b : Int32) (hI : Inv σ) : Sp G l yX3_differentCards cX3_differentCards 2 (some .int) 4 0 0 [.ref 12, .int b] (WW σ) (QI (fun x w2 => w2 = WW σ)) := by
  refine Sp_of_R [(some (.ref 12)), (some (.int b))] [] rfl (by simp) rfl (Nat.le_of_ble_eq_true rfl) ?_
  refine R_aload_n (pc := 0) dX3_differentCards_0 rfl rfl ?_
  refine R_iload_n (pc := 1) dX3_differentCards_1 rfl rfl ?_
  refine R_iconst (pc := 2) (v := 1) dX3_differentCards_2 (by decide) ?_
  refine k_X3_112 (pc := 3) (gx_X3_leastOfChains _ _ _ hI) rfl (c_12 _) (by decide) (Nat.le_refl _) (Nat.le_refl _) (Nat.le_of_ble_eq_true rfl) dX3_differentCards_3 (fun y1 w2 h => ?_)
  subst h
  exact R_iret (pc := 6) dX3_differentCards_6 rfl rfl (Nat.zero_le _) (Nat.zero_le _) ⟨_, rfl, rfl⟩
theorem dX3_rivals_0 : decode cX3_rivals 0 = .ok (.iconst 0, 1) := by decide +kernel
theorem dX3_rivals_1 : decode cX3_rivals 1 = .ok (.istore_n 3, 1) := by decide +kernel
theorem dX3_rivals_2 : decode cX3_rivals 2 = .ok (.iconst 0, 1) := by decide +kernel
theorem dX3_rivals_3 : decode cX3_rivals 3 = .ok (.istore 4, 2) := by decide +kernel
theorem dX3_rivals_5 : decode cX3_rivals 5 = .ok (.iconst 0, 1) := by decide +kernel
theorem dX3_rivals_6 : decode cX3_rivals 6 = .ok (.istore 5, 2) := by decide +kernel
theorem dX3_rivals_8 : decode cX3_rivals 8 = .ok (.iload 5, 2) := by decide +kernel
theorem dX3_rivals_10 : decode cX3_rivals 10 = .ok (.bipush 20, 2) := by decide +kernel
theorem dX3_rivals_12 : decode cX3_rivals 12 = .ok (.if_icmp .ge 62, 3) := by decide +kernel
theorem dX3_rivals_15 : decode cX3_rivals 15 = .ok (.iload_n 2, 1) := by decide +kernel
theorem dX3_rivals_16 : decode cX3_rivals 16 = .ok (.iload 5, 2) := by decide +kernel
theorem dX3_rivals_18 : decode cX3_rivals 18 = .ok (.invokestatic 106, 3) := by decide +kernel
theorem dX3_rivals_21 : decode cX3_rivals 21 = .ok (.ifCond .eq 47, 3) := by decide +kernel
theorem dX3_rivals_24 : decode cX3_rivals 24 = .ok (.iload 5, 2) := by decide +kernel
theorem dX3_rivals_26 : decode cX3_rivals 26 = .ok (.iload_n 1, 1) := by decide +kernel
theorem dX3_rivals_27 : decode cX3_rivals 27 = .ok (.if_icmp .eq 41, 3) := by decide +kernel
theorem dX3_rivals_30 : decode cX3_rivals 30 = .ok (.aload_n 0, 1) := by decide +kernel
theorem dX3_rivals_31 : decode cX3_rivals 31 = .ok (.iload_n 1, 1) := by decide +kernel
theorem dX3_rivals_32 : decode cX3_rivals 32 = .ok (.iload 5, 2) := by decide +kernel
theorem dX3_rivals_34 : decode cX3_rivals 34 = .ok (.invokevirtual 109, 3) := by decide +kernel
theorem dX3_rivals_37 : decode cX3_rivals 37 = .ok (.ifCond .eq 31, 3) := by decide +kernel
theorem dX3_rivals_40 : decode cX3_rivals 40 = .ok (.iconst 1, 1) := by decide +kernel
theorem dX3_rivals_41 : decode cX3_rivals 41 = .ok (.aload_n 0, 1) := by decide +kernel
theorem dX3_rivals_42 : decode cX3_rivals 42 = .ok (.getfield 27, 3) := by decide +kernel
theorem dX3_rivals_45 : decode cX3_rivals 45 = .ok (.getfield 85, 3) := by decide +kernel
theorem dX3_rivals_48 : decode cX3_rivals 48 = .ok (.iload 5, 2) := by decide +kernel
theorem dX3_rivals_50 : decode cX3_rivals 50 = .ok (.iaload, 1) := by decide +kernel
theorem dX3_rivals_51 : decode cX3_rivals 51 = .ok (.ishl, 1) := by decide +kernel
theorem dX3_rivals_52 : decode cX3_rivals 52 = .ok (.istore 6, 2) := by decide +kernel
theorem dX3_rivals_54 : decode cX3_rivals 54 = .ok (.iload 4, 2) := by decide +kernel
theorem dX3_rivals_56 : decode cX3_rivals 56 = .ok (.iload_n 3, 1) := by decide +kernel
theorem dX3_rivals_57 : decode cX3_rivals 57 = .ok (.iload 6, 2) := by decide +kernel
theorem dX3_rivals_59 : decode cX3_rivals 59 = .ok (.iand, 1) := by decide +kernel
theorem dX3_rivals_60 : decode cX3_rivals 60 = .ok (.ior, 1) := by decide +kernel
theorem dX3_rivals_61 : decode cX3_rivals 61 = .ok (.istore 4, 2) := by decide +kernel
theorem dX3_rivals_63 : decode cX3_rivals 63 = .ok (.iload_n 3, 1) := by decide +kernel
theorem dX3_rivals_64 : decode cX3_rivals 64 = .ok (.iload 6, 2) := by decide +kernel
theorem dX3_rivals_66 : decode cX3_rivals 66 = .ok (.ior, 1) := by decide +kernel
theorem dX3_rivals_67 : decode cX3_rivals 67 = .ok (.istore_n 3, 1) := by decide +kernel
theorem dX3_rivals_68 : decode cX3_rivals 68 = .ok (.iinc 5 1, 3) := by decide +kernel
theorem dX3_rivals_71 : decode cX3_rivals 71 = .ok (.goto (-63), 3) := by decide +kernel
theorem dX3_rivals_74 : decode cX3_rivals 74 = .ok (.iload 4, 2) := by decide +kernel
theorem dX3_rivals_76 : decode cX3_rivals 76 = .ok (.invokestatic 116, 3) := by decide +kernel
theorem dX3_rivals_79 : decode cX3_rivals 79 = .ok (.ireturn, 1) := by decide +kernel
