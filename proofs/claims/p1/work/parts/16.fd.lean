
def σN : Sg := uI (uI (uI σF 5602 0) 5603 (-1)) 5604 (-1)
theorem upd_same (i : Nat) : upd (fun _ => (0 : Int32)) i 0 = fun _ => 0 := by
  funext j
  unfold upd
  by_cases h : j = i
  · simp [h]
  · simp [h]
set_option maxRecDepth 100000 in
theorem keep57 (i : Nat) : (WW σF).set 57 (.inl (2, 100, .inl (upd (σF.2.2.1 57) i 0))) = WW σF := by
  rw [show upd (σF.2.2.1 57) i 0 = fun _ => 0 from upd_same i]
  rfl
theorem sw_of (a : Int32) (M : Nat) (hM : M < 100) : (∃ j : Nat, j ≤ M ∧ a = nI j) ∨ (a.toInt < 0 ∨ (M : Int) < a.toInt) := by
  by_cases h : a.toInt < 0
  · exact Or.inr (Or.inl h)
  · by_cases h2 : (M : Int) < a.toInt
    · exact Or.inr (Or.inr h2)
    · refine Or.inl ⟨a.toInt.toNat, by omega, ?_⟩
      apply Int32.toInt_inj.mp
      rw [nI_toInt (by omega)]
      omega
theorem sw4 (a : Int32) : a = 0 ∨ a = 1 ∨ a = 2 ∨ a = 3 ∨ a = 4 ∨ (a.toInt < 0 ∨ 4 < a.toInt) := by
  rcases sw_of a 4 (by decide) with ⟨j, hj, rfl⟩ | h
  · rcases (show j = 0 ∨ j = 1 ∨ j = 2 ∨ j = 3 ∨ j = 4 by omega) with rfl | rfl | rfl | rfl | rfl <;> decide
  · exact Or.inr (Or.inr (Or.inr (Or.inr (Or.inr h))))
theorem sw7 (a : Int32) : a = 0 ∨ a = 1 ∨ a = 2 ∨ a = 3 ∨ a = 4 ∨ a = 5 ∨ a = 6 ∨ a = 7 ∨ (a.toInt < 0 ∨ 7 < a.toInt) := by
  rcases sw_of a 7 (by decide) with ⟨j, hj, rfl⟩ | h
  · rcases (show j = 0 ∨ j = 1 ∨ j = 2 ∨ j = 3 ∨ j = 4 ∨ j = 5 ∨ j = 6 ∨ j = 7 by omega) with rfl | rfl | rfl | rfl | rfl | rfl | rfl | rfl <;> decide
  · exact Or.inr (Or.inr (Or.inr (Or.inr (Or.inr (Or.inr (Or.inr (Or.inr h)))))))
theorem sw_out {a M : Int32} (h : a.toInt < 0 ∨ M.toInt < a.toInt) : inB a 0 M = false := by
  unfold inB
  have h0 : (0 : Int32).toInt = 0 := by decide
  rcases h with h | h
  · have : a < 0 := by rw [Int32.lt_iff_toInt_lt, h0]; exact h
    simp [this]
  · have : M < a := by rw [Int32.lt_iff_toInt_lt]; exact h
    simp [this]
theorem lm_eq (b : Int32) (h : inR b 0 63) : inB b 0 64 = true := by
  apply inB_t
  refine ⟨h.1, fun h2 => h.2 ?_⟩
  rw [Int32.lt_iff_toInt_lt] at h2 ⊢
  have : (63 : Int32).toInt = 63 := by decide
  have : (64 : Int32).toInt = 64 := by decide
  omega
theorem lm_no (b : Int32) (h : ¬ inR b 0 63) (h2 : ¬ b = 64) : inB b 0 64 = false := by
  apply inB_f
  intro h3
  refine h ⟨h3.1, fun h4 => h3.2 ?_⟩
  have e1 : (63 : Int32).toInt = 63 := by decide
  have e2 : (64 : Int32).toInt = 64 := by decide
  rw [Int32.lt_iff_toInt_lt] at h4 ⊢
  have : b.toInt ≠ 64 := fun h5 => h2 (Int32.toInt_inj.mp (by rw [h5, e2]))
  omega

theorem dX8_set_0 : decode cX8_set 0 = .ok (.iload_n 1, 1) := by decide +kernel
theorem dX8_set_1 : decode cX8_set 1 = .ok (.ifCond .ne 32, 3) := by decide +kernel
theorem dX8_set_4 : decode cX8_set 4 = .ok (.iload_n 2, 1) := by decide +kernel
theorem dX8_set_5 : decode cX8_set 5 = .ok (.iconst 0, 1) := by decide +kernel
theorem dX8_set_6 : decode cX8_set 6 = .ok (.bipush 8, 2) := by decide +kernel
theorem dX8_set_8 : decode cX8_set 8 = .ok (.invokestatic 72, 3) := by decide +kernel
theorem dX8_set_11 : decode cX8_set 11 = .ok (.ifCond .eq 22, 3) := by decide +kernel
theorem dX8_set_14 : decode cX8_set 14 = .ok (.aload_n 0, 1) := by decide +kernel
theorem dX8_set_15 : decode cX8_set 15 = .ok (.getfield 21, 3) := by decide +kernel
theorem dX8_set_18 : decode cX8_set 18 = .ok (.getfield 112, 3) := by decide +kernel
theorem dX8_set_21 : decode cX8_set 21 = .ok (.istore_n 3, 1) := by decide +kernel
theorem dX8_set_22 : decode cX8_set 22 = .ok (.aload_n 0, 1) := by decide +kernel
theorem dX8_set_23 : decode cX8_set 23 = .ok (.getfield 21, 3) := by decide +kernel
theorem dX8_set_26 : decode cX8_set 26 = .ok (.iload_n 2, 1) := by decide +kernel
theorem dX8_set_27 : decode cX8_set 27 = .ok (.putfield 112, 3) := by decide +kernel
theorem dX8_set_30 : decode cX8_set 30 = .ok (.goto 70, 3) := by decide +kernel
theorem dX8_set_33 : decode cX8_set 33 = .ok (.iload_n 1, 1) := by decide +kernel
theorem dX8_set_34 : decode cX8_set 34 = .ok (.iconst 1, 1) := by decide +kernel
theorem dX8_set_35 : decode cX8_set 35 = .ok (.if_icmp .ne 33, 3) := by decide +kernel
theorem dX8_set_38 : decode cX8_set 38 = .ok (.iload_n 2, 1) := by decide +kernel
theorem dX8_set_39 : decode cX8_set 39 = .ok (.iconst 0, 1) := by decide +kernel
theorem dX8_set_40 : decode cX8_set 40 = .ok (.sipush 999, 3) := by decide +kernel
theorem dX8_set_43 : decode cX8_set 43 = .ok (.invokestatic 72, 3) := by decide +kernel
theorem dX8_set_46 : decode cX8_set 46 = .ok (.ifCond .eq 22, 3) := by decide +kernel
theorem dX8_set_49 : decode cX8_set 49 = .ok (.aload_n 0, 1) := by decide +kernel
theorem dX8_set_50 : decode cX8_set 50 = .ok (.getfield 10, 3) := by decide +kernel
theorem dX8_set_53 : decode cX8_set 53 = .ok (.getfield 115, 3) := by decide +kernel
theorem dX8_set_56 : decode cX8_set 56 = .ok (.istore_n 3, 1) := by decide +kernel
theorem dX8_set_57 : decode cX8_set 57 = .ok (.aload_n 0, 1) := by decide +kernel
theorem dX8_set_58 : decode cX8_set 58 = .ok (.getfield 10, 3) := by decide +kernel
theorem dX8_set_61 : decode cX8_set 61 = .ok (.iload_n 2, 1) := by decide +kernel
theorem dX8_set_62 : decode cX8_set 62 = .ok (.putfield 115, 3) := by decide +kernel
theorem dX8_set_65 : decode cX8_set 65 = .ok (.goto 35, 3) := by decide +kernel
theorem dX8_set_68 : decode cX8_set 68 = .ok (.iload_n 1, 1) := by decide +kernel
theorem dX8_set_69 : decode cX8_set 69 = .ok (.iconst 2, 1) := by decide +kernel
theorem dX8_set_70 : decode cX8_set 70 = .ok (.if_icmp .ne 27, 3) := by decide +kernel
theorem dX8_set_73 : decode cX8_set 73 = .ok (.iload_n 2, 1) := by decide +kernel
theorem dX8_set_74 : decode cX8_set 74 = .ok (.iconst 1, 1) := by decide +kernel
theorem dX8_set_75 : decode cX8_set 75 = .ok (.sipush 10000, 3) := by decide +kernel
theorem dX8_set_78 : decode cX8_set 78 = .ok (.invokestatic 72, 3) := by decide +kernel
theorem dX8_set_81 : decode cX8_set 81 = .ok (.ifCond .eq 16, 3) := by decide +kernel
theorem dX8_set_84 : decode cX8_set 84 = .ok (.aload_n 0, 1) := by decide +kernel
theorem dX8_set_85 : decode cX8_set 85 = .ok (.getfield 68, 3) := by decide +kernel
theorem dX8_set_88 : decode cX8_set 88 = .ok (.istore_n 3, 1) := by decide +kernel
theorem dX8_set_89 : decode cX8_set 89 = .ok (.aload_n 0, 1) := by decide +kernel
theorem dX8_set_90 : decode cX8_set 90 = .ok (.iload_n 2, 1) := by decide +kernel
theorem dX8_set_91 : decode cX8_set 91 = .ok (.putfield 68, 3) := by decide +kernel
theorem dX8_set_94 : decode cX8_set 94 = .ok (.goto 6, 3) := by decide +kernel
theorem dX8_set_97 : decode cX8_set 97 = .ok (.bipush (-3), 2) := by decide +kernel
theorem dX8_set_99 : decode cX8_set 99 = .ok (.istore_n 3, 1) := by decide +kernel
theorem dX8_set_100 : decode cX8_set 100 = .ok (.iload_n 3, 1) := by decide +kernel
theorem dX8_set_101 : decode cX8_set 101 = .ok (.ireturn, 1) := by decide +kernel
set_option maxRecDepth 100000 in
set_option maxHeartbeats 40000000 in
theorem fp_set {G : vG} {l : Launch} (a v : Int32) : Sp G l yX8_set cX8_set 4 (some .int) 1 0 0 [.ref 0, .int a, .int v] (WW σF) (QI (fun x w2 => x = an_set a v ∧ ∃ τ, w2 = WW (mx τ))) := by
  refine Sp_of_R [(some (.ref 0)), (some (.int a)), (some (.int v)), none] [none] rfl (by simp) rfl (Nat.le_of_ble_eq_true rfl) ?_
  refine R_iload_n (pc := 0) dX8_set_0 rfl rfl ?_
  refine R_ifne (pc := 1) 33 dX8_set_1 (by decide) (fun b1_1 => ?_) (fun b1_1 => ?_)
  · skip
    refine R_iload_n (pc := 33) dX8_set_33 rfl rfl ?_
    refine R_iconst (pc := 34) (v := 1) dX8_set_34 (by decide) ?_
    refine R_icne (pc := 35) 68 dX8_set_35 (by decide) (fun b35_2 => ?_) (fun b35_2 => ?_)
    · skip
      refine R_iload_n (pc := 68) dX8_set_68 rfl rfl ?_
      refine R_iconst (pc := 69) (v := 2) dX8_set_69 (by decide) ?_
      refine R_icne (pc := 70) 97 dX8_set_70 (by decide) (fun b70_3 => ?_) (fun b70_3 => ?_)
      · skip
        refine R_bipush (pc := 97) (v := (-3)) dX8_set_97 (by decide) ?_
        refine st_4_3_i_i (pc := 99) dX8_set_99 ?_
        refine R_iload_n (pc := 100) dX8_set_100 rfl rfl ?_
        exact R_iret (pc := 101) dX8_set_101 rfl rfl (Nat.zero_le _) (Nat.zero_le _) ⟨_, rfl, (by first | exact absurd (b1_1.symm.trans b35_2) (by decide) | exact absurd (b1_1.symm.trans b70_3) (by decide) | exact absurd (b35_2.symm.trans b1_1) (by decide) | exact absurd (b35_2.symm.trans b70_3) (by decide) | exact absurd (b70_3.symm.trans b1_1) (by decide) | exact absurd (b70_3.symm.trans b35_2) (by decide) | (simp only [an_set, cond_true, cond_false, Bool.and_true, Bool.true_and, Bool.and_false, Bool.false_and]; done) | (simp only [an_set, cond_true, cond_false, Bool.and_true, Bool.true_and, Bool.and_false, Bool.false_and, b1_1, b35_2, b70_3, if_true, if_false, ite_self]; done) | (simp only [an_set, cond_true, cond_false, Bool.and_true, Bool.true_and, Bool.and_false, Bool.false_and] <;> simp [b1_1, b35_2, b70_3]; done) | (simp only [an_set, cond_true, cond_false, Bool.and_true, Bool.true_and, Bool.and_false, Bool.false_and] <;> decide)), mxI _ rfl⟩
      · skip
        refine R_iload_n (pc := 73) dX8_set_73 rfl rfl ?_
        refine R_iconst (pc := 74) (v := 1) dX8_set_74 (by decide) ?_
        refine R_sipush (pc := 75) (v := 10000) dX8_set_75 (by decide) ?_
        refine k_X8_72 (pc := 78) (sp_X8_isWithin _ _ _ _) rfl (by decide) (Nat.le_refl _) (Nat.le_refl _) (by decide) dX8_set_78 (fun x w2 h => ?_)
        rcases h with ⟨rfl, ⟨h4, rfl⟩ | ⟨h4, rfl⟩⟩
        · skip
          refine R_ifeq (pc := 81) 97 dX8_set_81 (by decide) (fun h => absurd h (by decide)) (fun _ => ?_)
          refine R_aload_n (pc := 84) dX8_set_84 rfl rfl ?_
          refine g_X8_68 (pc := 85) (v := .int 100) rfl dX8_set_85 (c_0 _) rfl ?_
          refine st_4_3_i_i (pc := 88) dX8_set_88 ?_
          refine R_aload_n (pc := 89) dX8_set_89 rfl rfl ?_
          refine R_iload_n (pc := 90) dX8_set_90 rfl rfl ?_
          refine p_X8_68 (pc := 91) rfl dX8_set_91 (c_0 _) (by decide) rfl rfl (s_0_9 _ _) ?_
          refine R_goto (pc := 94) 100 dX8_set_94 (by decide) ?_
          refine R_iload_n (pc := 100) dX8_set_100 rfl rfl ?_
          exact R_iret (pc := 101) dX8_set_101 rfl rfl (Nat.zero_le _) (Nat.zero_le _) ⟨_, rfl, (by first | exact absurd (b1_1.symm.trans b35_2) (by decide) | exact absurd (b1_1.symm.trans b70_3) (by decide) | exact absurd (b35_2.symm.trans b1_1) (by decide) | exact absurd (b35_2.symm.trans b70_3) (by decide) | exact absurd (b70_3.symm.trans b1_1) (by decide) | exact absurd (b70_3.symm.trans b35_2) (by decide) | (simp only [an_set, inB_t h4, cond_true, cond_false, Bool.and_true, Bool.true_and, Bool.and_false, Bool.false_and]; done) | (simp only [an_set, inB_t h4, cond_true, cond_false, Bool.and_true, Bool.true_and, Bool.and_false, Bool.false_and, b1_1, b35_2, b70_3, if_true, if_false, ite_self]; done) | (simp only [an_set, inB_t h4, cond_true, cond_false, Bool.and_true, Bool.true_and, Bool.and_false, Bool.false_and] <;> simp [b1_1, b35_2, b70_3]; done) | (simp only [an_set, inB_t h4, cond_true, cond_false, Bool.and_true, Bool.true_and, Bool.and_false, Bool.false_and] <;> decide)), mxI _ rfl⟩
        · skip
          refine R_ifeq (pc := 81) 97 dX8_set_81 (by decide) (fun _ => ?_) (fun h => absurd (by decide) h)
          refine R_bipush (pc := 97) (v := (-3)) dX8_set_97 (by decide) ?_
          refine st_4_3_i_i (pc := 99) dX8_set_99 ?_
          refine R_iload_n (pc := 100) dX8_set_100 rfl rfl ?_
          exact R_iret (pc := 101) dX8_set_101 rfl rfl (Nat.zero_le _) (Nat.zero_le _) ⟨_, rfl, (by first | exact absurd (b1_1.symm.trans b35_2) (by decide) | exact absurd (b1_1.symm.trans b70_3) (by decide) | exact absurd (b35_2.symm.trans b1_1) (by decide) | exact absurd (b35_2.symm.trans b70_3) (by decide) | exact absurd (b70_3.symm.trans b1_1) (by decide) | exact absurd (b70_3.symm.trans b35_2) (by decide) | (simp only [an_set, inB_f h4, cond_true, cond_false, Bool.and_true, Bool.true_and, Bool.and_false, Bool.false_and]; done) | (simp only [an_set, inB_f h4, cond_true, cond_false, Bool.and_true, Bool.true_and, Bool.and_false, Bool.false_and, b1_1, b35_2, b70_3, if_true, if_false, ite_self]; done) | (simp only [an_set, inB_f h4, cond_true, cond_false, Bool.and_true, Bool.true_and, Bool.and_false, Bool.false_and] <;> simp [b1_1, b35_2, b70_3]; done) | (simp only [an_set, inB_f h4, cond_true, cond_false, Bool.and_true, Bool.true_and, Bool.and_false, Bool.false_and] <;> decide)), mxI _ rfl⟩
    · skip
      refine R_iload_n (pc := 38) dX8_set_38 rfl rfl ?_
      refine R_iconst (pc := 39) (v := 0) dX8_set_39 (by decide) ?_
      refine R_sipush (pc := 40) (v := 999) dX8_set_40 (by decide) ?_
      refine k_X8_72 (pc := 43) (sp_X8_isWithin _ _ _ _) rfl (by decide) (Nat.le_refl _) (Nat.le_refl _) (by decide) dX8_set_43 (fun x w2 h => ?_)
      rcases h with ⟨rfl, ⟨h7, rfl⟩ | ⟨h7, rfl⟩⟩
      · skip
        refine R_ifeq (pc := 46) 68 dX8_set_46 (by decide) (fun h => absurd h (by decide)) (fun _ => ?_)
        refine R_aload_n (pc := 49) dX8_set_49 rfl rfl ?_
        refine g_X8_10 (pc := 50) (v := .ref 1) rfl dX8_set_50 (c_0 _) rfl ?_
        refine g_X8_115 (pc := 53) (v := .int 999) rfl dX8_set_53 (c_1 _) rfl ?_
        refine st_4_3_i_i (pc := 56) dX8_set_56 ?_
        refine R_aload_n (pc := 57) dX8_set_57 rfl rfl ?_
        refine g_X8_10 (pc := 58) (v := .ref 1) rfl dX8_set_58 (c_0 _) rfl ?_
        refine R_iload_n (pc := 61) dX8_set_61 rfl rfl ?_
        refine p_X8_115 (pc := 62) rfl dX8_set_62 (c_1 _) (by decide) rfl rfl (s_1_12 _ _) ?_
        refine R_goto (pc := 65) 100 dX8_set_65 (by decide) ?_
        refine R_iload_n (pc := 100) dX8_set_100 rfl rfl ?_
        exact R_iret (pc := 101) dX8_set_101 rfl rfl (Nat.zero_le _) (Nat.zero_le _) ⟨_, rfl, (by first | exact absurd (b1_1.symm.trans b35_2) (by decide) | exact absurd (b35_2.symm.trans b1_1) (by decide) | (simp only [an_set, inB_t h7, cond_true, cond_false, Bool.and_true, Bool.true_and, Bool.and_false, Bool.false_and]; done) | (simp only [an_set, inB_t h7, cond_true, cond_false, Bool.and_true, Bool.true_and, Bool.and_false, Bool.false_and, b1_1, b35_2, if_true, if_false, ite_self]; done) | (simp only [an_set, inB_t h7, cond_true, cond_false, Bool.and_true, Bool.true_and, Bool.and_false, Bool.false_and] <;> simp [b1_1, b35_2]; done) | (simp only [an_set, inB_t h7, cond_true, cond_false, Bool.and_true, Bool.true_and, Bool.and_false, Bool.false_and] <;> decide)), mxI _ rfl⟩
      · skip
        refine R_ifeq (pc := 46) 68 dX8_set_46 (by decide) (fun _ => ?_) (fun h => absurd (by decide) h)
        refine R_iload_n (pc := 68) dX8_set_68 rfl rfl ?_
        refine R_iconst (pc := 69) (v := 2) dX8_set_69 (by decide) ?_
        refine R_icne (pc := 70) 97 dX8_set_70 (by decide) (fun b70_10 => ?_) (fun b70_10 => ?_)
        · skip
          refine R_bipush (pc := 97) (v := (-3)) dX8_set_97 (by decide) ?_
          refine st_4_3_i_i (pc := 99) dX8_set_99 ?_
          refine R_iload_n (pc := 100) dX8_set_100 rfl rfl ?_
          exact R_iret (pc := 101) dX8_set_101 rfl rfl (Nat.zero_le _) (Nat.zero_le _) ⟨_, rfl, (by first | exact absurd (b1_1.symm.trans b35_2) (by decide) | exact absurd (b1_1.symm.trans b70_10) (by decide) | exact absurd (b35_2.symm.trans b1_1) (by decide) | exact absurd (b35_2.symm.trans b70_10) (by decide) | exact absurd (b70_10.symm.trans b1_1) (by decide) | exact absurd (b70_10.symm.trans b35_2) (by decide) | (simp only [an_set, inB_f h7, cond_true, cond_false, Bool.and_true, Bool.true_and, Bool.and_false, Bool.false_and]; done) | (simp only [an_set, inB_f h7, cond_true, cond_false, Bool.and_true, Bool.true_and, Bool.and_false, Bool.false_and, b1_1, b35_2, b70_10, if_true, if_false, ite_self]; done) | (simp only [an_set, inB_f h7, cond_true, cond_false, Bool.and_true, Bool.true_and, Bool.and_false, Bool.false_and] <;> simp [b1_1, b35_2, b70_10]; done) | (simp only [an_set, inB_f h7, cond_true, cond_false, Bool.and_true, Bool.true_and, Bool.and_false, Bool.false_and] <;> decide)), mxI _ rfl⟩
        · skip
          refine R_iload_n (pc := 73) dX8_set_73 rfl rfl ?_
          refine R_iconst (pc := 74) (v := 1) dX8_set_74 (by decide) ?_
          refine R_sipush (pc := 75) (v := 10000) dX8_set_75 (by decide) ?_
          refine k_X8_72 (pc := 78) (sp_X8_isWithin _ _ _ _) rfl (by decide) (Nat.le_refl _) (Nat.le_refl _) (by decide) dX8_set_78 (fun x w2 h => ?_)
          rcases h with ⟨rfl, ⟨h11, rfl⟩ | ⟨h11, rfl⟩⟩
          · skip
            refine R_ifeq (pc := 81) 97 dX8_set_81 (by decide) (fun h => absurd h (by decide)) (fun _ => ?_)
            refine R_aload_n (pc := 84) dX8_set_84 rfl rfl ?_
            refine g_X8_68 (pc := 85) (v := .int 100) rfl dX8_set_85 (c_0 _) rfl ?_
            refine st_4_3_i_i (pc := 88) dX8_set_88 ?_
            refine R_aload_n (pc := 89) dX8_set_89 rfl rfl ?_
            refine R_iload_n (pc := 90) dX8_set_90 rfl rfl ?_
            refine p_X8_68 (pc := 91) rfl dX8_set_91 (c_0 _) (by decide) rfl rfl (s_0_9 _ _) ?_
            refine R_goto (pc := 94) 100 dX8_set_94 (by decide) ?_
            refine R_iload_n (pc := 100) dX8_set_100 rfl rfl ?_
            exact R_iret (pc := 101) dX8_set_101 rfl rfl (Nat.zero_le _) (Nat.zero_le _) ⟨_, rfl, (by first | exact absurd (b1_1.symm.trans b35_2) (by decide) | exact absurd (b1_1.symm.trans b70_10) (by decide) | exact absurd (b35_2.symm.trans b1_1) (by decide) | exact absurd (b35_2.symm.trans b70_10) (by decide) | exact absurd (b70_10.symm.trans b1_1) (by decide) | exact absurd (b70_10.symm.trans b35_2) (by decide) | (simp only [an_set, inB_f h7, inB_t h11, cond_true, cond_false, Bool.and_true, Bool.true_and, Bool.and_false, Bool.false_and]; done) | (simp only [an_set, inB_f h7, inB_t h11, cond_true, cond_false, Bool.and_true, Bool.true_and, Bool.and_false, Bool.false_and, b1_1, b35_2, b70_10, if_true, if_false, ite_self]; done) | (simp only [an_set, inB_f h7, inB_t h11, cond_true, cond_false, Bool.and_true, Bool.true_and, Bool.and_false, Bool.false_and] <;> simp [b1_1, b35_2, b70_10]; done) | (simp only [an_set, inB_f h7, inB_t h11, cond_true, cond_false, Bool.and_true, Bool.true_and, Bool.and_false, Bool.false_and] <;> decide)), mxI _ rfl⟩
          · skip
            refine R_ifeq (pc := 81) 97 dX8_set_81 (by decide) (fun _ => ?_) (fun h => absurd (by decide) h)
            refine R_bipush (pc := 97) (v := (-3)) dX8_set_97 (by decide) ?_
            refine st_4_3_i_i (pc := 99) dX8_set_99 ?_
            refine R_iload_n (pc := 100) dX8_set_100 rfl rfl ?_
            exact R_iret (pc := 101) dX8_set_101 rfl rfl (Nat.zero_le _) (Nat.zero_le _) ⟨_, rfl, (by first | exact absurd (b1_1.symm.trans b35_2) (by decide) | exact absurd (b1_1.symm.trans b70_10) (by decide) | exact absurd (b35_2.symm.trans b1_1) (by decide) | exact absurd (b35_2.symm.trans b70_10) (by decide) | exact absurd (b70_10.symm.trans b1_1) (by decide) | exact absurd (b70_10.symm.trans b35_2) (by decide) | (simp only [an_set, inB_f h7, inB_f h11, cond_true, cond_false, Bool.and_true, Bool.true_and, Bool.and_false, Bool.false_and]; done) | (simp only [an_set, inB_f h7, inB_f h11, cond_true, cond_false, Bool.and_true, Bool.true_and, Bool.and_false, Bool.false_and, b1_1, b35_2, b70_10, if_true, if_false, ite_self]; done) | (simp only [an_set, inB_f h7, inB_f h11, cond_true, cond_false, Bool.and_true, Bool.true_and, Bool.and_false, Bool.false_and] <;> simp [b1_1, b35_2, b70_10]; done) | (simp only [an_set, inB_f h7, inB_f h11, cond_true, cond_false, Bool.and_true, Bool.true_and, Bool.and_false, Bool.false_and] <;> decide)), mxI _ rfl⟩
  · skip
    refine R_iload_n (pc := 4) dX8_set_4 rfl rfl ?_
    refine R_iconst (pc := 5) (v := 0) dX8_set_5 (by decide) ?_
    refine R_bipush (pc := 6) (v := 8) dX8_set_6 (by decide) ?_
    refine k_X8_72 (pc := 8) (sp_X8_isWithin _ _ _ _) rfl (by decide) (Nat.le_refl _) (Nat.le_refl _) (by decide) dX8_set_8 (fun x w2 h => ?_)
    rcases h with ⟨rfl, ⟨h14, rfl⟩ | ⟨h14, rfl⟩⟩
    · skip
      refine R_ifeq (pc := 11) 33 dX8_set_11 (by decide) (fun h => absurd h (by decide)) (fun _ => ?_)
      refine R_aload_n (pc := 14) dX8_set_14 rfl rfl ?_
      refine g_X8_21 (pc := 15) (v := .ref 12) rfl dX8_set_15 (c_0 _) rfl ?_
      refine g_X8_112 (pc := 18) (v := .int 2) rfl dX8_set_18 (c_12 _) rfl ?_
      refine st_4_3_i_i (pc := 21) dX8_set_21 ?_
      refine R_aload_n (pc := 22) dX8_set_22 rfl rfl ?_
      refine g_X8_21 (pc := 23) (v := .ref 12) rfl dX8_set_23 (c_0 _) rfl ?_
      refine R_iload_n (pc := 26) dX8_set_26 rfl rfl ?_
      refine p_X8_112 (pc := 27) rfl dX8_set_27 (c_12 _) (by decide) rfl rfl (s_12_4 _ _) ?_
      refine R_goto (pc := 30) 100 dX8_set_30 (by decide) ?_
      refine R_iload_n (pc := 100) dX8_set_100 rfl rfl ?_
      exact R_iret (pc := 101) dX8_set_101 rfl rfl (Nat.zero_le _) (Nat.zero_le _) ⟨_, rfl, (by first | (simp only [an_set, inB_t h14, cond_true, cond_false, Bool.and_true, Bool.true_and, Bool.and_false, Bool.false_and]; done) | (simp only [an_set, inB_t h14, cond_true, cond_false, Bool.and_true, Bool.true_and, Bool.and_false, Bool.false_and, b1_1, if_true, if_false, ite_self]; done) | (simp only [an_set, inB_t h14, cond_true, cond_false, Bool.and_true, Bool.true_and, Bool.and_false, Bool.false_and] <;> simp [b1_1]; done) | (simp only [an_set, inB_t h14, cond_true, cond_false, Bool.and_true, Bool.true_and, Bool.and_false, Bool.false_and] <;> decide)), mxI _ rfl⟩
    · skip
      refine R_ifeq (pc := 11) 33 dX8_set_11 (by decide) (fun _ => ?_) (fun h => absurd (by decide) h)
      refine R_iload_n (pc := 33) dX8_set_33 rfl rfl ?_
      refine R_iconst (pc := 34) (v := 1) dX8_set_34 (by decide) ?_
      refine R_icne (pc := 35) 68 dX8_set_35 (by decide) (fun b35_17 => ?_) (fun b35_17 => ?_)
      · skip
        refine R_iload_n (pc := 68) dX8_set_68 rfl rfl ?_
        refine R_iconst (pc := 69) (v := 2) dX8_set_69 (by decide) ?_
        refine R_icne (pc := 70) 97 dX8_set_70 (by decide) (fun b70_18 => ?_) (fun b70_18 => ?_)
        · skip
          refine R_bipush (pc := 97) (v := (-3)) dX8_set_97 (by decide) ?_
          refine st_4_3_i_i (pc := 99) dX8_set_99 ?_
          refine R_iload_n (pc := 100) dX8_set_100 rfl rfl ?_
          exact R_iret (pc := 101) dX8_set_101 rfl rfl (Nat.zero_le _) (Nat.zero_le _) ⟨_, rfl, (by first | exact absurd (b1_1.symm.trans b35_17) (by decide) | exact absurd (b1_1.symm.trans b70_18) (by decide) | exact absurd (b35_17.symm.trans b1_1) (by decide) | exact absurd (b35_17.symm.trans b70_18) (by decide) | exact absurd (b70_18.symm.trans b1_1) (by decide) | exact absurd (b70_18.symm.trans b35_17) (by decide) | (simp only [an_set, inB_f h14, cond_true, cond_false, Bool.and_true, Bool.true_and, Bool.and_false, Bool.false_and]; done) | (simp only [an_set, inB_f h14, cond_true, cond_false, Bool.and_true, Bool.true_and, Bool.and_false, Bool.false_and, b1_1, b35_17, b70_18, if_true, if_false, ite_self]; done) | (simp only [an_set, inB_f h14, cond_true, cond_false, Bool.and_true, Bool.true_and, Bool.and_false, Bool.false_and] <;> simp [b1_1, b35_17, b70_18]; done) | (simp only [an_set, inB_f h14, cond_true, cond_false, Bool.and_true, Bool.true_and, Bool.and_false, Bool.false_and] <;> decide)), mxI _ rfl⟩
        · skip
          refine R_iload_n (pc := 73) dX8_set_73 rfl rfl ?_
          refine R_iconst (pc := 74) (v := 1) dX8_set_74 (by decide) ?_
          refine R_sipush (pc := 75) (v := 10000) dX8_set_75 (by decide) ?_
          refine k_X8_72 (pc := 78) (sp_X8_isWithin _ _ _ _) rfl (by decide) (Nat.le_refl _) (Nat.le_refl _) (by decide) dX8_set_78 (fun x w2 h => ?_)
          rcases h with ⟨rfl, ⟨h19, rfl⟩ | ⟨h19, rfl⟩⟩
          · skip
            refine R_ifeq (pc := 81) 97 dX8_set_81 (by decide) (fun h => absurd h (by decide)) (fun _ => ?_)
            refine R_aload_n (pc := 84) dX8_set_84 rfl rfl ?_
            refine g_X8_68 (pc := 85) (v := .int 100) rfl dX8_set_85 (c_0 _) rfl ?_
            refine st_4_3_i_i (pc := 88) dX8_set_88 ?_
            refine R_aload_n (pc := 89) dX8_set_89 rfl rfl ?_
            refine R_iload_n (pc := 90) dX8_set_90 rfl rfl ?_
            refine p_X8_68 (pc := 91) rfl dX8_set_91 (c_0 _) (by decide) rfl rfl (s_0_9 _ _) ?_
            refine R_goto (pc := 94) 100 dX8_set_94 (by decide) ?_
            refine R_iload_n (pc := 100) dX8_set_100 rfl rfl ?_
            exact R_iret (pc := 101) dX8_set_101 rfl rfl (Nat.zero_le _) (Nat.zero_le _) ⟨_, rfl, (by first | exact absurd (b1_1.symm.trans b35_17) (by decide) | exact absurd (b1_1.symm.trans b70_18) (by decide) | exact absurd (b35_17.symm.trans b1_1) (by decide) | exact absurd (b35_17.symm.trans b70_18) (by decide) | exact absurd (b70_18.symm.trans b1_1) (by decide) | exact absurd (b70_18.symm.trans b35_17) (by decide) | (simp only [an_set, inB_f h14, inB_t h19, cond_true, cond_false, Bool.and_true, Bool.true_and, Bool.and_false, Bool.false_and]; done) | (simp only [an_set, inB_f h14, inB_t h19, cond_true, cond_false, Bool.and_true, Bool.true_and, Bool.and_false, Bool.false_and, b1_1, b35_17, b70_18, if_true, if_false, ite_self]; done) | (simp only [an_set, inB_f h14, inB_t h19, cond_true, cond_false, Bool.and_true, Bool.true_and, Bool.and_false, Bool.false_and] <;> simp [b1_1, b35_17, b70_18]; done) | (simp only [an_set, inB_f h14, inB_t h19, cond_true, cond_false, Bool.and_true, Bool.true_and, Bool.and_false, Bool.false_and] <;> decide)), mxI _ rfl⟩
          · skip
            refine R_ifeq (pc := 81) 97 dX8_set_81 (by decide) (fun _ => ?_) (fun h => absurd (by decide) h)
            refine R_bipush (pc := 97) (v := (-3)) dX8_set_97 (by decide) ?_
            refine st_4_3_i_i (pc := 99) dX8_set_99 ?_
            refine R_iload_n (pc := 100) dX8_set_100 rfl rfl ?_
            exact R_iret (pc := 101) dX8_set_101 rfl rfl (Nat.zero_le _) (Nat.zero_le _) ⟨_, rfl, (by first | exact absurd (b1_1.symm.trans b35_17) (by decide) | exact absurd (b1_1.symm.trans b70_18) (by decide) | exact absurd (b35_17.symm.trans b1_1) (by decide) | exact absurd (b35_17.symm.trans b70_18) (by decide) | exact absurd (b70_18.symm.trans b1_1) (by decide) | exact absurd (b70_18.symm.trans b35_17) (by decide) | (simp only [an_set, inB_f h14, inB_f h19, cond_true, cond_false, Bool.and_true, Bool.true_and, Bool.and_false, Bool.false_and]; done) | (simp only [an_set, inB_f h14, inB_f h19, cond_true, cond_false, Bool.and_true, Bool.true_and, Bool.and_false, Bool.false_and, b1_1, b35_17, b70_18, if_true, if_false, ite_self]; done) | (simp only [an_set, inB_f h14, inB_f h19, cond_true, cond_false, Bool.and_true, Bool.true_and, Bool.and_false, Bool.false_and] <;> simp [b1_1, b35_17, b70_18]; done) | (simp only [an_set, inB_f h14, inB_f h19, cond_true, cond_false, Bool.and_true, Bool.true_and, Bool.and_false, Bool.false_and] <;> decide)), mxI _ rfl⟩
      · skip
        refine R_iload_n (pc := 38) dX8_set_38 rfl rfl ?_
        refine R_iconst (pc := 39) (v := 0) dX8_set_39 (by decide) ?_
        refine R_sipush (pc := 40) (v := 999) dX8_set_40 (by decide) ?_
        refine k_X8_72 (pc := 43) (sp_X8_isWithin _ _ _ _) rfl (by decide) (Nat.le_refl _) (Nat.le_refl _) (by decide) dX8_set_43 (fun x w2 h => ?_)
        rcases h with ⟨rfl, ⟨h22, rfl⟩ | ⟨h22, rfl⟩⟩
        · skip
          refine R_ifeq (pc := 46) 68 dX8_set_46 (by decide) (fun h => absurd h (by decide)) (fun _ => ?_)
          refine R_aload_n (pc := 49) dX8_set_49 rfl rfl ?_
          refine g_X8_10 (pc := 50) (v := .ref 1) rfl dX8_set_50 (c_0 _) rfl ?_
          refine g_X8_115 (pc := 53) (v := .int 999) rfl dX8_set_53 (c_1 _) rfl ?_
          refine st_4_3_i_i (pc := 56) dX8_set_56 ?_
          refine R_aload_n (pc := 57) dX8_set_57 rfl rfl ?_
          refine g_X8_10 (pc := 58) (v := .ref 1) rfl dX8_set_58 (c_0 _) rfl ?_
          refine R_iload_n (pc := 61) dX8_set_61 rfl rfl ?_
          refine p_X8_115 (pc := 62) rfl dX8_set_62 (c_1 _) (by decide) rfl rfl (s_1_12 _ _) ?_
          refine R_goto (pc := 65) 100 dX8_set_65 (by decide) ?_
          refine R_iload_n (pc := 100) dX8_set_100 rfl rfl ?_
          exact R_iret (pc := 101) dX8_set_101 rfl rfl (Nat.zero_le _) (Nat.zero_le _) ⟨_, rfl, (by first | exact absurd (b1_1.symm.trans b35_17) (by decide) | exact absurd (b35_17.symm.trans b1_1) (by decide) | (simp only [an_set, inB_f h14, inB_t h22, cond_true, cond_false, Bool.and_true, Bool.true_and, Bool.and_false, Bool.false_and]; done) | (simp only [an_set, inB_f h14, inB_t h22, cond_true, cond_false, Bool.and_true, Bool.true_and, Bool.and_false, Bool.false_and, b1_1, b35_17, if_true, if_false, ite_self]; done) | (simp only [an_set, inB_f h14, inB_t h22, cond_true, cond_false, Bool.and_true, Bool.true_and, Bool.and_false, Bool.false_and] <;> simp [b1_1, b35_17]; done) | (simp only [an_set, inB_f h14, inB_t h22, cond_true, cond_false, Bool.and_true, Bool.true_and, Bool.and_false, Bool.false_and] <;> decide)), mxI _ rfl⟩
        · skip
          refine R_ifeq (pc := 46) 68 dX8_set_46 (by decide) (fun _ => ?_) (fun h => absurd (by decide) h)
          refine R_iload_n (pc := 68) dX8_set_68 rfl rfl ?_
          refine R_iconst (pc := 69) (v := 2) dX8_set_69 (by decide) ?_
          refine R_icne (pc := 70) 97 dX8_set_70 (by decide) (fun b70_25 => ?_) (fun b70_25 => ?_)
          · skip
            refine R_bipush (pc := 97) (v := (-3)) dX8_set_97 (by decide) ?_
            refine st_4_3_i_i (pc := 99) dX8_set_99 ?_
            refine R_iload_n (pc := 100) dX8_set_100 rfl rfl ?_
            exact R_iret (pc := 101) dX8_set_101 rfl rfl (Nat.zero_le _) (Nat.zero_le _) ⟨_, rfl, (by first | exact absurd (b1_1.symm.trans b35_17) (by decide) | exact absurd (b1_1.symm.trans b70_25) (by decide) | exact absurd (b35_17.symm.trans b1_1) (by decide) | exact absurd (b35_17.symm.trans b70_25) (by decide) | exact absurd (b70_25.symm.trans b1_1) (by decide) | exact absurd (b70_25.symm.trans b35_17) (by decide) | (simp only [an_set, inB_f h14, inB_f h22, cond_true, cond_false, Bool.and_true, Bool.true_and, Bool.and_false, Bool.false_and]; done) | (simp only [an_set, inB_f h14, inB_f h22, cond_true, cond_false, Bool.and_true, Bool.true_and, Bool.and_false, Bool.false_and, b1_1, b35_17, b70_25, if_true, if_false, ite_self]; done) | (simp only [an_set, inB_f h14, inB_f h22, cond_true, cond_false, Bool.and_true, Bool.true_and, Bool.and_false, Bool.false_and] <;> simp [b1_1, b35_17, b70_25]; done) | (simp only [an_set, inB_f h14, inB_f h22, cond_true, cond_false, Bool.and_true, Bool.true_and, Bool.and_false, Bool.false_and] <;> decide)), mxI _ rfl⟩
          · skip
            refine R_iload_n (pc := 73) dX8_set_73 rfl rfl ?_
            refine R_iconst (pc := 74) (v := 1) dX8_set_74 (by decide) ?_
            refine R_sipush (pc := 75) (v := 10000) dX8_set_75 (by decide) ?_
            refine k_X8_72 (pc := 78) (sp_X8_isWithin _ _ _ _) rfl (by decide) (Nat.le_refl _) (Nat.le_refl _) (by decide) dX8_set_78 (fun x w2 h => ?_)
            rcases h with ⟨rfl, ⟨h26, rfl⟩ | ⟨h26, rfl⟩⟩
            · skip
              refine R_ifeq (pc := 81) 97 dX8_set_81 (by decide) (fun h => absurd h (by decide)) (fun _ => ?_)
              refine R_aload_n (pc := 84) dX8_set_84 rfl rfl ?_
              refine g_X8_68 (pc := 85) (v := .int 100) rfl dX8_set_85 (c_0 _) rfl ?_
              refine st_4_3_i_i (pc := 88) dX8_set_88 ?_
              refine R_aload_n (pc := 89) dX8_set_89 rfl rfl ?_
              refine R_iload_n (pc := 90) dX8_set_90 rfl rfl ?_
              refine p_X8_68 (pc := 91) rfl dX8_set_91 (c_0 _) (by decide) rfl rfl (s_0_9 _ _) ?_
              refine R_goto (pc := 94) 100 dX8_set_94 (by decide) ?_
              refine R_iload_n (pc := 100) dX8_set_100 rfl rfl ?_
              exact R_iret (pc := 101) dX8_set_101 rfl rfl (Nat.zero_le _) (Nat.zero_le _) ⟨_, rfl, (by first | exact absurd (b1_1.symm.trans b35_17) (by decide) | exact absurd (b1_1.symm.trans b70_25) (by decide) | exact absurd (b35_17.symm.trans b1_1) (by decide) | exact absurd (b35_17.symm.trans b70_25) (by decide) | exact absurd (b70_25.symm.trans b1_1) (by decide) | exact absurd (b70_25.symm.trans b35_17) (by decide) | (simp only [an_set, inB_f h14, inB_f h22, inB_t h26, cond_true, cond_false, Bool.and_true, Bool.true_and, Bool.and_false, Bool.false_and]; done) | (simp only [an_set, inB_f h14, inB_f h22, inB_t h26, cond_true, cond_false, Bool.and_true, Bool.true_and, Bool.and_false, Bool.false_and, b1_1, b35_17, b70_25, if_true, if_false, ite_self]; done) | (simp only [an_set, inB_f h14, inB_f h22, inB_t h26, cond_true, cond_false, Bool.and_true, Bool.true_and, Bool.and_false, Bool.false_and] <;> simp [b1_1, b35_17, b70_25]; done) | (simp only [an_set, inB_f h14, inB_f h22, inB_t h26, cond_true, cond_false, Bool.and_true, Bool.true_and, Bool.and_false, Bool.false_and] <;> decide)), mxI _ rfl⟩
            · skip
              refine R_ifeq (pc := 81) 97 dX8_set_81 (by decide) (fun _ => ?_) (fun h => absurd (by decide) h)
              refine R_bipush (pc := 97) (v := (-3)) dX8_set_97 (by decide) ?_
              refine st_4_3_i_i (pc := 99) dX8_set_99 ?_
              refine R_iload_n (pc := 100) dX8_set_100 rfl rfl ?_
              exact R_iret (pc := 101) dX8_set_101 rfl rfl (Nat.zero_le _) (Nat.zero_le _) ⟨_, rfl, (by first | exact absurd (b1_1.symm.trans b35_17) (by decide) | exact absurd (b1_1.symm.trans b70_25) (by decide) | exact absurd (b35_17.symm.trans b1_1) (by decide) | exact absurd (b35_17.symm.trans b70_25) (by decide) | exact absurd (b70_25.symm.trans b1_1) (by decide) | exact absurd (b70_25.symm.trans b35_17) (by decide) | (simp only [an_set, inB_f h14, inB_f h22, inB_f h26, cond_true, cond_false, Bool.and_true, Bool.true_and, Bool.and_false, Bool.false_and]; done) | (simp only [an_set, inB_f h14, inB_f h22, inB_f h26, cond_true, cond_false, Bool.and_true, Bool.true_and, Bool.and_false, Bool.false_and, b1_1, b35_17, b70_25, if_true, if_false, ite_self]; done) | (simp only [an_set, inB_f h14, inB_f h22, inB_f h26, cond_true, cond_false, Bool.and_true, Bool.true_and, Bool.and_false, Bool.false_and] <;> simp [b1_1, b35_17, b70_25]; done) | (simp only [an_set, inB_f h14, inB_f h22, inB_f h26, cond_true, cond_false, Bool.and_true, Bool.true_and, Bool.and_false, Bool.false_and] <;> decide)), mxI _ rfl⟩
theorem dX8_feature_0 : decode cX8_feature 0 = .ok (.iload_n 1, 1) := by decide +kernel
theorem dX8_feature_1 : decode cX8_feature 1 = .ok (.iconst 0, 1) := by decide +kernel
theorem dX8_feature_2 : decode cX8_feature 2 = .ok (.bipush 7, 2) := by decide +kernel
theorem dX8_feature_4 : decode cX8_feature 4 = .ok (.invokestatic 72, 3) := by decide +kernel
theorem dX8_feature_7 : decode cX8_feature 7 = .ok (.ifCond .ne 6, 3) := by decide +kernel
theorem dX8_feature_10 : decode cX8_feature 10 = .ok (.bipush (-2), 2) := by decide +kernel
theorem dX8_feature_12 : decode cX8_feature 12 = .ok (.ireturn, 1) := by decide +kernel
theorem dX8_feature_13 : decode cX8_feature 13 = .ok (.iload_n 2, 1) := by decide +kernel
theorem dX8_feature_14 : decode cX8_feature 14 = .ok (.iload_n 3, 1) := by decide +kernel
theorem dX8_feature_15 : decode cX8_feature 15 = .ok (.invokestatic 215, 3) := by decide +kernel
theorem dX8_feature_18 : decode cX8_feature 18 = .ok (.ifCond .ne 6, 3) := by decide +kernel
theorem dX8_feature_21 : decode cX8_feature 21 = .ok (.bipush (-3), 2) := by decide +kernel
theorem dX8_feature_23 : decode cX8_feature 23 = .ok (.ireturn, 1) := by decide +kernel
theorem dX8_feature_24 : decode cX8_feature 24 = .ok (.aload_n 0, 1) := by decide +kernel
theorem dX8_feature_25 : decode cX8_feature 25 = .ok (.getfield 37, 3) := by decide +kernel
theorem dX8_feature_28 : decode cX8_feature 28 = .ok (.getfield 218, 3) := by decide +kernel
theorem dX8_feature_31 : decode cX8_feature 31 = .ok (.iload_n 1, 1) := by decide +kernel
theorem dX8_feature_32 : decode cX8_feature 32 = .ok (.iload_n 2, 1) := by decide +kernel
theorem dX8_feature_33 : decode cX8_feature 33 = .ok (.iastore, 1) := by decide +kernel
theorem dX8_feature_34 : decode cX8_feature 34 = .ok (.aload_n 0, 1) := by decide +kernel
theorem dX8_feature_35 : decode cX8_feature 35 = .ok (.getfield 37, 3) := by decide +kernel
theorem dX8_feature_38 : decode cX8_feature 38 = .ok (.getfield 221, 3) := by decide +kernel
theorem dX8_feature_41 : decode cX8_feature 41 = .ok (.iload_n 1, 1) := by decide +kernel
theorem dX8_feature_42 : decode cX8_feature 42 = .ok (.iload_n 3, 1) := by decide +kernel
theorem dX8_feature_43 : decode cX8_feature 43 = .ok (.iastore, 1) := by decide +kernel
theorem dX8_feature_44 : decode cX8_feature 44 = .ok (.iconst 1, 1) := by decide +kernel
theorem dX8_feature_45 : decode cX8_feature 45 = .ok (.ireturn, 1) := by decide +kernel
set_option maxRecDepth 100000 in
set_option maxHeartbeats 40000000 in
theorem fp_feature {G : vG} {l : Launch} (f a b : Int32) : Sp G l yX8_feature cX8_feature 4 (some .int) 2 0 0 [.ref 0, .int f, .int a, .int b] (WW σF) (QI (fun x w2 => x = an_feature f a b ∧ ∃ τ, w2 = WW (mx τ))) := by
  refine Sp_of_R [(some (.ref 0)), (some (.int f)), (some (.int a)), (some (.int b))] [] rfl (by simp) rfl (Nat.le_of_ble_eq_true rfl) ?_
  refine R_iload_n (pc := 0) dX8_feature_0 rfl rfl ?_
  refine R_iconst (pc := 1) (v := 0) dX8_feature_1 (by decide) ?_
  refine R_bipush (pc := 2) (v := 7) dX8_feature_2 (by decide) ?_
  refine k_X8_72 (pc := 4) (sp_X8_isWithin _ _ _ _) rfl (by decide) (Nat.le_refl _) (Nat.le_refl _) (by decide) dX8_feature_4 (fun x w2 h => ?_)
  rcases h with ⟨rfl, ⟨h1, rfl⟩ | ⟨h1, rfl⟩⟩
  · skip
    refine R_ifne (pc := 7) 13 dX8_feature_7 (by decide) (fun _ => ?_) (fun h => absurd h (by decide))
    refine R_iload_n (pc := 13) dX8_feature_13 rfl rfl ?_
    refine R_iload_n (pc := 14) dX8_feature_14 rfl rfl ?_
    refine k_X8_215 (pc := 15) (fx_X8_isSpan _ _ _) rfl (by decide) (Nat.le_refl _) (Nat.le_refl _) (by decide) dX8_feature_15 (fun x w2 h => ?_)
    rcases h with ⟨rfl, ⟨h3, rfl⟩ | ⟨h3, rfl⟩⟩
    · skip
      refine R_ifne (pc := 18) 24 dX8_feature_18 (by decide) (fun _ => ?_) (fun h => absurd h (by decide))
      refine R_aload_n (pc := 24) dX8_feature_24 rfl rfl ?_
      refine g_X8_37 (pc := 25) (v := .ref 58) rfl dX8_feature_25 (c_0 _) rfl ?_
      refine g_X8_218 (pc := 28) (v := .ref 59) rfl dX8_feature_28 (c_58 _) rfl ?_
      refine R_iload_n (pc := 31) dX8_feature_31 rfl rfl ?_
      refine R_iload_n (pc := 32) dX8_feature_32 rfl rfl ?_
      refine W_iastore (pc := 33) dX8_feature_33 (c_59 _) (vp_of_inR h1 (by decide)) (a_59 _ _) ?_
      refine R_aload_n (pc := 34) dX8_feature_34 rfl rfl ?_
      refine g_X8_37 (pc := 35) (v := .ref 58) rfl dX8_feature_35 (c_0 _) rfl ?_
      refine g_X8_221 (pc := 38) (v := .ref 60) rfl dX8_feature_38 (c_58 _) rfl ?_
      refine R_iload_n (pc := 41) dX8_feature_41 rfl rfl ?_
      refine R_iload_n (pc := 42) dX8_feature_42 rfl rfl ?_
      refine W_iastore (pc := 43) dX8_feature_43 (c_60 _) (vp_of_inR h1 (by decide)) (a_60 _ _) ?_
      refine R_iconst (pc := 44) (v := 1) dX8_feature_44 (by decide) ?_
      exact R_iret (pc := 45) dX8_feature_45 rfl rfl (Nat.zero_le _) (Nat.zero_le _) ⟨_, rfl, (by first | (simp only [an_feature, inB_t h1, h3, cond_true, cond_false, Bool.and_true, Bool.true_and, Bool.and_false, Bool.false_and]; done) | (simp only [an_feature, inB_t h1, h3, cond_true, cond_false, Bool.and_true, Bool.true_and, Bool.and_false, Bool.false_and, if_true, if_true, if_false, ite_self]; done) | (simp only [an_feature, inB_t h1, h3, cond_true, cond_false, Bool.and_true, Bool.true_and, Bool.and_false, Bool.false_and] <;> simp []; done) | (simp only [an_feature, inB_t h1, h3, cond_true, cond_false, Bool.and_true, Bool.true_and, Bool.and_false, Bool.false_and] <;> decide)), mxI _ rfl⟩
    · skip
      refine R_ifne (pc := 18) 24 dX8_feature_18 (by decide) (fun h => absurd (by decide) h) (fun _ => ?_)
      refine R_bipush (pc := 21) (v := (-3)) dX8_feature_21 (by decide) ?_
      exact R_iret (pc := 23) dX8_feature_23 rfl rfl (Nat.zero_le _) (Nat.zero_le _) ⟨_, rfl, (by first | (simp only [an_feature, inB_t h1, h3, cond_true, cond_false, Bool.and_true, Bool.true_and, Bool.and_false, Bool.false_and]; done) | (simp only [an_feature, inB_t h1, h3, cond_true, cond_false, Bool.and_true, Bool.true_and, Bool.and_false, Bool.false_and, if_true, if_true, if_false, ite_self]; done) | (simp only [an_feature, inB_t h1, h3, cond_true, cond_false, Bool.and_true, Bool.true_and, Bool.and_false, Bool.false_and] <;> simp []; done) | (simp only [an_feature, inB_t h1, h3, cond_true, cond_false, Bool.and_true, Bool.true_and, Bool.and_false, Bool.false_and] <;> decide)), mxI _ rfl⟩
  · skip
    refine R_ifne (pc := 7) 13 dX8_feature_7 (by decide) (fun h => absurd (by decide) h) (fun _ => ?_)
    refine R_bipush (pc := 10) (v := (-2)) dX8_feature_10 (by decide) ?_
    exact R_iret (pc := 12) dX8_feature_12 rfl rfl (Nat.zero_le _) (Nat.zero_le _) ⟨_, rfl, (by first | (simp only [an_feature, inB_f h1, cond_true, cond_false, Bool.and_true, Bool.true_and, Bool.and_false, Bool.false_and]; done) | (simp only [an_feature, inB_f h1, cond_true, cond_false, Bool.and_true, Bool.true_and, Bool.and_false, Bool.false_and, if_true, if_true, if_false, ite_self]; done) | (simp only [an_feature, inB_f h1, cond_true, cond_false, Bool.and_true, Bool.true_and, Bool.and_false, Bool.false_and] <;> simp []; done) | (simp only [an_feature, inB_f h1, cond_true, cond_false, Bool.and_true, Bool.true_and, Bool.and_false, Bool.false_and] <;> decide)), mxI _ rfl⟩
theorem dX8_back_0 : decode cX8_back 0 = .ok (.iload_n 1, 1) := by decide +kernel
theorem dX8_back_1 : decode cX8_back 1 = .ok (.iconst 0, 1) := by decide +kernel
theorem dX8_back_2 : decode cX8_back 2 = .ok (.iconst 4, 1) := by decide +kernel
theorem dX8_back_3 : decode cX8_back 3 = .ok (.invokestatic 72, 3) := by decide +kernel
theorem dX8_back_6 : decode cX8_back 6 = .ok (.ifCond .ne 6, 3) := by decide +kernel
theorem dX8_back_9 : decode cX8_back 9 = .ok (.bipush (-2), 2) := by decide +kernel
theorem dX8_back_11 : decode cX8_back 11 = .ok (.ireturn, 1) := by decide +kernel
theorem dX8_back_12 : decode cX8_back 12 = .ok (.iload_n 2, 1) := by decide +kernel
theorem dX8_back_13 : decode cX8_back 13 = .ok (.iload_n 3, 1) := by decide +kernel
theorem dX8_back_14 : decode cX8_back 14 = .ok (.invokestatic 215, 3) := by decide +kernel
theorem dX8_back_17 : decode cX8_back 17 = .ok (.ifCond .ne 6, 3) := by decide +kernel
theorem dX8_back_20 : decode cX8_back 20 = .ok (.bipush (-3), 2) := by decide +kernel
theorem dX8_back_22 : decode cX8_back 22 = .ok (.ireturn, 1) := by decide +kernel
theorem dX8_back_23 : decode cX8_back 23 = .ok (.aload_n 0, 1) := by decide +kernel
theorem dX8_back_24 : decode cX8_back 24 = .ok (.getfield 37, 3) := by decide +kernel
theorem dX8_back_27 : decode cX8_back 27 = .ok (.getfield 227, 3) := by decide +kernel
theorem dX8_back_30 : decode cX8_back 30 = .ok (.iload_n 1, 1) := by decide +kernel
theorem dX8_back_31 : decode cX8_back 31 = .ok (.iload_n 2, 1) := by decide +kernel
theorem dX8_back_32 : decode cX8_back 32 = .ok (.iastore, 1) := by decide +kernel
theorem dX8_back_33 : decode cX8_back 33 = .ok (.aload_n 0, 1) := by decide +kernel
theorem dX8_back_34 : decode cX8_back 34 = .ok (.getfield 37, 3) := by decide +kernel
theorem dX8_back_37 : decode cX8_back 37 = .ok (.getfield 230, 3) := by decide +kernel
theorem dX8_back_40 : decode cX8_back 40 = .ok (.iload_n 1, 1) := by decide +kernel
theorem dX8_back_41 : decode cX8_back 41 = .ok (.iload_n 3, 1) := by decide +kernel
theorem dX8_back_42 : decode cX8_back 42 = .ok (.iastore, 1) := by decide +kernel
theorem dX8_back_43 : decode cX8_back 43 = .ok (.iconst 1, 1) := by decide +kernel
theorem dX8_back_44 : decode cX8_back 44 = .ok (.ireturn, 1) := by decide +kernel
set_option maxRecDepth 100000 in
set_option maxHeartbeats 40000000 in
theorem fp_back {G : vG} {l : Launch} (f a b : Int32) : Sp G l yX8_back cX8_back 4 (some .int) 2 0 0 [.ref 0, .int f, .int a, .int b] (WW σF) (QI (fun x w2 => x = an_back f a b ∧ ∃ τ, w2 = WW (mx τ))) := by
  refine Sp_of_R [(some (.ref 0)), (some (.int f)), (some (.int a)), (some (.int b))] [] rfl (by simp) rfl (Nat.le_of_ble_eq_true rfl) ?_
  refine R_iload_n (pc := 0) dX8_back_0 rfl rfl ?_
  refine R_iconst (pc := 1) (v := 0) dX8_back_1 (by decide) ?_
  refine R_iconst (pc := 2) (v := 4) dX8_back_2 (by decide) ?_
  refine k_X8_72 (pc := 3) (sp_X8_isWithin _ _ _ _) rfl (by decide) (Nat.le_refl _) (Nat.le_refl _) (by decide) dX8_back_3 (fun x w2 h => ?_)
  rcases h with ⟨rfl, ⟨h1, rfl⟩ | ⟨h1, rfl⟩⟩
  · skip
    refine R_ifne (pc := 6) 12 dX8_back_6 (by decide) (fun _ => ?_) (fun h => absurd h (by decide))
    refine R_iload_n (pc := 12) dX8_back_12 rfl rfl ?_
    refine R_iload_n (pc := 13) dX8_back_13 rfl rfl ?_
    refine k_X8_215 (pc := 14) (fx_X8_isSpan _ _ _) rfl (by decide) (Nat.le_refl _) (Nat.le_refl _) (by decide) dX8_back_14 (fun x w2 h => ?_)
    rcases h with ⟨rfl, ⟨h3, rfl⟩ | ⟨h3, rfl⟩⟩
    · skip
      refine R_ifne (pc := 17) 23 dX8_back_17 (by decide) (fun _ => ?_) (fun h => absurd h (by decide))
      refine R_aload_n (pc := 23) dX8_back_23 rfl rfl ?_
      refine g_X8_37 (pc := 24) (v := .ref 58) rfl dX8_back_24 (c_0 _) rfl ?_
      refine g_X8_227 (pc := 27) (v := .ref 61) rfl dX8_back_27 (c_58 _) rfl ?_
      refine R_iload_n (pc := 30) dX8_back_30 rfl rfl ?_
      refine R_iload_n (pc := 31) dX8_back_31 rfl rfl ?_
      refine W_iastore (pc := 32) dX8_back_32 (c_61 _) (vp_of_inR h1 (by decide)) (a_61 _ _) ?_
      refine R_aload_n (pc := 33) dX8_back_33 rfl rfl ?_
      refine g_X8_37 (pc := 34) (v := .ref 58) rfl dX8_back_34 (c_0 _) rfl ?_
      refine g_X8_230 (pc := 37) (v := .ref 62) rfl dX8_back_37 (c_58 _) rfl ?_
      refine R_iload_n (pc := 40) dX8_back_40 rfl rfl ?_
      refine R_iload_n (pc := 41) dX8_back_41 rfl rfl ?_
      refine W_iastore (pc := 42) dX8_back_42 (c_62 _) (vp_of_inR h1 (by decide)) (a_62 _ _) ?_
      refine R_iconst (pc := 43) (v := 1) dX8_back_43 (by decide) ?_
      exact R_iret (pc := 44) dX8_back_44 rfl rfl (Nat.zero_le _) (Nat.zero_le _) ⟨_, rfl, (by first | (simp only [an_back, inB_t h1, h3, cond_true, cond_false, Bool.and_true, Bool.true_and, Bool.and_false, Bool.false_and]; done) | (simp only [an_back, inB_t h1, h3, cond_true, cond_false, Bool.and_true, Bool.true_and, Bool.and_false, Bool.false_and, if_true, if_true, if_false, ite_self]; done) | (simp only [an_back, inB_t h1, h3, cond_true, cond_false, Bool.and_true, Bool.true_and, Bool.and_false, Bool.false_and] <;> simp []; done) | (simp only [an_back, inB_t h1, h3, cond_true, cond_false, Bool.and_true, Bool.true_and, Bool.and_false, Bool.false_and] <;> decide)), mxI _ rfl⟩
    · skip
      refine R_ifne (pc := 17) 23 dX8_back_17 (by decide) (fun h => absurd (by decide) h) (fun _ => ?_)
      refine R_bipush (pc := 20) (v := (-3)) dX8_back_20 (by decide) ?_
      exact R_iret (pc := 22) dX8_back_22 rfl rfl (Nat.zero_le _) (Nat.zero_le _) ⟨_, rfl, (by first | (simp only [an_back, inB_t h1, h3, cond_true, cond_false, Bool.and_true, Bool.true_and, Bool.and_false, Bool.false_and]; done) | (simp only [an_back, inB_t h1, h3, cond_true, cond_false, Bool.and_true, Bool.true_and, Bool.and_false, Bool.false_and, if_true, if_true, if_false, ite_self]; done) | (simp only [an_back, inB_t h1, h3, cond_true, cond_false, Bool.and_true, Bool.true_and, Bool.and_false, Bool.false_and] <;> simp []; done) | (simp only [an_back, inB_t h1, h3, cond_true, cond_false, Bool.and_true, Bool.true_and, Bool.and_false, Bool.false_and] <;> decide)), mxI _ rfl⟩
  · skip
    refine R_ifne (pc := 6) 12 dX8_back_6 (by decide) (fun h => absurd (by decide) h) (fun _ => ?_)
    refine R_bipush (pc := 9) (v := (-2)) dX8_back_9 (by decide) ?_
    exact R_iret (pc := 11) dX8_back_11 rfl rfl (Nat.zero_le _) (Nat.zero_le _) ⟨_, rfl, (by first | (simp only [an_back, inB_f h1, cond_true, cond_false, Bool.and_true, Bool.true_and, Bool.and_false, Bool.false_and]; done) | (simp only [an_back, inB_f h1, cond_true, cond_false, Bool.and_true, Bool.true_and, Bool.and_false, Bool.false_and, if_true, if_true, if_false, ite_self]; done) | (simp only [an_back, inB_f h1, cond_true, cond_false, Bool.and_true, Bool.true_and, Bool.and_false, Bool.false_and] <;> simp []; done) | (simp only [an_back, inB_f h1, cond_true, cond_false, Bool.and_true, Bool.true_and, Bool.and_false, Bool.false_and] <;> decide)), mxI _ rfl⟩
theorem dX8_landmark_0 : decode cX8_landmark 0 = .ok (.iload_n 1, 1) := by decide +kernel
theorem dX8_landmark_1 : decode cX8_landmark 1 = .ok (.iconst 0, 1) := by decide +kernel
theorem dX8_landmark_2 : decode cX8_landmark 2 = .ok (.bipush 7, 2) := by decide +kernel
theorem dX8_landmark_4 : decode cX8_landmark 4 = .ok (.invokestatic 72, 3) := by decide +kernel
theorem dX8_landmark_7 : decode cX8_landmark 7 = .ok (.ifCond .ne 6, 3) := by decide +kernel
theorem dX8_landmark_10 : decode cX8_landmark 10 = .ok (.bipush (-2), 2) := by decide +kernel
theorem dX8_landmark_12 : decode cX8_landmark 12 = .ok (.ireturn, 1) := by decide +kernel
theorem dX8_landmark_13 : decode cX8_landmark 13 = .ok (.iload_n 2, 1) := by decide +kernel
theorem dX8_landmark_14 : decode cX8_landmark 14 = .ok (.iconst 0, 1) := by decide +kernel
theorem dX8_landmark_15 : decode cX8_landmark 15 = .ok (.bipush 63, 2) := by decide +kernel
theorem dX8_landmark_17 : decode cX8_landmark 17 = .ok (.invokestatic 72, 3) := by decide +kernel
theorem dX8_landmark_20 : decode cX8_landmark 20 = .ok (.ifCond .ne 12, 3) := by decide +kernel
theorem dX8_landmark_23 : decode cX8_landmark 23 = .ok (.iload_n 2, 1) := by decide +kernel
theorem dX8_landmark_24 : decode cX8_landmark 24 = .ok (.bipush 64, 2) := by decide +kernel
theorem dX8_landmark_26 : decode cX8_landmark 26 = .ok (.if_icmp .eq 6, 3) := by decide +kernel
theorem dX8_landmark_29 : decode cX8_landmark 29 = .ok (.bipush (-3), 2) := by decide +kernel
theorem dX8_landmark_31 : decode cX8_landmark 31 = .ok (.ireturn, 1) := by decide +kernel
theorem dX8_landmark_32 : decode cX8_landmark 32 = .ok (.aload_n 0, 1) := by decide +kernel
theorem dX8_landmark_33 : decode cX8_landmark 33 = .ok (.getfield 44, 3) := by decide +kernel
theorem dX8_landmark_36 : decode cX8_landmark 36 = .ok (.getfield 264, 3) := by decide +kernel
theorem dX8_landmark_39 : decode cX8_landmark 39 = .ok (.iload_n 1, 1) := by decide +kernel
theorem dX8_landmark_40 : decode cX8_landmark 40 = .ok (.iload_n 2, 1) := by decide +kernel
theorem dX8_landmark_41 : decode cX8_landmark 41 = .ok (.iastore, 1) := by decide +kernel
theorem dX8_landmark_42 : decode cX8_landmark 42 = .ok (.iconst 1, 1) := by decide +kernel
theorem dX8_landmark_43 : decode cX8_landmark 43 = .ok (.ireturn, 1) := by decide +kernel
set_option maxRecDepth 100000 in
set_option maxHeartbeats 40000000 in
theorem fp_landmark {G : vG} {l : Launch} (a b : Int32) : Sp G l yX8_landmark cX8_landmark 3 (some .int) 1 0 0 [.ref 0, .int a, .int b] (WW σF) (QI (fun x w2 => x = an_landmark a b ∧ ∃ τ, w2 = WW (mx τ))) := by
  refine Sp_of_R [(some (.ref 0)), (some (.int a)), (some (.int b))] [] rfl (by simp) rfl (Nat.le_of_ble_eq_true rfl) ?_
  refine R_iload_n (pc := 0) dX8_landmark_0 rfl rfl ?_
  refine R_iconst (pc := 1) (v := 0) dX8_landmark_1 (by decide) ?_
  refine R_bipush (pc := 2) (v := 7) dX8_landmark_2 (by decide) ?_
  refine k_X8_72 (pc := 4) (sp_X8_isWithin _ _ _ _) rfl (by decide) (Nat.le_refl _) (Nat.le_refl _) (by decide) dX8_landmark_4 (fun x w2 h => ?_)
  rcases h with ⟨rfl, ⟨h1, rfl⟩ | ⟨h1, rfl⟩⟩
  · skip
    refine R_ifne (pc := 7) 13 dX8_landmark_7 (by decide) (fun _ => ?_) (fun h => absurd h (by decide))
    refine R_iload_n (pc := 13) dX8_landmark_13 rfl rfl ?_
    refine R_iconst (pc := 14) (v := 0) dX8_landmark_14 (by decide) ?_
    refine R_bipush (pc := 15) (v := 63) dX8_landmark_15 (by decide) ?_
    refine k_X8_72 (pc := 17) (sp_X8_isWithin _ _ _ _) rfl (by decide) (Nat.le_refl _) (Nat.le_refl _) (by decide) dX8_landmark_17 (fun x w2 h => ?_)
    rcases h with ⟨rfl, ⟨h3, rfl⟩ | ⟨h3, rfl⟩⟩
    · skip
      refine R_ifne (pc := 20) 32 dX8_landmark_20 (by decide) (fun _ => ?_) (fun h => absurd h (by decide))
      refine R_aload_n (pc := 32) dX8_landmark_32 rfl rfl ?_
      refine g_X8_44 (pc := 33) (v := .ref 93) rfl dX8_landmark_33 (c_0 _) rfl ?_
      refine g_X8_264 (pc := 36) (v := .ref 94) rfl dX8_landmark_36 (c_93 _) rfl ?_
      refine R_iload_n (pc := 39) dX8_landmark_39 rfl rfl ?_
      refine R_iload_n (pc := 40) dX8_landmark_40 rfl rfl ?_
      refine W_iastore (pc := 41) dX8_landmark_41 (c_94 _) (vp_of_inR h1 (by decide)) (a_94 _ _) ?_
      refine R_iconst (pc := 42) (v := 1) dX8_landmark_42 (by decide) ?_
      exact R_iret (pc := 43) dX8_landmark_43 rfl rfl (Nat.zero_le _) (Nat.zero_le _) ⟨_, rfl, (by simp only [an_landmark, inB_t h1, lm_eq _ h3, cond_true, cond_false]), mxI _ rfl⟩
    · skip
      refine R_ifne (pc := 20) 32 dX8_landmark_20 (by decide) (fun h => absurd (by decide) h) (fun _ => ?_)
      refine R_iload_n (pc := 23) dX8_landmark_23 rfl rfl ?_
      refine R_bipush (pc := 24) (v := 64) dX8_landmark_24 (by decide) ?_
      refine R_iceq (pc := 26) 32 dX8_landmark_26 (by decide) (fun b26_6 => ?_) (fun b26_6 => ?_)
      · skip
        refine R_aload_n (pc := 32) dX8_landmark_32 rfl rfl ?_
        refine g_X8_44 (pc := 33) (v := .ref 93) rfl dX8_landmark_33 (c_0 _) rfl ?_
        refine g_X8_264 (pc := 36) (v := .ref 94) rfl dX8_landmark_36 (c_93 _) rfl ?_
        refine R_iload_n (pc := 39) dX8_landmark_39 rfl rfl ?_
        refine R_iload_n (pc := 40) dX8_landmark_40 rfl rfl ?_
        refine W_iastore (pc := 41) dX8_landmark_41 (c_94 _) (vp_of_inR h1 (by decide)) (a_94 _ _) ?_
        refine R_iconst (pc := 42) (v := 1) dX8_landmark_42 (by decide) ?_
        exact R_iret (pc := 43) dX8_landmark_43 rfl rfl (Nat.zero_le _) (Nat.zero_le _) ⟨_, rfl, (by simp only [an_landmark, inB_t h1, (show inB b 0 64 = true by rw [b26_6]; decide), cond_true, cond_false]), mxI _ rfl⟩
      · skip
        refine R_bipush (pc := 29) (v := (-3)) dX8_landmark_29 (by decide) ?_
        exact R_iret (pc := 31) dX8_landmark_31 rfl rfl (Nat.zero_le _) (Nat.zero_le _) ⟨_, rfl, (by simp only [an_landmark, inB_t h1, lm_no _ h3 b26_6, cond_true, cond_false]), mxI _ rfl⟩
  · skip
    refine R_ifne (pc := 7) 13 dX8_landmark_7 (by decide) (fun h => absurd (by decide) h) (fun _ => ?_)
    refine R_bipush (pc := 10) (v := (-2)) dX8_landmark_10 (by decide) ?_
    exact R_iret (pc := 12) dX8_landmark_12 rfl rfl (Nat.zero_le _) (Nat.zero_le _) ⟨_, rfl, (by first | (simp only [an_landmark, inB_f h1, cond_true, cond_false, Bool.and_true, Bool.true_and, Bool.and_false, Bool.false_and]; done) | (simp only [an_landmark, inB_f h1, cond_true, cond_false, Bool.and_true, Bool.true_and, Bool.and_false, Bool.false_and, if_true, if_true, if_false, ite_self]; done) | (simp only [an_landmark, inB_f h1, cond_true, cond_false, Bool.and_true, Bool.true_and, Bool.and_false, Bool.false_and] <;> simp []; done) | (simp only [an_landmark, inB_f h1, cond_true, cond_false, Bool.and_true, Bool.true_and, Bool.and_false, Bool.false_and] <;> decide)), mxI _ rfl⟩
theorem dX5_gather_0 : decode cX5_gather 0 = .ok (.iconst 1, 1) := by decide +kernel
theorem dX5_gather_1 : decode cX5_gather 1 = .ok (.istore_n 2, 1) := by decide +kernel
theorem dX5_gather_2 : decode cX5_gather 2 = .ok (.iload_n 2, 1) := by decide +kernel
theorem dX5_gather_3 : decode cX5_gather 3 = .ok (.bipush 99, 2) := by decide +kernel
theorem dX5_gather_5 : decode cX5_gather 5 = .ok (.if_icmp .gt 16, 3) := by decide +kernel
theorem dX5_gather_8 : decode cX5_gather 8 = .ok (.aload_n 0, 1) := by decide +kernel
theorem dX5_gather_9 : decode cX5_gather 9 = .ok (.getfield 9, 3) := by decide +kernel
theorem dX5_gather_12 : decode cX5_gather 12 = .ok (.iload_n 2, 1) := by decide +kernel
theorem dX5_gather_13 : decode cX5_gather 13 = .ok (.iconst 0, 1) := by decide +kernel
theorem dX5_gather_14 : decode cX5_gather 14 = .ok (.bastore, 1) := by decide +kernel
theorem dX5_gather_15 : decode cX5_gather 15 = .ok (.iinc 2 1, 3) := by decide +kernel
theorem dX5_gather_18 : decode cX5_gather 18 = .ok (.goto (-16), 3) := by decide +kernel
theorem dX5_gather_21 : decode cX5_gather 21 = .ok (.iconst 0, 1) := by decide +kernel
theorem dX5_gather_22 : decode cX5_gather 22 = .ok (.istore_n 2, 1) := by decide +kernel
theorem dX5_gather_23 : decode cX5_gather 23 = .ok (.iload_n 2, 1) := by decide +kernel
theorem dX5_gather_24 : decode cX5_gather 24 = .ok (.aload_n 0, 1) := by decide +kernel
theorem dX5_gather_25 : decode cX5_gather 25 = .ok (.getfield 15, 3) := by decide +kernel
theorem dX5_gather_28 : decode cX5_gather 28 = .ok (.getfield 19, 3) := by decide +kernel
theorem dX5_gather_31 : decode cX5_gather 31 = .ok (.if_icmp .ge 48, 3) := by decide +kernel
theorem dX5_gather_34 : decode cX5_gather 34 = .ok (.aload_n 0, 1) := by decide +kernel
theorem dX5_gather_35 : decode cX5_gather 35 = .ok (.getfield 15, 3) := by decide +kernel
theorem dX5_gather_38 : decode cX5_gather 38 = .ok (.iload_n 2, 1) := by decide +kernel
theorem dX5_gather_39 : decode cX5_gather 39 = .ok (.invokevirtual 25, 3) := by decide +kernel
theorem dX5_gather_42 : decode cX5_gather 42 = .ok (.ifCond .eq 31, 3) := by decide +kernel
theorem dX5_gather_45 : decode cX5_gather 45 = .ok (.aload_n 0, 1) := by decide +kernel
theorem dX5_gather_46 : decode cX5_gather 46 = .ok (.getfield 15, 3) := by decide +kernel
theorem dX5_gather_49 : decode cX5_gather 49 = .ok (.getfield 29, 3) := by decide +kernel
theorem dX5_gather_52 : decode cX5_gather 52 = .ok (.iload_n 2, 1) := by decide +kernel
theorem dX5_gather_53 : decode cX5_gather 53 = .ok (.iaload, 1) := by decide +kernel
theorem dX5_gather_54 : decode cX5_gather 54 = .ok (.iload_n 1, 1) := by decide +kernel
theorem dX5_gather_55 : decode cX5_gather 55 = .ok (.if_icmp .ne 18, 3) := by decide +kernel
theorem dX5_gather_58 : decode cX5_gather 58 = .ok (.aload_n 0, 1) := by decide +kernel
theorem dX5_gather_59 : decode cX5_gather 59 = .ok (.getfield 9, 3) := by decide +kernel
theorem dX5_gather_62 : decode cX5_gather 62 = .ok (.aload_n 0, 1) := by decide +kernel
theorem dX5_gather_63 : decode cX5_gather 63 = .ok (.getfield 15, 3) := by decide +kernel
theorem dX5_gather_66 : decode cX5_gather 66 = .ok (.getfield 33, 3) := by decide +kernel
theorem dX5_gather_69 : decode cX5_gather 69 = .ok (.iload_n 2, 1) := by decide +kernel
theorem dX5_gather_70 : decode cX5_gather 70 = .ok (.iaload, 1) := by decide +kernel
theorem dX5_gather_71 : decode cX5_gather 71 = .ok (.iconst 1, 1) := by decide +kernel
theorem dX5_gather_72 : decode cX5_gather 72 = .ok (.bastore, 1) := by decide +kernel
theorem dX5_gather_73 : decode cX5_gather 73 = .ok (.iinc 2 1, 3) := by decide +kernel
theorem dX5_gather_76 : decode cX5_gather 76 = .ok (.goto (-53), 3) := by decide +kernel
theorem dX5_gather_79 : decode cX5_gather 79 = .ok (.aload_n 0, 1) := by decide +kernel
theorem dX5_gather_80 : decode cX5_gather 80 = .ok (.iconst 0, 1) := by decide +kernel
theorem dX5_gather_81 : decode cX5_gather 81 = .ok (.putfield 36, 3) := by decide +kernel
theorem dX5_gather_84 : decode cX5_gather 84 = .ok (.aload_n 0, 1) := by decide +kernel
theorem dX5_gather_85 : decode cX5_gather 85 = .ok (.iconst (-1), 1) := by decide +kernel
theorem dX5_gather_86 : decode cX5_gather 86 = .ok (.putfield 37, 3) := by decide +kernel
theorem dX5_gather_89 : decode cX5_gather 89 = .ok (.aload_n 0, 1) := by decide +kernel
theorem dX5_gather_90 : decode cX5_gather 90 = .ok (.iconst (-1), 1) := by decide +kernel
theorem dX5_gather_91 : decode cX5_gather 91 = .ok (.putfield 40, 3) := by decide +kernel
theorem dX5_gather_94 : decode cX5_gather 94 = .ok (.iconst 1, 1) := by decide +kernel
theorem dX5_gather_95 : decode cX5_gather 95 = .ok (.istore_n 2, 1) := by decide +kernel
theorem dX5_gather_96 : decode cX5_gather 96 = .ok (.iload_n 2, 1) := by decide +kernel
theorem dX5_gather_97 : decode cX5_gather 97 = .ok (.bipush 99, 2) := by decide +kernel
theorem dX5_gather_99 : decode cX5_gather 99 = .ok (.if_icmp .gt 53, 3) := by decide +kernel
theorem dX5_gather_102 : decode cX5_gather 102 = .ok (.aload_n 0, 1) := by decide +kernel
theorem dX5_gather_103 : decode cX5_gather 103 = .ok (.getfield 9, 3) := by decide +kernel
theorem dX5_gather_106 : decode cX5_gather 106 = .ok (.iload_n 2, 1) := by decide +kernel
theorem dX5_gather_107 : decode cX5_gather 107 = .ok (.baload, 1) := by decide +kernel
theorem dX5_gather_108 : decode cX5_gather 108 = .ok (.ifCond .eq 38, 3) := by decide +kernel
theorem dX5_gather_111 : decode cX5_gather 111 = .ok (.aload_n 0, 1) := by decide +kernel
theorem dX5_gather_112 : decode cX5_gather 112 = .ok (.dup, 1) := by decide +kernel
theorem dX5_gather_113 : decode cX5_gather 113 = .ok (.getfield 36, 3) := by decide +kernel
theorem dX5_gather_116 : decode cX5_gather 116 = .ok (.iconst 1, 1) := by decide +kernel
theorem dX5_gather_117 : decode cX5_gather 117 = .ok (.iadd, 1) := by decide +kernel
theorem dX5_gather_118 : decode cX5_gather 118 = .ok (.putfield 36, 3) := by decide +kernel
theorem dX5_gather_121 : decode cX5_gather 121 = .ok (.aload_n 0, 1) := by decide +kernel
theorem dX5_gather_122 : decode cX5_gather 122 = .ok (.aload_n 0, 1) := by decide +kernel
theorem dX5_gather_123 : decode cX5_gather 123 = .ok (.getfield 37, 3) := by decide +kernel
theorem dX5_gather_126 : decode cX5_gather 126 = .ok (.iconst (-1), 1) := by decide +kernel
theorem dX5_gather_127 : decode cX5_gather 127 = .ok (.if_icmp .ne 7, 3) := by decide +kernel
theorem dX5_gather_130 : decode cX5_gather 130 = .ok (.iload_n 2, 1) := by decide +kernel
theorem dX5_gather_131 : decode cX5_gather 131 = .ok (.goto 7, 3) := by decide +kernel
theorem dX5_gather_134 : decode cX5_gather 134 = .ok (.aload_n 0, 1) := by decide +kernel
theorem dX5_gather_135 : decode cX5_gather 135 = .ok (.getfield 37, 3) := by decide +kernel
theorem dX5_gather_138 : decode cX5_gather 138 = .ok (.putfield 37, 3) := by decide +kernel
theorem dX5_gather_141 : decode cX5_gather 141 = .ok (.aload_n 0, 1) := by decide +kernel
theorem dX5_gather_142 : decode cX5_gather 142 = .ok (.iload_n 2, 1) := by decide +kernel
theorem dX5_gather_143 : decode cX5_gather 143 = .ok (.putfield 40, 3) := by decide +kernel
theorem dX5_gather_146 : decode cX5_gather 146 = .ok (.iinc 2 1, 3) := by decide +kernel
theorem dX5_gather_149 : decode cX5_gather 149 = .ok (.goto (-53), 3) := by decide +kernel
theorem dX5_gather_152 : decode cX5_gather 152 = .ok (.return_, 1) := by decide +kernel
set_option maxRecDepth 100000 in
set_option maxHeartbeats 40000000 in
theorem fx_X5_gather {G : vG} {l : Launch} (p : Int32) : Sp G l yX5_gather cX5_gather 3 none 1 0 0 [.ref 56, .int p] (WW σF) (QV (fun w2 => w2 = WW σN)) := by
  refine Sp_of_R [(some (.ref 56)), (some (.int p)), none] [none] rfl (by simp) rfl (Nat.le_of_ble_eq_true rfl) ?_
  refine R_iconst (pc := 0) (v := 1) dX5_gather_0 (by decide) ?_
  refine st_3_2_i_i (pc := 1) dX5_gather_1 ?_
  have HL2 : ∀ (q j : Nat), j + q = 100 → R G l yX5_gather cX5_gather 3 none 1 0 0 (QV (fun w2 => w2 = WW σN)) 2 [(some (.ref 56)), (some (.int p)), (some (.int (nI j)))] [] (WW σF) 0 0 := by
    intro q
    induction q with
    | zero =>
      intro j hj
      obtain rfl : j = 100 := by omega
      refine R_iload_n (pc := 2) dX5_gather_2 rfl rfl ?_
      refine R_bipush (pc := 3) (v := 99) dX5_gather_3 (by decide) ?_
      refine R_icgt (pc := 5) 21 dX5_gather_5 (by decide) (fun _ => ?_) (fun h => absurd (by decide) h)
      refine R_iconst (pc := 21) (v := 0) dX5_gather_21 (by decide) ?_
      refine st_3_2_i_i (pc := 22) dX5_gather_22 ?_
      refine R_iload_n (pc := 23) dX5_gather_23 rfl rfl ?_
      refine R_aload_n (pc := 24) dX5_gather_24 rfl rfl ?_
      refine g_X5_15 (pc := 25) (v := .ref 1) rfl dX5_gather_25 (c_56 _) rfl ?_
      refine g_X5_19 (pc := 28) (v := .int 0) rfl dX5_gather_28 (c_1 _) rfl ?_
      refine R_icge (pc := 31) 79 dX5_gather_31 (by decide) (fun _ => ?_) (fun h => absurd (by decide) h)
      refine R_aload_n (pc := 79) dX5_gather_79 rfl rfl ?_
      refine R_iconst (pc := 80) (v := 0) dX5_gather_80 (by decide) ?_
      refine p_X5_36 (pc := 81) rfl dX5_gather_81 (c_56 _) (by decide) rfl rfl (s_56_2 _ _) ?_
      refine R_aload_n (pc := 84) dX5_gather_84 rfl rfl ?_
      refine R_iconst (pc := 85) (v := (-1)) dX5_gather_85 (by decide) ?_
      refine p_X5_37 (pc := 86) rfl dX5_gather_86 (c_56 _) (by decide) rfl rfl (s_56_3 _ _) ?_
      refine R_aload_n (pc := 89) dX5_gather_89 rfl rfl ?_
      refine R_iconst (pc := 90) (v := (-1)) dX5_gather_90 (by decide) ?_
      refine p_X5_40 (pc := 91) rfl dX5_gather_91 (c_56 _) (by decide) rfl rfl (s_56_4 _ _) ?_
      refine R_iconst (pc := 94) (v := 1) dX5_gather_94 (by decide) ?_
      refine st_3_2_i_i (pc := 95) dX5_gather_95 ?_
      have HL96 : ∀ (q j : Nat), j + q = 100 → R G l yX5_gather cX5_gather 3 none 1 0 0 (QV (fun w2 => w2 = WW σN)) 96 [(some (.ref 56)), (some (.int p)), (some (.int (nI j)))] [] (WW (uI (uI (uI σF 5602 0) 5603 (-1)) 5604 (-1))) 0 0 := by
        intro q
        induction q with
        | zero =>
          intro j hj
          obtain rfl : j = 100 := by omega
          refine R_iload_n (pc := 96) dX5_gather_96 rfl rfl ?_
          refine R_bipush (pc := 97) (v := 99) dX5_gather_97 (by decide) ?_
          refine R_icgt (pc := 99) 152 dX5_gather_99 (by decide) (fun _ => ?_) (fun h => absurd (by decide) h)
          exact R_vret (pc := 152) dX5_gather_152 rfl (Nat.zero_le _) (Nat.zero_le _) ⟨rfl, rfl⟩
        | succ q ih =>
          intro j hj
          have hlt : j < 100 := by omega
          refine R_iload_n (pc := 96) dX5_gather_96 rfl rfl ?_
          refine R_bipush (pc := 97) (v := 99) dX5_gather_97 (by decide) ?_
          refine R_icgt (pc := 99) 152 dX5_gather_99 (by decide) (fun h => absurd h (nI_nlt (a := 99) (Nat.le_of_lt_succ hlt) (by decide))) (fun _ => ?_)
          refine R_aload_n (pc := 102) dX5_gather_102 rfl rfl ?_
          refine g_X5_9 (pc := 103) (v := .ref 57) rfl dX5_gather_103 (c_56 _) rfl ?_
          refine R_iload_n (pc := 106) dX5_gather_106 rfl rfl ?_
          refine W_baload (pc := 107) 0 dX5_gather_107 (c_57 _) (vp_in_nI hlt (by decide)) rfl ?_
          refine R_ifeq (pc := 108) 146 dX5_gather_108 (by decide) (fun _ => ?_) (fun h => absurd (by decide) h)
          refine inc_3_2_1_i (pc := 146) dX5_gather_146 ?_
          refine R_goto (pc := 149) 96 dX5_gather_149 (by decide) ?_
          rw [nI_1]
          exact ih (j + 1) (by omega)
      exact HL96 99 1 (by omega)
    | succ q ih =>
      intro j hj
      have hlt : j < 100 := by omega
      refine R_iload_n (pc := 2) dX5_gather_2 rfl rfl ?_
      refine R_bipush (pc := 3) (v := 99) dX5_gather_3 (by decide) ?_
      refine R_icgt (pc := 5) 21 dX5_gather_5 (by decide) (fun h => absurd h (nI_nlt (a := 99) (Nat.le_of_lt_succ hlt) (by decide))) (fun _ => ?_)
      refine R_aload_n (pc := 8) dX5_gather_8 rfl rfl ?_
      refine g_X5_9 (pc := 9) (v := .ref 57) rfl dX5_gather_9 (c_56 _) rfl ?_
      refine R_iload_n (pc := 12) dX5_gather_12 rfl rfl ?_
      refine R_iconst (pc := 13) (v := 0) dX5_gather_13 (by decide) ?_
      refine W_bastore (pc := 14) (w2 := WW σF) dX5_gather_14 (c_57 _) (vp_in_nI hlt (by decide)) rfl (keep57 _) ?_
      refine inc_3_2_1_i (pc := 15) dX5_gather_15 ?_
      refine R_goto (pc := 18) 2 dX5_gather_18 (by decide) ?_
      rw [nI_1]
      exact ih (j + 1) (by omega)
  exact HL2 99 1 (by omega)
theorem dX5_isMissing_0 : decode cX5_isMissing 0 = .ok (.iload_n 1, 1) := by decide +kernel
theorem dX5_isMissing_1 : decode cX5_isMissing 1 = .ok (.aload_n 0, 1) := by decide +kernel
theorem dX5_isMissing_2 : decode cX5_isMissing 2 = .ok (.getfield 37, 3) := by decide +kernel
theorem dX5_isMissing_5 : decode cX5_isMissing 5 = .ok (.if_icmp .le 24, 3) := by decide +kernel
theorem dX5_isMissing_8 : decode cX5_isMissing 8 = .ok (.iload_n 1, 1) := by decide +kernel
theorem dX5_isMissing_9 : decode cX5_isMissing 9 = .ok (.aload_n 0, 1) := by decide +kernel
theorem dX5_isMissing_10 : decode cX5_isMissing 10 = .ok (.getfield 40, 3) := by decide +kernel
theorem dX5_isMissing_13 : decode cX5_isMissing 13 = .ok (.if_icmp .ge 16, 3) := by decide +kernel
theorem dX5_isMissing_16 : decode cX5_isMissing 16 = .ok (.aload_n 0, 1) := by decide +kernel
theorem dX5_isMissing_17 : decode cX5_isMissing 17 = .ok (.getfield 9, 3) := by decide +kernel
theorem dX5_isMissing_20 : decode cX5_isMissing 20 = .ok (.iload_n 1, 1) := by decide +kernel
theorem dX5_isMissing_21 : decode cX5_isMissing 21 = .ok (.baload, 1) := by decide +kernel
theorem dX5_isMissing_22 : decode cX5_isMissing 22 = .ok (.ifCond .ne 7, 3) := by decide +kernel
theorem dX5_isMissing_25 : decode cX5_isMissing 25 = .ok (.iconst 1, 1) := by decide +kernel
theorem dX5_isMissing_26 : decode cX5_isMissing 26 = .ok (.goto 4, 3) := by decide +kernel
theorem dX5_isMissing_29 : decode cX5_isMissing 29 = .ok (.iconst 0, 1) := by decide +kernel
theorem dX5_isMissing_30 : decode cX5_isMissing 30 = .ok (.ireturn, 1) := by decide +kernel
set_option maxRecDepth 100000 in
set_option maxHeartbeats 40000000 in
theorem fx_X5_isMissing {G : vG} {l : Launch} (n : Int32) : Sp G l yX5_isMissing cX5_isMissing 2 (some .boolean) 0 0 0 [.ref 56, .int n] (WW σN) (QI (fun x w2 => w2 = WW σN ∧ x = 0)) := by
  refine Sp_of_R [(some (.ref 56)), (some (.int n))] [] rfl (by simp) rfl (Nat.le_of_ble_eq_true rfl) ?_
  refine R_iload_n (pc := 0) dX5_isMissing_0 rfl rfl ?_
  refine R_aload_n (pc := 1) dX5_isMissing_1 rfl rfl ?_
  refine g_X5_37 (pc := 2) (v := .int (-1)) rfl dX5_isMissing_2 (c_56 _) rfl ?_
  refine R_icle (pc := 5) 29 dX5_isMissing_5 (by decide) (fun b5_1 => ?_) (fun b5_1 => ?_)
  · skip
    refine R_iconst (pc := 29) (v := 0) dX5_isMissing_29 (by decide) ?_
    exact R_iret (pc := 30) dX5_isMissing_30 rfl rfl (Nat.zero_le _) (Nat.zero_le _) ⟨_, rfl, rfl, rfl⟩
  · skip
    refine R_iload_n (pc := 8) dX5_isMissing_8 rfl rfl ?_
    refine R_aload_n (pc := 9) dX5_isMissing_9 rfl rfl ?_
    refine g_X5_40 (pc := 10) (v := .int (-1)) rfl dX5_isMissing_10 (c_56 _) rfl ?_
    refine R_icge (pc := 13) 29 dX5_isMissing_13 (by decide) (fun b13_2 => ?_) (fun b13_2 => ?_)
    · skip
      refine R_iconst (pc := 29) (v := 0) dX5_isMissing_29 (by decide) ?_
      exact R_iret (pc := 30) dX5_isMissing_30 rfl rfl (Nat.zero_le _) (Nat.zero_le _) ⟨_, rfl, rfl, rfl⟩
    · skip
      exact absurd (Int32.le_of_lt (Int32.not_le.mp b5_1)) b13_2
theorem dX5_missing_0 : decode cX5_missing 0 = .ok (.aload_n 0, 1) := by decide +kernel
theorem dX5_missing_1 : decode cX5_missing 1 = .ok (.getfield 36, 3) := by decide +kernel
theorem dX5_missing_4 : decode cX5_missing 4 = .ok (.ifCond .ne 7, 3) := by decide +kernel
theorem dX5_missing_7 : decode cX5_missing 7 = .ok (.iconst 0, 1) := by decide +kernel
theorem dX5_missing_8 : decode cX5_missing 8 = .ok (.goto 19, 3) := by decide +kernel
theorem dX5_missing_11 : decode cX5_missing 11 = .ok (.aload_n 0, 1) := by decide +kernel
theorem dX5_missing_12 : decode cX5_missing 12 = .ok (.getfield 40, 3) := by decide +kernel
theorem dX5_missing_15 : decode cX5_missing 15 = .ok (.aload_n 0, 1) := by decide +kernel
theorem dX5_missing_16 : decode cX5_missing 16 = .ok (.getfield 37, 3) := by decide +kernel
theorem dX5_missing_19 : decode cX5_missing 19 = .ok (.isub, 1) := by decide +kernel
theorem dX5_missing_20 : decode cX5_missing 20 = .ok (.iconst 1, 1) := by decide +kernel
theorem dX5_missing_21 : decode cX5_missing 21 = .ok (.iadd, 1) := by decide +kernel
theorem dX5_missing_22 : decode cX5_missing 22 = .ok (.aload_n 0, 1) := by decide +kernel
theorem dX5_missing_23 : decode cX5_missing 23 = .ok (.getfield 36, 3) := by decide +kernel
theorem dX5_missing_26 : decode cX5_missing 26 = .ok (.isub, 1) := by decide +kernel
theorem dX5_missing_27 : decode cX5_missing 27 = .ok (.ireturn, 1) := by decide +kernel
set_option maxRecDepth 100000 in
set_option maxHeartbeats 40000000 in
theorem fx_X5_missing {G : vG} {l : Launch}  : Sp G l yX5_missing cX5_missing 1 (some .int) 0 0 0 [.ref 56] (WW σN) (QI (fun x w2 => w2 = WW σN ∧ x = 0)) := by
  refine Sp_of_R [(some (.ref 56))] [] rfl (by simp) rfl (Nat.le_of_ble_eq_true rfl) ?_
  refine R_aload_n (pc := 0) dX5_missing_0 rfl rfl ?_
  refine g_X5_36 (pc := 1) (v := .int 0) rfl dX5_missing_1 (c_56 _) rfl ?_
  refine R_ifne (pc := 4) 11 dX5_missing_4 (by decide) (fun h => absurd (by decide) h) (fun _ => ?_)
  refine R_iconst (pc := 7) (v := 0) dX5_missing_7 (by decide) ?_
  refine R_goto (pc := 8) 27 dX5_missing_8 (by decide) ?_
  exact R_iret (pc := 27) dX5_missing_27 rfl rfl (Nat.zero_le _) (Nat.zero_le _) ⟨_, rfl, rfl, rfl⟩
theorem dX5_gaps_0 : decode cX5_gaps 0 = .ok (.iconst 0, 1) := by decide +kernel
theorem dX5_gaps_1 : decode cX5_gaps 1 = .ok (.istore_n 1, 1) := by decide +kernel
theorem dX5_gaps_2 : decode cX5_gaps 2 = .ok (.iconst 1, 1) := by decide +kernel
theorem dX5_gaps_3 : decode cX5_gaps 3 = .ok (.istore_n 2, 1) := by decide +kernel
theorem dX5_gaps_4 : decode cX5_gaps 4 = .ok (.iload_n 2, 1) := by decide +kernel
theorem dX5_gaps_5 : decode cX5_gaps 5 = .ok (.bipush 99, 2) := by decide +kernel
theorem dX5_gaps_7 : decode cX5_gaps 7 = .ok (.if_icmp .gt 30, 3) := by decide +kernel
theorem dX5_gaps_10 : decode cX5_gaps 10 = .ok (.aload_n 0, 1) := by decide +kernel
theorem dX5_gaps_11 : decode cX5_gaps 11 = .ok (.iload_n 2, 1) := by decide +kernel
theorem dX5_gaps_12 : decode cX5_gaps 12 = .ok (.invokevirtual 43, 3) := by decide +kernel
theorem dX5_gaps_15 : decode cX5_gaps 15 = .ok (.ifCond .eq 16, 3) := by decide +kernel
theorem dX5_gaps_18 : decode cX5_gaps 18 = .ok (.aload_n 0, 1) := by decide +kernel
theorem dX5_gaps_19 : decode cX5_gaps 19 = .ok (.iload_n 2, 1) := by decide +kernel
theorem dX5_gaps_20 : decode cX5_gaps 20 = .ok (.iconst 1, 1) := by decide +kernel
theorem dX5_gaps_21 : decode cX5_gaps 21 = .ok (.isub, 1) := by decide +kernel
theorem dX5_gaps_22 : decode cX5_gaps 22 = .ok (.invokevirtual 43, 3) := by decide +kernel
theorem dX5_gaps_25 : decode cX5_gaps 25 = .ok (.ifCond .ne 6, 3) := by decide +kernel
theorem dX5_gaps_28 : decode cX5_gaps 28 = .ok (.iinc 1 1, 3) := by decide +kernel
theorem dX5_gaps_31 : decode cX5_gaps 31 = .ok (.iinc 2 1, 3) := by decide +kernel
theorem dX5_gaps_34 : decode cX5_gaps 34 = .ok (.goto (-30), 3) := by decide +kernel
theorem dX5_gaps_37 : decode cX5_gaps 37 = .ok (.iload_n 1, 1) := by decide +kernel
theorem dX5_gaps_38 : decode cX5_gaps 38 = .ok (.ireturn, 1) := by decide +kernel
set_option maxRecDepth 100000 in
set_option maxHeartbeats 40000000 in
theorem fx_X5_gaps {G : vG} {l : Launch}  : Sp G l yX5_gaps cX5_gaps 3 (some .int) 1 0 0 [.ref 56] (WW σN) (QI (fun x w2 => w2 = WW σN ∧ x = 0)) := by
  refine Sp_of_R [(some (.ref 56)), none, none] [none, none] rfl (by simp) rfl (Nat.le_of_ble_eq_true rfl) ?_
  refine R_iconst (pc := 0) (v := 0) dX5_gaps_0 (by decide) ?_
  refine st_3_1_i_a (pc := 1) dX5_gaps_1 ?_
  refine R_iconst (pc := 2) (v := 1) dX5_gaps_2 (by decide) ?_
  refine st_3_2_i_i (pc := 3) dX5_gaps_3 ?_
  have HL4 : ∀ (q j : Nat), j + q = 100 → R G l yX5_gaps cX5_gaps 3 (some .int) 1 0 0 (QI (fun x w2 => w2 = WW σN ∧ x = 0)) 4 [(some (.ref 56)), (some (.int 0)), (some (.int (nI j)))] [] (WW σN) 0 0 := by
    intro q
    induction q with
    | zero =>
      intro j hj
      obtain rfl : j = 100 := by omega
      refine R_iload_n (pc := 4) dX5_gaps_4 rfl rfl ?_
      refine R_bipush (pc := 5) (v := 99) dX5_gaps_5 (by decide) ?_
      refine R_icgt (pc := 7) 37 dX5_gaps_7 (by decide) (fun _ => ?_) (fun h => absurd (by decide) h)
      refine R_iload_n (pc := 37) dX5_gaps_37 rfl rfl ?_
      exact R_iret (pc := 38) dX5_gaps_38 rfl rfl (Nat.zero_le _) (Nat.zero_le _) ⟨_, rfl, rfl, rfl⟩
    | succ q ih =>
      intro j hj
      have hlt : j < 100 := by omega
      refine R_iload_n (pc := 4) dX5_gaps_4 rfl rfl ?_
      refine R_bipush (pc := 5) (v := 99) dX5_gaps_5 (by decide) ?_
      refine R_icgt (pc := 7) 37 dX5_gaps_7 (by decide) (fun h => absurd h (nI_nlt (a := 99) (Nat.le_of_lt_succ hlt) (by decide))) (fun _ => ?_)
      refine R_aload_n (pc := 10) dX5_gaps_10 rfl rfl ?_
      refine R_iload_n (pc := 11) dX5_gaps_11 rfl rfl ?_
      refine k_X5_43 (pc := 12) (fx_X5_isMissing _) rfl (c_56 _) (by decide) (Nat.le_refl _) (Nat.le_refl _) (by decide) dX5_gaps_12 (fun x w2 h => ?_)
      obtain ⟨rfl, rfl⟩ := h
      refine R_ifeq (pc := 15) 31 dX5_gaps_15 (by decide) (fun _ => ?_) (fun h => absurd (by decide) h)
      refine inc_3_2_1_i (pc := 31) dX5_gaps_31 ?_
      refine R_goto (pc := 34) 4 dX5_gaps_34 (by decide) ?_
      rw [nI_1]
      exact ih (j + 1) (by omega)
  exact HL4 99 1 (by omega)
theorem dX5_gapAt_0 : decode cX5_gapAt 0 = .ok (.iload_n 1, 1) := by decide +kernel
theorem dX5_gapAt_1 : decode cX5_gapAt 1 = .ok (.istore_n 2, 1) := by decide +kernel
theorem dX5_gapAt_2 : decode cX5_gapAt 2 = .ok (.iconst (-1), 1) := by decide +kernel
theorem dX5_gapAt_3 : decode cX5_gapAt 3 = .ok (.istore_n 3, 1) := by decide +kernel
theorem dX5_gapAt_4 : decode cX5_gapAt 4 = .ok (.iconst 1, 1) := by decide +kernel
theorem dX5_gapAt_5 : decode cX5_gapAt 5 = .ok (.istore 4, 2) := by decide +kernel
theorem dX5_gapAt_7 : decode cX5_gapAt 7 = .ok (.iload 4, 2) := by decide +kernel
theorem dX5_gapAt_9 : decode cX5_gapAt 9 = .ok (.bipush 99, 2) := by decide +kernel
theorem dX5_gapAt_11 : decode cX5_gapAt 11 = .ok (.if_icmp .gt 62, 3) := by decide +kernel
theorem dX5_gapAt_14 : decode cX5_gapAt 14 = .ok (.aload_n 0, 1) := by decide +kernel
theorem dX5_gapAt_15 : decode cX5_gapAt 15 = .ok (.iload 4, 2) := by decide +kernel
theorem dX5_gapAt_17 : decode cX5_gapAt 17 = .ok (.invokevirtual 43, 3) := by decide +kernel
theorem dX5_gapAt_20 : decode cX5_gapAt 20 = .ok (.ifCond .eq 47, 3) := by decide +kernel
theorem dX5_gapAt_23 : decode cX5_gapAt 23 = .ok (.aload_n 0, 1) := by decide +kernel
theorem dX5_gapAt_24 : decode cX5_gapAt 24 = .ok (.iload 4, 2) := by decide +kernel
theorem dX5_gapAt_26 : decode cX5_gapAt 26 = .ok (.iconst 1, 1) := by decide +kernel
theorem dX5_gapAt_27 : decode cX5_gapAt 27 = .ok (.isub, 1) := by decide +kernel
theorem dX5_gapAt_28 : decode cX5_gapAt 28 = .ok (.invokevirtual 43, 3) := by decide +kernel
theorem dX5_gapAt_31 : decode cX5_gapAt 31 = .ok (.ifCond .eq 7, 3) := by decide +kernel
theorem dX5_gapAt_34 : decode cX5_gapAt 34 = .ok (.iload_n 3, 1) := by decide +kernel
theorem dX5_gapAt_35 : decode cX5_gapAt 35 = .ok (.goto 5, 3) := by decide +kernel
theorem dX5_gapAt_38 : decode cX5_gapAt 38 = .ok (.iload 4, 2) := by decide +kernel
theorem dX5_gapAt_40 : decode cX5_gapAt 40 = .ok (.istore_n 3, 1) := by decide +kernel
theorem dX5_gapAt_41 : decode cX5_gapAt 41 = .ok (.aload_n 0, 1) := by decide +kernel
theorem dX5_gapAt_42 : decode cX5_gapAt 42 = .ok (.iload 4, 2) := by decide +kernel
theorem dX5_gapAt_44 : decode cX5_gapAt 44 = .ok (.iconst 1, 1) := by decide +kernel
theorem dX5_gapAt_45 : decode cX5_gapAt 45 = .ok (.iadd, 1) := by decide +kernel
theorem dX5_gapAt_46 : decode cX5_gapAt 46 = .ok (.invokevirtual 43, 3) := by decide +kernel
theorem dX5_gapAt_49 : decode cX5_gapAt 49 = .ok (.ifCond .ne 18, 3) := by decide +kernel
theorem dX5_gapAt_52 : decode cX5_gapAt 52 = .ok (.iload_n 2, 1) := by decide +kernel
theorem dX5_gapAt_53 : decode cX5_gapAt 53 = .ok (.ifCond .ne 11, 3) := by decide +kernel
theorem dX5_gapAt_56 : decode cX5_gapAt 56 = .ok (.bipush 100, 2) := by decide +kernel
theorem dX5_gapAt_58 : decode cX5_gapAt 58 = .ok (.iload_n 3, 1) := by decide +kernel
theorem dX5_gapAt_59 : decode cX5_gapAt 59 = .ok (.imul, 1) := by decide +kernel
theorem dX5_gapAt_60 : decode cX5_gapAt 60 = .ok (.iload 4, 2) := by decide +kernel
theorem dX5_gapAt_62 : decode cX5_gapAt 62 = .ok (.iadd, 1) := by decide +kernel
theorem dX5_gapAt_63 : decode cX5_gapAt 63 = .ok (.ireturn, 1) := by decide +kernel
theorem dX5_gapAt_64 : decode cX5_gapAt 64 = .ok (.iinc 2 (-1), 3) := by decide +kernel
theorem dX5_gapAt_67 : decode cX5_gapAt 67 = .ok (.iinc 4 1, 3) := by decide +kernel
theorem dX5_gapAt_70 : decode cX5_gapAt 70 = .ok (.goto (-63), 3) := by decide +kernel
theorem dX5_gapAt_73 : decode cX5_gapAt 73 = .ok (.iconst (-1), 1) := by decide +kernel
theorem dX5_gapAt_74 : decode cX5_gapAt 74 = .ok (.ireturn, 1) := by decide +kernel
set_option maxRecDepth 100000 in
set_option maxHeartbeats 40000000 in
theorem fx_X5_gapAt {G : vG} {l : Launch} (i : Int32) : Sp G l yX5_gapAt cX5_gapAt 5 (some .int) 1 0 0 [.ref 56, .int i] (WW σN) (QI (fun x w2 => w2 = WW σN ∧ x = -1)) := by
  refine Sp_of_R [(some (.ref 56)), (some (.int i)), none, none, none] [none, none, none] rfl (by simp) rfl (Nat.le_of_ble_eq_true rfl) ?_
  refine R_iload_n (pc := 0) dX5_gapAt_0 rfl rfl ?_
  refine st_5_2_i_i (pc := 1) dX5_gapAt_1 ?_
  refine R_iconst (pc := 2) (v := (-1)) dX5_gapAt_2 (by decide) ?_
  refine st_5_3_i_i (pc := 3) dX5_gapAt_3 ?_
  refine R_iconst (pc := 4) (v := 1) dX5_gapAt_4 (by decide) ?_
  refine st_5_4_i_i (pc := 5) dX5_gapAt_5 ?_
  have HL7 : ∀ (q j : Nat), j + q = 100 → R G l yX5_gapAt cX5_gapAt 5 (some .int) 1 0 0 (QI (fun x w2 => w2 = WW σN ∧ x = -1)) 7 [(some (.ref 56)), (some (.int i)), (some (.int i)), (some (.int (-1))), (some (.int (nI j)))] [] (WW σN) 0 0 := by
    intro q
    induction q with
    | zero =>
      intro j hj
      obtain rfl : j = 100 := by omega
      refine R_iload (pc := 7) dX5_gapAt_7 rfl ?_
      refine R_bipush (pc := 9) (v := 99) dX5_gapAt_9 (by decide) ?_
      refine R_icgt (pc := 11) 73 dX5_gapAt_11 (by decide) (fun _ => ?_) (fun h => absurd (by decide) h)
      refine R_iconst (pc := 73) (v := (-1)) dX5_gapAt_73 (by decide) ?_
      exact R_iret (pc := 74) dX5_gapAt_74 rfl rfl (Nat.zero_le _) (Nat.zero_le _) ⟨_, rfl, rfl, rfl⟩
    | succ q ih =>
      intro j hj
      have hlt : j < 100 := by omega
      refine R_iload (pc := 7) dX5_gapAt_7 rfl ?_
      refine R_bipush (pc := 9) (v := 99) dX5_gapAt_9 (by decide) ?_
      refine R_icgt (pc := 11) 73 dX5_gapAt_11 (by decide) (fun h => absurd h (nI_nlt (a := 99) (Nat.le_of_lt_succ hlt) (by decide))) (fun _ => ?_)
      refine R_aload_n (pc := 14) dX5_gapAt_14 rfl rfl ?_
      refine R_iload (pc := 15) dX5_gapAt_15 rfl ?_
      refine k_X5_43 (pc := 17) (fx_X5_isMissing _) rfl (c_56 _) (by decide) (Nat.le_refl _) (Nat.le_refl _) (by decide) dX5_gapAt_17 (fun x w2 h => ?_)
      obtain ⟨rfl, rfl⟩ := h
      refine R_ifeq (pc := 20) 67 dX5_gapAt_20 (by decide) (fun _ => ?_) (fun h => absurd (by decide) h)
      refine inc_5_4_1_i (pc := 67) dX5_gapAt_67 ?_
      refine R_goto (pc := 70) 7 dX5_gapAt_70 (by decide) ?_
      rw [nI_1]
      exact ih (j + 1) (by omega)
  exact HL7 99 1 (by omega)
theorem dX8_gap_0 : decode cX8_gap 0 = .ok (.iload_n 1, 1) := by decide +kernel
theorem dX8_gap_1 : decode cX8_gap 1 = .ok (.iconst 0, 1) := by decide +kernel
theorem dX8_gap_2 : decode cX8_gap 2 = .ok (.iconst 4, 1) := by decide +kernel
theorem dX8_gap_3 : decode cX8_gap 3 = .ok (.invokestatic 72, 3) := by decide +kernel
theorem dX8_gap_6 : decode cX8_gap 6 = .ok (.ifCond .ne 6, 3) := by decide +kernel
theorem dX8_gap_9 : decode cX8_gap 9 = .ok (.bipush (-2), 2) := by decide +kernel
theorem dX8_gap_11 : decode cX8_gap 11 = .ok (.ireturn, 1) := by decide +kernel
theorem dX8_gap_12 : decode cX8_gap 12 = .ok (.iload_n 2, 1) := by decide +kernel
theorem dX8_gap_13 : decode cX8_gap 13 = .ok (.ifCond .ge 6, 3) := by decide +kernel
theorem dX8_gap_16 : decode cX8_gap 16 = .ok (.bipush (-3), 2) := by decide +kernel
theorem dX8_gap_18 : decode cX8_gap 18 = .ok (.ireturn, 1) := by decide +kernel
theorem dX8_gap_19 : decode cX8_gap 19 = .ok (.aload_n 0, 1) := by decide +kernel
theorem dX8_gap_20 : decode cX8_gap 20 = .ok (.getfield 28, 3) := by decide +kernel
theorem dX8_gap_23 : decode cX8_gap 23 = .ok (.iload_n 1, 1) := by decide +kernel
theorem dX8_gap_24 : decode cX8_gap 24 = .ok (.invokevirtual 175, 3) := by decide +kernel
theorem dX8_gap_27 : decode cX8_gap 27 = .ok (.aload_n 0, 1) := by decide +kernel
theorem dX8_gap_28 : decode cX8_gap 28 = .ok (.getfield 28, 3) := by decide +kernel
theorem dX8_gap_31 : decode cX8_gap 31 = .ok (.iload_n 2, 1) := by decide +kernel
theorem dX8_gap_32 : decode cX8_gap 32 = .ok (.invokevirtual 197, 3) := by decide +kernel
theorem dX8_gap_35 : decode cX8_gap 35 = .ok (.ireturn, 1) := by decide +kernel
set_option maxRecDepth 100000 in
set_option maxHeartbeats 40000000 in
theorem fp_gap {G : vG} {l : Launch} (p i : Int32) : Sp G l yX8_gap cX8_gap 3 (some .int) 2 0 0 [.ref 0, .int p, .int i] (WW σF) (QI (fun x w2 => x = an_gap p i ∧ ∃ τ, w2 = WW (mx τ))) := by
  refine Sp_of_R [(some (.ref 0)), (some (.int p)), (some (.int i))] [] rfl (by simp) rfl (Nat.le_of_ble_eq_true rfl) ?_
  refine R_iload_n (pc := 0) dX8_gap_0 rfl rfl ?_
  refine R_iconst (pc := 1) (v := 0) dX8_gap_1 (by decide) ?_
  refine R_iconst (pc := 2) (v := 4) dX8_gap_2 (by decide) ?_
  refine k_X8_72 (pc := 3) (sp_X8_isWithin _ _ _ _) rfl (by decide) (Nat.le_refl _) (Nat.le_refl _) (by decide) dX8_gap_3 (fun x w2 h => ?_)
  rcases h with ⟨rfl, ⟨h1, rfl⟩ | ⟨h1, rfl⟩⟩
  · skip
    refine R_ifne (pc := 6) 12 dX8_gap_6 (by decide) (fun _ => ?_) (fun h => absurd h (by decide))
    refine R_iload_n (pc := 12) dX8_gap_12 rfl rfl ?_
    refine R_ifge (pc := 13) 19 dX8_gap_13 (by decide) (fun b13_3 => ?_) (fun b13_3 => ?_)
    · skip
      refine R_aload_n (pc := 19) dX8_gap_19 rfl rfl ?_
      refine g_X8_28 (pc := 20) (v := .ref 56) rfl dX8_gap_20 (c_0 _) rfl ?_
      refine R_iload_n (pc := 23) dX8_gap_23 rfl rfl ?_
      refine k_X8_175 (pc := 24) (fx_X5_gather _) rfl (c_56 _) (by decide) (Nat.le_refl _) (Nat.le_refl _) (by decide) dX8_gap_24 (fun w2 h => ?_)
      subst h
      refine R_aload_n (pc := 27) dX8_gap_27 rfl rfl ?_
      refine g_X8_28 (pc := 28) (v := .ref 56) rfl dX8_gap_28 (c_0 _) rfl ?_
      refine R_iload_n (pc := 31) dX8_gap_31 rfl rfl ?_
      refine k_X8_197 (pc := 32) (fx_X5_gapAt _) rfl (c_56 _) (by decide) (Nat.le_refl _) (Nat.le_refl _) (by decide) dX8_gap_32 (fun x w2 h => ?_)
      obtain ⟨rfl, rfl⟩ := h
      exact R_iret (pc := 35) dX8_gap_35 rfl rfl (Nat.zero_le _) (Nat.zero_le _) ⟨_, rfl, (by first | (simp only [an_gap, inB_t h1, cond_true, cond_false, Bool.and_true, Bool.true_and, Bool.and_false, Bool.false_and]; done) | (simp only [an_gap, inB_t h1, cond_true, cond_false, Bool.and_true, Bool.true_and, Bool.and_false, Bool.false_and, b13_3, if_true, if_false, ite_self]; done) | (simp only [an_gap, inB_t h1, cond_true, cond_false, Bool.and_true, Bool.true_and, Bool.and_false, Bool.false_and] <;> simp [b13_3]; done) | (simp only [an_gap, inB_t h1, cond_true, cond_false, Bool.and_true, Bool.true_and, Bool.and_false, Bool.false_and] <;> decide)), mxI _ rfl⟩
    · skip
      refine R_bipush (pc := 16) (v := (-3)) dX8_gap_16 (by decide) ?_
      exact R_iret (pc := 18) dX8_gap_18 rfl rfl (Nat.zero_le _) (Nat.zero_le _) ⟨_, rfl, (by first | (simp only [an_gap, inB_t h1, cond_true, cond_false, Bool.and_true, Bool.true_and, Bool.and_false, Bool.false_and]; done) | (simp only [an_gap, inB_t h1, cond_true, cond_false, Bool.and_true, Bool.true_and, Bool.and_false, Bool.false_and, b13_3, if_true, if_false, ite_self]; done) | (simp only [an_gap, inB_t h1, cond_true, cond_false, Bool.and_true, Bool.true_and, Bool.and_false, Bool.false_and] <;> simp [b13_3]; done) | (simp only [an_gap, inB_t h1, cond_true, cond_false, Bool.and_true, Bool.true_and, Bool.and_false, Bool.false_and] <;> decide)), mxI _ rfl⟩
  · skip
    refine R_ifne (pc := 6) 12 dX8_gap_6 (by decide) (fun h => absurd (by decide) h) (fun _ => ?_)
    refine R_bipush (pc := 9) (v := (-2)) dX8_gap_9 (by decide) ?_
    exact R_iret (pc := 11) dX8_gap_11 rfl rfl (Nat.zero_le _) (Nat.zero_le _) ⟨_, rfl, (by first | (simp only [an_gap, inB_f h1, cond_true, cond_false, Bool.and_true, Bool.true_and, Bool.and_false, Bool.false_and]; done) | (simp only [an_gap, inB_f h1, cond_true, cond_false, Bool.and_true, Bool.true_and, Bool.and_false, Bool.false_and, if_true, if_true, if_false, ite_self]; done) | (simp only [an_gap, inB_f h1, cond_true, cond_false, Bool.and_true, Bool.true_and, Bool.and_false, Bool.false_and] <;> simp []; done) | (simp only [an_gap, inB_f h1, cond_true, cond_false, Bool.and_true, Bool.true_and, Bool.and_false, Bool.false_and] <;> decide)), mxI _ rfl⟩
theorem dX8_series_0 : decode cX8_series 0 = .ok (.iload_n 1, 1) := by decide +kernel
theorem dX8_series_1 : decode cX8_series 1 = .ok (.iconst 0, 1) := by decide +kernel
theorem dX8_series_2 : decode cX8_series 2 = .ok (.iconst 4, 1) := by decide +kernel
theorem dX8_series_3 : decode cX8_series 3 = .ok (.invokestatic 72, 3) := by decide +kernel
theorem dX8_series_6 : decode cX8_series 6 = .ok (.ifCond .ne 6, 3) := by decide +kernel
theorem dX8_series_9 : decode cX8_series 9 = .ok (.bipush (-2), 2) := by decide +kernel
theorem dX8_series_11 : decode cX8_series 11 = .ok (.ireturn, 1) := by decide +kernel
theorem dX8_series_12 : decode cX8_series 12 = .ok (.aload_n 0, 1) := by decide +kernel
theorem dX8_series_13 : decode cX8_series 13 = .ok (.getfield 28, 3) := by decide +kernel
theorem dX8_series_16 : decode cX8_series 16 = .ok (.iload_n 1, 1) := by decide +kernel
theorem dX8_series_17 : decode cX8_series 17 = .ok (.invokevirtual 175, 3) := by decide +kernel
theorem dX8_series_20 : decode cX8_series 20 = .ok (.iload_n 2, 1) := by decide +kernel
theorem dX8_series_21 : decode cX8_series 21 = .ok (.tableswitch 75 0 4 #[35, 43, 51, 59, 67], 35) := by decide +kernel
theorem dX8_series_56 : decode cX8_series 56 = .ok (.aload_n 0, 1) := by decide +kernel
theorem dX8_series_57 : decode cX8_series 57 = .ok (.getfield 28, 3) := by decide +kernel
theorem dX8_series_60 : decode cX8_series 60 = .ok (.getfield 184, 3) := by decide +kernel
theorem dX8_series_63 : decode cX8_series 63 = .ok (.ireturn, 1) := by decide +kernel
theorem dX8_series_64 : decode cX8_series 64 = .ok (.aload_n 0, 1) := by decide +kernel
theorem dX8_series_65 : decode cX8_series 65 = .ok (.getfield 28, 3) := by decide +kernel
theorem dX8_series_68 : decode cX8_series 68 = .ok (.getfield 185, 3) := by decide +kernel
theorem dX8_series_71 : decode cX8_series 71 = .ok (.ireturn, 1) := by decide +kernel
theorem dX8_series_72 : decode cX8_series 72 = .ok (.aload_n 0, 1) := by decide +kernel
theorem dX8_series_73 : decode cX8_series 73 = .ok (.getfield 28, 3) := by decide +kernel
theorem dX8_series_76 : decode cX8_series 76 = .ok (.getfield 188, 3) := by decide +kernel
theorem dX8_series_79 : decode cX8_series 79 = .ok (.ireturn, 1) := by decide +kernel
theorem dX8_series_80 : decode cX8_series 80 = .ok (.aload_n 0, 1) := by decide +kernel
theorem dX8_series_81 : decode cX8_series 81 = .ok (.getfield 28, 3) := by decide +kernel
theorem dX8_series_84 : decode cX8_series 84 = .ok (.invokevirtual 191, 3) := by decide +kernel
theorem dX8_series_87 : decode cX8_series 87 = .ok (.ireturn, 1) := by decide +kernel
theorem dX8_series_88 : decode cX8_series 88 = .ok (.aload_n 0, 1) := by decide +kernel
theorem dX8_series_89 : decode cX8_series 89 = .ok (.getfield 28, 3) := by decide +kernel
theorem dX8_series_92 : decode cX8_series 92 = .ok (.invokevirtual 194, 3) := by decide +kernel
theorem dX8_series_95 : decode cX8_series 95 = .ok (.ireturn, 1) := by decide +kernel
theorem dX8_series_96 : decode cX8_series 96 = .ok (.bipush (-3), 2) := by decide +kernel
theorem dX8_series_98 : decode cX8_series 98 = .ok (.ireturn, 1) := by decide +kernel
set_option maxRecDepth 100000 in
set_option maxHeartbeats 40000000 in
theorem fp_series {G : vG} {l : Launch} (p a : Int32) : Sp G l yX8_series cX8_series 3 (some .int) 2 0 0 [.ref 0, .int p, .int a] (WW σF) (QI (fun x w2 => x = an_series p a ∧ ∃ τ, w2 = WW (mx τ))) := by
  refine Sp_of_R [(some (.ref 0)), (some (.int p)), (some (.int a))] [] rfl (by simp) rfl (Nat.le_of_ble_eq_true rfl) ?_
  refine R_iload_n (pc := 0) dX8_series_0 rfl rfl ?_
  refine R_iconst (pc := 1) (v := 0) dX8_series_1 (by decide) ?_
  refine R_iconst (pc := 2) (v := 4) dX8_series_2 (by decide) ?_
  refine k_X8_72 (pc := 3) (sp_X8_isWithin _ _ _ _) rfl (by decide) (Nat.le_refl _) (Nat.le_refl _) (by decide) dX8_series_3 (fun x w2 h => ?_)
  rcases h with ⟨rfl, ⟨h1, rfl⟩ | ⟨h1, rfl⟩⟩
  · skip
    refine R_ifne (pc := 6) 12 dX8_series_6 (by decide) (fun _ => ?_) (fun h => absurd h (by decide))
    refine R_aload_n (pc := 12) dX8_series_12 rfl rfl ?_
    refine g_X8_28 (pc := 13) (v := .ref 56) rfl dX8_series_13 (c_0 _) rfl ?_
    refine R_iload_n (pc := 16) dX8_series_16 rfl rfl ?_
    refine k_X8_175 (pc := 17) (fx_X5_gather _) rfl (c_56 _) (by decide) (Nat.le_refl _) (Nat.le_refl _) (by decide) dX8_series_17 (fun w2 h => ?_)
    subst h
    refine R_iload_n (pc := 20) dX8_series_20 rfl rfl ?_
    rcases sw4 a with rfl | rfl | rfl | rfl | rfl | hsw
    · skip
      refine R_tin (pc := 21) 56 dX8_series_21 (by decide) (by decide) rfl (by decide) ?_
      refine R_aload_n (pc := 56) dX8_series_56 rfl rfl ?_
      refine g_X8_28 (pc := 57) (v := .ref 56) rfl dX8_series_57 (c_0 _) rfl ?_
      refine g_X8_184 (pc := 60) (v := .int 0) rfl dX8_series_60 (c_56 _) rfl ?_
      exact R_iret (pc := 63) dX8_series_63 rfl rfl (Nat.zero_le _) (Nat.zero_le _) ⟨_, rfl, (by first | (simp only [an_series, inB_t h1, inB_t (show inR 0 0 4 from ⟨by decide, by decide⟩), cond_true, cond_false, Bool.and_true, Bool.true_and, Bool.and_false, Bool.false_and]; done) | (simp only [an_series, inB_t h1, inB_t (show inR 0 0 4 from ⟨by decide, by decide⟩), cond_true, cond_false, Bool.and_true, Bool.true_and, Bool.and_false, Bool.false_and, if_true, if_true, if_false, ite_self]; done) | (simp only [an_series, inB_t h1, inB_t (show inR 0 0 4 from ⟨by decide, by decide⟩), cond_true, cond_false, Bool.and_true, Bool.true_and, Bool.and_false, Bool.false_and] <;> simp []; done) | (simp only [an_series, inB_t h1, inB_t (show inR 0 0 4 from ⟨by decide, by decide⟩), cond_true, cond_false, Bool.and_true, Bool.true_and, Bool.and_false, Bool.false_and] <;> decide)), mxI _ rfl⟩
    · skip
      refine R_tin (pc := 21) 64 dX8_series_21 (by decide) (by decide) rfl (by decide) ?_
      refine R_aload_n (pc := 64) dX8_series_64 rfl rfl ?_
      refine g_X8_28 (pc := 65) (v := .ref 56) rfl dX8_series_65 (c_0 _) rfl ?_
      refine g_X8_185 (pc := 68) (v := .int (-1)) rfl dX8_series_68 (c_56 _) rfl ?_
      exact R_iret (pc := 71) dX8_series_71 rfl rfl (Nat.zero_le _) (Nat.zero_le _) ⟨_, rfl, (by first | (simp only [an_series, inB_t h1, inB_t (show inR 1 0 4 from ⟨by decide, by decide⟩), cond_true, cond_false, Bool.and_true, Bool.true_and, Bool.and_false, Bool.false_and]; done) | (simp only [an_series, inB_t h1, inB_t (show inR 1 0 4 from ⟨by decide, by decide⟩), cond_true, cond_false, Bool.and_true, Bool.true_and, Bool.and_false, Bool.false_and, if_true, if_true, if_false, ite_self]; done) | (simp only [an_series, inB_t h1, inB_t (show inR 1 0 4 from ⟨by decide, by decide⟩), cond_true, cond_false, Bool.and_true, Bool.true_and, Bool.and_false, Bool.false_and] <;> simp []; done) | (simp only [an_series, inB_t h1, inB_t (show inR 1 0 4 from ⟨by decide, by decide⟩), cond_true, cond_false, Bool.and_true, Bool.true_and, Bool.and_false, Bool.false_and] <;> decide)), mxI _ rfl⟩
    · skip
      refine R_tin (pc := 21) 72 dX8_series_21 (by decide) (by decide) rfl (by decide) ?_
      refine R_aload_n (pc := 72) dX8_series_72 rfl rfl ?_
      refine g_X8_28 (pc := 73) (v := .ref 56) rfl dX8_series_73 (c_0 _) rfl ?_
      refine g_X8_188 (pc := 76) (v := .int (-1)) rfl dX8_series_76 (c_56 _) rfl ?_
      exact R_iret (pc := 79) dX8_series_79 rfl rfl (Nat.zero_le _) (Nat.zero_le _) ⟨_, rfl, (by first | (simp only [an_series, inB_t h1, inB_t (show inR 2 0 4 from ⟨by decide, by decide⟩), cond_true, cond_false, Bool.and_true, Bool.true_and, Bool.and_false, Bool.false_and]; done) | (simp only [an_series, inB_t h1, inB_t (show inR 2 0 4 from ⟨by decide, by decide⟩), cond_true, cond_false, Bool.and_true, Bool.true_and, Bool.and_false, Bool.false_and, if_true, if_true, if_false, ite_self]; done) | (simp only [an_series, inB_t h1, inB_t (show inR 2 0 4 from ⟨by decide, by decide⟩), cond_true, cond_false, Bool.and_true, Bool.true_and, Bool.and_false, Bool.false_and] <;> simp []; done) | (simp only [an_series, inB_t h1, inB_t (show inR 2 0 4 from ⟨by decide, by decide⟩), cond_true, cond_false, Bool.and_true, Bool.true_and, Bool.and_false, Bool.false_and] <;> decide)), mxI _ rfl⟩
    · skip
      refine R_tin (pc := 21) 80 dX8_series_21 (by decide) (by decide) rfl (by decide) ?_
      refine R_aload_n (pc := 80) dX8_series_80 rfl rfl ?_
      refine g_X8_28 (pc := 81) (v := .ref 56) rfl dX8_series_81 (c_0 _) rfl ?_
      refine k_X8_191 (pc := 84) (fx_X5_missing) rfl (c_56 _) (by decide) (Nat.le_refl _) (Nat.le_refl _) (by decide) dX8_series_84 (fun x w2 h => ?_)
      obtain ⟨rfl, rfl⟩ := h
      exact R_iret (pc := 87) dX8_series_87 rfl rfl (Nat.zero_le _) (Nat.zero_le _) ⟨_, rfl, (by first | (simp only [an_series, inB_t h1, inB_t (show inR 3 0 4 from ⟨by decide, by decide⟩), cond_true, cond_false, Bool.and_true, Bool.true_and, Bool.and_false, Bool.false_and]; done) | (simp only [an_series, inB_t h1, inB_t (show inR 3 0 4 from ⟨by decide, by decide⟩), cond_true, cond_false, Bool.and_true, Bool.true_and, Bool.and_false, Bool.false_and, if_true, if_true, if_false, ite_self]; done) | (simp only [an_series, inB_t h1, inB_t (show inR 3 0 4 from ⟨by decide, by decide⟩), cond_true, cond_false, Bool.and_true, Bool.true_and, Bool.and_false, Bool.false_and] <;> simp []; done) | (simp only [an_series, inB_t h1, inB_t (show inR 3 0 4 from ⟨by decide, by decide⟩), cond_true, cond_false, Bool.and_true, Bool.true_and, Bool.and_false, Bool.false_and] <;> decide)), mxI _ rfl⟩
    · skip
      refine R_tin (pc := 21) 88 dX8_series_21 (by decide) (by decide) rfl (by decide) ?_
      refine R_aload_n (pc := 88) dX8_series_88 rfl rfl ?_
      refine g_X8_28 (pc := 89) (v := .ref 56) rfl dX8_series_89 (c_0 _) rfl ?_
      refine k_X8_194 (pc := 92) (fx_X5_gaps) rfl (c_56 _) (by decide) (Nat.le_refl _) (Nat.le_refl _) (by decide) dX8_series_92 (fun x w2 h => ?_)
      obtain ⟨rfl, rfl⟩ := h
      exact R_iret (pc := 95) dX8_series_95 rfl rfl (Nat.zero_le _) (Nat.zero_le _) ⟨_, rfl, (by first | (simp only [an_series, inB_t h1, inB_t (show inR 4 0 4 from ⟨by decide, by decide⟩), cond_true, cond_false, Bool.and_true, Bool.true_and, Bool.and_false, Bool.false_and]; done) | (simp only [an_series, inB_t h1, inB_t (show inR 4 0 4 from ⟨by decide, by decide⟩), cond_true, cond_false, Bool.and_true, Bool.true_and, Bool.and_false, Bool.false_and, if_true, if_true, if_false, ite_self]; done) | (simp only [an_series, inB_t h1, inB_t (show inR 4 0 4 from ⟨by decide, by decide⟩), cond_true, cond_false, Bool.and_true, Bool.true_and, Bool.and_false, Bool.false_and] <;> simp []; done) | (simp only [an_series, inB_t h1, inB_t (show inR 4 0 4 from ⟨by decide, by decide⟩), cond_true, cond_false, Bool.and_true, Bool.true_and, Bool.and_false, Bool.false_and] <;> decide)), mxI _ rfl⟩
    · skip
      refine R_tout (pc := 21) 96 dX8_series_21 hsw (by decide) ?_
      refine R_bipush (pc := 96) (v := (-3)) dX8_series_96 (by decide) ?_
      exact R_iret (pc := 98) dX8_series_98 rfl rfl (Nat.zero_le _) (Nat.zero_le _) ⟨_, rfl, (by first | (simp only [an_series, inB_t h1, (sw_out (a := a) (M := 4) hsw), cond_true, cond_false, Bool.and_true, Bool.true_and, Bool.and_false, Bool.false_and]; done) | (simp only [an_series, inB_t h1, (sw_out (a := a) (M := 4) hsw), cond_true, cond_false, Bool.and_true, Bool.true_and, Bool.and_false, Bool.false_and, if_true, if_true, if_false, ite_self]; done) | (simp only [an_series, inB_t h1, (sw_out (a := a) (M := 4) hsw), cond_true, cond_false, Bool.and_true, Bool.true_and, Bool.and_false, Bool.false_and] <;> simp []; done) | (simp only [an_series, inB_t h1, (sw_out (a := a) (M := 4) hsw), cond_true, cond_false, Bool.and_true, Bool.true_and, Bool.and_false, Bool.false_and] <;> decide)), mxI _ rfl⟩
  · skip
    refine R_ifne (pc := 6) 12 dX8_series_6 (by decide) (fun h => absurd (by decide) h) (fun _ => ?_)
    refine R_bipush (pc := 9) (v := (-2)) dX8_series_9 (by decide) ?_
    exact R_iret (pc := 11) dX8_series_11 rfl rfl (Nat.zero_le _) (Nat.zero_le _) ⟨_, rfl, (by first | (simp only [an_series, inB_f h1, cond_true, cond_false, Bool.and_true, Bool.true_and, Bool.and_false, Bool.false_and]; done) | (simp only [an_series, inB_f h1, cond_true, cond_false, Bool.and_true, Bool.true_and, Bool.and_false, Bool.false_and, if_true, if_true, if_false, ite_self]; done) | (simp only [an_series, inB_f h1, cond_true, cond_false, Bool.and_true, Bool.true_and, Bool.and_false, Bool.false_and] <;> simp []; done) | (simp only [an_series, inB_f h1, cond_true, cond_false, Bool.and_true, Bool.true_and, Bool.and_false, Bool.false_and] <;> decide)), mxI _ rfl⟩
theorem dX8_count_0 : decode cX8_count 0 = .ok (.iload_n 1, 1) := by decide +kernel
theorem dX8_count_1 : decode cX8_count 1 = .ok (.tableswitch 134 0 7 #[47, 55, 66, 84, 102, 110, 118, 126], 47) := by decide +kernel
theorem dX8_count_48 : decode cX8_count 48 = .ok (.aload_n 0, 1) := by decide +kernel
theorem dX8_count_49 : decode cX8_count 49 = .ok (.getfield 10, 3) := by decide +kernel
theorem dX8_count_52 : decode cX8_count 52 = .ok (.getfield 76, 3) := by decide +kernel
theorem dX8_count_55 : decode cX8_count 55 = .ok (.ireturn, 1) := by decide +kernel
theorem dX8_count_56 : decode cX8_count 56 = .ok (.aload_n 0, 1) := by decide +kernel
theorem dX8_count_57 : decode cX8_count 57 = .ok (.getfield 10, 3) := by decide +kernel
theorem dX8_count_60 : decode cX8_count 60 = .ok (.invokevirtual 126, 3) := by decide +kernel
theorem dX8_count_63 : decode cX8_count 63 = .ok (.invokestatic 159, 3) := by decide +kernel
theorem dX8_count_66 : decode cX8_count 66 = .ok (.ireturn, 1) := by decide +kernel
theorem dX8_count_67 : decode cX8_count 67 = .ok (.aload_n 0, 1) := by decide +kernel
theorem dX8_count_68 : decode cX8_count 68 = .ok (.getfield 21, 3) := by decide +kernel
theorem dX8_count_71 : decode cX8_count 71 = .ok (.aload_n 0, 1) := by decide +kernel
theorem dX8_count_72 : decode cX8_count 72 = .ok (.getfield 10, 3) := by decide +kernel
theorem dX8_count_75 : decode cX8_count 75 = .ok (.invokevirtual 126, 3) := by decide +kernel
theorem dX8_count_78 : decode cX8_count 78 = .ok (.invokevirtual 319, 3) := by decide +kernel
theorem dX8_count_81 : decode cX8_count 81 = .ok (.invokestatic 159, 3) := by decide +kernel
theorem dX8_count_84 : decode cX8_count 84 = .ok (.ireturn, 1) := by decide +kernel
theorem dX8_count_85 : decode cX8_count 85 = .ok (.aload_n 0, 1) := by decide +kernel
theorem dX8_count_86 : decode cX8_count 86 = .ok (.getfield 21, 3) := by decide +kernel
theorem dX8_count_89 : decode cX8_count 89 = .ok (.aload_n 0, 1) := by decide +kernel
theorem dX8_count_90 : decode cX8_count 90 = .ok (.getfield 10, 3) := by decide +kernel
theorem dX8_count_93 : decode cX8_count 93 = .ok (.invokevirtual 126, 3) := by decide +kernel
theorem dX8_count_96 : decode cX8_count 96 = .ok (.invokevirtual 206, 3) := by decide +kernel
theorem dX8_count_99 : decode cX8_count 99 = .ok (.invokestatic 159, 3) := by decide +kernel
theorem dX8_count_102 : decode cX8_count 102 = .ok (.ireturn, 1) := by decide +kernel
theorem dX8_count_103 : decode cX8_count 103 = .ok (.aload_n 0, 1) := by decide +kernel
theorem dX8_count_104 : decode cX8_count 104 = .ok (.getfield 10, 3) := by decide +kernel
theorem dX8_count_107 : decode cX8_count 107 = .ok (.getfield 109, 3) := by decide +kernel
theorem dX8_count_110 : decode cX8_count 110 = .ok (.ireturn, 1) := by decide +kernel
theorem dX8_count_111 : decode cX8_count 111 = .ok (.aload_n 0, 1) := by decide +kernel
theorem dX8_count_112 : decode cX8_count 112 = .ok (.getfield 51, 3) := by decide +kernel
theorem dX8_count_115 : decode cX8_count 115 = .ok (.getfield 291, 3) := by decide +kernel
theorem dX8_count_118 : decode cX8_count 118 = .ok (.ireturn, 1) := by decide +kernel
theorem dX8_count_119 : decode cX8_count 119 = .ok (.aload_n 0, 1) := by decide +kernel
theorem dX8_count_120 : decode cX8_count 120 = .ok (.getfield 62, 3) := by decide +kernel
theorem dX8_count_123 : decode cX8_count 123 = .ok (.getfield 299, 3) := by decide +kernel
theorem dX8_count_126 : decode cX8_count 126 = .ok (.ireturn, 1) := by decide +kernel
theorem dX8_count_127 : decode cX8_count 127 = .ok (.aload_n 0, 1) := by decide +kernel
theorem dX8_count_128 : decode cX8_count 128 = .ok (.getfield 37, 3) := by decide +kernel
theorem dX8_count_131 : decode cX8_count 131 = .ok (.getfield 233, 3) := by decide +kernel
theorem dX8_count_134 : decode cX8_count 134 = .ok (.ireturn, 1) := by decide +kernel
theorem dX8_count_135 : decode cX8_count 135 = .ok (.bipush (-3), 2) := by decide +kernel
theorem dX8_count_137 : decode cX8_count 137 = .ok (.ireturn, 1) := by decide +kernel
set_option maxRecDepth 100000 in
set_option maxHeartbeats 40000000 in
theorem fp_count {G : vG} {l : Launch} (a : Int32) : Sp G l yX8_count cX8_count 2 (some .int) 5 0 0 [.ref 0, .int a] (WW σF) (QI (fun x w2 => x = an_count a ∧ ∃ τ, w2 = WW (mx τ))) := by
  refine Sp_of_R [(some (.ref 0)), (some (.int a))] [] rfl (by simp) rfl (Nat.le_of_ble_eq_true rfl) ?_
  refine R_iload_n (pc := 0) dX8_count_0 rfl rfl ?_
  rcases sw7 a with rfl | rfl | rfl | rfl | rfl | rfl | rfl | rfl | hsw
  · skip
    refine R_tin (pc := 1) 48 dX8_count_1 (by decide) (by decide) rfl (by decide) ?_
    refine R_aload_n (pc := 48) dX8_count_48 rfl rfl ?_
    refine g_X8_10 (pc := 49) (v := .ref 1) rfl dX8_count_49 (c_0 _) rfl ?_
    refine g_X8_76 (pc := 52) (v := .int 0) rfl dX8_count_52 (c_1 _) rfl ?_
    exact R_iret (pc := 55) dX8_count_55 rfl rfl (Nat.zero_le _) (Nat.zero_le _) ⟨_, rfl, (by first | (simp only [an_count, inB_t (show inR 0 0 7 from ⟨by decide, by decide⟩), cond_true, cond_false, Bool.and_true, Bool.true_and, Bool.and_false, Bool.false_and]; done) | (simp only [an_count, inB_t (show inR 0 0 7 from ⟨by decide, by decide⟩), cond_true, cond_false, Bool.and_true, Bool.true_and, Bool.and_false, Bool.false_and, if_true, if_true, if_false, ite_self]; done) | (simp only [an_count, inB_t (show inR 0 0 7 from ⟨by decide, by decide⟩), cond_true, cond_false, Bool.and_true, Bool.true_and, Bool.and_false, Bool.false_and] <;> simp []; done) | (simp only [an_count, inB_t (show inR 0 0 7 from ⟨by decide, by decide⟩), cond_true, cond_false, Bool.and_true, Bool.true_and, Bool.and_false, Bool.false_and] <;> decide)), mxI _ rfl⟩
  · skip
    refine R_tin (pc := 1) 56 dX8_count_1 (by decide) (by decide) rfl (by decide) ?_
    refine R_aload_n (pc := 56) dX8_count_56 rfl rfl ?_
    refine g_X8_10 (pc := 57) (v := .ref 1) rfl dX8_count_57 (c_0 _) rfl ?_
    refine k_X8_126 (pc := 60) (fx_X0_there _ rfl) rfl (c_1 _) (by decide) (Nat.le_refl _) (Nat.le_refl _) (by decide) dX8_count_60 (fun x w2 h => ?_)
    obtain ⟨rfl, rfl⟩ := h
    refine k_X8_159 (pc := 63) (sp_J6_bitCount_0f7a4 _ _) rfl (by decide) (Nat.le_refl _) (Nat.le_refl _) (by decide) dX8_count_63 (fun x w2 h => ?_)
    obtain ⟨rfl, rfl⟩ := h
    refine R_cv 0 (by decide) ?_
    exact R_iret (pc := 66) dX8_count_66 rfl rfl (Nat.zero_le _) (Nat.zero_le _) ⟨_, rfl, (by first | (simp only [an_count, inB_t (show inR 1 0 7 from ⟨by decide, by decide⟩), cond_true, cond_false, Bool.and_true, Bool.true_and, Bool.and_false, Bool.false_and]; done) | (simp only [an_count, inB_t (show inR 1 0 7 from ⟨by decide, by decide⟩), cond_true, cond_false, Bool.and_true, Bool.true_and, Bool.and_false, Bool.false_and, if_true, if_true, if_false, ite_self]; done) | (simp only [an_count, inB_t (show inR 1 0 7 from ⟨by decide, by decide⟩), cond_true, cond_false, Bool.and_true, Bool.true_and, Bool.and_false, Bool.false_and] <;> simp []; done) | (simp only [an_count, inB_t (show inR 1 0 7 from ⟨by decide, by decide⟩), cond_true, cond_false, Bool.and_true, Bool.true_and, Bool.and_false, Bool.false_and] <;> decide)), mxI _ rfl⟩
  · skip
    refine R_tin (pc := 1) 67 dX8_count_1 (by decide) (by decide) rfl (by decide) ?_
    refine R_aload_n (pc := 67) dX8_count_67 rfl rfl ?_
    refine g_X8_21 (pc := 68) (v := .ref 12) rfl dX8_count_68 (c_0 _) rfl ?_
    refine R_aload_n (pc := 71) dX8_count_71 rfl rfl ?_
    refine g_X8_10 (pc := 72) (v := .ref 1) rfl dX8_count_72 (c_0 _) rfl ?_
    refine k_X8_126 (pc := 75) (fx_X0_there _ rfl) rfl (c_1 _) (by decide) (Nat.le_refl _) (Nat.le_refl _) (by decide) dX8_count_75 (fun x w2 h => ?_)
    obtain ⟨rfl, rfl⟩ := h
    refine k_X8_319 (pc := 78) (fx_X3_negatives _) rfl (c_12 _) (by decide) (Nat.le_refl _) (Nat.le_refl _) (by decide) dX8_count_78 (fun x w2 h => ?_)
    obtain ⟨rfl, rfl⟩ := h
    refine k_X8_159 (pc := 81) (sp_J6_bitCount_0f7a4 _ _) rfl (by decide) (Nat.le_refl _) (Nat.le_refl _) (by decide) dX8_count_81 (fun x w2 h => ?_)
    obtain ⟨rfl, rfl⟩ := h
    refine R_cv 0 (by decide) ?_
    exact R_iret (pc := 84) dX8_count_84 rfl rfl (Nat.zero_le _) (Nat.zero_le _) ⟨_, rfl, (by first | (simp only [an_count, inB_t (show inR 2 0 7 from ⟨by decide, by decide⟩), cond_true, cond_false, Bool.and_true, Bool.true_and, Bool.and_false, Bool.false_and]; done) | (simp only [an_count, inB_t (show inR 2 0 7 from ⟨by decide, by decide⟩), cond_true, cond_false, Bool.and_true, Bool.true_and, Bool.and_false, Bool.false_and, if_true, if_true, if_false, ite_self]; done) | (simp only [an_count, inB_t (show inR 2 0 7 from ⟨by decide, by decide⟩), cond_true, cond_false, Bool.and_true, Bool.true_and, Bool.and_false, Bool.false_and] <;> simp []; done) | (simp only [an_count, inB_t (show inR 2 0 7 from ⟨by decide, by decide⟩), cond_true, cond_false, Bool.and_true, Bool.true_and, Bool.and_false, Bool.false_and] <;> decide)), mxI _ rfl⟩
  · skip
    refine R_tin (pc := 1) 85 dX8_count_1 (by decide) (by decide) rfl (by decide) ?_
    refine R_aload_n (pc := 85) dX8_count_85 rfl rfl ?_
    refine g_X8_21 (pc := 86) (v := .ref 12) rfl dX8_count_86 (c_0 _) rfl ?_
    refine R_aload_n (pc := 89) dX8_count_89 rfl rfl ?_
    refine g_X8_10 (pc := 90) (v := .ref 1) rfl dX8_count_90 (c_0 _) rfl ?_
    refine k_X8_126 (pc := 93) (fx_X0_there _ rfl) rfl (c_1 _) (by decide) (Nat.le_refl _) (Nat.le_refl _) (by decide) dX8_count_93 (fun x w2 h => ?_)
    obtain ⟨rfl, rfl⟩ := h
    refine k_X8_206 (pc := 96) (fx_X3_differentCards _) rfl (c_12 _) (by decide) (Nat.le_refl _) (Nat.le_refl _) (by decide) dX8_count_96 (fun x w2 h => ?_)
    obtain ⟨rfl, rfl⟩ := h
    refine k_X8_159 (pc := 99) (sp_J6_bitCount_0f7a4 _ _) rfl (by decide) (Nat.le_refl _) (Nat.le_refl _) (by decide) dX8_count_99 (fun x w2 h => ?_)
    obtain ⟨rfl, rfl⟩ := h
    refine R_cv 0 (by decide) ?_
    exact R_iret (pc := 102) dX8_count_102 rfl rfl (Nat.zero_le _) (Nat.zero_le _) ⟨_, rfl, (by first | (simp only [an_count, inB_t (show inR 3 0 7 from ⟨by decide, by decide⟩), cond_true, cond_false, Bool.and_true, Bool.true_and, Bool.and_false, Bool.false_and]; done) | (simp only [an_count, inB_t (show inR 3 0 7 from ⟨by decide, by decide⟩), cond_true, cond_false, Bool.and_true, Bool.true_and, Bool.and_false, Bool.false_and, if_true, if_true, if_false, ite_self]; done) | (simp only [an_count, inB_t (show inR 3 0 7 from ⟨by decide, by decide⟩), cond_true, cond_false, Bool.and_true, Bool.true_and, Bool.and_false, Bool.false_and] <;> simp []; done) | (simp only [an_count, inB_t (show inR 3 0 7 from ⟨by decide, by decide⟩), cond_true, cond_false, Bool.and_true, Bool.true_and, Bool.and_false, Bool.false_and] <;> decide)), mxI _ rfl⟩
  · skip
    refine R_tin (pc := 1) 103 dX8_count_1 (by decide) (by decide) rfl (by decide) ?_
    refine R_aload_n (pc := 103) dX8_count_103 rfl rfl ?_
    refine g_X8_10 (pc := 104) (v := .ref 1) rfl dX8_count_104 (c_0 _) rfl ?_
    refine g_X8_109 (pc := 107) (v := .int 0) rfl dX8_count_107 (c_1 _) rfl ?_
    exact R_iret (pc := 110) dX8_count_110 rfl rfl (Nat.zero_le _) (Nat.zero_le _) ⟨_, rfl, (by first | (simp only [an_count, inB_t (show inR 4 0 7 from ⟨by decide, by decide⟩), cond_true, cond_false, Bool.and_true, Bool.true_and, Bool.and_false, Bool.false_and]; done) | (simp only [an_count, inB_t (show inR 4 0 7 from ⟨by decide, by decide⟩), cond_true, cond_false, Bool.and_true, Bool.true_and, Bool.and_false, Bool.false_and, if_true, if_true, if_false, ite_self]; done) | (simp only [an_count, inB_t (show inR 4 0 7 from ⟨by decide, by decide⟩), cond_true, cond_false, Bool.and_true, Bool.true_and, Bool.and_false, Bool.false_and] <;> simp []; done) | (simp only [an_count, inB_t (show inR 4 0 7 from ⟨by decide, by decide⟩), cond_true, cond_false, Bool.and_true, Bool.true_and, Bool.and_false, Bool.false_and] <;> decide)), mxI _ rfl⟩
  · skip
    refine R_tin (pc := 1) 111 dX8_count_1 (by decide) (by decide) rfl (by decide) ?_
    refine R_aload_n (pc := 111) dX8_count_111 rfl rfl ?_
    refine g_X8_51 (pc := 112) (v := .ref 117) rfl dX8_count_112 (c_0 _) rfl ?_
    refine g_X8_291 (pc := 115) (v := .int 0) rfl dX8_count_115 (c_117 _) rfl ?_
    exact R_iret (pc := 118) dX8_count_118 rfl rfl (Nat.zero_le _) (Nat.zero_le _) ⟨_, rfl, (by first | (simp only [an_count, inB_t (show inR 5 0 7 from ⟨by decide, by decide⟩), cond_true, cond_false, Bool.and_true, Bool.true_and, Bool.and_false, Bool.false_and]; done) | (simp only [an_count, inB_t (show inR 5 0 7 from ⟨by decide, by decide⟩), cond_true, cond_false, Bool.and_true, Bool.true_and, Bool.and_false, Bool.false_and, if_true, if_true, if_false, ite_self]; done) | (simp only [an_count, inB_t (show inR 5 0 7 from ⟨by decide, by decide⟩), cond_true, cond_false, Bool.and_true, Bool.true_and, Bool.and_false, Bool.false_and] <;> simp []; done) | (simp only [an_count, inB_t (show inR 5 0 7 from ⟨by decide, by decide⟩), cond_true, cond_false, Bool.and_true, Bool.true_and, Bool.and_false, Bool.false_and] <;> decide)), mxI _ rfl⟩
  · skip
    refine R_tin (pc := 1) 119 dX8_count_1 (by decide) (by decide) rfl (by decide) ?_
    refine R_aload_n (pc := 119) dX8_count_119 rfl rfl ?_
    refine g_X8_62 (pc := 120) (v := .ref 126) rfl dX8_count_120 (c_0 _) rfl ?_
    refine g_X8_299 (pc := 123) (v := .int 0) rfl dX8_count_123 (c_126 _) rfl ?_
    exact R_iret (pc := 126) dX8_count_126 rfl rfl (Nat.zero_le _) (Nat.zero_le _) ⟨_, rfl, (by first | (simp only [an_count, inB_t (show inR 6 0 7 from ⟨by decide, by decide⟩), cond_true, cond_false, Bool.and_true, Bool.true_and, Bool.and_false, Bool.false_and]; done) | (simp only [an_count, inB_t (show inR 6 0 7 from ⟨by decide, by decide⟩), cond_true, cond_false, Bool.and_true, Bool.true_and, Bool.and_false, Bool.false_and, if_true, if_true, if_false, ite_self]; done) | (simp only [an_count, inB_t (show inR 6 0 7 from ⟨by decide, by decide⟩), cond_true, cond_false, Bool.and_true, Bool.true_and, Bool.and_false, Bool.false_and] <;> simp []; done) | (simp only [an_count, inB_t (show inR 6 0 7 from ⟨by decide, by decide⟩), cond_true, cond_false, Bool.and_true, Bool.true_and, Bool.and_false, Bool.false_and] <;> decide)), mxI _ rfl⟩
  · skip
    refine R_tin (pc := 1) 127 dX8_count_1 (by decide) (by decide) rfl (by decide) ?_
    refine R_aload_n (pc := 127) dX8_count_127 rfl rfl ?_
    refine g_X8_37 (pc := 128) (v := .ref 58) rfl dX8_count_128 (c_0 _) rfl ?_
    refine g_X8_233 (pc := 131) (v := .int 0) rfl dX8_count_131 (c_58 _) rfl ?_
    exact R_iret (pc := 134) dX8_count_134 rfl rfl (Nat.zero_le _) (Nat.zero_le _) ⟨_, rfl, (by first | (simp only [an_count, inB_t (show inR 7 0 7 from ⟨by decide, by decide⟩), cond_true, cond_false, Bool.and_true, Bool.true_and, Bool.and_false, Bool.false_and]; done) | (simp only [an_count, inB_t (show inR 7 0 7 from ⟨by decide, by decide⟩), cond_true, cond_false, Bool.and_true, Bool.true_and, Bool.and_false, Bool.false_and, if_true, if_true, if_false, ite_self]; done) | (simp only [an_count, inB_t (show inR 7 0 7 from ⟨by decide, by decide⟩), cond_true, cond_false, Bool.and_true, Bool.true_and, Bool.and_false, Bool.false_and] <;> simp []; done) | (simp only [an_count, inB_t (show inR 7 0 7 from ⟨by decide, by decide⟩), cond_true, cond_false, Bool.and_true, Bool.true_and, Bool.and_false, Bool.false_and] <;> decide)), mxI _ rfl⟩
  · skip
    refine R_tout (pc := 1) 135 dX8_count_1 hsw (by decide) ?_
    refine R_bipush (pc := 135) (v := (-3)) dX8_count_135 (by decide) ?_
    exact R_iret (pc := 137) dX8_count_137 rfl rfl (Nat.zero_le _) (Nat.zero_le _) ⟨_, rfl, (by first | (simp only [an_count, (sw_out (a := a) (M := 7) hsw), cond_true, cond_false, Bool.and_true, Bool.true_and, Bool.and_false, Bool.false_and]; done) | (simp only [an_count, (sw_out (a := a) (M := 7) hsw), cond_true, cond_false, Bool.and_true, Bool.true_and, Bool.and_false, Bool.false_and, if_true, if_true, if_false, ite_self]; done) | (simp only [an_count, (sw_out (a := a) (M := 7) hsw), cond_true, cond_false, Bool.and_true, Bool.true_and, Bool.and_false, Bool.false_and] <;> simp []; done) | (simp only [an_count, (sw_out (a := a) (M := 7) hsw), cond_true, cond_false, Bool.and_true, Bool.true_and, Bool.and_false, Bool.false_and] <;> decide)), mxI _ rfl⟩
theorem dX1_findLeaders_0 : decode cX1_findLeaders 0 = .ok (.iload_n 1, 1) := by decide +kernel
theorem dX1_findLeaders_1 : decode cX1_findLeaders 1 = .ok (.istore_n 2, 1) := by decide +kernel
theorem dX1_findLeaders_2 : decode cX1_findLeaders 2 = .ok (.iconst 0, 1) := by decide +kernel
theorem dX1_findLeaders_3 : decode cX1_findLeaders 3 = .ok (.istore_n 3, 1) := by decide +kernel
theorem dX1_findLeaders_4 : decode cX1_findLeaders 4 = .ok (.iload_n 3, 1) := by decide +kernel
theorem dX1_findLeaders_5 : decode cX1_findLeaders 5 = .ok (.bipush 20, 2) := by decide +kernel
theorem dX1_findLeaders_7 : decode cX1_findLeaders 7 = .ok (.if_icmp .ge 81, 3) := by decide +kernel
theorem dX1_findLeaders_10 : decode cX1_findLeaders 10 = .ok (.iload_n 2, 1) := by decide +kernel
theorem dX1_findLeaders_11 : decode cX1_findLeaders 11 = .ok (.iload_n 3, 1) := by decide +kernel
theorem dX1_findLeaders_12 : decode cX1_findLeaders 12 = .ok (.invokestatic 60, 3) := by decide +kernel
theorem dX1_findLeaders_15 : decode cX1_findLeaders 15 = .ok (.ifCond .eq 67, 3) := by decide +kernel
theorem dX1_findLeaders_18 : decode cX1_findLeaders 18 = .ok (.aload_n 0, 1) := by decide +kernel
theorem dX1_findLeaders_19 : decode cX1_findLeaders 19 = .ok (.getfield 38, 3) := by decide +kernel
theorem dX1_findLeaders_22 : decode cX1_findLeaders 22 = .ok (.iload_n 3, 1) := by decide +kernel
theorem dX1_findLeaders_23 : decode cX1_findLeaders 23 = .ok (.iconst 0, 1) := by decide +kernel
theorem dX1_findLeaders_24 : decode cX1_findLeaders 24 = .ok (.sipush 20000, 3) := by decide +kernel
theorem dX1_findLeaders_27 : decode cX1_findLeaders 27 = .ok (.invokevirtual 75, 3) := by decide +kernel
theorem dX1_findLeaders_30 : decode cX1_findLeaders 30 = .ok (.aload_n 0, 1) := by decide +kernel
theorem dX1_findLeaders_31 : decode cX1_findLeaders 31 = .ok (.getfield 52, 3) := by decide +kernel
theorem dX1_findLeaders_34 : decode cX1_findLeaders 34 = .ok (.iload_n 3, 1) := by decide +kernel
theorem dX1_findLeaders_35 : decode cX1_findLeaders 35 = .ok (.iload_n 2, 1) := by decide +kernel
theorem dX1_findLeaders_36 : decode cX1_findLeaders 36 = .ok (.invokevirtual 79, 3) := by decide +kernel
theorem dX1_findLeaders_39 : decode cX1_findLeaders 39 = .ok (.istore 4, 2) := by decide +kernel
theorem dX1_findLeaders_41 : decode cX1_findLeaders 41 = .ok (.iload_n 2, 1) := by decide +kernel
theorem dX1_findLeaders_42 : decode cX1_findLeaders 42 = .ok (.iload 4, 2) := by decide +kernel
theorem dX1_findLeaders_44 : decode cX1_findLeaders 44 = .ok (.iconst (-1), 1) := by decide +kernel
theorem dX1_findLeaders_45 : decode cX1_findLeaders 45 = .ok (.ixor, 1) := by decide +kernel
theorem dX1_findLeaders_46 : decode cX1_findLeaders 46 = .ok (.iand, 1) := by decide +kernel
theorem dX1_findLeaders_47 : decode cX1_findLeaders 47 = .ok (.istore_n 2, 1) := by decide +kernel
theorem dX1_findLeaders_48 : decode cX1_findLeaders 48 = .ok (.iload_n 3, 1) := by decide +kernel
theorem dX1_findLeaders_49 : decode cX1_findLeaders 49 = .ok (.istore 5, 2) := by decide +kernel
theorem dX1_findLeaders_51 : decode cX1_findLeaders 51 = .ok (.iload 5, 2) := by decide +kernel
theorem dX1_findLeaders_53 : decode cX1_findLeaders 53 = .ok (.bipush 20, 2) := by decide +kernel
theorem dX1_findLeaders_55 : decode cX1_findLeaders 55 = .ok (.if_icmp .ge 27, 3) := by decide +kernel
theorem dX1_findLeaders_58 : decode cX1_findLeaders 58 = .ok (.iload 4, 2) := by decide +kernel
theorem dX1_findLeaders_60 : decode cX1_findLeaders 60 = .ok (.iload 5, 2) := by decide +kernel
theorem dX1_findLeaders_62 : decode cX1_findLeaders 62 = .ok (.invokestatic 60, 3) := by decide +kernel
theorem dX1_findLeaders_65 : decode cX1_findLeaders 65 = .ok (.ifCond .eq 11, 3) := by decide +kernel
theorem dX1_findLeaders_68 : decode cX1_findLeaders 68 = .ok (.aload_n 0, 1) := by decide +kernel
theorem dX1_findLeaders_69 : decode cX1_findLeaders 69 = .ok (.getfield 45, 3) := by decide +kernel
theorem dX1_findLeaders_72 : decode cX1_findLeaders 72 = .ok (.iload 5, 2) := by decide +kernel
theorem dX1_findLeaders_74 : decode cX1_findLeaders 74 = .ok (.iload_n 3, 1) := by decide +kernel
theorem dX1_findLeaders_75 : decode cX1_findLeaders 75 = .ok (.iastore, 1) := by decide +kernel
theorem dX1_findLeaders_76 : decode cX1_findLeaders 76 = .ok (.iinc 5 1, 3) := by decide +kernel
theorem dX1_findLeaders_79 : decode cX1_findLeaders 79 = .ok (.goto (-28), 3) := by decide +kernel
theorem dX1_findLeaders_82 : decode cX1_findLeaders 82 = .ok (.iinc 3 1, 3) := by decide +kernel
theorem dX1_findLeaders_85 : decode cX1_findLeaders 85 = .ok (.goto (-81), 3) := by decide +kernel
theorem dX1_findLeaders_88 : decode cX1_findLeaders 88 = .ok (.return_, 1) := by decide +kernel
set_option maxRecDepth 100000 in
set_option maxHeartbeats 40000000 in
theorem fx_X1_findLeaders {G : vG} {l : Launch}  : Sp G l yX1_findLeaders cX1_findLeaders 6 none 4 0 0 [.ref 58, .int 0] (WW σF) (QV (fun w2 => w2 = WW σF)) := by
  refine Sp_of_R [(some (.ref 58)), (some (.int 0)), none, none, none, none] [none, none, none, none] rfl (by simp) rfl (Nat.le_of_ble_eq_true rfl) ?_
  refine R_iload_n (pc := 0) dX1_findLeaders_0 rfl rfl ?_
  refine st_6_2_i_i (pc := 1) dX1_findLeaders_1 ?_
  refine R_iconst (pc := 2) (v := 0) dX1_findLeaders_2 (by decide) ?_
  refine st_6_3_i_i (pc := 3) dX1_findLeaders_3 ?_
  have HL4 : ∀ (q j : Nat), j + q = 20 → R G l yX1_findLeaders cX1_findLeaders 6 none 4 0 0 (QV (fun w2 => w2 = WW σF)) 4 [(some (.ref 58)), (some (.int 0)), (some (.int 0)), (some (.int (nI j))), none, none] [] (WW σF) 0 0 := by
    intro q
    induction q with
    | zero =>
      intro j hj
      obtain rfl : j = 20 := by omega
      refine R_iload_n (pc := 4) dX1_findLeaders_4 rfl rfl ?_
      refine R_bipush (pc := 5) (v := 20) dX1_findLeaders_5 (by decide) ?_
      refine R_icge (pc := 7) 88 dX1_findLeaders_7 (by decide) (fun _ => ?_) (fun h => absurd (by decide) h)
      exact R_vret (pc := 88) dX1_findLeaders_88 rfl (Nat.zero_le _) (Nat.zero_le _) ⟨rfl, rfl⟩
    | succ q ih =>
      intro j hj
      have hlt : j < 20 := by omega
      refine R_iload_n (pc := 4) dX1_findLeaders_4 rfl rfl ?_
      refine R_bipush (pc := 5) (v := 20) dX1_findLeaders_5 (by decide) ?_
      refine R_icge (pc := 7) 88 dX1_findLeaders_7 (by decide) (fun h => absurd h (nI_ge hlt (by decide))) (fun _ => ?_)
      refine R_iload_n (pc := 10) dX1_findLeaders_10 rfl rfl ?_
      refine R_iload_n (pc := 11) dX1_findLeaders_11 rfl rfl ?_
      refine k_X1_60 (pc := 12) (sp_has0 _ _) rfl (by decide) (Nat.le_refl _) (Nat.le_refl _) (by decide) dX1_findLeaders_12 (fun x w2 h => ?_)
      obtain ⟨rfl, rfl⟩ := h
      refine R_ifeq (pc := 15) 82 dX1_findLeaders_15 (by decide) (fun _ => ?_) (fun h => absurd (by decide) h)
      refine inc_6_3_1_i (pc := 82) dX1_findLeaders_82 ?_
      refine R_goto (pc := 85) 4 dX1_findLeaders_85 (by decide) ?_
      rw [nI_1]
      exact ih (j + 1) (by omega)
  exact HL4 20 0 (by omega)
theorem dX1_isSomeEmpty_0 : decode cX1_isSomeEmpty 0 = .ok (.iconst 0, 1) := by decide +kernel
theorem dX1_isSomeEmpty_1 : decode cX1_isSomeEmpty 1 = .ok (.istore_n 2, 1) := by decide +kernel
theorem dX1_isSomeEmpty_2 : decode cX1_isSomeEmpty 2 = .ok (.iload_n 2, 1) := by decide +kernel
theorem dX1_isSomeEmpty_3 : decode cX1_isSomeEmpty 3 = .ok (.bipush 20, 2) := by decide +kernel
theorem dX1_isSomeEmpty_5 : decode cX1_isSomeEmpty 5 = .ok (.if_icmp .ge 71, 3) := by decide +kernel
theorem dX1_isSomeEmpty_8 : decode cX1_isSomeEmpty 8 = .ok (.iload_n 1, 1) := by decide +kernel
theorem dX1_isSomeEmpty_9 : decode cX1_isSomeEmpty 9 = .ok (.iload_n 2, 1) := by decide +kernel
theorem dX1_isSomeEmpty_10 : decode cX1_isSomeEmpty 10 = .ok (.invokestatic 60, 3) := by decide +kernel
theorem dX1_isSomeEmpty_13 : decode cX1_isSomeEmpty 13 = .ok (.ifCond .eq 57, 3) := by decide +kernel
theorem dX1_isSomeEmpty_16 : decode cX1_isSomeEmpty 16 = .ok (.aload_n 0, 1) := by decide +kernel
theorem dX1_isSomeEmpty_17 : decode cX1_isSomeEmpty 17 = .ok (.getfield 42, 3) := by decide +kernel
theorem dX1_isSomeEmpty_20 : decode cX1_isSomeEmpty 20 = .ok (.getfield 133, 3) := by decide +kernel
theorem dX1_isSomeEmpty_23 : decode cX1_isSomeEmpty 23 = .ok (.iload_n 2, 1) := by decide +kernel
theorem dX1_isSomeEmpty_24 : decode cX1_isSomeEmpty 24 = .ok (.iaload, 1) := by decide +kernel
theorem dX1_isSomeEmpty_25 : decode cX1_isSomeEmpty 25 = .ok (.aload_n 0, 1) := by decide +kernel
theorem dX1_isSomeEmpty_26 : decode cX1_isSomeEmpty 26 = .ok (.getfield 42, 3) := by decide +kernel
theorem dX1_isSomeEmpty_29 : decode cX1_isSomeEmpty 29 = .ok (.getfield 136, 3) := by decide +kernel
theorem dX1_isSomeEmpty_32 : decode cX1_isSomeEmpty 32 = .ok (.iload_n 2, 1) := by decide +kernel
theorem dX1_isSomeEmpty_33 : decode cX1_isSomeEmpty 33 = .ok (.iaload, 1) := by decide +kernel
theorem dX1_isSomeEmpty_34 : decode cX1_isSomeEmpty 34 = .ok (.if_icmp .gt 34, 3) := by decide +kernel
theorem dX1_isSomeEmpty_37 : decode cX1_isSomeEmpty 37 = .ok (.aload_n 0, 1) := by decide +kernel
theorem dX1_isSomeEmpty_38 : decode cX1_isSomeEmpty 38 = .ok (.getfield 38, 3) := by decide +kernel
theorem dX1_isSomeEmpty_41 : decode cX1_isSomeEmpty 41 = .ok (.getfield 133, 3) := by decide +kernel
theorem dX1_isSomeEmpty_44 : decode cX1_isSomeEmpty 44 = .ok (.aload_n 0, 1) := by decide +kernel
theorem dX1_isSomeEmpty_45 : decode cX1_isSomeEmpty 45 = .ok (.getfield 45, 3) := by decide +kernel
theorem dX1_isSomeEmpty_48 : decode cX1_isSomeEmpty 48 = .ok (.iload_n 2, 1) := by decide +kernel
theorem dX1_isSomeEmpty_49 : decode cX1_isSomeEmpty 49 = .ok (.iaload, 1) := by decide +kernel
theorem dX1_isSomeEmpty_50 : decode cX1_isSomeEmpty 50 = .ok (.iaload, 1) := by decide +kernel
theorem dX1_isSomeEmpty_51 : decode cX1_isSomeEmpty 51 = .ok (.aload_n 0, 1) := by decide +kernel
theorem dX1_isSomeEmpty_52 : decode cX1_isSomeEmpty 52 = .ok (.getfield 38, 3) := by decide +kernel
theorem dX1_isSomeEmpty_55 : decode cX1_isSomeEmpty 55 = .ok (.getfield 136, 3) := by decide +kernel
theorem dX1_isSomeEmpty_58 : decode cX1_isSomeEmpty 58 = .ok (.aload_n 0, 1) := by decide +kernel
theorem dX1_isSomeEmpty_59 : decode cX1_isSomeEmpty 59 = .ok (.getfield 45, 3) := by decide +kernel
theorem dX1_isSomeEmpty_62 : decode cX1_isSomeEmpty 62 = .ok (.iload_n 2, 1) := by decide +kernel
theorem dX1_isSomeEmpty_63 : decode cX1_isSomeEmpty 63 = .ok (.iaload, 1) := by decide +kernel
theorem dX1_isSomeEmpty_64 : decode cX1_isSomeEmpty 64 = .ok (.iaload, 1) := by decide +kernel
theorem dX1_isSomeEmpty_65 : decode cX1_isSomeEmpty 65 = .ok (.if_icmp .le 5, 3) := by decide +kernel
theorem dX1_isSomeEmpty_68 : decode cX1_isSomeEmpty 68 = .ok (.iconst 1, 1) := by decide +kernel
theorem dX1_isSomeEmpty_69 : decode cX1_isSomeEmpty 69 = .ok (.ireturn, 1) := by decide +kernel
theorem dX1_isSomeEmpty_70 : decode cX1_isSomeEmpty 70 = .ok (.iinc 2 1, 3) := by decide +kernel
theorem dX1_isSomeEmpty_73 : decode cX1_isSomeEmpty 73 = .ok (.goto (-71), 3) := by decide +kernel
theorem dX1_isSomeEmpty_76 : decode cX1_isSomeEmpty 76 = .ok (.iconst 0, 1) := by decide +kernel
theorem dX1_isSomeEmpty_77 : decode cX1_isSomeEmpty 77 = .ok (.ireturn, 1) := by decide +kernel
set_option maxRecDepth 100000 in
set_option maxHeartbeats 40000000 in
theorem fx_X1_isSomeEmpty {G : vG} {l : Launch}  : Sp G l yX1_isSomeEmpty cX1_isSomeEmpty 3 (some .boolean) 1 0 0 [.ref 58, .int 0] (WW σF) (QI (fun x w2 => w2 = WW σF ∧ x = 0)) := by
  refine Sp_of_R [(some (.ref 58)), (some (.int 0)), none] [none] rfl (by simp) rfl (Nat.le_of_ble_eq_true rfl) ?_
  refine R_iconst (pc := 0) (v := 0) dX1_isSomeEmpty_0 (by decide) ?_
  refine st_3_2_i_i (pc := 1) dX1_isSomeEmpty_1 ?_
  have HL2 : ∀ (q j : Nat), j + q = 20 → R G l yX1_isSomeEmpty cX1_isSomeEmpty 3 (some .boolean) 1 0 0 (QI (fun x w2 => w2 = WW σF ∧ x = 0)) 2 [(some (.ref 58)), (some (.int 0)), (some (.int (nI j)))] [] (WW σF) 0 0 := by
    intro q
    induction q with
    | zero =>
      intro j hj
      obtain rfl : j = 20 := by omega
      refine R_iload_n (pc := 2) dX1_isSomeEmpty_2 rfl rfl ?_
      refine R_bipush (pc := 3) (v := 20) dX1_isSomeEmpty_3 (by decide) ?_
      refine R_icge (pc := 5) 76 dX1_isSomeEmpty_5 (by decide) (fun _ => ?_) (fun h => absurd (by decide) h)
      refine R_iconst (pc := 76) (v := 0) dX1_isSomeEmpty_76 (by decide) ?_
      exact R_iret (pc := 77) dX1_isSomeEmpty_77 rfl rfl (Nat.zero_le _) (Nat.zero_le _) ⟨_, rfl, rfl, rfl⟩
    | succ q ih =>
      intro j hj
      have hlt : j < 20 := by omega
      refine R_iload_n (pc := 2) dX1_isSomeEmpty_2 rfl rfl ?_
      refine R_bipush (pc := 3) (v := 20) dX1_isSomeEmpty_3 (by decide) ?_
      refine R_icge (pc := 5) 76 dX1_isSomeEmpty_5 (by decide) (fun h => absurd h (nI_ge hlt (by decide))) (fun _ => ?_)
      refine R_iload_n (pc := 8) dX1_isSomeEmpty_8 rfl rfl ?_
      refine R_iload_n (pc := 9) dX1_isSomeEmpty_9 rfl rfl ?_
      refine k_X1_60 (pc := 10) (sp_has0 _ _) rfl (by decide) (Nat.le_refl _) (Nat.le_refl _) (by decide) dX1_isSomeEmpty_10 (fun x w2 h => ?_)
      obtain ⟨rfl, rfl⟩ := h
      refine R_ifeq (pc := 13) 70 dX1_isSomeEmpty_13 (by decide) (fun _ => ?_) (fun h => absurd (by decide) h)
      refine inc_3_2_1_i (pc := 70) dX1_isSomeEmpty_70 ?_
      refine R_goto (pc := 73) 2 dX1_isSomeEmpty_73 (by decide) ?_
      rw [nI_1]
      exact ih (j + 1) (by omega)
  exact HL2 20 0 (by omega)
theorem dX1_narrow_0 : decode cX1_narrow 0 = .ok (.aload_n 0, 1) := by decide +kernel
theorem dX1_narrow_1 : decode cX1_narrow 1 = .ok (.getfield 38, 3) := by decide +kernel
theorem dX1_narrow_4 : decode cX1_narrow 4 = .ok (.iconst 0, 1) := by decide +kernel
theorem dX1_narrow_5 : decode cX1_narrow 5 = .ok (.putfield 126, 3) := by decide +kernel
theorem dX1_narrow_8 : decode cX1_narrow 8 = .ok (.aload_n 0, 1) := by decide +kernel
theorem dX1_narrow_9 : decode cX1_narrow 9 = .ok (.getfield 42, 3) := by decide +kernel
theorem dX1_narrow_12 : decode cX1_narrow 12 = .ok (.iconst 0, 1) := by decide +kernel
theorem dX1_narrow_13 : decode cX1_narrow 13 = .ok (.putfield 126, 3) := by decide +kernel
theorem dX1_narrow_16 : decode cX1_narrow 16 = .ok (.iconst 0, 1) := by decide +kernel
theorem dX1_narrow_17 : decode cX1_narrow 17 = .ok (.istore_n 2, 1) := by decide +kernel
theorem dX1_narrow_18 : decode cX1_narrow 18 = .ok (.iload_n 2, 1) := by decide +kernel
theorem dX1_narrow_19 : decode cX1_narrow 19 = .ok (.bipush 20, 2) := by decide +kernel
theorem dX1_narrow_21 : decode cX1_narrow 21 = .ok (.if_icmp .ge 66, 3) := by decide +kernel
theorem dX1_narrow_24 : decode cX1_narrow 24 = .ok (.iload_n 1, 1) := by decide +kernel
theorem dX1_narrow_25 : decode cX1_narrow 25 = .ok (.iload_n 2, 1) := by decide +kernel
theorem dX1_narrow_26 : decode cX1_narrow 26 = .ok (.invokestatic 60, 3) := by decide +kernel
theorem dX1_narrow_29 : decode cX1_narrow 29 = .ok (.ifCond .eq 52, 3) := by decide +kernel
theorem dX1_narrow_32 : decode cX1_narrow 32 = .ok (.aload_n 0, 1) := by decide +kernel
theorem dX1_narrow_33 : decode cX1_narrow 33 = .ok (.iload_n 2, 1) := by decide +kernel
theorem dX1_narrow_34 : decode cX1_narrow 34 = .ok (.invokevirtual 130, 3) := by decide +kernel
theorem dX1_narrow_37 : decode cX1_narrow 37 = .ok (.aload_n 0, 1) := by decide +kernel
theorem dX1_narrow_38 : decode cX1_narrow 38 = .ok (.getfield 42, 3) := by decide +kernel
theorem dX1_narrow_41 : decode cX1_narrow 41 = .ok (.iload_n 2, 1) := by decide +kernel
theorem dX1_narrow_42 : decode cX1_narrow 42 = .ok (.aload_n 0, 1) := by decide +kernel
theorem dX1_narrow_43 : decode cX1_narrow 43 = .ok (.getfield 38, 3) := by decide +kernel
theorem dX1_narrow_46 : decode cX1_narrow 46 = .ok (.getfield 133, 3) := by decide +kernel
theorem dX1_narrow_49 : decode cX1_narrow 49 = .ok (.aload_n 0, 1) := by decide +kernel
theorem dX1_narrow_50 : decode cX1_narrow 50 = .ok (.getfield 45, 3) := by decide +kernel
theorem dX1_narrow_53 : decode cX1_narrow 53 = .ok (.iload_n 2, 1) := by decide +kernel
theorem dX1_narrow_54 : decode cX1_narrow 54 = .ok (.iaload, 1) := by decide +kernel
theorem dX1_narrow_55 : decode cX1_narrow 55 = .ok (.iaload, 1) := by decide +kernel
theorem dX1_narrow_56 : decode cX1_narrow 56 = .ok (.invokevirtual 120, 3) := by decide +kernel
theorem dX1_narrow_59 : decode cX1_narrow 59 = .ok (.aload_n 0, 1) := by decide +kernel
theorem dX1_narrow_60 : decode cX1_narrow 60 = .ok (.getfield 38, 3) := by decide +kernel
theorem dX1_narrow_63 : decode cX1_narrow 63 = .ok (.aload_n 0, 1) := by decide +kernel
theorem dX1_narrow_64 : decode cX1_narrow 64 = .ok (.getfield 45, 3) := by decide +kernel
theorem dX1_narrow_67 : decode cX1_narrow 67 = .ok (.iload_n 2, 1) := by decide +kernel
theorem dX1_narrow_68 : decode cX1_narrow 68 = .ok (.iaload, 1) := by decide +kernel
theorem dX1_narrow_69 : decode cX1_narrow 69 = .ok (.aload_n 0, 1) := by decide +kernel
theorem dX1_narrow_70 : decode cX1_narrow 70 = .ok (.getfield 42, 3) := by decide +kernel
theorem dX1_narrow_73 : decode cX1_narrow 73 = .ok (.getfield 136, 3) := by decide +kernel
theorem dX1_narrow_76 : decode cX1_narrow 76 = .ok (.iload_n 2, 1) := by decide +kernel
theorem dX1_narrow_77 : decode cX1_narrow 77 = .ok (.iaload, 1) := by decide +kernel
theorem dX1_narrow_78 : decode cX1_narrow 78 = .ok (.invokevirtual 93, 3) := by decide +kernel
theorem dX1_narrow_81 : decode cX1_narrow 81 = .ok (.iinc 2 1, 3) := by decide +kernel
theorem dX1_narrow_84 : decode cX1_narrow 84 = .ok (.goto (-66), 3) := by decide +kernel
theorem dX1_narrow_87 : decode cX1_narrow 87 = .ok (.iconst 0, 1) := by decide +kernel
theorem dX1_narrow_88 : decode cX1_narrow 88 = .ok (.istore_n 2, 1) := by decide +kernel
theorem dX1_narrow_89 : decode cX1_narrow 89 = .ok (.iload_n 2, 1) := by decide +kernel
theorem dX1_narrow_90 : decode cX1_narrow 90 = .ok (.aload_n 0, 1) := by decide +kernel
theorem dX1_narrow_91 : decode cX1_narrow 91 = .ok (.getfield 139, 3) := by decide +kernel
theorem dX1_narrow_94 : decode cX1_narrow 94 = .ok (.if_icmp .ge 81, 3) := by decide +kernel
theorem dX1_narrow_97 : decode cX1_narrow 97 = .ok (.aload_n 0, 1) := by decide +kernel
theorem dX1_narrow_98 : decode cX1_narrow 98 = .ok (.getfield 29, 3) := by decide +kernel
theorem dX1_narrow_101 : decode cX1_narrow 101 = .ok (.iload_n 2, 1) := by decide +kernel
theorem dX1_narrow_102 : decode cX1_narrow 102 = .ok (.iaload, 1) := by decide +kernel
theorem dX1_narrow_103 : decode cX1_narrow 103 = .ok (.istore_n 3, 1) := by decide +kernel
theorem dX1_narrow_104 : decode cX1_narrow 104 = .ok (.aload_n 0, 1) := by decide +kernel
theorem dX1_narrow_105 : decode cX1_narrow 105 = .ok (.getfield 32, 3) := by decide +kernel
theorem dX1_narrow_108 : decode cX1_narrow 108 = .ok (.iload_n 2, 1) := by decide +kernel
theorem dX1_narrow_109 : decode cX1_narrow 109 = .ok (.iaload, 1) := by decide +kernel
theorem dX1_narrow_110 : decode cX1_narrow 110 = .ok (.istore 4, 2) := by decide +kernel
theorem dX1_narrow_112 : decode cX1_narrow 112 = .ok (.iload_n 1, 1) := by decide +kernel
theorem dX1_narrow_113 : decode cX1_narrow 113 = .ok (.iload_n 3, 1) := by decide +kernel
theorem dX1_narrow_114 : decode cX1_narrow 114 = .ok (.invokestatic 60, 3) := by decide +kernel
theorem dX1_narrow_117 : decode cX1_narrow 117 = .ok (.ifCond .eq 52, 3) := by decide +kernel
theorem dX1_narrow_120 : decode cX1_narrow 120 = .ok (.iload_n 1, 1) := by decide +kernel
theorem dX1_narrow_121 : decode cX1_narrow 121 = .ok (.iload 4, 2) := by decide +kernel
theorem dX1_narrow_123 : decode cX1_narrow 123 = .ok (.invokestatic 60, 3) := by decide +kernel
theorem dX1_narrow_126 : decode cX1_narrow 126 = .ok (.ifCond .eq 43, 3) := by decide +kernel
theorem dX1_narrow_129 : decode cX1_narrow 129 = .ok (.aload_n 0, 1) := by decide +kernel
theorem dX1_narrow_130 : decode cX1_narrow 130 = .ok (.getfield 42, 3) := by decide +kernel
theorem dX1_narrow_133 : decode cX1_narrow 133 = .ok (.iload_n 3, 1) := by decide +kernel
theorem dX1_narrow_134 : decode cX1_narrow 134 = .ok (.aload_n 0, 1) := by decide +kernel
theorem dX1_narrow_135 : decode cX1_narrow 135 = .ok (.getfield 42, 3) := by decide +kernel
theorem dX1_narrow_138 : decode cX1_narrow 138 = .ok (.getfield 133, 3) := by decide +kernel
theorem dX1_narrow_141 : decode cX1_narrow 141 = .ok (.iload 4, 2) := by decide +kernel
theorem dX1_narrow_143 : decode cX1_narrow 143 = .ok (.iaload, 1) := by decide +kernel
theorem dX1_narrow_144 : decode cX1_narrow 144 = .ok (.iconst 1, 1) := by decide +kernel
theorem dX1_narrow_145 : decode cX1_narrow 145 = .ok (.iadd, 1) := by decide +kernel
theorem dX1_narrow_146 : decode cX1_narrow 146 = .ok (.invokevirtual 120, 3) := by decide +kernel
theorem dX1_narrow_149 : decode cX1_narrow 149 = .ok (.aload_n 0, 1) := by decide +kernel
theorem dX1_narrow_150 : decode cX1_narrow 150 = .ok (.getfield 42, 3) := by decide +kernel
theorem dX1_narrow_153 : decode cX1_narrow 153 = .ok (.iload 4, 2) := by decide +kernel
theorem dX1_narrow_155 : decode cX1_narrow 155 = .ok (.aload_n 0, 1) := by decide +kernel
theorem dX1_narrow_156 : decode cX1_narrow 156 = .ok (.getfield 42, 3) := by decide +kernel
theorem dX1_narrow_159 : decode cX1_narrow 159 = .ok (.getfield 136, 3) := by decide +kernel
theorem dX1_narrow_162 : decode cX1_narrow 162 = .ok (.iload_n 3, 1) := by decide +kernel
theorem dX1_narrow_163 : decode cX1_narrow 163 = .ok (.iaload, 1) := by decide +kernel
theorem dX1_narrow_164 : decode cX1_narrow 164 = .ok (.iconst 1, 1) := by decide +kernel
theorem dX1_narrow_165 : decode cX1_narrow 165 = .ok (.isub, 1) := by decide +kernel
theorem dX1_narrow_166 : decode cX1_narrow 166 = .ok (.invokevirtual 93, 3) := by decide +kernel
theorem dX1_narrow_169 : decode cX1_narrow 169 = .ok (.iinc 2 1, 3) := by decide +kernel
theorem dX1_narrow_172 : decode cX1_narrow 172 = .ok (.goto (-83), 3) := by decide +kernel
theorem dX1_narrow_175 : decode cX1_narrow 175 = .ok (.aload_n 0, 1) := by decide +kernel
theorem dX1_narrow_176 : decode cX1_narrow 176 = .ok (.getfield 38, 3) := by decide +kernel
theorem dX1_narrow_179 : decode cX1_narrow 179 = .ok (.getfield 126, 3) := by decide +kernel
theorem dX1_narrow_182 : decode cX1_narrow 182 = .ok (.ifCond .ne 13, 3) := by decide +kernel
theorem dX1_narrow_185 : decode cX1_narrow 185 = .ok (.aload_n 0, 1) := by decide +kernel
theorem dX1_narrow_186 : decode cX1_narrow 186 = .ok (.getfield 42, 3) := by decide +kernel
theorem dX1_narrow_189 : decode cX1_narrow 189 = .ok (.getfield 126, 3) := by decide +kernel
theorem dX1_narrow_192 : decode cX1_narrow 192 = .ok (.ifCond .eq 7, 3) := by decide +kernel
theorem dX1_narrow_195 : decode cX1_narrow 195 = .ok (.iconst 1, 1) := by decide +kernel
theorem dX1_narrow_196 : decode cX1_narrow 196 = .ok (.goto 4, 3) := by decide +kernel
theorem dX1_narrow_199 : decode cX1_narrow 199 = .ok (.iconst 0, 1) := by decide +kernel
theorem dX1_narrow_200 : decode cX1_narrow 200 = .ok (.ireturn, 1) := by decide +kernel
set_option maxRecDepth 100000 in
set_option maxHeartbeats 40000000 in
theorem fx_X1_narrow {G : vG} {l : Launch}  : Sp G l yX1_narrow cX1_narrow 5 (some .boolean) 2 0 0 [.ref 58, .int 0] (WW σF) (QI (fun x w2 => w2 = WW σF ∧ x = 0)) := by
  refine Sp_of_R [(some (.ref 58)), (some (.int 0)), none, none, none] [none, none, none] rfl (by simp) rfl (Nat.le_of_ble_eq_true rfl) ?_
  refine R_aload_n (pc := 0) dX1_narrow_0 rfl rfl ?_
  refine g_X1_38 (pc := 1) (v := .ref 86) rfl dX1_narrow_1 (c_58 _) rfl ?_
  refine R_iconst (pc := 4) (v := 0) dX1_narrow_4 (by decide) ?_
  refine p_X1_126 (pc := 5) rfl dX1_narrow_5 (c_86 _) (by decide) rfl rfl (s_86_2 _ _) ?_
  refine R_aload_n (pc := 8) dX1_narrow_8 rfl rfl ?_
  refine g_X1_42 (pc := 9) (v := .ref 89) rfl dX1_narrow_9 (c_58 _) rfl ?_
  refine R_iconst (pc := 12) (v := 0) dX1_narrow_12 (by decide) ?_
  refine p_X1_126 (pc := 13) rfl dX1_narrow_13 (c_89 _) (by decide) rfl rfl (s_89_2 _ _) ?_
  refine R_iconst (pc := 16) (v := 0) dX1_narrow_16 (by decide) ?_
  refine st_5_2_i_i (pc := 17) dX1_narrow_17 ?_
  have HL18 : ∀ (q j : Nat), j + q = 20 → R G l yX1_narrow cX1_narrow 5 (some .boolean) 2 0 0 (QI (fun x w2 => w2 = WW σF ∧ x = 0)) 18 [(some (.ref 58)), (some (.int 0)), (some (.int (nI j))), none, none] [] (WW (uI (uI σF 8602 0) 8902 0)) 0 0 := by
    intro q
    induction q with
    | zero =>
      intro j hj
      obtain rfl : j = 20 := by omega
      refine R_iload_n (pc := 18) dX1_narrow_18 rfl rfl ?_
      refine R_bipush (pc := 19) (v := 20) dX1_narrow_19 (by decide) ?_
      refine R_icge (pc := 21) 87 dX1_narrow_21 (by decide) (fun _ => ?_) (fun h => absurd (by decide) h)
      refine R_iconst (pc := 87) (v := 0) dX1_narrow_87 (by decide) ?_
      refine st_5_2_i_i (pc := 88) dX1_narrow_88 ?_
      refine R_iload_n (pc := 89) dX1_narrow_89 rfl rfl ?_
      refine R_aload_n (pc := 90) dX1_narrow_90 rfl rfl ?_
      refine g_X1_139 (pc := 91) (v := .int 0) rfl dX1_narrow_91 (c_58 _) rfl ?_
      refine R_icge (pc := 94) 175 dX1_narrow_94 (by decide) (fun _ => ?_) (fun h => absurd (by decide) h)
      refine R_aload_n (pc := 175) dX1_narrow_175 rfl rfl ?_
      refine g_X1_38 (pc := 176) (v := .ref 86) rfl dX1_narrow_176 (c_58 _) rfl ?_
      refine g_X1_126 (pc := 179) (v := .int 0) rfl dX1_narrow_179 (c_86 _) rfl ?_
      refine R_ifne (pc := 182) 195 dX1_narrow_182 (by decide) (fun h => absurd (by decide) h) (fun _ => ?_)
      refine R_aload_n (pc := 185) dX1_narrow_185 rfl rfl ?_
      refine g_X1_42 (pc := 186) (v := .ref 89) rfl dX1_narrow_186 (c_58 _) rfl ?_
      refine g_X1_126 (pc := 189) (v := .int 0) rfl dX1_narrow_189 (c_89 _) rfl ?_
      refine R_ifeq (pc := 192) 199 dX1_narrow_192 (by decide) (fun _ => ?_) (fun h => absurd (by decide) h)
      refine R_iconst (pc := 199) (v := 0) dX1_narrow_199 (by decide) ?_
      exact R_iret (pc := 200) dX1_narrow_200 rfl rfl (Nat.zero_le _) (Nat.zero_le _) ⟨_, rfl, rfl, rfl⟩
    | succ q ih =>
      intro j hj
      have hlt : j < 20 := by omega
      refine R_iload_n (pc := 18) dX1_narrow_18 rfl rfl ?_
      refine R_bipush (pc := 19) (v := 20) dX1_narrow_19 (by decide) ?_
      refine R_icge (pc := 21) 87 dX1_narrow_21 (by decide) (fun h => absurd h (nI_ge hlt (by decide))) (fun _ => ?_)
      refine R_iload_n (pc := 24) dX1_narrow_24 rfl rfl ?_
      refine R_iload_n (pc := 25) dX1_narrow_25 rfl rfl ?_
      refine k_X1_60 (pc := 26) (sp_has0 _ _) rfl (by decide) (Nat.le_refl _) (Nat.le_refl _) (by decide) dX1_narrow_26 (fun x w2 h => ?_)
      obtain ⟨rfl, rfl⟩ := h
      refine R_ifeq (pc := 29) 81 dX1_narrow_29 (by decide) (fun _ => ?_) (fun h => absurd (by decide) h)
      refine inc_5_2_1_i (pc := 81) dX1_narrow_81 ?_
      refine R_goto (pc := 84) 18 dX1_narrow_84 (by decide) ?_
      rw [nI_1]
      exact ih (j + 1) (by omega)
  exact HL18 20 0 (by omega)
theorem dX1_settle_0 : decode cX1_settle 0 = .ok (.aload_n 0, 1) := by decide +kernel
theorem dX1_settle_1 : decode cX1_settle 1 = .ok (.iload_n 1, 1) := by decide +kernel
theorem dX1_settle_2 : decode cX1_settle 2 = .ok (.invokevirtual 56, 3) := by decide +kernel
theorem dX1_settle_5 : decode cX1_settle 5 = .ok (.iconst 0, 1) := by decide +kernel
theorem dX1_settle_6 : decode cX1_settle 6 = .ok (.istore_n 3, 1) := by decide +kernel
theorem dX1_settle_7 : decode cX1_settle 7 = .ok (.iload_n 3, 1) := by decide +kernel
theorem dX1_settle_8 : decode cX1_settle 8 = .ok (.bipush 20, 2) := by decide +kernel
theorem dX1_settle_10 : decode cX1_settle 10 = .ok (.if_icmp .ge 23, 3) := by decide +kernel
theorem dX1_settle_13 : decode cX1_settle 13 = .ok (.iload_n 1, 1) := by decide +kernel
theorem dX1_settle_14 : decode cX1_settle 14 = .ok (.iload_n 3, 1) := by decide +kernel
theorem dX1_settle_15 : decode cX1_settle 15 = .ok (.invokestatic 60, 3) := by decide +kernel
theorem dX1_settle_18 : decode cX1_settle 18 = .ok (.ifCond .eq 9, 3) := by decide +kernel
theorem dX1_settle_21 : decode cX1_settle 21 = .ok (.aload_n 0, 1) := by decide +kernel
theorem dX1_settle_22 : decode cX1_settle 22 = .ok (.iload_n 3, 1) := by decide +kernel
theorem dX1_settle_23 : decode cX1_settle 23 = .ok (.aload_n 2, 1) := by decide +kernel
theorem dX1_settle_24 : decode cX1_settle 24 = .ok (.invokevirtual 64, 3) := by decide +kernel
theorem dX1_settle_27 : decode cX1_settle 27 = .ok (.iinc 3 1, 3) := by decide +kernel
theorem dX1_settle_30 : decode cX1_settle 30 = .ok (.goto (-23), 3) := by decide +kernel
theorem dX1_settle_33 : decode cX1_settle 33 = .ok (.iconst 0, 1) := by decide +kernel
theorem dX1_settle_34 : decode cX1_settle 34 = .ok (.istore_n 3, 1) := by decide +kernel
theorem dX1_settle_35 : decode cX1_settle 35 = .ok (.iload_n 3, 1) := by decide +kernel
theorem dX1_settle_36 : decode cX1_settle 36 = .ok (.bipush 32, 2) := by decide +kernel
theorem dX1_settle_38 : decode cX1_settle 38 = .ok (.if_icmp .ge 33, 3) := by decide +kernel
theorem dX1_settle_41 : decode cX1_settle 41 = .ok (.aload_n 0, 1) := by decide +kernel
theorem dX1_settle_42 : decode cX1_settle 42 = .ok (.iload_n 1, 1) := by decide +kernel
theorem dX1_settle_43 : decode cX1_settle 43 = .ok (.invokevirtual 68, 3) := by decide +kernel
theorem dX1_settle_46 : decode cX1_settle 46 = .ok (.istore 4, 2) := by decide +kernel
theorem dX1_settle_48 : decode cX1_settle 48 = .ok (.aload_n 0, 1) := by decide +kernel
theorem dX1_settle_49 : decode cX1_settle 49 = .ok (.iload_n 1, 1) := by decide +kernel
theorem dX1_settle_50 : decode cX1_settle 50 = .ok (.invokevirtual 72, 3) := by decide +kernel
theorem dX1_settle_53 : decode cX1_settle 53 = .ok (.ifCond .eq 5, 3) := by decide +kernel
theorem dX1_settle_56 : decode cX1_settle 56 = .ok (.iconst 0, 1) := by decide +kernel
theorem dX1_settle_57 : decode cX1_settle 57 = .ok (.ireturn, 1) := by decide +kernel
theorem dX1_settle_58 : decode cX1_settle 58 = .ok (.iload 4, 2) := by decide +kernel
theorem dX1_settle_60 : decode cX1_settle 60 = .ok (.ifCond .ne 5, 3) := by decide +kernel
theorem dX1_settle_63 : decode cX1_settle 63 = .ok (.iconst 1, 1) := by decide +kernel
theorem dX1_settle_64 : decode cX1_settle 64 = .ok (.ireturn, 1) := by decide +kernel
theorem dX1_settle_65 : decode cX1_settle 65 = .ok (.iinc 3 1, 3) := by decide +kernel
theorem dX1_settle_68 : decode cX1_settle 68 = .ok (.goto (-33), 3) := by decide +kernel
theorem dX1_settle_71 : decode cX1_settle 71 = .ok (.iconst 0, 1) := by decide +kernel
theorem dX1_settle_72 : decode cX1_settle 72 = .ok (.ireturn, 1) := by decide +kernel
set_option maxRecDepth 100000 in
set_option maxHeartbeats 40000000 in
theorem fx_X1_settle {G : vG} {l : Launch} (b : Nat) : Sp G l yX1_settle cX1_settle 5 (some .boolean) 5 0 0 [.ref 58, .int 0, .ref b] (WW σF) (QI (fun x w2 => w2 = WW σF ∧ x = 1)) := by
  refine Sp_of_R [(some (.ref 58)), (some (.int 0)), (some (.ref b)), none, none] [none, none] rfl (by simp) rfl (Nat.le_of_ble_eq_true rfl) ?_
  refine R_aload_n (pc := 0) dX1_settle_0 rfl rfl ?_
  refine R_iload_n (pc := 1) dX1_settle_1 rfl rfl ?_
  refine k_X1_56 (pc := 2) (fx_X1_findLeaders) rfl (c_58 _) (by decide) (Nat.le_refl _) (Nat.le_refl _) (by decide) dX1_settle_2 (fun w2 h => ?_)
  subst h
  refine R_iconst (pc := 5) (v := 0) dX1_settle_5 (by decide) ?_
  refine st_5_3_i_a (pc := 6) dX1_settle_6 ?_
  have HL7 : ∀ (q j : Nat), j + q = 20 → R G l yX1_settle cX1_settle 5 (some .boolean) 5 0 0 (QI (fun x w2 => w2 = WW σF ∧ x = 1)) 7 [(some (.ref 58)), (some (.int 0)), (some (.ref b)), (some (.int (nI j))), none] [] (WW σF) 0 0 := by
    intro q
    induction q with
    | zero =>
      intro j hj
      obtain rfl : j = 20 := by omega
      refine R_iload_n (pc := 7) dX1_settle_7 rfl rfl ?_
      refine R_bipush (pc := 8) (v := 20) dX1_settle_8 (by decide) ?_
      refine R_icge (pc := 10) 33 dX1_settle_10 (by decide) (fun _ => ?_) (fun h => absurd (by decide) h)
      refine R_iconst (pc := 33) (v := 0) dX1_settle_33 (by decide) ?_
      refine st_5_3_i_a (pc := 34) dX1_settle_34 ?_
      refine R_iload_n (pc := 35) dX1_settle_35 rfl rfl ?_
      refine R_bipush (pc := 36) (v := 32) dX1_settle_36 (by decide) ?_
      refine R_icge (pc := 38) 71 dX1_settle_38 (by decide) (fun h => absurd h (by decide)) (fun _ => ?_)
      refine R_aload_n (pc := 41) dX1_settle_41 rfl rfl ?_
      refine R_iload_n (pc := 42) dX1_settle_42 rfl rfl ?_
      refine k_X1_68 (pc := 43) (fx_X1_narrow) rfl (c_58 _) (by decide) (Nat.le_refl _) (Nat.le_refl _) (by decide) dX1_settle_43 (fun x w2 h => ?_)
      obtain ⟨rfl, rfl⟩ := h
      refine st_5_4_i_i (pc := 46) dX1_settle_46 ?_
      refine R_aload_n (pc := 48) dX1_settle_48 rfl rfl ?_
      refine R_iload_n (pc := 49) dX1_settle_49 rfl rfl ?_
      refine k_X1_72 (pc := 50) (fx_X1_isSomeEmpty) rfl (c_58 _) (by decide) (Nat.le_refl _) (Nat.le_refl _) (by decide) dX1_settle_50 (fun x w2 h => ?_)
      obtain ⟨rfl, rfl⟩ := h
      refine R_ifeq (pc := 53) 58 dX1_settle_53 (by decide) (fun _ => ?_) (fun h => absurd (by decide) h)
      refine R_iload (pc := 58) dX1_settle_58 rfl ?_
      refine R_ifne (pc := 60) 65 dX1_settle_60 (by decide) (fun h => absurd (by decide) h) (fun _ => ?_)
      refine R_iconst (pc := 63) (v := 1) dX1_settle_63 (by decide) ?_
      exact R_iret (pc := 64) dX1_settle_64 rfl rfl (Nat.zero_le _) (Nat.zero_le _) ⟨_, rfl, rfl, rfl⟩
    | succ q ih =>
      intro j hj
      have hlt : j < 20 := by omega
      refine R_iload_n (pc := 7) dX1_settle_7 rfl rfl ?_
      refine R_bipush (pc := 8) (v := 20) dX1_settle_8 (by decide) ?_
      refine R_icge (pc := 10) 33 dX1_settle_10 (by decide) (fun h => absurd h (nI_ge hlt (by decide))) (fun _ => ?_)
      refine R_iload_n (pc := 13) dX1_settle_13 rfl rfl ?_
      refine R_iload_n (pc := 14) dX1_settle_14 rfl rfl ?_
      refine k_X1_60 (pc := 15) (sp_has0 _ _) rfl (by decide) (Nat.le_refl _) (Nat.le_refl _) (by decide) dX1_settle_15 (fun x w2 h => ?_)
      obtain ⟨rfl, rfl⟩ := h
      refine R_ifeq (pc := 18) 27 dX1_settle_18 (by decide) (fun _ => ?_) (fun h => absurd (by decide) h)
      refine inc_5_3_1_a (pc := 27) dX1_settle_27 ?_
      refine R_goto (pc := 30) 7 dX1_settle_30 (by decide) ?_
      rw [nI_1]
      exact ih (j + 1) (by omega)
  exact HL7 20 0 (by omega)
theorem dX8_quarrel_0 : decode cX8_quarrel 0 = .ok (.aload_n 0, 1) := by decide +kernel
theorem dX8_quarrel_1 : decode cX8_quarrel 1 = .ok (.getfield 37, 3) := by decide +kernel
theorem dX8_quarrel_4 : decode cX8_quarrel 4 = .ok (.aload_n 0, 1) := by decide +kernel
theorem dX8_quarrel_5 : decode cX8_quarrel 5 = .ok (.getfield 10, 3) := by decide +kernel
theorem dX8_quarrel_8 : decode cX8_quarrel 8 = .ok (.invokevirtual 126, 3) := by decide +kernel
theorem dX8_quarrel_11 : decode cX8_quarrel 11 = .ok (.aload_n 0, 1) := by decide +kernel
theorem dX8_quarrel_12 : decode cX8_quarrel 12 = .ok (.getfield 62, 3) := by decide +kernel
theorem dX8_quarrel_15 : decode cX8_quarrel 15 = .ok (.invokevirtual 242, 3) := by decide +kernel
theorem dX8_quarrel_18 : decode cX8_quarrel 18 = .ok (.ifCond .eq 7, 3) := by decide +kernel
theorem dX8_quarrel_21 : decode cX8_quarrel 21 = .ok (.iconst 0, 1) := by decide +kernel
theorem dX8_quarrel_22 : decode cX8_quarrel 22 = .ok (.goto 4, 3) := by decide +kernel
theorem dX8_quarrel_25 : decode cX8_quarrel 25 = .ok (.iconst 1, 1) := by decide +kernel
theorem dX8_quarrel_26 : decode cX8_quarrel 26 = .ok (.ireturn, 1) := by decide +kernel
set_option maxRecDepth 100000 in
set_option maxHeartbeats 40000000 in
theorem fp_quarrel {G : vG} {l : Launch}  : Sp G l yX8_quarrel cX8_quarrel 1 (some .int) 6 0 0 [.ref 0] (WW σF) (QI (fun x w2 => x = 0 ∧ ∃ τ, w2 = WW (mx τ))) := by
  refine Sp_of_R [(some (.ref 0))] [] rfl (by simp) rfl (Nat.le_of_ble_eq_true rfl) ?_
  refine R_aload_n (pc := 0) dX8_quarrel_0 rfl rfl ?_
  refine g_X8_37 (pc := 1) (v := .ref 58) rfl dX8_quarrel_1 (c_0 _) rfl ?_
  refine R_aload_n (pc := 4) dX8_quarrel_4 rfl rfl ?_
  refine g_X8_10 (pc := 5) (v := .ref 1) rfl dX8_quarrel_5 (c_0 _) rfl ?_
  refine k_X8_126 (pc := 8) (fx_X0_there _ rfl) rfl (c_1 _) (by decide) (Nat.le_refl _) (Nat.le_refl _) (by decide) dX8_quarrel_8 (fun x w2 h => ?_)
  obtain ⟨rfl, rfl⟩ := h
  refine R_aload_n (pc := 11) dX8_quarrel_11 rfl rfl ?_
  refine g_X8_62 (pc := 12) (v := .ref 126) rfl dX8_quarrel_12 (c_0 _) rfl ?_
  refine k_X8_242 (pc := 15) (fx_X1_settle _) rfl (c_58 _) (by decide) (Nat.le_refl _) (Nat.le_refl _) (by decide) dX8_quarrel_15 (fun x w2 h => ?_)
  obtain ⟨rfl, rfl⟩ := h
  refine R_ifeq (pc := 18) 25 dX8_quarrel_18 (by decide) (fun h => absurd h (by decide)) (fun _ => ?_)
  refine R_iconst (pc := 21) (v := 0) dX8_quarrel_21 (by decide) ?_
  refine R_goto (pc := 22) 26 dX8_quarrel_22 (by decide) ?_
  exact R_iret (pc := 26) dX8_quarrel_26 rfl rfl (Nat.zero_le _) (Nat.zero_le _) ⟨_, rfl, rfl, mxI _ rfl⟩
theorem dX8_culprit_0 : decode cX8_culprit 0 = .ok (.aload_n 0, 1) := by decide +kernel
theorem dX8_culprit_1 : decode cX8_culprit 1 = .ok (.getfield 10, 3) := by decide +kernel
theorem dX8_culprit_4 : decode cX8_culprit 4 = .ok (.invokevirtual 126, 3) := by decide +kernel
theorem dX8_culprit_7 : decode cX8_culprit 7 = .ok (.istore_n 1, 1) := by decide +kernel
theorem dX8_culprit_8 : decode cX8_culprit 8 = .ok (.aload_n 0, 1) := by decide +kernel
theorem dX8_culprit_9 : decode cX8_culprit 9 = .ok (.getfield 37, 3) := by decide +kernel
theorem dX8_culprit_12 : decode cX8_culprit 12 = .ok (.iload_n 1, 1) := by decide +kernel
theorem dX8_culprit_13 : decode cX8_culprit 13 = .ok (.aload_n 0, 1) := by decide +kernel
theorem dX8_culprit_14 : decode cX8_culprit 14 = .ok (.getfield 62, 3) := by decide +kernel
theorem dX8_culprit_17 : decode cX8_culprit 17 = .ok (.invokevirtual 242, 3) := by decide +kernel
theorem dX8_culprit_20 : decode cX8_culprit 20 = .ok (.ifCond .eq 5, 3) := by decide +kernel
theorem dX8_culprit_23 : decode cX8_culprit 23 = .ok (.iconst (-1), 1) := by decide +kernel
theorem dX8_culprit_24 : decode cX8_culprit 24 = .ok (.ireturn, 1) := by decide +kernel
theorem dX8_culprit_25 : decode cX8_culprit 25 = .ok (.iconst 0, 1) := by decide +kernel
theorem dX8_culprit_26 : decode cX8_culprit 26 = .ok (.istore_n 2, 1) := by decide +kernel
theorem dX8_culprit_27 : decode cX8_culprit 27 = .ok (.iload_n 2, 1) := by decide +kernel
theorem dX8_culprit_28 : decode cX8_culprit 28 = .ok (.bipush 20, 2) := by decide +kernel
theorem dX8_culprit_30 : decode cX8_culprit 30 = .ok (.if_icmp .ge 40, 3) := by decide +kernel
theorem dX8_culprit_33 : decode cX8_culprit 33 = .ok (.iload_n 1, 1) := by decide +kernel
theorem dX8_culprit_34 : decode cX8_culprit 34 = .ok (.iload_n 2, 1) := by decide +kernel
theorem dX8_culprit_35 : decode cX8_culprit 35 = .ok (.invokestatic 209, 3) := by decide +kernel
theorem dX8_culprit_38 : decode cX8_culprit 38 = .ok (.ifCond .eq 26, 3) := by decide +kernel
theorem dX8_culprit_41 : decode cX8_culprit 41 = .ok (.aload_n 0, 1) := by decide +kernel
theorem dX8_culprit_42 : decode cX8_culprit 42 = .ok (.getfield 37, 3) := by decide +kernel
theorem dX8_culprit_45 : decode cX8_culprit 45 = .ok (.iload_n 1, 1) := by decide +kernel
theorem dX8_culprit_46 : decode cX8_culprit 46 = .ok (.iconst 1, 1) := by decide +kernel
theorem dX8_culprit_47 : decode cX8_culprit 47 = .ok (.iload_n 2, 1) := by decide +kernel
theorem dX8_culprit_48 : decode cX8_culprit 48 = .ok (.ishl, 1) := by decide +kernel
theorem dX8_culprit_49 : decode cX8_culprit 49 = .ok (.iconst (-1), 1) := by decide +kernel
theorem dX8_culprit_50 : decode cX8_culprit 50 = .ok (.ixor, 1) := by decide +kernel
theorem dX8_culprit_51 : decode cX8_culprit 51 = .ok (.iand, 1) := by decide +kernel
theorem dX8_culprit_52 : decode cX8_culprit 52 = .ok (.aload_n 0, 1) := by decide +kernel
theorem dX8_culprit_53 : decode cX8_culprit 53 = .ok (.getfield 62, 3) := by decide +kernel
theorem dX8_culprit_56 : decode cX8_culprit 56 = .ok (.invokevirtual 242, 3) := by decide +kernel
theorem dX8_culprit_59 : decode cX8_culprit 59 = .ok (.ifCond .eq 5, 3) := by decide +kernel
theorem dX8_culprit_62 : decode cX8_culprit 62 = .ok (.iload_n 2, 1) := by decide +kernel
theorem dX8_culprit_63 : decode cX8_culprit 63 = .ok (.ireturn, 1) := by decide +kernel
theorem dX8_culprit_64 : decode cX8_culprit 64 = .ok (.iinc 2 1, 3) := by decide +kernel
theorem dX8_culprit_67 : decode cX8_culprit 67 = .ok (.goto (-40), 3) := by decide +kernel
theorem dX8_culprit_70 : decode cX8_culprit 70 = .ok (.iconst (-1), 1) := by decide +kernel
theorem dX8_culprit_71 : decode cX8_culprit 71 = .ok (.ireturn, 1) := by decide +kernel
set_option maxRecDepth 100000 in
set_option maxHeartbeats 40000000 in
theorem fp_culprit {G : vG} {l : Launch}  : Sp G l yX8_culprit cX8_culprit 3 (some .int) 6 0 0 [.ref 0] (WW σF) (QI (fun x w2 => x = -1 ∧ ∃ τ, w2 = WW (mx τ))) := by
  refine Sp_of_R [(some (.ref 0)), none, none] [none, none] rfl (by simp) rfl (Nat.le_of_ble_eq_true rfl) ?_
  refine R_aload_n (pc := 0) dX8_culprit_0 rfl rfl ?_
  refine g_X8_10 (pc := 1) (v := .ref 1) rfl dX8_culprit_1 (c_0 _) rfl ?_
  refine k_X8_126 (pc := 4) (fx_X0_there _ rfl) rfl (c_1 _) (by decide) (Nat.le_refl _) (Nat.le_refl _) (by decide) dX8_culprit_4 (fun x w2 h => ?_)
  obtain ⟨rfl, rfl⟩ := h
  refine st_3_1_i_a (pc := 7) dX8_culprit_7 ?_
  refine R_aload_n (pc := 8) dX8_culprit_8 rfl rfl ?_
  refine g_X8_37 (pc := 9) (v := .ref 58) rfl dX8_culprit_9 (c_0 _) rfl ?_
  refine R_iload_n (pc := 12) dX8_culprit_12 rfl rfl ?_
  refine R_aload_n (pc := 13) dX8_culprit_13 rfl rfl ?_
  refine g_X8_62 (pc := 14) (v := .ref 126) rfl dX8_culprit_14 (c_0 _) rfl ?_
  refine k_X8_242 (pc := 17) (fx_X1_settle _) rfl (c_58 _) (by decide) (Nat.le_refl _) (Nat.le_refl _) (by decide) dX8_culprit_17 (fun x w2 h => ?_)
  obtain ⟨rfl, rfl⟩ := h
  refine R_ifeq (pc := 20) 25 dX8_culprit_20 (by decide) (fun h => absurd h (by decide)) (fun _ => ?_)
  refine R_iconst (pc := 23) (v := (-1)) dX8_culprit_23 (by decide) ?_
  exact R_iret (pc := 24) dX8_culprit_24 rfl rfl (Nat.zero_le _) (Nat.zero_le _) ⟨_, rfl, rfl, mxI _ rfl⟩
