/-! methods on any state that keeps the invariant -/
theorem dX9_unseen_0 : decode cX9_unseen 0 = .ok (.iload_n 1, 1) := by decide +kernel
theorem dX9_unseen_1 : decode cX9_unseen 1 = .ok (.iconst 0, 1) := by decide +kernel
theorem dX9_unseen_2 : decode cX9_unseen 2 = .ok (.iconst 1, 1) := by decide +kernel
theorem dX9_unseen_3 : decode cX9_unseen 3 = .ok (.invokestatic 124, 3) := by decide +kernel
theorem dX9_unseen_6 : decode cX9_unseen 6 = .ok (.ifCond .ne 6, 3) := by decide +kernel
theorem dX9_unseen_9 : decode cX9_unseen 9 = .ok (.bipush (-3), 2) := by decide +kernel
theorem dX9_unseen_11 : decode cX9_unseen 11 = .ok (.ireturn, 1) := by decide +kernel
theorem dX9_unseen_12 : decode cX9_unseen 12 = .ok (.aload_n 0, 1) := by decide +kernel
theorem dX9_unseen_13 : decode cX9_unseen 13 = .ok (.invokevirtual 162, 3) := by decide +kernel
theorem dX9_unseen_16 : decode cX9_unseen 16 = .ok (.aload_n 0, 1) := by decide +kernel
theorem dX9_unseen_17 : decode cX9_unseen 17 = .ok (.aload_n 0, 1) := by decide +kernel
theorem dX9_unseen_18 : decode cX9_unseen 18 = .ok (.getfield 57, 3) := by decide +kernel
theorem dX9_unseen_21 : decode cX9_unseen 21 = .ok (.iconst 1, 1) := by decide +kernel
theorem dX9_unseen_22 : decode cX9_unseen 22 = .ok (.iconst (-1), 1) := by decide +kernel
theorem dX9_unseen_23 : decode cX9_unseen 23 = .ok (.invokevirtual 165, 3) := by decide +kernel
theorem dX9_unseen_26 : decode cX9_unseen 26 = .ok (.iconst 0, 1) := by decide +kernel
theorem dX9_unseen_27 : decode cX9_unseen 27 = .ok (.istore_n 2, 1) := by decide +kernel
theorem dX9_unseen_28 : decode cX9_unseen 28 = .ok (.iconst 0, 1) := by decide +kernel
theorem dX9_unseen_29 : decode cX9_unseen 29 = .ok (.istore_n 3, 1) := by decide +kernel
theorem dX9_unseen_30 : decode cX9_unseen 30 = .ok (.iconst 0, 1) := by decide +kernel
theorem dX9_unseen_31 : decode cX9_unseen 31 = .ok (.istore 4, 2) := by decide +kernel
theorem dX9_unseen_33 : decode cX9_unseen 33 = .ok (.iload 4, 2) := by decide +kernel
theorem dX9_unseen_35 : decode cX9_unseen 35 = .ok (.aload_n 0, 1) := by decide +kernel
theorem dX9_unseen_36 : decode cX9_unseen 36 = .ok (.invokevirtual 120, 3) := by decide +kernel
theorem dX9_unseen_39 : decode cX9_unseen 39 = .ok (.if_icmp .ge 64, 3) := by decide +kernel
theorem dX9_unseen_42 : decode cX9_unseen 42 = .ok (.aload_n 0, 1) := by decide +kernel
theorem dX9_unseen_43 : decode cX9_unseen 43 = .ok (.getfield 57, 3) := by decide +kernel
theorem dX9_unseen_46 : decode cX9_unseen 46 = .ok (.iload 4, 2) := by decide +kernel
theorem dX9_unseen_48 : decode cX9_unseen 48 = .ok (.iaload, 1) := by decide +kernel
theorem dX9_unseen_49 : decode cX9_unseen 49 = .ok (.iload 4, 2) := by decide +kernel
theorem dX9_unseen_51 : decode cX9_unseen 51 = .ok (.if_icmp .ne 15, 3) := by decide +kernel
theorem dX9_unseen_54 : decode cX9_unseen 54 = .ok (.aload_n 0, 1) := by decide +kernel
theorem dX9_unseen_55 : decode cX9_unseen 55 = .ok (.iload 4, 2) := by decide +kernel
theorem dX9_unseen_57 : decode cX9_unseen 57 = .ok (.invokevirtual 169, 3) := by decide +kernel
theorem dX9_unseen_60 : decode cX9_unseen 60 = .ok (.invokestatic 173, 3) := by decide +kernel
theorem dX9_unseen_63 : decode cX9_unseen 63 = .ok (.goto 4, 3) := by decide +kernel
theorem dX9_unseen_66 : decode cX9_unseen 66 = .ok (.iconst 0, 1) := by decide +kernel
theorem dX9_unseen_67 : decode cX9_unseen 67 = .ok (.istore 5, 2) := by decide +kernel
theorem dX9_unseen_69 : decode cX9_unseen 69 = .ok (.iload_n 2, 1) := by decide +kernel
theorem dX9_unseen_70 : decode cX9_unseen 70 = .ok (.iload 5, 2) := by decide +kernel
theorem dX9_unseen_72 : decode cX9_unseen 72 = .ok (.iconst 1, 1) := by decide +kernel
theorem dX9_unseen_73 : decode cX9_unseen 73 = .ok (.if_icmp .ne 7, 3) := by decide +kernel
theorem dX9_unseen_76 : decode cX9_unseen 76 = .ok (.iconst 1, 1) := by decide +kernel
theorem dX9_unseen_77 : decode cX9_unseen 77 = .ok (.goto 4, 3) := by decide +kernel
theorem dX9_unseen_80 : decode cX9_unseen 80 = .ok (.iconst 0, 1) := by decide +kernel
theorem dX9_unseen_81 : decode cX9_unseen 81 = .ok (.iadd, 1) := by decide +kernel
theorem dX9_unseen_82 : decode cX9_unseen 82 = .ok (.istore_n 2, 1) := by decide +kernel
theorem dX9_unseen_83 : decode cX9_unseen 83 = .ok (.iload_n 3, 1) := by decide +kernel
theorem dX9_unseen_84 : decode cX9_unseen 84 = .ok (.iload 5, 2) := by decide +kernel
theorem dX9_unseen_86 : decode cX9_unseen 86 = .ok (.iconst 2, 1) := by decide +kernel
theorem dX9_unseen_87 : decode cX9_unseen 87 = .ok (.if_icmp .ne 7, 3) := by decide +kernel
theorem dX9_unseen_90 : decode cX9_unseen 90 = .ok (.iconst 1, 1) := by decide +kernel
theorem dX9_unseen_91 : decode cX9_unseen 91 = .ok (.goto 4, 3) := by decide +kernel
theorem dX9_unseen_94 : decode cX9_unseen 94 = .ok (.iconst 0, 1) := by decide +kernel
theorem dX9_unseen_95 : decode cX9_unseen 95 = .ok (.iadd, 1) := by decide +kernel
theorem dX9_unseen_96 : decode cX9_unseen 96 = .ok (.istore_n 3, 1) := by decide +kernel
theorem dX9_unseen_97 : decode cX9_unseen 97 = .ok (.iinc 4 1, 3) := by decide +kernel
theorem dX9_unseen_100 : decode cX9_unseen 100 = .ok (.goto (-67), 3) := by decide +kernel
theorem dX9_unseen_103 : decode cX9_unseen 103 = .ok (.iload_n 3, 1) := by decide +kernel
theorem dX9_unseen_104 : decode cX9_unseen 104 = .ok (.ifCond .ne 24, 3) := by decide +kernel
theorem dX9_unseen_107 : decode cX9_unseen 107 = .ok (.iload_n 2, 1) := by decide +kernel
theorem dX9_unseen_108 : decode cX9_unseen 108 = .ok (.iload_n 2, 1) := by decide +kernel
theorem dX9_unseen_109 : decode cX9_unseen 109 = .ok (.iconst 1, 1) := by decide +kernel
theorem dX9_unseen_110 : decode cX9_unseen 110 = .ok (.isub, 1) := by decide +kernel
theorem dX9_unseen_111 : decode cX9_unseen 111 = .ok (.imul, 1) := by decide +kernel
theorem dX9_unseen_112 : decode cX9_unseen 112 = .ok (.iconst 2, 1) := by decide +kernel
theorem dX9_unseen_113 : decode cX9_unseen 113 = .ok (.iload_n 1, 1) := by decide +kernel
theorem dX9_unseen_114 : decode cX9_unseen 114 = .ok (.ifCond .ne 7, 3) := by decide +kernel
theorem dX9_unseen_117 : decode cX9_unseen 117 = .ok (.iconst 1, 1) := by decide +kernel
theorem dX9_unseen_118 : decode cX9_unseen 118 = .ok (.goto 4, 3) := by decide +kernel
theorem dX9_unseen_121 : decode cX9_unseen 121 = .ok (.iconst 0, 1) := by decide +kernel
theorem dX9_unseen_122 : decode cX9_unseen 122 = .ok (.invokestatic 194, 3) := by decide +kernel
theorem dX9_unseen_125 : decode cX9_unseen 125 = .ok (.goto 21, 3) := by decide +kernel
theorem dX9_unseen_128 : decode cX9_unseen 128 = .ok (.iload_n 2, 1) := by decide +kernel
theorem dX9_unseen_129 : decode cX9_unseen 129 = .ok (.iload_n 2, 1) := by decide +kernel
theorem dX9_unseen_130 : decode cX9_unseen 130 = .ok (.imul, 1) := by decide +kernel
theorem dX9_unseen_131 : decode cX9_unseen 131 = .ok (.iconst 2, 1) := by decide +kernel
theorem dX9_unseen_132 : decode cX9_unseen 132 = .ok (.iload_n 3, 1) := by decide +kernel
theorem dX9_unseen_133 : decode cX9_unseen 133 = .ok (.imul, 1) := by decide +kernel
theorem dX9_unseen_134 : decode cX9_unseen 134 = .ok (.iload_n 1, 1) := by decide +kernel
theorem dX9_unseen_135 : decode cX9_unseen 135 = .ok (.ifCond .ne 7, 3) := by decide +kernel
theorem dX9_unseen_138 : decode cX9_unseen 138 = .ok (.iconst 1, 1) := by decide +kernel
theorem dX9_unseen_139 : decode cX9_unseen 139 = .ok (.goto 4, 3) := by decide +kernel
theorem dX9_unseen_142 : decode cX9_unseen 142 = .ok (.iconst 0, 1) := by decide +kernel
theorem dX9_unseen_143 : decode cX9_unseen 143 = .ok (.invokestatic 194, 3) := by decide +kernel
theorem dX9_unseen_146 : decode cX9_unseen 146 = .ok (.ireturn, 1) := by decide +kernel
set_option maxRecDepth 100000 in
set_option maxHeartbeats 40000000 in
theorem gp_m_unseen {G : vG} {l : Launch} (σ : Sg) (a : Int32) (hI : Inv σ) : Sp G l yX9_unseen cX9_unseen 6 (some .int) 4 0 0 [.ref 140, .int a] (WW σ) (QI (fun _ w2 => ∃ σ2, w2 = WW σ2 ∧ Inv σ2 ∧ Cor σ σ2)) := by
  refine Sp_of_R [(some (.ref 140)), (some (.int a)), none, none, none, none] [none, none, none, none] rfl (by simp) rfl (Nat.le_of_ble_eq_true rfl) ?_
  refine R_iload_n (pc := 0) dX9_unseen_0 rfl rfl ?_
  refine R_iconst (pc := 1) (v := 0) dX9_unseen_1 (by decide) ?_
  refine R_iconst (pc := 2) (v := 1) dX9_unseen_2 (by decide) ?_
  refine k_X9_124 (pc := 3) (sp_X9_in _ _ _ _) rfl (by decide) (Nat.le_refl _) (Nat.le_refl _) (Nat.le_of_ble_eq_true rfl) dX9_unseen_3 (fun x w2 h => ?_)
  rcases h with ⟨rfl, ⟨h1, rfl⟩ | ⟨h1, rfl⟩⟩
  · skip
    refine R_ifne (pc := 6) 12 dX9_unseen_6 (by decide) (fun _ => ?_) (fun h => absurd h (by decide))
    refine R_aload_n (pc := 12) dX9_unseen_12 rfl rfl ?_
    refine k_X9_162 (pc := 13) (gx_X9_findUnlike _ hI) rfl (c_140 _) (by decide) (Nat.le_refl _) (Nat.le_refl _) (Nat.le_of_ble_eq_true rfl) dX9_unseen_13 (fun w2 h => ?_)
    obtain ⟨σx5, rfl, hV4, hW6⟩ := h
    have hW7 := Cor.trans (show Cor σ σ from Cor.rfl' σ) hW6
    refine R_aload_n (pc := 16) dX9_unseen_16 rfl rfl ?_
    refine R_aload_n (pc := 17) dX9_unseen_17 rfl rfl ?_
    refine g_X9_57 (pc := 18) (v := .ref 153) rfl dX9_unseen_18 (c_140 _) rfl ?_
    refine R_iconst (pc := 21) (v := 1) dX9_unseen_21 (by decide) ?_
    refine R_iconst (pc := 22) (v := (-1)) dX9_unseen_22 (by decide) ?_
    refine k_X9_165 (pc := 23) (gx_X9_findChains_153 _ _ _ hV4) rfl (c_140 _) (by decide) (Nat.le_refl _) (Nat.le_refl _) (Nat.le_of_ble_eq_true rfl) dX9_unseen_23 (fun w2 h => ?_)
    obtain ⟨σx10, rfl, hV9, hW11⟩ := h
    have hW12 := Cor.trans hW7 hW11
    refine R_iconst (pc := 26) (v := 0) dX9_unseen_26 (by decide) ?_
    refine st_6_2_i_i (pc := 27) dX9_unseen_27 ?_
    refine R_iconst (pc := 28) (v := 0) dX9_unseen_28 (by decide) ?_
    refine st_6_3_i_i (pc := 29) dX9_unseen_29 ?_
    refine R_iconst (pc := 30) (v := 0) dX9_unseen_30 (by decide) ?_
    refine st_6_4_i_i (pc := 31) dX9_unseen_31 ?_
    have HL33 : ∀ (q j33 : Nat) (g2_33 : Int32) (g3_33 : Int32) (g5_33 : Option Value), j33 + q = 20 → 0 ≤ j33 → Ct g2_33 j33 → Ct g3_33 j33 → R G l yX9_unseen cX9_unseen 6 (some .int) 4 0 0 (QI (fun _ w2 => ∃ σ2, w2 = WW σ2 ∧ Inv σ2 ∧ Cor σ σ2)) 33 [(some (.ref 140)), (some (.int a)), (some (.int g2_33)), (some (.int g3_33)), (some (.int (nI j33))), g5_33] [] (WW σx10) 0 0 := by
      intro q
      induction q with
      | zero =>
        intro j33 g2_33 g3_33 g5_33 hj hs33 hX33_0 hX33_1
        obtain rfl : j33 = 20 := by omega
        refine R_iload (pc := 33) dX9_unseen_33 rfl ?_
        refine R_aload_n (pc := 35) dX9_unseen_35 rfl rfl ?_
        refine k_X9_120 (pc := 36) (ge_X9_thereMany _ hV9) rfl (c_140 _) (by decide) (Nat.le_refl _) (Nat.le_refl _) (Nat.le_of_ble_eq_true rfl) dX9_unseen_36 (fun x w2 h => ?_)
        obtain ⟨rfl, rfl⟩ := h
        refine R_icge (pc := 39) 103 dX9_unseen_39 (by decide) (fun _ => ?_) (fun h => absurd (Int32.not_lt.mp (inR_up (tm_in (σx10.1 14000) (σx10.1 14013) (σx10.2.2.1 148)) (Int32.le_refl _) (by decide)).2) h)
        refine R_iload_n (pc := 103) dX9_unseen_103 rfl rfl ?_
        refine R_ifne (pc := 104) 128 dX9_unseen_104 (by decide) (fun b104_14 => ?_) (fun b104_14 => ?_)
        · skip
          refine R_iload_n (pc := 128) dX9_unseen_128 rfl rfl ?_
          refine R_iload_n (pc := 129) dX9_unseen_129 rfl rfl ?_
          refine R_imul (pc := 130) dX9_unseen_130 ?_
          refine R_iconst (pc := 131) (v := 2) dX9_unseen_131 (by decide) ?_
          refine R_iload_n (pc := 132) dX9_unseen_132 rfl rfl ?_
          refine R_imul (pc := 133) dX9_unseen_133 ?_
          refine R_iload_n (pc := 134) dX9_unseen_134 rfl rfl ?_
          refine R_ifne (pc := 135) 142 dX9_unseen_135 (by decide) (fun b135_15 => ?_) (fun b135_15 => ?_)
          · skip
            refine R_iconst (pc := 142) (v := 0) dX9_unseen_142 (by decide) ?_
            refine k_X9_194 (pc := 143) (gx_X9_lowest _ _ _ _ (sq_nn (ct_r hX33_0 (by omega))).1 (two_nn (ct_r hX33_1 (by omega))).1 ((two_nn (ct_r hX33_1 (by omega))).2 b104_14)) rfl (by decide) (Nat.le_refl _) (Nat.le_refl _) (Nat.le_of_ble_eq_true rfl) dX9_unseen_143 (fun y16 w2 h => ?_)
            subst h
            exact R_iret (pc := 146) dX9_unseen_146 rfl rfl (Nat.zero_le _) (Nat.zero_le _) ⟨_, rfl, _, rfl, hV9, hW12⟩
          · skip
            refine R_iconst (pc := 138) (v := 1) dX9_unseen_138 (by decide) ?_
            refine R_goto (pc := 139) 143 dX9_unseen_139 (by decide) ?_
            refine k_X9_194 (pc := 143) (gx_X9_lowest _ _ _ _ (sq_nn (ct_r hX33_0 (by omega))).1 (two_nn (ct_r hX33_1 (by omega))).1 ((two_nn (ct_r hX33_1 (by omega))).2 b104_14)) rfl (by decide) (Nat.le_refl _) (Nat.le_refl _) (Nat.le_of_ble_eq_true rfl) dX9_unseen_143 (fun y17 w2 h => ?_)
            subst h
            exact R_iret (pc := 146) dX9_unseen_146 rfl rfl (Nat.zero_le _) (Nat.zero_le _) ⟨_, rfl, _, rfl, hV9, hW12⟩
        · skip
          refine R_iload_n (pc := 107) dX9_unseen_107 rfl rfl ?_
          refine R_iload_n (pc := 108) dX9_unseen_108 rfl rfl ?_
          refine R_iconst (pc := 109) (v := 1) dX9_unseen_109 (by decide) ?_
          refine R_isub (pc := 110) dX9_unseen_110 ?_
          refine R_imul (pc := 111) dX9_unseen_111 ?_
          refine R_iconst (pc := 112) (v := 2) dX9_unseen_112 (by decide) ?_
          refine R_iload_n (pc := 113) dX9_unseen_113 rfl rfl ?_
          refine R_ifne (pc := 114) 121 dX9_unseen_114 (by decide) (fun b114_18 => ?_) (fun b114_18 => ?_)
          · skip
            refine R_iconst (pc := 121) (v := 0) dX9_unseen_121 (by decide) ?_
            refine k_X9_194 (pc := 122) (gx_X9_lowest _ _ _ _ (sq_nn (ct_r hX33_0 (by omega))).2 (by decide) (by decide)) rfl (by decide) (Nat.le_refl _) (Nat.le_refl _) (Nat.le_of_ble_eq_true rfl) dX9_unseen_122 (fun y19 w2 h => ?_)
            subst h
            refine R_goto (pc := 125) 146 dX9_unseen_125 (by decide) ?_
            exact R_iret (pc := 146) dX9_unseen_146 rfl rfl (Nat.zero_le _) (Nat.zero_le _) ⟨_, rfl, _, rfl, hV9, hW12⟩
          · skip
            refine R_iconst (pc := 117) (v := 1) dX9_unseen_117 (by decide) ?_
            refine R_goto (pc := 118) 122 dX9_unseen_118 (by decide) ?_
            refine k_X9_194 (pc := 122) (gx_X9_lowest _ _ _ _ (sq_nn (ct_r hX33_0 (by omega))).2 (by decide) (by decide)) rfl (by decide) (Nat.le_refl _) (Nat.le_refl _) (Nat.le_of_ble_eq_true rfl) dX9_unseen_122 (fun y20 w2 h => ?_)
            subst h
            refine R_goto (pc := 125) 146 dX9_unseen_125 (by decide) ?_
            exact R_iret (pc := 146) dX9_unseen_146 rfl rfl (Nat.zero_le _) (Nat.zero_le _) ⟨_, rfl, _, rfl, hV9, hW12⟩
      | succ q ih33 =>
        intro j33 g2_33 g3_33 g5_33 hj hs33 hX33_0 hX33_1
        have hrg33 : inR (nI j33) 0 19 := inR_ix hs33 (show j33 < 20 by omega) (by decide) (by decide) (by decide)
        have hlt33 : j33 < 20 := by omega
        refine R_iload (pc := 33) dX9_unseen_33 rfl ?_
        refine R_aload_n (pc := 35) dX9_unseen_35 rfl rfl ?_
        refine k_X9_120 (pc := 36) (ge_X9_thereMany _ hV9) rfl (c_140 _) (by decide) (Nat.le_refl _) (Nat.le_refl _) (Nat.le_of_ble_eq_true rfl) dX9_unseen_36 (fun x w2 h => ?_)
        obtain ⟨rfl, rfl⟩ := h
        refine R_icge (pc := 39) 103 dX9_unseen_39 (by decide) (fun b39_21 => ?_) (fun b39_21 => ?_)
        · skip
          refine R_iload_n (pc := 103) dX9_unseen_103 rfl rfl ?_
          refine R_ifne (pc := 104) 128 dX9_unseen_104 (by decide) (fun b104_22 => ?_) (fun b104_22 => ?_)
          · skip
            refine R_iload_n (pc := 128) dX9_unseen_128 rfl rfl ?_
            refine R_iload_n (pc := 129) dX9_unseen_129 rfl rfl ?_
            refine R_imul (pc := 130) dX9_unseen_130 ?_
            refine R_iconst (pc := 131) (v := 2) dX9_unseen_131 (by decide) ?_
            refine R_iload_n (pc := 132) dX9_unseen_132 rfl rfl ?_
            refine R_imul (pc := 133) dX9_unseen_133 ?_
            refine R_iload_n (pc := 134) dX9_unseen_134 rfl rfl ?_
            refine R_ifne (pc := 135) 142 dX9_unseen_135 (by decide) (fun b135_23 => ?_) (fun b135_23 => ?_)
            · skip
              refine R_iconst (pc := 142) (v := 0) dX9_unseen_142 (by decide) ?_
              refine k_X9_194 (pc := 143) (gx_X9_lowest _ _ _ _ (sq_nn (ct_r hX33_0 (by omega))).1 (two_nn (ct_r hX33_1 (by omega))).1 ((two_nn (ct_r hX33_1 (by omega))).2 b104_22)) rfl (by decide) (Nat.le_refl _) (Nat.le_refl _) (Nat.le_of_ble_eq_true rfl) dX9_unseen_143 (fun y24 w2 h => ?_)
              subst h
              exact R_iret (pc := 146) dX9_unseen_146 rfl rfl (Nat.zero_le _) (Nat.zero_le _) ⟨_, rfl, _, rfl, hV9, hW12⟩
            · skip
              refine R_iconst (pc := 138) (v := 1) dX9_unseen_138 (by decide) ?_
              refine R_goto (pc := 139) 143 dX9_unseen_139 (by decide) ?_
              refine k_X9_194 (pc := 143) (gx_X9_lowest _ _ _ _ (sq_nn (ct_r hX33_0 (by omega))).1 (two_nn (ct_r hX33_1 (by omega))).1 ((two_nn (ct_r hX33_1 (by omega))).2 b104_22)) rfl (by decide) (Nat.le_refl _) (Nat.le_refl _) (Nat.le_of_ble_eq_true rfl) dX9_unseen_143 (fun y25 w2 h => ?_)
              subst h
              exact R_iret (pc := 146) dX9_unseen_146 rfl rfl (Nat.zero_le _) (Nat.zero_le _) ⟨_, rfl, _, rfl, hV9, hW12⟩
          · skip
            refine R_iload_n (pc := 107) dX9_unseen_107 rfl rfl ?_
            refine R_iload_n (pc := 108) dX9_unseen_108 rfl rfl ?_
            refine R_iconst (pc := 109) (v := 1) dX9_unseen_109 (by decide) ?_
            refine R_isub (pc := 110) dX9_unseen_110 ?_
            refine R_imul (pc := 111) dX9_unseen_111 ?_
            refine R_iconst (pc := 112) (v := 2) dX9_unseen_112 (by decide) ?_
            refine R_iload_n (pc := 113) dX9_unseen_113 rfl rfl ?_
            refine R_ifne (pc := 114) 121 dX9_unseen_114 (by decide) (fun b114_26 => ?_) (fun b114_26 => ?_)
            · skip
              refine R_iconst (pc := 121) (v := 0) dX9_unseen_121 (by decide) ?_
              refine k_X9_194 (pc := 122) (gx_X9_lowest _ _ _ _ (sq_nn (ct_r hX33_0 (by omega))).2 (by decide) (by decide)) rfl (by decide) (Nat.le_refl _) (Nat.le_refl _) (Nat.le_of_ble_eq_true rfl) dX9_unseen_122 (fun y27 w2 h => ?_)
              subst h
              refine R_goto (pc := 125) 146 dX9_unseen_125 (by decide) ?_
              exact R_iret (pc := 146) dX9_unseen_146 rfl rfl (Nat.zero_le _) (Nat.zero_le _) ⟨_, rfl, _, rfl, hV9, hW12⟩
            · skip
              refine R_iconst (pc := 117) (v := 1) dX9_unseen_117 (by decide) ?_
              refine R_goto (pc := 118) 122 dX9_unseen_118 (by decide) ?_
              refine k_X9_194 (pc := 122) (gx_X9_lowest _ _ _ _ (sq_nn (ct_r hX33_0 (by omega))).2 (by decide) (by decide)) rfl (by decide) (Nat.le_refl _) (Nat.le_refl _) (Nat.le_of_ble_eq_true rfl) dX9_unseen_122 (fun y28 w2 h => ?_)
              subst h
              refine R_goto (pc := 125) 146 dX9_unseen_125 (by decide) ?_
              exact R_iret (pc := 146) dX9_unseen_146 rfl rfl (Nat.zero_le _) (Nat.zero_le _) ⟨_, rfl, _, rfl, hV9, hW12⟩
        · skip
          refine R_aload_n (pc := 42) dX9_unseen_42 rfl rfl ?_
          refine g_X9_57 (pc := 43) (v := .ref 153) rfl dX9_unseen_43 (c_140 _) rfl ?_
          refine R_iload (pc := 46) dX9_unseen_46 rfl ?_
          have hx29 : vp_in (nI j33) 20 := (vp_in_nI (by omega) (by decide))
          refine R_iaload (pc := 48) dX9_unseen_48 (c_153 _) hx29 ?_
          refine R_iload (pc := 49) dX9_unseen_49 rfl ?_
          refine R_icne (pc := 51) 66 dX9_unseen_51 (by decide) (fun b51_30 => ?_) (fun b51_30 => ?_)
          · skip
            refine R_iconst (pc := 66) (v := 0) dX9_unseen_66 (by decide) ?_
            refine st_6_5_i_i (pc := 67) dX9_unseen_67 ?_
            refine R_iload_n (pc := 69) dX9_unseen_69 rfl rfl ?_
            refine R_iload (pc := 70) dX9_unseen_70 rfl ?_
            refine R_iconst (pc := 72) (v := 1) dX9_unseen_72 (by decide) ?_
            refine R_icne (pc := 73) 80 dX9_unseen_73 (by decide) (fun _ => ?_) (fun h => absurd h (by decide))
            refine R_iconst (pc := 80) (v := 0) dX9_unseen_80 (by decide) ?_
            refine R_iadd (pc := 81) dX9_unseen_81 ?_
            refine st_6_2_i_i (pc := 82) dX9_unseen_82 ?_
            refine R_iload_n (pc := 83) dX9_unseen_83 rfl rfl ?_
            refine R_iload (pc := 84) dX9_unseen_84 rfl ?_
            refine R_iconst (pc := 86) (v := 2) dX9_unseen_86 (by decide) ?_
            refine R_icne (pc := 87) 94 dX9_unseen_87 (by decide) (fun _ => ?_) (fun h => absurd h (by decide))
            refine R_iconst (pc := 94) (v := 0) dX9_unseen_94 (by decide) ?_
            refine R_iadd (pc := 95) dX9_unseen_95 ?_
            refine st_6_3_i_i (pc := 96) dX9_unseen_96 ?_
            refine inc_6_4_1_i (pc := 97) dX9_unseen_97 ?_
            have r33 : inR ((nI j33) + 1) 1 20 := inR_add (show inR (nI j33) 0 19 from hrg33) (show inR 1 1 1 from (inR_self _)) (by decide) (by decide)
            have e34 := ti_add (l := 1) (h := 20) (show inR (nI j33) 0 19 from hrg33) (show inR 1 1 1 from (inR_self _)) (by decide) (by decide)
            refine R_goto (pc := 100) 33 dX9_unseen_100 (by decide) ?_
            rw [nI_1]
            exact ih33 (j33 + 1) _ _ _ (by omega) (by omega) (ct_s hX33_0 (by omega) (show inR 0 0 1 from ⟨by decide, by decide⟩)) (ct_s hX33_1 (by omega) (show inR 0 0 1 from ⟨by decide, by decide⟩))
          · skip
            refine R_aload_n (pc := 54) dX9_unseen_54 rfl rfl ?_
            refine R_iload (pc := 55) dX9_unseen_55 rfl ?_
            refine k_X9_169 (pc := 57) (ge_X9_listsOf _ _ hV9) rfl (c_140 _) (by decide) (Nat.le_refl _) (Nat.le_refl _) (Nat.le_of_ble_eq_true rfl) dX9_unseen_57 (fun x w2 h => ?_)
            obtain ⟨rfl, rfl⟩ := h
            refine k_X9_173 (pc := 60) (ge_X9_bits _ _) rfl (by decide) (Nat.le_refl _) (Nat.le_refl _) (Nat.le_of_ble_eq_true rfl) dX9_unseen_60 (fun x w2 h => ?_)
            obtain ⟨rfl, rfl⟩ := h
            refine R_goto (pc := 63) 67 dX9_unseen_63 (by decide) ?_
            refine st_6_5_i_i (pc := 67) dX9_unseen_67 ?_
            refine R_iload_n (pc := 69) dX9_unseen_69 rfl rfl ?_
            refine R_iload (pc := 70) dX9_unseen_70 rfl ?_
            refine R_iconst (pc := 72) (v := 1) dX9_unseen_72 (by decide) ?_
            refine R_icne (pc := 73) 80 dX9_unseen_73 (by decide) (fun b73_35 => ?_) (fun b73_35 => ?_)
            · skip
              refine R_iconst (pc := 80) (v := 0) dX9_unseen_80 (by decide) ?_
              refine R_iadd (pc := 81) dX9_unseen_81 ?_
              refine st_6_2_i_i (pc := 82) dX9_unseen_82 ?_
              refine R_iload_n (pc := 83) dX9_unseen_83 rfl rfl ?_
              refine R_iload (pc := 84) dX9_unseen_84 rfl ?_
              refine R_iconst (pc := 86) (v := 2) dX9_unseen_86 (by decide) ?_
              refine R_icne (pc := 87) 94 dX9_unseen_87 (by decide) (fun b87_36 => ?_) (fun b87_36 => ?_)
              · skip
                refine R_iconst (pc := 94) (v := 0) dX9_unseen_94 (by decide) ?_
                refine R_iadd (pc := 95) dX9_unseen_95 ?_
                refine st_6_3_i_i (pc := 96) dX9_unseen_96 ?_
                refine inc_6_4_1_i (pc := 97) dX9_unseen_97 ?_
                have r37 : inR ((nI j33) + 1) 1 20 := inR_add (show inR (nI j33) 0 19 from hrg33) (show inR 1 1 1 from (inR_self _)) (by decide) (by decide)
                have e38 := ti_add (l := 1) (h := 20) (show inR (nI j33) 0 19 from hrg33) (show inR 1 1 1 from (inR_self _)) (by decide) (by decide)
                refine R_goto (pc := 100) 33 dX9_unseen_100 (by decide) ?_
                rw [nI_1]
                exact ih33 (j33 + 1) _ _ _ (by omega) (by omega) (ct_s hX33_0 (by omega) (show inR 0 0 1 from ⟨by decide, by decide⟩)) (ct_s hX33_1 (by omega) (show inR 0 0 1 from ⟨by decide, by decide⟩))
              · skip
                refine R_iconst (pc := 90) (v := 1) dX9_unseen_90 (by decide) ?_
                refine R_goto (pc := 91) 95 dX9_unseen_91 (by decide) ?_
                refine R_iadd (pc := 95) dX9_unseen_95 ?_
                refine st_6_3_i_i (pc := 96) dX9_unseen_96 ?_
                refine inc_6_4_1_i (pc := 97) dX9_unseen_97 ?_
                have r39 : inR ((nI j33) + 1) 1 20 := inR_add (show inR (nI j33) 0 19 from hrg33) (show inR 1 1 1 from (inR_self _)) (by decide) (by decide)
                have e40 := ti_add (l := 1) (h := 20) (show inR (nI j33) 0 19 from hrg33) (show inR 1 1 1 from (inR_self _)) (by decide) (by decide)
                refine R_goto (pc := 100) 33 dX9_unseen_100 (by decide) ?_
                rw [nI_1]
                exact ih33 (j33 + 1) _ _ _ (by omega) (by omega) (ct_s hX33_0 (by omega) (show inR 0 0 1 from ⟨by decide, by decide⟩)) (ct_s hX33_1 (by omega) (show inR 1 0 1 from ⟨by decide, by decide⟩))
            · skip
              refine R_iconst (pc := 76) (v := 1) dX9_unseen_76 (by decide) ?_
              refine R_goto (pc := 77) 81 dX9_unseen_77 (by decide) ?_
              refine R_iadd (pc := 81) dX9_unseen_81 ?_
              refine st_6_2_i_i (pc := 82) dX9_unseen_82 ?_
              refine R_iload_n (pc := 83) dX9_unseen_83 rfl rfl ?_
              refine R_iload (pc := 84) dX9_unseen_84 rfl ?_
              refine R_iconst (pc := 86) (v := 2) dX9_unseen_86 (by decide) ?_
              refine R_icne (pc := 87) 94 dX9_unseen_87 (by decide) (fun b87_41 => ?_) (fun b87_41 => ?_)
              · skip
                refine R_iconst (pc := 94) (v := 0) dX9_unseen_94 (by decide) ?_
                refine R_iadd (pc := 95) dX9_unseen_95 ?_
                refine st_6_3_i_i (pc := 96) dX9_unseen_96 ?_
                refine inc_6_4_1_i (pc := 97) dX9_unseen_97 ?_
                have r42 : inR ((nI j33) + 1) 1 20 := inR_add (show inR (nI j33) 0 19 from hrg33) (show inR 1 1 1 from (inR_self _)) (by decide) (by decide)
                have e43 := ti_add (l := 1) (h := 20) (show inR (nI j33) 0 19 from hrg33) (show inR 1 1 1 from (inR_self _)) (by decide) (by decide)
                refine R_goto (pc := 100) 33 dX9_unseen_100 (by decide) ?_
                rw [nI_1]
                exact ih33 (j33 + 1) _ _ _ (by omega) (by omega) (ct_s hX33_0 (by omega) (show inR 1 0 1 from ⟨by decide, by decide⟩)) (ct_s hX33_1 (by omega) (show inR 0 0 1 from ⟨by decide, by decide⟩))
              · skip
                refine R_iconst (pc := 90) (v := 1) dX9_unseen_90 (by decide) ?_
                refine R_goto (pc := 91) 95 dX9_unseen_91 (by decide) ?_
                refine R_iadd (pc := 95) dX9_unseen_95 ?_
                refine st_6_3_i_i (pc := 96) dX9_unseen_96 ?_
                refine inc_6_4_1_i (pc := 97) dX9_unseen_97 ?_
                have r44 : inR ((nI j33) + 1) 1 20 := inR_add (show inR (nI j33) 0 19 from hrg33) (show inR 1 1 1 from (inR_self _)) (by decide) (by decide)
                have e45 := ti_add (l := 1) (h := 20) (show inR (nI j33) 0 19 from hrg33) (show inR 1 1 1 from (inR_self _)) (by decide) (by decide)
                refine R_goto (pc := 100) 33 dX9_unseen_100 (by decide) ?_
                rw [nI_1]
                exact ih33 (j33 + 1) _ _ _ (by omega) (by omega) (ct_s hX33_0 (by omega) (show inR 1 0 1 from ⟨by decide, by decide⟩)) (ct_s hX33_1 (by omega) (show inR 1 0 1 from ⟨by decide, by decide⟩))
    exact HL33 20 0 _ _ _ (by omega) (by omega) ct_0 ct_0
  · skip
    refine R_ifne (pc := 6) 12 dX9_unseen_6 (by decide) (fun h => absurd (by decide) h) (fun _ => ?_)
    refine R_bipush (pc := 9) (v := (-3)) dX9_unseen_9 (by decide) ?_
    exact R_iret (pc := 11) dX9_unseen_11 rfl rfl (Nat.zero_le _) (Nat.zero_le _) ⟨_, rfl, _, rfl, hI, (show Cor σ σ from Cor.rfl' σ)⟩
theorem dX9_overlap_0 : decode cX9_overlap 0 = .ok (.iload_n 1, 1) := by decide +kernel
theorem dX9_overlap_1 : decode cX9_overlap 1 = .ok (.iconst 0, 1) := by decide +kernel
theorem dX9_overlap_2 : decode cX9_overlap 2 = .ok (.iconst 3, 1) := by decide +kernel
theorem dX9_overlap_3 : decode cX9_overlap 3 = .ok (.invokestatic 124, 3) := by decide +kernel
theorem dX9_overlap_6 : decode cX9_overlap 6 = .ok (.ifCond .eq 17, 3) := by decide +kernel
theorem dX9_overlap_9 : decode cX9_overlap 9 = .ok (.iload_n 2, 1) := by decide +kernel
theorem dX9_overlap_10 : decode cX9_overlap 10 = .ok (.iconst 0, 1) := by decide +kernel
theorem dX9_overlap_11 : decode cX9_overlap 11 = .ok (.iconst 3, 1) := by decide +kernel
theorem dX9_overlap_12 : decode cX9_overlap 12 = .ok (.invokestatic 124, 3) := by decide +kernel
theorem dX9_overlap_15 : decode cX9_overlap 15 = .ok (.ifCond .eq 8, 3) := by decide +kernel
theorem dX9_overlap_18 : decode cX9_overlap 18 = .ok (.iload_n 1, 1) := by decide +kernel
theorem dX9_overlap_19 : decode cX9_overlap 19 = .ok (.iload_n 2, 1) := by decide +kernel
theorem dX9_overlap_20 : decode cX9_overlap 20 = .ok (.if_icmp .ne 6, 3) := by decide +kernel
theorem dX9_overlap_23 : decode cX9_overlap 23 = .ok (.bipush (-2), 2) := by decide +kernel
theorem dX9_overlap_25 : decode cX9_overlap 25 = .ok (.ireturn, 1) := by decide +kernel
theorem dX9_overlap_26 : decode cX9_overlap 26 = .ok (.iload_n 3, 1) := by decide +kernel
theorem dX9_overlap_27 : decode cX9_overlap 27 = .ok (.iconst 0, 1) := by decide +kernel
theorem dX9_overlap_28 : decode cX9_overlap 28 = .ok (.iconst 2, 1) := by decide +kernel
theorem dX9_overlap_29 : decode cX9_overlap 29 = .ok (.invokestatic 124, 3) := by decide +kernel
theorem dX9_overlap_32 : decode cX9_overlap 32 = .ok (.ifCond .ne 6, 3) := by decide +kernel
theorem dX9_overlap_35 : decode cX9_overlap 35 = .ok (.bipush (-3), 2) := by decide +kernel
theorem dX9_overlap_37 : decode cX9_overlap 37 = .ok (.ireturn, 1) := by decide +kernel
theorem dX9_overlap_38 : decode cX9_overlap 38 = .ok (.aload_n 0, 1) := by decide +kernel
theorem dX9_overlap_39 : decode cX9_overlap 39 = .ok (.invokevirtual 162, 3) := by decide +kernel
theorem dX9_overlap_42 : decode cX9_overlap 42 = .ok (.aload_n 0, 1) := by decide +kernel
theorem dX9_overlap_43 : decode cX9_overlap 43 = .ok (.aload_n 0, 1) := by decide +kernel
theorem dX9_overlap_44 : decode cX9_overlap 44 = .ok (.getfield 57, 3) := by decide +kernel
theorem dX9_overlap_47 : decode cX9_overlap 47 = .ok (.iconst 1, 1) := by decide +kernel
theorem dX9_overlap_48 : decode cX9_overlap 48 = .ok (.iconst (-1), 1) := by decide +kernel
theorem dX9_overlap_49 : decode cX9_overlap 49 = .ok (.invokevirtual 165, 3) := by decide +kernel
theorem dX9_overlap_52 : decode cX9_overlap 52 = .ok (.iconst 0, 1) := by decide +kernel
theorem dX9_overlap_53 : decode cX9_overlap 53 = .ok (.istore 4, 2) := by decide +kernel
theorem dX9_overlap_55 : decode cX9_overlap 55 = .ok (.iconst 0, 1) := by decide +kernel
theorem dX9_overlap_56 : decode cX9_overlap 56 = .ok (.istore 5, 2) := by decide +kernel
theorem dX9_overlap_58 : decode cX9_overlap 58 = .ok (.iconst 0, 1) := by decide +kernel
theorem dX9_overlap_59 : decode cX9_overlap 59 = .ok (.istore 6, 2) := by decide +kernel
theorem dX9_overlap_61 : decode cX9_overlap 61 = .ok (.iconst 0, 1) := by decide +kernel
theorem dX9_overlap_62 : decode cX9_overlap 62 = .ok (.istore 7, 2) := by decide +kernel
theorem dX9_overlap_64 : decode cX9_overlap 64 = .ok (.iload 7, 2) := by decide +kernel
theorem dX9_overlap_66 : decode cX9_overlap 66 = .ok (.aload_n 0, 1) := by decide +kernel
theorem dX9_overlap_67 : decode cX9_overlap 67 = .ok (.invokevirtual 120, 3) := by decide +kernel
theorem dX9_overlap_70 : decode cX9_overlap 70 = .ok (.if_icmp .ge 71, 3) := by decide +kernel
theorem dX9_overlap_73 : decode cX9_overlap 73 = .ok (.aload_n 0, 1) := by decide +kernel
theorem dX9_overlap_74 : decode cX9_overlap 74 = .ok (.getfield 57, 3) := by decide +kernel
theorem dX9_overlap_77 : decode cX9_overlap 77 = .ok (.iload 7, 2) := by decide +kernel
theorem dX9_overlap_79 : decode cX9_overlap 79 = .ok (.iaload, 1) := by decide +kernel
theorem dX9_overlap_80 : decode cX9_overlap 80 = .ok (.iload 7, 2) := by decide +kernel
theorem dX9_overlap_82 : decode cX9_overlap 82 = .ok (.if_icmp .ne 12, 3) := by decide +kernel
theorem dX9_overlap_85 : decode cX9_overlap 85 = .ok (.aload_n 0, 1) := by decide +kernel
theorem dX9_overlap_86 : decode cX9_overlap 86 = .ok (.iload 7, 2) := by decide +kernel
theorem dX9_overlap_88 : decode cX9_overlap 88 = .ok (.invokevirtual 169, 3) := by decide +kernel
theorem dX9_overlap_91 : decode cX9_overlap 91 = .ok (.goto 4, 3) := by decide +kernel
theorem dX9_overlap_94 : decode cX9_overlap 94 = .ok (.iconst 0, 1) := by decide +kernel
theorem dX9_overlap_95 : decode cX9_overlap 95 = .ok (.istore 8, 2) := by decide +kernel
theorem dX9_overlap_97 : decode cX9_overlap 97 = .ok (.iload 5, 2) := by decide +kernel
theorem dX9_overlap_99 : decode cX9_overlap 99 = .ok (.iload 8, 2) := by decide +kernel
theorem dX9_overlap_101 : decode cX9_overlap 101 = .ok (.iload_n 1, 1) := by decide +kernel
theorem dX9_overlap_102 : decode cX9_overlap 102 = .ok (.ishr, 1) := by decide +kernel
theorem dX9_overlap_103 : decode cX9_overlap 103 = .ok (.iconst 1, 1) := by decide +kernel
theorem dX9_overlap_104 : decode cX9_overlap 104 = .ok (.iand, 1) := by decide +kernel
theorem dX9_overlap_105 : decode cX9_overlap 105 = .ok (.iadd, 1) := by decide +kernel
theorem dX9_overlap_106 : decode cX9_overlap 106 = .ok (.istore 5, 2) := by decide +kernel
theorem dX9_overlap_108 : decode cX9_overlap 108 = .ok (.iload 6, 2) := by decide +kernel
theorem dX9_overlap_110 : decode cX9_overlap 110 = .ok (.iload 8, 2) := by decide +kernel
theorem dX9_overlap_112 : decode cX9_overlap 112 = .ok (.iload_n 2, 1) := by decide +kernel
theorem dX9_overlap_113 : decode cX9_overlap 113 = .ok (.ishr, 1) := by decide +kernel
theorem dX9_overlap_114 : decode cX9_overlap 114 = .ok (.iconst 1, 1) := by decide +kernel
theorem dX9_overlap_115 : decode cX9_overlap 115 = .ok (.iand, 1) := by decide +kernel
theorem dX9_overlap_116 : decode cX9_overlap 116 = .ok (.iadd, 1) := by decide +kernel
theorem dX9_overlap_117 : decode cX9_overlap 117 = .ok (.istore 6, 2) := by decide +kernel
theorem dX9_overlap_119 : decode cX9_overlap 119 = .ok (.iload 4, 2) := by decide +kernel
theorem dX9_overlap_121 : decode cX9_overlap 121 = .ok (.iload 8, 2) := by decide +kernel
theorem dX9_overlap_123 : decode cX9_overlap 123 = .ok (.iload_n 1, 1) := by decide +kernel
theorem dX9_overlap_124 : decode cX9_overlap 124 = .ok (.ishr, 1) := by decide +kernel
theorem dX9_overlap_125 : decode cX9_overlap 125 = .ok (.iload 8, 2) := by decide +kernel
theorem dX9_overlap_127 : decode cX9_overlap 127 = .ok (.iload_n 2, 1) := by decide +kernel
theorem dX9_overlap_128 : decode cX9_overlap 128 = .ok (.ishr, 1) := by decide +kernel
theorem dX9_overlap_129 : decode cX9_overlap 129 = .ok (.iand, 1) := by decide +kernel
theorem dX9_overlap_130 : decode cX9_overlap 130 = .ok (.iconst 1, 1) := by decide +kernel
theorem dX9_overlap_131 : decode cX9_overlap 131 = .ok (.iand, 1) := by decide +kernel
theorem dX9_overlap_132 : decode cX9_overlap 132 = .ok (.iadd, 1) := by decide +kernel
theorem dX9_overlap_133 : decode cX9_overlap 133 = .ok (.istore 4, 2) := by decide +kernel
theorem dX9_overlap_135 : decode cX9_overlap 135 = .ok (.iinc 7 1, 3) := by decide +kernel
theorem dX9_overlap_138 : decode cX9_overlap 138 = .ok (.goto (-74), 3) := by decide +kernel
theorem dX9_overlap_141 : decode cX9_overlap 141 = .ok (.iload_n 3, 1) := by decide +kernel
theorem dX9_overlap_142 : decode cX9_overlap 142 = .ok (.ifCond .ne 8, 3) := by decide +kernel
theorem dX9_overlap_145 : decode cX9_overlap 145 = .ok (.iload 4, 2) := by decide +kernel
theorem dX9_overlap_147 : decode cX9_overlap 147 = .ok (.goto 32, 3) := by decide +kernel
theorem dX9_overlap_150 : decode cX9_overlap 150 = .ok (.iload 4, 2) := by decide +kernel
theorem dX9_overlap_152 : decode cX9_overlap 152 = .ok (.ifCond .ne 7, 3) := by decide +kernel
theorem dX9_overlap_155 : decode cX9_overlap 155 = .ok (.iconst (-1), 1) := by decide +kernel
theorem dX9_overlap_156 : decode cX9_overlap 156 = .ok (.goto 23, 3) := by decide +kernel
theorem dX9_overlap_159 : decode cX9_overlap 159 = .ok (.iload 5, 2) := by decide +kernel
theorem dX9_overlap_161 : decode cX9_overlap 161 = .ok (.iload 6, 2) := by decide +kernel
theorem dX9_overlap_163 : decode cX9_overlap 163 = .ok (.imul, 1) := by decide +kernel
theorem dX9_overlap_164 : decode cX9_overlap 164 = .ok (.iload 4, 2) := by decide +kernel
theorem dX9_overlap_166 : decode cX9_overlap 166 = .ok (.iload_n 3, 1) := by decide +kernel
theorem dX9_overlap_167 : decode cX9_overlap 167 = .ok (.iconst 1, 1) := by decide +kernel
theorem dX9_overlap_168 : decode cX9_overlap 168 = .ok (.if_icmp .ne 7, 3) := by decide +kernel
theorem dX9_overlap_171 : decode cX9_overlap 171 = .ok (.iconst 1, 1) := by decide +kernel
theorem dX9_overlap_172 : decode cX9_overlap 172 = .ok (.goto 4, 3) := by decide +kernel
theorem dX9_overlap_175 : decode cX9_overlap 175 = .ok (.iconst 0, 1) := by decide +kernel
theorem dX9_overlap_176 : decode cX9_overlap 176 = .ok (.invokestatic 194, 3) := by decide +kernel
theorem dX9_overlap_179 : decode cX9_overlap 179 = .ok (.ireturn, 1) := by decide +kernel
set_option maxRecDepth 100000 in
set_option maxHeartbeats 40000000 in
theorem gp_m_overlap {G : vG} {l : Launch} (σ : Sg) (a b c : Int32) (hI : Inv σ) : Sp G l yX9_overlap cX9_overlap 9 (some .int) 4 0 0 [.ref 140, .int a, .int b, .int c] (WW σ) (QI (fun _ w2 => ∃ σ2, w2 = WW σ2 ∧ Inv σ2 ∧ Cor σ σ2)) := by
  refine Sp_of_R [(some (.ref 140)), (some (.int a)), (some (.int b)), (some (.int c)), none, none, none, none, none] [none, none, none, none, none] rfl (by simp) rfl (Nat.le_of_ble_eq_true rfl) ?_
  refine R_iload_n (pc := 0) dX9_overlap_0 rfl rfl ?_
  refine R_iconst (pc := 1) (v := 0) dX9_overlap_1 (by decide) ?_
  refine R_iconst (pc := 2) (v := 3) dX9_overlap_2 (by decide) ?_
  refine k_X9_124 (pc := 3) (sp_X9_in _ _ _ _) rfl (by decide) (Nat.le_refl _) (Nat.le_refl _) (Nat.le_of_ble_eq_true rfl) dX9_overlap_3 (fun x w2 h => ?_)
  rcases h with ⟨rfl, ⟨h1, rfl⟩ | ⟨h1, rfl⟩⟩
  · skip
    refine R_ifeq (pc := 6) 23 dX9_overlap_6 (by decide) (fun h => absurd h (by decide)) (fun _ => ?_)
    refine R_iload_n (pc := 9) dX9_overlap_9 rfl rfl ?_
    refine R_iconst (pc := 10) (v := 0) dX9_overlap_10 (by decide) ?_
    refine R_iconst (pc := 11) (v := 3) dX9_overlap_11 (by decide) ?_
    refine k_X9_124 (pc := 12) (sp_X9_in _ _ _ _) rfl (by decide) (Nat.le_refl _) (Nat.le_refl _) (Nat.le_of_ble_eq_true rfl) dX9_overlap_12 (fun x w2 h => ?_)
    rcases h with ⟨rfl, ⟨h3, rfl⟩ | ⟨h3, rfl⟩⟩
    · skip
      refine R_ifeq (pc := 15) 23 dX9_overlap_15 (by decide) (fun h => absurd h (by decide)) (fun _ => ?_)
      refine R_iload_n (pc := 18) dX9_overlap_18 rfl rfl ?_
      refine R_iload_n (pc := 19) dX9_overlap_19 rfl rfl ?_
      refine R_icne (pc := 20) 26 dX9_overlap_20 (by decide) (fun b20_5 => ?_) (fun b20_5 => ?_)
      · skip
        refine R_iload_n (pc := 26) dX9_overlap_26 rfl rfl ?_
        refine R_iconst (pc := 27) (v := 0) dX9_overlap_27 (by decide) ?_
        refine R_iconst (pc := 28) (v := 2) dX9_overlap_28 (by decide) ?_
        refine k_X9_124 (pc := 29) (sp_X9_in _ _ _ _) rfl (by decide) (Nat.le_refl _) (Nat.le_refl _) (Nat.le_of_ble_eq_true rfl) dX9_overlap_29 (fun x w2 h => ?_)
        rcases h with ⟨rfl, ⟨h6, rfl⟩ | ⟨h6, rfl⟩⟩
        · skip
          refine R_ifne (pc := 32) 38 dX9_overlap_32 (by decide) (fun _ => ?_) (fun h => absurd h (by decide))
          refine R_aload_n (pc := 38) dX9_overlap_38 rfl rfl ?_
          refine k_X9_162 (pc := 39) (gx_X9_findUnlike _ hI) rfl (c_140 _) (by decide) (Nat.le_refl _) (Nat.le_refl _) (Nat.le_of_ble_eq_true rfl) dX9_overlap_39 (fun w2 h => ?_)
          obtain ⟨σx10, rfl, hV9, hW11⟩ := h
          have hW12 := Cor.trans (show Cor σ σ from Cor.rfl' σ) hW11
          refine R_aload_n (pc := 42) dX9_overlap_42 rfl rfl ?_
          refine R_aload_n (pc := 43) dX9_overlap_43 rfl rfl ?_
          refine g_X9_57 (pc := 44) (v := .ref 153) rfl dX9_overlap_44 (c_140 _) rfl ?_
          refine R_iconst (pc := 47) (v := 1) dX9_overlap_47 (by decide) ?_
          refine R_iconst (pc := 48) (v := (-1)) dX9_overlap_48 (by decide) ?_
          refine k_X9_165 (pc := 49) (gx_X9_findChains_153 _ _ _ hV9) rfl (c_140 _) (by decide) (Nat.le_refl _) (Nat.le_refl _) (Nat.le_of_ble_eq_true rfl) dX9_overlap_49 (fun w2 h => ?_)
          obtain ⟨σx15, rfl, hV14, hW16⟩ := h
          have hW17 := Cor.trans hW12 hW16
          refine R_iconst (pc := 52) (v := 0) dX9_overlap_52 (by decide) ?_
          refine st_9_4_i_i (pc := 53) dX9_overlap_53 ?_
          refine R_iconst (pc := 55) (v := 0) dX9_overlap_55 (by decide) ?_
          refine st_9_5_i_i (pc := 56) dX9_overlap_56 ?_
          refine R_iconst (pc := 58) (v := 0) dX9_overlap_58 (by decide) ?_
          refine st_9_6_i_i (pc := 59) dX9_overlap_59 ?_
          refine R_iconst (pc := 61) (v := 0) dX9_overlap_61 (by decide) ?_
          refine st_9_7_i_i (pc := 62) dX9_overlap_62 ?_
          have HL64 : ∀ (q j64 : Nat) (g4_64 : Int32) (g5_64 : Int32) (g6_64 : Int32) (g8_64 : Option Value), j64 + q = 20 → 0 ≤ j64 → Ct g4_64 j64 → Ct g5_64 j64 → Ct g6_64 j64 → R G l yX9_overlap cX9_overlap 9 (some .int) 4 0 0 (QI (fun _ w2 => ∃ σ2, w2 = WW σ2 ∧ Inv σ2 ∧ Cor σ σ2)) 64 [(some (.ref 140)), (some (.int a)), (some (.int b)), (some (.int c)), (some (.int g4_64)), (some (.int g5_64)), (some (.int g6_64)), (some (.int (nI j64))), g8_64] [] (WW σx15) 0 0 := by
            intro q
            induction q with
            | zero =>
              intro j64 g4_64 g5_64 g6_64 g8_64 hj hs64 hX64_0 hX64_1 hX64_2
              obtain rfl : j64 = 20 := by omega
              refine R_iload (pc := 64) dX9_overlap_64 rfl ?_
              refine R_aload_n (pc := 66) dX9_overlap_66 rfl rfl ?_
              refine k_X9_120 (pc := 67) (ge_X9_thereMany _ hV14) rfl (c_140 _) (by decide) (Nat.le_refl _) (Nat.le_refl _) (Nat.le_of_ble_eq_true rfl) dX9_overlap_67 (fun x w2 h => ?_)
              obtain ⟨rfl, rfl⟩ := h
              refine R_icge (pc := 70) 141 dX9_overlap_70 (by decide) (fun _ => ?_) (fun h => absurd (Int32.not_lt.mp (inR_up (tm_in (σx15.1 14000) (σx15.1 14013) (σx15.2.2.1 148)) (Int32.le_refl _) (by decide)).2) h)
              refine R_iload_n (pc := 141) dX9_overlap_141 rfl rfl ?_
              refine R_ifne (pc := 142) 150 dX9_overlap_142 (by decide) (fun b142_19 => ?_) (fun b142_19 => ?_)
              · skip
                refine R_iload (pc := 150) dX9_overlap_150 rfl ?_
                refine R_ifne (pc := 152) 159 dX9_overlap_152 (by decide) (fun b152_20 => ?_) (fun b152_20 => ?_)
                · skip
                  refine R_iload (pc := 159) dX9_overlap_159 rfl ?_
                  refine R_iload (pc := 161) dX9_overlap_161 rfl ?_
                  refine R_imul (pc := 163) dX9_overlap_163 ?_
                  refine R_iload (pc := 164) dX9_overlap_164 rfl ?_
                  refine R_iload_n (pc := 166) dX9_overlap_166 rfl rfl ?_
                  refine R_iconst (pc := 167) (v := 1) dX9_overlap_167 (by decide) ?_
                  refine R_icne (pc := 168) 175 dX9_overlap_168 (by decide) (fun b168_21 => ?_) (fun b168_21 => ?_)
                  · skip
                    refine R_iconst (pc := 175) (v := 0) dX9_overlap_175 (by decide) ?_
                    refine k_X9_194 (pc := 176) (gx_X9_lowest _ _ _ _ (mul_nn (ct_r hX64_1 (by omega)) (ct_r hX64_2 (by omega))) hX64_0.1 b152_20) rfl (by decide) (Nat.le_refl _) (Nat.le_refl _) (Nat.le_of_ble_eq_true rfl) dX9_overlap_176 (fun y22 w2 h => ?_)
                    subst h
                    exact R_iret (pc := 179) dX9_overlap_179 rfl rfl (Nat.zero_le _) (Nat.zero_le _) ⟨_, rfl, _, rfl, hV14, hW17⟩
                  · skip
                    refine R_iconst (pc := 171) (v := 1) dX9_overlap_171 (by decide) ?_
                    refine R_goto (pc := 172) 176 dX9_overlap_172 (by decide) ?_
                    refine k_X9_194 (pc := 176) (gx_X9_lowest _ _ _ _ (mul_nn (ct_r hX64_1 (by omega)) (ct_r hX64_2 (by omega))) hX64_0.1 b152_20) rfl (by decide) (Nat.le_refl _) (Nat.le_refl _) (Nat.le_of_ble_eq_true rfl) dX9_overlap_176 (fun y23 w2 h => ?_)
                    subst h
                    exact R_iret (pc := 179) dX9_overlap_179 rfl rfl (Nat.zero_le _) (Nat.zero_le _) ⟨_, rfl, _, rfl, hV14, hW17⟩
                · skip
                  refine R_iconst (pc := 155) (v := (-1)) dX9_overlap_155 (by decide) ?_
                  refine R_goto (pc := 156) 179 dX9_overlap_156 (by decide) ?_
                  exact R_iret (pc := 179) dX9_overlap_179 rfl rfl (Nat.zero_le _) (Nat.zero_le _) ⟨_, rfl, _, rfl, hV14, hW17⟩
              · skip
                refine R_iload (pc := 145) dX9_overlap_145 rfl ?_
                refine R_goto (pc := 147) 179 dX9_overlap_147 (by decide) ?_
                exact R_iret (pc := 179) dX9_overlap_179 rfl rfl (Nat.zero_le _) (Nat.zero_le _) ⟨_, rfl, _, rfl, hV14, hW17⟩
            | succ q ih64 =>
              intro j64 g4_64 g5_64 g6_64 g8_64 hj hs64 hX64_0 hX64_1 hX64_2
              have hrg64 : inR (nI j64) 0 19 := inR_ix hs64 (show j64 < 20 by omega) (by decide) (by decide) (by decide)
              have hlt64 : j64 < 20 := by omega
              refine R_iload (pc := 64) dX9_overlap_64 rfl ?_
              refine R_aload_n (pc := 66) dX9_overlap_66 rfl rfl ?_
              refine k_X9_120 (pc := 67) (ge_X9_thereMany _ hV14) rfl (c_140 _) (by decide) (Nat.le_refl _) (Nat.le_refl _) (Nat.le_of_ble_eq_true rfl) dX9_overlap_67 (fun x w2 h => ?_)
              obtain ⟨rfl, rfl⟩ := h
              refine R_icge (pc := 70) 141 dX9_overlap_70 (by decide) (fun b70_24 => ?_) (fun b70_24 => ?_)
              · skip
                refine R_iload_n (pc := 141) dX9_overlap_141 rfl rfl ?_
                refine R_ifne (pc := 142) 150 dX9_overlap_142 (by decide) (fun b142_25 => ?_) (fun b142_25 => ?_)
                · skip
                  refine R_iload (pc := 150) dX9_overlap_150 rfl ?_
                  refine R_ifne (pc := 152) 159 dX9_overlap_152 (by decide) (fun b152_26 => ?_) (fun b152_26 => ?_)
                  · skip
                    refine R_iload (pc := 159) dX9_overlap_159 rfl ?_
                    refine R_iload (pc := 161) dX9_overlap_161 rfl ?_
                    refine R_imul (pc := 163) dX9_overlap_163 ?_
                    refine R_iload (pc := 164) dX9_overlap_164 rfl ?_
                    refine R_iload_n (pc := 166) dX9_overlap_166 rfl rfl ?_
                    refine R_iconst (pc := 167) (v := 1) dX9_overlap_167 (by decide) ?_
                    refine R_icne (pc := 168) 175 dX9_overlap_168 (by decide) (fun b168_27 => ?_) (fun b168_27 => ?_)
                    · skip
                      refine R_iconst (pc := 175) (v := 0) dX9_overlap_175 (by decide) ?_
                      refine k_X9_194 (pc := 176) (gx_X9_lowest _ _ _ _ (mul_nn (ct_r hX64_1 (by omega)) (ct_r hX64_2 (by omega))) hX64_0.1 b152_26) rfl (by decide) (Nat.le_refl _) (Nat.le_refl _) (Nat.le_of_ble_eq_true rfl) dX9_overlap_176 (fun y28 w2 h => ?_)
                      subst h
                      exact R_iret (pc := 179) dX9_overlap_179 rfl rfl (Nat.zero_le _) (Nat.zero_le _) ⟨_, rfl, _, rfl, hV14, hW17⟩
                    · skip
                      refine R_iconst (pc := 171) (v := 1) dX9_overlap_171 (by decide) ?_
                      refine R_goto (pc := 172) 176 dX9_overlap_172 (by decide) ?_
                      refine k_X9_194 (pc := 176) (gx_X9_lowest _ _ _ _ (mul_nn (ct_r hX64_1 (by omega)) (ct_r hX64_2 (by omega))) hX64_0.1 b152_26) rfl (by decide) (Nat.le_refl _) (Nat.le_refl _) (Nat.le_of_ble_eq_true rfl) dX9_overlap_176 (fun y29 w2 h => ?_)
                      subst h
                      exact R_iret (pc := 179) dX9_overlap_179 rfl rfl (Nat.zero_le _) (Nat.zero_le _) ⟨_, rfl, _, rfl, hV14, hW17⟩
                  · skip
                    refine R_iconst (pc := 155) (v := (-1)) dX9_overlap_155 (by decide) ?_
                    refine R_goto (pc := 156) 179 dX9_overlap_156 (by decide) ?_
                    exact R_iret (pc := 179) dX9_overlap_179 rfl rfl (Nat.zero_le _) (Nat.zero_le _) ⟨_, rfl, _, rfl, hV14, hW17⟩
                · skip
                  refine R_iload (pc := 145) dX9_overlap_145 rfl ?_
                  refine R_goto (pc := 147) 179 dX9_overlap_147 (by decide) ?_
                  exact R_iret (pc := 179) dX9_overlap_179 rfl rfl (Nat.zero_le _) (Nat.zero_le _) ⟨_, rfl, _, rfl, hV14, hW17⟩
              · skip
                refine R_aload_n (pc := 73) dX9_overlap_73 rfl rfl ?_
                refine g_X9_57 (pc := 74) (v := .ref 153) rfl dX9_overlap_74 (c_140 _) rfl ?_
                refine R_iload (pc := 77) dX9_overlap_77 rfl ?_
                have hx30 : vp_in (nI j64) 20 := (vp_in_nI (by omega) (by decide))
                refine R_iaload (pc := 79) dX9_overlap_79 (c_153 _) hx30 ?_
                refine R_iload (pc := 80) dX9_overlap_80 rfl ?_
                refine R_icne (pc := 82) 94 dX9_overlap_82 (by decide) (fun b82_31 => ?_) (fun b82_31 => ?_)
                · skip
                  refine R_iconst (pc := 94) (v := 0) dX9_overlap_94 (by decide) ?_
                  refine st_9_8_i_i (pc := 95) dX9_overlap_95 ?_
                  refine R_iload (pc := 97) dX9_overlap_97 rfl ?_
                  refine R_iload (pc := 99) dX9_overlap_99 rfl ?_
                  refine R_iload_n (pc := 101) dX9_overlap_101 rfl rfl ?_
                  refine R_ishr (pc := 102) dX9_overlap_102 ?_
                  refine R_iconst (pc := 103) (v := 1) dX9_overlap_103 (by decide) ?_
                  refine R_iand (pc := 104) dX9_overlap_104 ?_
                  refine R_iadd (pc := 105) dX9_overlap_105 ?_
                  refine st_9_5_i_i (pc := 106) dX9_overlap_106 ?_
                  refine R_iload (pc := 108) dX9_overlap_108 rfl ?_
                  refine R_iload (pc := 110) dX9_overlap_110 rfl ?_
                  refine R_iload_n (pc := 112) dX9_overlap_112 rfl rfl ?_
                  refine R_ishr (pc := 113) dX9_overlap_113 ?_
                  refine R_iconst (pc := 114) (v := 1) dX9_overlap_114 (by decide) ?_
                  refine R_iand (pc := 115) dX9_overlap_115 ?_
                  refine R_iadd (pc := 116) dX9_overlap_116 ?_
                  refine st_9_6_i_i (pc := 117) dX9_overlap_117 ?_
                  refine R_iload (pc := 119) dX9_overlap_119 rfl ?_
                  refine R_iload (pc := 121) dX9_overlap_121 rfl ?_
                  refine R_iload_n (pc := 123) dX9_overlap_123 rfl rfl ?_
                  refine R_ishr (pc := 124) dX9_overlap_124 ?_
                  refine R_iload (pc := 125) dX9_overlap_125 rfl ?_
                  refine R_iload_n (pc := 127) dX9_overlap_127 rfl rfl ?_
                  refine R_ishr (pc := 128) dX9_overlap_128 ?_
                  refine R_iand (pc := 129) dX9_overlap_129 ?_
                  refine R_iconst (pc := 130) (v := 1) dX9_overlap_130 (by decide) ?_
                  refine R_iand (pc := 131) dX9_overlap_131 ?_
                  refine R_iadd (pc := 132) dX9_overlap_132 ?_
                  refine st_9_4_i_i (pc := 133) dX9_overlap_133 ?_
                  refine inc_9_7_1_i (pc := 135) dX9_overlap_135 ?_
                  have r32 : inR ((nI j64) + 1) 1 20 := inR_add (show inR (nI j64) 0 19 from hrg64) (show inR 1 1 1 from (inR_self _)) (by decide) (by decide)
                  have e33 := ti_add (l := 1) (h := 20) (show inR (nI j64) 0 19 from hrg64) (show inR 1 1 1 from (inR_self _)) (by decide) (by decide)
                  refine R_goto (pc := 138) 64 dX9_overlap_138 (by decide) ?_
                  rw [nI_1]
                  exact ih64 (j64 + 1) _ _ _ _ (by omega) (by omega) (ct_s hX64_0 (by omega) (and_01 _)) (ct_s hX64_1 (by omega) (and_01 _)) (ct_s hX64_2 (by omega) (and_01 _))
                · skip
                  refine R_aload_n (pc := 85) dX9_overlap_85 rfl rfl ?_
                  refine R_iload (pc := 86) dX9_overlap_86 rfl ?_
                  refine k_X9_169 (pc := 88) (ge_X9_listsOf _ _ hV14) rfl (c_140 _) (by decide) (Nat.le_refl _) (Nat.le_refl _) (Nat.le_of_ble_eq_true rfl) dX9_overlap_88 (fun x w2 h => ?_)
                  obtain ⟨rfl, rfl⟩ := h
                  refine R_goto (pc := 91) 95 dX9_overlap_91 (by decide) ?_
                  refine st_9_8_i_i (pc := 95) dX9_overlap_95 ?_
                  refine R_iload (pc := 97) dX9_overlap_97 rfl ?_
                  refine R_iload (pc := 99) dX9_overlap_99 rfl ?_
                  refine R_iload_n (pc := 101) dX9_overlap_101 rfl rfl ?_
                  refine R_ishr (pc := 102) dX9_overlap_102 ?_
                  refine R_iconst (pc := 103) (v := 1) dX9_overlap_103 (by decide) ?_
                  refine R_iand (pc := 104) dX9_overlap_104 ?_
                  refine R_iadd (pc := 105) dX9_overlap_105 ?_
                  refine st_9_5_i_i (pc := 106) dX9_overlap_106 ?_
                  refine R_iload (pc := 108) dX9_overlap_108 rfl ?_
                  refine R_iload (pc := 110) dX9_overlap_110 rfl ?_
                  refine R_iload_n (pc := 112) dX9_overlap_112 rfl rfl ?_
                  refine R_ishr (pc := 113) dX9_overlap_113 ?_
                  refine R_iconst (pc := 114) (v := 1) dX9_overlap_114 (by decide) ?_
                  refine R_iand (pc := 115) dX9_overlap_115 ?_
                  refine R_iadd (pc := 116) dX9_overlap_116 ?_
                  refine st_9_6_i_i (pc := 117) dX9_overlap_117 ?_
                  refine R_iload (pc := 119) dX9_overlap_119 rfl ?_
                  refine R_iload (pc := 121) dX9_overlap_121 rfl ?_
                  refine R_iload_n (pc := 123) dX9_overlap_123 rfl rfl ?_
                  refine R_ishr (pc := 124) dX9_overlap_124 ?_
                  refine R_iload (pc := 125) dX9_overlap_125 rfl ?_
                  refine R_iload_n (pc := 127) dX9_overlap_127 rfl rfl ?_
                  refine R_ishr (pc := 128) dX9_overlap_128 ?_
                  refine R_iand (pc := 129) dX9_overlap_129 ?_
                  refine R_iconst (pc := 130) (v := 1) dX9_overlap_130 (by decide) ?_
                  refine R_iand (pc := 131) dX9_overlap_131 ?_
                  refine R_iadd (pc := 132) dX9_overlap_132 ?_
                  refine st_9_4_i_i (pc := 133) dX9_overlap_133 ?_
                  refine inc_9_7_1_i (pc := 135) dX9_overlap_135 ?_
                  have r34 : inR ((nI j64) + 1) 1 20 := inR_add (show inR (nI j64) 0 19 from hrg64) (show inR 1 1 1 from (inR_self _)) (by decide) (by decide)
                  have e35 := ti_add (l := 1) (h := 20) (show inR (nI j64) 0 19 from hrg64) (show inR 1 1 1 from (inR_self _)) (by decide) (by decide)
                  refine R_goto (pc := 138) 64 dX9_overlap_138 (by decide) ?_
                  rw [nI_1]
                  exact ih64 (j64 + 1) _ _ _ _ (by omega) (by omega) (ct_s hX64_0 (by omega) (and_01 _)) (ct_s hX64_1 (by omega) (and_01 _)) (ct_s hX64_2 (by omega) (and_01 _))
          exact HL64 20 0 _ _ _ _ (by omega) (by omega) ct_0 ct_0 ct_0
        · skip
          refine R_ifne (pc := 32) 38 dX9_overlap_32 (by decide) (fun h => absurd (by decide) h) (fun _ => ?_)
          refine R_bipush (pc := 35) (v := (-3)) dX9_overlap_35 (by decide) ?_
          exact R_iret (pc := 37) dX9_overlap_37 rfl rfl (Nat.zero_le _) (Nat.zero_le _) ⟨_, rfl, _, rfl, hI, (show Cor σ σ from Cor.rfl' σ)⟩
      · skip
        refine R_bipush (pc := 23) (v := (-2)) dX9_overlap_23 (by decide) ?_
        exact R_iret (pc := 25) dX9_overlap_25 rfl rfl (Nat.zero_le _) (Nat.zero_le _) ⟨_, rfl, _, rfl, hI, (show Cor σ σ from Cor.rfl' σ)⟩
    · skip
      refine R_ifeq (pc := 15) 23 dX9_overlap_15 (by decide) (fun _ => ?_) (fun h => absurd (by decide) h)
      refine R_bipush (pc := 23) (v := (-2)) dX9_overlap_23 (by decide) ?_
      exact R_iret (pc := 25) dX9_overlap_25 rfl rfl (Nat.zero_le _) (Nat.zero_le _) ⟨_, rfl, _, rfl, hI, (show Cor σ σ from Cor.rfl' σ)⟩
  · skip
    refine R_ifeq (pc := 6) 23 dX9_overlap_6 (by decide) (fun _ => ?_) (fun h => absurd (by decide) h)
    refine R_bipush (pc := 23) (v := (-2)) dX9_overlap_23 (by decide) ?_
    exact R_iret (pc := 25) dX9_overlap_25 rfl rfl (Nat.zero_le _) (Nat.zero_le _) ⟨_, rfl, _, rfl, hI, (show Cor σ σ from Cor.rfl' σ)⟩
