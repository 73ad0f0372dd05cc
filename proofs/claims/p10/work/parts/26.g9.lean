/-! methods on any state that keeps the invariant -/
theorem dX8_span_0 : decode cX8_span 0 = .ok (.aload_n 0, 1) := by decide +kernel
theorem dX8_span_1 : decode cX8_span 1 = .ok (.getfield 10, 3) := by decide +kernel
theorem dX8_span_4 : decode cX8_span 4 = .ok (.iload_n 1, 1) := by decide +kernel
theorem dX8_span_5 : decode cX8_span 5 = .ok (.invokevirtual 90, 3) := by decide +kernel
theorem dX8_span_8 : decode cX8_span 8 = .ok (.ifCond .ne 6, 3) := by decide +kernel
theorem dX8_span_11 : decode cX8_span 11 = .ok (.bipush (-2), 2) := by decide +kernel
theorem dX8_span_13 : decode cX8_span 13 = .ok (.ireturn, 1) := by decide +kernel
theorem dX8_span_14 : decode cX8_span 14 = .ok (.iload_n 2, 1) := by decide +kernel
theorem dX8_span_15 : decode cX8_span 15 = .ok (.iconst 0, 1) := by decide +kernel
theorem dX8_span_16 : decode cX8_span 16 = .ok (.iconst 1, 1) := by decide +kernel
theorem dX8_span_17 : decode cX8_span 17 = .ok (.invokestatic 72, 3) := by decide +kernel
theorem dX8_span_20 : decode cX8_span 20 = .ok (.ifCond .eq 12, 3) := by decide +kernel
theorem dX8_span_23 : decode cX8_span 23 = .ok (.iload_n 3, 1) := by decide +kernel
theorem dX8_span_24 : decode cX8_span 24 = .ok (.iconst 0, 1) := by decide +kernel
theorem dX8_span_25 : decode cX8_span 25 = .ok (.iconst 1, 1) := by decide +kernel
theorem dX8_span_26 : decode cX8_span 26 = .ok (.invokestatic 72, 3) := by decide +kernel
theorem dX8_span_29 : decode cX8_span 29 = .ok (.ifCond .ne 6, 3) := by decide +kernel
theorem dX8_span_32 : decode cX8_span 32 = .ok (.bipush (-3), 2) := by decide +kernel
theorem dX8_span_34 : decode cX8_span 34 = .ok (.ireturn, 1) := by decide +kernel
theorem dX8_span_35 : decode cX8_span 35 = .ok (.aload_n 0, 1) := by decide +kernel
theorem dX8_span_36 : decode cX8_span 36 = .ok (.getfield 37, 3) := by decide +kernel
theorem dX8_span_39 : decode cX8_span 39 = .ok (.aload_n 0, 1) := by decide +kernel
theorem dX8_span_40 : decode cX8_span 40 = .ok (.getfield 10, 3) := by decide +kernel
theorem dX8_span_43 : decode cX8_span 43 = .ok (.invokevirtual 126, 3) := by decide +kernel
theorem dX8_span_46 : decode cX8_span 46 = .ok (.aload_n 0, 1) := by decide +kernel
theorem dX8_span_47 : decode cX8_span 47 = .ok (.getfield 62, 3) := by decide +kernel
theorem dX8_span_50 : decode cX8_span 50 = .ok (.invokevirtual 242, 3) := by decide +kernel
theorem dX8_span_53 : decode cX8_span 53 = .ok (.ifCond .ne 5, 3) := by decide +kernel
theorem dX8_span_56 : decode cX8_span 56 = .ok (.iconst (-1), 1) := by decide +kernel
theorem dX8_span_57 : decode cX8_span 57 = .ok (.ireturn, 1) := by decide +kernel
theorem dX8_span_58 : decode cX8_span 58 = .ok (.iload_n 2, 1) := by decide +kernel
theorem dX8_span_59 : decode cX8_span 59 = .ok (.ifCond .ne 48, 3) := by decide +kernel
theorem dX8_span_62 : decode cX8_span 62 = .ok (.aload_n 0, 1) := by decide +kernel
theorem dX8_span_63 : decode cX8_span 63 = .ok (.getfield 37, 3) := by decide +kernel
theorem dX8_span_66 : decode cX8_span 66 = .ok (.getfield 246, 3) := by decide +kernel
theorem dX8_span_69 : decode cX8_span 69 = .ok (.iload_n 1, 1) := by decide +kernel
theorem dX8_span_70 : decode cX8_span 70 = .ok (.iaload, 1) := by decide +kernel
theorem dX8_span_71 : decode cX8_span 71 = .ok (.istore 4, 2) := by decide +kernel
theorem dX8_span_73 : decode cX8_span 73 = .ok (.iload_n 3, 1) := by decide +kernel
theorem dX8_span_74 : decode cX8_span 74 = .ok (.ifCond .ne 19, 3) := by decide +kernel
theorem dX8_span_77 : decode cX8_span 77 = .ok (.aload_n 0, 1) := by decide +kernel
theorem dX8_span_78 : decode cX8_span 78 = .ok (.getfield 37, 3) := by decide +kernel
theorem dX8_span_81 : decode cX8_span 81 = .ok (.getfield 249, 3) := by decide +kernel
theorem dX8_span_84 : decode cX8_span 84 = .ok (.getfield 253, 3) := by decide +kernel
theorem dX8_span_87 : decode cX8_span 87 = .ok (.iload 4, 2) := by decide +kernel
theorem dX8_span_89 : decode cX8_span 89 = .ok (.iaload, 1) := by decide +kernel
theorem dX8_span_90 : decode cX8_span 90 = .ok (.goto 16, 3) := by decide +kernel
theorem dX8_span_93 : decode cX8_span 93 = .ok (.aload_n 0, 1) := by decide +kernel
theorem dX8_span_94 : decode cX8_span 94 = .ok (.getfield 37, 3) := by decide +kernel
theorem dX8_span_97 : decode cX8_span 97 = .ok (.getfield 249, 3) := by decide +kernel
theorem dX8_span_100 : decode cX8_span 100 = .ok (.getfield 258, 3) := by decide +kernel
theorem dX8_span_103 : decode cX8_span 103 = .ok (.iload 4, 2) := by decide +kernel
theorem dX8_span_105 : decode cX8_span 105 = .ok (.iaload, 1) := by decide +kernel
theorem dX8_span_106 : decode cX8_span 106 = .ok (.ireturn, 1) := by decide +kernel
theorem dX8_span_107 : decode cX8_span 107 = .ok (.iload_n 3, 1) := by decide +kernel
theorem dX8_span_108 : decode cX8_span 108 = .ok (.ifCond .ne 18, 3) := by decide +kernel
theorem dX8_span_111 : decode cX8_span 111 = .ok (.aload_n 0, 1) := by decide +kernel
theorem dX8_span_112 : decode cX8_span 112 = .ok (.getfield 37, 3) := by decide +kernel
theorem dX8_span_115 : decode cX8_span 115 = .ok (.getfield 261, 3) := by decide +kernel
theorem dX8_span_118 : decode cX8_span 118 = .ok (.getfield 253, 3) := by decide +kernel
theorem dX8_span_121 : decode cX8_span 121 = .ok (.iload_n 1, 1) := by decide +kernel
theorem dX8_span_122 : decode cX8_span 122 = .ok (.iaload, 1) := by decide +kernel
theorem dX8_span_123 : decode cX8_span 123 = .ok (.goto 15, 3) := by decide +kernel
theorem dX8_span_126 : decode cX8_span 126 = .ok (.aload_n 0, 1) := by decide +kernel
theorem dX8_span_127 : decode cX8_span 127 = .ok (.getfield 37, 3) := by decide +kernel
theorem dX8_span_130 : decode cX8_span 130 = .ok (.getfield 261, 3) := by decide +kernel
theorem dX8_span_133 : decode cX8_span 133 = .ok (.getfield 258, 3) := by decide +kernel
theorem dX8_span_136 : decode cX8_span 136 = .ok (.iload_n 1, 1) := by decide +kernel
theorem dX8_span_137 : decode cX8_span 137 = .ok (.iaload, 1) := by decide +kernel
theorem dX8_span_138 : decode cX8_span 138 = .ok (.ireturn, 1) := by decide +kernel
set_option maxRecDepth 100000 in
set_option maxHeartbeats 40000000 in
theorem gp_span {G : vG} {l : Launch} (σ : Sg) (a b c : Int32) (hI : Inv σ) : Sp G l yX8_span cX8_span 5 (some .int) 6 0 0 [.ref 0, .int a, .int b, .int c] (WW σ) (QI (fun _ w2 => ∃ σ2, w2 = WW σ2 ∧ Inv σ2 ∧ Cor σ σ2)) := by
  refine Sp_of_R [(some (.ref 0)), (some (.int a)), (some (.int b)), (some (.int c)), none] [none] rfl (by simp) rfl (Nat.le_of_ble_eq_true rfl) ?_
  refine R_aload_n (pc := 0) dX8_span_0 rfl rfl ?_
  refine g_X8_10 (pc := 1) (v := .ref 1) rfl dX8_span_1 (c_0 _) rfl ?_
  refine R_iload_n (pc := 4) dX8_span_4 rfl rfl ?_
  refine k_X8_90 (pc := 5) (gx_X0_isThere _ _ hI) rfl (c_1 _) (by decide) (Nat.le_refl _) (Nat.le_refl _) (Nat.le_of_ble_eq_true rfl) dX8_span_5 (fun x w2 h => ?_)
  rcases h with ⟨rfl, ⟨h1, rfl⟩ | rfl⟩
  · skip
    refine R_ifne (pc := 8) 14 dX8_span_8 (by decide) (fun _ => ?_) (fun h => absurd h (by decide))
    refine R_iload_n (pc := 14) dX8_span_14 rfl rfl ?_
    refine R_iconst (pc := 15) (v := 0) dX8_span_15 (by decide) ?_
    refine R_iconst (pc := 16) (v := 1) dX8_span_16 (by decide) ?_
    refine k_X8_72 (pc := 17) (sp_X8_isWithin _ _ _ _) rfl (by decide) (Nat.le_refl _) (Nat.le_refl _) (Nat.le_of_ble_eq_true rfl) dX8_span_17 (fun x w2 h => ?_)
    rcases h with ⟨rfl, ⟨h3, rfl⟩ | ⟨h3, rfl⟩⟩
    · skip
      refine R_ifeq (pc := 20) 32 dX8_span_20 (by decide) (fun h => absurd h (by decide)) (fun _ => ?_)
      refine R_iload_n (pc := 23) dX8_span_23 rfl rfl ?_
      refine R_iconst (pc := 24) (v := 0) dX8_span_24 (by decide) ?_
      refine R_iconst (pc := 25) (v := 1) dX8_span_25 (by decide) ?_
      refine k_X8_72 (pc := 26) (sp_X8_isWithin _ _ _ _) rfl (by decide) (Nat.le_refl _) (Nat.le_refl _) (Nat.le_of_ble_eq_true rfl) dX8_span_26 (fun x w2 h => ?_)
      rcases h with ⟨rfl, ⟨h5, rfl⟩ | ⟨h5, rfl⟩⟩
      · skip
        refine R_ifne (pc := 29) 35 dX8_span_29 (by decide) (fun _ => ?_) (fun h => absurd h (by decide))
        refine R_aload_n (pc := 35) dX8_span_35 rfl rfl ?_
        refine g_X8_37 (pc := 36) (v := .ref 58) rfl dX8_span_36 (c_0 _) rfl ?_
        refine R_aload_n (pc := 39) dX8_span_39 rfl rfl ?_
        refine g_X8_10 (pc := 40) (v := .ref 1) rfl dX8_span_40 (c_0 _) rfl ?_
        refine k_X8_126 (pc := 43) (gx_X0_there _ hI) rfl (c_1 _) (by decide) (Nat.le_refl _) (Nat.le_refl _) (Nat.le_of_ble_eq_true rfl) dX8_span_43 (fun y7 w2 h => ?_)
        subst h
        refine R_aload_n (pc := 46) dX8_span_46 rfl rfl ?_
        rcases iv_ln hI with ⟨hl8, hl8d⟩ | ⟨hl8, hl8d⟩
        · skip
          refine g_X8_62 (pc := 47) (v := .ref 126) rfl dX8_span_47 (c_0 _) (by show some (Value.ref σ.2.2.2.2.1) = _; rw [hl8]) ?_
          refine k_X8_242 (pc := 50) (gx_X1_settle_126 _ _ hI) rfl (c_58 _) (by decide) (Nat.le_refl _) (Nat.le_refl _) (Nat.le_of_ble_eq_true rfl) dX8_span_50 (fun y9 w2 h => ?_)
          obtain ⟨σx11, rfl, hV10, hW12⟩ := h
          have hW13 := Cor.trans (show Cor σ σ from Cor.rfl' σ) hW12
          refine R_ifne (pc := 53) 58 dX8_span_53 (by decide) (fun b53_14 => ?_) (fun b53_14 => ?_)
          · skip
            refine R_iload_n (pc := 58) dX8_span_58 rfl rfl ?_
            refine R_ifne (pc := 59) 107 dX8_span_59 (by decide) (fun b59_15 => ?_) (fun b59_15 => ?_)
            · skip
              refine R_iload_n (pc := 107) dX8_span_107 rfl rfl ?_
              refine R_ifne (pc := 108) 126 dX8_span_108 (by decide) (fun b108_16 => ?_) (fun b108_16 => ?_)
              · skip
                refine R_aload_n (pc := 126) dX8_span_126 rfl rfl ?_
                refine g_X8_37 (pc := 127) (v := .ref 58) rfl dX8_span_127 (c_0 _) rfl ?_
                refine g_X8_261 (pc := 130) (v := .ref 89) rfl dX8_span_130 (c_58 _) rfl ?_
                refine g_X8_258 (pc := 133) (v := .ref 91) rfl dX8_span_133 (c_89 _) rfl ?_
                refine R_iload_n (pc := 136) dX8_span_136 rfl rfl ?_
                have hx17 : vp_in a 20 := (vp_of_inR h1 (by decide))
                refine R_iaload (pc := 137) dX8_span_137 (c_91 _) hx17 ?_
                exact R_iret (pc := 138) dX8_span_138 rfl rfl (Nat.zero_le _) (Nat.zero_le _) ⟨_, rfl, _, rfl, hV10, hW13⟩
              · skip
                refine R_aload_n (pc := 111) dX8_span_111 rfl rfl ?_
                refine g_X8_37 (pc := 112) (v := .ref 58) rfl dX8_span_112 (c_0 _) rfl ?_
                refine g_X8_261 (pc := 115) (v := .ref 89) rfl dX8_span_115 (c_58 _) rfl ?_
                refine g_X8_253 (pc := 118) (v := .ref 90) rfl dX8_span_118 (c_89 _) rfl ?_
                refine R_iload_n (pc := 121) dX8_span_121 rfl rfl ?_
                have hx18 : vp_in a 20 := (vp_of_inR h1 (by decide))
                refine R_iaload (pc := 122) dX8_span_122 (c_90 _) hx18 ?_
                refine R_goto (pc := 123) 138 dX8_span_123 (by decide) ?_
                exact R_iret (pc := 138) dX8_span_138 rfl rfl (Nat.zero_le _) (Nat.zero_le _) ⟨_, rfl, _, rfl, hV10, hW13⟩
            · skip
              refine R_aload_n (pc := 62) dX8_span_62 rfl rfl ?_
              refine g_X8_37 (pc := 63) (v := .ref 58) rfl dX8_span_63 (c_0 _) rfl ?_
              refine g_X8_246 (pc := 66) (v := .ref 92) rfl dX8_span_66 (c_58 _) rfl ?_
              refine R_iload_n (pc := 69) dX8_span_69 rfl rfl ?_
              have hx19 : vp_in a 20 := (vp_of_inR h1 (by decide))
              refine R_iaload (pc := 70) dX8_span_70 (c_92 _) hx19 ?_
              refine st_5_4_i_i (pc := 71) dX8_span_71 ?_
              refine R_iload_n (pc := 73) dX8_span_73 rfl rfl ?_
              refine R_ifne (pc := 74) 93 dX8_span_74 (by decide) (fun b74_20 => ?_) (fun b74_20 => ?_)
              · skip
                refine R_aload_n (pc := 93) dX8_span_93 rfl rfl ?_
                refine g_X8_37 (pc := 94) (v := .ref 58) rfl dX8_span_94 (c_0 _) rfl ?_
                refine g_X8_249 (pc := 97) (v := .ref 86) rfl dX8_span_97 (c_58 _) rfl ?_
                refine g_X8_258 (pc := 100) (v := .ref 88) rfl dX8_span_100 (c_86 _) rfl ?_
                refine R_iload (pc := 103) dX8_span_103 rfl ?_
                have hx21 : vp_in (σx11.2.2.1 92 (Int32.toNatClampNeg a)) 20 := (vp_of_inR (iva_92 hV10 _ (lt_of_vp hx19)) (by decide))
                refine R_iaload (pc := 105) dX8_span_105 (c_88 _) hx21 ?_
                exact R_iret (pc := 106) dX8_span_106 rfl rfl (Nat.zero_le _) (Nat.zero_le _) ⟨_, rfl, _, rfl, hV10, hW13⟩
              · skip
                refine R_aload_n (pc := 77) dX8_span_77 rfl rfl ?_
                refine g_X8_37 (pc := 78) (v := .ref 58) rfl dX8_span_78 (c_0 _) rfl ?_
                refine g_X8_249 (pc := 81) (v := .ref 86) rfl dX8_span_81 (c_58 _) rfl ?_
                refine g_X8_253 (pc := 84) (v := .ref 87) rfl dX8_span_84 (c_86 _) rfl ?_
                refine R_iload (pc := 87) dX8_span_87 rfl ?_
                have hx22 : vp_in (σx11.2.2.1 92 (Int32.toNatClampNeg a)) 20 := (vp_of_inR (iva_92 hV10 _ (lt_of_vp hx19)) (by decide))
                refine R_iaload (pc := 89) dX8_span_89 (c_87 _) hx22 ?_
                refine R_goto (pc := 90) 106 dX8_span_90 (by decide) ?_
                exact R_iret (pc := 106) dX8_span_106 rfl rfl (Nat.zero_le _) (Nat.zero_le _) ⟨_, rfl, _, rfl, hV10, hW13⟩
          · skip
            refine R_iconst (pc := 56) (v := (-1)) dX8_span_56 (by decide) ?_
            exact R_iret (pc := 57) dX8_span_57 rfl rfl (Nat.zero_le _) (Nat.zero_le _) ⟨_, rfl, _, rfl, hV10, hW13⟩
        · skip
          refine g_X8_62 (pc := 47) (v := .ref 133) rfl dX8_span_47 (c_0 _) (by show some (Value.ref σ.2.2.2.2.1) = _; rw [hl8]) ?_
          refine k_X8_242 (pc := 50) (gx_X1_settle_133 _ _ hI) rfl (c_58 _) (by decide) (Nat.le_refl _) (Nat.le_refl _) (Nat.le_of_ble_eq_true rfl) dX8_span_50 (fun y23 w2 h => ?_)
          obtain ⟨σx25, rfl, hV24, hW26⟩ := h
          have hW27 := Cor.trans (show Cor σ σ from Cor.rfl' σ) hW26
          refine R_ifne (pc := 53) 58 dX8_span_53 (by decide) (fun b53_28 => ?_) (fun b53_28 => ?_)
          · skip
            refine R_iload_n (pc := 58) dX8_span_58 rfl rfl ?_
            refine R_ifne (pc := 59) 107 dX8_span_59 (by decide) (fun b59_29 => ?_) (fun b59_29 => ?_)
            · skip
              refine R_iload_n (pc := 107) dX8_span_107 rfl rfl ?_
              refine R_ifne (pc := 108) 126 dX8_span_108 (by decide) (fun b108_30 => ?_) (fun b108_30 => ?_)
              · skip
                refine R_aload_n (pc := 126) dX8_span_126 rfl rfl ?_
                refine g_X8_37 (pc := 127) (v := .ref 58) rfl dX8_span_127 (c_0 _) rfl ?_
                refine g_X8_261 (pc := 130) (v := .ref 89) rfl dX8_span_130 (c_58 _) rfl ?_
                refine g_X8_258 (pc := 133) (v := .ref 91) rfl dX8_span_133 (c_89 _) rfl ?_
                refine R_iload_n (pc := 136) dX8_span_136 rfl rfl ?_
                have hx31 : vp_in a 20 := (vp_of_inR h1 (by decide))
                refine R_iaload (pc := 137) dX8_span_137 (c_91 _) hx31 ?_
                exact R_iret (pc := 138) dX8_span_138 rfl rfl (Nat.zero_le _) (Nat.zero_le _) ⟨_, rfl, _, rfl, hV24, hW27⟩
              · skip
                refine R_aload_n (pc := 111) dX8_span_111 rfl rfl ?_
                refine g_X8_37 (pc := 112) (v := .ref 58) rfl dX8_span_112 (c_0 _) rfl ?_
                refine g_X8_261 (pc := 115) (v := .ref 89) rfl dX8_span_115 (c_58 _) rfl ?_
                refine g_X8_253 (pc := 118) (v := .ref 90) rfl dX8_span_118 (c_89 _) rfl ?_
                refine R_iload_n (pc := 121) dX8_span_121 rfl rfl ?_
                have hx32 : vp_in a 20 := (vp_of_inR h1 (by decide))
                refine R_iaload (pc := 122) dX8_span_122 (c_90 _) hx32 ?_
                refine R_goto (pc := 123) 138 dX8_span_123 (by decide) ?_
                exact R_iret (pc := 138) dX8_span_138 rfl rfl (Nat.zero_le _) (Nat.zero_le _) ⟨_, rfl, _, rfl, hV24, hW27⟩
            · skip
              refine R_aload_n (pc := 62) dX8_span_62 rfl rfl ?_
              refine g_X8_37 (pc := 63) (v := .ref 58) rfl dX8_span_63 (c_0 _) rfl ?_
              refine g_X8_246 (pc := 66) (v := .ref 92) rfl dX8_span_66 (c_58 _) rfl ?_
              refine R_iload_n (pc := 69) dX8_span_69 rfl rfl ?_
              have hx33 : vp_in a 20 := (vp_of_inR h1 (by decide))
              refine R_iaload (pc := 70) dX8_span_70 (c_92 _) hx33 ?_
              refine st_5_4_i_i (pc := 71) dX8_span_71 ?_
              refine R_iload_n (pc := 73) dX8_span_73 rfl rfl ?_
              refine R_ifne (pc := 74) 93 dX8_span_74 (by decide) (fun b74_34 => ?_) (fun b74_34 => ?_)
              · skip
                refine R_aload_n (pc := 93) dX8_span_93 rfl rfl ?_
                refine g_X8_37 (pc := 94) (v := .ref 58) rfl dX8_span_94 (c_0 _) rfl ?_
                refine g_X8_249 (pc := 97) (v := .ref 86) rfl dX8_span_97 (c_58 _) rfl ?_
                refine g_X8_258 (pc := 100) (v := .ref 88) rfl dX8_span_100 (c_86 _) rfl ?_
                refine R_iload (pc := 103) dX8_span_103 rfl ?_
                have hx35 : vp_in (σx25.2.2.1 92 (Int32.toNatClampNeg a)) 20 := (vp_of_inR (iva_92 hV24 _ (lt_of_vp hx33)) (by decide))
                refine R_iaload (pc := 105) dX8_span_105 (c_88 _) hx35 ?_
                exact R_iret (pc := 106) dX8_span_106 rfl rfl (Nat.zero_le _) (Nat.zero_le _) ⟨_, rfl, _, rfl, hV24, hW27⟩
              · skip
                refine R_aload_n (pc := 77) dX8_span_77 rfl rfl ?_
                refine g_X8_37 (pc := 78) (v := .ref 58) rfl dX8_span_78 (c_0 _) rfl ?_
                refine g_X8_249 (pc := 81) (v := .ref 86) rfl dX8_span_81 (c_58 _) rfl ?_
                refine g_X8_253 (pc := 84) (v := .ref 87) rfl dX8_span_84 (c_86 _) rfl ?_
                refine R_iload (pc := 87) dX8_span_87 rfl ?_
                have hx36 : vp_in (σx25.2.2.1 92 (Int32.toNatClampNeg a)) 20 := (vp_of_inR (iva_92 hV24 _ (lt_of_vp hx33)) (by decide))
                refine R_iaload (pc := 89) dX8_span_89 (c_87 _) hx36 ?_
                refine R_goto (pc := 90) 106 dX8_span_90 (by decide) ?_
                exact R_iret (pc := 106) dX8_span_106 rfl rfl (Nat.zero_le _) (Nat.zero_le _) ⟨_, rfl, _, rfl, hV24, hW27⟩
          · skip
            refine R_iconst (pc := 56) (v := (-1)) dX8_span_56 (by decide) ?_
            exact R_iret (pc := 57) dX8_span_57 rfl rfl (Nat.zero_le _) (Nat.zero_le _) ⟨_, rfl, _, rfl, hV24, hW27⟩
      · skip
        refine R_ifne (pc := 29) 35 dX8_span_29 (by decide) (fun h => absurd (by decide) h) (fun _ => ?_)
        refine R_bipush (pc := 32) (v := (-3)) dX8_span_32 (by decide) ?_
        exact R_iret (pc := 34) dX8_span_34 rfl rfl (Nat.zero_le _) (Nat.zero_le _) ⟨_, rfl, _, rfl, hI, (show Cor σ σ from Cor.rfl' σ)⟩
    · skip
      refine R_ifeq (pc := 20) 32 dX8_span_20 (by decide) (fun _ => ?_) (fun h => absurd (by decide) h)
      refine R_bipush (pc := 32) (v := (-3)) dX8_span_32 (by decide) ?_
      exact R_iret (pc := 34) dX8_span_34 rfl rfl (Nat.zero_le _) (Nat.zero_le _) ⟨_, rfl, _, rfl, hI, (show Cor σ σ from Cor.rfl' σ)⟩
  · skip
    refine R_ifne (pc := 8) 14 dX8_span_8 (by decide) (fun h => absurd (by decide) h) (fun _ => ?_)
    refine R_bipush (pc := 11) (v := (-2)) dX8_span_11 (by decide) ?_
    exact R_iret (pc := 13) dX8_span_13 rfl rfl (Nat.zero_le _) (Nat.zero_le _) ⟨_, rfl, _, rfl, hI, (show Cor σ σ from Cor.rfl' σ)⟩
theorem dX8_quarrel_0 : decode cX8_quarrel 0 = .ok (.aload_n 0, 1) := by decide +kernel
theorem dX8_quarrel_1 : decode cX8_quarrel 1 = .ok (.getfield 37, 3) := by decide +kernel
theorem dX8_quarrel_4 : decode cX8_quarrel 4 = .ok (.aload_n 0, 1) := by decide +kernel
theorem dX8_quarrel_5 : decode cX8_quarrel 5 = .ok (.getfield 10, 3) := by decide +kernel
theorem dX8_quarrel_8 : decode cX8_quarrel 8 = .ok (.invokevirtual 126, 3) := by decide +kernel
theorem dX8_quarrel_11 : decode cX8_quarrel 11 = .ok (.aload_n 0, 1) := by decide +kernel
theorem dX8_quarrel_12 : decode cX8_quarrel 12 = .ok (.getfield 62, 3) := by decide +kernel
theorem dX8_quarrel_15 : decode cX8_quarrel 15 = .ok (.invokevirtual 242, 3) := by decide +kernel
theorem dX8_quarrel_18 : decode cX8_quarrel 18 = .ok (.ifCond .eq 7, 3) := by decide +kernel
theorem dX8_quarrel_21 : decode cX8_quarrel 21 = .ok (.iconst 0, 1) := by decide +kernel
theorem dX8_quarrel_22 : decode cX8_quarrel 22 = .ok (.goto 4, 3) := by decide +kernel
theorem dX8_quarrel_25 : decode cX8_quarrel 25 = .ok (.iconst 1, 1) := by decide +kernel
theorem dX8_quarrel_26 : decode cX8_quarrel 26 = .ok (.ireturn, 1) := by decide +kernel
set_option maxRecDepth 100000 in
set_option maxHeartbeats 40000000 in
theorem gp_quarrel {G : vG} {l : Launch} (σ : Sg)  (hI : Inv σ) : Sp G l yX8_quarrel cX8_quarrel 1 (some .int) 6 0 0 [.ref 0] (WW σ) (QI (fun _ w2 => ∃ σ2, w2 = WW σ2 ∧ Inv σ2 ∧ Cor σ σ2)) := by
  refine Sp_of_R [(some (.ref 0))] [] rfl (by simp) rfl (Nat.le_of_ble_eq_true rfl) ?_
  refine R_aload_n (pc := 0) dX8_quarrel_0 rfl rfl ?_
  refine g_X8_37 (pc := 1) (v := .ref 58) rfl dX8_quarrel_1 (c_0 _) rfl ?_
  refine R_aload_n (pc := 4) dX8_quarrel_4 rfl rfl ?_
  refine g_X8_10 (pc := 5) (v := .ref 1) rfl dX8_quarrel_5 (c_0 _) rfl ?_
  refine k_X8_126 (pc := 8) (gx_X0_there _ hI) rfl (c_1 _) (by decide) (Nat.le_refl _) (Nat.le_refl _) (Nat.le_of_ble_eq_true rfl) dX8_quarrel_8 (fun y1 w2 h => ?_)
  subst h
  refine R_aload_n (pc := 11) dX8_quarrel_11 rfl rfl ?_
  rcases iv_ln hI with ⟨hl2, hl2d⟩ | ⟨hl2, hl2d⟩
  · skip
    refine g_X8_62 (pc := 12) (v := .ref 126) rfl dX8_quarrel_12 (c_0 _) (by show some (Value.ref σ.2.2.2.2.1) = _; rw [hl2]) ?_
    refine k_X8_242 (pc := 15) (gx_X1_settle_126 _ _ hI) rfl (c_58 _) (by decide) (Nat.le_refl _) (Nat.le_refl _) (Nat.le_of_ble_eq_true rfl) dX8_quarrel_15 (fun y3 w2 h => ?_)
    obtain ⟨σx5, rfl, hV4, hW6⟩ := h
    have hW7 := Cor.trans (show Cor σ σ from Cor.rfl' σ) hW6
    refine R_ifeq (pc := 18) 25 dX8_quarrel_18 (by decide) (fun b18_8 => ?_) (fun b18_8 => ?_)
    · skip
      refine R_iconst (pc := 25) (v := 1) dX8_quarrel_25 (by decide) ?_
      exact R_iret (pc := 26) dX8_quarrel_26 rfl rfl (Nat.zero_le _) (Nat.zero_le _) ⟨_, rfl, _, rfl, hV4, hW7⟩
    · skip
      refine R_iconst (pc := 21) (v := 0) dX8_quarrel_21 (by decide) ?_
      refine R_goto (pc := 22) 26 dX8_quarrel_22 (by decide) ?_
      exact R_iret (pc := 26) dX8_quarrel_26 rfl rfl (Nat.zero_le _) (Nat.zero_le _) ⟨_, rfl, _, rfl, hV4, hW7⟩
  · skip
    refine g_X8_62 (pc := 12) (v := .ref 133) rfl dX8_quarrel_12 (c_0 _) (by show some (Value.ref σ.2.2.2.2.1) = _; rw [hl2]) ?_
    refine k_X8_242 (pc := 15) (gx_X1_settle_133 _ _ hI) rfl (c_58 _) (by decide) (Nat.le_refl _) (Nat.le_refl _) (Nat.le_of_ble_eq_true rfl) dX8_quarrel_15 (fun y9 w2 h => ?_)
    obtain ⟨σx11, rfl, hV10, hW12⟩ := h
    have hW13 := Cor.trans (show Cor σ σ from Cor.rfl' σ) hW12
    refine R_ifeq (pc := 18) 25 dX8_quarrel_18 (by decide) (fun b18_14 => ?_) (fun b18_14 => ?_)
    · skip
      refine R_iconst (pc := 25) (v := 1) dX8_quarrel_25 (by decide) ?_
      exact R_iret (pc := 26) dX8_quarrel_26 rfl rfl (Nat.zero_le _) (Nat.zero_le _) ⟨_, rfl, _, rfl, hV10, hW13⟩
    · skip
      refine R_iconst (pc := 21) (v := 0) dX8_quarrel_21 (by decide) ?_
      refine R_goto (pc := 22) 26 dX8_quarrel_22 (by decide) ?_
      exact R_iret (pc := 26) dX8_quarrel_26 rfl rfl (Nat.zero_le _) (Nat.zero_le _) ⟨_, rfl, _, rfl, hV10, hW13⟩
theorem dX8_culprit_0 : decode cX8_culprit 0 = .ok (.aload_n 0, 1) := by decide +kernel
theorem dX8_culprit_1 : decode cX8_culprit 1 = .ok (.getfield 10, 3) := by decide +kernel
theorem dX8_culprit_4 : decode cX8_culprit 4 = .ok (.invokevirtual 126, 3) := by decide +kernel
theorem dX8_culprit_7 : decode cX8_culprit 7 = .ok (.istore_n 1, 1) := by decide +kernel
theorem dX8_culprit_8 : decode cX8_culprit 8 = .ok (.aload_n 0, 1) := by decide +kernel
theorem dX8_culprit_9 : decode cX8_culprit 9 = .ok (.getfield 37, 3) := by decide +kernel
theorem dX8_culprit_12 : decode cX8_culprit 12 = .ok (.iload_n 1, 1) := by decide +kernel
theorem dX8_culprit_13 : decode cX8_culprit 13 = .ok (.aload_n 0, 1) := by decide +kernel
theorem dX8_culprit_14 : decode cX8_culprit 14 = .ok (.getfield 62, 3) := by decide +kernel
theorem dX8_culprit_17 : decode cX8_culprit 17 = .ok (.invokevirtual 242, 3) := by decide +kernel
theorem dX8_culprit_20 : decode cX8_culprit 20 = .ok (.ifCond .eq 5, 3) := by decide +kernel
theorem dX8_culprit_23 : decode cX8_culprit 23 = .ok (.iconst (-1), 1) := by decide +kernel
theorem dX8_culprit_24 : decode cX8_culprit 24 = .ok (.ireturn, 1) := by decide +kernel
theorem dX8_culprit_25 : decode cX8_culprit 25 = .ok (.iconst 0, 1) := by decide +kernel
theorem dX8_culprit_26 : decode cX8_culprit 26 = .ok (.istore_n 2, 1) := by decide +kernel
theorem dX8_culprit_27 : decode cX8_culprit 27 = .ok (.iload_n 2, 1) := by decide +kernel
theorem dX8_culprit_28 : decode cX8_culprit 28 = .ok (.bipush 20, 2) := by decide +kernel
theorem dX8_culprit_30 : decode cX8_culprit 30 = .ok (.if_icmp .ge 40, 3) := by decide +kernel
theorem dX8_culprit_33 : decode cX8_culprit 33 = .ok (.iload_n 1, 1) := by decide +kernel
theorem dX8_culprit_34 : decode cX8_culprit 34 = .ok (.iload_n 2, 1) := by decide +kernel
theorem dX8_culprit_35 : decode cX8_culprit 35 = .ok (.invokestatic 209, 3) := by decide +kernel
theorem dX8_culprit_38 : decode cX8_culprit 38 = .ok (.ifCond .eq 26, 3) := by decide +kernel
theorem dX8_culprit_41 : decode cX8_culprit 41 = .ok (.aload_n 0, 1) := by decide +kernel
theorem dX8_culprit_42 : decode cX8_culprit 42 = .ok (.getfield 37, 3) := by decide +kernel
theorem dX8_culprit_45 : decode cX8_culprit 45 = .ok (.iload_n 1, 1) := by decide +kernel
theorem dX8_culprit_46 : decode cX8_culprit 46 = .ok (.iconst 1, 1) := by decide +kernel
theorem dX8_culprit_47 : decode cX8_culprit 47 = .ok (.iload_n 2, 1) := by decide +kernel
theorem dX8_culprit_48 : decode cX8_culprit 48 = .ok (.ishl, 1) := by decide +kernel
theorem dX8_culprit_49 : decode cX8_culprit 49 = .ok (.iconst (-1), 1) := by decide +kernel
theorem dX8_culprit_50 : decode cX8_culprit 50 = .ok (.ixor, 1) := by decide +kernel
theorem dX8_culprit_51 : decode cX8_culprit 51 = .ok (.iand, 1) := by decide +kernel
theorem dX8_culprit_52 : decode cX8_culprit 52 = .ok (.aload_n 0, 1) := by decide +kernel
theorem dX8_culprit_53 : decode cX8_culprit 53 = .ok (.getfield 62, 3) := by decide +kernel
theorem dX8_culprit_56 : decode cX8_culprit 56 = .ok (.invokevirtual 242, 3) := by decide +kernel
theorem dX8_culprit_59 : decode cX8_culprit 59 = .ok (.ifCond .eq 5, 3) := by decide +kernel
theorem dX8_culprit_62 : decode cX8_culprit 62 = .ok (.iload_n 2, 1) := by decide +kernel
theorem dX8_culprit_63 : decode cX8_culprit 63 = .ok (.ireturn, 1) := by decide +kernel
theorem dX8_culprit_64 : decode cX8_culprit 64 = .ok (.iinc 2 1, 3) := by decide +kernel
theorem dX8_culprit_67 : decode cX8_culprit 67 = .ok (.goto (-40), 3) := by decide +kernel
theorem dX8_culprit_70 : decode cX8_culprit 70 = .ok (.iconst (-1), 1) := by decide +kernel
theorem dX8_culprit_71 : decode cX8_culprit 71 = .ok (.ireturn, 1) := by decide +kernel
set_option maxRecDepth 100000 in
set_option maxHeartbeats 40000000 in
theorem gp_culprit {G : vG} {l : Launch} (σ : Sg)  (hI : Inv σ) : Sp G l yX8_culprit cX8_culprit 3 (some .int) 6 0 0 [.ref 0] (WW σ) (QI (fun _ w2 => ∃ σ2, w2 = WW σ2 ∧ Inv σ2 ∧ Cor σ σ2)) := by
  refine Sp_of_R [(some (.ref 0)), none, none] [none, none] rfl (by simp) rfl (Nat.le_of_ble_eq_true rfl) ?_
  refine R_aload_n (pc := 0) dX8_culprit_0 rfl rfl ?_
  refine g_X8_10 (pc := 1) (v := .ref 1) rfl dX8_culprit_1 (c_0 _) rfl ?_
  refine k_X8_126 (pc := 4) (gx_X0_there _ hI) rfl (c_1 _) (by decide) (Nat.le_refl _) (Nat.le_refl _) (Nat.le_of_ble_eq_true rfl) dX8_culprit_4 (fun y1 w2 h => ?_)
  subst h
  refine st_3_1_i_a (pc := 7) dX8_culprit_7 ?_
  refine R_aload_n (pc := 8) dX8_culprit_8 rfl rfl ?_
  refine g_X8_37 (pc := 9) (v := .ref 58) rfl dX8_culprit_9 (c_0 _) rfl ?_
  refine R_iload_n (pc := 12) dX8_culprit_12 rfl rfl ?_
  refine R_aload_n (pc := 13) dX8_culprit_13 rfl rfl ?_
  rcases iv_ln hI with ⟨hl2, hl2d⟩ | ⟨hl2, hl2d⟩
  · skip
    refine g_X8_62 (pc := 14) (v := .ref 126) rfl dX8_culprit_14 (c_0 _) (by show some (Value.ref σ.2.2.2.2.1) = _; rw [hl2]) ?_
    refine k_X8_242 (pc := 17) (gx_X1_settle_126 _ _ hI) rfl (c_58 _) (by decide) (Nat.le_refl _) (Nat.le_refl _) (Nat.le_of_ble_eq_true rfl) dX8_culprit_17 (fun y3 w2 h => ?_)
    obtain ⟨σx5, rfl, hV4, hW6⟩ := h
    have hW7 := Cor.trans (show Cor σ σ from Cor.rfl' σ) hW6
    refine R_ifeq (pc := 20) 25 dX8_culprit_20 (by decide) (fun b20_8 => ?_) (fun b20_8 => ?_)
    · skip
      refine R_iconst (pc := 25) (v := 0) dX8_culprit_25 (by decide) ?_
      refine st_3_2_i_i (pc := 26) dX8_culprit_26 ?_
      have HL27 : ∀ (q j27 : Nat) (σ27 : Sg), j27 + q = 20 → 0 ≤ j27 → Inv σ27 → Cor σ σ27 → R G l yX8_culprit cX8_culprit 3 (some .int) 6 0 0 (QI (fun _ w2 => ∃ σ2, w2 = WW σ2 ∧ Inv σ2 ∧ Cor σ σ2)) 27 [(some (.ref 0)), (some (.int y1)), (some (.int (nI j27)))] [] (WW σ27) 0 0 := by
        intro q
        induction q with
        | zero =>
          intro j27 σ27 hj hs27 hI27 hC27
          obtain rfl : j27 = 20 := by omega
          refine R_iload_n (pc := 27) dX8_culprit_27 rfl rfl ?_
          refine R_bipush (pc := 28) (v := 20) dX8_culprit_28 (by decide) ?_
          refine R_icge (pc := 30) 70 dX8_culprit_30 (by decide) (fun _ => ?_) (fun h => absurd (by decide) h)
          refine R_iconst (pc := 70) (v := (-1)) dX8_culprit_70 (by decide) ?_
          exact R_iret (pc := 71) dX8_culprit_71 rfl rfl (Nat.zero_le _) (Nat.zero_le _) ⟨_, rfl, _, rfl, hI27, hC27⟩
        | succ q ih27 =>
          intro j27 σ27 hj hs27 hI27 hC27
          have hrg27 : inR (nI j27) 0 19 := inR_ix hs27 (show j27 < 20 by omega) (by decide) (by decide) (by decide)
          have hlt27 : j27 < 20 := by omega
          refine R_iload_n (pc := 27) dX8_culprit_27 rfl rfl ?_
          refine R_bipush (pc := 28) (v := 20) dX8_culprit_28 (by decide) ?_
          refine R_icge (pc := 30) 70 dX8_culprit_30 (by decide) (fun h => False.elim (by have q1 := ti_le h; have q2 := ti_in (show inR (nI j27) 0 19 from hrg27); have q3 := ti_in (show inR 20 20 20 from (inR_self _)); have z0 : (0 : Int32).toInt = 0 := (by decide);  have z1 : (19 : Int32).toInt = 19 := (by decide);  have z2 : (20 : Int32).toInt = 20 := (by decide); omega)) (fun _ => ?_)
          refine R_iload_n (pc := 33) dX8_culprit_33 rfl rfl ?_
          refine R_iload_n (pc := 34) dX8_culprit_34 rfl rfl ?_
          refine k_X8_209 (pc := 35) (sp_X8_has _ _ _) rfl (by decide) (Nat.le_refl _) (Nat.le_refl _) (Nat.le_of_ble_eq_true rfl) dX8_culprit_35 (fun x w2 h => ?_)
          rcases h with ⟨rfl, ⟨-, rfl⟩ | ⟨-, rfl⟩⟩
          · skip
            refine R_ifeq (pc := 38) 64 dX8_culprit_38 (by decide) (fun h => absurd h (by decide)) (fun _ => ?_)
            refine R_aload_n (pc := 41) dX8_culprit_41 rfl rfl ?_
            refine g_X8_37 (pc := 42) (v := .ref 58) rfl dX8_culprit_42 (c_0 _) rfl ?_
            refine R_iload_n (pc := 45) dX8_culprit_45 rfl rfl ?_
            refine R_iconst (pc := 46) (v := 1) dX8_culprit_46 (by decide) ?_
            refine R_iload_n (pc := 47) dX8_culprit_47 rfl rfl ?_
            refine R_ishl (pc := 48) dX8_culprit_48 ?_
            have r12 : inR (1 <<< ((nI j27) &&& 31)) 0 1048575 := shl20 hrg27
            refine R_iconst (pc := 49) (v := (-1)) dX8_culprit_49 (by decide) ?_
            refine R_ixor (pc := 50) dX8_culprit_50 ?_
            refine R_iand (pc := 51) dX8_culprit_51 ?_
            refine R_aload_n (pc := 52) dX8_culprit_52 rfl rfl ?_
            rcases iv_ln hI27 with ⟨hl13, hl13d⟩ | ⟨hl13, hl13d⟩
            · skip
              refine g_X8_62 (pc := 53) (v := .ref 126) rfl dX8_culprit_53 (c_0 _) (by show some (Value.ref σ27.2.2.2.2.1) = _; rw [hl13]) ?_
              refine k_X8_242 (pc := 56) (gx_X1_settle_126 _ _ hI27) rfl (c_58 _) (by decide) (Nat.le_refl _) (Nat.le_refl _) (Nat.le_of_ble_eq_true rfl) dX8_culprit_56 (fun y14 w2 h => ?_)
              obtain ⟨σx16, rfl, hV15, hW17⟩ := h
              have hW18 := Cor.trans hC27 hW17
              refine R_ifeq (pc := 59) 64 dX8_culprit_59 (by decide) (fun b59_19 => ?_) (fun b59_19 => ?_)
              · skip
                refine inc_3_2_1_i (pc := 64) dX8_culprit_64 ?_
                have r20 : inR ((nI j27) + 1) 1 20 := inR_add (show inR (nI j27) 0 19 from hrg27) (show inR 1 1 1 from (inR_self _)) (by decide) (by decide)
                have e21 := ti_add (l := 1) (h := 20) (show inR (nI j27) 0 19 from hrg27) (show inR 1 1 1 from (inR_self _)) (by decide) (by decide)
                refine R_goto (pc := 67) 27 dX8_culprit_67 (by decide) ?_
                rw [nI_1]
                exact ih27 (j27 + 1) _ (by omega) (by omega) hV15 hW18
              · skip
                refine R_iload_n (pc := 62) dX8_culprit_62 rfl rfl ?_
                exact R_iret (pc := 63) dX8_culprit_63 rfl rfl (Nat.zero_le _) (Nat.zero_le _) ⟨_, rfl, _, rfl, hV15, hW18⟩
            · skip
              refine g_X8_62 (pc := 53) (v := .ref 133) rfl dX8_culprit_53 (c_0 _) (by show some (Value.ref σ27.2.2.2.2.1) = _; rw [hl13]) ?_
              refine k_X8_242 (pc := 56) (gx_X1_settle_133 _ _ hI27) rfl (c_58 _) (by decide) (Nat.le_refl _) (Nat.le_refl _) (Nat.le_of_ble_eq_true rfl) dX8_culprit_56 (fun y22 w2 h => ?_)
              obtain ⟨σx24, rfl, hV23, hW25⟩ := h
              have hW26 := Cor.trans hC27 hW25
              refine R_ifeq (pc := 59) 64 dX8_culprit_59 (by decide) (fun b59_27 => ?_) (fun b59_27 => ?_)
              · skip
                refine inc_3_2_1_i (pc := 64) dX8_culprit_64 ?_
                have r28 : inR ((nI j27) + 1) 1 20 := inR_add (show inR (nI j27) 0 19 from hrg27) (show inR 1 1 1 from (inR_self _)) (by decide) (by decide)
                have e29 := ti_add (l := 1) (h := 20) (show inR (nI j27) 0 19 from hrg27) (show inR 1 1 1 from (inR_self _)) (by decide) (by decide)
                refine R_goto (pc := 67) 27 dX8_culprit_67 (by decide) ?_
                rw [nI_1]
                exact ih27 (j27 + 1) _ (by omega) (by omega) hV23 hW26
              · skip
                refine R_iload_n (pc := 62) dX8_culprit_62 rfl rfl ?_
                exact R_iret (pc := 63) dX8_culprit_63 rfl rfl (Nat.zero_le _) (Nat.zero_le _) ⟨_, rfl, _, rfl, hV23, hW26⟩
          · skip
            refine R_ifeq (pc := 38) 64 dX8_culprit_38 (by decide) (fun _ => ?_) (fun h => absurd (by decide) h)
            refine inc_3_2_1_i (pc := 64) dX8_culprit_64 ?_
            have r31 : inR ((nI j27) + 1) 1 20 := inR_add (show inR (nI j27) 0 19 from hrg27) (show inR 1 1 1 from (inR_self _)) (by decide) (by decide)
            have e32 := ti_add (l := 1) (h := 20) (show inR (nI j27) 0 19 from hrg27) (show inR 1 1 1 from (inR_self _)) (by decide) (by decide)
            refine R_goto (pc := 67) 27 dX8_culprit_67 (by decide) ?_
            rw [nI_1]
            exact ih27 (j27 + 1) _ (by omega) (by omega) hI27 hC27
      exact HL27 20 0 _ (by omega) (by omega) hV4 hW7
    · skip
      refine R_iconst (pc := 23) (v := (-1)) dX8_culprit_23 (by decide) ?_
      exact R_iret (pc := 24) dX8_culprit_24 rfl rfl (Nat.zero_le _) (Nat.zero_le _) ⟨_, rfl, _, rfl, hV4, hW7⟩
  · skip
    refine g_X8_62 (pc := 14) (v := .ref 133) rfl dX8_culprit_14 (c_0 _) (by show some (Value.ref σ.2.2.2.2.1) = _; rw [hl2]) ?_
    refine k_X8_242 (pc := 17) (gx_X1_settle_133 _ _ hI) rfl (c_58 _) (by decide) (Nat.le_refl _) (Nat.le_refl _) (Nat.le_of_ble_eq_true rfl) dX8_culprit_17 (fun y33 w2 h => ?_)
    obtain ⟨σx35, rfl, hV34, hW36⟩ := h
    have hW37 := Cor.trans (show Cor σ σ from Cor.rfl' σ) hW36
    refine R_ifeq (pc := 20) 25 dX8_culprit_20 (by decide) (fun b20_38 => ?_) (fun b20_38 => ?_)
    · skip
      refine R_iconst (pc := 25) (v := 0) dX8_culprit_25 (by decide) ?_
      refine st_3_2_i_i (pc := 26) dX8_culprit_26 ?_
      have HL27 : ∀ (q j27 : Nat) (σ27 : Sg), j27 + q = 20 → 0 ≤ j27 → Inv σ27 → Cor σ σ27 → R G l yX8_culprit cX8_culprit 3 (some .int) 6 0 0 (QI (fun _ w2 => ∃ σ2, w2 = WW σ2 ∧ Inv σ2 ∧ Cor σ σ2)) 27 [(some (.ref 0)), (some (.int y1)), (some (.int (nI j27)))] [] (WW σ27) 0 0 := by
        intro q
        induction q with
        | zero =>
          intro j27 σ27 hj hs27 hI27 hC27
          obtain rfl : j27 = 20 := by omega
          refine R_iload_n (pc := 27) dX8_culprit_27 rfl rfl ?_
          refine R_bipush (pc := 28) (v := 20) dX8_culprit_28 (by decide) ?_
          refine R_icge (pc := 30) 70 dX8_culprit_30 (by decide) (fun _ => ?_) (fun h => absurd (by decide) h)
          refine R_iconst (pc := 70) (v := (-1)) dX8_culprit_70 (by decide) ?_
          exact R_iret (pc := 71) dX8_culprit_71 rfl rfl (Nat.zero_le _) (Nat.zero_le _) ⟨_, rfl, _, rfl, hI27, hC27⟩
        | succ q ih27 =>
          intro j27 σ27 hj hs27 hI27 hC27
          have hrg27 : inR (nI j27) 0 19 := inR_ix hs27 (show j27 < 20 by omega) (by decide) (by decide) (by decide)
          have hlt27 : j27 < 20 := by omega
          refine R_iload_n (pc := 27) dX8_culprit_27 rfl rfl ?_
          refine R_bipush (pc := 28) (v := 20) dX8_culprit_28 (by decide) ?_
          refine R_icge (pc := 30) 70 dX8_culprit_30 (by decide) (fun h => False.elim (by have q1 := ti_le h; have q2 := ti_in (show inR (nI j27) 0 19 from hrg27); have q3 := ti_in (show inR 20 20 20 from (inR_self _)); have z0 : (0 : Int32).toInt = 0 := (by decide);  have z1 : (19 : Int32).toInt = 19 := (by decide);  have z2 : (20 : Int32).toInt = 20 := (by decide); omega)) (fun _ => ?_)
          refine R_iload_n (pc := 33) dX8_culprit_33 rfl rfl ?_
          refine R_iload_n (pc := 34) dX8_culprit_34 rfl rfl ?_
          refine k_X8_209 (pc := 35) (sp_X8_has _ _ _) rfl (by decide) (Nat.le_refl _) (Nat.le_refl _) (Nat.le_of_ble_eq_true rfl) dX8_culprit_35 (fun x w2 h => ?_)
          rcases h with ⟨rfl, ⟨-, rfl⟩ | ⟨-, rfl⟩⟩
          · skip
            refine R_ifeq (pc := 38) 64 dX8_culprit_38 (by decide) (fun h => absurd h (by decide)) (fun _ => ?_)
            refine R_aload_n (pc := 41) dX8_culprit_41 rfl rfl ?_
            refine g_X8_37 (pc := 42) (v := .ref 58) rfl dX8_culprit_42 (c_0 _) rfl ?_
            refine R_iload_n (pc := 45) dX8_culprit_45 rfl rfl ?_
            refine R_iconst (pc := 46) (v := 1) dX8_culprit_46 (by decide) ?_
            refine R_iload_n (pc := 47) dX8_culprit_47 rfl rfl ?_
            refine R_ishl (pc := 48) dX8_culprit_48 ?_
            have r42 : inR (1 <<< ((nI j27) &&& 31)) 0 1048575 := shl20 hrg27
            refine R_iconst (pc := 49) (v := (-1)) dX8_culprit_49 (by decide) ?_
            refine R_ixor (pc := 50) dX8_culprit_50 ?_
            refine R_iand (pc := 51) dX8_culprit_51 ?_
            refine R_aload_n (pc := 52) dX8_culprit_52 rfl rfl ?_
            rcases iv_ln hI27 with ⟨hl43, hl43d⟩ | ⟨hl43, hl43d⟩
            · skip
              refine g_X8_62 (pc := 53) (v := .ref 126) rfl dX8_culprit_53 (c_0 _) (by show some (Value.ref σ27.2.2.2.2.1) = _; rw [hl43]) ?_
              refine k_X8_242 (pc := 56) (gx_X1_settle_126 _ _ hI27) rfl (c_58 _) (by decide) (Nat.le_refl _) (Nat.le_refl _) (Nat.le_of_ble_eq_true rfl) dX8_culprit_56 (fun y44 w2 h => ?_)
              obtain ⟨σx46, rfl, hV45, hW47⟩ := h
              have hW48 := Cor.trans hC27 hW47
              refine R_ifeq (pc := 59) 64 dX8_culprit_59 (by decide) (fun b59_49 => ?_) (fun b59_49 => ?_)
              · skip
                refine inc_3_2_1_i (pc := 64) dX8_culprit_64 ?_
                have r50 : inR ((nI j27) + 1) 1 20 := inR_add (show inR (nI j27) 0 19 from hrg27) (show inR 1 1 1 from (inR_self _)) (by decide) (by decide)
                have e51 := ti_add (l := 1) (h := 20) (show inR (nI j27) 0 19 from hrg27) (show inR 1 1 1 from (inR_self _)) (by decide) (by decide)
                refine R_goto (pc := 67) 27 dX8_culprit_67 (by decide) ?_
                rw [nI_1]
                exact ih27 (j27 + 1) _ (by omega) (by omega) hV45 hW48
              · skip
                refine R_iload_n (pc := 62) dX8_culprit_62 rfl rfl ?_
                exact R_iret (pc := 63) dX8_culprit_63 rfl rfl (Nat.zero_le _) (Nat.zero_le _) ⟨_, rfl, _, rfl, hV45, hW48⟩
            · skip
              refine g_X8_62 (pc := 53) (v := .ref 133) rfl dX8_culprit_53 (c_0 _) (by show some (Value.ref σ27.2.2.2.2.1) = _; rw [hl43]) ?_
              refine k_X8_242 (pc := 56) (gx_X1_settle_133 _ _ hI27) rfl (c_58 _) (by decide) (Nat.le_refl _) (Nat.le_refl _) (Nat.le_of_ble_eq_true rfl) dX8_culprit_56 (fun y52 w2 h => ?_)
              obtain ⟨σx54, rfl, hV53, hW55⟩ := h
              have hW56 := Cor.trans hC27 hW55
              refine R_ifeq (pc := 59) 64 dX8_culprit_59 (by decide) (fun b59_57 => ?_) (fun b59_57 => ?_)
              · skip
                refine inc_3_2_1_i (pc := 64) dX8_culprit_64 ?_
                have r58 : inR ((nI j27) + 1) 1 20 := inR_add (show inR (nI j27) 0 19 from hrg27) (show inR 1 1 1 from (inR_self _)) (by decide) (by decide)
                have e59 := ti_add (l := 1) (h := 20) (show inR (nI j27) 0 19 from hrg27) (show inR 1 1 1 from (inR_self _)) (by decide) (by decide)
                refine R_goto (pc := 67) 27 dX8_culprit_67 (by decide) ?_
                rw [nI_1]
                exact ih27 (j27 + 1) _ (by omega) (by omega) hV53 hW56
              · skip
                refine R_iload_n (pc := 62) dX8_culprit_62 rfl rfl ?_
                exact R_iret (pc := 63) dX8_culprit_63 rfl rfl (Nat.zero_le _) (Nat.zero_le _) ⟨_, rfl, _, rfl, hV53, hW56⟩
          · skip
            refine R_ifeq (pc := 38) 64 dX8_culprit_38 (by decide) (fun _ => ?_) (fun h => absurd (by decide) h)
            refine inc_3_2_1_i (pc := 64) dX8_culprit_64 ?_
            have r61 : inR ((nI j27) + 1) 1 20 := inR_add (show inR (nI j27) 0 19 from hrg27) (show inR 1 1 1 from (inR_self _)) (by decide) (by decide)
            have e62 := ti_add (l := 1) (h := 20) (show inR (nI j27) 0 19 from hrg27) (show inR 1 1 1 from (inR_self _)) (by decide) (by decide)
            refine R_goto (pc := 67) 27 dX8_culprit_67 (by decide) ?_
            rw [nI_1]
            exact ih27 (j27 + 1) _ (by omega) (by omega) hI27 hC27
      exact HL27 20 0 _ (by omega) (by omega) hV34 hW37
    · skip
      refine R_iconst (pc := 23) (v := (-1)) dX8_culprit_23 (by decide) ?_
      exact R_iret (pc := 24) dX8_culprit_24 rfl rfl (Nat.zero_le _) (Nat.zero_le _) ⟨_, rfl, _, rfl, hV34, hW37⟩
theorem dX8_breaks_0 : decode cX8_breaks 0 = .ok (.iload_n 1, 1) := by decide +kernel
theorem dX8_breaks_1 : decode cX8_breaks 1 = .ok (.iconst 0, 1) := by decide +kernel
theorem dX8_breaks_2 : decode cX8_breaks 2 = .ok (.aload_n 0, 1) := by decide +kernel
theorem dX8_breaks_3 : decode cX8_breaks 3 = .ok (.getfield 62, 3) := by decide +kernel
theorem dX8_breaks_6 : decode cX8_breaks 6 = .ok (.getfield 299, 3) := by decide +kernel
theorem dX8_breaks_9 : decode cX8_breaks 9 = .ok (.iconst 1, 1) := by decide +kernel
theorem dX8_breaks_10 : decode cX8_breaks 10 = .ok (.isub, 1) := by decide +kernel
theorem dX8_breaks_11 : decode cX8_breaks 11 = .ok (.invokestatic 72, 3) := by decide +kernel
theorem dX8_breaks_14 : decode cX8_breaks 14 = .ok (.ifCond .ne 6, 3) := by decide +kernel
theorem dX8_breaks_17 : decode cX8_breaks 17 = .ok (.bipush (-2), 2) := by decide +kernel
theorem dX8_breaks_19 : decode cX8_breaks 19 = .ok (.ireturn, 1) := by decide +kernel
theorem dX8_breaks_20 : decode cX8_breaks 20 = .ok (.aload_n 0, 1) := by decide +kernel
theorem dX8_breaks_21 : decode cX8_breaks 21 = .ok (.getfield 10, 3) := by decide +kernel
theorem dX8_breaks_24 : decode cX8_breaks 24 = .ok (.invokevirtual 126, 3) := by decide +kernel
theorem dX8_breaks_27 : decode cX8_breaks 27 = .ok (.istore_n 2, 1) := by decide +kernel
theorem dX8_breaks_28 : decode cX8_breaks 28 = .ok (.aload_n 0, 1) := by decide +kernel
theorem dX8_breaks_29 : decode cX8_breaks 29 = .ok (.getfield 62, 3) := by decide +kernel
theorem dX8_breaks_32 : decode cX8_breaks 32 = .ok (.getfield 300, 3) := by decide +kernel
theorem dX8_breaks_35 : decode cX8_breaks 35 = .ok (.iload_n 1, 1) := by decide +kernel
theorem dX8_breaks_36 : decode cX8_breaks 36 = .ok (.baload, 1) := by decide +kernel
theorem dX8_breaks_37 : decode cX8_breaks 37 = .ok (.istore_n 3, 1) := by decide +kernel
theorem dX8_breaks_38 : decode cX8_breaks 38 = .ok (.iload_n 3, 1) := by decide +kernel
theorem dX8_breaks_39 : decode cX8_breaks 39 = .ok (.ifCond .eq 21, 3) := by decide +kernel
theorem dX8_breaks_42 : decode cX8_breaks 42 = .ok (.aload_n 0, 1) := by decide +kernel
theorem dX8_breaks_43 : decode cX8_breaks 43 = .ok (.getfield 37, 3) := by decide +kernel
theorem dX8_breaks_46 : decode cX8_breaks 46 = .ok (.iload_n 2, 1) := by decide +kernel
theorem dX8_breaks_47 : decode cX8_breaks 47 = .ok (.aload_n 0, 1) := by decide +kernel
theorem dX8_breaks_48 : decode cX8_breaks 48 = .ok (.getfield 58, 3) := by decide +kernel
theorem dX8_breaks_51 : decode cX8_breaks 51 = .ok (.invokevirtual 242, 3) := by decide +kernel
theorem dX8_breaks_54 : decode cX8_breaks 54 = .ok (.ifCond .ne 6, 3) := by decide +kernel
theorem dX8_breaks_57 : decode cX8_breaks 57 = .ok (.bipush (-4), 2) := by decide +kernel
theorem dX8_breaks_59 : decode cX8_breaks 59 = .ok (.ireturn, 1) := by decide +kernel
theorem dX8_breaks_60 : decode cX8_breaks 60 = .ok (.iconst 0, 1) := by decide +kernel
theorem dX8_breaks_61 : decode cX8_breaks 61 = .ok (.istore 4, 2) := by decide +kernel
theorem dX8_breaks_63 : decode cX8_breaks 63 = .ok (.iconst 0, 1) := by decide +kernel
theorem dX8_breaks_64 : decode cX8_breaks 64 = .ok (.istore 5, 2) := by decide +kernel
theorem dX8_breaks_66 : decode cX8_breaks 66 = .ok (.iload 5, 2) := by decide +kernel
theorem dX8_breaks_68 : decode cX8_breaks 68 = .ok (.bipush 20, 2) := by decide +kernel
theorem dX8_breaks_70 : decode cX8_breaks 70 = .ok (.if_icmp .ge 126, 3) := by decide +kernel
theorem dX8_breaks_73 : decode cX8_breaks 73 = .ok (.iload_n 2, 1) := by decide +kernel
theorem dX8_breaks_74 : decode cX8_breaks 74 = .ok (.iload 5, 2) := by decide +kernel
theorem dX8_breaks_76 : decode cX8_breaks 76 = .ok (.invokestatic 209, 3) := by decide +kernel
theorem dX8_breaks_79 : decode cX8_breaks 79 = .ok (.ifCond .eq 111, 3) := by decide +kernel
theorem dX8_breaks_82 : decode cX8_breaks 82 = .ok (.aload_n 0, 1) := by decide +kernel
theorem dX8_breaks_83 : decode cX8_breaks 83 = .ok (.getfield 62, 3) := by decide +kernel
theorem dX8_breaks_86 : decode cX8_breaks 86 = .ok (.iload_n 1, 1) := by decide +kernel
theorem dX8_breaks_87 : decode cX8_breaks 87 = .ok (.aload_n 0, 1) := by decide +kernel
theorem dX8_breaks_88 : decode cX8_breaks 88 = .ok (.getfield 10, 3) := by decide +kernel
theorem dX8_breaks_91 : decode cX8_breaks 91 = .ok (.getfield 172, 3) := by decide +kernel
theorem dX8_breaks_94 : decode cX8_breaks 94 = .ok (.iload 5, 2) := by decide +kernel
theorem dX8_breaks_96 : decode cX8_breaks 96 = .ok (.iaload, 1) := by decide +kernel
theorem dX8_breaks_97 : decode cX8_breaks 97 = .ok (.aload_n 0, 1) := by decide +kernel
theorem dX8_breaks_98 : decode cX8_breaks 98 = .ok (.getfield 10, 3) := by decide +kernel
theorem dX8_breaks_101 : decode cX8_breaks 101 = .ok (.getfield 178, 3) := by decide +kernel
theorem dX8_breaks_104 : decode cX8_breaks 104 = .ok (.iload 5, 2) := by decide +kernel
theorem dX8_breaks_106 : decode cX8_breaks 106 = .ok (.iaload, 1) := by decide +kernel
theorem dX8_breaks_107 : decode cX8_breaks 107 = .ok (.invokevirtual 304, 3) := by decide +kernel
theorem dX8_breaks_110 : decode cX8_breaks 110 = .ok (.ifCond .eq 80, 3) := by decide +kernel
theorem dX8_breaks_113 : decode cX8_breaks 113 = .ok (.iload_n 3, 1) := by decide +kernel
theorem dX8_breaks_114 : decode cX8_breaks 114 = .ok (.ifCond .eq 33, 3) := by decide +kernel
theorem dX8_breaks_117 : decode cX8_breaks 117 = .ok (.aload_n 0, 1) := by decide +kernel
theorem dX8_breaks_118 : decode cX8_breaks 118 = .ok (.getfield 37, 3) := by decide +kernel
theorem dX8_breaks_121 : decode cX8_breaks 121 = .ok (.iload 5, 2) := by decide +kernel
theorem dX8_breaks_123 : decode cX8_breaks 123 = .ok (.aload_n 0, 1) := by decide +kernel
theorem dX8_breaks_124 : decode cX8_breaks 124 = .ok (.getfield 62, 3) := by decide +kernel
theorem dX8_breaks_127 : decode cX8_breaks 127 = .ok (.getfield 307, 3) := by decide +kernel
theorem dX8_breaks_130 : decode cX8_breaks 130 = .ok (.iload_n 1, 1) := by decide +kernel
theorem dX8_breaks_131 : decode cX8_breaks 131 = .ok (.iaload, 1) := by decide +kernel
theorem dX8_breaks_132 : decode cX8_breaks 132 = .ok (.aload_n 0, 1) := by decide +kernel
theorem dX8_breaks_133 : decode cX8_breaks 133 = .ok (.getfield 62, 3) := by decide +kernel
theorem dX8_breaks_136 : decode cX8_breaks 136 = .ok (.getfield 310, 3) := by decide +kernel
theorem dX8_breaks_139 : decode cX8_breaks 139 = .ok (.iload_n 1, 1) := by decide +kernel
theorem dX8_breaks_140 : decode cX8_breaks 140 = .ok (.iaload, 1) := by decide +kernel
theorem dX8_breaks_141 : decode cX8_breaks 141 = .ok (.invokevirtual 313, 3) := by decide +kernel
theorem dX8_breaks_144 : decode cX8_breaks 144 = .ok (.goto 30, 3) := by decide +kernel
theorem dX8_breaks_147 : decode cX8_breaks 147 = .ok (.aload_n 0, 1) := by decide +kernel
theorem dX8_breaks_148 : decode cX8_breaks 148 = .ok (.getfield 10, 3) := by decide +kernel
theorem dX8_breaks_151 : decode cX8_breaks 151 = .ok (.getfield 316, 3) := by decide +kernel
theorem dX8_breaks_154 : decode cX8_breaks 154 = .ok (.iload 5, 2) := by decide +kernel
theorem dX8_breaks_156 : decode cX8_breaks 156 = .ok (.iaload, 1) := by decide +kernel
theorem dX8_breaks_157 : decode cX8_breaks 157 = .ok (.aload_n 0, 1) := by decide +kernel
theorem dX8_breaks_158 : decode cX8_breaks 158 = .ok (.getfield 62, 3) := by decide +kernel
theorem dX8_breaks_161 : decode cX8_breaks 161 = .ok (.getfield 307, 3) := by decide +kernel
theorem dX8_breaks_164 : decode cX8_breaks 164 = .ok (.iload_n 1, 1) := by decide +kernel
theorem dX8_breaks_165 : decode cX8_breaks 165 = .ok (.iaload, 1) := by decide +kernel
theorem dX8_breaks_166 : decode cX8_breaks 166 = .ok (.if_icmp .ne 7, 3) := by decide +kernel
theorem dX8_breaks_169 : decode cX8_breaks 169 = .ok (.iconst 1, 1) := by decide +kernel
theorem dX8_breaks_170 : decode cX8_breaks 170 = .ok (.goto 4, 3) := by decide +kernel
theorem dX8_breaks_173 : decode cX8_breaks 173 = .ok (.iconst 0, 1) := by decide +kernel
theorem dX8_breaks_174 : decode cX8_breaks 174 = .ok (.istore 6, 2) := by decide +kernel
theorem dX8_breaks_176 : decode cX8_breaks 176 = .ok (.iload 6, 2) := by decide +kernel
theorem dX8_breaks_178 : decode cX8_breaks 178 = .ok (.ifCond .ne 12, 3) := by decide +kernel
theorem dX8_breaks_181 : decode cX8_breaks 181 = .ok (.iload 4, 2) := by decide +kernel
theorem dX8_breaks_183 : decode cX8_breaks 183 = .ok (.iconst 1, 1) := by decide +kernel
theorem dX8_breaks_184 : decode cX8_breaks 184 = .ok (.iload 5, 2) := by decide +kernel
theorem dX8_breaks_186 : decode cX8_breaks 186 = .ok (.ishl, 1) := by decide +kernel
theorem dX8_breaks_187 : decode cX8_breaks 187 = .ok (.ior, 1) := by decide +kernel
theorem dX8_breaks_188 : decode cX8_breaks 188 = .ok (.istore 4, 2) := by decide +kernel
theorem dX8_breaks_190 : decode cX8_breaks 190 = .ok (.iinc 5 1, 3) := by decide +kernel
theorem dX8_breaks_193 : decode cX8_breaks 193 = .ok (.goto (-127), 3) := by decide +kernel
theorem dX8_breaks_196 : decode cX8_breaks 196 = .ok (.iload 4, 2) := by decide +kernel
theorem dX8_breaks_198 : decode cX8_breaks 198 = .ok (.ireturn, 1) := by decide +kernel
set_option maxRecDepth 100000 in
set_option maxHeartbeats 40000000 in
theorem gp_breaks {G : vG} {l : Launch} (σ : Sg) (a : Int32) (hI : Inv σ) : Sp G l yX8_breaks cX8_breaks 7 (some .int) 6 0 0 [.ref 0, .int a] (WW σ) (QI (fun _ w2 => ∃ σ2, w2 = WW σ2 ∧ Inv σ2 ∧ Cor σ σ2)) := by
  refine Sp_of_R [(some (.ref 0)), (some (.int a)), none, none, none, none, none] [none, none, none, none, none] rfl (by simp) rfl (Nat.le_of_ble_eq_true rfl) ?_
  refine R_iload_n (pc := 0) dX8_breaks_0 rfl rfl ?_
  refine R_iconst (pc := 1) (v := 0) dX8_breaks_1 (by decide) ?_
  refine R_aload_n (pc := 2) dX8_breaks_2 rfl rfl ?_
  rcases iv_ln hI with ⟨hl1, hl1d⟩ | ⟨hl1, hl1d⟩
  · skip
    refine g_X8_62 (pc := 3) (v := .ref 126) rfl dX8_breaks_3 (c_0 _) (by show some (Value.ref σ.2.2.2.2.1) = _; rw [hl1]) ?_
    refine g_X8_299 (pc := 6) (v := .int (σ.1 12606)) rfl dX8_breaks_6 (c_126 _) rfl ?_
    refine R_iconst (pc := 9) (v := 1) dX8_breaks_9 (by decide) ?_
    refine R_isub (pc := 10) dX8_breaks_10 ?_
    have r2 : inR ((σ.1 12606) - 1) (-1) 7 := inR_sub (show inR (σ.1 12606) 0 8 from (iv_12606 hI)) (show inR 1 1 1 from (inR_self _)) (by decide) (by decide)
    have e3 := ti_sub (l := (-1)) (h := 7) (show inR (σ.1 12606) 0 8 from (iv_12606 hI)) (show inR 1 1 1 from (inR_self _)) (by decide) (by decide)
    refine k_X8_72 (pc := 11) (sp_X8_isWithin _ _ _ _) rfl (by decide) (Nat.le_refl _) (Nat.le_refl _) (Nat.le_of_ble_eq_true rfl) dX8_breaks_11 (fun x w2 h => ?_)
    rcases h with ⟨rfl, ⟨h4, rfl⟩ | ⟨h4, rfl⟩⟩
    · skip
      refine R_ifne (pc := 14) 20 dX8_breaks_14 (by decide) (fun _ => ?_) (fun h => absurd h (by decide))
      refine R_aload_n (pc := 20) dX8_breaks_20 rfl rfl ?_
      refine g_X8_10 (pc := 21) (v := .ref 1) rfl dX8_breaks_21 (c_0 _) rfl ?_
      refine k_X8_126 (pc := 24) (gx_X0_there _ hI) rfl (c_1 _) (by decide) (Nat.le_refl _) (Nat.le_refl _) (Nat.le_of_ble_eq_true rfl) dX8_breaks_24 (fun y6 w2 h => ?_)
      subst h
      refine st_7_2_i_i (pc := 27) dX8_breaks_27 ?_
      refine R_aload_n (pc := 28) dX8_breaks_28 rfl rfl ?_
      refine g_X8_62 (pc := 29) (v := .ref 126) rfl dX8_breaks_29 (c_0 _) (by show some (Value.ref σ.2.2.2.2.1) = _; rw [hl1]) ?_
      refine g_X8_300 (pc := 32) (v := .ref 130) rfl dX8_breaks_32 (c_126 _) rfl ?_
      refine R_iload_n (pc := 35) dX8_breaks_35 rfl rfl ?_
      have hx7 : vp_in a 8 := (vp_ti (by have q0 := e3; have q1 := ti_in h4; have q2 := ti_in (iv_12606 hI); have q3 := ti_in r2; have z0 : (-1 : Int32).toInt = -1 := (by decide); have z1 : (0 : Int32).toInt = 0 := (by decide); have z2 : (1 : Int32).toInt = 1 := (by decide); have z3 : (7 : Int32).toInt = 7 := (by decide); have z4 : (8 : Int32).toInt = 8 := (by decide); omega) (by have q0 := e3; have q1 := ti_in h4; have q2 := ti_in (iv_12606 hI); have q3 := ti_in r2; have z0 : (-1 : Int32).toInt = -1 := (by decide); have z1 : (0 : Int32).toInt = 0 := (by decide); have z2 : (1 : Int32).toInt = 1 := (by decide); have z3 : (7 : Int32).toInt = 7 := (by decide); have z4 : (8 : Int32).toInt = 8 := (by decide); omega))
      refine R_baload (pc := 36) dX8_breaks_36 (c_130 _) hx7 ?_
      refine st_7_3_i_i (pc := 37) dX8_breaks_37 ?_
      refine R_iload_n (pc := 38) dX8_breaks_38 rfl rfl ?_
      refine R_ifeq (pc := 39) 60 dX8_breaks_39 (by decide) (fun b39_8 => ?_) (fun b39_8 => ?_)
      · skip
        refine R_iconst (pc := 60) (v := 0) dX8_breaks_60 (by decide) ?_
        refine st_7_4_i_i (pc := 61) dX8_breaks_61 ?_
        refine R_iconst (pc := 63) (v := 0) dX8_breaks_63 (by decide) ?_
        refine st_7_5_i_i (pc := 64) dX8_breaks_64 ?_
        have HL66 : ∀ (q j66 : Nat) (g4_66 : Int32) (g6_66 : Option Value), j66 + q = 20 → 0 ≤ j66 → R G l yX8_breaks cX8_breaks 7 (some .int) 6 0 0 (QI (fun _ w2 => ∃ σ2, w2 = WW σ2 ∧ Inv σ2 ∧ Cor σ σ2)) 66 [(some (.ref 0)), (some (.int a)), (some (.int y6)), (some (.int (σ.2.2.1 130 (Int32.toNatClampNeg a)))), (some (.int g4_66)), (some (.int (nI j66))), g6_66] [] (WW σ) 0 0 := by
          intro q
          induction q with
          | zero =>
            intro j66 g4_66 g6_66 hj hs66
            obtain rfl : j66 = 20 := by omega
            refine R_iload (pc := 66) dX8_breaks_66 rfl ?_
            refine R_bipush (pc := 68) (v := 20) dX8_breaks_68 (by decide) ?_
            refine R_icge (pc := 70) 196 dX8_breaks_70 (by decide) (fun _ => ?_) (fun h => absurd (by decide) h)
            refine R_iload (pc := 196) dX8_breaks_196 rfl ?_
            exact R_iret (pc := 198) dX8_breaks_198 rfl rfl (Nat.zero_le _) (Nat.zero_le _) ⟨_, rfl, _, rfl, hI, (show Cor σ σ from Cor.rfl' σ)⟩
          | succ q ih66 =>
            intro j66 g4_66 g6_66 hj hs66
            have hrg66 : inR (nI j66) 0 19 := inR_ix hs66 (show j66 < 20 by omega) (by decide) (by decide) (by decide)
            have hlt66 : j66 < 20 := by omega
            refine R_iload (pc := 66) dX8_breaks_66 rfl ?_
            refine R_bipush (pc := 68) (v := 20) dX8_breaks_68 (by decide) ?_
            refine R_icge (pc := 70) 196 dX8_breaks_70 (by decide) (fun h => False.elim (by have q1 := ti_le h; have q2 := ti_in (show inR (nI j66) 0 19 from hrg66); have q3 := ti_in (show inR 20 20 20 from (inR_self _)); have z0 : (0 : Int32).toInt = 0 := (by decide);  have z1 : (19 : Int32).toInt = 19 := (by decide);  have z2 : (20 : Int32).toInt = 20 := (by decide); omega)) (fun _ => ?_)
            refine R_iload_n (pc := 73) dX8_breaks_73 rfl rfl ?_
            refine R_iload (pc := 74) dX8_breaks_74 rfl ?_
            refine k_X8_209 (pc := 76) (sp_X8_has _ _ _) rfl (by decide) (Nat.le_refl _) (Nat.le_refl _) (Nat.le_of_ble_eq_true rfl) dX8_breaks_76 (fun x w2 h => ?_)
            rcases h with ⟨rfl, ⟨-, rfl⟩ | ⟨-, rfl⟩⟩
            · skip
              refine R_ifeq (pc := 79) 190 dX8_breaks_79 (by decide) (fun h => absurd h (by decide)) (fun _ => ?_)
              refine R_aload_n (pc := 82) dX8_breaks_82 rfl rfl ?_
              refine g_X8_62 (pc := 83) (v := .ref 126) rfl dX8_breaks_83 (c_0 _) (by show some (Value.ref σ.2.2.2.2.1) = _; rw [hl1]) ?_
              refine R_iload_n (pc := 86) dX8_breaks_86 rfl rfl ?_
              refine R_aload_n (pc := 87) dX8_breaks_87 rfl rfl ?_
              refine g_X8_10 (pc := 88) (v := .ref 1) rfl dX8_breaks_88 (c_0 _) rfl ?_
              refine g_X8_172 (pc := 91) (v := .ref 3) rfl dX8_breaks_91 (c_1 _) rfl ?_
              refine R_iload (pc := 94) dX8_breaks_94 rfl ?_
              have hx12 : vp_in (nI j66) 20 := (vp_in_nI (by omega) (by decide))
              refine R_iaload (pc := 96) dX8_breaks_96 (c_3 _) hx12 ?_
              refine R_aload_n (pc := 97) dX8_breaks_97 rfl rfl ?_
              refine g_X8_10 (pc := 98) (v := .ref 1) rfl dX8_breaks_98 (c_0 _) rfl ?_
              refine g_X8_178 (pc := 101) (v := .ref 4) rfl dX8_breaks_101 (c_1 _) rfl ?_
              refine R_iload (pc := 104) dX8_breaks_104 rfl ?_
              have hx13 : vp_in (nI j66) 20 := (vp_in_nI (by omega) (by decide))
              refine R_iaload (pc := 106) dX8_breaks_106 (c_4 _) hx13 ?_
              refine k_X8_304 (pc := 107) (gx_X4_isFor_126 _ _ _ _ hI (show inR a 0 7 from of_ti (by have q0 := e3; have q1 := ti_in h4; have q2 := ti_eq b39_8; have q3 := ti_in (iv_12606 hI); have q4 := ti_in r2; have q5 := ti_in hrg66; have q6 := ti_in (iva_4 hI _ (lt_of_vp hx13)); have z0 : (-1 : Int32).toInt = -1 := (by decide); have z1 : (0 : Int32).toInt = 0 := (by decide); have z2 : (1 : Int32).toInt = 1 := (by decide); have z3 : (130 : Int32).toInt = 130 := (by decide); have z4 : (19 : Int32).toInt = 19 := (by decide); have z5 : (7 : Int32).toInt = 7 := (by decide); have z6 : (8 : Int32).toInt = 8 := (by decide); have z7 : (99 : Int32).toInt = 99 := (by decide); omega) (by have q0 := e3; have q1 := ti_in h4; have q2 := ti_eq b39_8; have q3 := ti_in (iv_12606 hI); have q4 := ti_in r2; have q5 := ti_in hrg66; have q6 := ti_in (iva_4 hI _ (lt_of_vp hx13)); have z0 : (-1 : Int32).toInt = -1 := (by decide); have z1 : (0 : Int32).toInt = 0 := (by decide); have z2 : (1 : Int32).toInt = 1 := (by decide); have z3 : (130 : Int32).toInt = 130 := (by decide); have z4 : (19 : Int32).toInt = 19 := (by decide); have z5 : (7 : Int32).toInt = 7 := (by decide); have z6 : (8 : Int32).toInt = 8 := (by decide); have z7 : (99 : Int32).toInt = 99 := (by decide); omega))) rfl (c_126 _) (by decide) (Nat.le_refl _) (Nat.le_refl _) (Nat.le_of_ble_eq_true rfl) dX8_breaks_107 (fun x w2 h => ?_)
              rcases h with ⟨rfl, rfl | rfl⟩
              · skip
                refine R_ifeq (pc := 110) 190 dX8_breaks_110 (by decide) (fun h => absurd h (by decide)) (fun _ => ?_)
                refine R_iload_n (pc := 113) dX8_breaks_113 rfl rfl ?_
                refine R_ifeq (pc := 114) 147 dX8_breaks_114 (by decide) (fun b114_16 => ?_) (fun b114_16 => ?_)
                · skip
                  refine R_aload_n (pc := 147) dX8_breaks_147 rfl rfl ?_
                  refine g_X8_10 (pc := 148) (v := .ref 1) rfl dX8_breaks_148 (c_0 _) rfl ?_
                  refine g_X8_316 (pc := 151) (v := .ref 5) rfl dX8_breaks_151 (c_1 _) rfl ?_
                  refine R_iload (pc := 154) dX8_breaks_154 rfl ?_
                  have hx17 : vp_in (nI j66) 20 := (vp_in_nI (by omega) (by decide))
                  refine R_iaload (pc := 156) dX8_breaks_156 (c_5 _) hx17 ?_
                  refine R_aload_n (pc := 157) dX8_breaks_157 rfl rfl ?_
                  refine g_X8_62 (pc := 158) (v := .ref 126) rfl dX8_breaks_158 (c_0 _) (by show some (Value.ref σ.2.2.2.2.1) = _; rw [hl1]) ?_
                  refine g_X8_307 (pc := 161) (v := .ref 131) rfl dX8_breaks_161 (c_126 _) rfl ?_
                  refine R_iload_n (pc := 164) dX8_breaks_164 rfl rfl ?_
                  have hx18 : vp_in a 8 := (vp_ti (by have q0 := e3; have q1 := ti_in h4; have q2 := ti_eq b39_8; have q3 := ti_eq b114_16; have q4 := ti_in (iv_12606 hI); have q5 := ti_in r2; have q6 := ti_in hrg66; have q7 := ti_in (iva_4 hI _ (lt_of_vp hx13)); have q8 := ti_in (iva_5 hI _ (lt_of_vp hx17)); have z0 : (-1 : Int32).toInt = -1 := (by decide); have z1 : (0 : Int32).toInt = 0 := (by decide); have z2 : (1 : Int32).toInt = 1 := (by decide); have z3 : (130 : Int32).toInt = 130 := (by decide); have z4 : (19 : Int32).toInt = 19 := (by decide); have z5 : (4 : Int32).toInt = 4 := (by decide); have z6 : (7 : Int32).toInt = 7 := (by decide); have z7 : (8 : Int32).toInt = 8 := (by decide); have z8 : (99 : Int32).toInt = 99 := (by decide); omega) (by have q0 := e3; have q1 := ti_in h4; have q2 := ti_eq b39_8; have q3 := ti_eq b114_16; have q4 := ti_in (iv_12606 hI); have q5 := ti_in r2; have q6 := ti_in hrg66; have q7 := ti_in (iva_4 hI _ (lt_of_vp hx13)); have q8 := ti_in (iva_5 hI _ (lt_of_vp hx17)); have z0 : (-1 : Int32).toInt = -1 := (by decide); have z1 : (0 : Int32).toInt = 0 := (by decide); have z2 : (1 : Int32).toInt = 1 := (by decide); have z3 : (130 : Int32).toInt = 130 := (by decide); have z4 : (19 : Int32).toInt = 19 := (by decide); have z5 : (4 : Int32).toInt = 4 := (by decide); have z6 : (7 : Int32).toInt = 7 := (by decide); have z7 : (8 : Int32).toInt = 8 := (by decide); have z8 : (99 : Int32).toInt = 99 := (by decide); omega))
                  refine R_iaload (pc := 165) dX8_breaks_165 (c_131 _) hx18 ?_
                  refine R_icne (pc := 166) 173 dX8_breaks_166 (by decide) (fun b166_19 => ?_) (fun b166_19 => ?_)
                  · skip
                    refine R_iconst (pc := 173) (v := 0) dX8_breaks_173 (by decide) ?_
                    refine st_7_6_i_i (pc := 174) dX8_breaks_174 ?_
                    refine R_iload (pc := 176) dX8_breaks_176 rfl ?_
                    refine R_ifne (pc := 178) 190 dX8_breaks_178 (by decide) (fun h => absurd (by decide) h) (fun _ => ?_)
                    refine R_iload (pc := 181) dX8_breaks_181 rfl ?_
                    refine R_iconst (pc := 183) (v := 1) dX8_breaks_183 (by decide) ?_
                    refine R_iload (pc := 184) dX8_breaks_184 rfl ?_
                    refine R_ishl (pc := 186) dX8_breaks_186 ?_
                    have r21 : inR (1 <<< ((nI j66) &&& 31)) 0 1048575 := shl20 hrg66
                    refine R_ior (pc := 187) dX8_breaks_187 ?_
                    refine st_7_4_i_i (pc := 188) dX8_breaks_188 ?_
                    refine inc_7_5_1_i (pc := 190) dX8_breaks_190 ?_
                    have r22 : inR ((nI j66) + 1) 1 20 := inR_add (show inR (nI j66) 0 19 from hrg66) (show inR 1 1 1 from (inR_self _)) (by decide) (by decide)
                    have e23 := ti_add (l := 1) (h := 20) (show inR (nI j66) 0 19 from hrg66) (show inR 1 1 1 from (inR_self _)) (by decide) (by decide)
                    refine R_goto (pc := 193) 66 dX8_breaks_193 (by decide) ?_
                    rw [nI_1]
                    exact ih66 (j66 + 1) _ _ (by omega) (by omega)
                  · skip
                    refine R_iconst (pc := 169) (v := 1) dX8_breaks_169 (by decide) ?_
                    refine R_goto (pc := 170) 174 dX8_breaks_170 (by decide) ?_
                    refine st_7_6_i_i (pc := 174) dX8_breaks_174 ?_
                    refine R_iload (pc := 176) dX8_breaks_176 rfl ?_
                    refine R_ifne (pc := 178) 190 dX8_breaks_178 (by decide) (fun _ => ?_) (fun h => absurd h (by decide))
                    refine inc_7_5_1_i (pc := 190) dX8_breaks_190 ?_
                    have r25 : inR ((nI j66) + 1) 1 20 := inR_add (show inR (nI j66) 0 19 from hrg66) (show inR 1 1 1 from (inR_self _)) (by decide) (by decide)
                    have e26 := ti_add (l := 1) (h := 20) (show inR (nI j66) 0 19 from hrg66) (show inR 1 1 1 from (inR_self _)) (by decide) (by decide)
                    refine R_goto (pc := 193) 66 dX8_breaks_193 (by decide) ?_
                    rw [nI_1]
                    exact ih66 (j66 + 1) _ _ (by omega) (by omega)
                · skip
                  refine R_aload_n (pc := 117) dX8_breaks_117 rfl rfl ?_
                  refine g_X8_37 (pc := 118) (v := .ref 58) rfl dX8_breaks_118 (c_0 _) rfl ?_
                  refine R_iload (pc := 121) dX8_breaks_121 rfl ?_
                  refine R_aload_n (pc := 123) dX8_breaks_123 rfl rfl ?_
                  refine g_X8_62 (pc := 124) (v := .ref 126) rfl dX8_breaks_124 (c_0 _) (by show some (Value.ref σ.2.2.2.2.1) = _; rw [hl1]) ?_
                  refine g_X8_307 (pc := 127) (v := .ref 131) rfl dX8_breaks_127 (c_126 _) rfl ?_
                  refine R_iload_n (pc := 130) dX8_breaks_130 rfl rfl ?_
                  have hx27 : vp_in a 8 := (vp_ti (by have q0 := e3; have q1 := ti_in h4; have q2 := ti_eq b39_8; have q3 := ti_ne b114_16; have q4 := ti_in (iv_12606 hI); have q5 := ti_in r2; have q6 := ti_in hrg66; have q7 := ti_in (iva_4 hI _ (lt_of_vp hx13)); have z0 : (-1 : Int32).toInt = -1 := (by decide); have z1 : (0 : Int32).toInt = 0 := (by decide); have z2 : (1 : Int32).toInt = 1 := (by decide); have z3 : (130 : Int32).toInt = 130 := (by decide); have z4 : (19 : Int32).toInt = 19 := (by decide); have z5 : (7 : Int32).toInt = 7 := (by decide); have z6 : (8 : Int32).toInt = 8 := (by decide); have z7 : (99 : Int32).toInt = 99 := (by decide); omega) (by have q0 := e3; have q1 := ti_in h4; have q2 := ti_eq b39_8; have q3 := ti_ne b114_16; have q4 := ti_in (iv_12606 hI); have q5 := ti_in r2; have q6 := ti_in hrg66; have q7 := ti_in (iva_4 hI _ (lt_of_vp hx13)); have z0 : (-1 : Int32).toInt = -1 := (by decide); have z1 : (0 : Int32).toInt = 0 := (by decide); have z2 : (1 : Int32).toInt = 1 := (by decide); have z3 : (130 : Int32).toInt = 130 := (by decide); have z4 : (19 : Int32).toInt = 19 := (by decide); have z5 : (7 : Int32).toInt = 7 := (by decide); have z6 : (8 : Int32).toInt = 8 := (by decide); have z7 : (99 : Int32).toInt = 99 := (by decide); omega))
                  refine R_iaload (pc := 131) dX8_breaks_131 (c_131 _) hx27 ?_
                  refine R_aload_n (pc := 132) dX8_breaks_132 rfl rfl ?_
                  refine g_X8_62 (pc := 133) (v := .ref 126) rfl dX8_breaks_133 (c_0 _) (by show some (Value.ref σ.2.2.2.2.1) = _; rw [hl1]) ?_
                  refine g_X8_310 (pc := 136) (v := .ref 132) rfl dX8_breaks_136 (c_126 _) rfl ?_
                  refine R_iload_n (pc := 139) dX8_breaks_139 rfl rfl ?_
                  have hx28 : vp_in a 8 := (vp_ti (by have q0 := e3; have q1 := ti_in h4; have q2 := ti_eq b39_8; have q3 := ti_ne b114_16; have q4 := ti_in (iv_12606 hI); have q5 := ti_in r2; have q6 := ti_in hrg66; have q7 := ti_in (iva_4 hI _ (lt_of_vp hx13)); have z0 : (-1 : Int32).toInt = -1 := (by decide); have z1 : (0 : Int32).toInt = 0 := (by decide); have z2 : (1 : Int32).toInt = 1 := (by decide); have z3 : (130 : Int32).toInt = 130 := (by decide); have z4 : (19 : Int32).toInt = 19 := (by decide); have z5 : (7 : Int32).toInt = 7 := (by decide); have z6 : (8 : Int32).toInt = 8 := (by decide); have z7 : (99 : Int32).toInt = 99 := (by decide); omega) (by have q0 := e3; have q1 := ti_in h4; have q2 := ti_eq b39_8; have q3 := ti_ne b114_16; have q4 := ti_in (iv_12606 hI); have q5 := ti_in r2; have q6 := ti_in hrg66; have q7 := ti_in (iva_4 hI _ (lt_of_vp hx13)); have z0 : (-1 : Int32).toInt = -1 := (by decide); have z1 : (0 : Int32).toInt = 0 := (by decide); have z2 : (1 : Int32).toInt = 1 := (by decide); have z3 : (130 : Int32).toInt = 130 := (by decide); have z4 : (19 : Int32).toInt = 19 := (by decide); have z5 : (7 : Int32).toInt = 7 := (by decide); have z6 : (8 : Int32).toInt = 8 := (by decide); have z7 : (99 : Int32).toInt = 99 := (by decide); omega))
                  refine R_iaload (pc := 140) dX8_breaks_140 (c_132 _) hx28 ?_
                  refine k_X8_313 (pc := 141) (gx_X1_canBePublished _ _ _ _ hrg66) rfl (c_58 _) (by decide) (Nat.le_refl _) (Nat.le_refl _) (Nat.le_of_ble_eq_true rfl) dX8_breaks_141 (fun x w2 h => ?_)
                  rcases h with ⟨rfl, rfl | rfl⟩
                  · skip
                    refine R_goto (pc := 144) 174 dX8_breaks_144 (by decide) ?_
                    refine st_7_6_i_i (pc := 174) dX8_breaks_174 ?_
                    refine R_iload (pc := 176) dX8_breaks_176 rfl ?_
                    refine R_ifne (pc := 178) 190 dX8_breaks_178 (by decide) (fun _ => ?_) (fun h => absurd h (by decide))
                    refine inc_7_5_1_i (pc := 190) dX8_breaks_190 ?_
                    have r31 : inR ((nI j66) + 1) 1 20 := inR_add (show inR (nI j66) 0 19 from hrg66) (show inR 1 1 1 from (inR_self _)) (by decide) (by decide)
                    have e32 := ti_add (l := 1) (h := 20) (show inR (nI j66) 0 19 from hrg66) (show inR 1 1 1 from (inR_self _)) (by decide) (by decide)
                    refine R_goto (pc := 193) 66 dX8_breaks_193 (by decide) ?_
                    rw [nI_1]
                    exact ih66 (j66 + 1) _ _ (by omega) (by omega)
                  · skip
                    refine R_goto (pc := 144) 174 dX8_breaks_144 (by decide) ?_
                    refine st_7_6_i_i (pc := 174) dX8_breaks_174 ?_
                    refine R_iload (pc := 176) dX8_breaks_176 rfl ?_
                    refine R_ifne (pc := 178) 190 dX8_breaks_178 (by decide) (fun h => absurd (by decide) h) (fun _ => ?_)
                    refine R_iload (pc := 181) dX8_breaks_181 rfl ?_
                    refine R_iconst (pc := 183) (v := 1) dX8_breaks_183 (by decide) ?_
                    refine R_iload (pc := 184) dX8_breaks_184 rfl ?_
                    refine R_ishl (pc := 186) dX8_breaks_186 ?_
                    have r34 : inR (1 <<< ((nI j66) &&& 31)) 0 1048575 := shl20 hrg66
                    refine R_ior (pc := 187) dX8_breaks_187 ?_
                    refine st_7_4_i_i (pc := 188) dX8_breaks_188 ?_
                    refine inc_7_5_1_i (pc := 190) dX8_breaks_190 ?_
                    have r35 : inR ((nI j66) + 1) 1 20 := inR_add (show inR (nI j66) 0 19 from hrg66) (show inR 1 1 1 from (inR_self _)) (by decide) (by decide)
                    have e36 := ti_add (l := 1) (h := 20) (show inR (nI j66) 0 19 from hrg66) (show inR 1 1 1 from (inR_self _)) (by decide) (by decide)
                    refine R_goto (pc := 193) 66 dX8_breaks_193 (by decide) ?_
                    rw [nI_1]
                    exact ih66 (j66 + 1) _ _ (by omega) (by omega)
              · skip
                refine R_ifeq (pc := 110) 190 dX8_breaks_110 (by decide) (fun _ => ?_) (fun h => absurd (by decide) h)
                refine inc_7_5_1_i (pc := 190) dX8_breaks_190 ?_
                have r38 : inR ((nI j66) + 1) 1 20 := inR_add (show inR (nI j66) 0 19 from hrg66) (show inR 1 1 1 from (inR_self _)) (by decide) (by decide)
                have e39 := ti_add (l := 1) (h := 20) (show inR (nI j66) 0 19 from hrg66) (show inR 1 1 1 from (inR_self _)) (by decide) (by decide)
                refine R_goto (pc := 193) 66 dX8_breaks_193 (by decide) ?_
                rw [nI_1]
                exact ih66 (j66 + 1) _ _ (by omega) (by omega)
            · skip
              refine R_ifeq (pc := 79) 190 dX8_breaks_79 (by decide) (fun _ => ?_) (fun h => absurd (by decide) h)
              refine inc_7_5_1_i (pc := 190) dX8_breaks_190 ?_
              have r41 : inR ((nI j66) + 1) 1 20 := inR_add (show inR (nI j66) 0 19 from hrg66) (show inR 1 1 1 from (inR_self _)) (by decide) (by decide)
              have e42 := ti_add (l := 1) (h := 20) (show inR (nI j66) 0 19 from hrg66) (show inR 1 1 1 from (inR_self _)) (by decide) (by decide)
              refine R_goto (pc := 193) 66 dX8_breaks_193 (by decide) ?_
              rw [nI_1]
              exact ih66 (j66 + 1) _ _ (by omega) (by omega)
        exact HL66 20 0 _ _ (by omega) (by omega)
      · skip
        refine R_aload_n (pc := 42) dX8_breaks_42 rfl rfl ?_
        refine g_X8_37 (pc := 43) (v := .ref 58) rfl dX8_breaks_43 (c_0 _) rfl ?_
        refine R_iload_n (pc := 46) dX8_breaks_46 rfl rfl ?_
        refine R_aload_n (pc := 47) dX8_breaks_47 rfl rfl ?_
        refine g_X8_58 (pc := 48) (v := .ref 119) rfl dX8_breaks_48 (c_0 _) rfl ?_
        refine k_X8_242 (pc := 51) (gx_X1_settle_119 _ _ hI) rfl (c_58 _) (by decide) (Nat.le_refl _) (Nat.le_refl _) (Nat.le_of_ble_eq_true rfl) dX8_breaks_51 (fun y43 w2 h => ?_)
        obtain ⟨σx45, rfl, hV44, hW46⟩ := h
        have hW47 := Cor.trans (show Cor σ σ from Cor.rfl' σ) hW46
        refine R_ifne (pc := 54) 60 dX8_breaks_54 (by decide) (fun b54_48 => ?_) (fun b54_48 => ?_)
        · skip
          refine R_iconst (pc := 60) (v := 0) dX8_breaks_60 (by decide) ?_
          refine st_7_4_i_i (pc := 61) dX8_breaks_61 ?_
          refine R_iconst (pc := 63) (v := 0) dX8_breaks_63 (by decide) ?_
          refine st_7_5_i_i (pc := 64) dX8_breaks_64 ?_
          have HL66 : ∀ (q j66 : Nat) (g4_66 : Int32) (g6_66 : Option Value), j66 + q = 20 → 0 ≤ j66 → R G l yX8_breaks cX8_breaks 7 (some .int) 6 0 0 (QI (fun _ w2 => ∃ σ2, w2 = WW σ2 ∧ Inv σ2 ∧ Cor σ σ2)) 66 [(some (.ref 0)), (some (.int a)), (some (.int y6)), (some (.int (σ.2.2.1 130 (Int32.toNatClampNeg a)))), (some (.int g4_66)), (some (.int (nI j66))), g6_66] [] (WW σx45) 0 0 := by
            intro q
            induction q with
            | zero =>
              intro j66 g4_66 g6_66 hj hs66
              obtain rfl : j66 = 20 := by omega
              refine R_iload (pc := 66) dX8_breaks_66 rfl ?_
              refine R_bipush (pc := 68) (v := 20) dX8_breaks_68 (by decide) ?_
              refine R_icge (pc := 70) 196 dX8_breaks_70 (by decide) (fun _ => ?_) (fun h => absurd (by decide) h)
              refine R_iload (pc := 196) dX8_breaks_196 rfl ?_
              exact R_iret (pc := 198) dX8_breaks_198 rfl rfl (Nat.zero_le _) (Nat.zero_le _) ⟨_, rfl, _, rfl, hV44, hW47⟩
            | succ q ih66 =>
              intro j66 g4_66 g6_66 hj hs66
              have hrg66 : inR (nI j66) 0 19 := inR_ix hs66 (show j66 < 20 by omega) (by decide) (by decide) (by decide)
              have hlt66 : j66 < 20 := by omega
              refine R_iload (pc := 66) dX8_breaks_66 rfl ?_
              refine R_bipush (pc := 68) (v := 20) dX8_breaks_68 (by decide) ?_
              refine R_icge (pc := 70) 196 dX8_breaks_70 (by decide) (fun h => False.elim (by have q1 := ti_le h; have q2 := ti_in (show inR (nI j66) 0 19 from hrg66); have q3 := ti_in (show inR 20 20 20 from (inR_self _)); have z0 : (0 : Int32).toInt = 0 := (by decide);  have z1 : (19 : Int32).toInt = 19 := (by decide);  have z2 : (20 : Int32).toInt = 20 := (by decide); omega)) (fun _ => ?_)
              refine R_iload_n (pc := 73) dX8_breaks_73 rfl rfl ?_
              refine R_iload (pc := 74) dX8_breaks_74 rfl ?_
              refine k_X8_209 (pc := 76) (sp_X8_has _ _ _) rfl (by decide) (Nat.le_refl _) (Nat.le_refl _) (Nat.le_of_ble_eq_true rfl) dX8_breaks_76 (fun x w2 h => ?_)
              rcases h with ⟨rfl, ⟨-, rfl⟩ | ⟨-, rfl⟩⟩
              · skip
                refine R_ifeq (pc := 79) 190 dX8_breaks_79 (by decide) (fun h => absurd h (by decide)) (fun _ => ?_)
                refine R_aload_n (pc := 82) dX8_breaks_82 rfl rfl ?_
                rcases iv_ln hV44 with ⟨hl52, hl52d⟩ | ⟨hl52, hl52d⟩
                · skip
                  refine g_X8_62 (pc := 83) (v := .ref 126) rfl dX8_breaks_83 (c_0 _) (by show some (Value.ref σx45.2.2.2.2.1) = _; rw [hl52]) ?_
                  refine R_iload_n (pc := 86) dX8_breaks_86 rfl rfl ?_
                  refine R_aload_n (pc := 87) dX8_breaks_87 rfl rfl ?_
                  refine g_X8_10 (pc := 88) (v := .ref 1) rfl dX8_breaks_88 (c_0 _) rfl ?_
                  refine g_X8_172 (pc := 91) (v := .ref 3) rfl dX8_breaks_91 (c_1 _) rfl ?_
                  refine R_iload (pc := 94) dX8_breaks_94 rfl ?_
                  have hx53 : vp_in (nI j66) 20 := (vp_in_nI (by omega) (by decide))
                  refine R_iaload (pc := 96) dX8_breaks_96 (c_3 _) hx53 ?_
                  refine R_aload_n (pc := 97) dX8_breaks_97 rfl rfl ?_
                  refine g_X8_10 (pc := 98) (v := .ref 1) rfl dX8_breaks_98 (c_0 _) rfl ?_
                  refine g_X8_178 (pc := 101) (v := .ref 4) rfl dX8_breaks_101 (c_1 _) rfl ?_
                  refine R_iload (pc := 104) dX8_breaks_104 rfl ?_
                  have hx54 : vp_in (nI j66) 20 := (vp_in_nI (by omega) (by decide))
                  refine R_iaload (pc := 106) dX8_breaks_106 (c_4 _) hx54 ?_
                  refine k_X8_304 (pc := 107) (gx_X4_isFor_126 _ _ _ _ hV44 (show inR a 0 7 from of_ti (by have q0 := e3; have q1 := ti_in h4; have q2 := ti_ne b39_8; have q3 := ti_ne b54_48; have q4 := ti_in (iv_12606 hI); have q5 := ti_in r2; have q6 := ti_in hrg66; have q7 := ti_in (iva_4 hV44 _ (lt_of_vp hx54)); have z0 : (-1 : Int32).toInt = -1 := (by decide); have z1 : (0 : Int32).toInt = 0 := (by decide); have z2 : (1 : Int32).toInt = 1 := (by decide); have z3 : (130 : Int32).toInt = 130 := (by decide); have z4 : (19 : Int32).toInt = 19 := (by decide); have z5 : (7 : Int32).toInt = 7 := (by decide); have z6 : (8 : Int32).toInt = 8 := (by decide); have z7 : (99 : Int32).toInt = 99 := (by decide); omega) (by have q0 := e3; have q1 := ti_in h4; have q2 := ti_ne b39_8; have q3 := ti_ne b54_48; have q4 := ti_in (iv_12606 hI); have q5 := ti_in r2; have q6 := ti_in hrg66; have q7 := ti_in (iva_4 hV44 _ (lt_of_vp hx54)); have z0 : (-1 : Int32).toInt = -1 := (by decide); have z1 : (0 : Int32).toInt = 0 := (by decide); have z2 : (1 : Int32).toInt = 1 := (by decide); have z3 : (130 : Int32).toInt = 130 := (by decide); have z4 : (19 : Int32).toInt = 19 := (by decide); have z5 : (7 : Int32).toInt = 7 := (by decide); have z6 : (8 : Int32).toInt = 8 := (by decide); have z7 : (99 : Int32).toInt = 99 := (by decide); omega))) rfl (c_126 _) (by decide) (Nat.le_refl _) (Nat.le_refl _) (Nat.le_of_ble_eq_true rfl) dX8_breaks_107 (fun x w2 h => ?_)
                  rcases h with ⟨rfl, rfl | rfl⟩
                  · skip
                    refine R_ifeq (pc := 110) 190 dX8_breaks_110 (by decide) (fun h => absurd h (by decide)) (fun _ => ?_)
                    refine R_iload_n (pc := 113) dX8_breaks_113 rfl rfl ?_
                    refine R_ifeq (pc := 114) 147 dX8_breaks_114 (by decide) (fun b114_57 => ?_) (fun b114_57 => ?_)
                    · skip
                      refine R_aload_n (pc := 147) dX8_breaks_147 rfl rfl ?_
                      refine g_X8_10 (pc := 148) (v := .ref 1) rfl dX8_breaks_148 (c_0 _) rfl ?_
                      refine g_X8_316 (pc := 151) (v := .ref 5) rfl dX8_breaks_151 (c_1 _) rfl ?_
                      refine R_iload (pc := 154) dX8_breaks_154 rfl ?_
                      have hx58 : vp_in (nI j66) 20 := (vp_in_nI (by omega) (by decide))
                      refine R_iaload (pc := 156) dX8_breaks_156 (c_5 _) hx58 ?_
                      refine R_aload_n (pc := 157) dX8_breaks_157 rfl rfl ?_
                      refine g_X8_62 (pc := 158) (v := .ref 126) rfl dX8_breaks_158 (c_0 _) (by show some (Value.ref σx45.2.2.2.2.1) = _; rw [hl52]) ?_
                      refine g_X8_307 (pc := 161) (v := .ref 131) rfl dX8_breaks_161 (c_126 _) rfl ?_
                      refine R_iload_n (pc := 164) dX8_breaks_164 rfl rfl ?_
                      have hx59 : vp_in a 8 := (vp_ti (by have q0 := e3; have q1 := ti_in h4; have q2 := ti_ne b39_8; have q3 := ti_ne b54_48; have q4 := ti_eq b114_57; have q5 := ti_in (iv_12606 hI); have q6 := ti_in r2; have q7 := ti_in hrg66; have q8 := ti_in (iva_4 hV44 _ (lt_of_vp hx54)); have q9 := ti_in (iva_5 hV44 _ (lt_of_vp hx58)); have z0 : (-1 : Int32).toInt = -1 := (by decide); have z1 : (0 : Int32).toInt = 0 := (by decide); have z2 : (1 : Int32).toInt = 1 := (by decide); have z3 : (130 : Int32).toInt = 130 := (by decide); have z4 : (19 : Int32).toInt = 19 := (by decide); have z5 : (4 : Int32).toInt = 4 := (by decide); have z6 : (7 : Int32).toInt = 7 := (by decide); have z7 : (8 : Int32).toInt = 8 := (by decide); have z8 : (99 : Int32).toInt = 99 := (by decide); omega) (by have q0 := e3; have q1 := ti_in h4; have q2 := ti_ne b39_8; have q3 := ti_ne b54_48; have q4 := ti_eq b114_57; have q5 := ti_in (iv_12606 hI); have q6 := ti_in r2; have q7 := ti_in hrg66; have q8 := ti_in (iva_4 hV44 _ (lt_of_vp hx54)); have q9 := ti_in (iva_5 hV44 _ (lt_of_vp hx58)); have z0 : (-1 : Int32).toInt = -1 := (by decide); have z1 : (0 : Int32).toInt = 0 := (by decide); have z2 : (1 : Int32).toInt = 1 := (by decide); have z3 : (130 : Int32).toInt = 130 := (by decide); have z4 : (19 : Int32).toInt = 19 := (by decide); have z5 : (4 : Int32).toInt = 4 := (by decide); have z6 : (7 : Int32).toInt = 7 := (by decide); have z7 : (8 : Int32).toInt = 8 := (by decide); have z8 : (99 : Int32).toInt = 99 := (by decide); omega))
                      refine R_iaload (pc := 165) dX8_breaks_165 (c_131 _) hx59 ?_
                      refine R_icne (pc := 166) 173 dX8_breaks_166 (by decide) (fun b166_60 => ?_) (fun b166_60 => ?_)
                      · skip
                        refine R_iconst (pc := 173) (v := 0) dX8_breaks_173 (by decide) ?_
                        refine st_7_6_i_i (pc := 174) dX8_breaks_174 ?_
                        refine R_iload (pc := 176) dX8_breaks_176 rfl ?_
                        refine R_ifne (pc := 178) 190 dX8_breaks_178 (by decide) (fun h => absurd (by decide) h) (fun _ => ?_)
                        refine R_iload (pc := 181) dX8_breaks_181 rfl ?_
                        refine R_iconst (pc := 183) (v := 1) dX8_breaks_183 (by decide) ?_
                        refine R_iload (pc := 184) dX8_breaks_184 rfl ?_
                        refine R_ishl (pc := 186) dX8_breaks_186 ?_
                        have r62 : inR (1 <<< ((nI j66) &&& 31)) 0 1048575 := shl20 hrg66
                        refine R_ior (pc := 187) dX8_breaks_187 ?_
                        refine st_7_4_i_i (pc := 188) dX8_breaks_188 ?_
                        refine inc_7_5_1_i (pc := 190) dX8_breaks_190 ?_
                        have r63 : inR ((nI j66) + 1) 1 20 := inR_add (show inR (nI j66) 0 19 from hrg66) (show inR 1 1 1 from (inR_self _)) (by decide) (by decide)
                        have e64 := ti_add (l := 1) (h := 20) (show inR (nI j66) 0 19 from hrg66) (show inR 1 1 1 from (inR_self _)) (by decide) (by decide)
                        refine R_goto (pc := 193) 66 dX8_breaks_193 (by decide) ?_
                        rw [nI_1]
                        exact ih66 (j66 + 1) _ _ (by omega) (by omega)
                      · skip
                        refine R_iconst (pc := 169) (v := 1) dX8_breaks_169 (by decide) ?_
                        refine R_goto (pc := 170) 174 dX8_breaks_170 (by decide) ?_
                        refine st_7_6_i_i (pc := 174) dX8_breaks_174 ?_
                        refine R_iload (pc := 176) dX8_breaks_176 rfl ?_
                        refine R_ifne (pc := 178) 190 dX8_breaks_178 (by decide) (fun _ => ?_) (fun h => absurd h (by decide))
                        refine inc_7_5_1_i (pc := 190) dX8_breaks_190 ?_
                        have r66 : inR ((nI j66) + 1) 1 20 := inR_add (show inR (nI j66) 0 19 from hrg66) (show inR 1 1 1 from (inR_self _)) (by decide) (by decide)
                        have e67 := ti_add (l := 1) (h := 20) (show inR (nI j66) 0 19 from hrg66) (show inR 1 1 1 from (inR_self _)) (by decide) (by decide)
                        refine R_goto (pc := 193) 66 dX8_breaks_193 (by decide) ?_
                        rw [nI_1]
                        exact ih66 (j66 + 1) _ _ (by omega) (by omega)
                    · skip
                      refine R_aload_n (pc := 117) dX8_breaks_117 rfl rfl ?_
                      refine g_X8_37 (pc := 118) (v := .ref 58) rfl dX8_breaks_118 (c_0 _) rfl ?_
                      refine R_iload (pc := 121) dX8_breaks_121 rfl ?_
                      refine R_aload_n (pc := 123) dX8_breaks_123 rfl rfl ?_
                      refine g_X8_62 (pc := 124) (v := .ref 126) rfl dX8_breaks_124 (c_0 _) (by show some (Value.ref σx45.2.2.2.2.1) = _; rw [hl52]) ?_
                      refine g_X8_307 (pc := 127) (v := .ref 131) rfl dX8_breaks_127 (c_126 _) rfl ?_
                      refine R_iload_n (pc := 130) dX8_breaks_130 rfl rfl ?_
                      have hx68 : vp_in a 8 := (vp_ti (by have q0 := e3; have q1 := ti_in h4; have q2 := ti_ne b39_8; have q3 := ti_ne b54_48; have q4 := ti_ne b114_57; have q5 := ti_in (iv_12606 hI); have q6 := ti_in r2; have q7 := ti_in hrg66; have q8 := ti_in (iva_4 hV44 _ (lt_of_vp hx54)); have z0 : (-1 : Int32).toInt = -1 := (by decide); have z1 : (0 : Int32).toInt = 0 := (by decide); have z2 : (1 : Int32).toInt = 1 := (by decide); have z3 : (130 : Int32).toInt = 130 := (by decide); have z4 : (19 : Int32).toInt = 19 := (by decide); have z5 : (7 : Int32).toInt = 7 := (by decide); have z6 : (8 : Int32).toInt = 8 := (by decide); have z7 : (99 : Int32).toInt = 99 := (by decide); omega) (by have q0 := e3; have q1 := ti_in h4; have q2 := ti_ne b39_8; have q3 := ti_ne b54_48; have q4 := ti_ne b114_57; have q5 := ti_in (iv_12606 hI); have q6 := ti_in r2; have q7 := ti_in hrg66; have q8 := ti_in (iva_4 hV44 _ (lt_of_vp hx54)); have z0 : (-1 : Int32).toInt = -1 := (by decide); have z1 : (0 : Int32).toInt = 0 := (by decide); have z2 : (1 : Int32).toInt = 1 := (by decide); have z3 : (130 : Int32).toInt = 130 := (by decide); have z4 : (19 : Int32).toInt = 19 := (by decide); have z5 : (7 : Int32).toInt = 7 := (by decide); have z6 : (8 : Int32).toInt = 8 := (by decide); have z7 : (99 : Int32).toInt = 99 := (by decide); omega))
                      refine R_iaload (pc := 131) dX8_breaks_131 (c_131 _) hx68 ?_
                      refine R_aload_n (pc := 132) dX8_breaks_132 rfl rfl ?_
                      refine g_X8_62 (pc := 133) (v := .ref 126) rfl dX8_breaks_133 (c_0 _) (by show some (Value.ref σx45.2.2.2.2.1) = _; rw [hl52]) ?_
                      refine g_X8_310 (pc := 136) (v := .ref 132) rfl dX8_breaks_136 (c_126 _) rfl ?_
                      refine R_iload_n (pc := 139) dX8_breaks_139 rfl rfl ?_
                      have hx69 : vp_in a 8 := (vp_ti (by have q0 := e3; have q1 := ti_in h4; have q2 := ti_ne b39_8; have q3 := ti_ne b54_48; have q4 := ti_ne b114_57; have q5 := ti_in (iv_12606 hI); have q6 := ti_in r2; have q7 := ti_in hrg66; have q8 := ti_in (iva_4 hV44 _ (lt_of_vp hx54)); have z0 : (-1 : Int32).toInt = -1 := (by decide); have z1 : (0 : Int32).toInt = 0 := (by decide); have z2 : (1 : Int32).toInt = 1 := (by decide); have z3 : (130 : Int32).toInt = 130 := (by decide); have z4 : (19 : Int32).toInt = 19 := (by decide); have z5 : (7 : Int32).toInt = 7 := (by decide); have z6 : (8 : Int32).toInt = 8 := (by decide); have z7 : (99 : Int32).toInt = 99 := (by decide); omega) (by have q0 := e3; have q1 := ti_in h4; have q2 := ti_ne b39_8; have q3 := ti_ne b54_48; have q4 := ti_ne b114_57; have q5 := ti_in (iv_12606 hI); have q6 := ti_in r2; have q7 := ti_in hrg66; have q8 := ti_in (iva_4 hV44 _ (lt_of_vp hx54)); have z0 : (-1 : Int32).toInt = -1 := (by decide); have z1 : (0 : Int32).toInt = 0 := (by decide); have z2 : (1 : Int32).toInt = 1 := (by decide); have z3 : (130 : Int32).toInt = 130 := (by decide); have z4 : (19 : Int32).toInt = 19 := (by decide); have z5 : (7 : Int32).toInt = 7 := (by decide); have z6 : (8 : Int32).toInt = 8 := (by decide); have z7 : (99 : Int32).toInt = 99 := (by decide); omega))
                      refine R_iaload (pc := 140) dX8_breaks_140 (c_132 _) hx69 ?_
                      refine k_X8_313 (pc := 141) (gx_X1_canBePublished _ _ _ _ hrg66) rfl (c_58 _) (by decide) (Nat.le_refl _) (Nat.le_refl _) (Nat.le_of_ble_eq_true rfl) dX8_breaks_141 (fun x w2 h => ?_)
                      rcases h with ⟨rfl, rfl | rfl⟩
                      · skip
                        refine R_goto (pc := 144) 174 dX8_breaks_144 (by decide) ?_
                        refine st_7_6_i_i (pc := 174) dX8_breaks_174 ?_
                        refine R_iload (pc := 176) dX8_breaks_176 rfl ?_
                        refine R_ifne (pc := 178) 190 dX8_breaks_178 (by decide) (fun _ => ?_) (fun h => absurd h (by decide))
                        refine inc_7_5_1_i (pc := 190) dX8_breaks_190 ?_
                        have r72 : inR ((nI j66) + 1) 1 20 := inR_add (show inR (nI j66) 0 19 from hrg66) (show inR 1 1 1 from (inR_self _)) (by decide) (by decide)
                        have e73 := ti_add (l := 1) (h := 20) (show inR (nI j66) 0 19 from hrg66) (show inR 1 1 1 from (inR_self _)) (by decide) (by decide)
                        refine R_goto (pc := 193) 66 dX8_breaks_193 (by decide) ?_
                        rw [nI_1]
                        exact ih66 (j66 + 1) _ _ (by omega) (by omega)
                      · skip
                        refine R_goto (pc := 144) 174 dX8_breaks_144 (by decide) ?_
                        refine st_7_6_i_i (pc := 174) dX8_breaks_174 ?_
                        refine R_iload (pc := 176) dX8_breaks_176 rfl ?_
                        refine R_ifne (pc := 178) 190 dX8_breaks_178 (by decide) (fun h => absurd (by decide) h) (fun _ => ?_)
                        refine R_iload (pc := 181) dX8_breaks_181 rfl ?_
                        refine R_iconst (pc := 183) (v := 1) dX8_breaks_183 (by decide) ?_
                        refine R_iload (pc := 184) dX8_breaks_184 rfl ?_
                        refine R_ishl (pc := 186) dX8_breaks_186 ?_
                        have r75 : inR (1 <<< ((nI j66) &&& 31)) 0 1048575 := shl20 hrg66
                        refine R_ior (pc := 187) dX8_breaks_187 ?_
                        refine st_7_4_i_i (pc := 188) dX8_breaks_188 ?_
                        refine inc_7_5_1_i (pc := 190) dX8_breaks_190 ?_
                        have r76 : inR ((nI j66) + 1) 1 20 := inR_add (show inR (nI j66) 0 19 from hrg66) (show inR 1 1 1 from (inR_self _)) (by decide) (by decide)
                        have e77 := ti_add (l := 1) (h := 20) (show inR (nI j66) 0 19 from hrg66) (show inR 1 1 1 from (inR_self _)) (by decide) (by decide)
                        refine R_goto (pc := 193) 66 dX8_breaks_193 (by decide) ?_
                        rw [nI_1]
                        exact ih66 (j66 + 1) _ _ (by omega) (by omega)
                  · skip
                    refine R_ifeq (pc := 110) 190 dX8_breaks_110 (by decide) (fun _ => ?_) (fun h => absurd (by decide) h)
                    refine inc_7_5_1_i (pc := 190) dX8_breaks_190 ?_
                    have r79 : inR ((nI j66) + 1) 1 20 := inR_add (show inR (nI j66) 0 19 from hrg66) (show inR 1 1 1 from (inR_self _)) (by decide) (by decide)
                    have e80 := ti_add (l := 1) (h := 20) (show inR (nI j66) 0 19 from hrg66) (show inR 1 1 1 from (inR_self _)) (by decide) (by decide)
                    refine R_goto (pc := 193) 66 dX8_breaks_193 (by decide) ?_
                    rw [nI_1]
                    exact ih66 (j66 + 1) _ _ (by omega) (by omega)
                · skip
                  refine g_X8_62 (pc := 83) (v := .ref 133) rfl dX8_breaks_83 (c_0 _) (by show some (Value.ref σx45.2.2.2.2.1) = _; rw [hl52]) ?_
                  refine R_iload_n (pc := 86) dX8_breaks_86 rfl rfl ?_
                  refine R_aload_n (pc := 87) dX8_breaks_87 rfl rfl ?_
                  refine g_X8_10 (pc := 88) (v := .ref 1) rfl dX8_breaks_88 (c_0 _) rfl ?_
                  refine g_X8_172 (pc := 91) (v := .ref 3) rfl dX8_breaks_91 (c_1 _) rfl ?_
                  refine R_iload (pc := 94) dX8_breaks_94 rfl ?_
                  have hx81 : vp_in (nI j66) 20 := (vp_in_nI (by omega) (by decide))
                  refine R_iaload (pc := 96) dX8_breaks_96 (c_3 _) hx81 ?_
                  refine R_aload_n (pc := 97) dX8_breaks_97 rfl rfl ?_
                  refine g_X8_10 (pc := 98) (v := .ref 1) rfl dX8_breaks_98 (c_0 _) rfl ?_
                  refine g_X8_178 (pc := 101) (v := .ref 4) rfl dX8_breaks_101 (c_1 _) rfl ?_
                  refine R_iload (pc := 104) dX8_breaks_104 rfl ?_
                  have hx82 : vp_in (nI j66) 20 := (vp_in_nI (by omega) (by decide))
                  refine R_iaload (pc := 106) dX8_breaks_106 (c_4 _) hx82 ?_
                  refine k_X8_304 (pc := 107) (gx_X4_isFor_133 _ _ _ _ hV44 (show inR a 0 7 from of_ti (by have q0 := e3; have q1 := ti_in h4; have q2 := ti_ne b39_8; have q3 := ti_ne b54_48; have q4 := ti_in (iv_12606 hI); have q5 := ti_in r2; have q6 := ti_in hrg66; have q7 := ti_in (iva_4 hV44 _ (lt_of_vp hx82)); have z0 : (-1 : Int32).toInt = -1 := (by decide); have z1 : (0 : Int32).toInt = 0 := (by decide); have z2 : (1 : Int32).toInt = 1 := (by decide); have z3 : (130 : Int32).toInt = 130 := (by decide); have z4 : (19 : Int32).toInt = 19 := (by decide); have z5 : (7 : Int32).toInt = 7 := (by decide); have z6 : (8 : Int32).toInt = 8 := (by decide); have z7 : (99 : Int32).toInt = 99 := (by decide); omega) (by have q0 := e3; have q1 := ti_in h4; have q2 := ti_ne b39_8; have q3 := ti_ne b54_48; have q4 := ti_in (iv_12606 hI); have q5 := ti_in r2; have q6 := ti_in hrg66; have q7 := ti_in (iva_4 hV44 _ (lt_of_vp hx82)); have z0 : (-1 : Int32).toInt = -1 := (by decide); have z1 : (0 : Int32).toInt = 0 := (by decide); have z2 : (1 : Int32).toInt = 1 := (by decide); have z3 : (130 : Int32).toInt = 130 := (by decide); have z4 : (19 : Int32).toInt = 19 := (by decide); have z5 : (7 : Int32).toInt = 7 := (by decide); have z6 : (8 : Int32).toInt = 8 := (by decide); have z7 : (99 : Int32).toInt = 99 := (by decide); omega))) rfl (c_133 _) (by decide) (Nat.le_refl _) (Nat.le_refl _) (Nat.le_of_ble_eq_true rfl) dX8_breaks_107 (fun x w2 h => ?_)
                  rcases h with ⟨rfl, rfl | rfl⟩
                  · skip
                    refine R_ifeq (pc := 110) 190 dX8_breaks_110 (by decide) (fun h => absurd h (by decide)) (fun _ => ?_)
                    refine R_iload_n (pc := 113) dX8_breaks_113 rfl rfl ?_
                    refine R_ifeq (pc := 114) 147 dX8_breaks_114 (by decide) (fun b114_85 => ?_) (fun b114_85 => ?_)
                    · skip
                      refine R_aload_n (pc := 147) dX8_breaks_147 rfl rfl ?_
                      refine g_X8_10 (pc := 148) (v := .ref 1) rfl dX8_breaks_148 (c_0 _) rfl ?_
                      refine g_X8_316 (pc := 151) (v := .ref 5) rfl dX8_breaks_151 (c_1 _) rfl ?_
                      refine R_iload (pc := 154) dX8_breaks_154 rfl ?_
                      have hx86 : vp_in (nI j66) 20 := (vp_in_nI (by omega) (by decide))
                      refine R_iaload (pc := 156) dX8_breaks_156 (c_5 _) hx86 ?_
                      refine R_aload_n (pc := 157) dX8_breaks_157 rfl rfl ?_
                      refine g_X8_62 (pc := 158) (v := .ref 133) rfl dX8_breaks_158 (c_0 _) (by show some (Value.ref σx45.2.2.2.2.1) = _; rw [hl52]) ?_
                      refine g_X8_307 (pc := 161) (v := .ref 138) rfl dX8_breaks_161 (c_133 _) rfl ?_
                      refine R_iload_n (pc := 164) dX8_breaks_164 rfl rfl ?_
                      have hx87 : vp_in a 8 := (vp_ti (by have q0 := e3; have q1 := ti_in h4; have q2 := ti_ne b39_8; have q3 := ti_ne b54_48; have q4 := ti_eq b114_85; have q5 := ti_in (iv_12606 hI); have q6 := ti_in r2; have q7 := ti_in hrg66; have q8 := ti_in (iva_4 hV44 _ (lt_of_vp hx82)); have q9 := ti_in (iva_5 hV44 _ (lt_of_vp hx86)); have z0 : (-1 : Int32).toInt = -1 := (by decide); have z1 : (0 : Int32).toInt = 0 := (by decide); have z2 : (1 : Int32).toInt = 1 := (by decide); have z3 : (130 : Int32).toInt = 130 := (by decide); have z4 : (19 : Int32).toInt = 19 := (by decide); have z5 : (4 : Int32).toInt = 4 := (by decide); have z6 : (7 : Int32).toInt = 7 := (by decide); have z7 : (8 : Int32).toInt = 8 := (by decide); have z8 : (99 : Int32).toInt = 99 := (by decide); omega) (by have q0 := e3; have q1 := ti_in h4; have q2 := ti_ne b39_8; have q3 := ti_ne b54_48; have q4 := ti_eq b114_85; have q5 := ti_in (iv_12606 hI); have q6 := ti_in r2; have q7 := ti_in hrg66; have q8 := ti_in (iva_4 hV44 _ (lt_of_vp hx82)); have q9 := ti_in (iva_5 hV44 _ (lt_of_vp hx86)); have z0 : (-1 : Int32).toInt = -1 := (by decide); have z1 : (0 : Int32).toInt = 0 := (by decide); have z2 : (1 : Int32).toInt = 1 := (by decide); have z3 : (130 : Int32).toInt = 130 := (by decide); have z4 : (19 : Int32).toInt = 19 := (by decide); have z5 : (4 : Int32).toInt = 4 := (by decide); have z6 : (7 : Int32).toInt = 7 := (by decide); have z7 : (8 : Int32).toInt = 8 := (by decide); have z8 : (99 : Int32).toInt = 99 := (by decide); omega))
                      refine R_iaload (pc := 165) dX8_breaks_165 (c_138 _) hx87 ?_
                      refine R_icne (pc := 166) 173 dX8_breaks_166 (by decide) (fun b166_88 => ?_) (fun b166_88 => ?_)
                      · skip
                        refine R_iconst (pc := 173) (v := 0) dX8_breaks_173 (by decide) ?_
                        refine st_7_6_i_i (pc := 174) dX8_breaks_174 ?_
                        refine R_iload (pc := 176) dX8_breaks_176 rfl ?_
                        refine R_ifne (pc := 178) 190 dX8_breaks_178 (by decide) (fun h => absurd (by decide) h) (fun _ => ?_)
                        refine R_iload (pc := 181) dX8_breaks_181 rfl ?_
                        refine R_iconst (pc := 183) (v := 1) dX8_breaks_183 (by decide) ?_
                        refine R_iload (pc := 184) dX8_breaks_184 rfl ?_
                        refine R_ishl (pc := 186) dX8_breaks_186 ?_
                        have r90 : inR (1 <<< ((nI j66) &&& 31)) 0 1048575 := shl20 hrg66
                        refine R_ior (pc := 187) dX8_breaks_187 ?_
                        refine st_7_4_i_i (pc := 188) dX8_breaks_188 ?_
                        refine inc_7_5_1_i (pc := 190) dX8_breaks_190 ?_
                        have r91 : inR ((nI j66) + 1) 1 20 := inR_add (show inR (nI j66) 0 19 from hrg66) (show inR 1 1 1 from (inR_self _)) (by decide) (by decide)
                        have e92 := ti_add (l := 1) (h := 20) (show inR (nI j66) 0 19 from hrg66) (show inR 1 1 1 from (inR_self _)) (by decide) (by decide)
                        refine R_goto (pc := 193) 66 dX8_breaks_193 (by decide) ?_
                        rw [nI_1]
                        exact ih66 (j66 + 1) _ _ (by omega) (by omega)
                      · skip
                        refine R_iconst (pc := 169) (v := 1) dX8_breaks_169 (by decide) ?_
                        refine R_goto (pc := 170) 174 dX8_breaks_170 (by decide) ?_
                        refine st_7_6_i_i (pc := 174) dX8_breaks_174 ?_
                        refine R_iload (pc := 176) dX8_breaks_176 rfl ?_
                        refine R_ifne (pc := 178) 190 dX8_breaks_178 (by decide) (fun _ => ?_) (fun h => absurd h (by decide))
                        refine inc_7_5_1_i (pc := 190) dX8_breaks_190 ?_
                        have r94 : inR ((nI j66) + 1) 1 20 := inR_add (show inR (nI j66) 0 19 from hrg66) (show inR 1 1 1 from (inR_self _)) (by decide) (by decide)
                        have e95 := ti_add (l := 1) (h := 20) (show inR (nI j66) 0 19 from hrg66) (show inR 1 1 1 from (inR_self _)) (by decide) (by decide)
                        refine R_goto (pc := 193) 66 dX8_breaks_193 (by decide) ?_
                        rw [nI_1]
                        exact ih66 (j66 + 1) _ _ (by omega) (by omega)
                    · skip
                      refine R_aload_n (pc := 117) dX8_breaks_117 rfl rfl ?_
                      refine g_X8_37 (pc := 118) (v := .ref 58) rfl dX8_breaks_118 (c_0 _) rfl ?_
                      refine R_iload (pc := 121) dX8_breaks_121 rfl ?_
                      refine R_aload_n (pc := 123) dX8_breaks_123 rfl rfl ?_
                      refine g_X8_62 (pc := 124) (v := .ref 133) rfl dX8_breaks_124 (c_0 _) (by show some (Value.ref σx45.2.2.2.2.1) = _; rw [hl52]) ?_
                      refine g_X8_307 (pc := 127) (v := .ref 138) rfl dX8_breaks_127 (c_133 _) rfl ?_
                      refine R_iload_n (pc := 130) dX8_breaks_130 rfl rfl ?_
                      have hx96 : vp_in a 8 := (vp_ti (by have q0 := e3; have q1 := ti_in h4; have q2 := ti_ne b39_8; have q3 := ti_ne b54_48; have q4 := ti_ne b114_85; have q5 := ti_in (iv_12606 hI); have q6 := ti_in r2; have q7 := ti_in hrg66; have q8 := ti_in (iva_4 hV44 _ (lt_of_vp hx82)); have z0 : (-1 : Int32).toInt = -1 := (by decide); have z1 : (0 : Int32).toInt = 0 := (by decide); have z2 : (1 : Int32).toInt = 1 := (by decide); have z3 : (130 : Int32).toInt = 130 := (by decide); have z4 : (19 : Int32).toInt = 19 := (by decide); have z5 : (7 : Int32).toInt = 7 := (by decide); have z6 : (8 : Int32).toInt = 8 := (by decide); have z7 : (99 : Int32).toInt = 99 := (by decide); omega) (by have q0 := e3; have q1 := ti_in h4; have q2 := ti_ne b39_8; have q3 := ti_ne b54_48; have q4 := ti_ne b114_85; have q5 := ti_in (iv_12606 hI); have q6 := ti_in r2; have q7 := ti_in hrg66; have q8 := ti_in (iva_4 hV44 _ (lt_of_vp hx82)); have z0 : (-1 : Int32).toInt = -1 := (by decide); have z1 : (0 : Int32).toInt = 0 := (by decide); have z2 : (1 : Int32).toInt = 1 := (by decide); have z3 : (130 : Int32).toInt = 130 := (by decide); have z4 : (19 : Int32).toInt = 19 := (by decide); have z5 : (7 : Int32).toInt = 7 := (by decide); have z6 : (8 : Int32).toInt = 8 := (by decide); have z7 : (99 : Int32).toInt = 99 := (by decide); omega))
                      refine R_iaload (pc := 131) dX8_breaks_131 (c_138 _) hx96 ?_
                      refine R_aload_n (pc := 132) dX8_breaks_132 rfl rfl ?_
                      refine g_X8_62 (pc := 133) (v := .ref 133) rfl dX8_breaks_133 (c_0 _) (by show some (Value.ref σx45.2.2.2.2.1) = _; rw [hl52]) ?_
                      refine g_X8_310 (pc := 136) (v := .ref 139) rfl dX8_breaks_136 (c_133 _) rfl ?_
                      refine R_iload_n (pc := 139) dX8_breaks_139 rfl rfl ?_
                      have hx97 : vp_in a 8 := (vp_ti (by have q0 := e3; have q1 := ti_in h4; have q2 := ti_ne b39_8; have q3 := ti_ne b54_48; have q4 := ti_ne b114_85; have q5 := ti_in (iv_12606 hI); have q6 := ti_in r2; have q7 := ti_in hrg66; have q8 := ti_in (iva_4 hV44 _ (lt_of_vp hx82)); have z0 : (-1 : Int32).toInt = -1 := (by decide); have z1 : (0 : Int32).toInt = 0 := (by decide); have z2 : (1 : Int32).toInt = 1 := (by decide); have z3 : (130 : Int32).toInt = 130 := (by decide); have z4 : (19 : Int32).toInt = 19 := (by decide); have z5 : (7 : Int32).toInt = 7 := (by decide); have z6 : (8 : Int32).toInt = 8 := (by decide); have z7 : (99 : Int32).toInt = 99 := (by decide); omega) (by have q0 := e3; have q1 := ti_in h4; have q2 := ti_ne b39_8; have q3 := ti_ne b54_48; have q4 := ti_ne b114_85; have q5 := ti_in (iv_12606 hI); have q6 := ti_in r2; have q7 := ti_in hrg66; have q8 := ti_in (iva_4 hV44 _ (lt_of_vp hx82)); have z0 : (-1 : Int32).toInt = -1 := (by decide); have z1 : (0 : Int32).toInt = 0 := (by decide); have z2 : (1 : Int32).toInt = 1 := (by decide); have z3 : (130 : Int32).toInt = 130 := (by decide); have z4 : (19 : Int32).toInt = 19 := (by decide); have z5 : (7 : Int32).toInt = 7 := (by decide); have z6 : (8 : Int32).toInt = 8 := (by decide); have z7 : (99 : Int32).toInt = 99 := (by decide); omega))
                      refine R_iaload (pc := 140) dX8_breaks_140 (c_139 _) hx97 ?_
                      refine k_X8_313 (pc := 141) (gx_X1_canBePublished _ _ _ _ hrg66) rfl (c_58 _) (by decide) (Nat.le_refl _) (Nat.le_refl _) (Nat.le_of_ble_eq_true rfl) dX8_breaks_141 (fun x w2 h => ?_)
                      rcases h with ⟨rfl, rfl | rfl⟩
                      · skip
                        refine R_goto (pc := 144) 174 dX8_breaks_144 (by decide) ?_
                        refine st_7_6_i_i (pc := 174) dX8_breaks_174 ?_
                        refine R_iload (pc := 176) dX8_breaks_176 rfl ?_
                        refine R_ifne (pc := 178) 190 dX8_breaks_178 (by decide) (fun _ => ?_) (fun h => absurd h (by decide))
                        refine inc_7_5_1_i (pc := 190) dX8_breaks_190 ?_
                        have r100 : inR ((nI j66) + 1) 1 20 := inR_add (show inR (nI j66) 0 19 from hrg66) (show inR 1 1 1 from (inR_self _)) (by decide) (by decide)
                        have e101 := ti_add (l := 1) (h := 20) (show inR (nI j66) 0 19 from hrg66) (show inR 1 1 1 from (inR_self _)) (by decide) (by decide)
                        refine R_goto (pc := 193) 66 dX8_breaks_193 (by decide) ?_
                        rw [nI_1]
                        exact ih66 (j66 + 1) _ _ (by omega) (by omega)
                      · skip
                        refine R_goto (pc := 144) 174 dX8_breaks_144 (by decide) ?_
                        refine st_7_6_i_i (pc := 174) dX8_breaks_174 ?_
                        refine R_iload (pc := 176) dX8_breaks_176 rfl ?_
                        refine R_ifne (pc := 178) 190 dX8_breaks_178 (by decide) (fun h => absurd (by decide) h) (fun _ => ?_)
                        refine R_iload (pc := 181) dX8_breaks_181 rfl ?_
                        refine R_iconst (pc := 183) (v := 1) dX8_breaks_183 (by decide) ?_
                        refine R_iload (pc := 184) dX8_breaks_184 rfl ?_
                        refine R_ishl (pc := 186) dX8_breaks_186 ?_
                        have r103 : inR (1 <<< ((nI j66) &&& 31)) 0 1048575 := shl20 hrg66
                        refine R_ior (pc := 187) dX8_breaks_187 ?_
                        refine st_7_4_i_i (pc := 188) dX8_breaks_188 ?_
                        refine inc_7_5_1_i (pc := 190) dX8_breaks_190 ?_
                        have r104 : inR ((nI j66) + 1) 1 20 := inR_add (show inR (nI j66) 0 19 from hrg66) (show inR 1 1 1 from (inR_self _)) (by decide) (by decide)
                        have e105 := ti_add (l := 1) (h := 20) (show inR (nI j66) 0 19 from hrg66) (show inR 1 1 1 from (inR_self _)) (by decide) (by decide)
                        refine R_goto (pc := 193) 66 dX8_breaks_193 (by decide) ?_
                        rw [nI_1]
                        exact ih66 (j66 + 1) _ _ (by omega) (by omega)
                  · skip
                    refine R_ifeq (pc := 110) 190 dX8_breaks_110 (by decide) (fun _ => ?_) (fun h => absurd (by decide) h)
                    refine inc_7_5_1_i (pc := 190) dX8_breaks_190 ?_
                    have r107 : inR ((nI j66) + 1) 1 20 := inR_add (show inR (nI j66) 0 19 from hrg66) (show inR 1 1 1 from (inR_self _)) (by decide) (by decide)
                    have e108 := ti_add (l := 1) (h := 20) (show inR (nI j66) 0 19 from hrg66) (show inR 1 1 1 from (inR_self _)) (by decide) (by decide)
                    refine R_goto (pc := 193) 66 dX8_breaks_193 (by decide) ?_
                    rw [nI_1]
                    exact ih66 (j66 + 1) _ _ (by omega) (by omega)
              · skip
                refine R_ifeq (pc := 79) 190 dX8_breaks_79 (by decide) (fun _ => ?_) (fun h => absurd (by decide) h)
                refine inc_7_5_1_i (pc := 190) dX8_breaks_190 ?_
                have r110 : inR ((nI j66) + 1) 1 20 := inR_add (show inR (nI j66) 0 19 from hrg66) (show inR 1 1 1 from (inR_self _)) (by decide) (by decide)
                have e111 := ti_add (l := 1) (h := 20) (show inR (nI j66) 0 19 from hrg66) (show inR 1 1 1 from (inR_self _)) (by decide) (by decide)
                refine R_goto (pc := 193) 66 dX8_breaks_193 (by decide) ?_
                rw [nI_1]
                exact ih66 (j66 + 1) _ _ (by omega) (by omega)
          exact HL66 20 0 _ _ (by omega) (by omega)
        · skip
          refine R_bipush (pc := 57) (v := (-4)) dX8_breaks_57 (by decide) ?_
          exact R_iret (pc := 59) dX8_breaks_59 rfl rfl (Nat.zero_le _) (Nat.zero_le _) ⟨_, rfl, _, rfl, hV44, hW47⟩
    · skip
      refine R_ifne (pc := 14) 20 dX8_breaks_14 (by decide) (fun h => absurd (by decide) h) (fun _ => ?_)
      refine R_bipush (pc := 17) (v := (-2)) dX8_breaks_17 (by decide) ?_
      exact R_iret (pc := 19) dX8_breaks_19 rfl rfl (Nat.zero_le _) (Nat.zero_le _) ⟨_, rfl, _, rfl, hI, (show Cor σ σ from Cor.rfl' σ)⟩
  · skip
    refine g_X8_62 (pc := 3) (v := .ref 133) rfl dX8_breaks_3 (c_0 _) (by show some (Value.ref σ.2.2.2.2.1) = _; rw [hl1]) ?_
    refine g_X8_299 (pc := 6) (v := .int (σ.1 13306)) rfl dX8_breaks_6 (c_133 _) rfl ?_
    refine R_iconst (pc := 9) (v := 1) dX8_breaks_9 (by decide) ?_
    refine R_isub (pc := 10) dX8_breaks_10 ?_
    have r113 : inR ((σ.1 13306) - 1) (-1) 7 := inR_sub (show inR (σ.1 13306) 0 8 from (iv_13306 hI)) (show inR 1 1 1 from (inR_self _)) (by decide) (by decide)
    have e114 := ti_sub (l := (-1)) (h := 7) (show inR (σ.1 13306) 0 8 from (iv_13306 hI)) (show inR 1 1 1 from (inR_self _)) (by decide) (by decide)
    refine k_X8_72 (pc := 11) (sp_X8_isWithin _ _ _ _) rfl (by decide) (Nat.le_refl _) (Nat.le_refl _) (Nat.le_of_ble_eq_true rfl) dX8_breaks_11 (fun x w2 h => ?_)
    rcases h with ⟨rfl, ⟨h115, rfl⟩ | ⟨h115, rfl⟩⟩
    · skip
      refine R_ifne (pc := 14) 20 dX8_breaks_14 (by decide) (fun _ => ?_) (fun h => absurd h (by decide))
      refine R_aload_n (pc := 20) dX8_breaks_20 rfl rfl ?_
      refine g_X8_10 (pc := 21) (v := .ref 1) rfl dX8_breaks_21 (c_0 _) rfl ?_
      refine k_X8_126 (pc := 24) (gx_X0_there _ hI) rfl (c_1 _) (by decide) (Nat.le_refl _) (Nat.le_refl _) (Nat.le_of_ble_eq_true rfl) dX8_breaks_24 (fun y117 w2 h => ?_)
      subst h
      refine st_7_2_i_i (pc := 27) dX8_breaks_27 ?_
      refine R_aload_n (pc := 28) dX8_breaks_28 rfl rfl ?_
      refine g_X8_62 (pc := 29) (v := .ref 133) rfl dX8_breaks_29 (c_0 _) (by show some (Value.ref σ.2.2.2.2.1) = _; rw [hl1]) ?_
      refine g_X8_300 (pc := 32) (v := .ref 137) rfl dX8_breaks_32 (c_133 _) rfl ?_
      refine R_iload_n (pc := 35) dX8_breaks_35 rfl rfl ?_
      have hx118 : vp_in a 8 := (vp_ti (by have q0 := e114; have q1 := ti_in h115; have q2 := ti_in (iv_13306 hI); have q3 := ti_in r113; have z0 : (-1 : Int32).toInt = -1 := (by decide); have z1 : (0 : Int32).toInt = 0 := (by decide); have z2 : (1 : Int32).toInt = 1 := (by decide); have z3 : (7 : Int32).toInt = 7 := (by decide); have z4 : (8 : Int32).toInt = 8 := (by decide); omega) (by have q0 := e114; have q1 := ti_in h115; have q2 := ti_in (iv_13306 hI); have q3 := ti_in r113; have z0 : (-1 : Int32).toInt = -1 := (by decide); have z1 : (0 : Int32).toInt = 0 := (by decide); have z2 : (1 : Int32).toInt = 1 := (by decide); have z3 : (7 : Int32).toInt = 7 := (by decide); have z4 : (8 : Int32).toInt = 8 := (by decide); omega))
      refine R_baload (pc := 36) dX8_breaks_36 (c_137 _) hx118 ?_
      refine st_7_3_i_i (pc := 37) dX8_breaks_37 ?_
      refine R_iload_n (pc := 38) dX8_breaks_38 rfl rfl ?_
      refine R_ifeq (pc := 39) 60 dX8_breaks_39 (by decide) (fun b39_119 => ?_) (fun b39_119 => ?_)
      · skip
        refine R_iconst (pc := 60) (v := 0) dX8_breaks_60 (by decide) ?_
        refine st_7_4_i_i (pc := 61) dX8_breaks_61 ?_
        refine R_iconst (pc := 63) (v := 0) dX8_breaks_63 (by decide) ?_
        refine st_7_5_i_i (pc := 64) dX8_breaks_64 ?_
        have HL66 : ∀ (q j66 : Nat) (g4_66 : Int32) (g6_66 : Option Value), j66 + q = 20 → 0 ≤ j66 → R G l yX8_breaks cX8_breaks 7 (some .int) 6 0 0 (QI (fun _ w2 => ∃ σ2, w2 = WW σ2 ∧ Inv σ2 ∧ Cor σ σ2)) 66 [(some (.ref 0)), (some (.int a)), (some (.int y117)), (some (.int (σ.2.2.1 137 (Int32.toNatClampNeg a)))), (some (.int g4_66)), (some (.int (nI j66))), g6_66] [] (WW σ) 0 0 := by
          intro q
          induction q with
          | zero =>
            intro j66 g4_66 g6_66 hj hs66
            obtain rfl : j66 = 20 := by omega
            refine R_iload (pc := 66) dX8_breaks_66 rfl ?_
            refine R_bipush (pc := 68) (v := 20) dX8_breaks_68 (by decide) ?_
            refine R_icge (pc := 70) 196 dX8_breaks_70 (by decide) (fun _ => ?_) (fun h => absurd (by decide) h)
            refine R_iload (pc := 196) dX8_breaks_196 rfl ?_
            exact R_iret (pc := 198) dX8_breaks_198 rfl rfl (Nat.zero_le _) (Nat.zero_le _) ⟨_, rfl, _, rfl, hI, (show Cor σ σ from Cor.rfl' σ)⟩
          | succ q ih66 =>
            intro j66 g4_66 g6_66 hj hs66
            have hrg66 : inR (nI j66) 0 19 := inR_ix hs66 (show j66 < 20 by omega) (by decide) (by decide) (by decide)
            have hlt66 : j66 < 20 := by omega
            refine R_iload (pc := 66) dX8_breaks_66 rfl ?_
            refine R_bipush (pc := 68) (v := 20) dX8_breaks_68 (by decide) ?_
            refine R_icge (pc := 70) 196 dX8_breaks_70 (by decide) (fun h => False.elim (by have q1 := ti_le h; have q2 := ti_in (show inR (nI j66) 0 19 from hrg66); have q3 := ti_in (show inR 20 20 20 from (inR_self _)); have z0 : (0 : Int32).toInt = 0 := (by decide);  have z1 : (19 : Int32).toInt = 19 := (by decide);  have z2 : (20 : Int32).toInt = 20 := (by decide); omega)) (fun _ => ?_)
            refine R_iload_n (pc := 73) dX8_breaks_73 rfl rfl ?_
            refine R_iload (pc := 74) dX8_breaks_74 rfl ?_
            refine k_X8_209 (pc := 76) (sp_X8_has _ _ _) rfl (by decide) (Nat.le_refl _) (Nat.le_refl _) (Nat.le_of_ble_eq_true rfl) dX8_breaks_76 (fun x w2 h => ?_)
            rcases h with ⟨rfl, ⟨-, rfl⟩ | ⟨-, rfl⟩⟩
            · skip
              refine R_ifeq (pc := 79) 190 dX8_breaks_79 (by decide) (fun h => absurd h (by decide)) (fun _ => ?_)
              refine R_aload_n (pc := 82) dX8_breaks_82 rfl rfl ?_
              refine g_X8_62 (pc := 83) (v := .ref 133) rfl dX8_breaks_83 (c_0 _) (by show some (Value.ref σ.2.2.2.2.1) = _; rw [hl1]) ?_
              refine R_iload_n (pc := 86) dX8_breaks_86 rfl rfl ?_
              refine R_aload_n (pc := 87) dX8_breaks_87 rfl rfl ?_
              refine g_X8_10 (pc := 88) (v := .ref 1) rfl dX8_breaks_88 (c_0 _) rfl ?_
              refine g_X8_172 (pc := 91) (v := .ref 3) rfl dX8_breaks_91 (c_1 _) rfl ?_
              refine R_iload (pc := 94) dX8_breaks_94 rfl ?_
              have hx123 : vp_in (nI j66) 20 := (vp_in_nI (by omega) (by decide))
              refine R_iaload (pc := 96) dX8_breaks_96 (c_3 _) hx123 ?_
              refine R_aload_n (pc := 97) dX8_breaks_97 rfl rfl ?_
              refine g_X8_10 (pc := 98) (v := .ref 1) rfl dX8_breaks_98 (c_0 _) rfl ?_
              refine g_X8_178 (pc := 101) (v := .ref 4) rfl dX8_breaks_101 (c_1 _) rfl ?_
              refine R_iload (pc := 104) dX8_breaks_104 rfl ?_
              have hx124 : vp_in (nI j66) 20 := (vp_in_nI (by omega) (by decide))
              refine R_iaload (pc := 106) dX8_breaks_106 (c_4 _) hx124 ?_
              refine k_X8_304 (pc := 107) (gx_X4_isFor_133 _ _ _ _ hI (show inR a 0 7 from of_ti (by have q0 := e114; have q1 := ti_in h115; have q2 := ti_eq b39_119; have q3 := ti_in (iv_13306 hI); have q4 := ti_in r113; have q5 := ti_in hrg66; have q6 := ti_in (iva_4 hI _ (lt_of_vp hx124)); have z0 : (-1 : Int32).toInt = -1 := (by decide); have z1 : (0 : Int32).toInt = 0 := (by decide); have z2 : (1 : Int32).toInt = 1 := (by decide); have z3 : (137 : Int32).toInt = 137 := (by decide); have z4 : (19 : Int32).toInt = 19 := (by decide); have z5 : (7 : Int32).toInt = 7 := (by decide); have z6 : (8 : Int32).toInt = 8 := (by decide); have z7 : (99 : Int32).toInt = 99 := (by decide); omega) (by have q0 := e114; have q1 := ti_in h115; have q2 := ti_eq b39_119; have q3 := ti_in (iv_13306 hI); have q4 := ti_in r113; have q5 := ti_in hrg66; have q6 := ti_in (iva_4 hI _ (lt_of_vp hx124)); have z0 : (-1 : Int32).toInt = -1 := (by decide); have z1 : (0 : Int32).toInt = 0 := (by decide); have z2 : (1 : Int32).toInt = 1 := (by decide); have z3 : (137 : Int32).toInt = 137 := (by decide); have z4 : (19 : Int32).toInt = 19 := (by decide); have z5 : (7 : Int32).toInt = 7 := (by decide); have z6 : (8 : Int32).toInt = 8 := (by decide); have z7 : (99 : Int32).toInt = 99 := (by decide); omega))) rfl (c_133 _) (by decide) (Nat.le_refl _) (Nat.le_refl _) (Nat.le_of_ble_eq_true rfl) dX8_breaks_107 (fun x w2 h => ?_)
              rcases h with ⟨rfl, rfl | rfl⟩
              · skip
                refine R_ifeq (pc := 110) 190 dX8_breaks_110 (by decide) (fun h => absurd h (by decide)) (fun _ => ?_)
                refine R_iload_n (pc := 113) dX8_breaks_113 rfl rfl ?_
                refine R_ifeq (pc := 114) 147 dX8_breaks_114 (by decide) (fun b114_127 => ?_) (fun b114_127 => ?_)
                · skip
                  refine R_aload_n (pc := 147) dX8_breaks_147 rfl rfl ?_
                  refine g_X8_10 (pc := 148) (v := .ref 1) rfl dX8_breaks_148 (c_0 _) rfl ?_
                  refine g_X8_316 (pc := 151) (v := .ref 5) rfl dX8_breaks_151 (c_1 _) rfl ?_
                  refine R_iload (pc := 154) dX8_breaks_154 rfl ?_
                  have hx128 : vp_in (nI j66) 20 := (vp_in_nI (by omega) (by decide))
                  refine R_iaload (pc := 156) dX8_breaks_156 (c_5 _) hx128 ?_
                  refine R_aload_n (pc := 157) dX8_breaks_157 rfl rfl ?_
                  refine g_X8_62 (pc := 158) (v := .ref 133) rfl dX8_breaks_158 (c_0 _) (by show some (Value.ref σ.2.2.2.2.1) = _; rw [hl1]) ?_
                  refine g_X8_307 (pc := 161) (v := .ref 138) rfl dX8_breaks_161 (c_133 _) rfl ?_
                  refine R_iload_n (pc := 164) dX8_breaks_164 rfl rfl ?_
                  have hx129 : vp_in a 8 := (vp_ti (by have q0 := e114; have q1 := ti_in h115; have q2 := ti_eq b39_119; have q3 := ti_eq b114_127; have q4 := ti_in (iv_13306 hI); have q5 := ti_in r113; have q6 := ti_in hrg66; have q7 := ti_in (iva_4 hI _ (lt_of_vp hx124)); have q8 := ti_in (iva_5 hI _ (lt_of_vp hx128)); have z0 : (-1 : Int32).toInt = -1 := (by decide); have z1 : (0 : Int32).toInt = 0 := (by decide); have z2 : (1 : Int32).toInt = 1 := (by decide); have z3 : (137 : Int32).toInt = 137 := (by decide); have z4 : (19 : Int32).toInt = 19 := (by decide); have z5 : (4 : Int32).toInt = 4 := (by decide); have z6 : (7 : Int32).toInt = 7 := (by decide); have z7 : (8 : Int32).toInt = 8 := (by decide); have z8 : (99 : Int32).toInt = 99 := (by decide); omega) (by have q0 := e114; have q1 := ti_in h115; have q2 := ti_eq b39_119; have q3 := ti_eq b114_127; have q4 := ti_in (iv_13306 hI); have q5 := ti_in r113; have q6 := ti_in hrg66; have q7 := ti_in (iva_4 hI _ (lt_of_vp hx124)); have q8 := ti_in (iva_5 hI _ (lt_of_vp hx128)); have z0 : (-1 : Int32).toInt = -1 := (by decide); have z1 : (0 : Int32).toInt = 0 := (by decide); have z2 : (1 : Int32).toInt = 1 := (by decide); have z3 : (137 : Int32).toInt = 137 := (by decide); have z4 : (19 : Int32).toInt = 19 := (by decide); have z5 : (4 : Int32).toInt = 4 := (by decide); have z6 : (7 : Int32).toInt = 7 := (by decide); have z7 : (8 : Int32).toInt = 8 := (by decide); have z8 : (99 : Int32).toInt = 99 := (by decide); omega))
                  refine R_iaload (pc := 165) dX8_breaks_165 (c_138 _) hx129 ?_
                  refine R_icne (pc := 166) 173 dX8_breaks_166 (by decide) (fun b166_130 => ?_) (fun b166_130 => ?_)
                  · skip
                    refine R_iconst (pc := 173) (v := 0) dX8_breaks_173 (by decide) ?_
                    refine st_7_6_i_i (pc := 174) dX8_breaks_174 ?_
                    refine R_iload (pc := 176) dX8_breaks_176 rfl ?_
                    refine R_ifne (pc := 178) 190 dX8_breaks_178 (by decide) (fun h => absurd (by decide) h) (fun _ => ?_)
                    refine R_iload (pc := 181) dX8_breaks_181 rfl ?_
                    refine R_iconst (pc := 183) (v := 1) dX8_breaks_183 (by decide) ?_
                    refine R_iload (pc := 184) dX8_breaks_184 rfl ?_
                    refine R_ishl (pc := 186) dX8_breaks_186 ?_
                    have r132 : inR (1 <<< ((nI j66) &&& 31)) 0 1048575 := shl20 hrg66
                    refine R_ior (pc := 187) dX8_breaks_187 ?_
                    refine st_7_4_i_i (pc := 188) dX8_breaks_188 ?_
                    refine inc_7_5_1_i (pc := 190) dX8_breaks_190 ?_
                    have r133 : inR ((nI j66) + 1) 1 20 := inR_add (show inR (nI j66) 0 19 from hrg66) (show inR 1 1 1 from (inR_self _)) (by decide) (by decide)
                    have e134 := ti_add (l := 1) (h := 20) (show inR (nI j66) 0 19 from hrg66) (show inR 1 1 1 from (inR_self _)) (by decide) (by decide)
                    refine R_goto (pc := 193) 66 dX8_breaks_193 (by decide) ?_
                    rw [nI_1]
                    exact ih66 (j66 + 1) _ _ (by omega) (by omega)
                  · skip
                    refine R_iconst (pc := 169) (v := 1) dX8_breaks_169 (by decide) ?_
                    refine R_goto (pc := 170) 174 dX8_breaks_170 (by decide) ?_
                    refine st_7_6_i_i (pc := 174) dX8_breaks_174 ?_
                    refine R_iload (pc := 176) dX8_breaks_176 rfl ?_
                    refine R_ifne (pc := 178) 190 dX8_breaks_178 (by decide) (fun _ => ?_) (fun h => absurd h (by decide))
                    refine inc_7_5_1_i (pc := 190) dX8_breaks_190 ?_
                    have r136 : inR ((nI j66) + 1) 1 20 := inR_add (show inR (nI j66) 0 19 from hrg66) (show inR 1 1 1 from (inR_self _)) (by decide) (by decide)
                    have e137 := ti_add (l := 1) (h := 20) (show inR (nI j66) 0 19 from hrg66) (show inR 1 1 1 from (inR_self _)) (by decide) (by decide)
                    refine R_goto (pc := 193) 66 dX8_breaks_193 (by decide) ?_
                    rw [nI_1]
                    exact ih66 (j66 + 1) _ _ (by omega) (by omega)
                · skip
                  refine R_aload_n (pc := 117) dX8_breaks_117 rfl rfl ?_
                  refine g_X8_37 (pc := 118) (v := .ref 58) rfl dX8_breaks_118 (c_0 _) rfl ?_
                  refine R_iload (pc := 121) dX8_breaks_121 rfl ?_
                  refine R_aload_n (pc := 123) dX8_breaks_123 rfl rfl ?_
                  refine g_X8_62 (pc := 124) (v := .ref 133) rfl dX8_breaks_124 (c_0 _) (by show some (Value.ref σ.2.2.2.2.1) = _; rw [hl1]) ?_
                  refine g_X8_307 (pc := 127) (v := .ref 138) rfl dX8_breaks_127 (c_133 _) rfl ?_
                  refine R_iload_n (pc := 130) dX8_breaks_130 rfl rfl ?_
                  have hx138 : vp_in a 8 := (vp_ti (by have q0 := e114; have q1 := ti_in h115; have q2 := ti_eq b39_119; have q3 := ti_ne b114_127; have q4 := ti_in (iv_13306 hI); have q5 := ti_in r113; have q6 := ti_in hrg66; have q7 := ti_in (iva_4 hI _ (lt_of_vp hx124)); have z0 : (-1 : Int32).toInt = -1 := (by decide); have z1 : (0 : Int32).toInt = 0 := (by decide); have z2 : (1 : Int32).toInt = 1 := (by decide); have z3 : (137 : Int32).toInt = 137 := (by decide); have z4 : (19 : Int32).toInt = 19 := (by decide); have z5 : (7 : Int32).toInt = 7 := (by decide); have z6 : (8 : Int32).toInt = 8 := (by decide); have z7 : (99 : Int32).toInt = 99 := (by decide); omega) (by have q0 := e114; have q1 := ti_in h115; have q2 := ti_eq b39_119; have q3 := ti_ne b114_127; have q4 := ti_in (iv_13306 hI); have q5 := ti_in r113; have q6 := ti_in hrg66; have q7 := ti_in (iva_4 hI _ (lt_of_vp hx124)); have z0 : (-1 : Int32).toInt = -1 := (by decide); have z1 : (0 : Int32).toInt = 0 := (by decide); have z2 : (1 : Int32).toInt = 1 := (by decide); have z3 : (137 : Int32).toInt = 137 := (by decide); have z4 : (19 : Int32).toInt = 19 := (by decide); have z5 : (7 : Int32).toInt = 7 := (by decide); have z6 : (8 : Int32).toInt = 8 := (by decide); have z7 : (99 : Int32).toInt = 99 := (by decide); omega))
                  refine R_iaload (pc := 131) dX8_breaks_131 (c_138 _) hx138 ?_
                  refine R_aload_n (pc := 132) dX8_breaks_132 rfl rfl ?_
                  refine g_X8_62 (pc := 133) (v := .ref 133) rfl dX8_breaks_133 (c_0 _) (by show some (Value.ref σ.2.2.2.2.1) = _; rw [hl1]) ?_
                  refine g_X8_310 (pc := 136) (v := .ref 139) rfl dX8_breaks_136 (c_133 _) rfl ?_
                  refine R_iload_n (pc := 139) dX8_breaks_139 rfl rfl ?_
                  have hx139 : vp_in a 8 := (vp_ti (by have q0 := e114; have q1 := ti_in h115; have q2 := ti_eq b39_119; have q3 := ti_ne b114_127; have q4 := ti_in (iv_13306 hI); have q5 := ti_in r113; have q6 := ti_in hrg66; have q7 := ti_in (iva_4 hI _ (lt_of_vp hx124)); have z0 : (-1 : Int32).toInt = -1 := (by decide); have z1 : (0 : Int32).toInt = 0 := (by decide); have z2 : (1 : Int32).toInt = 1 := (by decide); have z3 : (137 : Int32).toInt = 137 := (by decide); have z4 : (19 : Int32).toInt = 19 := (by decide); have z5 : (7 : Int32).toInt = 7 := (by decide); have z6 : (8 : Int32).toInt = 8 := (by decide); have z7 : (99 : Int32).toInt = 99 := (by decide); omega) (by have q0 := e114; have q1 := ti_in h115; have q2 := ti_eq b39_119; have q3 := ti_ne b114_127; have q4 := ti_in (iv_13306 hI); have q5 := ti_in r113; have q6 := ti_in hrg66; have q7 := ti_in (iva_4 hI _ (lt_of_vp hx124)); have z0 : (-1 : Int32).toInt = -1 := (by decide); have z1 : (0 : Int32).toInt = 0 := (by decide); have z2 : (1 : Int32).toInt = 1 := (by decide); have z3 : (137 : Int32).toInt = 137 := (by decide); have z4 : (19 : Int32).toInt = 19 := (by decide); have z5 : (7 : Int32).toInt = 7 := (by decide); have z6 : (8 : Int32).toInt = 8 := (by decide); have z7 : (99 : Int32).toInt = 99 := (by decide); omega))
                  refine R_iaload (pc := 140) dX8_breaks_140 (c_139 _) hx139 ?_
                  refine k_X8_313 (pc := 141) (gx_X1_canBePublished _ _ _ _ hrg66) rfl (c_58 _) (by decide) (Nat.le_refl _) (Nat.le_refl _) (Nat.le_of_ble_eq_true rfl) dX8_breaks_141 (fun x w2 h => ?_)
                  rcases h with ⟨rfl, rfl | rfl⟩
                  · skip
                    refine R_goto (pc := 144) 174 dX8_breaks_144 (by decide) ?_
                    refine st_7_6_i_i (pc := 174) dX8_breaks_174 ?_
                    refine R_iload (pc := 176) dX8_breaks_176 rfl ?_
                    refine R_ifne (pc := 178) 190 dX8_breaks_178 (by decide) (fun _ => ?_) (fun h => absurd h (by decide))
                    refine inc_7_5_1_i (pc := 190) dX8_breaks_190 ?_
                    have r142 : inR ((nI j66) + 1) 1 20 := inR_add (show inR (nI j66) 0 19 from hrg66) (show inR 1 1 1 from (inR_self _)) (by decide) (by decide)
                    have e143 := ti_add (l := 1) (h := 20) (show inR (nI j66) 0 19 from hrg66) (show inR 1 1 1 from (inR_self _)) (by decide) (by decide)
                    refine R_goto (pc := 193) 66 dX8_breaks_193 (by decide) ?_
                    rw [nI_1]
                    exact ih66 (j66 + 1) _ _ (by omega) (by omega)
                  · skip
                    refine R_goto (pc := 144) 174 dX8_breaks_144 (by decide) ?_
                    refine st_7_6_i_i (pc := 174) dX8_breaks_174 ?_
                    refine R_iload (pc := 176) dX8_breaks_176 rfl ?_
                    refine R_ifne (pc := 178) 190 dX8_breaks_178 (by decide) (fun h => absurd (by decide) h) (fun _ => ?_)
                    refine R_iload (pc := 181) dX8_breaks_181 rfl ?_
                    refine R_iconst (pc := 183) (v := 1) dX8_breaks_183 (by decide) ?_
                    refine R_iload (pc := 184) dX8_breaks_184 rfl ?_
                    refine R_ishl (pc := 186) dX8_breaks_186 ?_
                    have r145 : inR (1 <<< ((nI j66) &&& 31)) 0 1048575 := shl20 hrg66
                    refine R_ior (pc := 187) dX8_breaks_187 ?_
                    refine st_7_4_i_i (pc := 188) dX8_breaks_188 ?_
                    refine inc_7_5_1_i (pc := 190) dX8_breaks_190 ?_
                    have r146 : inR ((nI j66) + 1) 1 20 := inR_add (show inR (nI j66) 0 19 from hrg66) (show inR 1 1 1 from (inR_self _)) (by decide) (by decide)
                    have e147 := ti_add (l := 1) (h := 20) (show inR (nI j66) 0 19 from hrg66) (show inR 1 1 1 from (inR_self _)) (by decide) (by decide)
                    refine R_goto (pc := 193) 66 dX8_breaks_193 (by decide) ?_
                    rw [nI_1]
                    exact ih66 (j66 + 1) _ _ (by omega) (by omega)
              · skip
                refine R_ifeq (pc := 110) 190 dX8_breaks_110 (by decide) (fun _ => ?_) (fun h => absurd (by decide) h)
                refine inc_7_5_1_i (pc := 190) dX8_breaks_190 ?_
                have r149 : inR ((nI j66) + 1) 1 20 := inR_add (show inR (nI j66) 0 19 from hrg66) (show inR 1 1 1 from (inR_self _)) (by decide) (by decide)
                have e150 := ti_add (l := 1) (h := 20) (show inR (nI j66) 0 19 from hrg66) (show inR 1 1 1 from (inR_self _)) (by decide) (by decide)
                refine R_goto (pc := 193) 66 dX8_breaks_193 (by decide) ?_
                rw [nI_1]
                exact ih66 (j66 + 1) _ _ (by omega) (by omega)
            · skip
              refine R_ifeq (pc := 79) 190 dX8_breaks_79 (by decide) (fun _ => ?_) (fun h => absurd (by decide) h)
              refine inc_7_5_1_i (pc := 190) dX8_breaks_190 ?_
              have r152 : inR ((nI j66) + 1) 1 20 := inR_add (show inR (nI j66) 0 19 from hrg66) (show inR 1 1 1 from (inR_self _)) (by decide) (by decide)
              have e153 := ti_add (l := 1) (h := 20) (show inR (nI j66) 0 19 from hrg66) (show inR 1 1 1 from (inR_self _)) (by decide) (by decide)
              refine R_goto (pc := 193) 66 dX8_breaks_193 (by decide) ?_
              rw [nI_1]
              exact ih66 (j66 + 1) _ _ (by omega) (by omega)
        exact HL66 20 0 _ _ (by omega) (by omega)
      · skip
        refine R_aload_n (pc := 42) dX8_breaks_42 rfl rfl ?_
        refine g_X8_37 (pc := 43) (v := .ref 58) rfl dX8_breaks_43 (c_0 _) rfl ?_
        refine R_iload_n (pc := 46) dX8_breaks_46 rfl rfl ?_
        refine R_aload_n (pc := 47) dX8_breaks_47 rfl rfl ?_
        refine g_X8_58 (pc := 48) (v := .ref 119) rfl dX8_breaks_48 (c_0 _) rfl ?_
        refine k_X8_242 (pc := 51) (gx_X1_settle_119 _ _ hI) rfl (c_58 _) (by decide) (Nat.le_refl _) (Nat.le_refl _) (Nat.le_of_ble_eq_true rfl) dX8_breaks_51 (fun y154 w2 h => ?_)
        obtain ⟨σx156, rfl, hV155, hW157⟩ := h
        have hW158 := Cor.trans (show Cor σ σ from Cor.rfl' σ) hW157
        refine R_ifne (pc := 54) 60 dX8_breaks_54 (by decide) (fun b54_159 => ?_) (fun b54_159 => ?_)
        · skip
          refine R_iconst (pc := 60) (v := 0) dX8_breaks_60 (by decide) ?_
          refine st_7_4_i_i (pc := 61) dX8_breaks_61 ?_
          refine R_iconst (pc := 63) (v := 0) dX8_breaks_63 (by decide) ?_
          refine st_7_5_i_i (pc := 64) dX8_breaks_64 ?_
          have HL66 : ∀ (q j66 : Nat) (g4_66 : Int32) (g6_66 : Option Value), j66 + q = 20 → 0 ≤ j66 → R G l yX8_breaks cX8_breaks 7 (some .int) 6 0 0 (QI (fun _ w2 => ∃ σ2, w2 = WW σ2 ∧ Inv σ2 ∧ Cor σ σ2)) 66 [(some (.ref 0)), (some (.int a)), (some (.int y117)), (some (.int (σ.2.2.1 137 (Int32.toNatClampNeg a)))), (some (.int g4_66)), (some (.int (nI j66))), g6_66] [] (WW σx156) 0 0 := by
            intro q
            induction q with
            | zero =>
              intro j66 g4_66 g6_66 hj hs66
              obtain rfl : j66 = 20 := by omega
              refine R_iload (pc := 66) dX8_breaks_66 rfl ?_
              refine R_bipush (pc := 68) (v := 20) dX8_breaks_68 (by decide) ?_
              refine R_icge (pc := 70) 196 dX8_breaks_70 (by decide) (fun _ => ?_) (fun h => absurd (by decide) h)
              refine R_iload (pc := 196) dX8_breaks_196 rfl ?_
              exact R_iret (pc := 198) dX8_breaks_198 rfl rfl (Nat.zero_le _) (Nat.zero_le _) ⟨_, rfl, _, rfl, hV155, hW158⟩
            | succ q ih66 =>
              intro j66 g4_66 g6_66 hj hs66
              have hrg66 : inR (nI j66) 0 19 := inR_ix hs66 (show j66 < 20 by omega) (by decide) (by decide) (by decide)
              have hlt66 : j66 < 20 := by omega
              refine R_iload (pc := 66) dX8_breaks_66 rfl ?_
              refine R_bipush (pc := 68) (v := 20) dX8_breaks_68 (by decide) ?_
              refine R_icge (pc := 70) 196 dX8_breaks_70 (by decide) (fun h => False.elim (by have q1 := ti_le h; have q2 := ti_in (show inR (nI j66) 0 19 from hrg66); have q3 := ti_in (show inR 20 20 20 from (inR_self _)); have z0 : (0 : Int32).toInt = 0 := (by decide);  have z1 : (19 : Int32).toInt = 19 := (by decide);  have z2 : (20 : Int32).toInt = 20 := (by decide); omega)) (fun _ => ?_)
              refine R_iload_n (pc := 73) dX8_breaks_73 rfl rfl ?_
              refine R_iload (pc := 74) dX8_breaks_74 rfl ?_
              refine k_X8_209 (pc := 76) (sp_X8_has _ _ _) rfl (by decide) (Nat.le_refl _) (Nat.le_refl _) (Nat.le_of_ble_eq_true rfl) dX8_breaks_76 (fun x w2 h => ?_)
              rcases h with ⟨rfl, ⟨-, rfl⟩ | ⟨-, rfl⟩⟩
              · skip
                refine R_ifeq (pc := 79) 190 dX8_breaks_79 (by decide) (fun h => absurd h (by decide)) (fun _ => ?_)
                refine R_aload_n (pc := 82) dX8_breaks_82 rfl rfl ?_
                rcases iv_ln hV155 with ⟨hl163, hl163d⟩ | ⟨hl163, hl163d⟩
                · skip
                  refine g_X8_62 (pc := 83) (v := .ref 126) rfl dX8_breaks_83 (c_0 _) (by show some (Value.ref σx156.2.2.2.2.1) = _; rw [hl163]) ?_
                  refine R_iload_n (pc := 86) dX8_breaks_86 rfl rfl ?_
                  refine R_aload_n (pc := 87) dX8_breaks_87 rfl rfl ?_
                  refine g_X8_10 (pc := 88) (v := .ref 1) rfl dX8_breaks_88 (c_0 _) rfl ?_
                  refine g_X8_172 (pc := 91) (v := .ref 3) rfl dX8_breaks_91 (c_1 _) rfl ?_
                  refine R_iload (pc := 94) dX8_breaks_94 rfl ?_
                  have hx164 : vp_in (nI j66) 20 := (vp_in_nI (by omega) (by decide))
                  refine R_iaload (pc := 96) dX8_breaks_96 (c_3 _) hx164 ?_
                  refine R_aload_n (pc := 97) dX8_breaks_97 rfl rfl ?_
                  refine g_X8_10 (pc := 98) (v := .ref 1) rfl dX8_breaks_98 (c_0 _) rfl ?_
                  refine g_X8_178 (pc := 101) (v := .ref 4) rfl dX8_breaks_101 (c_1 _) rfl ?_
                  refine R_iload (pc := 104) dX8_breaks_104 rfl ?_
                  have hx165 : vp_in (nI j66) 20 := (vp_in_nI (by omega) (by decide))
                  refine R_iaload (pc := 106) dX8_breaks_106 (c_4 _) hx165 ?_
                  refine k_X8_304 (pc := 107) (gx_X4_isFor_126 _ _ _ _ hV155 (show inR a 0 7 from of_ti (by have q0 := e114; have q1 := ti_in h115; have q2 := ti_ne b39_119; have q3 := ti_ne b54_159; have q4 := ti_in (iv_13306 hI); have q5 := ti_in r113; have q6 := ti_in hrg66; have q7 := ti_in (iva_4 hV155 _ (lt_of_vp hx165)); have z0 : (-1 : Int32).toInt = -1 := (by decide); have z1 : (0 : Int32).toInt = 0 := (by decide); have z2 : (1 : Int32).toInt = 1 := (by decide); have z3 : (137 : Int32).toInt = 137 := (by decide); have z4 : (19 : Int32).toInt = 19 := (by decide); have z5 : (7 : Int32).toInt = 7 := (by decide); have z6 : (8 : Int32).toInt = 8 := (by decide); have z7 : (99 : Int32).toInt = 99 := (by decide); omega) (by have q0 := e114; have q1 := ti_in h115; have q2 := ti_ne b39_119; have q3 := ti_ne b54_159; have q4 := ti_in (iv_13306 hI); have q5 := ti_in r113; have q6 := ti_in hrg66; have q7 := ti_in (iva_4 hV155 _ (lt_of_vp hx165)); have z0 : (-1 : Int32).toInt = -1 := (by decide); have z1 : (0 : Int32).toInt = 0 := (by decide); have z2 : (1 : Int32).toInt = 1 := (by decide); have z3 : (137 : Int32).toInt = 137 := (by decide); have z4 : (19 : Int32).toInt = 19 := (by decide); have z5 : (7 : Int32).toInt = 7 := (by decide); have z6 : (8 : Int32).toInt = 8 := (by decide); have z7 : (99 : Int32).toInt = 99 := (by decide); omega))) rfl (c_126 _) (by decide) (Nat.le_refl _) (Nat.le_refl _) (Nat.le_of_ble_eq_true rfl) dX8_breaks_107 (fun x w2 h => ?_)
                  rcases h with ⟨rfl, rfl | rfl⟩
                  · skip
                    refine R_ifeq (pc := 110) 190 dX8_breaks_110 (by decide) (fun h => absurd h (by decide)) (fun _ => ?_)
                    refine R_iload_n (pc := 113) dX8_breaks_113 rfl rfl ?_
                    refine R_ifeq (pc := 114) 147 dX8_breaks_114 (by decide) (fun b114_168 => ?_) (fun b114_168 => ?_)
                    · skip
                      refine R_aload_n (pc := 147) dX8_breaks_147 rfl rfl ?_
                      refine g_X8_10 (pc := 148) (v := .ref 1) rfl dX8_breaks_148 (c_0 _) rfl ?_
                      refine g_X8_316 (pc := 151) (v := .ref 5) rfl dX8_breaks_151 (c_1 _) rfl ?_
                      refine R_iload (pc := 154) dX8_breaks_154 rfl ?_
                      have hx169 : vp_in (nI j66) 20 := (vp_in_nI (by omega) (by decide))
                      refine R_iaload (pc := 156) dX8_breaks_156 (c_5 _) hx169 ?_
                      refine R_aload_n (pc := 157) dX8_breaks_157 rfl rfl ?_
                      refine g_X8_62 (pc := 158) (v := .ref 126) rfl dX8_breaks_158 (c_0 _) (by show some (Value.ref σx156.2.2.2.2.1) = _; rw [hl163]) ?_
                      refine g_X8_307 (pc := 161) (v := .ref 131) rfl dX8_breaks_161 (c_126 _) rfl ?_
                      refine R_iload_n (pc := 164) dX8_breaks_164 rfl rfl ?_
                      have hx170 : vp_in a 8 := (vp_ti (by have q0 := e114; have q1 := ti_in h115; have q2 := ti_ne b39_119; have q3 := ti_ne b54_159; have q4 := ti_eq b114_168; have q5 := ti_in (iv_13306 hI); have q6 := ti_in r113; have q7 := ti_in hrg66; have q8 := ti_in (iva_4 hV155 _ (lt_of_vp hx165)); have q9 := ti_in (iva_5 hV155 _ (lt_of_vp hx169)); have z0 : (-1 : Int32).toInt = -1 := (by decide); have z1 : (0 : Int32).toInt = 0 := (by decide); have z2 : (1 : Int32).toInt = 1 := (by decide); have z3 : (137 : Int32).toInt = 137 := (by decide); have z4 : (19 : Int32).toInt = 19 := (by decide); have z5 : (4 : Int32).toInt = 4 := (by decide); have z6 : (7 : Int32).toInt = 7 := (by decide); have z7 : (8 : Int32).toInt = 8 := (by decide); have z8 : (99 : Int32).toInt = 99 := (by decide); omega) (by have q0 := e114; have q1 := ti_in h115; have q2 := ti_ne b39_119; have q3 := ti_ne b54_159; have q4 := ti_eq b114_168; have q5 := ti_in (iv_13306 hI); have q6 := ti_in r113; have q7 := ti_in hrg66; have q8 := ti_in (iva_4 hV155 _ (lt_of_vp hx165)); have q9 := ti_in (iva_5 hV155 _ (lt_of_vp hx169)); have z0 : (-1 : Int32).toInt = -1 := (by decide); have z1 : (0 : Int32).toInt = 0 := (by decide); have z2 : (1 : Int32).toInt = 1 := (by decide); have z3 : (137 : Int32).toInt = 137 := (by decide); have z4 : (19 : Int32).toInt = 19 := (by decide); have z5 : (4 : Int32).toInt = 4 := (by decide); have z6 : (7 : Int32).toInt = 7 := (by decide); have z7 : (8 : Int32).toInt = 8 := (by decide); have z8 : (99 : Int32).toInt = 99 := (by decide); omega))
                      refine R_iaload (pc := 165) dX8_breaks_165 (c_131 _) hx170 ?_
                      refine R_icne (pc := 166) 173 dX8_breaks_166 (by decide) (fun b166_171 => ?_) (fun b166_171 => ?_)
                      · skip
                        refine R_iconst (pc := 173) (v := 0) dX8_breaks_173 (by decide) ?_
                        refine st_7_6_i_i (pc := 174) dX8_breaks_174 ?_
                        refine R_iload (pc := 176) dX8_breaks_176 rfl ?_
                        refine R_ifne (pc := 178) 190 dX8_breaks_178 (by decide) (fun h => absurd (by decide) h) (fun _ => ?_)
                        refine R_iload (pc := 181) dX8_breaks_181 rfl ?_
                        refine R_iconst (pc := 183) (v := 1) dX8_breaks_183 (by decide) ?_
                        refine R_iload (pc := 184) dX8_breaks_184 rfl ?_
                        refine R_ishl (pc := 186) dX8_breaks_186 ?_
                        have r173 : inR (1 <<< ((nI j66) &&& 31)) 0 1048575 := shl20 hrg66
                        refine R_ior (pc := 187) dX8_breaks_187 ?_
                        refine st_7_4_i_i (pc := 188) dX8_breaks_188 ?_
                        refine inc_7_5_1_i (pc := 190) dX8_breaks_190 ?_
                        have r174 : inR ((nI j66) + 1) 1 20 := inR_add (show inR (nI j66) 0 19 from hrg66) (show inR 1 1 1 from (inR_self _)) (by decide) (by decide)
                        have e175 := ti_add (l := 1) (h := 20) (show inR (nI j66) 0 19 from hrg66) (show inR 1 1 1 from (inR_self _)) (by decide) (by decide)
                        refine R_goto (pc := 193) 66 dX8_breaks_193 (by decide) ?_
                        rw [nI_1]
                        exact ih66 (j66 + 1) _ _ (by omega) (by omega)
                      · skip
                        refine R_iconst (pc := 169) (v := 1) dX8_breaks_169 (by decide) ?_
                        refine R_goto (pc := 170) 174 dX8_breaks_170 (by decide) ?_
                        refine st_7_6_i_i (pc := 174) dX8_breaks_174 ?_
                        refine R_iload (pc := 176) dX8_breaks_176 rfl ?_
                        refine R_ifne (pc := 178) 190 dX8_breaks_178 (by decide) (fun _ => ?_) (fun h => absurd h (by decide))
                        refine inc_7_5_1_i (pc := 190) dX8_breaks_190 ?_
                        have r177 : inR ((nI j66) + 1) 1 20 := inR_add (show inR (nI j66) 0 19 from hrg66) (show inR 1 1 1 from (inR_self _)) (by decide) (by decide)
                        have e178 := ti_add (l := 1) (h := 20) (show inR (nI j66) 0 19 from hrg66) (show inR 1 1 1 from (inR_self _)) (by decide) (by decide)
                        refine R_goto (pc := 193) 66 dX8_breaks_193 (by decide) ?_
                        rw [nI_1]
                        exact ih66 (j66 + 1) _ _ (by omega) (by omega)
                    · skip
                      refine R_aload_n (pc := 117) dX8_breaks_117 rfl rfl ?_
                      refine g_X8_37 (pc := 118) (v := .ref 58) rfl dX8_breaks_118 (c_0 _) rfl ?_
                      refine R_iload (pc := 121) dX8_breaks_121 rfl ?_
                      refine R_aload_n (pc := 123) dX8_breaks_123 rfl rfl ?_
                      refine g_X8_62 (pc := 124) (v := .ref 126) rfl dX8_breaks_124 (c_0 _) (by show some (Value.ref σx156.2.2.2.2.1) = _; rw [hl163]) ?_
                      refine g_X8_307 (pc := 127) (v := .ref 131) rfl dX8_breaks_127 (c_126 _) rfl ?_
                      refine R_iload_n (pc := 130) dX8_breaks_130 rfl rfl ?_
                      have hx179 : vp_in a 8 := (vp_ti (by have q0 := e114; have q1 := ti_in h115; have q2 := ti_ne b39_119; have q3 := ti_ne b54_159; have q4 := ti_ne b114_168; have q5 := ti_in (iv_13306 hI); have q6 := ti_in r113; have q7 := ti_in hrg66; have q8 := ti_in (iva_4 hV155 _ (lt_of_vp hx165)); have z0 : (-1 : Int32).toInt = -1 := (by decide); have z1 : (0 : Int32).toInt = 0 := (by decide); have z2 : (1 : Int32).toInt = 1 := (by decide); have z3 : (137 : Int32).toInt = 137 := (by decide); have z4 : (19 : Int32).toInt = 19 := (by decide); have z5 : (7 : Int32).toInt = 7 := (by decide); have z6 : (8 : Int32).toInt = 8 := (by decide); have z7 : (99 : Int32).toInt = 99 := (by decide); omega) (by have q0 := e114; have q1 := ti_in h115; have q2 := ti_ne b39_119; have q3 := ti_ne b54_159; have q4 := ti_ne b114_168; have q5 := ti_in (iv_13306 hI); have q6 := ti_in r113; have q7 := ti_in hrg66; have q8 := ti_in (iva_4 hV155 _ (lt_of_vp hx165)); have z0 : (-1 : Int32).toInt = -1 := (by decide); have z1 : (0 : Int32).toInt = 0 := (by decide); have z2 : (1 : Int32).toInt = 1 := (by decide); have z3 : (137 : Int32).toInt = 137 := (by decide); have z4 : (19 : Int32).toInt = 19 := (by decide); have z5 : (7 : Int32).toInt = 7 := (by decide); have z6 : (8 : Int32).toInt = 8 := (by decide); have z7 : (99 : Int32).toInt = 99 := (by decide); omega))
                      refine R_iaload (pc := 131) dX8_breaks_131 (c_131 _) hx179 ?_
                      refine R_aload_n (pc := 132) dX8_breaks_132 rfl rfl ?_
                      refine g_X8_62 (pc := 133) (v := .ref 126) rfl dX8_breaks_133 (c_0 _) (by show some (Value.ref σx156.2.2.2.2.1) = _; rw [hl163]) ?_
                      refine g_X8_310 (pc := 136) (v := .ref 132) rfl dX8_breaks_136 (c_126 _) rfl ?_
                      refine R_iload_n (pc := 139) dX8_breaks_139 rfl rfl ?_
                      have hx180 : vp_in a 8 := (vp_ti (by have q0 := e114; have q1 := ti_in h115; have q2 := ti_ne b39_119; have q3 := ti_ne b54_159; have q4 := ti_ne b114_168; have q5 := ti_in (iv_13306 hI); have q6 := ti_in r113; have q7 := ti_in hrg66; have q8 := ti_in (iva_4 hV155 _ (lt_of_vp hx165)); have z0 : (-1 : Int32).toInt = -1 := (by decide); have z1 : (0 : Int32).toInt = 0 := (by decide); have z2 : (1 : Int32).toInt = 1 := (by decide); have z3 : (137 : Int32).toInt = 137 := (by decide); have z4 : (19 : Int32).toInt = 19 := (by decide); have z5 : (7 : Int32).toInt = 7 := (by decide); have z6 : (8 : Int32).toInt = 8 := (by decide); have z7 : (99 : Int32).toInt = 99 := (by decide); omega) (by have q0 := e114; have q1 := ti_in h115; have q2 := ti_ne b39_119; have q3 := ti_ne b54_159; have q4 := ti_ne b114_168; have q5 := ti_in (iv_13306 hI); have q6 := ti_in r113; have q7 := ti_in hrg66; have q8 := ti_in (iva_4 hV155 _ (lt_of_vp hx165)); have z0 : (-1 : Int32).toInt = -1 := (by decide); have z1 : (0 : Int32).toInt = 0 := (by decide); have z2 : (1 : Int32).toInt = 1 := (by decide); have z3 : (137 : Int32).toInt = 137 := (by decide); have z4 : (19 : Int32).toInt = 19 := (by decide); have z5 : (7 : Int32).toInt = 7 := (by decide); have z6 : (8 : Int32).toInt = 8 := (by decide); have z7 : (99 : Int32).toInt = 99 := (by decide); omega))
                      refine R_iaload (pc := 140) dX8_breaks_140 (c_132 _) hx180 ?_
                      refine k_X8_313 (pc := 141) (gx_X1_canBePublished _ _ _ _ hrg66) rfl (c_58 _) (by decide) (Nat.le_refl _) (Nat.le_refl _) (Nat.le_of_ble_eq_true rfl) dX8_breaks_141 (fun x w2 h => ?_)
                      rcases h with ⟨rfl, rfl | rfl⟩
                      · skip
                        refine R_goto (pc := 144) 174 dX8_breaks_144 (by decide) ?_
                        refine st_7_6_i_i (pc := 174) dX8_breaks_174 ?_
                        refine R_iload (pc := 176) dX8_breaks_176 rfl ?_
                        refine R_ifne (pc := 178) 190 dX8_breaks_178 (by decide) (fun _ => ?_) (fun h => absurd h (by decide))
                        refine inc_7_5_1_i (pc := 190) dX8_breaks_190 ?_
                        have r183 : inR ((nI j66) + 1) 1 20 := inR_add (show inR (nI j66) 0 19 from hrg66) (show inR 1 1 1 from (inR_self _)) (by decide) (by decide)
                        have e184 := ti_add (l := 1) (h := 20) (show inR (nI j66) 0 19 from hrg66) (show inR 1 1 1 from (inR_self _)) (by decide) (by decide)
                        refine R_goto (pc := 193) 66 dX8_breaks_193 (by decide) ?_
                        rw [nI_1]
                        exact ih66 (j66 + 1) _ _ (by omega) (by omega)
                      · skip
                        refine R_goto (pc := 144) 174 dX8_breaks_144 (by decide) ?_
                        refine st_7_6_i_i (pc := 174) dX8_breaks_174 ?_
                        refine R_iload (pc := 176) dX8_breaks_176 rfl ?_
                        refine R_ifne (pc := 178) 190 dX8_breaks_178 (by decide) (fun h => absurd (by decide) h) (fun _ => ?_)
                        refine R_iload (pc := 181) dX8_breaks_181 rfl ?_
                        refine R_iconst (pc := 183) (v := 1) dX8_breaks_183 (by decide) ?_
                        refine R_iload (pc := 184) dX8_breaks_184 rfl ?_
                        refine R_ishl (pc := 186) dX8_breaks_186 ?_
                        have r186 : inR (1 <<< ((nI j66) &&& 31)) 0 1048575 := shl20 hrg66
                        refine R_ior (pc := 187) dX8_breaks_187 ?_
                        refine st_7_4_i_i (pc := 188) dX8_breaks_188 ?_
                        refine inc_7_5_1_i (pc := 190) dX8_breaks_190 ?_
                        have r187 : inR ((nI j66) + 1) 1 20 := inR_add (show inR (nI j66) 0 19 from hrg66) (show inR 1 1 1 from (inR_self _)) (by decide) (by decide)
                        have e188 := ti_add (l := 1) (h := 20) (show inR (nI j66) 0 19 from hrg66) (show inR 1 1 1 from (inR_self _)) (by decide) (by decide)
                        refine R_goto (pc := 193) 66 dX8_breaks_193 (by decide) ?_
                        rw [nI_1]
                        exact ih66 (j66 + 1) _ _ (by omega) (by omega)
                  · skip
                    refine R_ifeq (pc := 110) 190 dX8_breaks_110 (by decide) (fun _ => ?_) (fun h => absurd (by decide) h)
                    refine inc_7_5_1_i (pc := 190) dX8_breaks_190 ?_
                    have r190 : inR ((nI j66) + 1) 1 20 := inR_add (show inR (nI j66) 0 19 from hrg66) (show inR 1 1 1 from (inR_self _)) (by decide) (by decide)
                    have e191 := ti_add (l := 1) (h := 20) (show inR (nI j66) 0 19 from hrg66) (show inR 1 1 1 from (inR_self _)) (by decide) (by decide)
                    refine R_goto (pc := 193) 66 dX8_breaks_193 (by decide) ?_
                    rw [nI_1]
                    exact ih66 (j66 + 1) _ _ (by omega) (by omega)
                · skip
                  refine g_X8_62 (pc := 83) (v := .ref 133) rfl dX8_breaks_83 (c_0 _) (by show some (Value.ref σx156.2.2.2.2.1) = _; rw [hl163]) ?_
                  refine R_iload_n (pc := 86) dX8_breaks_86 rfl rfl ?_
                  refine R_aload_n (pc := 87) dX8_breaks_87 rfl rfl ?_
                  refine g_X8_10 (pc := 88) (v := .ref 1) rfl dX8_breaks_88 (c_0 _) rfl ?_
                  refine g_X8_172 (pc := 91) (v := .ref 3) rfl dX8_breaks_91 (c_1 _) rfl ?_
                  refine R_iload (pc := 94) dX8_breaks_94 rfl ?_
                  have hx192 : vp_in (nI j66) 20 := (vp_in_nI (by omega) (by decide))
                  refine R_iaload (pc := 96) dX8_breaks_96 (c_3 _) hx192 ?_
                  refine R_aload_n (pc := 97) dX8_breaks_97 rfl rfl ?_
                  refine g_X8_10 (pc := 98) (v := .ref 1) rfl dX8_breaks_98 (c_0 _) rfl ?_
                  refine g_X8_178 (pc := 101) (v := .ref 4) rfl dX8_breaks_101 (c_1 _) rfl ?_
                  refine R_iload (pc := 104) dX8_breaks_104 rfl ?_
                  have hx193 : vp_in (nI j66) 20 := (vp_in_nI (by omega) (by decide))
                  refine R_iaload (pc := 106) dX8_breaks_106 (c_4 _) hx193 ?_
                  refine k_X8_304 (pc := 107) (gx_X4_isFor_133 _ _ _ _ hV155 (show inR a 0 7 from of_ti (by have q0 := e114; have q1 := ti_in h115; have q2 := ti_ne b39_119; have q3 := ti_ne b54_159; have q4 := ti_in (iv_13306 hI); have q5 := ti_in r113; have q6 := ti_in hrg66; have q7 := ti_in (iva_4 hV155 _ (lt_of_vp hx193)); have z0 : (-1 : Int32).toInt = -1 := (by decide); have z1 : (0 : Int32).toInt = 0 := (by decide); have z2 : (1 : Int32).toInt = 1 := (by decide); have z3 : (137 : Int32).toInt = 137 := (by decide); have z4 : (19 : Int32).toInt = 19 := (by decide); have z5 : (7 : Int32).toInt = 7 := (by decide); have z6 : (8 : Int32).toInt = 8 := (by decide); have z7 : (99 : Int32).toInt = 99 := (by decide); omega) (by have q0 := e114; have q1 := ti_in h115; have q2 := ti_ne b39_119; have q3 := ti_ne b54_159; have q4 := ti_in (iv_13306 hI); have q5 := ti_in r113; have q6 := ti_in hrg66; have q7 := ti_in (iva_4 hV155 _ (lt_of_vp hx193)); have z0 : (-1 : Int32).toInt = -1 := (by decide); have z1 : (0 : Int32).toInt = 0 := (by decide); have z2 : (1 : Int32).toInt = 1 := (by decide); have z3 : (137 : Int32).toInt = 137 := (by decide); have z4 : (19 : Int32).toInt = 19 := (by decide); have z5 : (7 : Int32).toInt = 7 := (by decide); have z6 : (8 : Int32).toInt = 8 := (by decide); have z7 : (99 : Int32).toInt = 99 := (by decide); omega))) rfl (c_133 _) (by decide) (Nat.le_refl _) (Nat.le_refl _) (Nat.le_of_ble_eq_true rfl) dX8_breaks_107 (fun x w2 h => ?_)
                  rcases h with ⟨rfl, rfl | rfl⟩
                  · skip
                    refine R_ifeq (pc := 110) 190 dX8_breaks_110 (by decide) (fun h => absurd h (by decide)) (fun _ => ?_)
                    refine R_iload_n (pc := 113) dX8_breaks_113 rfl rfl ?_
                    refine R_ifeq (pc := 114) 147 dX8_breaks_114 (by decide) (fun b114_196 => ?_) (fun b114_196 => ?_)
                    · skip
                      refine R_aload_n (pc := 147) dX8_breaks_147 rfl rfl ?_
                      refine g_X8_10 (pc := 148) (v := .ref 1) rfl dX8_breaks_148 (c_0 _) rfl ?_
                      refine g_X8_316 (pc := 151) (v := .ref 5) rfl dX8_breaks_151 (c_1 _) rfl ?_
                      refine R_iload (pc := 154) dX8_breaks_154 rfl ?_
                      have hx197 : vp_in (nI j66) 20 := (vp_in_nI (by omega) (by decide))
                      refine R_iaload (pc := 156) dX8_breaks_156 (c_5 _) hx197 ?_
                      refine R_aload_n (pc := 157) dX8_breaks_157 rfl rfl ?_
                      refine g_X8_62 (pc := 158) (v := .ref 133) rfl dX8_breaks_158 (c_0 _) (by show some (Value.ref σx156.2.2.2.2.1) = _; rw [hl163]) ?_
                      refine g_X8_307 (pc := 161) (v := .ref 138) rfl dX8_breaks_161 (c_133 _) rfl ?_
                      refine R_iload_n (pc := 164) dX8_breaks_164 rfl rfl ?_
                      have hx198 : vp_in a 8 := (vp_ti (by have q0 := e114; have q1 := ti_in h115; have q2 := ti_ne b39_119; have q3 := ti_ne b54_159; have q4 := ti_eq b114_196; have q5 := ti_in (iv_13306 hI); have q6 := ti_in r113; have q7 := ti_in hrg66; have q8 := ti_in (iva_4 hV155 _ (lt_of_vp hx193)); have q9 := ti_in (iva_5 hV155 _ (lt_of_vp hx197)); have z0 : (-1 : Int32).toInt = -1 := (by decide); have z1 : (0 : Int32).toInt = 0 := (by decide); have z2 : (1 : Int32).toInt = 1 := (by decide); have z3 : (137 : Int32).toInt = 137 := (by decide); have z4 : (19 : Int32).toInt = 19 := (by decide); have z5 : (4 : Int32).toInt = 4 := (by decide); have z6 : (7 : Int32).toInt = 7 := (by decide); have z7 : (8 : Int32).toInt = 8 := (by decide); have z8 : (99 : Int32).toInt = 99 := (by decide); omega) (by have q0 := e114; have q1 := ti_in h115; have q2 := ti_ne b39_119; have q3 := ti_ne b54_159; have q4 := ti_eq b114_196; have q5 := ti_in (iv_13306 hI); have q6 := ti_in r113; have q7 := ti_in hrg66; have q8 := ti_in (iva_4 hV155 _ (lt_of_vp hx193)); have q9 := ti_in (iva_5 hV155 _ (lt_of_vp hx197)); have z0 : (-1 : Int32).toInt = -1 := (by decide); have z1 : (0 : Int32).toInt = 0 := (by decide); have z2 : (1 : Int32).toInt = 1 := (by decide); have z3 : (137 : Int32).toInt = 137 := (by decide); have z4 : (19 : Int32).toInt = 19 := (by decide); have z5 : (4 : Int32).toInt = 4 := (by decide); have z6 : (7 : Int32).toInt = 7 := (by decide); have z7 : (8 : Int32).toInt = 8 := (by decide); have z8 : (99 : Int32).toInt = 99 := (by decide); omega))
                      refine R_iaload (pc := 165) dX8_breaks_165 (c_138 _) hx198 ?_
                      refine R_icne (pc := 166) 173 dX8_breaks_166 (by decide) (fun b166_199 => ?_) (fun b166_199 => ?_)
                      · skip
                        refine R_iconst (pc := 173) (v := 0) dX8_breaks_173 (by decide) ?_
                        refine st_7_6_i_i (pc := 174) dX8_breaks_174 ?_
                        refine R_iload (pc := 176) dX8_breaks_176 rfl ?_
                        refine R_ifne (pc := 178) 190 dX8_breaks_178 (by decide) (fun h => absurd (by decide) h) (fun _ => ?_)
                        refine R_iload (pc := 181) dX8_breaks_181 rfl ?_
                        refine R_iconst (pc := 183) (v := 1) dX8_breaks_183 (by decide) ?_
                        refine R_iload (pc := 184) dX8_breaks_184 rfl ?_
                        refine R_ishl (pc := 186) dX8_breaks_186 ?_
                        have r201 : inR (1 <<< ((nI j66) &&& 31)) 0 1048575 := shl20 hrg66
                        refine R_ior (pc := 187) dX8_breaks_187 ?_
                        refine st_7_4_i_i (pc := 188) dX8_breaks_188 ?_
                        refine inc_7_5_1_i (pc := 190) dX8_breaks_190 ?_
                        have r202 : inR ((nI j66) + 1) 1 20 := inR_add (show inR (nI j66) 0 19 from hrg66) (show inR 1 1 1 from (inR_self _)) (by decide) (by decide)
                        have e203 := ti_add (l := 1) (h := 20) (show inR (nI j66) 0 19 from hrg66) (show inR 1 1 1 from (inR_self _)) (by decide) (by decide)
                        refine R_goto (pc := 193) 66 dX8_breaks_193 (by decide) ?_
                        rw [nI_1]
                        exact ih66 (j66 + 1) _ _ (by omega) (by omega)
                      · skip
                        refine R_iconst (pc := 169) (v := 1) dX8_breaks_169 (by decide) ?_
                        refine R_goto (pc := 170) 174 dX8_breaks_170 (by decide) ?_
                        refine st_7_6_i_i (pc := 174) dX8_breaks_174 ?_
                        refine R_iload (pc := 176) dX8_breaks_176 rfl ?_
                        refine R_ifne (pc := 178) 190 dX8_breaks_178 (by decide) (fun _ => ?_) (fun h => absurd h (by decide))
                        refine inc_7_5_1_i (pc := 190) dX8_breaks_190 ?_
                        have r205 : inR ((nI j66) + 1) 1 20 := inR_add (show inR (nI j66) 0 19 from hrg66) (show inR 1 1 1 from (inR_self _)) (by decide) (by decide)
                        have e206 := ti_add (l := 1) (h := 20) (show inR (nI j66) 0 19 from hrg66) (show inR 1 1 1 from (inR_self _)) (by decide) (by decide)
                        refine R_goto (pc := 193) 66 dX8_breaks_193 (by decide) ?_
                        rw [nI_1]
                        exact ih66 (j66 + 1) _ _ (by omega) (by omega)
                    · skip
                      refine R_aload_n (pc := 117) dX8_breaks_117 rfl rfl ?_
                      refine g_X8_37 (pc := 118) (v := .ref 58) rfl dX8_breaks_118 (c_0 _) rfl ?_
                      refine R_iload (pc := 121) dX8_breaks_121 rfl ?_
                      refine R_aload_n (pc := 123) dX8_breaks_123 rfl rfl ?_
                      refine g_X8_62 (pc := 124) (v := .ref 133) rfl dX8_breaks_124 (c_0 _) (by show some (Value.ref σx156.2.2.2.2.1) = _; rw [hl163]) ?_
                      refine g_X8_307 (pc := 127) (v := .ref 138) rfl dX8_breaks_127 (c_133 _) rfl ?_
                      refine R_iload_n (pc := 130) dX8_breaks_130 rfl rfl ?_
                      have hx207 : vp_in a 8 := (vp_ti (by have q0 := e114; have q1 := ti_in h115; have q2 := ti_ne b39_119; have q3 := ti_ne b54_159; have q4 := ti_ne b114_196; have q5 := ti_in (iv_13306 hI); have q6 := ti_in r113; have q7 := ti_in hrg66; have q8 := ti_in (iva_4 hV155 _ (lt_of_vp hx193)); have z0 : (-1 : Int32).toInt = -1 := (by decide); have z1 : (0 : Int32).toInt = 0 := (by decide); have z2 : (1 : Int32).toInt = 1 := (by decide); have z3 : (137 : Int32).toInt = 137 := (by decide); have z4 : (19 : Int32).toInt = 19 := (by decide); have z5 : (7 : Int32).toInt = 7 := (by decide); have z6 : (8 : Int32).toInt = 8 := (by decide); have z7 : (99 : Int32).toInt = 99 := (by decide); omega) (by have q0 := e114; have q1 := ti_in h115; have q2 := ti_ne b39_119; have q3 := ti_ne b54_159; have q4 := ti_ne b114_196; have q5 := ti_in (iv_13306 hI); have q6 := ti_in r113; have q7 := ti_in hrg66; have q8 := ti_in (iva_4 hV155 _ (lt_of_vp hx193)); have z0 : (-1 : Int32).toInt = -1 := (by decide); have z1 : (0 : Int32).toInt = 0 := (by decide); have z2 : (1 : Int32).toInt = 1 := (by decide); have z3 : (137 : Int32).toInt = 137 := (by decide); have z4 : (19 : Int32).toInt = 19 := (by decide); have z5 : (7 : Int32).toInt = 7 := (by decide); have z6 : (8 : Int32).toInt = 8 := (by decide); have z7 : (99 : Int32).toInt = 99 := (by decide); omega))
                      refine R_iaload (pc := 131) dX8_breaks_131 (c_138 _) hx207 ?_
                      refine R_aload_n (pc := 132) dX8_breaks_132 rfl rfl ?_
                      refine g_X8_62 (pc := 133) (v := .ref 133) rfl dX8_breaks_133 (c_0 _) (by show some (Value.ref σx156.2.2.2.2.1) = _; rw [hl163]) ?_
                      refine g_X8_310 (pc := 136) (v := .ref 139) rfl dX8_breaks_136 (c_133 _) rfl ?_
                      refine R_iload_n (pc := 139) dX8_breaks_139 rfl rfl ?_
                      have hx208 : vp_in a 8 := (vp_ti (by have q0 := e114; have q1 := ti_in h115; have q2 := ti_ne b39_119; have q3 := ti_ne b54_159; have q4 := ti_ne b114_196; have q5 := ti_in (iv_13306 hI); have q6 := ti_in r113; have q7 := ti_in hrg66; have q8 := ti_in (iva_4 hV155 _ (lt_of_vp hx193)); have z0 : (-1 : Int32).toInt = -1 := (by decide); have z1 : (0 : Int32).toInt = 0 := (by decide); have z2 : (1 : Int32).toInt = 1 := (by decide); have z3 : (137 : Int32).toInt = 137 := (by decide); have z4 : (19 : Int32).toInt = 19 := (by decide); have z5 : (7 : Int32).toInt = 7 := (by decide); have z6 : (8 : Int32).toInt = 8 := (by decide); have z7 : (99 : Int32).toInt = 99 := (by decide); omega) (by have q0 := e114; have q1 := ti_in h115; have q2 := ti_ne b39_119; have q3 := ti_ne b54_159; have q4 := ti_ne b114_196; have q5 := ti_in (iv_13306 hI); have q6 := ti_in r113; have q7 := ti_in hrg66; have q8 := ti_in (iva_4 hV155 _ (lt_of_vp hx193)); have z0 : (-1 : Int32).toInt = -1 := (by decide); have z1 : (0 : Int32).toInt = 0 := (by decide); have z2 : (1 : Int32).toInt = 1 := (by decide); have z3 : (137 : Int32).toInt = 137 := (by decide); have z4 : (19 : Int32).toInt = 19 := (by decide); have z5 : (7 : Int32).toInt = 7 := (by decide); have z6 : (8 : Int32).toInt = 8 := (by decide); have z7 : (99 : Int32).toInt = 99 := (by decide); omega))
                      refine R_iaload (pc := 140) dX8_breaks_140 (c_139 _) hx208 ?_
                      refine k_X8_313 (pc := 141) (gx_X1_canBePublished _ _ _ _ hrg66) rfl (c_58 _) (by decide) (Nat.le_refl _) (Nat.le_refl _) (Nat.le_of_ble_eq_true rfl) dX8_breaks_141 (fun x w2 h => ?_)
                      rcases h with ⟨rfl, rfl | rfl⟩
                      · skip
                        refine R_goto (pc := 144) 174 dX8_breaks_144 (by decide) ?_
                        refine st_7_6_i_i (pc := 174) dX8_breaks_174 ?_
                        refine R_iload (pc := 176) dX8_breaks_176 rfl ?_
                        refine R_ifne (pc := 178) 190 dX8_breaks_178 (by decide) (fun _ => ?_) (fun h => absurd h (by decide))
                        refine inc_7_5_1_i (pc := 190) dX8_breaks_190 ?_
                        have r211 : inR ((nI j66) + 1) 1 20 := inR_add (show inR (nI j66) 0 19 from hrg66) (show inR 1 1 1 from (inR_self _)) (by decide) (by decide)
                        have e212 := ti_add (l := 1) (h := 20) (show inR (nI j66) 0 19 from hrg66) (show inR 1 1 1 from (inR_self _)) (by decide) (by decide)
                        refine R_goto (pc := 193) 66 dX8_breaks_193 (by decide) ?_
                        rw [nI_1]
                        exact ih66 (j66 + 1) _ _ (by omega) (by omega)
                      · skip
                        refine R_goto (pc := 144) 174 dX8_breaks_144 (by decide) ?_
                        refine st_7_6_i_i (pc := 174) dX8_breaks_174 ?_
                        refine R_iload (pc := 176) dX8_breaks_176 rfl ?_
                        refine R_ifne (pc := 178) 190 dX8_breaks_178 (by decide) (fun h => absurd (by decide) h) (fun _ => ?_)
                        refine R_iload (pc := 181) dX8_breaks_181 rfl ?_
                        refine R_iconst (pc := 183) (v := 1) dX8_breaks_183 (by decide) ?_
                        refine R_iload (pc := 184) dX8_breaks_184 rfl ?_
                        refine R_ishl (pc := 186) dX8_breaks_186 ?_
                        have r214 : inR (1 <<< ((nI j66) &&& 31)) 0 1048575 := shl20 hrg66
                        refine R_ior (pc := 187) dX8_breaks_187 ?_
                        refine st_7_4_i_i (pc := 188) dX8_breaks_188 ?_
                        refine inc_7_5_1_i (pc := 190) dX8_breaks_190 ?_
                        have r215 : inR ((nI j66) + 1) 1 20 := inR_add (show inR (nI j66) 0 19 from hrg66) (show inR 1 1 1 from (inR_self _)) (by decide) (by decide)
                        have e216 := ti_add (l := 1) (h := 20) (show inR (nI j66) 0 19 from hrg66) (show inR 1 1 1 from (inR_self _)) (by decide) (by decide)
                        refine R_goto (pc := 193) 66 dX8_breaks_193 (by decide) ?_
                        rw [nI_1]
                        exact ih66 (j66 + 1) _ _ (by omega) (by omega)
                  · skip
                    refine R_ifeq (pc := 110) 190 dX8_breaks_110 (by decide) (fun _ => ?_) (fun h => absurd (by decide) h)
                    refine inc_7_5_1_i (pc := 190) dX8_breaks_190 ?_
                    have r218 : inR ((nI j66) + 1) 1 20 := inR_add (show inR (nI j66) 0 19 from hrg66) (show inR 1 1 1 from (inR_self _)) (by decide) (by decide)
                    have e219 := ti_add (l := 1) (h := 20) (show inR (nI j66) 0 19 from hrg66) (show inR 1 1 1 from (inR_self _)) (by decide) (by decide)
                    refine R_goto (pc := 193) 66 dX8_breaks_193 (by decide) ?_
                    rw [nI_1]
                    exact ih66 (j66 + 1) _ _ (by omega) (by omega)
              · skip
                refine R_ifeq (pc := 79) 190 dX8_breaks_79 (by decide) (fun _ => ?_) (fun h => absurd (by decide) h)
                refine inc_7_5_1_i (pc := 190) dX8_breaks_190 ?_
                have r221 : inR ((nI j66) + 1) 1 20 := inR_add (show inR (nI j66) 0 19 from hrg66) (show inR 1 1 1 from (inR_self _)) (by decide) (by decide)
                have e222 := ti_add (l := 1) (h := 20) (show inR (nI j66) 0 19 from hrg66) (show inR 1 1 1 from (inR_self _)) (by decide) (by decide)
                refine R_goto (pc := 193) 66 dX8_breaks_193 (by decide) ?_
                rw [nI_1]
                exact ih66 (j66 + 1) _ _ (by omega) (by omega)
          exact HL66 20 0 _ _ (by omega) (by omega)
        · skip
          refine R_bipush (pc := 57) (v := (-4)) dX8_breaks_57 (by decide) ?_
          exact R_iret (pc := 59) dX8_breaks_59 rfl rfl (Nat.zero_le _) (Nat.zero_le _) ⟨_, rfl, _, rfl, hV155, hW158⟩
    · skip
      refine R_ifne (pc := 14) 20 dX8_breaks_14 (by decide) (fun h => absurd (by decide) h) (fun _ => ?_)
      refine R_bipush (pc := 17) (v := (-2)) dX8_breaks_17 (by decide) ?_
      exact R_iret (pc := 19) dX8_breaks_19 rfl rfl (Nat.zero_le _) (Nat.zero_le _) ⟨_, rfl, _, rfl, hI, (show Cor σ σ from Cor.rfl' σ)⟩
theorem dX8_count_0 : decode cX8_count 0 = .ok (.iload_n 1, 1) := by decide +kernel
theorem dX8_count_1 : decode cX8_count 1 = .ok (.tableswitch 134 0 7 #[47, 55, 66, 84, 102, 110, 118, 126], 47) := by decide +kernel
theorem dX8_count_48 : decode cX8_count 48 = .ok (.aload_n 0, 1) := by decide +kernel
theorem dX8_count_49 : decode cX8_count 49 = .ok (.getfield 10, 3) := by decide +kernel
theorem dX8_count_52 : decode cX8_count 52 = .ok (.getfield 76, 3) := by decide +kernel
theorem dX8_count_55 : decode cX8_count 55 = .ok (.ireturn, 1) := by decide +kernel
theorem dX8_count_56 : decode cX8_count 56 = .ok (.aload_n 0, 1) := by decide +kernel
theorem dX8_count_57 : decode cX8_count 57 = .ok (.getfield 10, 3) := by decide +kernel
theorem dX8_count_60 : decode cX8_count 60 = .ok (.invokevirtual 126, 3) := by decide +kernel
theorem dX8_count_63 : decode cX8_count 63 = .ok (.invokestatic 159, 3) := by decide +kernel
theorem dX8_count_66 : decode cX8_count 66 = .ok (.ireturn, 1) := by decide +kernel
theorem dX8_count_67 : decode cX8_count 67 = .ok (.aload_n 0, 1) := by decide +kernel
theorem dX8_count_68 : decode cX8_count 68 = .ok (.getfield 21, 3) := by decide +kernel
theorem dX8_count_71 : decode cX8_count 71 = .ok (.aload_n 0, 1) := by decide +kernel
theorem dX8_count_72 : decode cX8_count 72 = .ok (.getfield 10, 3) := by decide +kernel
theorem dX8_count_75 : decode cX8_count 75 = .ok (.invokevirtual 126, 3) := by decide +kernel
theorem dX8_count_78 : decode cX8_count 78 = .ok (.invokevirtual 319, 3) := by decide +kernel
theorem dX8_count_81 : decode cX8_count 81 = .ok (.invokestatic 159, 3) := by decide +kernel
theorem dX8_count_84 : decode cX8_count 84 = .ok (.ireturn, 1) := by decide +kernel
theorem dX8_count_85 : decode cX8_count 85 = .ok (.aload_n 0, 1) := by decide +kernel
theorem dX8_count_86 : decode cX8_count 86 = .ok (.getfield 21, 3) := by decide +kernel
theorem dX8_count_89 : decode cX8_count 89 = .ok (.aload_n 0, 1) := by decide +kernel
theorem dX8_count_90 : decode cX8_count 90 = .ok (.getfield 10, 3) := by decide +kernel
theorem dX8_count_93 : decode cX8_count 93 = .ok (.invokevirtual 126, 3) := by decide +kernel
theorem dX8_count_96 : decode cX8_count 96 = .ok (.invokevirtual 206, 3) := by decide +kernel
theorem dX8_count_99 : decode cX8_count 99 = .ok (.invokestatic 159, 3) := by decide +kernel
theorem dX8_count_102 : decode cX8_count 102 = .ok (.ireturn, 1) := by decide +kernel
theorem dX8_count_103 : decode cX8_count 103 = .ok (.aload_n 0, 1) := by decide +kernel
theorem dX8_count_104 : decode cX8_count 104 = .ok (.getfield 10, 3) := by decide +kernel
theorem dX8_count_107 : decode cX8_count 107 = .ok (.getfield 109, 3) := by decide +kernel
theorem dX8_count_110 : decode cX8_count 110 = .ok (.ireturn, 1) := by decide +kernel
theorem dX8_count_111 : decode cX8_count 111 = .ok (.aload_n 0, 1) := by decide +kernel
theorem dX8_count_112 : decode cX8_count 112 = .ok (.getfield 51, 3) := by decide +kernel
theorem dX8_count_115 : decode cX8_count 115 = .ok (.getfield 291, 3) := by decide +kernel
theorem dX8_count_118 : decode cX8_count 118 = .ok (.ireturn, 1) := by decide +kernel
theorem dX8_count_119 : decode cX8_count 119 = .ok (.aload_n 0, 1) := by decide +kernel
theorem dX8_count_120 : decode cX8_count 120 = .ok (.getfield 62, 3) := by decide +kernel
theorem dX8_count_123 : decode cX8_count 123 = .ok (.getfield 299, 3) := by decide +kernel
theorem dX8_count_126 : decode cX8_count 126 = .ok (.ireturn, 1) := by decide +kernel
theorem dX8_count_127 : decode cX8_count 127 = .ok (.aload_n 0, 1) := by decide +kernel
theorem dX8_count_128 : decode cX8_count 128 = .ok (.getfield 37, 3) := by decide +kernel
theorem dX8_count_131 : decode cX8_count 131 = .ok (.getfield 233, 3) := by decide +kernel
theorem dX8_count_134 : decode cX8_count 134 = .ok (.ireturn, 1) := by decide +kernel
theorem dX8_count_135 : decode cX8_count 135 = .ok (.bipush (-3), 2) := by decide +kernel
theorem dX8_count_137 : decode cX8_count 137 = .ok (.ireturn, 1) := by decide +kernel
set_option maxRecDepth 100000 in
set_option maxHeartbeats 40000000 in
theorem gp_count {G : vG} {l : Launch} (σ : Sg) (a : Int32) (hI : Inv σ) : Sp G l yX8_count cX8_count 2 (some .int) 5 0 0 [.ref 0, .int a] (WW σ) (QI (fun _ w2 => ∃ σ2, w2 = WW σ2 ∧ Inv σ2 ∧ Cor σ σ2)) := by
  refine Sp_of_R [(some (.ref 0)), (some (.int a))] [] rfl (by simp) rfl (Nat.le_of_ble_eq_true rfl) ?_
  refine R_iload_n (pc := 0) dX8_count_0 rfl rfl ?_
  rcases sw7 a with rfl | rfl | rfl | rfl | rfl | rfl | rfl | rfl | hsw
  · skip
    refine R_tin (pc := 1) 48 dX8_count_1 (by decide) (by decide) rfl (by decide) ?_
    refine R_aload_n (pc := 48) dX8_count_48 rfl rfl ?_
    refine g_X8_10 (pc := 49) (v := .ref 1) rfl dX8_count_49 (c_0 _) rfl ?_
    refine g_X8_76 (pc := 52) (v := .int (σ.1 110)) rfl dX8_count_52 (c_1 _) rfl ?_
    exact R_iret (pc := 55) dX8_count_55 rfl rfl (Nat.zero_le _) (Nat.zero_le _) ⟨_, rfl, _, rfl, hI, (show Cor σ σ from Cor.rfl' σ)⟩
  · skip
    refine R_tin (pc := 1) 56 dX8_count_1 (by decide) (by decide) rfl (by decide) ?_
    refine R_aload_n (pc := 56) dX8_count_56 rfl rfl ?_
    refine g_X8_10 (pc := 57) (v := .ref 1) rfl dX8_count_57 (c_0 _) rfl ?_
    refine k_X8_126 (pc := 60) (gx_X0_there _ hI) rfl (c_1 _) (by decide) (Nat.le_refl _) (Nat.le_refl _) (Nat.le_of_ble_eq_true rfl) dX8_count_60 (fun y1 w2 h => ?_)
    subst h
    refine k_X8_159 (pc := 63) (sp_J6_bitCount_0f7a4 _ _) rfl (by decide) (Nat.le_refl _) (Nat.le_refl _) (Nat.le_of_ble_eq_true rfl) dX8_count_63 (fun y2 w2 h => ?_)
    obtain ⟨rfl, -⟩ := h
    exact R_iret (pc := 66) dX8_count_66 rfl rfl (Nat.zero_le _) (Nat.zero_le _) ⟨_, rfl, _, rfl, hI, (show Cor σ σ from Cor.rfl' σ)⟩
  · skip
    refine R_tin (pc := 1) 67 dX8_count_1 (by decide) (by decide) rfl (by decide) ?_
    refine R_aload_n (pc := 67) dX8_count_67 rfl rfl ?_
    refine g_X8_21 (pc := 68) (v := .ref 12) rfl dX8_count_68 (c_0 _) rfl ?_
    refine R_aload_n (pc := 71) dX8_count_71 rfl rfl ?_
    refine g_X8_10 (pc := 72) (v := .ref 1) rfl dX8_count_72 (c_0 _) rfl ?_
    refine k_X8_126 (pc := 75) (gx_X0_there _ hI) rfl (c_1 _) (by decide) (Nat.le_refl _) (Nat.le_refl _) (Nat.le_of_ble_eq_true rfl) dX8_count_75 (fun y3 w2 h => ?_)
    subst h
    refine k_X8_319 (pc := 78) (gx_X3_negatives _ _ hI) rfl (c_12 _) (by decide) (Nat.le_refl _) (Nat.le_refl _) (Nat.le_of_ble_eq_true rfl) dX8_count_78 (fun y4 w2 h => ?_)
    subst h
    refine k_X8_159 (pc := 81) (sp_J6_bitCount_0f7a4 _ _) rfl (by decide) (Nat.le_refl _) (Nat.le_refl _) (Nat.le_of_ble_eq_true rfl) dX8_count_81 (fun y5 w2 h => ?_)
    obtain ⟨rfl, -⟩ := h
    exact R_iret (pc := 84) dX8_count_84 rfl rfl (Nat.zero_le _) (Nat.zero_le _) ⟨_, rfl, _, rfl, hI, (show Cor σ σ from Cor.rfl' σ)⟩
  · skip
    refine R_tin (pc := 1) 85 dX8_count_1 (by decide) (by decide) rfl (by decide) ?_
    refine R_aload_n (pc := 85) dX8_count_85 rfl rfl ?_
    refine g_X8_21 (pc := 86) (v := .ref 12) rfl dX8_count_86 (c_0 _) rfl ?_
    refine R_aload_n (pc := 89) dX8_count_89 rfl rfl ?_
    refine g_X8_10 (pc := 90) (v := .ref 1) rfl dX8_count_90 (c_0 _) rfl ?_
    refine k_X8_126 (pc := 93) (gx_X0_there _ hI) rfl (c_1 _) (by decide) (Nat.le_refl _) (Nat.le_refl _) (Nat.le_of_ble_eq_true rfl) dX8_count_93 (fun y6 w2 h => ?_)
    subst h
    refine k_X8_206 (pc := 96) (gx_X3_differentCards _ _ hI) rfl (c_12 _) (by decide) (Nat.le_refl _) (Nat.le_refl _) (Nat.le_of_ble_eq_true rfl) dX8_count_96 (fun y7 w2 h => ?_)
    subst h
    refine k_X8_159 (pc := 99) (sp_J6_bitCount_0f7a4 _ _) rfl (by decide) (Nat.le_refl _) (Nat.le_refl _) (Nat.le_of_ble_eq_true rfl) dX8_count_99 (fun y8 w2 h => ?_)
    obtain ⟨rfl, -⟩ := h
    exact R_iret (pc := 102) dX8_count_102 rfl rfl (Nat.zero_le _) (Nat.zero_le _) ⟨_, rfl, _, rfl, hI, (show Cor σ σ from Cor.rfl' σ)⟩
  · skip
    refine R_tin (pc := 1) 103 dX8_count_1 (by decide) (by decide) rfl (by decide) ?_
    refine R_aload_n (pc := 103) dX8_count_103 rfl rfl ?_
    refine g_X8_10 (pc := 104) (v := .ref 1) rfl dX8_count_104 (c_0 _) rfl ?_
    refine g_X8_109 (pc := 107) (v := .int (σ.1 111)) rfl dX8_count_107 (c_1 _) rfl ?_
    exact R_iret (pc := 110) dX8_count_110 rfl rfl (Nat.zero_le _) (Nat.zero_le _) ⟨_, rfl, _, rfl, hI, (show Cor σ σ from Cor.rfl' σ)⟩
  · skip
    refine R_tin (pc := 1) 111 dX8_count_1 (by decide) (by decide) rfl (by decide) ?_
    refine R_aload_n (pc := 111) dX8_count_111 rfl rfl ?_
    refine g_X8_51 (pc := 112) (v := .ref 117) rfl dX8_count_112 (c_0 _) rfl ?_
    refine g_X8_291 (pc := 115) (v := .int (σ.1 11701)) rfl dX8_count_115 (c_117 _) rfl ?_
    exact R_iret (pc := 118) dX8_count_118 rfl rfl (Nat.zero_le _) (Nat.zero_le _) ⟨_, rfl, _, rfl, hI, (show Cor σ σ from Cor.rfl' σ)⟩
  · skip
    refine R_tin (pc := 1) 119 dX8_count_1 (by decide) (by decide) rfl (by decide) ?_
    refine R_aload_n (pc := 119) dX8_count_119 rfl rfl ?_
    rcases iv_ln hI with ⟨hl9, hl9d⟩ | ⟨hl9, hl9d⟩
    · skip
      refine g_X8_62 (pc := 120) (v := .ref 126) rfl dX8_count_120 (c_0 _) (by show some (Value.ref σ.2.2.2.2.1) = _; rw [hl9]) ?_
      refine g_X8_299 (pc := 123) (v := .int (σ.1 12606)) rfl dX8_count_123 (c_126 _) rfl ?_
      exact R_iret (pc := 126) dX8_count_126 rfl rfl (Nat.zero_le _) (Nat.zero_le _) ⟨_, rfl, _, rfl, hI, (show Cor σ σ from Cor.rfl' σ)⟩
    · skip
      refine g_X8_62 (pc := 120) (v := .ref 133) rfl dX8_count_120 (c_0 _) (by show some (Value.ref σ.2.2.2.2.1) = _; rw [hl9]) ?_
      refine g_X8_299 (pc := 123) (v := .int (σ.1 13306)) rfl dX8_count_123 (c_133 _) rfl ?_
      exact R_iret (pc := 126) dX8_count_126 rfl rfl (Nat.zero_le _) (Nat.zero_le _) ⟨_, rfl, _, rfl, hI, (show Cor σ σ from Cor.rfl' σ)⟩
  · skip
    refine R_tin (pc := 1) 127 dX8_count_1 (by decide) (by decide) rfl (by decide) ?_
    refine R_aload_n (pc := 127) dX8_count_127 rfl rfl ?_
    refine g_X8_37 (pc := 128) (v := .ref 58) rfl dX8_count_128 (c_0 _) rfl ?_
    refine g_X8_233 (pc := 131) (v := .int (σ.1 5809)) rfl dX8_count_131 (c_58 _) rfl ?_
    exact R_iret (pc := 134) dX8_count_134 rfl rfl (Nat.zero_le _) (Nat.zero_le _) ⟨_, rfl, _, rfl, hI, (show Cor σ σ from Cor.rfl' σ)⟩
  · skip
    refine R_tout (pc := 1) 135 dX8_count_1 hsw (by decide) ?_
    refine R_bipush (pc := 135) (v := (-3)) dX8_count_135 (by decide) ?_
    exact R_iret (pc := 137) dX8_count_137 rfl rfl (Nat.zero_le _) (Nat.zero_le _) ⟨_, rfl, _, rfl, hI, (show Cor σ σ from Cor.rfl' σ)⟩
