/-! methods on any state that keeps the invariant -/
theorem dX9_span_0 : decode cX9_span 0 = .ok (.aload_n 0, 1) := by decide +kernel
theorem dX9_span_1 : decode cX9_span 1 = .ok (.iload_n 1, 1) := by decide +kernel
theorem dX9_span_2 : decode cX9_span 2 = .ok (.invokevirtual 135, 3) := by decide +kernel
theorem dX9_span_5 : decode cX9_span 5 = .ok (.ifCond .ne 6, 3) := by decide +kernel
theorem dX9_span_8 : decode cX9_span 8 = .ok (.bipush (-2), 2) := by decide +kernel
theorem dX9_span_10 : decode cX9_span 10 = .ok (.ireturn, 1) := by decide +kernel
theorem dX9_span_11 : decode cX9_span 11 = .ok (.iload_n 2, 1) := by decide +kernel
theorem dX9_span_12 : decode cX9_span 12 = .ok (.iconst 0, 1) := by decide +kernel
theorem dX9_span_13 : decode cX9_span 13 = .ok (.iconst 1, 1) := by decide +kernel
theorem dX9_span_14 : decode cX9_span 14 = .ok (.invokestatic 124, 3) := by decide +kernel
theorem dX9_span_17 : decode cX9_span 17 = .ok (.ifCond .eq 12, 3) := by decide +kernel
theorem dX9_span_20 : decode cX9_span 20 = .ok (.iload_n 3, 1) := by decide +kernel
theorem dX9_span_21 : decode cX9_span 21 = .ok (.iconst 0, 1) := by decide +kernel
theorem dX9_span_22 : decode cX9_span 22 = .ok (.iconst 1, 1) := by decide +kernel
theorem dX9_span_23 : decode cX9_span 23 = .ok (.invokestatic 124, 3) := by decide +kernel
theorem dX9_span_26 : decode cX9_span 26 = .ok (.ifCond .ne 6, 3) := by decide +kernel
theorem dX9_span_29 : decode cX9_span 29 = .ok (.bipush (-3), 2) := by decide +kernel
theorem dX9_span_31 : decode cX9_span 31 = .ok (.ireturn, 1) := by decide +kernel
theorem dX9_span_32 : decode cX9_span 32 = .ok (.aload_n 0, 1) := by decide +kernel
theorem dX9_span_33 : decode cX9_span 33 = .ok (.iconst (-1), 1) := by decide +kernel
theorem dX9_span_34 : decode cX9_span 34 = .ok (.iconst 1, 1) := by decide +kernel
theorem dX9_span_35 : decode cX9_span 35 = .ok (.invokevirtual 228, 3) := by decide +kernel
theorem dX9_span_38 : decode cX9_span 38 = .ok (.ifCond .ne 5, 3) := by decide +kernel
theorem dX9_span_41 : decode cX9_span 41 = .ok (.iconst (-1), 1) := by decide +kernel
theorem dX9_span_42 : decode cX9_span 42 = .ok (.ireturn, 1) := by decide +kernel
theorem dX9_span_43 : decode cX9_span 43 = .ok (.iload_n 2, 1) := by decide +kernel
theorem dX9_span_44 : decode cX9_span 44 = .ok (.ifCond .ne 33, 3) := by decide +kernel
theorem dX9_span_47 : decode cX9_span 47 = .ok (.iload_n 3, 1) := by decide +kernel
theorem dX9_span_48 : decode cX9_span 48 = .ok (.ifCond .ne 17, 3) := by decide +kernel
theorem dX9_span_51 : decode cX9_span 51 = .ok (.aload_n 0, 1) := by decide +kernel
theorem dX9_span_52 : decode cX9_span 52 = .ok (.getfield 87, 3) := by decide +kernel
theorem dX9_span_55 : decode cX9_span 55 = .ok (.aload_n 0, 1) := by decide +kernel
theorem dX9_span_56 : decode cX9_span 56 = .ok (.getfield 54, 3) := by decide +kernel
theorem dX9_span_59 : decode cX9_span 59 = .ok (.iload_n 1, 1) := by decide +kernel
theorem dX9_span_60 : decode cX9_span 60 = .ok (.iaload, 1) := by decide +kernel
theorem dX9_span_61 : decode cX9_span 61 = .ok (.iaload, 1) := by decide +kernel
theorem dX9_span_62 : decode cX9_span 62 = .ok (.goto 14, 3) := by decide +kernel
theorem dX9_span_65 : decode cX9_span 65 = .ok (.aload_n 0, 1) := by decide +kernel
theorem dX9_span_66 : decode cX9_span 66 = .ok (.getfield 90, 3) := by decide +kernel
theorem dX9_span_69 : decode cX9_span 69 = .ok (.aload_n 0, 1) := by decide +kernel
theorem dX9_span_70 : decode cX9_span 70 = .ok (.getfield 54, 3) := by decide +kernel
theorem dX9_span_73 : decode cX9_span 73 = .ok (.iload_n 1, 1) := by decide +kernel
theorem dX9_span_74 : decode cX9_span 74 = .ok (.iaload, 1) := by decide +kernel
theorem dX9_span_75 : decode cX9_span 75 = .ok (.iaload, 1) := by decide +kernel
theorem dX9_span_76 : decode cX9_span 76 = .ok (.ireturn, 1) := by decide +kernel
theorem dX9_span_77 : decode cX9_span 77 = .ok (.iload_n 3, 1) := by decide +kernel
theorem dX9_span_78 : decode cX9_span 78 = .ok (.ifCond .ne 12, 3) := by decide +kernel
theorem dX9_span_81 : decode cX9_span 81 = .ok (.aload_n 0, 1) := by decide +kernel
theorem dX9_span_82 : decode cX9_span 82 = .ok (.getfield 93, 3) := by decide +kernel
theorem dX9_span_85 : decode cX9_span 85 = .ok (.iload_n 1, 1) := by decide +kernel
theorem dX9_span_86 : decode cX9_span 86 = .ok (.iaload, 1) := by decide +kernel
theorem dX9_span_87 : decode cX9_span 87 = .ok (.goto 9, 3) := by decide +kernel
theorem dX9_span_90 : decode cX9_span 90 = .ok (.aload_n 0, 1) := by decide +kernel
theorem dX9_span_91 : decode cX9_span 91 = .ok (.getfield 96, 3) := by decide +kernel
theorem dX9_span_94 : decode cX9_span 94 = .ok (.iload_n 1, 1) := by decide +kernel
theorem dX9_span_95 : decode cX9_span 95 = .ok (.iaload, 1) := by decide +kernel
theorem dX9_span_96 : decode cX9_span 96 = .ok (.ireturn, 1) := by decide +kernel
set_option maxRecDepth 100000 in
set_option maxHeartbeats 40000000 in
theorem gp_m_span {G : vG} {l : Launch} (σ : Sg) (a b c : Int32) (hI : Inv σ) : Sp G l yX9_span cX9_span 4 (some .int) 5 0 0 [.ref 140, .int a, .int b, .int c] (WW σ) (QI (fun _ w2 => ∃ σ2, w2 = WW σ2 ∧ Inv σ2 ∧ Cor σ σ2)) := by
  refine Sp_of_R [(some (.ref 140)), (some (.int a)), (some (.int b)), (some (.int c))] [] rfl (by simp) rfl (Nat.le_of_ble_eq_true rfl) ?_
  refine R_aload_n (pc := 0) dX9_span_0 rfl rfl ?_
  refine R_iload_n (pc := 1) dX9_span_1 rfl rfl ?_
  refine k_X9_135 (pc := 2) (ge_X9_isThere _ _ hI) rfl (c_140 _) (by decide) (Nat.le_refl _) (Nat.le_refl _) (Nat.le_of_ble_eq_true rfl) dX9_span_2 (fun x w2 h => ?_)
  rcases h with ⟨rfl, ⟨h1, h1b, rfl⟩ | ⟨h1, rfl⟩⟩
  · skip
    refine R_ifne (pc := 5) 11 dX9_span_5 (by decide) (fun _ => ?_) (fun h => absurd h (by decide))
    refine R_iload_n (pc := 11) dX9_span_11 rfl rfl ?_
    refine R_iconst (pc := 12) (v := 0) dX9_span_12 (by decide) ?_
    refine R_iconst (pc := 13) (v := 1) dX9_span_13 (by decide) ?_
    refine k_X9_124 (pc := 14) (sp_X9_in _ _ _ _) rfl (by decide) (Nat.le_refl _) (Nat.le_refl _) (Nat.le_of_ble_eq_true rfl) dX9_span_14 (fun x w2 h => ?_)
    rcases h with ⟨rfl, ⟨h3, rfl⟩ | ⟨h3, rfl⟩⟩
    · skip
      refine R_ifeq (pc := 17) 29 dX9_span_17 (by decide) (fun h => absurd h (by decide)) (fun _ => ?_)
      refine R_iload_n (pc := 20) dX9_span_20 rfl rfl ?_
      refine R_iconst (pc := 21) (v := 0) dX9_span_21 (by decide) ?_
      refine R_iconst (pc := 22) (v := 1) dX9_span_22 (by decide) ?_
      refine k_X9_124 (pc := 23) (sp_X9_in _ _ _ _) rfl (by decide) (Nat.le_refl _) (Nat.le_refl _) (Nat.le_of_ble_eq_true rfl) dX9_span_23 (fun x w2 h => ?_)
      rcases h with ⟨rfl, ⟨h5, rfl⟩ | ⟨h5, rfl⟩⟩
      · skip
        refine R_ifne (pc := 26) 32 dX9_span_26 (by decide) (fun _ => ?_) (fun h => absurd h (by decide))
        refine R_aload_n (pc := 32) dX9_span_32 rfl rfl ?_
        refine R_iconst (pc := 33) (v := (-1)) dX9_span_33 (by decide) ?_
        refine R_iconst (pc := 34) (v := 1) dX9_span_34 (by decide) ?_
        refine k_X9_228 (pc := 35) (gx_X9_areSpans _ _ _ hI) rfl (c_140 _) (by decide) (Nat.le_refl _) (Nat.le_refl _) (Nat.le_of_ble_eq_true rfl) dX9_span_35 (fun x w2 h => ?_)
        obtain ⟨hb, σx8, rfl, hV7, hW9⟩ := h
        have hW10 := Cor.trans (show Cor σ σ from Cor.rfl' σ) hW9
        rcases hb with rfl | rfl
        · skip
          refine R_ifne (pc := 38) 43 dX9_span_38 (by decide) (fun _ => ?_) (fun h => absurd h (by decide))
          refine R_iload_n (pc := 43) dX9_span_43 rfl rfl ?_
          refine R_ifne (pc := 44) 77 dX9_span_44 (by decide) (fun b44_12 => ?_) (fun b44_12 => ?_)
          · skip
            refine R_iload_n (pc := 77) dX9_span_77 rfl rfl ?_
            refine R_ifne (pc := 78) 90 dX9_span_78 (by decide) (fun b78_13 => ?_) (fun b78_13 => ?_)
            · skip
              refine R_aload_n (pc := 90) dX9_span_90 rfl rfl ?_
              refine g_X9_96 (pc := 91) (v := .ref 166) rfl dX9_span_91 (c_140 _) rfl ?_
              refine R_iload_n (pc := 94) dX9_span_94 rfl rfl ?_
              have hx14 : vp_in a 20 := (vp_of_inR h1 (by decide))
              refine R_iaload (pc := 95) dX9_span_95 (c_166 _) hx14 ?_
              exact R_iret (pc := 96) dX9_span_96 rfl rfl (Nat.zero_le _) (Nat.zero_le _) ⟨_, rfl, _, rfl, hV7, hW10⟩
            · skip
              refine R_aload_n (pc := 81) dX9_span_81 rfl rfl ?_
              refine g_X9_93 (pc := 82) (v := .ref 165) rfl dX9_span_82 (c_140 _) rfl ?_
              refine R_iload_n (pc := 85) dX9_span_85 rfl rfl ?_
              have hx15 : vp_in a 20 := (vp_of_inR h1 (by decide))
              refine R_iaload (pc := 86) dX9_span_86 (c_165 _) hx15 ?_
              refine R_goto (pc := 87) 96 dX9_span_87 (by decide) ?_
              exact R_iret (pc := 96) dX9_span_96 rfl rfl (Nat.zero_le _) (Nat.zero_le _) ⟨_, rfl, _, rfl, hV7, hW10⟩
          · skip
            refine R_iload_n (pc := 47) dX9_span_47 rfl rfl ?_
            refine R_ifne (pc := 48) 65 dX9_span_48 (by decide) (fun b48_16 => ?_) (fun b48_16 => ?_)
            · skip
              refine R_aload_n (pc := 65) dX9_span_65 rfl rfl ?_
              refine g_X9_90 (pc := 66) (v := .ref 164) rfl dX9_span_66 (c_140 _) rfl ?_
              refine R_aload_n (pc := 69) dX9_span_69 rfl rfl ?_
              refine g_X9_54 (pc := 70) (v := .ref 152) rfl dX9_span_70 (c_140 _) rfl ?_
              refine R_iload_n (pc := 73) dX9_span_73 rfl rfl ?_
              have hx17 : vp_in a 20 := (vp_of_inR h1 (by decide))
              refine R_iaload (pc := 74) dX9_span_74 (c_152 _) hx17 ?_
              have hx18 : vp_in (σx8.2.2.1 152 (Int32.toNatClampNeg a)) 20 := (vp_of_inR (iva_152 hV7 _ (lt_of_vp hx17)) (by decide))
              refine R_iaload (pc := 75) dX9_span_75 (c_164 _) hx18 ?_
              exact R_iret (pc := 76) dX9_span_76 rfl rfl (Nat.zero_le _) (Nat.zero_le _) ⟨_, rfl, _, rfl, hV7, hW10⟩
            · skip
              refine R_aload_n (pc := 51) dX9_span_51 rfl rfl ?_
              refine g_X9_87 (pc := 52) (v := .ref 163) rfl dX9_span_52 (c_140 _) rfl ?_
              refine R_aload_n (pc := 55) dX9_span_55 rfl rfl ?_
              refine g_X9_54 (pc := 56) (v := .ref 152) rfl dX9_span_56 (c_140 _) rfl ?_
              refine R_iload_n (pc := 59) dX9_span_59 rfl rfl ?_
              have hx19 : vp_in a 20 := (vp_of_inR h1 (by decide))
              refine R_iaload (pc := 60) dX9_span_60 (c_152 _) hx19 ?_
              have hx20 : vp_in (σx8.2.2.1 152 (Int32.toNatClampNeg a)) 20 := (vp_of_inR (iva_152 hV7 _ (lt_of_vp hx19)) (by decide))
              refine R_iaload (pc := 61) dX9_span_61 (c_163 _) hx20 ?_
              refine R_goto (pc := 62) 76 dX9_span_62 (by decide) ?_
              exact R_iret (pc := 76) dX9_span_76 rfl rfl (Nat.zero_le _) (Nat.zero_le _) ⟨_, rfl, _, rfl, hV7, hW10⟩
        · skip
          refine R_ifne (pc := 38) 43 dX9_span_38 (by decide) (fun h => absurd (by decide) h) (fun _ => ?_)
          refine R_iconst (pc := 41) (v := (-1)) dX9_span_41 (by decide) ?_
          exact R_iret (pc := 42) dX9_span_42 rfl rfl (Nat.zero_le _) (Nat.zero_le _) ⟨_, rfl, _, rfl, hV7, hW10⟩
      · skip
        refine R_ifne (pc := 26) 32 dX9_span_26 (by decide) (fun h => absurd (by decide) h) (fun _ => ?_)
        refine R_bipush (pc := 29) (v := (-3)) dX9_span_29 (by decide) ?_
        exact R_iret (pc := 31) dX9_span_31 rfl rfl (Nat.zero_le _) (Nat.zero_le _) ⟨_, rfl, _, rfl, hI, (show Cor σ σ from Cor.rfl' σ)⟩
    · skip
      refine R_ifeq (pc := 17) 29 dX9_span_17 (by decide) (fun _ => ?_) (fun h => absurd (by decide) h)
      refine R_bipush (pc := 29) (v := (-3)) dX9_span_29 (by decide) ?_
      exact R_iret (pc := 31) dX9_span_31 rfl rfl (Nat.zero_le _) (Nat.zero_le _) ⟨_, rfl, _, rfl, hI, (show Cor σ σ from Cor.rfl' σ)⟩
  · skip
    refine R_ifne (pc := 5) 11 dX9_span_5 (by decide) (fun h => absurd (by decide) h) (fun _ => ?_)
    refine R_bipush (pc := 8) (v := (-2)) dX9_span_8 (by decide) ?_
    exact R_iret (pc := 10) dX9_span_10 rfl rfl (Nat.zero_le _) (Nat.zero_le _) ⟨_, rfl, _, rfl, hI, (show Cor σ σ from Cor.rfl' σ)⟩
theorem dX9_quarrel_0 : decode cX9_quarrel 0 = .ok (.aload_n 0, 1) := by decide +kernel
theorem dX9_quarrel_1 : decode cX9_quarrel 1 = .ok (.iconst (-1), 1) := by decide +kernel
theorem dX9_quarrel_2 : decode cX9_quarrel 2 = .ok (.iconst 1, 1) := by decide +kernel
theorem dX9_quarrel_3 : decode cX9_quarrel 3 = .ok (.invokevirtual 228, 3) := by decide +kernel
theorem dX9_quarrel_6 : decode cX9_quarrel 6 = .ok (.ifCond .eq 7, 3) := by decide +kernel
theorem dX9_quarrel_9 : decode cX9_quarrel 9 = .ok (.iconst 0, 1) := by decide +kernel
theorem dX9_quarrel_10 : decode cX9_quarrel 10 = .ok (.goto 4, 3) := by decide +kernel
theorem dX9_quarrel_13 : decode cX9_quarrel 13 = .ok (.iconst 1, 1) := by decide +kernel
theorem dX9_quarrel_14 : decode cX9_quarrel 14 = .ok (.ireturn, 1) := by decide +kernel
set_option maxRecDepth 100000 in
set_option maxHeartbeats 40000000 in
theorem gp_m_quarrel {G : vG} {l : Launch} (σ : Sg)  (hI : Inv σ) : Sp G l yX9_quarrel cX9_quarrel 1 (some .int) 5 0 0 [.ref 140] (WW σ) (QI (fun _ w2 => ∃ σ2, w2 = WW σ2 ∧ Inv σ2 ∧ Cor σ σ2)) := by
  refine Sp_of_R [(some (.ref 140))] [] rfl (by simp) rfl (Nat.le_of_ble_eq_true rfl) ?_
  refine R_aload_n (pc := 0) dX9_quarrel_0 rfl rfl ?_
  refine R_iconst (pc := 1) (v := (-1)) dX9_quarrel_1 (by decide) ?_
  refine R_iconst (pc := 2) (v := 1) dX9_quarrel_2 (by decide) ?_
  refine k_X9_228 (pc := 3) (gx_X9_areSpans _ _ _ hI) rfl (c_140 _) (by decide) (Nat.le_refl _) (Nat.le_refl _) (Nat.le_of_ble_eq_true rfl) dX9_quarrel_3 (fun x w2 h => ?_)
  obtain ⟨hb, σx2, rfl, hV1, hW3⟩ := h
  have hW4 := Cor.trans (show Cor σ σ from Cor.rfl' σ) hW3
  rcases hb with rfl | rfl
  · skip
    refine R_ifeq (pc := 6) 13 dX9_quarrel_6 (by decide) (fun h => absurd h (by decide)) (fun _ => ?_)
    refine R_iconst (pc := 9) (v := 0) dX9_quarrel_9 (by decide) ?_
    refine R_goto (pc := 10) 14 dX9_quarrel_10 (by decide) ?_
    exact R_iret (pc := 14) dX9_quarrel_14 rfl rfl (Nat.zero_le _) (Nat.zero_le _) ⟨_, rfl, _, rfl, hV1, hW4⟩
  · skip
    refine R_ifeq (pc := 6) 13 dX9_quarrel_6 (by decide) (fun _ => ?_) (fun h => absurd (by decide) h)
    refine R_iconst (pc := 13) (v := 1) dX9_quarrel_13 (by decide) ?_
    exact R_iret (pc := 14) dX9_quarrel_14 rfl rfl (Nat.zero_le _) (Nat.zero_le _) ⟨_, rfl, _, rfl, hV1, hW4⟩
theorem dX9_culprit_0 : decode cX9_culprit 0 = .ok (.aload_n 0, 1) := by decide +kernel
theorem dX9_culprit_1 : decode cX9_culprit 1 = .ok (.iconst (-1), 1) := by decide +kernel
theorem dX9_culprit_2 : decode cX9_culprit 2 = .ok (.iconst 1, 1) := by decide +kernel
theorem dX9_culprit_3 : decode cX9_culprit 3 = .ok (.invokevirtual 228, 3) := by decide +kernel
theorem dX9_culprit_6 : decode cX9_culprit 6 = .ok (.ifCond .eq 5, 3) := by decide +kernel
theorem dX9_culprit_9 : decode cX9_culprit 9 = .ok (.iconst (-1), 1) := by decide +kernel
theorem dX9_culprit_10 : decode cX9_culprit 10 = .ok (.ireturn, 1) := by decide +kernel
theorem dX9_culprit_11 : decode cX9_culprit 11 = .ok (.iconst 0, 1) := by decide +kernel
theorem dX9_culprit_12 : decode cX9_culprit 12 = .ok (.istore_n 1, 1) := by decide +kernel
theorem dX9_culprit_13 : decode cX9_culprit 13 = .ok (.iload_n 1, 1) := by decide +kernel
theorem dX9_culprit_14 : decode cX9_culprit 14 = .ok (.aload_n 0, 1) := by decide +kernel
theorem dX9_culprit_15 : decode cX9_culprit 15 = .ok (.invokevirtual 120, 3) := by decide +kernel
theorem dX9_culprit_18 : decode cX9_culprit 18 = .ok (.if_icmp .ge 20, 3) := by decide +kernel
theorem dX9_culprit_21 : decode cX9_culprit 21 = .ok (.aload_n 0, 1) := by decide +kernel
theorem dX9_culprit_22 : decode cX9_culprit 22 = .ok (.iload_n 1, 1) := by decide +kernel
theorem dX9_culprit_23 : decode cX9_culprit 23 = .ok (.iconst 1, 1) := by decide +kernel
theorem dX9_culprit_24 : decode cX9_culprit 24 = .ok (.invokevirtual 228, 3) := by decide +kernel
theorem dX9_culprit_27 : decode cX9_culprit 27 = .ok (.ifCond .eq 5, 3) := by decide +kernel
theorem dX9_culprit_30 : decode cX9_culprit 30 = .ok (.iload_n 1, 1) := by decide +kernel
theorem dX9_culprit_31 : decode cX9_culprit 31 = .ok (.ireturn, 1) := by decide +kernel
theorem dX9_culprit_32 : decode cX9_culprit 32 = .ok (.iinc 1 1, 3) := by decide +kernel
theorem dX9_culprit_35 : decode cX9_culprit 35 = .ok (.goto (-22), 3) := by decide +kernel
theorem dX9_culprit_38 : decode cX9_culprit 38 = .ok (.iconst (-1), 1) := by decide +kernel
theorem dX9_culprit_39 : decode cX9_culprit 39 = .ok (.ireturn, 1) := by decide +kernel
set_option maxRecDepth 100000 in
set_option maxHeartbeats 40000000 in
theorem gp_m_culprit {G : vG} {l : Launch} (σ : Sg)  (hI : Inv σ) : Sp G l yX9_culprit cX9_culprit 2 (some .int) 5 0 0 [.ref 140] (WW σ) (QI (fun _ w2 => ∃ σ2, w2 = WW σ2 ∧ Inv σ2 ∧ Cor σ σ2)) := by
  refine Sp_of_R [(some (.ref 140)), none] [none] rfl (by simp) rfl (Nat.le_of_ble_eq_true rfl) ?_
  refine R_aload_n (pc := 0) dX9_culprit_0 rfl rfl ?_
  refine R_iconst (pc := 1) (v := (-1)) dX9_culprit_1 (by decide) ?_
  refine R_iconst (pc := 2) (v := 1) dX9_culprit_2 (by decide) ?_
  refine k_X9_228 (pc := 3) (gx_X9_areSpans _ _ _ hI) rfl (c_140 _) (by decide) (Nat.le_refl _) (Nat.le_refl _) (Nat.le_of_ble_eq_true rfl) dX9_culprit_3 (fun x w2 h => ?_)
  obtain ⟨hb, σx2, rfl, hV1, hW3⟩ := h
  have hW4 := Cor.trans (show Cor σ σ from Cor.rfl' σ) hW3
  rcases hb with rfl | rfl
  · skip
    refine R_ifeq (pc := 6) 11 dX9_culprit_6 (by decide) (fun h => absurd h (by decide)) (fun _ => ?_)
    refine R_iconst (pc := 9) (v := (-1)) dX9_culprit_9 (by decide) ?_
    exact R_iret (pc := 10) dX9_culprit_10 rfl rfl (Nat.zero_le _) (Nat.zero_le _) ⟨_, rfl, _, rfl, hV1, hW4⟩
  · skip
    refine R_ifeq (pc := 6) 11 dX9_culprit_6 (by decide) (fun _ => ?_) (fun h => absurd (by decide) h)
    refine R_iconst (pc := 11) (v := 0) dX9_culprit_11 (by decide) ?_
    refine st_2_1_i_a (pc := 12) dX9_culprit_12 ?_
    have HL13 : ∀ (q j13 : Nat) (σ13 : Sg), j13 + q = 20 → 0 ≤ j13 → Inv σ13 → Cor σ σ13 → R G l yX9_culprit cX9_culprit 2 (some .int) 5 0 0 (QI (fun _ w2 => ∃ σ2, w2 = WW σ2 ∧ Inv σ2 ∧ Cor σ σ2)) 13 [(some (.ref 140)), (some (.int (nI j13)))] [] (WW σ13) 0 0 := by
      intro q
      induction q with
      | zero =>
        intro j13 σ13 hj hs13 hI13 hC13
        obtain rfl : j13 = 20 := by omega
        refine R_iload_n (pc := 13) dX9_culprit_13 rfl rfl ?_
        refine R_aload_n (pc := 14) dX9_culprit_14 rfl rfl ?_
        refine k_X9_120 (pc := 15) (ge_X9_thereMany _ hI13) rfl (c_140 _) (by decide) (Nat.le_refl _) (Nat.le_refl _) (Nat.le_of_ble_eq_true rfl) dX9_culprit_15 (fun x w2 h => ?_)
        obtain ⟨rfl, rfl⟩ := h
        refine R_icge (pc := 18) 38 dX9_culprit_18 (by decide) (fun _ => ?_) (fun h => absurd (Int32.not_lt.mp (inR_up (tm_in (σ13.1 14000) (σ13.1 14013) (σ13.2.2.1 148)) (Int32.le_refl _) (by decide)).2) h)
        refine R_iconst (pc := 38) (v := (-1)) dX9_culprit_38 (by decide) ?_
        exact R_iret (pc := 39) dX9_culprit_39 rfl rfl (Nat.zero_le _) (Nat.zero_le _) ⟨_, rfl, _, rfl, hI13, hC13⟩
      | succ q ih13 =>
        intro j13 σ13 hj hs13 hI13 hC13
        have hrg13 : inR (nI j13) 0 19 := inR_ix hs13 (show j13 < 20 by omega) (by decide) (by decide) (by decide)
        have hlt13 : j13 < 20 := by omega
        refine R_iload_n (pc := 13) dX9_culprit_13 rfl rfl ?_
        refine R_aload_n (pc := 14) dX9_culprit_14 rfl rfl ?_
        refine k_X9_120 (pc := 15) (ge_X9_thereMany _ hI13) rfl (c_140 _) (by decide) (Nat.le_refl _) (Nat.le_refl _) (Nat.le_of_ble_eq_true rfl) dX9_culprit_15 (fun x w2 h => ?_)
        obtain ⟨rfl, rfl⟩ := h
        refine R_icge (pc := 18) 38 dX9_culprit_18 (by decide) (fun b18_8 => ?_) (fun b18_8 => ?_)
        · skip
          refine R_iconst (pc := 38) (v := (-1)) dX9_culprit_38 (by decide) ?_
          exact R_iret (pc := 39) dX9_culprit_39 rfl rfl (Nat.zero_le _) (Nat.zero_le _) ⟨_, rfl, _, rfl, hI13, hC13⟩
        · skip
          refine R_aload_n (pc := 21) dX9_culprit_21 rfl rfl ?_
          refine R_iload_n (pc := 22) dX9_culprit_22 rfl rfl ?_
          refine R_iconst (pc := 23) (v := 1) dX9_culprit_23 (by decide) ?_
          refine k_X9_228 (pc := 24) (gx_X9_areSpans _ _ _ hI13) rfl (c_140 _) (by decide) (Nat.le_refl _) (Nat.le_refl _) (Nat.le_of_ble_eq_true rfl) dX9_culprit_24 (fun x w2 h => ?_)
          obtain ⟨hb, σx10, rfl, hV9, hW11⟩ := h
          have hW12 := Cor.trans hC13 hW11
          rcases hb with rfl | rfl
          · skip
            refine R_ifeq (pc := 27) 32 dX9_culprit_27 (by decide) (fun h => absurd h (by decide)) (fun _ => ?_)
            refine R_iload_n (pc := 30) dX9_culprit_30 rfl rfl ?_
            exact R_iret (pc := 31) dX9_culprit_31 rfl rfl (Nat.zero_le _) (Nat.zero_le _) ⟨_, rfl, _, rfl, hV9, hW12⟩
          · skip
            refine R_ifeq (pc := 27) 32 dX9_culprit_27 (by decide) (fun _ => ?_) (fun h => absurd (by decide) h)
            refine inc_2_1_1_a (pc := 32) dX9_culprit_32 ?_
            have r15 : inR ((nI j13) + 1) 1 20 := inR_add (show inR (nI j13) 0 19 from hrg13) (show inR 1 1 1 from (inR_self _)) (by decide) (by decide)
            have e16 := ti_add (l := 1) (h := 20) (show inR (nI j13) 0 19 from hrg13) (show inR 1 1 1 from (inR_self _)) (by decide) (by decide)
            refine R_goto (pc := 35) 13 dX9_culprit_35 (by decide) ?_
            rw [nI_1]
            exact ih13 (j13 + 1) _ (by omega) (by omega) hV9 hW12
    exact HL13 20 0 _ (by omega) (by omega) hV1 hW4
theorem dX9_breaks_0 : decode cX9_breaks 0 = .ok (.iload_n 1, 1) := by decide +kernel
theorem dX9_breaks_1 : decode cX9_breaks 1 = .ok (.iconst 0, 1) := by decide +kernel
theorem dX9_breaks_2 : decode cX9_breaks 2 = .ok (.aload_n 0, 1) := by decide +kernel
theorem dX9_breaks_3 : decode cX9_breaks 3 = .ok (.getfield 215, 3) := by decide +kernel
theorem dX9_breaks_6 : decode cX9_breaks 6 = .ok (.iconst 1, 1) := by decide +kernel
theorem dX9_breaks_7 : decode cX9_breaks 7 = .ok (.isub, 1) := by decide +kernel
theorem dX9_breaks_8 : decode cX9_breaks 8 = .ok (.invokestatic 124, 3) := by decide +kernel
theorem dX9_breaks_11 : decode cX9_breaks 11 = .ok (.ifCond .ne 6, 3) := by decide +kernel
theorem dX9_breaks_14 : decode cX9_breaks 14 = .ok (.bipush (-2), 2) := by decide +kernel
theorem dX9_breaks_16 : decode cX9_breaks 16 = .ok (.ireturn, 1) := by decide +kernel
theorem dX9_breaks_17 : decode cX9_breaks 17 = .ok (.aload_n 0, 1) := by decide +kernel
theorem dX9_breaks_18 : decode cX9_breaks 18 = .ok (.getfield 114, 3) := by decide +kernel
theorem dX9_breaks_21 : decode cX9_breaks 21 = .ok (.bipush 6, 2) := by decide +kernel
theorem dX9_breaks_23 : decode cX9_breaks 23 = .ok (.iload_n 1, 1) := by decide +kernel
theorem dX9_breaks_24 : decode cX9_breaks 24 = .ok (.imul, 1) := by decide +kernel
theorem dX9_breaks_25 : decode cX9_breaks 25 = .ok (.iconst 3, 1) := by decide +kernel
theorem dX9_breaks_26 : decode cX9_breaks 26 = .ok (.iadd, 1) := by decide +kernel
theorem dX9_breaks_27 : decode cX9_breaks 27 = .ok (.iaload, 1) := by decide +kernel
theorem dX9_breaks_28 : decode cX9_breaks 28 = .ok (.iconst 1, 1) := by decide +kernel
theorem dX9_breaks_29 : decode cX9_breaks 29 = .ok (.if_icmp .ne 7, 3) := by decide +kernel
theorem dX9_breaks_32 : decode cX9_breaks 32 = .ok (.iconst 1, 1) := by decide +kernel
theorem dX9_breaks_33 : decode cX9_breaks 33 = .ok (.goto 4, 3) := by decide +kernel
theorem dX9_breaks_36 : decode cX9_breaks 36 = .ok (.iconst 0, 1) := by decide +kernel
theorem dX9_breaks_37 : decode cX9_breaks 37 = .ok (.istore_n 2, 1) := by decide +kernel
theorem dX9_breaks_38 : decode cX9_breaks 38 = .ok (.iload_n 2, 1) := by decide +kernel
theorem dX9_breaks_39 : decode cX9_breaks 39 = .ok (.ifCond .eq 15, 3) := by decide +kernel
theorem dX9_breaks_42 : decode cX9_breaks 42 = .ok (.aload_n 0, 1) := by decide +kernel
theorem dX9_breaks_43 : decode cX9_breaks 43 = .ok (.iconst (-1), 1) := by decide +kernel
theorem dX9_breaks_44 : decode cX9_breaks 44 = .ok (.iconst 0, 1) := by decide +kernel
theorem dX9_breaks_45 : decode cX9_breaks 45 = .ok (.invokevirtual 228, 3) := by decide +kernel
theorem dX9_breaks_48 : decode cX9_breaks 48 = .ok (.ifCond .ne 6, 3) := by decide +kernel
theorem dX9_breaks_51 : decode cX9_breaks 51 = .ok (.bipush (-4), 2) := by decide +kernel
theorem dX9_breaks_53 : decode cX9_breaks 53 = .ok (.ireturn, 1) := by decide +kernel
theorem dX9_breaks_54 : decode cX9_breaks 54 = .ok (.iconst 0, 1) := by decide +kernel
theorem dX9_breaks_55 : decode cX9_breaks 55 = .ok (.istore_n 3, 1) := by decide +kernel
theorem dX9_breaks_56 : decode cX9_breaks 56 = .ok (.iconst 0, 1) := by decide +kernel
theorem dX9_breaks_57 : decode cX9_breaks 57 = .ok (.istore 4, 2) := by decide +kernel
theorem dX9_breaks_59 : decode cX9_breaks 59 = .ok (.iload 4, 2) := by decide +kernel
theorem dX9_breaks_61 : decode cX9_breaks 61 = .ok (.aload_n 0, 1) := by decide +kernel
theorem dX9_breaks_62 : decode cX9_breaks 62 = .ok (.invokevirtual 120, 3) := by decide +kernel
theorem dX9_breaks_65 : decode cX9_breaks 65 = .ok (.if_icmp .ge 120, 3) := by decide +kernel
theorem dX9_breaks_68 : decode cX9_breaks 68 = .ok (.iload_n 2, 1) := by decide +kernel
theorem dX9_breaks_69 : decode cX9_breaks 69 = .ok (.ifCond .eq 53, 3) := by decide +kernel
theorem dX9_breaks_72 : decode cX9_breaks 72 = .ok (.aload_n 0, 1) := by decide +kernel
theorem dX9_breaks_73 : decode cX9_breaks 73 = .ok (.getfield 93, 3) := by decide +kernel
theorem dX9_breaks_76 : decode cX9_breaks 76 = .ok (.iload 4, 2) := by decide +kernel
theorem dX9_breaks_78 : decode cX9_breaks 78 = .ok (.iaload, 1) := by decide +kernel
theorem dX9_breaks_79 : decode cX9_breaks 79 = .ok (.aload_n 0, 1) := by decide +kernel
theorem dX9_breaks_80 : decode cX9_breaks 80 = .ok (.getfield 114, 3) := by decide +kernel
theorem dX9_breaks_83 : decode cX9_breaks 83 = .ok (.bipush 6, 2) := by decide +kernel
theorem dX9_breaks_85 : decode cX9_breaks 85 = .ok (.iload_n 1, 1) := by decide +kernel
theorem dX9_breaks_86 : decode cX9_breaks 86 = .ok (.imul, 1) := by decide +kernel
theorem dX9_breaks_87 : decode cX9_breaks 87 = .ok (.iconst 5, 1) := by decide +kernel
theorem dX9_breaks_88 : decode cX9_breaks 88 = .ok (.iadd, 1) := by decide +kernel
theorem dX9_breaks_89 : decode cX9_breaks 89 = .ok (.iaload, 1) := by decide +kernel
theorem dX9_breaks_90 : decode cX9_breaks 90 = .ok (.if_icmp .gt 24, 3) := by decide +kernel
theorem dX9_breaks_93 : decode cX9_breaks 93 = .ok (.aload_n 0, 1) := by decide +kernel
theorem dX9_breaks_94 : decode cX9_breaks 94 = .ok (.getfield 96, 3) := by decide +kernel
theorem dX9_breaks_97 : decode cX9_breaks 97 = .ok (.iload 4, 2) := by decide +kernel
theorem dX9_breaks_99 : decode cX9_breaks 99 = .ok (.iaload, 1) := by decide +kernel
theorem dX9_breaks_100 : decode cX9_breaks 100 = .ok (.aload_n 0, 1) := by decide +kernel
theorem dX9_breaks_101 : decode cX9_breaks 101 = .ok (.getfield 114, 3) := by decide +kernel
theorem dX9_breaks_104 : decode cX9_breaks 104 = .ok (.bipush 6, 2) := by decide +kernel
theorem dX9_breaks_106 : decode cX9_breaks 106 = .ok (.iload_n 1, 1) := by decide +kernel
theorem dX9_breaks_107 : decode cX9_breaks 107 = .ok (.imul, 1) := by decide +kernel
theorem dX9_breaks_108 : decode cX9_breaks 108 = .ok (.iconst 4, 1) := by decide +kernel
theorem dX9_breaks_109 : decode cX9_breaks 109 = .ok (.iadd, 1) := by decide +kernel
theorem dX9_breaks_110 : decode cX9_breaks 110 = .ok (.iaload, 1) := by decide +kernel
theorem dX9_breaks_111 : decode cX9_breaks 111 = .ok (.if_icmp .ge 7, 3) := by decide +kernel
theorem dX9_breaks_114 : decode cX9_breaks 114 = .ok (.iconst 1, 1) := by decide +kernel
theorem dX9_breaks_115 : decode cX9_breaks 115 = .ok (.goto 33, 3) := by decide +kernel
theorem dX9_breaks_118 : decode cX9_breaks 118 = .ok (.iconst 0, 1) := by decide +kernel
theorem dX9_breaks_119 : decode cX9_breaks 119 = .ok (.goto 29, 3) := by decide +kernel
theorem dX9_breaks_122 : decode cX9_breaks 122 = .ok (.aload_n 0, 1) := by decide +kernel
theorem dX9_breaks_123 : decode cX9_breaks 123 = .ok (.getfield 19, 3) := by decide +kernel
theorem dX9_breaks_126 : decode cX9_breaks 126 = .ok (.iload 4, 2) := by decide +kernel
theorem dX9_breaks_128 : decode cX9_breaks 128 = .ok (.iaload, 1) := by decide +kernel
theorem dX9_breaks_129 : decode cX9_breaks 129 = .ok (.aload_n 0, 1) := by decide +kernel
theorem dX9_breaks_130 : decode cX9_breaks 130 = .ok (.getfield 114, 3) := by decide +kernel
theorem dX9_breaks_133 : decode cX9_breaks 133 = .ok (.bipush 6, 2) := by decide +kernel
theorem dX9_breaks_135 : decode cX9_breaks 135 = .ok (.iload_n 1, 1) := by decide +kernel
theorem dX9_breaks_136 : decode cX9_breaks 136 = .ok (.imul, 1) := by decide +kernel
theorem dX9_breaks_137 : decode cX9_breaks 137 = .ok (.iconst 4, 1) := by decide +kernel
theorem dX9_breaks_138 : decode cX9_breaks 138 = .ok (.iadd, 1) := by decide +kernel
theorem dX9_breaks_139 : decode cX9_breaks 139 = .ok (.iaload, 1) := by decide +kernel
theorem dX9_breaks_140 : decode cX9_breaks 140 = .ok (.if_icmp .eq 7, 3) := by decide +kernel
theorem dX9_breaks_143 : decode cX9_breaks 143 = .ok (.iconst 1, 1) := by decide +kernel
theorem dX9_breaks_144 : decode cX9_breaks 144 = .ok (.goto 4, 3) := by decide +kernel
theorem dX9_breaks_147 : decode cX9_breaks 147 = .ok (.iconst 0, 1) := by decide +kernel
theorem dX9_breaks_148 : decode cX9_breaks 148 = .ok (.istore 5, 2) := by decide +kernel
theorem dX9_breaks_150 : decode cX9_breaks 150 = .ok (.iload_n 3, 1) := by decide +kernel
theorem dX9_breaks_151 : decode cX9_breaks 151 = .ok (.aload_n 0, 1) := by decide +kernel
theorem dX9_breaks_152 : decode cX9_breaks 152 = .ok (.iload 4, 2) := by decide +kernel
theorem dX9_breaks_154 : decode cX9_breaks 154 = .ok (.bipush 6, 2) := by decide +kernel
theorem dX9_breaks_156 : decode cX9_breaks 156 = .ok (.iload_n 1, 1) := by decide +kernel
theorem dX9_breaks_157 : decode cX9_breaks 157 = .ok (.imul, 1) := by decide +kernel
theorem dX9_breaks_158 : decode cX9_breaks 158 = .ok (.invokevirtual 218, 3) := by decide +kernel
theorem dX9_breaks_161 : decode cX9_breaks 161 = .ok (.ifCond .eq 15, 3) := by decide +kernel
theorem dX9_breaks_164 : decode cX9_breaks 164 = .ok (.iload 5, 2) := by decide +kernel
theorem dX9_breaks_166 : decode cX9_breaks 166 = .ok (.ifCond .eq 10, 3) := by decide +kernel
theorem dX9_breaks_169 : decode cX9_breaks 169 = .ok (.iconst 1, 1) := by decide +kernel
theorem dX9_breaks_170 : decode cX9_breaks 170 = .ok (.iload 4, 2) := by decide +kernel
theorem dX9_breaks_172 : decode cX9_breaks 172 = .ok (.ishl, 1) := by decide +kernel
theorem dX9_breaks_173 : decode cX9_breaks 173 = .ok (.goto 4, 3) := by decide +kernel
theorem dX9_breaks_176 : decode cX9_breaks 176 = .ok (.iconst 0, 1) := by decide +kernel
theorem dX9_breaks_177 : decode cX9_breaks 177 = .ok (.ior, 1) := by decide +kernel
theorem dX9_breaks_178 : decode cX9_breaks 178 = .ok (.istore_n 3, 1) := by decide +kernel
theorem dX9_breaks_179 : decode cX9_breaks 179 = .ok (.iinc 4 1, 3) := by decide +kernel
theorem dX9_breaks_182 : decode cX9_breaks 182 = .ok (.goto (-123), 3) := by decide +kernel
theorem dX9_breaks_185 : decode cX9_breaks 185 = .ok (.iload_n 3, 1) := by decide +kernel
theorem dX9_breaks_186 : decode cX9_breaks 186 = .ok (.ireturn, 1) := by decide +kernel
set_option maxRecDepth 100000 in
set_option maxHeartbeats 40000000 in
theorem gp_m_breaks {G : vG} {l : Launch} (σ : Sg) (a : Int32) (hI : Inv σ) : Sp G l yX9_breaks cX9_breaks 6 (some .int) 5 0 0 [.ref 140, .int a] (WW σ) (QI (fun _ w2 => ∃ σ2, w2 = WW σ2 ∧ Inv σ2 ∧ Cor σ σ2)) := by
  refine Sp_of_R [(some (.ref 140)), (some (.int a)), none, none, none, none] [none, none, none, none] rfl (by simp) rfl (Nat.le_of_ble_eq_true rfl) ?_
  refine R_iload_n (pc := 0) dX9_breaks_0 rfl rfl ?_
  refine R_iconst (pc := 1) (v := 0) dX9_breaks_1 (by decide) ?_
  refine R_aload_n (pc := 2) dX9_breaks_2 rfl rfl ?_
  refine g_X9_215 (pc := 3) (v := .int (σ.1 14047)) rfl dX9_breaks_3 (c_140 _) rfl ?_
  refine R_iconst (pc := 6) (v := 1) dX9_breaks_6 (by decide) ?_
  refine R_isub (pc := 7) dX9_breaks_7 ?_
  have r1 : inR ((σ.1 14047) - 1) (-1) 7 := inR_sub (show inR (σ.1 14047) 0 8 from (iv_14047 hI)) (show inR 1 1 1 from (inR_self _)) (by decide) (by decide)
  have e2 := ti_sub (l := (-1)) (h := 7) (show inR (σ.1 14047) 0 8 from (iv_14047 hI)) (show inR 1 1 1 from (inR_self _)) (by decide) (by decide)
  refine k_X9_124 (pc := 8) (sp_X9_in _ _ _ _) rfl (by decide) (Nat.le_refl _) (Nat.le_refl _) (Nat.le_of_ble_eq_true rfl) dX9_breaks_8 (fun x w2 h => ?_)
  rcases h with ⟨rfl, ⟨h3, rfl⟩ | ⟨h3, rfl⟩⟩
  · skip
    have hr4 : inR a 0 7 := of_ti (by have q0 := e2; have q1 := ti_in h3; have q2 := ti_in (iv_14047 hI); have q3 := ti_in r1; have z0 : (-1 : Int32).toInt = -1 := (by decide); have z1 : (0 : Int32).toInt = 0 := (by decide); have z2 : (1 : Int32).toInt = 1 := (by decide); have z3 : (7 : Int32).toInt = 7 := (by decide); have z4 : (8 : Int32).toInt = 8 := (by decide); omega) (by have q0 := e2; have q1 := ti_in h3; have q2 := ti_in (iv_14047 hI); have q3 := ti_in r1; have z0 : (-1 : Int32).toInt = -1 := (by decide); have z1 : (0 : Int32).toInt = 0 := (by decide); have z2 : (1 : Int32).toInt = 1 := (by decide); have z3 : (7 : Int32).toInt = 7 := (by decide); have z4 : (8 : Int32).toInt = 8 := (by decide); omega)
    refine R_ifne (pc := 11) 17 dX9_breaks_11 (by decide) (fun _ => ?_) (fun h => absurd h (by decide))
    refine R_aload_n (pc := 17) dX9_breaks_17 rfl rfl ?_
    refine g_X9_114 (pc := 18) (v := .ref 172) rfl dX9_breaks_18 (c_140 _) rfl ?_
    refine R_bipush (pc := 21) (v := 6) dX9_breaks_21 (by decide) ?_
    refine R_iload_n (pc := 23) dX9_breaks_23 rfl rfl ?_
    refine R_imul (pc := 24) dX9_breaks_24 ?_
    have r6 : inR (6 * a) 0 42 := inR_mulc (c := 6) (l := 0) (h := 42) 6 (by decide) (show inR a 0 7 from hr4) (by decide) (by decide)
    have e7 := ti_mulc (c := 6) (l := 0) (h := 42) 6 (by decide) (show inR a 0 7 from hr4) (by decide) (by decide)
    refine R_iconst (pc := 25) (v := 3) dX9_breaks_25 (by decide) ?_
    refine R_iadd (pc := 26) dX9_breaks_26 ?_
    have r8 : inR ((6 * a) + 3) 3 45 := inR_add (show inR (6 * a) 0 42 from r6) (show inR 3 3 3 from (inR_self _)) (by decide) (by decide)
    have e9 := ti_add (l := 3) (h := 45) (show inR (6 * a) 0 42 from r6) (show inR 3 3 3 from (inR_self _)) (by decide) (by decide)
    have hx10 : vp_in ((6 * a) + 3) 48 := (vp_ti (by have q0 := e2; have q1 := ti_in h3; have q2 := e7; have q3 := e9; have q4 := ti_in (iv_14047 hI); have q5 := ti_in r1; have q6 := ti_in hr4; have q7 := ti_in r6; have q8 := ti_in r8; have z0 : (-1 : Int32).toInt = -1 := (by decide); have z1 : (0 : Int32).toInt = 0 := (by decide); have z2 : (1 : Int32).toInt = 1 := (by decide); have z3 : (3 : Int32).toInt = 3 := (by decide); have z4 : (42 : Int32).toInt = 42 := (by decide); have z5 : (45 : Int32).toInt = 45 := (by decide); have z6 : (7 : Int32).toInt = 7 := (by decide); have z7 : (8 : Int32).toInt = 8 := (by decide); omega) (by have q0 := e2; have q1 := ti_in h3; have q2 := e7; have q3 := e9; have q4 := ti_in (iv_14047 hI); have q5 := ti_in r1; have q6 := ti_in hr4; have q7 := ti_in r6; have q8 := ti_in r8; have z0 : (-1 : Int32).toInt = -1 := (by decide); have z1 : (0 : Int32).toInt = 0 := (by decide); have z2 : (1 : Int32).toInt = 1 := (by decide); have z3 : (3 : Int32).toInt = 3 := (by decide); have z4 : (42 : Int32).toInt = 42 := (by decide); have z5 : (45 : Int32).toInt = 45 := (by decide); have z6 : (7 : Int32).toInt = 7 := (by decide); have z7 : (8 : Int32).toInt = 8 := (by decide); omega))
    refine R_iaload (pc := 27) dX9_breaks_27 (c_172 _) hx10 ?_
    refine R_iconst (pc := 28) (v := 1) dX9_breaks_28 (by decide) ?_
    refine R_icne (pc := 29) 36 dX9_breaks_29 (by decide) (fun b29_11 => ?_) (fun b29_11 => ?_)
    · skip
      refine R_iconst (pc := 36) (v := 0) dX9_breaks_36 (by decide) ?_
      refine st_6_2_i_i (pc := 37) dX9_breaks_37 ?_
      refine R_iload_n (pc := 38) dX9_breaks_38 rfl rfl ?_
      refine R_ifeq (pc := 39) 54 dX9_breaks_39 (by decide) (fun _ => ?_) (fun h => absurd (by decide) h)
      refine R_iconst (pc := 54) (v := 0) dX9_breaks_54 (by decide) ?_
      refine st_6_3_i_i (pc := 55) dX9_breaks_55 ?_
      refine R_iconst (pc := 56) (v := 0) dX9_breaks_56 (by decide) ?_
      refine st_6_4_i_i (pc := 57) dX9_breaks_57 ?_
      have HL59 : ∀ (q j59 : Nat) (g3_59 : Int32) (g5_59 : Option Value), j59 + q = 20 → 0 ≤ j59 → R G l yX9_breaks cX9_breaks 6 (some .int) 5 0 0 (QI (fun _ w2 => ∃ σ2, w2 = WW σ2 ∧ Inv σ2 ∧ Cor σ σ2)) 59 [(some (.ref 140)), (some (.int a)), (some (.int 0)), (some (.int g3_59)), (some (.int (nI j59))), g5_59] [] (WW σ) 0 0 := by
        intro q
        induction q with
        | zero =>
          intro j59 g3_59 g5_59 hj hs59
          obtain rfl : j59 = 20 := by omega
          refine R_iload (pc := 59) dX9_breaks_59 rfl ?_
          refine R_aload_n (pc := 61) dX9_breaks_61 rfl rfl ?_
          refine k_X9_120 (pc := 62) (ge_X9_thereMany _ hI) rfl (c_140 _) (by decide) (Nat.le_refl _) (Nat.le_refl _) (Nat.le_of_ble_eq_true rfl) dX9_breaks_62 (fun x w2 h => ?_)
          obtain ⟨rfl, rfl⟩ := h
          refine R_icge (pc := 65) 185 dX9_breaks_65 (by decide) (fun _ => ?_) (fun h => absurd (Int32.not_lt.mp (inR_up (tm_in (σ.1 14000) (σ.1 14013) (σ.2.2.1 148)) (Int32.le_refl _) (by decide)).2) h)
          refine R_iload_n (pc := 185) dX9_breaks_185 rfl rfl ?_
          exact R_iret (pc := 186) dX9_breaks_186 rfl rfl (Nat.zero_le _) (Nat.zero_le _) ⟨_, rfl, _, rfl, hI, (show Cor σ σ from Cor.rfl' σ)⟩
        | succ q ih59 =>
          intro j59 g3_59 g5_59 hj hs59
          have hrg59 : inR (nI j59) 0 19 := inR_ix hs59 (show j59 < 20 by omega) (by decide) (by decide) (by decide)
          have hlt59 : j59 < 20 := by omega
          refine R_iload (pc := 59) dX9_breaks_59 rfl ?_
          refine R_aload_n (pc := 61) dX9_breaks_61 rfl rfl ?_
          refine k_X9_120 (pc := 62) (ge_X9_thereMany _ hI) rfl (c_140 _) (by decide) (Nat.le_refl _) (Nat.le_refl _) (Nat.le_of_ble_eq_true rfl) dX9_breaks_62 (fun x w2 h => ?_)
          obtain ⟨rfl, rfl⟩ := h
          refine R_icge (pc := 65) 185 dX9_breaks_65 (by decide) (fun b65_14 => ?_) (fun b65_14 => ?_)
          · skip
            refine R_iload_n (pc := 185) dX9_breaks_185 rfl rfl ?_
            exact R_iret (pc := 186) dX9_breaks_186 rfl rfl (Nat.zero_le _) (Nat.zero_le _) ⟨_, rfl, _, rfl, hI, (show Cor σ σ from Cor.rfl' σ)⟩
          · skip
            refine R_iload_n (pc := 68) dX9_breaks_68 rfl rfl ?_
            refine R_ifeq (pc := 69) 122 dX9_breaks_69 (by decide) (fun _ => ?_) (fun h => absurd (by decide) h)
            refine R_aload_n (pc := 122) dX9_breaks_122 rfl rfl ?_
            refine g_X9_19 (pc := 123) (v := .ref 144) rfl dX9_breaks_123 (c_140 _) rfl ?_
            refine R_iload (pc := 126) dX9_breaks_126 rfl ?_
            have hx16 : vp_in (nI j59) 20 := (vp_in_nI (by omega) (by decide))
            refine R_iaload (pc := 128) dX9_breaks_128 (c_144 _) hx16 ?_
            refine R_aload_n (pc := 129) dX9_breaks_129 rfl rfl ?_
            refine g_X9_114 (pc := 130) (v := .ref 172) rfl dX9_breaks_130 (c_140 _) rfl ?_
            refine R_bipush (pc := 133) (v := 6) dX9_breaks_133 (by decide) ?_
            refine R_iload_n (pc := 135) dX9_breaks_135 rfl rfl ?_
            refine R_imul (pc := 136) dX9_breaks_136 ?_
            have r17 : inR (6 * a) 0 42 := inR_mulc (c := 6) (l := 0) (h := 42) 6 (by decide) (show inR a 0 7 from hr4) (by decide) (by decide)
            have e18 := ti_mulc (c := 6) (l := 0) (h := 42) 6 (by decide) (show inR a 0 7 from hr4) (by decide) (by decide)
            refine R_iconst (pc := 137) (v := 4) dX9_breaks_137 (by decide) ?_
            refine R_iadd (pc := 138) dX9_breaks_138 ?_
            have r19 : inR ((6 * a) + 4) 4 46 := inR_add (show inR (6 * a) 0 42 from r17) (show inR 4 4 4 from (inR_self _)) (by decide) (by decide)
            have e20 := ti_add (l := 4) (h := 46) (show inR (6 * a) 0 42 from r17) (show inR 4 4 4 from (inR_self _)) (by decide) (by decide)
            have hx21 : vp_in ((6 * a) + 4) 48 := (vp_ti (by have q0 := e2; have q1 := ti_in h3; have q2 := e7; have q3 := e9; have q4 := e18; have q5 := e20; have q6 := ti_ne b29_11; have q7 := ti_nle b65_14; have q8 := ti_in (iv_14047 hI); have q9 := ti_in r1; have q10 := ti_in hr4; have q11 := ti_in r17; have q12 := ti_in r8; have q13 := ti_in hrg59; have q14 := ti_in (tm_in (σ.1 14000) (σ.1 14013) (σ.2.2.1 148)); have q15 := ti_in (iva_144 hI _ (lt_of_vp hx16)); have q16 := ti_in r19; have z0 : (-1 : Int32).toInt = -1 := (by decide); have z1 : (0 : Int32).toInt = 0 := (by decide); have z2 : (1 : Int32).toInt = 1 := (by decide); have z3 : (14000 : Int32).toInt = 14000 := (by decide); have z4 : (14013 : Int32).toInt = 14013 := (by decide); have z5 : (148 : Int32).toInt = 148 := (by decide); have z6 : (172 : Int32).toInt = 172 := (by decide); have z7 : (19 : Int32).toInt = 19 := (by decide); have z8 : (20 : Int32).toInt = 20 := (by decide); have z9 : (3 : Int32).toInt = 3 := (by decide); have z10 : (4 : Int32).toInt = 4 := (by decide); have z11 : (42 : Int32).toInt = 42 := (by decide); have z12 : (45 : Int32).toInt = 45 := (by decide); have z13 : (46 : Int32).toInt = 46 := (by decide); have z14 : (6 : Int32).toInt = 6 := (by decide); have z15 : (7 : Int32).toInt = 7 := (by decide); have z16 : (8 : Int32).toInt = 8 := (by decide); omega) (by have q0 := e2; have q1 := ti_in h3; have q2 := e7; have q3 := e9; have q4 := e18; have q5 := e20; have q6 := ti_ne b29_11; have q7 := ti_nle b65_14; have q8 := ti_in (iv_14047 hI); have q9 := ti_in r1; have q10 := ti_in hr4; have q11 := ti_in r17; have q12 := ti_in r8; have q13 := ti_in hrg59; have q14 := ti_in (tm_in (σ.1 14000) (σ.1 14013) (σ.2.2.1 148)); have q15 := ti_in (iva_144 hI _ (lt_of_vp hx16)); have q16 := ti_in r19; have z0 : (-1 : Int32).toInt = -1 := (by decide); have z1 : (0 : Int32).toInt = 0 := (by decide); have z2 : (1 : Int32).toInt = 1 := (by decide); have z3 : (14000 : Int32).toInt = 14000 := (by decide); have z4 : (14013 : Int32).toInt = 14013 := (by decide); have z5 : (148 : Int32).toInt = 148 := (by decide); have z6 : (172 : Int32).toInt = 172 := (by decide); have z7 : (19 : Int32).toInt = 19 := (by decide); have z8 : (20 : Int32).toInt = 20 := (by decide); have z9 : (3 : Int32).toInt = 3 := (by decide); have z10 : (4 : Int32).toInt = 4 := (by decide); have z11 : (42 : Int32).toInt = 42 := (by decide); have z12 : (45 : Int32).toInt = 45 := (by decide); have z13 : (46 : Int32).toInt = 46 := (by decide); have z14 : (6 : Int32).toInt = 6 := (by decide); have z15 : (7 : Int32).toInt = 7 := (by decide); have z16 : (8 : Int32).toInt = 8 := (by decide); omega))
            refine R_iaload (pc := 139) dX9_breaks_139 (c_172 _) hx21 ?_
            refine R_iceq (pc := 140) 147 dX9_breaks_140 (by decide) (fun b140_22 => ?_) (fun b140_22 => ?_)
            · skip
              refine R_iconst (pc := 147) (v := 0) dX9_breaks_147 (by decide) ?_
              refine st_6_5_i_i (pc := 148) dX9_breaks_148 ?_
              refine R_iload_n (pc := 150) dX9_breaks_150 rfl rfl ?_
              refine R_aload_n (pc := 151) dX9_breaks_151 rfl rfl ?_
              refine R_iload (pc := 152) dX9_breaks_152 rfl ?_
              refine R_bipush (pc := 154) (v := 6) dX9_breaks_154 (by decide) ?_
              refine R_iload_n (pc := 156) dX9_breaks_156 rfl rfl ?_
              refine R_imul (pc := 157) dX9_breaks_157 ?_
              have r23 : inR (6 * a) 0 42 := inR_mulc (c := 6) (l := 0) (h := 42) 6 (by decide) (show inR a 0 7 from hr4) (by decide) (by decide)
              have e24 := ti_mulc (c := 6) (l := 0) (h := 42) 6 (by decide) (show inR a 0 7 from hr4) (by decide) (by decide)
              refine k_X9_218 (pc := 158) (gx_X9_isOf _ _ _ hI hrg59 r23) rfl (c_140 _) (by decide) (Nat.le_refl _) (Nat.le_refl _) (Nat.le_of_ble_eq_true rfl) dX9_breaks_158 (fun y25 w2 h => ?_)
              subst h
              refine R_ifeq (pc := 161) 176 dX9_breaks_161 (by decide) (fun b161_26 => ?_) (fun b161_26 => ?_)
              · skip
                refine R_iconst (pc := 176) (v := 0) dX9_breaks_176 (by decide) ?_
                refine R_ior (pc := 177) dX9_breaks_177 ?_
                refine st_6_3_i_i (pc := 178) dX9_breaks_178 ?_
                refine inc_6_4_1_i (pc := 179) dX9_breaks_179 ?_
                have r27 : inR ((nI j59) + 1) 1 20 := inR_add (show inR (nI j59) 0 19 from hrg59) (show inR 1 1 1 from (inR_self _)) (by decide) (by decide)
                have e28 := ti_add (l := 1) (h := 20) (show inR (nI j59) 0 19 from hrg59) (show inR 1 1 1 from (inR_self _)) (by decide) (by decide)
                refine R_goto (pc := 182) 59 dX9_breaks_182 (by decide) ?_
                rw [nI_1]
                exact ih59 (j59 + 1) _ _ (by omega) (by omega)
              · skip
                refine R_iload (pc := 164) dX9_breaks_164 rfl ?_
                refine R_ifeq (pc := 166) 176 dX9_breaks_166 (by decide) (fun _ => ?_) (fun h => absurd (by decide) h)
                refine R_iconst (pc := 176) (v := 0) dX9_breaks_176 (by decide) ?_
                refine R_ior (pc := 177) dX9_breaks_177 ?_
                refine st_6_3_i_i (pc := 178) dX9_breaks_178 ?_
                refine inc_6_4_1_i (pc := 179) dX9_breaks_179 ?_
                have r30 : inR ((nI j59) + 1) 1 20 := inR_add (show inR (nI j59) 0 19 from hrg59) (show inR 1 1 1 from (inR_self _)) (by decide) (by decide)
                have e31 := ti_add (l := 1) (h := 20) (show inR (nI j59) 0 19 from hrg59) (show inR 1 1 1 from (inR_self _)) (by decide) (by decide)
                refine R_goto (pc := 182) 59 dX9_breaks_182 (by decide) ?_
                rw [nI_1]
                exact ih59 (j59 + 1) _ _ (by omega) (by omega)
            · skip
              refine R_iconst (pc := 143) (v := 1) dX9_breaks_143 (by decide) ?_
              refine R_goto (pc := 144) 148 dX9_breaks_144 (by decide) ?_
              refine st_6_5_i_i (pc := 148) dX9_breaks_148 ?_
              refine R_iload_n (pc := 150) dX9_breaks_150 rfl rfl ?_
              refine R_aload_n (pc := 151) dX9_breaks_151 rfl rfl ?_
              refine R_iload (pc := 152) dX9_breaks_152 rfl ?_
              refine R_bipush (pc := 154) (v := 6) dX9_breaks_154 (by decide) ?_
              refine R_iload_n (pc := 156) dX9_breaks_156 rfl rfl ?_
              refine R_imul (pc := 157) dX9_breaks_157 ?_
              have r32 : inR (6 * a) 0 42 := inR_mulc (c := 6) (l := 0) (h := 42) 6 (by decide) (show inR a 0 7 from hr4) (by decide) (by decide)
              have e33 := ti_mulc (c := 6) (l := 0) (h := 42) 6 (by decide) (show inR a 0 7 from hr4) (by decide) (by decide)
              refine k_X9_218 (pc := 158) (gx_X9_isOf _ _ _ hI hrg59 r32) rfl (c_140 _) (by decide) (Nat.le_refl _) (Nat.le_refl _) (Nat.le_of_ble_eq_true rfl) dX9_breaks_158 (fun y34 w2 h => ?_)
              subst h
              refine R_ifeq (pc := 161) 176 dX9_breaks_161 (by decide) (fun b161_35 => ?_) (fun b161_35 => ?_)
              · skip
                refine R_iconst (pc := 176) (v := 0) dX9_breaks_176 (by decide) ?_
                refine R_ior (pc := 177) dX9_breaks_177 ?_
                refine st_6_3_i_i (pc := 178) dX9_breaks_178 ?_
                refine inc_6_4_1_i (pc := 179) dX9_breaks_179 ?_
                have r36 : inR ((nI j59) + 1) 1 20 := inR_add (show inR (nI j59) 0 19 from hrg59) (show inR 1 1 1 from (inR_self _)) (by decide) (by decide)
                have e37 := ti_add (l := 1) (h := 20) (show inR (nI j59) 0 19 from hrg59) (show inR 1 1 1 from (inR_self _)) (by decide) (by decide)
                refine R_goto (pc := 182) 59 dX9_breaks_182 (by decide) ?_
                rw [nI_1]
                exact ih59 (j59 + 1) _ _ (by omega) (by omega)
              · skip
                refine R_iload (pc := 164) dX9_breaks_164 rfl ?_
                refine R_ifeq (pc := 166) 176 dX9_breaks_166 (by decide) (fun h => absurd h (by decide)) (fun _ => ?_)
                refine R_iconst (pc := 169) (v := 1) dX9_breaks_169 (by decide) ?_
                refine R_iload (pc := 170) dX9_breaks_170 rfl ?_
                refine R_ishl (pc := 172) dX9_breaks_172 ?_
                have r39 : inR (1 <<< ((nI j59) &&& 31)) 0 1048575 := shl20 hrg59
                refine R_goto (pc := 173) 177 dX9_breaks_173 (by decide) ?_
                refine R_ior (pc := 177) dX9_breaks_177 ?_
                refine st_6_3_i_i (pc := 178) dX9_breaks_178 ?_
                refine inc_6_4_1_i (pc := 179) dX9_breaks_179 ?_
                have r40 : inR ((nI j59) + 1) 1 20 := inR_add (show inR (nI j59) 0 19 from hrg59) (show inR 1 1 1 from (inR_self _)) (by decide) (by decide)
                have e41 := ti_add (l := 1) (h := 20) (show inR (nI j59) 0 19 from hrg59) (show inR 1 1 1 from (inR_self _)) (by decide) (by decide)
                refine R_goto (pc := 182) 59 dX9_breaks_182 (by decide) ?_
                rw [nI_1]
                exact ih59 (j59 + 1) _ _ (by omega) (by omega)
      exact HL59 20 0 _ _ (by omega) (by omega)
    · skip
      refine R_iconst (pc := 32) (v := 1) dX9_breaks_32 (by decide) ?_
      refine R_goto (pc := 33) 37 dX9_breaks_33 (by decide) ?_
      refine st_6_2_i_i (pc := 37) dX9_breaks_37 ?_
      refine R_iload_n (pc := 38) dX9_breaks_38 rfl rfl ?_
      refine R_ifeq (pc := 39) 54 dX9_breaks_39 (by decide) (fun h => absurd h (by decide)) (fun _ => ?_)
      refine R_aload_n (pc := 42) dX9_breaks_42 rfl rfl ?_
      refine R_iconst (pc := 43) (v := (-1)) dX9_breaks_43 (by decide) ?_
      refine R_iconst (pc := 44) (v := 0) dX9_breaks_44 (by decide) ?_
      refine k_X9_228 (pc := 45) (gx_X9_areSpans _ _ _ hI) rfl (c_140 _) (by decide) (Nat.le_refl _) (Nat.le_refl _) (Nat.le_of_ble_eq_true rfl) dX9_breaks_45 (fun x w2 h => ?_)
      obtain ⟨hb, σx44, rfl, hV43, hW45⟩ := h
      have hW46 := Cor.trans (show Cor σ σ from Cor.rfl' σ) hW45
      rcases hb with rfl | rfl
      · skip
        refine R_ifne (pc := 48) 54 dX9_breaks_48 (by decide) (fun _ => ?_) (fun h => absurd h (by decide))
        refine R_iconst (pc := 54) (v := 0) dX9_breaks_54 (by decide) ?_
        refine st_6_3_i_i (pc := 55) dX9_breaks_55 ?_
        refine R_iconst (pc := 56) (v := 0) dX9_breaks_56 (by decide) ?_
        refine st_6_4_i_i (pc := 57) dX9_breaks_57 ?_
        have HL59 : ∀ (q j59 : Nat) (g3_59 : Int32) (g5_59 : Option Value), j59 + q = 20 → 0 ≤ j59 → R G l yX9_breaks cX9_breaks 6 (some .int) 5 0 0 (QI (fun _ w2 => ∃ σ2, w2 = WW σ2 ∧ Inv σ2 ∧ Cor σ σ2)) 59 [(some (.ref 140)), (some (.int a)), (some (.int 1)), (some (.int g3_59)), (some (.int (nI j59))), g5_59] [] (WW σx44) 0 0 := by
          intro q
          induction q with
          | zero =>
            intro j59 g3_59 g5_59 hj hs59
            obtain rfl : j59 = 20 := by omega
            refine R_iload (pc := 59) dX9_breaks_59 rfl ?_
            refine R_aload_n (pc := 61) dX9_breaks_61 rfl rfl ?_
            refine k_X9_120 (pc := 62) (ge_X9_thereMany _ hV43) rfl (c_140 _) (by decide) (Nat.le_refl _) (Nat.le_refl _) (Nat.le_of_ble_eq_true rfl) dX9_breaks_62 (fun x w2 h => ?_)
            obtain ⟨rfl, rfl⟩ := h
            refine R_icge (pc := 65) 185 dX9_breaks_65 (by decide) (fun _ => ?_) (fun h => absurd (Int32.not_lt.mp (inR_up (tm_in (σx44.1 14000) (σx44.1 14013) (σx44.2.2.1 148)) (Int32.le_refl _) (by decide)).2) h)
            refine R_iload_n (pc := 185) dX9_breaks_185 rfl rfl ?_
            exact R_iret (pc := 186) dX9_breaks_186 rfl rfl (Nat.zero_le _) (Nat.zero_le _) ⟨_, rfl, _, rfl, hV43, hW46⟩
          | succ q ih59 =>
            intro j59 g3_59 g5_59 hj hs59
            have hrg59 : inR (nI j59) 0 19 := inR_ix hs59 (show j59 < 20 by omega) (by decide) (by decide) (by decide)
            have hlt59 : j59 < 20 := by omega
            refine R_iload (pc := 59) dX9_breaks_59 rfl ?_
            refine R_aload_n (pc := 61) dX9_breaks_61 rfl rfl ?_
            refine k_X9_120 (pc := 62) (ge_X9_thereMany _ hV43) rfl (c_140 _) (by decide) (Nat.le_refl _) (Nat.le_refl _) (Nat.le_of_ble_eq_true rfl) dX9_breaks_62 (fun x w2 h => ?_)
            obtain ⟨rfl, rfl⟩ := h
            refine R_icge (pc := 65) 185 dX9_breaks_65 (by decide) (fun b65_49 => ?_) (fun b65_49 => ?_)
            · skip
              refine R_iload_n (pc := 185) dX9_breaks_185 rfl rfl ?_
              exact R_iret (pc := 186) dX9_breaks_186 rfl rfl (Nat.zero_le _) (Nat.zero_le _) ⟨_, rfl, _, rfl, hV43, hW46⟩
            · skip
              refine R_iload_n (pc := 68) dX9_breaks_68 rfl rfl ?_
              refine R_ifeq (pc := 69) 122 dX9_breaks_69 (by decide) (fun h => absurd h (by decide)) (fun _ => ?_)
              refine R_aload_n (pc := 72) dX9_breaks_72 rfl rfl ?_
              refine g_X9_93 (pc := 73) (v := .ref 165) rfl dX9_breaks_73 (c_140 _) rfl ?_
              refine R_iload (pc := 76) dX9_breaks_76 rfl ?_
              have hx51 : vp_in (nI j59) 20 := (vp_in_nI (by omega) (by decide))
              refine R_iaload (pc := 78) dX9_breaks_78 (c_165 _) hx51 ?_
              refine R_aload_n (pc := 79) dX9_breaks_79 rfl rfl ?_
              refine g_X9_114 (pc := 80) (v := .ref 172) rfl dX9_breaks_80 (c_140 _) rfl ?_
              refine R_bipush (pc := 83) (v := 6) dX9_breaks_83 (by decide) ?_
              refine R_iload_n (pc := 85) dX9_breaks_85 rfl rfl ?_
              refine R_imul (pc := 86) dX9_breaks_86 ?_
              have r52 : inR (6 * a) 0 42 := inR_mulc (c := 6) (l := 0) (h := 42) 6 (by decide) (show inR a 0 7 from hr4) (by decide) (by decide)
              have e53 := ti_mulc (c := 6) (l := 0) (h := 42) 6 (by decide) (show inR a 0 7 from hr4) (by decide) (by decide)
              refine R_iconst (pc := 87) (v := 5) dX9_breaks_87 (by decide) ?_
              refine R_iadd (pc := 88) dX9_breaks_88 ?_
              have r54 : inR ((6 * a) + 5) 5 47 := inR_add (show inR (6 * a) 0 42 from r52) (show inR 5 5 5 from (inR_self _)) (by decide) (by decide)
              have e55 := ti_add (l := 5) (h := 47) (show inR (6 * a) 0 42 from r52) (show inR 5 5 5 from (inR_self _)) (by decide) (by decide)
              have hx56 : vp_in ((6 * a) + 5) 48 := (vp_ti (by have q0 := e2; have q1 := ti_in h3; have q2 := e7; have q3 := e9; have q4 := e53; have q5 := e55; have q6 := ti_eq b29_11; have q7 := ti_nle b65_49; have q8 := ti_in (iv_14047 hI); have q9 := ti_in r1; have q10 := ti_in hr4; have q11 := ti_in r52; have q12 := ti_in r8; have q13 := ti_in hrg59; have q14 := ti_in (tm_in (σx44.1 14000) (σx44.1 14013) (σx44.2.2.1 148)); have q15 := ti_in r54; have z0 : (-1 : Int32).toInt = -1 := (by decide); have z1 : (0 : Int32).toInt = 0 := (by decide); have z2 : (1 : Int32).toInt = 1 := (by decide); have z3 : (14000 : Int32).toInt = 14000 := (by decide); have z4 : (14013 : Int32).toInt = 14013 := (by decide); have z5 : (148 : Int32).toInt = 148 := (by decide); have z6 : (172 : Int32).toInt = 172 := (by decide); have z7 : (19 : Int32).toInt = 19 := (by decide); have z8 : (20 : Int32).toInt = 20 := (by decide); have z9 : (3 : Int32).toInt = 3 := (by decide); have z10 : (42 : Int32).toInt = 42 := (by decide); have z11 : (45 : Int32).toInt = 45 := (by decide); have z12 : (47 : Int32).toInt = 47 := (by decide); have z13 : (5 : Int32).toInt = 5 := (by decide); have z14 : (6 : Int32).toInt = 6 := (by decide); have z15 : (7 : Int32).toInt = 7 := (by decide); have z16 : (8 : Int32).toInt = 8 := (by decide); omega) (by have q0 := e2; have q1 := ti_in h3; have q2 := e7; have q3 := e9; have q4 := e53; have q5 := e55; have q6 := ti_eq b29_11; have q7 := ti_nle b65_49; have q8 := ti_in (iv_14047 hI); have q9 := ti_in r1; have q10 := ti_in hr4; have q11 := ti_in r52; have q12 := ti_in r8; have q13 := ti_in hrg59; have q14 := ti_in (tm_in (σx44.1 14000) (σx44.1 14013) (σx44.2.2.1 148)); have q15 := ti_in r54; have z0 : (-1 : Int32).toInt = -1 := (by decide); have z1 : (0 : Int32).toInt = 0 := (by decide); have z2 : (1 : Int32).toInt = 1 := (by decide); have z3 : (14000 : Int32).toInt = 14000 := (by decide); have z4 : (14013 : Int32).toInt = 14013 := (by decide); have z5 : (148 : Int32).toInt = 148 := (by decide); have z6 : (172 : Int32).toInt = 172 := (by decide); have z7 : (19 : Int32).toInt = 19 := (by decide); have z8 : (20 : Int32).toInt = 20 := (by decide); have z9 : (3 : Int32).toInt = 3 := (by decide); have z10 : (42 : Int32).toInt = 42 := (by decide); have z11 : (45 : Int32).toInt = 45 := (by decide); have z12 : (47 : Int32).toInt = 47 := (by decide); have z13 : (5 : Int32).toInt = 5 := (by decide); have z14 : (6 : Int32).toInt = 6 := (by decide); have z15 : (7 : Int32).toInt = 7 := (by decide); have z16 : (8 : Int32).toInt = 8 := (by decide); omega))
              refine R_iaload (pc := 89) dX9_breaks_89 (c_172 _) hx56 ?_
              refine R_icgt (pc := 90) 114 dX9_breaks_90 (by decide) (fun b90_57 => ?_) (fun b90_57 => ?_)
              · skip
                refine R_iconst (pc := 114) (v := 1) dX9_breaks_114 (by decide) ?_
                refine R_goto (pc := 115) 148 dX9_breaks_115 (by decide) ?_
                refine st_6_5_i_i (pc := 148) dX9_breaks_148 ?_
                refine R_iload_n (pc := 150) dX9_breaks_150 rfl rfl ?_
                refine R_aload_n (pc := 151) dX9_breaks_151 rfl rfl ?_
                refine R_iload (pc := 152) dX9_breaks_152 rfl ?_
                refine R_bipush (pc := 154) (v := 6) dX9_breaks_154 (by decide) ?_
                refine R_iload_n (pc := 156) dX9_breaks_156 rfl rfl ?_
                refine R_imul (pc := 157) dX9_breaks_157 ?_
                have r58 : inR (6 * a) 0 42 := inR_mulc (c := 6) (l := 0) (h := 42) 6 (by decide) (show inR a 0 7 from hr4) (by decide) (by decide)
                have e59 := ti_mulc (c := 6) (l := 0) (h := 42) 6 (by decide) (show inR a 0 7 from hr4) (by decide) (by decide)
                refine k_X9_218 (pc := 158) (gx_X9_isOf _ _ _ hV43 hrg59 r58) rfl (c_140 _) (by decide) (Nat.le_refl _) (Nat.le_refl _) (Nat.le_of_ble_eq_true rfl) dX9_breaks_158 (fun y60 w2 h => ?_)
                subst h
                refine R_ifeq (pc := 161) 176 dX9_breaks_161 (by decide) (fun b161_61 => ?_) (fun b161_61 => ?_)
                · skip
                  refine R_iconst (pc := 176) (v := 0) dX9_breaks_176 (by decide) ?_
                  refine R_ior (pc := 177) dX9_breaks_177 ?_
                  refine st_6_3_i_i (pc := 178) dX9_breaks_178 ?_
                  refine inc_6_4_1_i (pc := 179) dX9_breaks_179 ?_
                  have r62 : inR ((nI j59) + 1) 1 20 := inR_add (show inR (nI j59) 0 19 from hrg59) (show inR 1 1 1 from (inR_self _)) (by decide) (by decide)
                  have e63 := ti_add (l := 1) (h := 20) (show inR (nI j59) 0 19 from hrg59) (show inR 1 1 1 from (inR_self _)) (by decide) (by decide)
                  refine R_goto (pc := 182) 59 dX9_breaks_182 (by decide) ?_
                  rw [nI_1]
                  exact ih59 (j59 + 1) _ _ (by omega) (by omega)
                · skip
                  refine R_iload (pc := 164) dX9_breaks_164 rfl ?_
                  refine R_ifeq (pc := 166) 176 dX9_breaks_166 (by decide) (fun h => absurd h (by decide)) (fun _ => ?_)
                  refine R_iconst (pc := 169) (v := 1) dX9_breaks_169 (by decide) ?_
                  refine R_iload (pc := 170) dX9_breaks_170 rfl ?_
                  refine R_ishl (pc := 172) dX9_breaks_172 ?_
                  have r65 : inR (1 <<< ((nI j59) &&& 31)) 0 1048575 := shl20 hrg59
                  refine R_goto (pc := 173) 177 dX9_breaks_173 (by decide) ?_
                  refine R_ior (pc := 177) dX9_breaks_177 ?_
                  refine st_6_3_i_i (pc := 178) dX9_breaks_178 ?_
                  refine inc_6_4_1_i (pc := 179) dX9_breaks_179 ?_
                  have r66 : inR ((nI j59) + 1) 1 20 := inR_add (show inR (nI j59) 0 19 from hrg59) (show inR 1 1 1 from (inR_self _)) (by decide) (by decide)
                  have e67 := ti_add (l := 1) (h := 20) (show inR (nI j59) 0 19 from hrg59) (show inR 1 1 1 from (inR_self _)) (by decide) (by decide)
                  refine R_goto (pc := 182) 59 dX9_breaks_182 (by decide) ?_
                  rw [nI_1]
                  exact ih59 (j59 + 1) _ _ (by omega) (by omega)
              · skip
                refine R_aload_n (pc := 93) dX9_breaks_93 rfl rfl ?_
                refine g_X9_96 (pc := 94) (v := .ref 166) rfl dX9_breaks_94 (c_140 _) rfl ?_
                refine R_iload (pc := 97) dX9_breaks_97 rfl ?_
                have hx68 : vp_in (nI j59) 20 := (vp_in_nI (by omega) (by decide))
                refine R_iaload (pc := 99) dX9_breaks_99 (c_166 _) hx68 ?_
                refine R_aload_n (pc := 100) dX9_breaks_100 rfl rfl ?_
                refine g_X9_114 (pc := 101) (v := .ref 172) rfl dX9_breaks_101 (c_140 _) rfl ?_
                refine R_bipush (pc := 104) (v := 6) dX9_breaks_104 (by decide) ?_
                refine R_iload_n (pc := 106) dX9_breaks_106 rfl rfl ?_
                refine R_imul (pc := 107) dX9_breaks_107 ?_
                have r69 : inR (6 * a) 0 42 := inR_mulc (c := 6) (l := 0) (h := 42) 6 (by decide) (show inR a 0 7 from hr4) (by decide) (by decide)
                have e70 := ti_mulc (c := 6) (l := 0) (h := 42) 6 (by decide) (show inR a 0 7 from hr4) (by decide) (by decide)
                refine R_iconst (pc := 108) (v := 4) dX9_breaks_108 (by decide) ?_
                refine R_iadd (pc := 109) dX9_breaks_109 ?_
                have r71 : inR ((6 * a) + 4) 4 46 := inR_add (show inR (6 * a) 0 42 from r69) (show inR 4 4 4 from (inR_self _)) (by decide) (by decide)
                have e72 := ti_add (l := 4) (h := 46) (show inR (6 * a) 0 42 from r69) (show inR 4 4 4 from (inR_self _)) (by decide) (by decide)
                have hx73 : vp_in ((6 * a) + 4) 48 := (vp_ti (by have q0 := e2; have q1 := ti_in h3; have q2 := e7; have q3 := e9; have q4 := e53; have q5 := e55; have q6 := e70; have q7 := e72; have q8 := ti_eq b29_11; have q9 := ti_nle b65_49; have q10 := ti_nlt b90_57; have q11 := ti_in (iv_14047 hI); have q12 := ti_in r1; have q13 := ti_in hr4; have q14 := ti_in r69; have q15 := ti_in r8; have q16 := ti_in hrg59; have q17 := ti_in (tm_in (σx44.1 14000) (σx44.1 14013) (σx44.2.2.1 148)); have q18 := ti_in r54; have q19 := ti_in r71; have z0 : (-1 : Int32).toInt = -1 := (by decide); have z1 : (0 : Int32).toInt = 0 := (by decide); have z2 : (1 : Int32).toInt = 1 := (by decide); have z3 : (14000 : Int32).toInt = 14000 := (by decide); have z4 : (14013 : Int32).toInt = 14013 := (by decide); have z5 : (148 : Int32).toInt = 148 := (by decide); have z6 : (165 : Int32).toInt = 165 := (by decide); have z7 : (172 : Int32).toInt = 172 := (by decide); have z8 : (19 : Int32).toInt = 19 := (by decide); have z9 : (20 : Int32).toInt = 20 := (by decide); have z10 : (3 : Int32).toInt = 3 := (by decide); have z11 : (4 : Int32).toInt = 4 := (by decide); have z12 : (42 : Int32).toInt = 42 := (by decide); have z13 : (45 : Int32).toInt = 45 := (by decide); have z14 : (46 : Int32).toInt = 46 := (by decide); have z15 : (47 : Int32).toInt = 47 := (by decide); have z16 : (5 : Int32).toInt = 5 := (by decide); have z17 : (6 : Int32).toInt = 6 := (by decide); have z18 : (7 : Int32).toInt = 7 := (by decide); have z19 : (8 : Int32).toInt = 8 := (by decide); omega) (by have q0 := e2; have q1 := ti_in h3; have q2 := e7; have q3 := e9; have q4 := e53; have q5 := e55; have q6 := e70; have q7 := e72; have q8 := ti_eq b29_11; have q9 := ti_nle b65_49; have q10 := ti_nlt b90_57; have q11 := ti_in (iv_14047 hI); have q12 := ti_in r1; have q13 := ti_in hr4; have q14 := ti_in r69; have q15 := ti_in r8; have q16 := ti_in hrg59; have q17 := ti_in (tm_in (σx44.1 14000) (σx44.1 14013) (σx44.2.2.1 148)); have q18 := ti_in r54; have q19 := ti_in r71; have z0 : (-1 : Int32).toInt = -1 := (by decide); have z1 : (0 : Int32).toInt = 0 := (by decide); have z2 : (1 : Int32).toInt = 1 := (by decide); have z3 : (14000 : Int32).toInt = 14000 := (by decide); have z4 : (14013 : Int32).toInt = 14013 := (by decide); have z5 : (148 : Int32).toInt = 148 := (by decide); have z6 : (165 : Int32).toInt = 165 := (by decide); have z7 : (172 : Int32).toInt = 172 := (by decide); have z8 : (19 : Int32).toInt = 19 := (by decide); have z9 : (20 : Int32).toInt = 20 := (by decide); have z10 : (3 : Int32).toInt = 3 := (by decide); have z11 : (4 : Int32).toInt = 4 := (by decide); have z12 : (42 : Int32).toInt = 42 := (by decide); have z13 : (45 : Int32).toInt = 45 := (by decide); have z14 : (46 : Int32).toInt = 46 := (by decide); have z15 : (47 : Int32).toInt = 47 := (by decide); have z16 : (5 : Int32).toInt = 5 := (by decide); have z17 : (6 : Int32).toInt = 6 := (by decide); have z18 : (7 : Int32).toInt = 7 := (by decide); have z19 : (8 : Int32).toInt = 8 := (by decide); omega))
                refine R_iaload (pc := 110) dX9_breaks_110 (c_172 _) hx73 ?_
                refine R_icge (pc := 111) 118 dX9_breaks_111 (by decide) (fun b111_74 => ?_) (fun b111_74 => ?_)
                · skip
                  refine R_iconst (pc := 118) (v := 0) dX9_breaks_118 (by decide) ?_
                  refine R_goto (pc := 119) 148 dX9_breaks_119 (by decide) ?_
                  refine st_6_5_i_i (pc := 148) dX9_breaks_148 ?_
                  refine R_iload_n (pc := 150) dX9_breaks_150 rfl rfl ?_
                  refine R_aload_n (pc := 151) dX9_breaks_151 rfl rfl ?_
                  refine R_iload (pc := 152) dX9_breaks_152 rfl ?_
                  refine R_bipush (pc := 154) (v := 6) dX9_breaks_154 (by decide) ?_
                  refine R_iload_n (pc := 156) dX9_breaks_156 rfl rfl ?_
                  refine R_imul (pc := 157) dX9_breaks_157 ?_
                  have r75 : inR (6 * a) 0 42 := inR_mulc (c := 6) (l := 0) (h := 42) 6 (by decide) (show inR a 0 7 from hr4) (by decide) (by decide)
                  have e76 := ti_mulc (c := 6) (l := 0) (h := 42) 6 (by decide) (show inR a 0 7 from hr4) (by decide) (by decide)
                  refine k_X9_218 (pc := 158) (gx_X9_isOf _ _ _ hV43 hrg59 r75) rfl (c_140 _) (by decide) (Nat.le_refl _) (Nat.le_refl _) (Nat.le_of_ble_eq_true rfl) dX9_breaks_158 (fun y77 w2 h => ?_)
                  subst h
                  refine R_ifeq (pc := 161) 176 dX9_breaks_161 (by decide) (fun b161_78 => ?_) (fun b161_78 => ?_)
                  · skip
                    refine R_iconst (pc := 176) (v := 0) dX9_breaks_176 (by decide) ?_
                    refine R_ior (pc := 177) dX9_breaks_177 ?_
                    refine st_6_3_i_i (pc := 178) dX9_breaks_178 ?_
                    refine inc_6_4_1_i (pc := 179) dX9_breaks_179 ?_
                    have r79 : inR ((nI j59) + 1) 1 20 := inR_add (show inR (nI j59) 0 19 from hrg59) (show inR 1 1 1 from (inR_self _)) (by decide) (by decide)
                    have e80 := ti_add (l := 1) (h := 20) (show inR (nI j59) 0 19 from hrg59) (show inR 1 1 1 from (inR_self _)) (by decide) (by decide)
                    refine R_goto (pc := 182) 59 dX9_breaks_182 (by decide) ?_
                    rw [nI_1]
                    exact ih59 (j59 + 1) _ _ (by omega) (by omega)
                  · skip
                    refine R_iload (pc := 164) dX9_breaks_164 rfl ?_
                    refine R_ifeq (pc := 166) 176 dX9_breaks_166 (by decide) (fun _ => ?_) (fun h => absurd (by decide) h)
                    refine R_iconst (pc := 176) (v := 0) dX9_breaks_176 (by decide) ?_
                    refine R_ior (pc := 177) dX9_breaks_177 ?_
                    refine st_6_3_i_i (pc := 178) dX9_breaks_178 ?_
                    refine inc_6_4_1_i (pc := 179) dX9_breaks_179 ?_
                    have r82 : inR ((nI j59) + 1) 1 20 := inR_add (show inR (nI j59) 0 19 from hrg59) (show inR 1 1 1 from (inR_self _)) (by decide) (by decide)
                    have e83 := ti_add (l := 1) (h := 20) (show inR (nI j59) 0 19 from hrg59) (show inR 1 1 1 from (inR_self _)) (by decide) (by decide)
                    refine R_goto (pc := 182) 59 dX9_breaks_182 (by decide) ?_
                    rw [nI_1]
                    exact ih59 (j59 + 1) _ _ (by omega) (by omega)
                · skip
                  refine R_iconst (pc := 114) (v := 1) dX9_breaks_114 (by decide) ?_
                  refine R_goto (pc := 115) 148 dX9_breaks_115 (by decide) ?_
                  refine st_6_5_i_i (pc := 148) dX9_breaks_148 ?_
                  refine R_iload_n (pc := 150) dX9_breaks_150 rfl rfl ?_
                  refine R_aload_n (pc := 151) dX9_breaks_151 rfl rfl ?_
                  refine R_iload (pc := 152) dX9_breaks_152 rfl ?_
                  refine R_bipush (pc := 154) (v := 6) dX9_breaks_154 (by decide) ?_
                  refine R_iload_n (pc := 156) dX9_breaks_156 rfl rfl ?_
                  refine R_imul (pc := 157) dX9_breaks_157 ?_
                  have r84 : inR (6 * a) 0 42 := inR_mulc (c := 6) (l := 0) (h := 42) 6 (by decide) (show inR a 0 7 from hr4) (by decide) (by decide)
                  have e85 := ti_mulc (c := 6) (l := 0) (h := 42) 6 (by decide) (show inR a 0 7 from hr4) (by decide) (by decide)
                  refine k_X9_218 (pc := 158) (gx_X9_isOf _ _ _ hV43 hrg59 r84) rfl (c_140 _) (by decide) (Nat.le_refl _) (Nat.le_refl _) (Nat.le_of_ble_eq_true rfl) dX9_breaks_158 (fun y86 w2 h => ?_)
                  subst h
                  refine R_ifeq (pc := 161) 176 dX9_breaks_161 (by decide) (fun b161_87 => ?_) (fun b161_87 => ?_)
                  · skip
                    refine R_iconst (pc := 176) (v := 0) dX9_breaks_176 (by decide) ?_
                    refine R_ior (pc := 177) dX9_breaks_177 ?_
                    refine st_6_3_i_i (pc := 178) dX9_breaks_178 ?_
                    refine inc_6_4_1_i (pc := 179) dX9_breaks_179 ?_
                    have r88 : inR ((nI j59) + 1) 1 20 := inR_add (show inR (nI j59) 0 19 from hrg59) (show inR 1 1 1 from (inR_self _)) (by decide) (by decide)
                    have e89 := ti_add (l := 1) (h := 20) (show inR (nI j59) 0 19 from hrg59) (show inR 1 1 1 from (inR_self _)) (by decide) (by decide)
                    refine R_goto (pc := 182) 59 dX9_breaks_182 (by decide) ?_
                    rw [nI_1]
                    exact ih59 (j59 + 1) _ _ (by omega) (by omega)
                  · skip
                    refine R_iload (pc := 164) dX9_breaks_164 rfl ?_
                    refine R_ifeq (pc := 166) 176 dX9_breaks_166 (by decide) (fun h => absurd h (by decide)) (fun _ => ?_)
                    refine R_iconst (pc := 169) (v := 1) dX9_breaks_169 (by decide) ?_
                    refine R_iload (pc := 170) dX9_breaks_170 rfl ?_
                    refine R_ishl (pc := 172) dX9_breaks_172 ?_
                    have r91 : inR (1 <<< ((nI j59) &&& 31)) 0 1048575 := shl20 hrg59
                    refine R_goto (pc := 173) 177 dX9_breaks_173 (by decide) ?_
                    refine R_ior (pc := 177) dX9_breaks_177 ?_
                    refine st_6_3_i_i (pc := 178) dX9_breaks_178 ?_
                    refine inc_6_4_1_i (pc := 179) dX9_breaks_179 ?_
                    have r92 : inR ((nI j59) + 1) 1 20 := inR_add (show inR (nI j59) 0 19 from hrg59) (show inR 1 1 1 from (inR_self _)) (by decide) (by decide)
                    have e93 := ti_add (l := 1) (h := 20) (show inR (nI j59) 0 19 from hrg59) (show inR 1 1 1 from (inR_self _)) (by decide) (by decide)
                    refine R_goto (pc := 182) 59 dX9_breaks_182 (by decide) ?_
                    rw [nI_1]
                    exact ih59 (j59 + 1) _ _ (by omega) (by omega)
        exact HL59 20 0 _ _ (by omega) (by omega)
      · skip
        refine R_ifne (pc := 48) 54 dX9_breaks_48 (by decide) (fun h => absurd (by decide) h) (fun _ => ?_)
        refine R_bipush (pc := 51) (v := (-4)) dX9_breaks_51 (by decide) ?_
        exact R_iret (pc := 53) dX9_breaks_53 rfl rfl (Nat.zero_le _) (Nat.zero_le _) ⟨_, rfl, _, rfl, hV43, hW46⟩
  · skip
    refine R_ifne (pc := 11) 17 dX9_breaks_11 (by decide) (fun h => absurd (by decide) h) (fun _ => ?_)
    refine R_bipush (pc := 14) (v := (-2)) dX9_breaks_14 (by decide) ?_
    exact R_iret (pc := 16) dX9_breaks_16 rfl rfl (Nat.zero_le _) (Nat.zero_le _) ⟨_, rfl, _, rfl, hI, (show Cor σ σ from Cor.rfl' σ)⟩
