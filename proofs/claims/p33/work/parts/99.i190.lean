/-! methods on any state that keeps the invariant -/
set_option maxRecDepth 100000 in
set_option maxHeartbeats 40000000 in
theorem gn_X3_negatives {G : vG} {l : Launch} (σ : Sg) (b : Int32) (hI : Inv σ) (hb : inR b 0 1048575) (hS : Sym (fun a b => lkC σ (nI a) (nI b)) (tb b)) : Sp G l yX3_negatives cX3_negatives 2 (some .int) 4 0 0 [.ref 12, .int b] (WW σ) (QI (fun x w2 => w2 = WW σ ∧ x = bsI (lstB (fun a b => lkC σ (nI a) (nI b)) (tb b)) 20)) := by
  refine Sp_of_R [(some (.ref 12)), (some (.int b))] [] rfl (by simp) rfl (Nat.le_of_ble_eq_true rfl) ?_
  refine R_aload_n (pc := 0) dX3_negatives_0 rfl rfl ?_
  refine R_iload_n (pc := 1) dX3_negatives_1 rfl rfl ?_
  refine R_iconst (pc := 2) (v := 0) dX3_negatives_2 (by decide) ?_
  refine k_X3_112 (pc := 3) (gn_X3_leastOfChains_0 _ _ hI hb hS) rfl (c_12 _) (by decide) (Nat.le_refl _) (Nat.le_refl _) (Nat.le_of_ble_eq_true rfl) dX3_negatives_3 (fun x w2 h => ?_)
  obtain ⟨rfl, rfl⟩ := h
  exact R_iret (pc := 6) dX3_negatives_6 rfl rfl (Nat.zero_le _) (Nat.zero_le _) ⟨_, rfl, rfl, rfl⟩
set_option maxRecDepth 100000 in
set_option maxHeartbeats 40000000 in
theorem gq_X8_count {G : vG} {l : Launch} (σ : Sg) (a : Int32) (hI : Inv σ) (hS : Sym (fun a b => lkC σ (nI a) (nI b)) (tb (thI σ))) (hS2 : Sym (fun a b => mtC σ (nI a) (nI b)) (tb (thI σ))) : Sp G l yX8_count cX8_count 2 (some .int) 5 0 0 [.ref 0, .int a] (WW σ) (QI (fun x w2 => x = A_cnt a (σ.1 110) (pcI (thI σ)) (pcI (bsI (lstB (fun a b => lkC σ (nI a) (nI b)) (tb (thI σ))) 20)) (pcI (bsI (lstB (fun a b => mtC σ (nI a) (nI b)) (tb (thI σ))) 20)) (σ.1 111) (σ.1 11701) (σ.1 (100 * σ.2.2.2.2.1 + 6)) (σ.1 5809) ∧ ∃ σ2, w2 = WW σ2 ∧ Inv σ2 ∧ Cor σ σ2)) := by
  refine Sp_of_R [(some (.ref 0)), (some (.int a))] [] rfl (by simp) rfl (Nat.le_of_ble_eq_true rfl) ?_
  refine R_iload_n (pc := 0) dX8_count_0 rfl rfl ?_
  rcases sw7 a with rfl | rfl | rfl | rfl | rfl | rfl | rfl | rfl | hsw
  · skip
    refine R_tin (pc := 1) 48 dX8_count_1 (by decide) (by decide) rfl (by decide) ?_
    refine R_aload_n (pc := 48) dX8_count_48 rfl rfl ?_
    refine g_X8_10 (pc := 49) (v := .ref 1) rfl dX8_count_49 (c_0 _) rfl ?_
    refine g_X8_76 (pc := 52) (v := .int (σ.1 110)) rfl dX8_count_52 (c_1 _) rfl ?_
    exact R_iret (pc := 55) dX8_count_55 rfl rfl (Nat.zero_le _) (Nat.zero_le _) ⟨_, rfl, (A_cnt_0 _ _ _ _ _ _ _ _).symm, _, rfl, hI, (show Cor σ σ from Cor.rfl' σ)⟩
  · skip
    refine R_tin (pc := 1) 56 dX8_count_1 (by decide) (by decide) rfl (by decide) ?_
    refine R_aload_n (pc := 56) dX8_count_56 rfl rfl ?_
    refine g_X8_10 (pc := 57) (v := .ref 1) rfl dX8_count_57 (c_0 _) rfl ?_
    refine k_X8_126 (pc := 60) (ge_X0_there _ hI) rfl (c_1 _) (by decide) (Nat.le_refl _) (Nat.le_refl _) (Nat.le_of_ble_eq_true rfl) dX8_count_60 (fun x w2 h => ?_)
    obtain ⟨rfl, rfl⟩ := h
    refine k_X8_159 (pc := 63) (sp_J6_bitCount_0f7a4 _ _) rfl (by decide) (Nat.le_refl _) (Nat.le_refl _) (Nat.le_of_ble_eq_true rfl) dX8_count_63 (fun x w2 h => ?_)
    obtain ⟨rfl, rfl⟩ := h
    refine R_cv (pcI (thI σ)) rfl ?_
    exact R_iret (pc := 66) dX8_count_66 rfl rfl (Nat.zero_le _) (Nat.zero_le _) ⟨_, rfl, (A_cnt_1 _ _ _ _ _ _ _ _).symm, _, rfl, hI, (show Cor σ σ from Cor.rfl' σ)⟩
  · skip
    refine R_tin (pc := 1) 67 dX8_count_1 (by decide) (by decide) rfl (by decide) ?_
    refine R_aload_n (pc := 67) dX8_count_67 rfl rfl ?_
    refine g_X8_21 (pc := 68) (v := .ref 12) rfl dX8_count_68 (c_0 _) rfl ?_
    refine R_aload_n (pc := 71) dX8_count_71 rfl rfl ?_
    refine g_X8_10 (pc := 72) (v := .ref 1) rfl dX8_count_72 (c_0 _) rfl ?_
    refine k_X8_126 (pc := 75) (ge_X0_there _ hI) rfl (c_1 _) (by decide) (Nat.le_refl _) (Nat.le_refl _) (Nat.le_of_ble_eq_true rfl) dX8_count_75 (fun x w2 h => ?_)
    obtain ⟨rfl, rfl⟩ := h
    refine k_X8_319 (pc := 78) (gn_X3_negatives _ _ hI (thI_in σ) hS) rfl (c_12 _) (by decide) (Nat.le_refl _) (Nat.le_refl _) (Nat.le_of_ble_eq_true rfl) dX8_count_78 (fun x w2 h => ?_)
    obtain ⟨rfl, rfl⟩ := h
    refine k_X8_159 (pc := 81) (sp_J6_bitCount_0f7a4 _ _) rfl (by decide) (Nat.le_refl _) (Nat.le_refl _) (Nat.le_of_ble_eq_true rfl) dX8_count_81 (fun x w2 h => ?_)
    obtain ⟨rfl, rfl⟩ := h
    refine R_cv (pcI (bsI (lstB (fun a b => lkC σ (nI a) (nI b)) (tb (thI σ))) 20)) rfl ?_
    exact R_iret (pc := 84) dX8_count_84 rfl rfl (Nat.zero_le _) (Nat.zero_le _) ⟨_, rfl, (A_cnt_2 _ _ _ _ _ _ _ _).symm, _, rfl, hI, (show Cor σ σ from Cor.rfl' σ)⟩
  · skip
    refine R_tin (pc := 1) 85 dX8_count_1 (by decide) (by decide) rfl (by decide) ?_
    refine R_aload_n (pc := 85) dX8_count_85 rfl rfl ?_
    refine g_X8_21 (pc := 86) (v := .ref 12) rfl dX8_count_86 (c_0 _) rfl ?_
    refine R_aload_n (pc := 89) dX8_count_89 rfl rfl ?_
    refine g_X8_10 (pc := 90) (v := .ref 1) rfl dX8_count_90 (c_0 _) rfl ?_
    refine k_X8_126 (pc := 93) (ge_X0_there _ hI) rfl (c_1 _) (by decide) (Nat.le_refl _) (Nat.le_refl _) (Nat.le_of_ble_eq_true rfl) dX8_count_93 (fun x w2 h => ?_)
    obtain ⟨rfl, rfl⟩ := h
    refine k_X8_206 (pc := 96) (gn_X3_differentCards _ _ hI (thI_in σ) hS2) rfl (c_12 _) (by decide) (Nat.le_refl _) (Nat.le_refl _) (Nat.le_of_ble_eq_true rfl) dX8_count_96 (fun x w2 h => ?_)
    obtain ⟨rfl, rfl⟩ := h
    refine k_X8_159 (pc := 99) (sp_J6_bitCount_0f7a4 _ _) rfl (by decide) (Nat.le_refl _) (Nat.le_refl _) (Nat.le_of_ble_eq_true rfl) dX8_count_99 (fun x w2 h => ?_)
    obtain ⟨rfl, rfl⟩ := h
    refine R_cv (pcI (bsI (lstB (fun a b => mtC σ (nI a) (nI b)) (tb (thI σ))) 20)) rfl ?_
    exact R_iret (pc := 102) dX8_count_102 rfl rfl (Nat.zero_le _) (Nat.zero_le _) ⟨_, rfl, (A_cnt_3 _ _ _ _ _ _ _ _).symm, _, rfl, hI, (show Cor σ σ from Cor.rfl' σ)⟩
  · skip
    refine R_tin (pc := 1) 103 dX8_count_1 (by decide) (by decide) rfl (by decide) ?_
    refine R_aload_n (pc := 103) dX8_count_103 rfl rfl ?_
    refine g_X8_10 (pc := 104) (v := .ref 1) rfl dX8_count_104 (c_0 _) rfl ?_
    refine g_X8_109 (pc := 107) (v := .int (σ.1 111)) rfl dX8_count_107 (c_1 _) rfl ?_
    exact R_iret (pc := 110) dX8_count_110 rfl rfl (Nat.zero_le _) (Nat.zero_le _) ⟨_, rfl, (A_cnt_4 _ _ _ _ _ _ _ _).symm, _, rfl, hI, (show Cor σ σ from Cor.rfl' σ)⟩
  · skip
    refine R_tin (pc := 1) 111 dX8_count_1 (by decide) (by decide) rfl (by decide) ?_
    refine R_aload_n (pc := 111) dX8_count_111 rfl rfl ?_
    refine g_X8_51 (pc := 112) (v := .ref 117) rfl dX8_count_112 (c_0 _) rfl ?_
    refine g_X8_291 (pc := 115) (v := .int (σ.1 11701)) rfl dX8_count_115 (c_117 _) rfl ?_
    exact R_iret (pc := 118) dX8_count_118 rfl rfl (Nat.zero_le _) (Nat.zero_le _) ⟨_, rfl, (A_cnt_5 _ _ _ _ _ _ _ _).symm, _, rfl, hI, (show Cor σ σ from Cor.rfl' σ)⟩
  · skip
    refine R_tin (pc := 1) 119 dX8_count_1 (by decide) (by decide) rfl (by decide) ?_
    refine R_aload_n (pc := 119) dX8_count_119 rfl rfl ?_
    rcases iv_ln hI with ⟨hl1, hl1d⟩ | ⟨hl1, hl1d⟩
    · skip
      refine g_X8_62 (pc := 120) (v := .ref 126) rfl dX8_count_120 (c_0 _) (by show some (Value.ref σ.2.2.2.2.1) = _; rw [hl1]) ?_
      refine g_X8_299 (pc := 123) (v := .int (σ.1 12606)) rfl dX8_count_123 (c_126 _) rfl ?_
      exact R_iret (pc := 126) dX8_count_126 rfl rfl (Nat.zero_le _) (Nat.zero_le _) ⟨_, rfl, (by rw [A_cnt_6, hl1]; all_goals rfl), _, rfl, hI, (show Cor σ σ from Cor.rfl' σ)⟩
    · skip
      refine g_X8_62 (pc := 120) (v := .ref 133) rfl dX8_count_120 (c_0 _) (by show some (Value.ref σ.2.2.2.2.1) = _; rw [hl1]) ?_
      refine g_X8_299 (pc := 123) (v := .int (σ.1 13306)) rfl dX8_count_123 (c_133 _) rfl ?_
      exact R_iret (pc := 126) dX8_count_126 rfl rfl (Nat.zero_le _) (Nat.zero_le _) ⟨_, rfl, (by rw [A_cnt_6, hl1]; all_goals rfl), _, rfl, hI, (show Cor σ σ from Cor.rfl' σ)⟩
  · skip
    refine R_tin (pc := 1) 127 dX8_count_1 (by decide) (by decide) rfl (by decide) ?_
    refine R_aload_n (pc := 127) dX8_count_127 rfl rfl ?_
    refine g_X8_37 (pc := 128) (v := .ref 58) rfl dX8_count_128 (c_0 _) rfl ?_
    refine g_X8_233 (pc := 131) (v := .int (σ.1 5809)) rfl dX8_count_131 (c_58 _) rfl ?_
    exact R_iret (pc := 134) dX8_count_134 rfl rfl (Nat.zero_le _) (Nat.zero_le _) ⟨_, rfl, (A_cnt_7 _ _ _ _ _ _ _ _).symm, _, rfl, hI, (show Cor σ σ from Cor.rfl' σ)⟩
  · skip
    refine R_tout (pc := 1) 135 dX8_count_1 hsw (by decide) ?_
    refine R_bipush (pc := 135) (v := (-3)) dX8_count_135 (by decide) ?_
    exact R_iret (pc := 137) dX8_count_137 rfl rfl (Nat.zero_le _) (Nat.zero_le _) ⟨_, rfl, (A_cnt_x _ _ _ _ _ _ _ _ hsw).symm, _, rfl, hI, (show Cor σ σ from Cor.rfl' σ)⟩
set_option maxRecDepth 100000 in
set_option maxHeartbeats 40000000 in
theorem gq_X9_count {G : vG} {l : Launch} (σ : Sg) (a : Int32) (hI : Inv σ) : Sp G l yX9_count cX9_count 4 (some .int) 4 0 0 [.ref 140, .int a] (WW σ) (QI (fun x w2 => x = A_cnt a (σ.1 14000) (nI (TMn σ)) (nI (cntB (lsF (lkN σ) (AMp σ)) (TMn σ))) (nI (cntB (lsF (mtN σ) (AMp σ)) (TMn σ))) (σ.1 14011) (σ.1 14037) (σ.1 14047) (σ.1 14025) ∧ ∃ σ2, w2 = WW σ2 ∧ Inv σ2 ∧ Cor σ σ2)) := by
  refine Sp_of_R [(some (.ref 140)), (some (.int a)), none, none] [none, none] rfl (by simp) rfl (Nat.le_of_ble_eq_true rfl) ?_
  refine R_iconst (pc := 0) (v := 0) dX9_count_0 (by decide) ?_
  refine st_4_2_i_i (pc := 1) dX9_count_1 ?_
  refine R_iload_n (pc := 2) dX9_count_2 rfl rfl ?_
  refine R_iconst (pc := 3) (v := 2) dX9_count_3 (by decide) ?_
  refine R_iceq (pc := 4) 12 dX9_count_4 (by decide) (fun b4_1 => ?_) (fun b4_1 => ?_)
  · skip
    refine R_aload_n (pc := 12) dX9_count_12 rfl rfl ?_
    refine k_X9_162 (pc := 13) (gn_X9_findUnlike _ hI) rfl (c_140 _) (by decide) (Nat.le_refl _) (Nat.le_refl _) (Nat.le_of_ble_eq_true rfl) dX9_count_13 (fun w2 h => ?_)
    obtain ⟨σx3, rfl, hV2, hW4, hq5, hu6⟩ := h
    have hW7 := Cor.trans (show Cor σ σ from Cor.rfl' σ) hW4
    refine R_aload_n (pc := 16) dX9_count_16 rfl rfl ?_
    refine R_aload_n (pc := 17) dX9_count_17 rfl rfl ?_
    refine g_X9_54 (pc := 18) (v := .ref 152) rfl dX9_count_18 (c_140 _) rfl ?_
    refine R_iconst (pc := 21) (v := 0) dX9_count_21 (by decide) ?_
    refine R_iconst (pc := 22) (v := (-1)) dX9_count_22 (by decide) ?_
    refine k_X9_165 (pc := 23) (gn_X9_findChains_152 _ _ hV2 (sym_lk9 hI hW7 hu6 (u := (-1)))) rfl (c_140 _) (by decide) (Nat.le_refl _) (Nat.le_refl _) (Nat.le_of_ble_eq_true rfl) dX9_count_23 (fun w2 h => ?_)
    obtain ⟨σx9, rfl, hV8, hW10, hq11, hl12⟩ := h
    have hW13 := Cor.trans hW7 hW10
    have hu14 : UT (DVm σ) (σx9.2.2.1 151) _ := (by rw [hq11.2.2.1 151 rfl]; exact hu6)
    refine R_aload_n (pc := 26) dX9_count_26 rfl rfl ?_
    refine R_aload_n (pc := 27) dX9_count_27 rfl rfl ?_
    refine g_X9_57 (pc := 28) (v := .ref 153) rfl dX9_count_28 (c_140 _) rfl ?_
    refine R_iconst (pc := 31) (v := 1) dX9_count_31 (by decide) ?_
    refine R_iconst (pc := 32) (v := (-1)) dX9_count_32 (by decide) ?_
    refine k_X9_165 (pc := 33) (gn_X9_findChains_153 _ _ hV8 (sym_mt9 hI hW13 hu14 (u := (-1)))) rfl (c_140 _) (by decide) (Nat.le_refl _) (Nat.le_refl _) (Nat.le_of_ble_eq_true rfl) dX9_count_33 (fun w2 h => ?_)
    obtain ⟨σx16, rfl, hV15, hW17, hq18, hl19⟩ := h
    have hW20 := Cor.trans hW13 hW17
    have hu21 : UT (DVm σ) (σx16.2.2.1 151) _ := (by rw [hq18.2.2.1 151 rfl]; exact hu14)
    refine R_iconst (pc := 36) (v := 0) dX9_count_36 (by decide) ?_
    refine st_4_3_i_i (pc := 37) dX9_count_37 ?_
    have HL38 : ∀ (q j38 : Nat) (g2_38 : Int32), j38 + q = 20 → 0 ≤ j38 → g2_38 = nI (cntB (lsF (lkN σ) (AMp σ)) j38) → j38 ≤ TMn σx16 → R G l yX9_count cX9_count 4 (some .int) 4 0 0 (QI (fun x w2 => x = A_cnt a (σ.1 14000) (nI (TMn σ)) (nI (cntB (lsF (lkN σ) (AMp σ)) (TMn σ))) (nI (cntB (lsF (mtN σ) (AMp σ)) (TMn σ))) (σ.1 14011) (σ.1 14037) (σ.1 14047) (σ.1 14025) ∧ ∃ σ2, w2 = WW σ2 ∧ Inv σ2 ∧ Cor σ σ2)) 38 [(some (.ref 140)), (some (.int a)), (some (.int g2_38)), (some (.int (nI j38)))] [] (WW σx16) 0 0 := by
      intro q
      induction q with
      | zero =>
        intro j38 g2_38 hj hs38 hX38_0 hX38_1
        obtain rfl : j38 = 20 := by omega
        refine R_iload_n (pc := 38) dX9_count_38 rfl rfl ?_
        refine R_aload_n (pc := 39) dX9_count_39 rfl rfl ?_
        refine k_X9_120 (pc := 40) (ge_X9_thereMany _ hV15) rfl (c_140 _) (by decide) (Nat.le_refl _) (Nat.le_refl _) (Nat.le_of_ble_eq_true rfl) dX9_count_40 (fun x w2 h => ?_)
        obtain ⟨rfl, rfl⟩ := h
        refine R_icge (pc := 43) 84 dX9_count_43 (by decide) (fun _ => ?_) (fun h => absurd (Int32.not_lt.mp (inR_up (tm_in (σx16.1 14000) (σx16.1 14013) (σx16.2.2.1 148)) (Int32.le_refl _) (by decide)).2) h)
        refine R_iload_n (pc := 84) dX9_count_84 rfl rfl ?_
        exact R_iret (pc := 85) dX9_count_85 rfl rfl (Nat.zero_le _) (Nat.zero_le _) ⟨_, rfl, (by rw [show a = 2 from b4_1, A_cnt_2]; have q := hX38_0; rw [(show 20 = TMn σx16 from tm_ex20 hX38_1), TMn_c hW20] at q; exact q), _, rfl, hV15, hW20⟩
      | succ q ih38 =>
        intro j38 g2_38 hj hs38 hX38_0 hX38_1
        have hrg38 : inR (nI j38) 0 19 := inR_ix hs38 (show j38 < 20 by omega) (by decide) (by decide) (by decide)
        have hlt38 : j38 < 20 := by omega
        refine R_iload_n (pc := 38) dX9_count_38 rfl rfl ?_
        refine R_aload_n (pc := 39) dX9_count_39 rfl rfl ?_
        refine k_X9_120 (pc := 40) (ge_X9_thereMany _ hV15) rfl (c_140 _) (by decide) (Nat.le_refl _) (Nat.le_refl _) (Nat.le_of_ble_eq_true rfl) dX9_count_40 (fun x w2 h => ?_)
        obtain ⟨rfl, rfl⟩ := h
        refine R_icge (pc := 43) 84 dX9_count_43 (by decide) (fun b43_23 => ?_) (fun b43_23 => ?_)
        · skip
          refine R_iload_n (pc := 84) dX9_count_84 rfl rfl ?_
          exact R_iret (pc := 85) dX9_count_85 rfl rfl (Nat.zero_le _) (Nat.zero_le _) ⟨_, rfl, (by rw [show a = 2 from b4_1, A_cnt_2]; have q := hX38_0; rw [(show j38 = TMn σx16 from tm_exit (by omega) hX38_1 b43_23), TMn_c hW20] at q; exact q), _, rfl, hV15, hW20⟩
        · skip
          refine R_iload_n (pc := 46) dX9_count_46 rfl rfl ?_
          refine R_iload_n (pc := 47) dX9_count_47 rfl rfl ?_
          refine R_iconst (pc := 48) (v := 2) dX9_count_48 (by decide) ?_
          refine R_icne (pc := 49) 61 dX9_count_49 (by decide) (fun h => absurd b4_1 h) (fun _ => ?_)
          refine R_aload_n (pc := 52) dX9_count_52 rfl rfl ?_
          refine g_X9_54 (pc := 53) (v := .ref 152) rfl dX9_count_53 (c_140 _) rfl ?_
          refine R_iload_n (pc := 56) dX9_count_56 rfl rfl ?_
          have hx25 : vp_in (nI j38) 20 := (vp_in_nI (by omega) (by decide))
          refine R_iaload (pc := 57) dX9_count_57 (c_152 _) hx25 ?_
          refine R_goto (pc := 58) 67 dX9_count_58 (by decide) ?_
          refine R_iload_n (pc := 67) dX9_count_67 rfl rfl ?_
          refine R_icne (pc := 68) 75 dX9_count_68 (by decide) (fun b68_26 => ?_) (fun b68_26 => ?_)
          · skip
            refine R_iconst (pc := 75) (v := 0) dX9_count_75 (by decide) ?_
            refine R_iadd (pc := 76) dX9_count_76 ?_
            refine st_4_2_i_i (pc := 77) dX9_count_77 ?_
            refine inc_4_3_1_i (pc := 78) dX9_count_78 ?_
            have r27 : inR ((nI j38) + 1) 1 20 := inR_add (show inR (nI j38) 0 19 from hrg38) (show inR 1 1 1 from (inR_self _)) (by decide) (by decide)
            have e28 := ti_add (l := 1) (h := 20) (show inR (nI j38) 0 19 from hrg38) (show inR 1 1 1 from (inR_self _)) (by decide) (by decide)
            refine R_goto (pc := 81) 38 dX9_count_81 (by decide) ?_
            rw [nI_1]
            exact ih38 (j38 + 1) _ (by omega) (by omega) (ct_f0 (f := lsF (lkN σ) (AMp σ)) hX38_0 (ls_f (fun e => absurd ((lab_is (show AMp σ j38 = true from decide_eq_true (by have q := tm_next (by omega) b43_23; rw [hW20.1 14000 rfl, hW20.1 14013 rfl, hW20.2.2.1 148 rfl] at q; exact q)) ((congrFun (hq18.2.2.1 152 rfl) j38).trans ((hl12 j38 (AMu_lt ((AM_of hW7 _).trans (show AMp σ j38 = true from decide_eq_true (by have q := tm_next (by omega) b43_23; rw [hW20.1 14000 rfl, hW20.1 14013 rfl, hW20.2.2.1 148 rfl] at q; exact q)))).1 (AMu_lt ((AM_of hW7 _).trans (show AMp σ j38 = true from decide_eq_true (by have q := tm_next (by omega) b43_23; rw [hW20.1 14000 rfl, hW20.1 14013 rfl, hW20.2.2.1 148 rfl] at q; exact q)))).2.2).trans (by rw [lab_lk9 hI hW7 hu6 (show AMp σ j38 = true from decide_eq_true (by have q := tm_next (by omega) b43_23; rw [hW20.1 14000 rfl, hW20.1 14013 rfl, hW20.2.2.1 148 rfl] at q; exact q))])))).mpr e) (by have q := b68_26; rw [nI_clamp (by omega)] at q; exact q)))) (tm_next (by omega) b43_23)
          · skip
            refine R_iconst (pc := 71) (v := 1) dX9_count_71 (by decide) ?_
            refine R_goto (pc := 72) 76 dX9_count_72 (by decide) ?_
            refine R_iadd (pc := 76) dX9_count_76 ?_
            refine st_4_2_i_i (pc := 77) dX9_count_77 ?_
            refine inc_4_3_1_i (pc := 78) dX9_count_78 ?_
            have r29 : inR ((nI j38) + 1) 1 20 := inR_add (show inR (nI j38) 0 19 from hrg38) (show inR 1 1 1 from (inR_self _)) (by decide) (by decide)
            have e30 := ti_add (l := 1) (h := 20) (show inR (nI j38) 0 19 from hrg38) (show inR 1 1 1 from (inR_self _)) (by decide) (by decide)
            refine R_goto (pc := 81) 38 dX9_count_81 (by decide) ?_
            rw [nI_1]
            exact ih38 (j38 + 1) _ (by omega) (by omega) (ct_t (f := lsF (lkN σ) (AMp σ)) hX38_0 (ls_t ((lab_is (show AMp σ j38 = true from decide_eq_true (by have q := tm_next (by omega) b43_23; rw [hW20.1 14000 rfl, hW20.1 14013 rfl, hW20.2.2.1 148 rfl] at q; exact q)) ((congrFun (hq18.2.2.1 152 rfl) j38).trans ((hl12 j38 (AMu_lt ((AM_of hW7 _).trans (show AMp σ j38 = true from decide_eq_true (by have q := tm_next (by omega) b43_23; rw [hW20.1 14000 rfl, hW20.1 14013 rfl, hW20.2.2.1 148 rfl] at q; exact q)))).1 (AMu_lt ((AM_of hW7 _).trans (show AMp σ j38 = true from decide_eq_true (by have q := tm_next (by omega) b43_23; rw [hW20.1 14000 rfl, hW20.1 14013 rfl, hW20.2.2.1 148 rfl] at q; exact q)))).2.2).trans (by rw [lab_lk9 hI hW7 hu6 (show AMp σ j38 = true from decide_eq_true (by have q := tm_next (by omega) b43_23; rw [hW20.1 14000 rfl, hW20.1 14013 rfl, hW20.2.2.1 148 rfl] at q; exact q))])))).mp (by have q := b68_26; rw [nI_clamp (by omega)] at q; exact q)))) (tm_next (by omega) b43_23)
    exact HL38 20 0 _ (by omega) (by omega) nI_0.symm (Nat.zero_le _)
  · skip
    refine R_iload_n (pc := 7) dX9_count_7 rfl rfl ?_
    refine R_iconst (pc := 8) (v := 3) dX9_count_8 (by decide) ?_
    refine R_icne (pc := 9) 86 dX9_count_9 (by decide) (fun b9_31 => ?_) (fun b9_31 => ?_)
    · skip
      refine R_iload_n (pc := 86) dX9_count_86 rfl rfl ?_
      rcases sw7 a with rfl | rfl | rfl | rfl | rfl | rfl | rfl | rfl | hsw
      · skip
        refine R_tin (pc := 87) 132 dX9_count_87 (by decide) (by decide) rfl (by decide) ?_
        refine R_aload_n (pc := 132) dX9_count_132 rfl rfl ?_
        refine g_X9_117 (pc := 133) (v := .int (σ.1 14000)) rfl dX9_count_133 (c_140 _) rfl ?_
        exact R_iret (pc := 136) dX9_count_136 rfl rfl (Nat.zero_le _) (Nat.zero_le _) ⟨_, rfl, (A_cnt_0 _ _ _ _ _ _ _ _).symm, _, rfl, hI, (show Cor σ σ from Cor.rfl' σ)⟩
      · skip
        refine R_tin (pc := 87) 137 dX9_count_87 (by decide) (by decide) rfl (by decide) ?_
        refine R_aload_n (pc := 137) dX9_count_137 rfl rfl ?_
        refine k_X9_120 (pc := 138) (ge_X9_thereMany _ hI) rfl (c_140 _) (by decide) (Nat.le_refl _) (Nat.le_refl _) (Nat.le_of_ble_eq_true rfl) dX9_count_138 (fun x w2 h => ?_)
        obtain ⟨rfl, rfl⟩ := h
        exact R_iret (pc := 141) dX9_count_141 rfl rfl (Nat.zero_le _) (Nat.zero_le _) ⟨_, rfl, (A_cnt_1 _ _ _ _ _ _ _ _).symm, _, rfl, hI, (show Cor σ σ from Cor.rfl' σ)⟩
      · skip
        refine R_tin (pc := 87) 162 dX9_count_87 (by decide) (by decide) rfl (by decide) ?_
        refine R_bipush (pc := 162) (v := (-3)) dX9_count_162 (by decide) ?_
        exact R_iret (pc := 164) dX9_count_164 rfl rfl (Nat.zero_le _) (Nat.zero_le _) (absurd rfl b4_1)
      · skip
        refine R_tin (pc := 87) 162 dX9_count_87 (by decide) (by decide) rfl (by decide) ?_
        refine R_bipush (pc := 162) (v := (-3)) dX9_count_162 (by decide) ?_
        exact R_iret (pc := 164) dX9_count_164 rfl rfl (Nat.zero_le _) (Nat.zero_le _) (absurd rfl b9_31)
      · skip
        refine R_tin (pc := 87) 142 dX9_count_87 (by decide) (by decide) rfl (by decide) ?_
        refine R_aload_n (pc := 142) dX9_count_142 rfl rfl ?_
        refine g_X9_132 (pc := 143) (v := .int (σ.1 14011)) rfl dX9_count_143 (c_140 _) rfl ?_
        exact R_iret (pc := 146) dX9_count_146 rfl rfl (Nat.zero_le _) (Nat.zero_le _) ⟨_, rfl, (A_cnt_4 _ _ _ _ _ _ _ _).symm, _, rfl, hI, (show Cor σ σ from Cor.rfl' σ)⟩
      · skip
        refine R_tin (pc := 87) 147 dX9_count_87 (by decide) (by decide) rfl (by decide) ?_
        refine R_aload_n (pc := 147) dX9_count_147 rfl rfl ?_
        refine g_X9_254 (pc := 148) (v := .int (σ.1 14037)) rfl dX9_count_148 (c_140 _) rfl ?_
        exact R_iret (pc := 151) dX9_count_151 rfl rfl (Nat.zero_le _) (Nat.zero_le _) ⟨_, rfl, (A_cnt_5 _ _ _ _ _ _ _ _).symm, _, rfl, hI, (show Cor σ σ from Cor.rfl' σ)⟩
      · skip
        refine R_tin (pc := 87) 152 dX9_count_87 (by decide) (by decide) rfl (by decide) ?_
        refine R_aload_n (pc := 152) dX9_count_152 rfl rfl ?_
        refine g_X9_215 (pc := 153) (v := .int (σ.1 14047)) rfl dX9_count_153 (c_140 _) rfl ?_
        exact R_iret (pc := 156) dX9_count_156 rfl rfl (Nat.zero_le _) (Nat.zero_le _) ⟨_, rfl, (A_cnt_6 _ _ _ _ _ _ _ _).symm, _, rfl, hI, (show Cor σ σ from Cor.rfl' σ)⟩
      · skip
        refine R_tin (pc := 87) 157 dX9_count_87 (by decide) (by decide) rfl (by decide) ?_
        refine R_aload_n (pc := 157) dX9_count_157 rfl rfl ?_
        refine g_X9_201 (pc := 158) (v := .int (σ.1 14025)) rfl dX9_count_158 (c_140 _) rfl ?_
        exact R_iret (pc := 161) dX9_count_161 rfl rfl (Nat.zero_le _) (Nat.zero_le _) ⟨_, rfl, (A_cnt_7 _ _ _ _ _ _ _ _).symm, _, rfl, hI, (show Cor σ σ from Cor.rfl' σ)⟩
      · skip
        refine R_tout (pc := 87) 162 dX9_count_87 hsw (by decide) ?_
        refine R_bipush (pc := 162) (v := (-3)) dX9_count_162 (by decide) ?_
        exact R_iret (pc := 164) dX9_count_164 rfl rfl (Nat.zero_le _) (Nat.zero_le _) ⟨_, rfl, (A_cnt_x _ _ _ _ _ _ _ _ hsw).symm, _, rfl, hI, (show Cor σ σ from Cor.rfl' σ)⟩
    · skip
      refine R_aload_n (pc := 12) dX9_count_12 rfl rfl ?_
      refine k_X9_162 (pc := 13) (gn_X9_findUnlike _ hI) rfl (c_140 _) (by decide) (Nat.le_refl _) (Nat.le_refl _) (Nat.le_of_ble_eq_true rfl) dX9_count_13 (fun w2 h => ?_)
      obtain ⟨σx33, rfl, hV32, hW34, hq35, hu36⟩ := h
      have hW37 := Cor.trans (show Cor σ σ from Cor.rfl' σ) hW34
      refine R_aload_n (pc := 16) dX9_count_16 rfl rfl ?_
      refine R_aload_n (pc := 17) dX9_count_17 rfl rfl ?_
      refine g_X9_54 (pc := 18) (v := .ref 152) rfl dX9_count_18 (c_140 _) rfl ?_
      refine R_iconst (pc := 21) (v := 0) dX9_count_21 (by decide) ?_
      refine R_iconst (pc := 22) (v := (-1)) dX9_count_22 (by decide) ?_
      refine k_X9_165 (pc := 23) (gn_X9_findChains_152 _ _ hV32 (sym_lk9 hI hW37 hu36 (u := (-1)))) rfl (c_140 _) (by decide) (Nat.le_refl _) (Nat.le_refl _) (Nat.le_of_ble_eq_true rfl) dX9_count_23 (fun w2 h => ?_)
      obtain ⟨σx39, rfl, hV38, hW40, hq41, hl42⟩ := h
      have hW43 := Cor.trans hW37 hW40
      have hu44 : UT (DVm σ) (σx39.2.2.1 151) _ := (by rw [hq41.2.2.1 151 rfl]; exact hu36)
      refine R_aload_n (pc := 26) dX9_count_26 rfl rfl ?_
      refine R_aload_n (pc := 27) dX9_count_27 rfl rfl ?_
      refine g_X9_57 (pc := 28) (v := .ref 153) rfl dX9_count_28 (c_140 _) rfl ?_
      refine R_iconst (pc := 31) (v := 1) dX9_count_31 (by decide) ?_
      refine R_iconst (pc := 32) (v := (-1)) dX9_count_32 (by decide) ?_
      refine k_X9_165 (pc := 33) (gn_X9_findChains_153 _ _ hV38 (sym_mt9 hI hW43 hu44 (u := (-1)))) rfl (c_140 _) (by decide) (Nat.le_refl _) (Nat.le_refl _) (Nat.le_of_ble_eq_true rfl) dX9_count_33 (fun w2 h => ?_)
      obtain ⟨σx46, rfl, hV45, hW47, hq48, hl49⟩ := h
      have hW50 := Cor.trans hW43 hW47
      have hu51 : UT (DVm σ) (σx46.2.2.1 151) _ := (by rw [hq48.2.2.1 151 rfl]; exact hu44)
      refine R_iconst (pc := 36) (v := 0) dX9_count_36 (by decide) ?_
      refine st_4_3_i_i (pc := 37) dX9_count_37 ?_
      have HL38 : ∀ (q j38 : Nat) (g2_38 : Int32), j38 + q = 20 → 0 ≤ j38 → g2_38 = nI (cntB (lsF (mtN σ) (AMp σ)) j38) → j38 ≤ TMn σx46 → R G l yX9_count cX9_count 4 (some .int) 4 0 0 (QI (fun x w2 => x = A_cnt a (σ.1 14000) (nI (TMn σ)) (nI (cntB (lsF (lkN σ) (AMp σ)) (TMn σ))) (nI (cntB (lsF (mtN σ) (AMp σ)) (TMn σ))) (σ.1 14011) (σ.1 14037) (σ.1 14047) (σ.1 14025) ∧ ∃ σ2, w2 = WW σ2 ∧ Inv σ2 ∧ Cor σ σ2)) 38 [(some (.ref 140)), (some (.int a)), (some (.int g2_38)), (some (.int (nI j38)))] [] (WW σx46) 0 0 := by
        intro q
        induction q with
        | zero =>
          intro j38 g2_38 hj hs38 hX38_0 hX38_1
          obtain rfl : j38 = 20 := by omega
          refine R_iload_n (pc := 38) dX9_count_38 rfl rfl ?_
          refine R_aload_n (pc := 39) dX9_count_39 rfl rfl ?_
          refine k_X9_120 (pc := 40) (ge_X9_thereMany _ hV45) rfl (c_140 _) (by decide) (Nat.le_refl _) (Nat.le_refl _) (Nat.le_of_ble_eq_true rfl) dX9_count_40 (fun x w2 h => ?_)
          obtain ⟨rfl, rfl⟩ := h
          refine R_icge (pc := 43) 84 dX9_count_43 (by decide) (fun _ => ?_) (fun h => absurd (Int32.not_lt.mp (inR_up (tm_in (σx46.1 14000) (σx46.1 14013) (σx46.2.2.1 148)) (Int32.le_refl _) (by decide)).2) h)
          refine R_iload_n (pc := 84) dX9_count_84 rfl rfl ?_
          exact R_iret (pc := 85) dX9_count_85 rfl rfl (Nat.zero_le _) (Nat.zero_le _) ⟨_, rfl, (by rw [show a = 3 from b9_31, A_cnt_3]; have q := hX38_0; rw [(show 20 = TMn σx46 from tm_ex20 hX38_1), TMn_c hW50] at q; exact q), _, rfl, hV45, hW50⟩
        | succ q ih38 =>
          intro j38 g2_38 hj hs38 hX38_0 hX38_1
          have hrg38 : inR (nI j38) 0 19 := inR_ix hs38 (show j38 < 20 by omega) (by decide) (by decide) (by decide)
          have hlt38 : j38 < 20 := by omega
          refine R_iload_n (pc := 38) dX9_count_38 rfl rfl ?_
          refine R_aload_n (pc := 39) dX9_count_39 rfl rfl ?_
          refine k_X9_120 (pc := 40) (ge_X9_thereMany _ hV45) rfl (c_140 _) (by decide) (Nat.le_refl _) (Nat.le_refl _) (Nat.le_of_ble_eq_true rfl) dX9_count_40 (fun x w2 h => ?_)
          obtain ⟨rfl, rfl⟩ := h
          refine R_icge (pc := 43) 84 dX9_count_43 (by decide) (fun b43_53 => ?_) (fun b43_53 => ?_)
          · skip
            refine R_iload_n (pc := 84) dX9_count_84 rfl rfl ?_
            exact R_iret (pc := 85) dX9_count_85 rfl rfl (Nat.zero_le _) (Nat.zero_le _) ⟨_, rfl, (by rw [show a = 3 from b9_31, A_cnt_3]; have q := hX38_0; rw [(show j38 = TMn σx46 from tm_exit (by omega) hX38_1 b43_53), TMn_c hW50] at q; exact q), _, rfl, hV45, hW50⟩
          · skip
            refine R_iload_n (pc := 46) dX9_count_46 rfl rfl ?_
            refine R_iload_n (pc := 47) dX9_count_47 rfl rfl ?_
            refine R_iconst (pc := 48) (v := 2) dX9_count_48 (by decide) ?_
            refine R_icne (pc := 49) 61 dX9_count_49 (by decide) (fun _ => ?_) (fun h => absurd h b4_1)
            refine R_aload_n (pc := 61) dX9_count_61 rfl rfl ?_
            refine g_X9_57 (pc := 62) (v := .ref 153) rfl dX9_count_62 (c_140 _) rfl ?_
            refine R_iload_n (pc := 65) dX9_count_65 rfl rfl ?_
            have hx55 : vp_in (nI j38) 20 := (vp_in_nI (by omega) (by decide))
            refine R_iaload (pc := 66) dX9_count_66 (c_153 _) hx55 ?_
            refine R_iload_n (pc := 67) dX9_count_67 rfl rfl ?_
            refine R_icne (pc := 68) 75 dX9_count_68 (by decide) (fun b68_56 => ?_) (fun b68_56 => ?_)
            · skip
              refine R_iconst (pc := 75) (v := 0) dX9_count_75 (by decide) ?_
              refine R_iadd (pc := 76) dX9_count_76 ?_
              refine st_4_2_i_i (pc := 77) dX9_count_77 ?_
              refine inc_4_3_1_i (pc := 78) dX9_count_78 ?_
              have r57 : inR ((nI j38) + 1) 1 20 := inR_add (show inR (nI j38) 0 19 from hrg38) (show inR 1 1 1 from (inR_self _)) (by decide) (by decide)
              have e58 := ti_add (l := 1) (h := 20) (show inR (nI j38) 0 19 from hrg38) (show inR 1 1 1 from (inR_self _)) (by decide) (by decide)
              refine R_goto (pc := 81) 38 dX9_count_81 (by decide) ?_
              rw [nI_1]
              exact ih38 (j38 + 1) _ (by omega) (by omega) (ct_f0 (f := lsF (mtN σ) (AMp σ)) hX38_0 (ls_f (fun e => absurd ((lab_is (show AMp σ j38 = true from decide_eq_true (by have q := tm_next (by omega) b43_53; rw [hW50.1 14000 rfl, hW50.1 14013 rfl, hW50.2.2.1 148 rfl] at q; exact q)) ((hl49 j38 (AMu_lt ((AM_of hW43 _).trans (show AMp σ j38 = true from decide_eq_true (by have q := tm_next (by omega) b43_53; rw [hW50.1 14000 rfl, hW50.1 14013 rfl, hW50.2.2.1 148 rfl] at q; exact q)))).1 (AMu_lt ((AM_of hW43 _).trans (show AMp σ j38 = true from decide_eq_true (by have q := tm_next (by omega) b43_53; rw [hW50.1 14000 rfl, hW50.1 14013 rfl, hW50.2.2.1 148 rfl] at q; exact q)))).2.2).trans (by rw [lab_mt9 hI hW43 hu44 (show AMp σ j38 = true from decide_eq_true (by have q := tm_next (by omega) b43_53; rw [hW50.1 14000 rfl, hW50.1 14013 rfl, hW50.2.2.1 148 rfl] at q; exact q))]))).mpr e) (by have q := b68_56; rw [nI_clamp (by omega)] at q; exact q)))) (tm_next (by omega) b43_53)
            · skip
              refine R_iconst (pc := 71) (v := 1) dX9_count_71 (by decide) ?_
              refine R_goto (pc := 72) 76 dX9_count_72 (by decide) ?_
              refine R_iadd (pc := 76) dX9_count_76 ?_
              refine st_4_2_i_i (pc := 77) dX9_count_77 ?_
              refine inc_4_3_1_i (pc := 78) dX9_count_78 ?_
              have r59 : inR ((nI j38) + 1) 1 20 := inR_add (show inR (nI j38) 0 19 from hrg38) (show inR 1 1 1 from (inR_self _)) (by decide) (by decide)
              have e60 := ti_add (l := 1) (h := 20) (show inR (nI j38) 0 19 from hrg38) (show inR 1 1 1 from (inR_self _)) (by decide) (by decide)
              refine R_goto (pc := 81) 38 dX9_count_81 (by decide) ?_
              rw [nI_1]
              exact ih38 (j38 + 1) _ (by omega) (by omega) (ct_t (f := lsF (mtN σ) (AMp σ)) hX38_0 (ls_t ((lab_is (show AMp σ j38 = true from decide_eq_true (by have q := tm_next (by omega) b43_53; rw [hW50.1 14000 rfl, hW50.1 14013 rfl, hW50.2.2.1 148 rfl] at q; exact q)) ((hl49 j38 (AMu_lt ((AM_of hW43 _).trans (show AMp σ j38 = true from decide_eq_true (by have q := tm_next (by omega) b43_53; rw [hW50.1 14000 rfl, hW50.1 14013 rfl, hW50.2.2.1 148 rfl] at q; exact q)))).1 (AMu_lt ((AM_of hW43 _).trans (show AMp σ j38 = true from decide_eq_true (by have q := tm_next (by omega) b43_53; rw [hW50.1 14000 rfl, hW50.1 14013 rfl, hW50.2.2.1 148 rfl] at q; exact q)))).2.2).trans (by rw [lab_mt9 hI hW43 hu44 (show AMp σ j38 = true from decide_eq_true (by have q := tm_next (by omega) b43_53; rw [hW50.1 14000 rfl, hW50.1 14013 rfl, hW50.2.2.1 148 rfl] at q; exact q))]))).mp (by have q := b68_56; rw [nI_clamp (by omega)] at q; exact q)))) (tm_next (by omega) b43_53)
      exact HL38 20 0 _ (by omega) (by omega) nI_0.symm (Nat.zero_le _)
theorem ans_count {σ σ2 : Sg} {a : Int32} (hI : Inv σ) (hT : Tie σ) (hL : ChL σ) (hD : ChD σ) (hLn : Ln σ) (k : Cor σ σ2) : A_cnt a (σ.1 110) (pcI (thI σ)) (pcI (bsI (lstB (fun a b => lkC σ (nI a) (nI b)) (tb (thI σ))) 20)) (pcI (bsI (lstB (fun a b => mtC σ (nI a) (nI b)) (tb (thI σ))) 20)) (σ.1 111) (σ.1 11701) (σ.1 (100 * σ.2.2.2.2.1 + 6)) (σ.1 5809) = A_cnt a (σ2.1 14000) (nI (TMn σ2)) (nI (cntB (lsF (lkN σ2) (AMp σ2)) (TMn σ2))) (nI (cntB (lsF (mtN σ2) (AMp σ2)) (TMn σ2))) (σ2.1 14011) (σ2.1 14037) (σ2.1 14047) (σ2.1 14025) := by
  rw [k.1 14000 rfl, k.1 14011 rfl, k.1 14037 rfl, k.1 14047 rfl, k.1 14025 rfl, t_size hT, t_day hT, t_bytes hT, t_laters hT, hLn.2.1, cn_there hI hT k, cn_lst hI hT k (fun c hc => lab_lk hI hT hD k hc), cn_lst hI hT k (fun c hc => lab_mt hI hT hL hD k hc)]
