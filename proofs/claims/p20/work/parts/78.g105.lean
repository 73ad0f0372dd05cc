/-! methods on any state that keeps the invariant -/
set_option maxRecDepth 100000 in
set_option maxHeartbeats 40000000 in
theorem ge_X9_lowest {G : vG} {l : Launch} (w : VW) (a b m : Int32) (ha : 0 ≤ a.toInt) (hb : 0 ≤ b.toInt) (hz : ¬ b = 0) : Sp G l yX9_lowest cX9_lowest 4 (some .int) 1 0 0 [.int a, .int b, .int m] (w) (QI (fun x w2 => w2 = w ∧ x = lwM a b (!decide (m = 0)))) := by
  refine Sp_of_R [(some (.int a)), (some (.int b)), (some (.int m)), none] [none] rfl (by simp) rfl (Nat.le_of_ble_eq_true rfl) ?_
  refine R_iload_n (pc := 0) dX9_lowest_0 rfl rfl ?_
  refine R_iload_n (pc := 1) dX9_lowest_1 rfl rfl ?_
  refine k_X9_191 (pc := 2) (ge_X9_common _ _ _ ha hb) rfl (by decide) (Nat.le_refl _) (Nat.le_refl _) (Nat.le_of_ble_eq_true rfl) dX9_lowest_2 (fun x w2 h => ?_)
  obtain ⟨rfl, rfl⟩ := h
  have hg1 : ¬ (cdR b.toInt.toNat a b) = 0 := cd_ne _ _ _ (by omega) ha hb (Or.inr hz)
  refine st_4_3_i_i (pc := 5) dX9_lowest_5 ?_
  refine R_iload_n (pc := 6) dX9_lowest_6 rfl rfl ?_
  refine R_ifeq (pc := 7) 16 dX9_lowest_7 (by decide) (fun b7_2 => ?_) (fun b7_2 => ?_)
  · skip
    refine R_iload_n (pc := 16) dX9_lowest_16 rfl rfl ?_
    refine R_iload_n (pc := 17) dX9_lowest_17 rfl rfl ?_
    refine R_idiv (pc := 18) dX9_lowest_18 hg1 ?_
    exact R_iret (pc := 19) dX9_lowest_19 rfl rfl (Nat.zero_le _) (Nat.zero_le _) ⟨_, rfl, rfl, (by unfold lwM; rw [decide_eq_true b7_2]; rfl)⟩
  · skip
    refine R_iload_n (pc := 10) dX9_lowest_10 rfl rfl ?_
    refine R_iload_n (pc := 11) dX9_lowest_11 rfl rfl ?_
    refine R_idiv (pc := 12) dX9_lowest_12 hg1 ?_
    refine R_goto (pc := 13) 19 dX9_lowest_13 (by decide) ?_
    exact R_iret (pc := 19) dX9_lowest_19 rfl rfl (Nat.zero_le _) (Nat.zero_le _) ⟨_, rfl, rfl, (by unfold lwM; rw [decide_eq_false b7_2]; rfl)⟩
set_option maxRecDepth 100000 in
set_option maxHeartbeats 40000000 in
theorem gq_X9_unseen {G : vG} {l : Launch} (σ : Sg) (a : Int32) (hI : Inv σ) : Sp G l yX9_unseen cX9_unseen 6 (some .int) 4 0 0 [.ref 140, .int a] (WW σ) (QI (fun x w2 => x = A_uns a (unM a (nI (cntB (fsM σ 1) (TMn σ))) (nI (cntB (fsM σ 2) (TMn σ)))) ∧ ∃ σ2, w2 = WW σ2 ∧ Inv σ2 ∧ Cor σ σ2)) := by
  refine Sp_of_R [(some (.ref 140)), (some (.int a)), none, none, none, none] [none, none, none, none] rfl (by simp) rfl (Nat.le_of_ble_eq_true rfl) ?_
  refine R_iload_n (pc := 0) dX9_unseen_0 rfl rfl ?_
  refine R_iconst (pc := 1) (v := 0) dX9_unseen_1 (by decide) ?_
  refine R_iconst (pc := 2) (v := 1) dX9_unseen_2 (by decide) ?_
  refine k_X9_124 (pc := 3) (sp_X9_in _ _ _ _) rfl (by decide) (Nat.le_refl _) (Nat.le_refl _) (Nat.le_of_ble_eq_true rfl) dX9_unseen_3 (fun x w2 h => ?_)
  rcases h with ⟨rfl, ⟨h1, rfl⟩ | ⟨h1, rfl⟩⟩
  · skip
    refine R_ifne (pc := 6) 12 dX9_unseen_6 (by decide) (fun _ => ?_) (fun h => absurd h (by decide))
    refine R_aload_n (pc := 12) dX9_unseen_12 rfl rfl ?_
    refine k_X9_162 (pc := 13) (gn_X9_findUnlike _ hI) rfl (c_140 _) (by decide) (Nat.le_refl _) (Nat.le_refl _) (Nat.le_of_ble_eq_true rfl) dX9_unseen_13 (fun w2 h => ?_)
    obtain ⟨σx4, rfl, hV3, hW5, hq6, hu7⟩ := h
    have hW8 := Cor.trans (show Cor σ σ from Cor.rfl' σ) hW5
    refine R_aload_n (pc := 16) dX9_unseen_16 rfl rfl ?_
    refine R_aload_n (pc := 17) dX9_unseen_17 rfl rfl ?_
    refine g_X9_57 (pc := 18) (v := .ref 153) rfl dX9_unseen_18 (c_140 _) rfl ?_
    refine R_iconst (pc := 21) (v := 1) dX9_unseen_21 (by decide) ?_
    refine R_iconst (pc := 22) (v := (-1)) dX9_unseen_22 (by decide) ?_
    refine k_X9_165 (pc := 23) (gn_X9_findChains_153 _ _ hV3 (sym_mt9 hI hW8 hu7 (u := (-1)))) rfl (c_140 _) (by decide) (Nat.le_refl _) (Nat.le_refl _) (Nat.le_of_ble_eq_true rfl) dX9_unseen_23 (fun w2 h => ?_)
    obtain ⟨σx10, rfl, hV9, hW11, hq12, hl13⟩ := h
    have hW14 := Cor.trans hW8 hW11
    have hu15 : UT (DVm σ) (σx10.2.2.1 151) _ := (by rw [hq12.2.2.1 151 rfl]; exact hu7)
    refine R_iconst (pc := 26) (v := 0) dX9_unseen_26 (by decide) ?_
    refine st_6_2_i_i (pc := 27) dX9_unseen_27 ?_
    refine R_iconst (pc := 28) (v := 0) dX9_unseen_28 (by decide) ?_
    refine st_6_3_i_i (pc := 29) dX9_unseen_29 ?_
    refine R_iconst (pc := 30) (v := 0) dX9_unseen_30 (by decide) ?_
    refine st_6_4_i_i (pc := 31) dX9_unseen_31 ?_
    have HL33 : ∀ (q j33 : Nat) (g2_33 : Int32) (g3_33 : Int32) (g5_33 : Option Value), j33 + q = 20 → 0 ≤ j33 → g2_33 = nI (cntB (fsM σ 1) j33) → g3_33 = nI (cntB (fsM σ 2) j33) → j33 ≤ TMn σx10 → R G l yX9_unseen cX9_unseen 6 (some .int) 4 0 0 (QI (fun x w2 => x = A_uns a (unM a (nI (cntB (fsM σ 1) (TMn σ))) (nI (cntB (fsM σ 2) (TMn σ)))) ∧ ∃ σ2, w2 = WW σ2 ∧ Inv σ2 ∧ Cor σ σ2)) 33 [(some (.ref 140)), (some (.int a)), (some (.int g2_33)), (some (.int g3_33)), (some (.int (nI j33))), g5_33] [] (WW σx10) 0 0 := by
      intro q
      induction q with
      | zero =>
        intro j33 g2_33 g3_33 g5_33 hj hs33 hX33_0 hX33_1 hX33_2
        obtain rfl : j33 = 20 := by omega
        refine R_iload (pc := 33) dX9_unseen_33 rfl ?_
        refine R_aload_n (pc := 35) dX9_unseen_35 rfl rfl ?_
        refine k_X9_120 (pc := 36) (ge_X9_thereMany _ hV9) rfl (c_140 _) (by decide) (Nat.le_refl _) (Nat.le_refl _) (Nat.le_of_ble_eq_true rfl) dX9_unseen_36 (fun x w2 h => ?_)
        obtain ⟨rfl, rfl⟩ := h
        refine R_icge (pc := 39) 103 dX9_unseen_39 (by decide) (fun _ => ?_) (fun h => absurd (Int32.not_lt.mp (inR_up (tm_in (σx10.1 14000) (σx10.1 14013) (σx10.2.2.1 148)) (Int32.le_refl _) (by decide)).2) h)
        refine R_iload_n (pc := 103) dX9_unseen_103 rfl rfl ?_
        refine R_ifne (pc := 104) 128 dX9_unseen_104 (by decide) (fun b104_17 => ?_) (fun b104_17 => ?_)
        · skip
          refine R_iload_n (pc := 128) dX9_unseen_128 rfl rfl ?_
          refine R_iload_n (pc := 129) dX9_unseen_129 rfl rfl ?_
          refine R_imul (pc := 130) dX9_unseen_130 ?_
          refine R_iconst (pc := 131) (v := 2) dX9_unseen_131 (by decide) ?_
          refine R_iload_n (pc := 132) dX9_unseen_132 rfl rfl ?_
          refine R_imul (pc := 133) dX9_unseen_133 ?_
          refine R_iload_n (pc := 134) dX9_unseen_134 rfl rfl ?_
          refine R_ifne (pc := 135) 142 dX9_unseen_135 (by decide) (fun b135_18 => ?_) (fun b135_18 => ?_)
          · skip
            refine R_iconst (pc := 142) (v := 0) dX9_unseen_142 (by decide) ?_
            refine k_X9_194 (pc := 143) (ge_X9_lowest _ _ _ _ (sq_nn (by rw [hX33_0]; exact inR_nI (M := 20) (Nat.le_trans (cnt_le _ _) (by omega)) (by decide))).1 (two_nn (by rw [hX33_1]; exact inR_nI (M := 20) (Nat.le_trans (cnt_le _ _) (by omega)) (by decide))).1 ((two_nn (by rw [hX33_1]; exact inR_nI (M := 20) (Nat.le_trans (cnt_le _ _) (by omega)) (by decide))).2 b104_17)) rfl (by decide) (Nat.le_refl _) (Nat.le_refl _) (Nat.le_of_ble_eq_true rfl) dX9_unseen_143 (fun x w2 h => ?_)
            obtain ⟨rfl, rfl⟩ := h
            refine R_cv (lwM (g2_33 * g2_33) (2 * g3_33) false) rfl ?_
            exact R_iret (pc := 146) dX9_unseen_146 rfl rfl (Nat.zero_le _) (Nat.zero_le _) ⟨_, rfl, (by rw [A_uns_t _ (inB_t h1), (show nI (cntB (fsM σ 1) (TMn σ)) = g2_33 from by have q := hX33_0; rw [(show 20 = TMn σx10 from by first | exact tm_exit (by omega) hX33_2 (by assumption) | exact tm_ex20 hX33_2), TMn_c hW14] at q; exact q.symm), (show nI (cntB (fsM σ 2) (TMn σ)) = g3_33 from by have q := hX33_1; rw [(show 20 = TMn σx10 from by first | exact tm_exit (by omega) hX33_2 (by assumption) | exact tm_ex20 hX33_2), TMn_c hW14] at q; exact q.symm)]; unfold unM; rw [decide_eq_false b104_17, decide_eq_false b135_18]; rfl), _, rfl, hV9, hW14⟩
          · skip
            refine R_iconst (pc := 138) (v := 1) dX9_unseen_138 (by decide) ?_
            refine R_goto (pc := 139) 143 dX9_unseen_139 (by decide) ?_
            refine k_X9_194 (pc := 143) (ge_X9_lowest _ _ _ _ (sq_nn (by rw [hX33_0]; exact inR_nI (M := 20) (Nat.le_trans (cnt_le _ _) (by omega)) (by decide))).1 (two_nn (by rw [hX33_1]; exact inR_nI (M := 20) (Nat.le_trans (cnt_le _ _) (by omega)) (by decide))).1 ((two_nn (by rw [hX33_1]; exact inR_nI (M := 20) (Nat.le_trans (cnt_le _ _) (by omega)) (by decide))).2 b104_17)) rfl (by decide) (Nat.le_refl _) (Nat.le_refl _) (Nat.le_of_ble_eq_true rfl) dX9_unseen_143 (fun x w2 h => ?_)
            obtain ⟨rfl, rfl⟩ := h
            refine R_cv (lwM (g2_33 * g2_33) (2 * g3_33) true) rfl ?_
            exact R_iret (pc := 146) dX9_unseen_146 rfl rfl (Nat.zero_le _) (Nat.zero_le _) ⟨_, rfl, (by rw [A_uns_t _ (inB_t h1), (show nI (cntB (fsM σ 1) (TMn σ)) = g2_33 from by have q := hX33_0; rw [(show 20 = TMn σx10 from by first | exact tm_exit (by omega) hX33_2 (by assumption) | exact tm_ex20 hX33_2), TMn_c hW14] at q; exact q.symm), (show nI (cntB (fsM σ 2) (TMn σ)) = g3_33 from by have q := hX33_1; rw [(show 20 = TMn σx10 from by first | exact tm_exit (by omega) hX33_2 (by assumption) | exact tm_ex20 hX33_2), TMn_c hW14] at q; exact q.symm)]; unfold unM; rw [decide_eq_false b104_17, decide_eq_true b135_18]; rfl), _, rfl, hV9, hW14⟩
        · skip
          refine R_iload_n (pc := 107) dX9_unseen_107 rfl rfl ?_
          refine R_iload_n (pc := 108) dX9_unseen_108 rfl rfl ?_
          refine R_iconst (pc := 109) (v := 1) dX9_unseen_109 (by decide) ?_
          refine R_isub (pc := 110) dX9_unseen_110 ?_
          refine R_imul (pc := 111) dX9_unseen_111 ?_
          refine R_iconst (pc := 112) (v := 2) dX9_unseen_112 (by decide) ?_
          refine R_iload_n (pc := 113) dX9_unseen_113 rfl rfl ?_
          refine R_ifne (pc := 114) 121 dX9_unseen_114 (by decide) (fun b114_19 => ?_) (fun b114_19 => ?_)
          · skip
            refine R_iconst (pc := 121) (v := 0) dX9_unseen_121 (by decide) ?_
            refine k_X9_194 (pc := 122) (ge_X9_lowest _ _ _ _ (sq_nn (by rw [hX33_0]; exact inR_nI (M := 20) (Nat.le_trans (cnt_le _ _) (by omega)) (by decide))).2 (by decide) (by decide)) rfl (by decide) (Nat.le_refl _) (Nat.le_refl _) (Nat.le_of_ble_eq_true rfl) dX9_unseen_122 (fun x w2 h => ?_)
            obtain ⟨rfl, rfl⟩ := h
            refine R_cv (lwM (g2_33 * (g2_33 - 1)) 2 false) rfl ?_
            refine R_goto (pc := 125) 146 dX9_unseen_125 (by decide) ?_
            exact R_iret (pc := 146) dX9_unseen_146 rfl rfl (Nat.zero_le _) (Nat.zero_le _) ⟨_, rfl, (by rw [A_uns_t _ (inB_t h1), (show nI (cntB (fsM σ 1) (TMn σ)) = g2_33 from by have q := hX33_0; rw [(show 20 = TMn σx10 from by first | exact tm_exit (by omega) hX33_2 (by assumption) | exact tm_ex20 hX33_2), TMn_c hW14] at q; exact q.symm), (show nI (cntB (fsM σ 2) (TMn σ)) = g3_33 from by have q := hX33_1; rw [(show 20 = TMn σx10 from by first | exact tm_exit (by omega) hX33_2 (by assumption) | exact tm_ex20 hX33_2), TMn_c hW14] at q; exact q.symm)]; unfold unM; rw [decide_eq_true b104_17, decide_eq_false b114_19]; rfl), _, rfl, hV9, hW14⟩
          · skip
            refine R_iconst (pc := 117) (v := 1) dX9_unseen_117 (by decide) ?_
            refine R_goto (pc := 118) 122 dX9_unseen_118 (by decide) ?_
            refine k_X9_194 (pc := 122) (ge_X9_lowest _ _ _ _ (sq_nn (by rw [hX33_0]; exact inR_nI (M := 20) (Nat.le_trans (cnt_le _ _) (by omega)) (by decide))).2 (by decide) (by decide)) rfl (by decide) (Nat.le_refl _) (Nat.le_refl _) (Nat.le_of_ble_eq_true rfl) dX9_unseen_122 (fun x w2 h => ?_)
            obtain ⟨rfl, rfl⟩ := h
            refine R_cv (lwM (g2_33 * (g2_33 - 1)) 2 true) rfl ?_
            refine R_goto (pc := 125) 146 dX9_unseen_125 (by decide) ?_
            exact R_iret (pc := 146) dX9_unseen_146 rfl rfl (Nat.zero_le _) (Nat.zero_le _) ⟨_, rfl, (by rw [A_uns_t _ (inB_t h1), (show nI (cntB (fsM σ 1) (TMn σ)) = g2_33 from by have q := hX33_0; rw [(show 20 = TMn σx10 from by first | exact tm_exit (by omega) hX33_2 (by assumption) | exact tm_ex20 hX33_2), TMn_c hW14] at q; exact q.symm), (show nI (cntB (fsM σ 2) (TMn σ)) = g3_33 from by have q := hX33_1; rw [(show 20 = TMn σx10 from by first | exact tm_exit (by omega) hX33_2 (by assumption) | exact tm_ex20 hX33_2), TMn_c hW14] at q; exact q.symm)]; unfold unM; rw [decide_eq_true b104_17, decide_eq_true b114_19]; rfl), _, rfl, hV9, hW14⟩
      | succ q ih33 =>
        intro j33 g2_33 g3_33 g5_33 hj hs33 hX33_0 hX33_1 hX33_2
        have hrg33 : inR (nI j33) 0 19 := inR_ix hs33 (show j33 < 20 by omega) (by decide) (by decide) (by decide)
        have hlt33 : j33 < 20 := by omega
        refine R_iload (pc := 33) dX9_unseen_33 rfl ?_
        refine R_aload_n (pc := 35) dX9_unseen_35 rfl rfl ?_
        refine k_X9_120 (pc := 36) (ge_X9_thereMany _ hV9) rfl (c_140 _) (by decide) (Nat.le_refl _) (Nat.le_refl _) (Nat.le_of_ble_eq_true rfl) dX9_unseen_36 (fun x w2 h => ?_)
        obtain ⟨rfl, rfl⟩ := h
        refine R_icge (pc := 39) 103 dX9_unseen_39 (by decide) (fun b39_20 => ?_) (fun b39_20 => ?_)
        · skip
          refine R_iload_n (pc := 103) dX9_unseen_103 rfl rfl ?_
          refine R_ifne (pc := 104) 128 dX9_unseen_104 (by decide) (fun b104_21 => ?_) (fun b104_21 => ?_)
          · skip
            refine R_iload_n (pc := 128) dX9_unseen_128 rfl rfl ?_
            refine R_iload_n (pc := 129) dX9_unseen_129 rfl rfl ?_
            refine R_imul (pc := 130) dX9_unseen_130 ?_
            refine R_iconst (pc := 131) (v := 2) dX9_unseen_131 (by decide) ?_
            refine R_iload_n (pc := 132) dX9_unseen_132 rfl rfl ?_
            refine R_imul (pc := 133) dX9_unseen_133 ?_
            refine R_iload_n (pc := 134) dX9_unseen_134 rfl rfl ?_
            refine R_ifne (pc := 135) 142 dX9_unseen_135 (by decide) (fun b135_22 => ?_) (fun b135_22 => ?_)
            · skip
              refine R_iconst (pc := 142) (v := 0) dX9_unseen_142 (by decide) ?_
              refine k_X9_194 (pc := 143) (ge_X9_lowest _ _ _ _ (sq_nn (by rw [hX33_0]; exact inR_nI (M := 20) (Nat.le_trans (cnt_le _ _) (by omega)) (by decide))).1 (two_nn (by rw [hX33_1]; exact inR_nI (M := 20) (Nat.le_trans (cnt_le _ _) (by omega)) (by decide))).1 ((two_nn (by rw [hX33_1]; exact inR_nI (M := 20) (Nat.le_trans (cnt_le _ _) (by omega)) (by decide))).2 b104_21)) rfl (by decide) (Nat.le_refl _) (Nat.le_refl _) (Nat.le_of_ble_eq_true rfl) dX9_unseen_143 (fun x w2 h => ?_)
              obtain ⟨rfl, rfl⟩ := h
              refine R_cv (lwM (g2_33 * g2_33) (2 * g3_33) false) rfl ?_
              exact R_iret (pc := 146) dX9_unseen_146 rfl rfl (Nat.zero_le _) (Nat.zero_le _) ⟨_, rfl, (by rw [A_uns_t _ (inB_t h1), (show nI (cntB (fsM σ 1) (TMn σ)) = g2_33 from by have q := hX33_0; rw [(show j33 = TMn σx10 from by first | exact tm_exit (by omega) hX33_2 (by assumption) | exact tm_ex20 hX33_2), TMn_c hW14] at q; exact q.symm), (show nI (cntB (fsM σ 2) (TMn σ)) = g3_33 from by have q := hX33_1; rw [(show j33 = TMn σx10 from by first | exact tm_exit (by omega) hX33_2 (by assumption) | exact tm_ex20 hX33_2), TMn_c hW14] at q; exact q.symm)]; unfold unM; rw [decide_eq_false b104_21, decide_eq_false b135_22]; rfl), _, rfl, hV9, hW14⟩
            · skip
              refine R_iconst (pc := 138) (v := 1) dX9_unseen_138 (by decide) ?_
              refine R_goto (pc := 139) 143 dX9_unseen_139 (by decide) ?_
              refine k_X9_194 (pc := 143) (ge_X9_lowest _ _ _ _ (sq_nn (by rw [hX33_0]; exact inR_nI (M := 20) (Nat.le_trans (cnt_le _ _) (by omega)) (by decide))).1 (two_nn (by rw [hX33_1]; exact inR_nI (M := 20) (Nat.le_trans (cnt_le _ _) (by omega)) (by decide))).1 ((two_nn (by rw [hX33_1]; exact inR_nI (M := 20) (Nat.le_trans (cnt_le _ _) (by omega)) (by decide))).2 b104_21)) rfl (by decide) (Nat.le_refl _) (Nat.le_refl _) (Nat.le_of_ble_eq_true rfl) dX9_unseen_143 (fun x w2 h => ?_)
              obtain ⟨rfl, rfl⟩ := h
              refine R_cv (lwM (g2_33 * g2_33) (2 * g3_33) true) rfl ?_
              exact R_iret (pc := 146) dX9_unseen_146 rfl rfl (Nat.zero_le _) (Nat.zero_le _) ⟨_, rfl, (by rw [A_uns_t _ (inB_t h1), (show nI (cntB (fsM σ 1) (TMn σ)) = g2_33 from by have q := hX33_0; rw [(show j33 = TMn σx10 from by first | exact tm_exit (by omega) hX33_2 (by assumption) | exact tm_ex20 hX33_2), TMn_c hW14] at q; exact q.symm), (show nI (cntB (fsM σ 2) (TMn σ)) = g3_33 from by have q := hX33_1; rw [(show j33 = TMn σx10 from by first | exact tm_exit (by omega) hX33_2 (by assumption) | exact tm_ex20 hX33_2), TMn_c hW14] at q; exact q.symm)]; unfold unM; rw [decide_eq_false b104_21, decide_eq_true b135_22]; rfl), _, rfl, hV9, hW14⟩
          · skip
            refine R_iload_n (pc := 107) dX9_unseen_107 rfl rfl ?_
            refine R_iload_n (pc := 108) dX9_unseen_108 rfl rfl ?_
            refine R_iconst (pc := 109) (v := 1) dX9_unseen_109 (by decide) ?_
            refine R_isub (pc := 110) dX9_unseen_110 ?_
            refine R_imul (pc := 111) dX9_unseen_111 ?_
            refine R_iconst (pc := 112) (v := 2) dX9_unseen_112 (by decide) ?_
            refine R_iload_n (pc := 113) dX9_unseen_113 rfl rfl ?_
            refine R_ifne (pc := 114) 121 dX9_unseen_114 (by decide) (fun b114_23 => ?_) (fun b114_23 => ?_)
            · skip
              refine R_iconst (pc := 121) (v := 0) dX9_unseen_121 (by decide) ?_
              refine k_X9_194 (pc := 122) (ge_X9_lowest _ _ _ _ (sq_nn (by rw [hX33_0]; exact inR_nI (M := 20) (Nat.le_trans (cnt_le _ _) (by omega)) (by decide))).2 (by decide) (by decide)) rfl (by decide) (Nat.le_refl _) (Nat.le_refl _) (Nat.le_of_ble_eq_true rfl) dX9_unseen_122 (fun x w2 h => ?_)
              obtain ⟨rfl, rfl⟩ := h
              refine R_cv (lwM (g2_33 * (g2_33 - 1)) 2 false) rfl ?_
              refine R_goto (pc := 125) 146 dX9_unseen_125 (by decide) ?_
              exact R_iret (pc := 146) dX9_unseen_146 rfl rfl (Nat.zero_le _) (Nat.zero_le _) ⟨_, rfl, (by rw [A_uns_t _ (inB_t h1), (show nI (cntB (fsM σ 1) (TMn σ)) = g2_33 from by have q := hX33_0; rw [(show j33 = TMn σx10 from by first | exact tm_exit (by omega) hX33_2 (by assumption) | exact tm_ex20 hX33_2), TMn_c hW14] at q; exact q.symm), (show nI (cntB (fsM σ 2) (TMn σ)) = g3_33 from by have q := hX33_1; rw [(show j33 = TMn σx10 from by first | exact tm_exit (by omega) hX33_2 (by assumption) | exact tm_ex20 hX33_2), TMn_c hW14] at q; exact q.symm)]; unfold unM; rw [decide_eq_true b104_21, decide_eq_false b114_23]; rfl), _, rfl, hV9, hW14⟩
            · skip
              refine R_iconst (pc := 117) (v := 1) dX9_unseen_117 (by decide) ?_
              refine R_goto (pc := 118) 122 dX9_unseen_118 (by decide) ?_
              refine k_X9_194 (pc := 122) (ge_X9_lowest _ _ _ _ (sq_nn (by rw [hX33_0]; exact inR_nI (M := 20) (Nat.le_trans (cnt_le _ _) (by omega)) (by decide))).2 (by decide) (by decide)) rfl (by decide) (Nat.le_refl _) (Nat.le_refl _) (Nat.le_of_ble_eq_true rfl) dX9_unseen_122 (fun x w2 h => ?_)
              obtain ⟨rfl, rfl⟩ := h
              refine R_cv (lwM (g2_33 * (g2_33 - 1)) 2 true) rfl ?_
              refine R_goto (pc := 125) 146 dX9_unseen_125 (by decide) ?_
              exact R_iret (pc := 146) dX9_unseen_146 rfl rfl (Nat.zero_le _) (Nat.zero_le _) ⟨_, rfl, (by rw [A_uns_t _ (inB_t h1), (show nI (cntB (fsM σ 1) (TMn σ)) = g2_33 from by have q := hX33_0; rw [(show j33 = TMn σx10 from by first | exact tm_exit (by omega) hX33_2 (by assumption) | exact tm_ex20 hX33_2), TMn_c hW14] at q; exact q.symm), (show nI (cntB (fsM σ 2) (TMn σ)) = g3_33 from by have q := hX33_1; rw [(show j33 = TMn σx10 from by first | exact tm_exit (by omega) hX33_2 (by assumption) | exact tm_ex20 hX33_2), TMn_c hW14] at q; exact q.symm)]; unfold unM; rw [decide_eq_true b104_21, decide_eq_true b114_23]; rfl), _, rfl, hV9, hW14⟩
        · skip
          refine R_aload_n (pc := 42) dX9_unseen_42 rfl rfl ?_
          refine g_X9_57 (pc := 43) (v := .ref 153) rfl dX9_unseen_43 (c_140 _) rfl ?_
          refine R_iload (pc := 46) dX9_unseen_46 rfl ?_
          have hx24 : vp_in (nI j33) 20 := (vp_in_nI (by omega) (by decide))
          refine R_iaload (pc := 48) dX9_unseen_48 (c_153 _) hx24 ?_
          refine R_iload (pc := 49) dX9_unseen_49 rfl ?_
          refine R_icne (pc := 51) 66 dX9_unseen_51 (by decide) (fun b51_25 => ?_) (fun b51_25 => ?_)
          · skip
            refine R_iconst (pc := 66) (v := 0) dX9_unseen_66 (by decide) ?_
            refine st_6_5_i_i (pc := 67) dX9_unseen_67 ?_
            refine R_iload_n (pc := 69) dX9_unseen_69 rfl rfl ?_
            refine R_iload (pc := 70) dX9_unseen_70 rfl ?_
            refine R_iconst (pc := 72) (v := 1) dX9_unseen_72 (by decide) ?_
            refine R_icne (pc := 73) 80 dX9_unseen_73 (by decide) (fun _ => ?_) (fun h => absurd h (by decide))
            refine R_iconst (pc := 80) (v := 0) dX9_unseen_80 (by decide) ?_
            refine R_iadd (pc := 81) dX9_unseen_81 ?_
            refine st_6_2_i_i (pc := 82) dX9_unseen_82 ?_
            refine R_iload_n (pc := 83) dX9_unseen_83 rfl rfl ?_
            refine R_iload (pc := 84) dX9_unseen_84 rfl ?_
            refine R_iconst (pc := 86) (v := 2) dX9_unseen_86 (by decide) ?_
            refine R_icne (pc := 87) 94 dX9_unseen_87 (by decide) (fun _ => ?_) (fun h => absurd h (by decide))
            refine R_iconst (pc := 94) (v := 0) dX9_unseen_94 (by decide) ?_
            refine R_iadd (pc := 95) dX9_unseen_95 ?_
            refine st_6_3_i_i (pc := 96) dX9_unseen_96 ?_
            refine inc_6_4_1_i (pc := 97) dX9_unseen_97 ?_
            have r28 : inR ((nI j33) + 1) 1 20 := inR_add (show inR (nI j33) 0 19 from hrg33) (show inR 1 1 1 from (inR_self _)) (by decide) (by decide)
            have e29 := ti_add (l := 1) (h := 20) (show inR (nI j33) 0 19 from hrg33) (show inR 1 1 1 from (inR_self _)) (by decide) (by decide)
            refine R_goto (pc := 100) 33 dX9_unseen_100 (by decide) ?_
            rw [nI_1]
            exact ih33 (j33 + 1) _ _ _ (by omega) (by omega) (ct_f0 (f := fsM σ 1) hX33_0 (fsM_f1 (fun e => absurd ((lab_is (show AMp σ j33 = true from decide_eq_true (by have q := tm_next (by omega) b39_20; rw [hW14.1 14000 rfl, hW14.1 14013 rfl, hW14.2.2.1 148 rfl] at q; exact q)) ((hl13 j33 (AMu_lt ((AM_of hW8 _).trans (show AMp σ j33 = true from decide_eq_true (by have q := tm_next (by omega) b39_20; rw [hW14.1 14000 rfl, hW14.1 14013 rfl, hW14.2.2.1 148 rfl] at q; exact q)))).1 (AMu_lt ((AM_of hW8 _).trans (show AMp σ j33 = true from decide_eq_true (by have q := tm_next (by omega) b39_20; rw [hW14.1 14000 rfl, hW14.1 14013 rfl, hW14.2.2.1 148 rfl] at q; exact q)))).2.2).trans (by rw [lab_mt9 hI hW8 hu7 (show AMp σ j33 = true from decide_eq_true (by have q := tm_next (by omega) b39_20; rw [hW14.1 14000 rfl, hW14.1 14013 rfl, hW14.2.2.1 148 rfl] at q; exact q))]))).mpr e) (by have q := b51_25; rw [nI_clamp (by omega)] at q; exact q)))) (ct_f0 (f := fsM σ 2) hX33_1 (fsM_f1 (fun e => absurd ((lab_is (show AMp σ j33 = true from decide_eq_true (by have q := tm_next (by omega) b39_20; rw [hW14.1 14000 rfl, hW14.1 14013 rfl, hW14.2.2.1 148 rfl] at q; exact q)) ((hl13 j33 (AMu_lt ((AM_of hW8 _).trans (show AMp σ j33 = true from decide_eq_true (by have q := tm_next (by omega) b39_20; rw [hW14.1 14000 rfl, hW14.1 14013 rfl, hW14.2.2.1 148 rfl] at q; exact q)))).1 (AMu_lt ((AM_of hW8 _).trans (show AMp σ j33 = true from decide_eq_true (by have q := tm_next (by omega) b39_20; rw [hW14.1 14000 rfl, hW14.1 14013 rfl, hW14.2.2.1 148 rfl] at q; exact q)))).2.2).trans (by rw [lab_mt9 hI hW8 hu7 (show AMp σ j33 = true from decide_eq_true (by have q := tm_next (by omega) b39_20; rw [hW14.1 14000 rfl, hW14.1 14013 rfl, hW14.2.2.1 148 rfl] at q; exact q))]))).mpr e) (by have q := b51_25; rw [nI_clamp (by omega)] at q; exact q)))) (tm_next (by omega) b39_20)
          · skip
            refine R_aload_n (pc := 54) dX9_unseen_54 rfl rfl ?_
            refine R_iload (pc := 55) dX9_unseen_55 rfl ?_
            refine k_X9_169 (pc := 57) (ge_X9_listsOf _ _ hV9) rfl (c_140 _) (by decide) (Nat.le_refl _) (Nat.le_refl _) (Nat.le_of_ble_eq_true rfl) dX9_unseen_57 (fun x w2 h => ?_)
            obtain ⟨rfl, rfl⟩ := h
            refine k_X9_173 (pc := 60) (ge_X9_bits _ _) rfl (by decide) (Nat.le_refl _) (Nat.le_refl _) (Nat.le_of_ble_eq_true rfl) dX9_unseen_60 (fun x w2 h => ?_)
            obtain ⟨rfl, rfl⟩ := h
            refine R_goto (pc := 63) 67 dX9_unseen_63 (by decide) ?_
            refine st_6_5_i_i (pc := 67) dX9_unseen_67 ?_
            refine R_iload_n (pc := 69) dX9_unseen_69 rfl rfl ?_
            refine R_iload (pc := 70) dX9_unseen_70 rfl ?_
            refine R_iconst (pc := 72) (v := 1) dX9_unseen_72 (by decide) ?_
            refine R_icne (pc := 73) 80 dX9_unseen_73 (by decide) (fun b73_30 => ?_) (fun b73_30 => ?_)
            · skip
              refine R_iconst (pc := 80) (v := 0) dX9_unseen_80 (by decide) ?_
              refine R_iadd (pc := 81) dX9_unseen_81 ?_
              refine st_6_2_i_i (pc := 82) dX9_unseen_82 ?_
              refine R_iload_n (pc := 83) dX9_unseen_83 rfl rfl ?_
              refine R_iload (pc := 84) dX9_unseen_84 rfl ?_
              refine R_iconst (pc := 86) (v := 2) dX9_unseen_86 (by decide) ?_
              refine R_icne (pc := 87) 94 dX9_unseen_87 (by decide) (fun b87_31 => ?_) (fun b87_31 => ?_)
              · skip
                refine R_iconst (pc := 94) (v := 0) dX9_unseen_94 (by decide) ?_
                refine R_iadd (pc := 95) dX9_unseen_95 ?_
                refine st_6_3_i_i (pc := 96) dX9_unseen_96 ?_
                refine inc_6_4_1_i (pc := 97) dX9_unseen_97 ?_
                have r32 : inR ((nI j33) + 1) 1 20 := inR_add (show inR (nI j33) 0 19 from hrg33) (show inR 1 1 1 from (inR_self _)) (by decide) (by decide)
                have e33 := ti_add (l := 1) (h := 20) (show inR (nI j33) 0 19 from hrg33) (show inR 1 1 1 from (inR_self _)) (by decide) (by decide)
                refine R_goto (pc := 100) 33 dX9_unseen_100 (by decide) ?_
                rw [nI_1]
                exact ih33 (j33 + 1) _ _ _ (by omega) (by omega) (ct_f0 (f := fsM σ 1) hX33_0 (fsM_f2 (fun e => absurd ((sn9 hI hW14 (show AMp σ j33 = true from decide_eq_true (by have q := tm_next (by omega) b39_20; rw [hW14.1 14000 rfl, hW14.1 14013 rfl, hW14.2.2.1 148 rfl] at q; exact q)) (fun i a => ((hl13 i (AMu_lt ((AM_of hW8 _).trans a)).1 (AMu_lt ((AM_of hW8 _).trans a)).2.2).trans (by rw [lab_mt9 hI hW8 hu7 a]))) (by have q := b51_25; rw [nI_clamp (by omega)] at q; exact q)).trans e) b73_30))) (ct_f0 (f := fsM σ 2) hX33_1 (fsM_f2 (fun e => absurd ((sn9 hI hW14 (show AMp σ j33 = true from decide_eq_true (by have q := tm_next (by omega) b39_20; rw [hW14.1 14000 rfl, hW14.1 14013 rfl, hW14.2.2.1 148 rfl] at q; exact q)) (fun i a => ((hl13 i (AMu_lt ((AM_of hW8 _).trans a)).1 (AMu_lt ((AM_of hW8 _).trans a)).2.2).trans (by rw [lab_mt9 hI hW8 hu7 a]))) (by have q := b51_25; rw [nI_clamp (by omega)] at q; exact q)).trans e) b87_31))) (tm_next (by omega) b39_20)
              · skip
                refine R_iconst (pc := 90) (v := 1) dX9_unseen_90 (by decide) ?_
                refine R_goto (pc := 91) 95 dX9_unseen_91 (by decide) ?_
                refine R_iadd (pc := 95) dX9_unseen_95 ?_
                refine st_6_3_i_i (pc := 96) dX9_unseen_96 ?_
                refine inc_6_4_1_i (pc := 97) dX9_unseen_97 ?_
                have r34 : inR ((nI j33) + 1) 1 20 := inR_add (show inR (nI j33) 0 19 from hrg33) (show inR 1 1 1 from (inR_self _)) (by decide) (by decide)
                have e35 := ti_add (l := 1) (h := 20) (show inR (nI j33) 0 19 from hrg33) (show inR 1 1 1 from (inR_self _)) (by decide) (by decide)
                refine R_goto (pc := 100) 33 dX9_unseen_100 (by decide) ?_
                rw [nI_1]
                exact ih33 (j33 + 1) _ _ _ (by omega) (by omega) (ct_f0 (f := fsM σ 1) hX33_0 (fsM_f2 (fun e => absurd ((sn9 hI hW14 (show AMp σ j33 = true from decide_eq_true (by have q := tm_next (by omega) b39_20; rw [hW14.1 14000 rfl, hW14.1 14013 rfl, hW14.2.2.1 148 rfl] at q; exact q)) (fun i a => ((hl13 i (AMu_lt ((AM_of hW8 _).trans a)).1 (AMu_lt ((AM_of hW8 _).trans a)).2.2).trans (by rw [lab_mt9 hI hW8 hu7 a]))) (by have q := b51_25; rw [nI_clamp (by omega)] at q; exact q)).trans e) b73_30))) (ct_t (f := fsM σ 2) hX33_1 (fsM_t ((lab_is (show AMp σ j33 = true from decide_eq_true (by have q := tm_next (by omega) b39_20; rw [hW14.1 14000 rfl, hW14.1 14013 rfl, hW14.2.2.1 148 rfl] at q; exact q)) ((hl13 j33 (AMu_lt ((AM_of hW8 _).trans (show AMp σ j33 = true from decide_eq_true (by have q := tm_next (by omega) b39_20; rw [hW14.1 14000 rfl, hW14.1 14013 rfl, hW14.2.2.1 148 rfl] at q; exact q)))).1 (AMu_lt ((AM_of hW8 _).trans (show AMp σ j33 = true from decide_eq_true (by have q := tm_next (by omega) b39_20; rw [hW14.1 14000 rfl, hW14.1 14013 rfl, hW14.2.2.1 148 rfl] at q; exact q)))).2.2).trans (by rw [lab_mt9 hI hW8 hu7 (show AMp σ j33 = true from decide_eq_true (by have q := tm_next (by omega) b39_20; rw [hW14.1 14000 rfl, hW14.1 14013 rfl, hW14.2.2.1 148 rfl] at q; exact q))]))).mp (by have q := b51_25; rw [nI_clamp (by omega)] at q; exact q)) ((sn9 hI hW14 (show AMp σ j33 = true from decide_eq_true (by have q := tm_next (by omega) b39_20; rw [hW14.1 14000 rfl, hW14.1 14013 rfl, hW14.2.2.1 148 rfl] at q; exact q)) (fun i a => ((hl13 i (AMu_lt ((AM_of hW8 _).trans a)).1 (AMu_lt ((AM_of hW8 _).trans a)).2.2).trans (by rw [lab_mt9 hI hW8 hu7 a]))) (by have q := b51_25; rw [nI_clamp (by omega)] at q; exact q)).symm.trans b87_31))) (tm_next (by omega) b39_20)
            · skip
              refine R_iconst (pc := 76) (v := 1) dX9_unseen_76 (by decide) ?_
              refine R_goto (pc := 77) 81 dX9_unseen_77 (by decide) ?_
              refine R_iadd (pc := 81) dX9_unseen_81 ?_
              refine st_6_2_i_i (pc := 82) dX9_unseen_82 ?_
              refine R_iload_n (pc := 83) dX9_unseen_83 rfl rfl ?_
              refine R_iload (pc := 84) dX9_unseen_84 rfl ?_
              refine R_iconst (pc := 86) (v := 2) dX9_unseen_86 (by decide) ?_
              refine R_icne (pc := 87) 94 dX9_unseen_87 (by decide) (fun b87_36 => ?_) (fun b87_36 => ?_)
              · skip
                refine R_iconst (pc := 94) (v := 0) dX9_unseen_94 (by decide) ?_
                refine R_iadd (pc := 95) dX9_unseen_95 ?_
                refine st_6_3_i_i (pc := 96) dX9_unseen_96 ?_
                refine inc_6_4_1_i (pc := 97) dX9_unseen_97 ?_
                have r37 : inR ((nI j33) + 1) 1 20 := inR_add (show inR (nI j33) 0 19 from hrg33) (show inR 1 1 1 from (inR_self _)) (by decide) (by decide)
                have e38 := ti_add (l := 1) (h := 20) (show inR (nI j33) 0 19 from hrg33) (show inR 1 1 1 from (inR_self _)) (by decide) (by decide)
                refine R_goto (pc := 100) 33 dX9_unseen_100 (by decide) ?_
                rw [nI_1]
                exact ih33 (j33 + 1) _ _ _ (by omega) (by omega) (ct_t (f := fsM σ 1) hX33_0 (fsM_t ((lab_is (show AMp σ j33 = true from decide_eq_true (by have q := tm_next (by omega) b39_20; rw [hW14.1 14000 rfl, hW14.1 14013 rfl, hW14.2.2.1 148 rfl] at q; exact q)) ((hl13 j33 (AMu_lt ((AM_of hW8 _).trans (show AMp σ j33 = true from decide_eq_true (by have q := tm_next (by omega) b39_20; rw [hW14.1 14000 rfl, hW14.1 14013 rfl, hW14.2.2.1 148 rfl] at q; exact q)))).1 (AMu_lt ((AM_of hW8 _).trans (show AMp σ j33 = true from decide_eq_true (by have q := tm_next (by omega) b39_20; rw [hW14.1 14000 rfl, hW14.1 14013 rfl, hW14.2.2.1 148 rfl] at q; exact q)))).2.2).trans (by rw [lab_mt9 hI hW8 hu7 (show AMp σ j33 = true from decide_eq_true (by have q := tm_next (by omega) b39_20; rw [hW14.1 14000 rfl, hW14.1 14013 rfl, hW14.2.2.1 148 rfl] at q; exact q))]))).mp (by have q := b51_25; rw [nI_clamp (by omega)] at q; exact q)) ((sn9 hI hW14 (show AMp σ j33 = true from decide_eq_true (by have q := tm_next (by omega) b39_20; rw [hW14.1 14000 rfl, hW14.1 14013 rfl, hW14.2.2.1 148 rfl] at q; exact q)) (fun i a => ((hl13 i (AMu_lt ((AM_of hW8 _).trans a)).1 (AMu_lt ((AM_of hW8 _).trans a)).2.2).trans (by rw [lab_mt9 hI hW8 hu7 a]))) (by have q := b51_25; rw [nI_clamp (by omega)] at q; exact q)).symm.trans b73_30))) (ct_f0 (f := fsM σ 2) hX33_1 (fsM_f2 (fun e => absurd ((sn9 hI hW14 (show AMp σ j33 = true from decide_eq_true (by have q := tm_next (by omega) b39_20; rw [hW14.1 14000 rfl, hW14.1 14013 rfl, hW14.2.2.1 148 rfl] at q; exact q)) (fun i a => ((hl13 i (AMu_lt ((AM_of hW8 _).trans a)).1 (AMu_lt ((AM_of hW8 _).trans a)).2.2).trans (by rw [lab_mt9 hI hW8 hu7 a]))) (by have q := b51_25; rw [nI_clamp (by omega)] at q; exact q)).trans e) b87_36))) (tm_next (by omega) b39_20)
              · skip
                refine R_iconst (pc := 90) (v := 1) dX9_unseen_90 (by decide) ?_
                refine R_goto (pc := 91) 95 dX9_unseen_91 (by decide) ?_
                refine R_iadd (pc := 95) dX9_unseen_95 ?_
                refine st_6_3_i_i (pc := 96) dX9_unseen_96 ?_
                refine inc_6_4_1_i (pc := 97) dX9_unseen_97 ?_
                have r39 : inR ((nI j33) + 1) 1 20 := inR_add (show inR (nI j33) 0 19 from hrg33) (show inR 1 1 1 from (inR_self _)) (by decide) (by decide)
                have e40 := ti_add (l := 1) (h := 20) (show inR (nI j33) 0 19 from hrg33) (show inR 1 1 1 from (inR_self _)) (by decide) (by decide)
                refine R_goto (pc := 100) 33 dX9_unseen_100 (by decide) ?_
                rw [nI_1]
                exact ih33 (j33 + 1) _ _ _ (by omega) (by omega) (ct_t (f := fsM σ 1) hX33_0 (fsM_t ((lab_is (show AMp σ j33 = true from decide_eq_true (by have q := tm_next (by omega) b39_20; rw [hW14.1 14000 rfl, hW14.1 14013 rfl, hW14.2.2.1 148 rfl] at q; exact q)) ((hl13 j33 (AMu_lt ((AM_of hW8 _).trans (show AMp σ j33 = true from decide_eq_true (by have q := tm_next (by omega) b39_20; rw [hW14.1 14000 rfl, hW14.1 14013 rfl, hW14.2.2.1 148 rfl] at q; exact q)))).1 (AMu_lt ((AM_of hW8 _).trans (show AMp σ j33 = true from decide_eq_true (by have q := tm_next (by omega) b39_20; rw [hW14.1 14000 rfl, hW14.1 14013 rfl, hW14.2.2.1 148 rfl] at q; exact q)))).2.2).trans (by rw [lab_mt9 hI hW8 hu7 (show AMp σ j33 = true from decide_eq_true (by have q := tm_next (by omega) b39_20; rw [hW14.1 14000 rfl, hW14.1 14013 rfl, hW14.2.2.1 148 rfl] at q; exact q))]))).mp (by have q := b51_25; rw [nI_clamp (by omega)] at q; exact q)) ((sn9 hI hW14 (show AMp σ j33 = true from decide_eq_true (by have q := tm_next (by omega) b39_20; rw [hW14.1 14000 rfl, hW14.1 14013 rfl, hW14.2.2.1 148 rfl] at q; exact q)) (fun i a => ((hl13 i (AMu_lt ((AM_of hW8 _).trans a)).1 (AMu_lt ((AM_of hW8 _).trans a)).2.2).trans (by rw [lab_mt9 hI hW8 hu7 a]))) (by have q := b51_25; rw [nI_clamp (by omega)] at q; exact q)).symm.trans b73_30))) (ct_t (f := fsM σ 2) hX33_1 (fsM_t ((lab_is (show AMp σ j33 = true from decide_eq_true (by have q := tm_next (by omega) b39_20; rw [hW14.1 14000 rfl, hW14.1 14013 rfl, hW14.2.2.1 148 rfl] at q; exact q)) ((hl13 j33 (AMu_lt ((AM_of hW8 _).trans (show AMp σ j33 = true from decide_eq_true (by have q := tm_next (by omega) b39_20; rw [hW14.1 14000 rfl, hW14.1 14013 rfl, hW14.2.2.1 148 rfl] at q; exact q)))).1 (AMu_lt ((AM_of hW8 _).trans (show AMp σ j33 = true from decide_eq_true (by have q := tm_next (by omega) b39_20; rw [hW14.1 14000 rfl, hW14.1 14013 rfl, hW14.2.2.1 148 rfl] at q; exact q)))).2.2).trans (by rw [lab_mt9 hI hW8 hu7 (show AMp σ j33 = true from decide_eq_true (by have q := tm_next (by omega) b39_20; rw [hW14.1 14000 rfl, hW14.1 14013 rfl, hW14.2.2.1 148 rfl] at q; exact q))]))).mp (by have q := b51_25; rw [nI_clamp (by omega)] at q; exact q)) ((sn9 hI hW14 (show AMp σ j33 = true from decide_eq_true (by have q := tm_next (by omega) b39_20; rw [hW14.1 14000 rfl, hW14.1 14013 rfl, hW14.2.2.1 148 rfl] at q; exact q)) (fun i a => ((hl13 i (AMu_lt ((AM_of hW8 _).trans a)).1 (AMu_lt ((AM_of hW8 _).trans a)).2.2).trans (by rw [lab_mt9 hI hW8 hu7 a]))) (by have q := b51_25; rw [nI_clamp (by omega)] at q; exact q)).symm.trans b87_36))) (tm_next (by omega) b39_20)
    exact HL33 20 0 _ _ _ (by omega) (by omega) nI_0.symm nI_0.symm (Nat.zero_le _)
  · skip
    refine R_ifne (pc := 6) 12 dX9_unseen_6 (by decide) (fun h => absurd (by decide) h) (fun _ => ?_)
    refine R_bipush (pc := 9) (v := (-3)) dX9_unseen_9 (by decide) ?_
    exact R_iret (pc := 11) dX9_unseen_11 rfl rfl (Nat.zero_le _) (Nat.zero_le _) ⟨_, rfl, (A_uns_f _ (inB_f h1)).symm, _, rfl, hI, (show Cor σ σ from Cor.rfl' σ)⟩
