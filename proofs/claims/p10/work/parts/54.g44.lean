/-! methods on any state that keeps the invariant -/
def E_X9_days (σ : Sg) (a : Int32) : Sg := (uI σ 14011 ((σ.1 14011) + a))
set_option maxRecDepth 100000 in
set_option maxHeartbeats 40000000 in
theorem ge_X9_days {G : vG} {l : Launch} (σ : Sg) (a : Int32) (hI : Inv σ) : Sp G l yX9_days cX9_days 2 (some .int) 1 0 0 [.ref 140, .int a] (WW σ) (QI (fun x w2 => x = A_days (σ.1 14011) a ∧ ∃ σ2, w2 = WW σ2 ∧ Inv σ2 ∧ Cor (bif K_days (σ.1 14011) a then (E_X9_days σ a) else σ) σ2)) := by
  refine Sp_of_R [(some (.ref 140)), (some (.int a))] [] rfl (by simp) rfl (Nat.le_of_ble_eq_true rfl) ?_
  refine R_iload_n (pc := 0) dX9_days_0 rfl rfl ?_
  refine R_iconst (pc := 1) (v := 1) dX9_days_1 (by decide) ?_
  refine R_bipush (pc := 2) (v := 99) dX9_days_2 (by decide) ?_
  refine k_X9_124 (pc := 4) (sp_X9_in _ _ _ _) rfl (by decide) (Nat.le_refl _) (Nat.le_refl _) (Nat.le_of_ble_eq_true rfl) dX9_days_4 (fun x w2 h => ?_)
  rcases h with ⟨rfl, ⟨h1, rfl⟩ | ⟨h1, rfl⟩⟩
  · skip
    refine R_ifeq (pc := 7) 22 dX9_days_7 (by decide) (fun h => absurd h (by decide)) (fun _ => ?_)
    refine R_aload_n (pc := 10) dX9_days_10 rfl rfl ?_
    refine g_X9_132 (pc := 11) (v := .int (σ.1 14011)) rfl dX9_days_11 (c_140 _) rfl ?_
    refine R_iload_n (pc := 14) dX9_days_14 rfl rfl ?_
    refine R_iadd (pc := 15) dX9_days_15 ?_
    refine R_sipush (pc := 16) (v := 999) dX9_days_16 (by decide) ?_
    refine R_icle (pc := 19) 25 dX9_days_19 (by decide) (fun b19_3 => ?_) (fun b19_3 => ?_)
    · skip
      refine R_aload_n (pc := 25) dX9_days_25 rfl rfl ?_
      refine R_dup (pc := 26) dX9_days_26 rfl ?_
      refine g_X9_132 (pc := 27) (v := .int (σ.1 14011)) rfl dX9_days_27 (c_140 _) rfl ?_
      refine R_iload_n (pc := 30) dX9_days_30 rfl rfl ?_
      refine R_iadd (pc := 31) dX9_days_31 ?_
      refine p_X9_132 (pc := 32) rfl dX9_days_32 (c_140 _) (Nat.le_of_ble_eq_true rfl) rfl rfl (s_140_11 _ _) ?_
      have hW4 := cor_ci 14011 ((σ.1 14011) + a) (show Cor σ σ from Cor.rfl' σ)
      refine R_aload_n (pc := 35) dX9_days_35 rfl rfl ?_
      refine g_X9_132 (pc := 36) (v := .int ((σ.1 14011) + a)) rfl dX9_days_36 (c_140 _) rfl ?_
      exact R_iret (pc := 39) dX9_days_39 rfl rfl (Nat.zero_le _) (Nat.zero_le _) ⟨_, rfl, (by first | (simp only [A_days, inB_t h1, cond_true, cond_false, Bool.and_true, Bool.true_and, Bool.and_false, Bool.false_and, Bool.or_true, Bool.true_or, Bool.or_false, Bool.false_or, Bool.not_true, Bool.not_false, decide_true, decide_false, if_true, if_false, Bool.true_eq_false, Bool.false_eq_true]; done) | (simp only [A_days, inB_t h1, b19_3, cond_true, cond_false, Bool.and_true, Bool.true_and, Bool.and_false, Bool.false_and, Bool.or_true, Bool.true_or, Bool.or_false, Bool.false_or, Bool.not_true, Bool.not_false, decide_true, decide_false, if_true, if_false, Bool.true_eq_false, Bool.false_eq_true]; done) | (simp [A_days, inB_t h1, b19_3]; done) | (simp only [A_days, inB_t h1, cond_true, cond_false, Bool.and_true, Bool.true_and, Bool.and_false, Bool.false_and, Bool.or_true, Bool.true_or, Bool.or_false, Bool.false_or, Bool.not_true, Bool.not_false, decide_true, decide_false, if_true, if_false, Bool.true_eq_false, Bool.false_eq_true] <;> decide)), _, rfl, hI, (by have e : (K_days (σ.1 14011) a) = true := (by first | (simp only [K_days, inB_t h1, cond_true, cond_false, Bool.and_true, Bool.true_and, Bool.and_false, Bool.false_and, Bool.or_true, Bool.true_or, Bool.or_false, Bool.false_or, Bool.not_true, Bool.not_false, decide_true, decide_false, if_true, if_false, Bool.true_eq_false, Bool.false_eq_true]; done) | (simp only [K_days, inB_t h1, b19_3, cond_true, cond_false, Bool.and_true, Bool.true_and, Bool.and_false, Bool.false_and, Bool.or_true, Bool.true_or, Bool.or_false, Bool.false_or, Bool.not_true, Bool.not_false, decide_true, decide_false, if_true, if_false, Bool.true_eq_false, Bool.false_eq_true]; done) | (simp [K_days, inB_t h1, b19_3]; done) | (simp only [K_days, inB_t h1, cond_true, cond_false, Bool.and_true, Bool.true_and, Bool.and_false, Bool.false_and, Bool.or_true, Bool.true_or, Bool.or_false, Bool.false_or, Bool.not_true, Bool.not_false, decide_true, decide_false, if_true, if_false, Bool.true_eq_false, Bool.false_eq_true] <;> decide)); rw [e]; exact hW4)⟩
    · skip
      refine R_bipush (pc := 22) (v := (-3)) dX9_days_22 (by decide) ?_
      exact R_iret (pc := 24) dX9_days_24 rfl rfl (Nat.zero_le _) (Nat.zero_le _) ⟨_, rfl, (by first | (simp only [A_days, inB_t h1, cond_true, cond_false, Bool.and_true, Bool.true_and, Bool.and_false, Bool.false_and, Bool.or_true, Bool.true_or, Bool.or_false, Bool.false_or, Bool.not_true, Bool.not_false, decide_true, decide_false, if_true, if_false, Bool.true_eq_false, Bool.false_eq_true]; done) | (simp only [A_days, inB_t h1, b19_3, cond_true, cond_false, Bool.and_true, Bool.true_and, Bool.and_false, Bool.false_and, Bool.or_true, Bool.true_or, Bool.or_false, Bool.false_or, Bool.not_true, Bool.not_false, decide_true, decide_false, if_true, if_false, Bool.true_eq_false, Bool.false_eq_true]; done) | (simp [A_days, inB_t h1, b19_3]; done) | (simp only [A_days, inB_t h1, cond_true, cond_false, Bool.and_true, Bool.true_and, Bool.and_false, Bool.false_and, Bool.or_true, Bool.true_or, Bool.or_false, Bool.false_or, Bool.not_true, Bool.not_false, decide_true, decide_false, if_true, if_false, Bool.true_eq_false, Bool.false_eq_true] <;> decide)), _, rfl, hI, (by have e : (K_days (σ.1 14011) a) = false := (by first | (simp only [K_days, inB_t h1, cond_true, cond_false, Bool.and_true, Bool.true_and, Bool.and_false, Bool.false_and, Bool.or_true, Bool.true_or, Bool.or_false, Bool.false_or, Bool.not_true, Bool.not_false, decide_true, decide_false, if_true, if_false, Bool.true_eq_false, Bool.false_eq_true]; done) | (simp only [K_days, inB_t h1, b19_3, cond_true, cond_false, Bool.and_true, Bool.true_and, Bool.and_false, Bool.false_and, Bool.or_true, Bool.true_or, Bool.or_false, Bool.false_or, Bool.not_true, Bool.not_false, decide_true, decide_false, if_true, if_false, Bool.true_eq_false, Bool.false_eq_true]; done) | (simp [K_days, inB_t h1, b19_3]; done) | (simp only [K_days, inB_t h1, cond_true, cond_false, Bool.and_true, Bool.true_and, Bool.and_false, Bool.false_and, Bool.or_true, Bool.true_or, Bool.or_false, Bool.false_or, Bool.not_true, Bool.not_false, decide_true, decide_false, if_true, if_false, Bool.true_eq_false, Bool.false_eq_true] <;> decide)); rw [e]; exact (show Cor σ σ from Cor.rfl' σ))⟩
  · skip
    refine R_ifeq (pc := 7) 22 dX9_days_7 (by decide) (fun _ => ?_) (fun h => absurd (by decide) h)
    refine R_bipush (pc := 22) (v := (-3)) dX9_days_22 (by decide) ?_
    exact R_iret (pc := 24) dX9_days_24 rfl rfl (Nat.zero_le _) (Nat.zero_le _) ⟨_, rfl, (by first | (simp only [A_days, inB_f h1, cond_true, cond_false, Bool.and_true, Bool.true_and, Bool.and_false, Bool.false_and, Bool.or_true, Bool.true_or, Bool.or_false, Bool.false_or, Bool.not_true, Bool.not_false, decide_true, decide_false, if_true, if_false, Bool.true_eq_false, Bool.false_eq_true]; done) | (simp [A_days, inB_f h1]; done) | (simp only [A_days, inB_f h1, cond_true, cond_false, Bool.and_true, Bool.true_and, Bool.and_false, Bool.false_and, Bool.or_true, Bool.true_or, Bool.or_false, Bool.false_or, Bool.not_true, Bool.not_false, decide_true, decide_false, if_true, if_false, Bool.true_eq_false, Bool.false_eq_true] <;> decide)), _, rfl, hI, (by have e : (K_days (σ.1 14011) a) = false := (by first | (simp only [K_days, inB_f h1, cond_true, cond_false, Bool.and_true, Bool.true_and, Bool.and_false, Bool.false_and, Bool.or_true, Bool.true_or, Bool.or_false, Bool.false_or, Bool.not_true, Bool.not_false, decide_true, decide_false, if_true, if_false, Bool.true_eq_false, Bool.false_eq_true]; done) | (simp [K_days, inB_f h1]; done) | (simp only [K_days, inB_f h1, cond_true, cond_false, Bool.and_true, Bool.true_and, Bool.and_false, Bool.false_and, Bool.or_true, Bool.true_or, Bool.or_false, Bool.false_or, Bool.not_true, Bool.not_false, decide_true, decide_false, if_true, if_false, Bool.true_eq_false, Bool.false_eq_true] <;> decide)); rw [e]; exact (show Cor σ σ from Cor.rfl' σ))⟩
def E_X9_set (σ : Sg) (a v : Int32) : Sg := if a = 0 then (bif inB v 0 8 then uI (uI (uI σ 14012 v) 14013 (σ.1 14013)) 14014 (σ.1 14014) else σ) else if a = 1 then (bif inB v 0 999 then uI (uI (uI σ 14012 (σ.1 14012)) 14013 v) 14014 (σ.1 14014) else σ) else if a = 2 then (bif inB v 1 10000 then uI (uI (uI σ 14012 (σ.1 14012)) 14013 (σ.1 14013)) 14014 v else σ) else σ
set_option maxRecDepth 100000 in
set_option maxHeartbeats 40000000 in
theorem ge_X9_set {G : vG} {l : Launch} (σ : Sg) (a v : Int32) (hI : Inv σ) : Sp G l yX9_set cX9_set 4 (some .int) 1 0 0 [.ref 140, .int a, .int v] (WW σ) (QI (fun x w2 => x = A_set a v (σ.1 14012) (σ.1 14013) (σ.1 14014) ∧ ∃ σ2, w2 = WW σ2 ∧ Inv σ2 ∧ Cor (E_X9_set σ a v) σ2)) := by
  refine Sp_of_R [(some (.ref 140)), (some (.int a)), (some (.int v)), none] [none] rfl (by simp) rfl (Nat.le_of_ble_eq_true rfl) ?_
  rcases sw2 a with rfl | rfl | rfl | hsw
  · skip
    refine R_iload_n (pc := 0) dX9_set_0 rfl rfl ?_
    refine R_iconst (pc := 1) (v := 0) dX9_set_1 (by decide) ?_
    refine R_iconst (pc := 2) (v := 2) dX9_set_2 (by decide) ?_
    refine k_X9_124 (pc := 3) (sp_X9_in _ _ _ _) rfl (by decide) (Nat.le_refl _) (Nat.le_refl _) (Nat.le_of_ble_eq_true rfl) dX9_set_3 (fun x w2 h => ?_)
    obtain ⟨rfl, h⟩ := h
    rcases h.symm with ⟨h, -⟩ | ⟨-, rfl⟩
    · exact absurd ⟨by decide, by decide⟩ h
    refine R_ifeq (pc := 6) 49 dX9_set_6 (by decide) (fun h => absurd h (by decide)) (fun _ => ?_)
    refine R_iload_n (pc := 9) dX9_set_9 rfl rfl ?_
    refine R_iload_n (pc := 10) dX9_set_10 rfl rfl ?_
    refine R_iconst (pc := 11) (v := 2) dX9_set_11 (by decide) ?_
    refine R_icne (pc := 12) 19 dX9_set_12 (by decide) (fun _ => ?_) (fun h => absurd h (by decide))
    refine R_iconst (pc := 19) (v := 0) dX9_set_19 (by decide) ?_
    refine R_iload_n (pc := 20) dX9_set_20 rfl rfl ?_
    refine R_ifne (pc := 21) 29 dX9_set_21 (by decide) (fun h => absurd (by decide) h) (fun _ => ?_)
    refine R_bipush (pc := 24) (v := 8) dX9_set_24 (by decide) ?_
    refine R_goto (pc := 26) 43 dX9_set_26 (by decide) ?_
    refine k_X9_124 (pc := 43) (sp_X9_in _ _ _ _) rfl (by decide) (Nat.le_refl _) (Nat.le_refl _) (Nat.le_of_ble_eq_true rfl) dX9_set_43 (fun x w2 h => ?_)
    rcases h with ⟨rfl, ⟨h4, rfl⟩ | ⟨h4, rfl⟩⟩
    · skip
      refine R_ifne (pc := 46) 52 dX9_set_46 (by decide) (fun _ => ?_) (fun h => absurd h (by decide))
      refine R_iload_n (pc := 52) dX9_set_52 rfl rfl ?_
      refine R_ifne (pc := 53) 63 dX9_set_53 (by decide) (fun h => absurd (by decide) h) (fun _ => ?_)
      refine R_aload_n (pc := 56) dX9_set_56 rfl rfl ?_
      refine g_X9_41 (pc := 57) (v := .int (σ.1 14012)) rfl dX9_set_57 (c_140 _) rfl ?_
      refine R_goto (pc := 60) 79 dX9_set_60 (by decide) ?_
      refine st_4_3_i_i (pc := 79) dX9_set_79 ?_
      refine R_aload_n (pc := 80) dX9_set_80 rfl rfl ?_
      refine R_iload_n (pc := 81) dX9_set_81 rfl rfl ?_
      refine R_ifne (pc := 82) 89 dX9_set_82 (by decide) (fun h => absurd (by decide) h) (fun _ => ?_)
      refine R_iload_n (pc := 85) dX9_set_85 rfl rfl ?_
      refine R_goto (pc := 86) 93 dX9_set_86 (by decide) ?_
      refine p_X9_41 (pc := 93) rfl dX9_set_93 (c_140 _) (Nat.le_of_ble_eq_true rfl) rfl rfl (s_140_12 _ _) ?_
      have hW8 := cor_ci 14012 v (show Cor σ σ from Cor.rfl' σ)
      refine R_aload_n (pc := 96) dX9_set_96 rfl rfl ?_
      refine R_iload_n (pc := 97) dX9_set_97 rfl rfl ?_
      refine R_iconst (pc := 98) (v := 1) dX9_set_98 (by decide) ?_
      refine R_icne (pc := 99) 106 dX9_set_99 (by decide) (fun _ => ?_) (fun h => absurd h (by decide))
      refine R_aload_n (pc := 106) dX9_set_106 rfl rfl ?_
      refine g_X9_45 (pc := 107) (v := .int (σ.1 14013)) rfl dX9_set_107 (c_140 _) rfl ?_
      refine p_X9_45 (pc := 110) rfl dX9_set_110 (c_140 _) (Nat.le_of_ble_eq_true rfl) rfl rfl (s_140_13 _ _) ?_
      have hW10 := cor_ci 14013 (σ.1 14013) hW8
      refine R_aload_n (pc := 113) dX9_set_113 rfl rfl ?_
      refine R_iload_n (pc := 114) dX9_set_114 rfl rfl ?_
      refine R_iconst (pc := 115) (v := 2) dX9_set_115 (by decide) ?_
      refine R_icne (pc := 116) 123 dX9_set_116 (by decide) (fun _ => ?_) (fun h => absurd h (by decide))
      refine R_aload_n (pc := 123) dX9_set_123 rfl rfl ?_
      refine g_X9_48 (pc := 124) (v := .int (σ.1 14014)) rfl dX9_set_124 (c_140 _) rfl ?_
      refine p_X9_48 (pc := 127) rfl dX9_set_127 (c_140 _) (Nat.le_of_ble_eq_true rfl) rfl rfl (s_140_14 _ _) ?_
      have hW12 := cor_ci 14014 (σ.1 14014) hW10
      refine R_iload_n (pc := 130) dX9_set_130 rfl rfl ?_
      exact R_iret (pc := 131) dX9_set_131 rfl rfl (Nat.zero_le _) (Nat.zero_le _) ⟨_, rfl, (by first | (simp only [A_set, inB_t h4, cond_true, cond_false, Bool.and_true, Bool.true_and, Bool.and_false, Bool.false_and, Bool.or_true, Bool.true_or, Bool.or_false, Bool.false_or, Bool.not_true, Bool.not_false, decide_true, decide_false, if_true, if_false, Bool.true_eq_false, Bool.false_eq_true]; done) | (simp [A_set, inB_t h4]; done) | (simp only [A_set, inB_t h4, cond_true, cond_false, Bool.and_true, Bool.true_and, Bool.and_false, Bool.false_and, Bool.or_true, Bool.true_or, Bool.or_false, Bool.false_or, Bool.not_true, Bool.not_false, decide_true, decide_false, if_true, if_false, Bool.true_eq_false, Bool.false_eq_true] <;> decide)), _, rfl, hI, (cor_eq (by first | (simp only [E_X9_set, inB_t h4, cond_true, cond_false, Bool.and_true, Bool.true_and, Bool.and_false, Bool.false_and, Bool.or_true, Bool.true_or, Bool.or_false, Bool.false_or, Bool.not_true, Bool.not_false, decide_true, decide_false, if_true, if_false, Bool.true_eq_false, Bool.false_eq_true]; done) | (simp [E_X9_set, inB_t h4]; done) | (simp only [E_X9_set, inB_t h4, cond_true, cond_false, Bool.and_true, Bool.true_and, Bool.and_false, Bool.false_and, Bool.or_true, Bool.true_or, Bool.or_false, Bool.false_or, Bool.not_true, Bool.not_false, decide_true, decide_false, if_true, if_false, Bool.true_eq_false, Bool.false_eq_true] <;> decide)) hW12)⟩
    · skip
      refine R_ifne (pc := 46) 52 dX9_set_46 (by decide) (fun h => absurd (by decide) h) (fun _ => ?_)
      refine R_bipush (pc := 49) (v := (-3)) dX9_set_49 (by decide) ?_
      exact R_iret (pc := 51) dX9_set_51 rfl rfl (Nat.zero_le _) (Nat.zero_le _) ⟨_, rfl, (by first | (simp only [A_set, inB_f h4, cond_true, cond_false, Bool.and_true, Bool.true_and, Bool.and_false, Bool.false_and, Bool.or_true, Bool.true_or, Bool.or_false, Bool.false_or, Bool.not_true, Bool.not_false, decide_true, decide_false, if_true, if_false, Bool.true_eq_false, Bool.false_eq_true]; done) | (simp [A_set, inB_f h4]; done) | (simp only [A_set, inB_f h4, cond_true, cond_false, Bool.and_true, Bool.true_and, Bool.and_false, Bool.false_and, Bool.or_true, Bool.true_or, Bool.or_false, Bool.false_or, Bool.not_true, Bool.not_false, decide_true, decide_false, if_true, if_false, Bool.true_eq_false, Bool.false_eq_true] <;> decide)), _, rfl, hI, (cor_eq (by first | (simp only [E_X9_set, inB_f h4, cond_true, cond_false, Bool.and_true, Bool.true_and, Bool.and_false, Bool.false_and, Bool.or_true, Bool.true_or, Bool.or_false, Bool.false_or, Bool.not_true, Bool.not_false, decide_true, decide_false, if_true, if_false, Bool.true_eq_false, Bool.false_eq_true]; done) | (simp [E_X9_set, inB_f h4]; done) | (simp only [E_X9_set, inB_f h4, cond_true, cond_false, Bool.and_true, Bool.true_and, Bool.and_false, Bool.false_and, Bool.or_true, Bool.true_or, Bool.or_false, Bool.false_or, Bool.not_true, Bool.not_false, decide_true, decide_false, if_true, if_false, Bool.true_eq_false, Bool.false_eq_true] <;> decide)) (show Cor σ σ from Cor.rfl' σ))⟩
  · skip
    refine R_iload_n (pc := 0) dX9_set_0 rfl rfl ?_
    refine R_iconst (pc := 1) (v := 0) dX9_set_1 (by decide) ?_
    refine R_iconst (pc := 2) (v := 2) dX9_set_2 (by decide) ?_
    refine k_X9_124 (pc := 3) (sp_X9_in _ _ _ _) rfl (by decide) (Nat.le_refl _) (Nat.le_refl _) (Nat.le_of_ble_eq_true rfl) dX9_set_3 (fun x w2 h => ?_)
    obtain ⟨rfl, h⟩ := h
    rcases h.symm with ⟨h, -⟩ | ⟨-, rfl⟩
    · exact absurd ⟨by decide, by decide⟩ h
    refine R_ifeq (pc := 6) 49 dX9_set_6 (by decide) (fun h => absurd h (by decide)) (fun _ => ?_)
    refine R_iload_n (pc := 9) dX9_set_9 rfl rfl ?_
    refine R_iload_n (pc := 10) dX9_set_10 rfl rfl ?_
    refine R_iconst (pc := 11) (v := 2) dX9_set_11 (by decide) ?_
    refine R_icne (pc := 12) 19 dX9_set_12 (by decide) (fun _ => ?_) (fun h => absurd h (by decide))
    refine R_iconst (pc := 19) (v := 0) dX9_set_19 (by decide) ?_
    refine R_iload_n (pc := 20) dX9_set_20 rfl rfl ?_
    refine R_ifne (pc := 21) 29 dX9_set_21 (by decide) (fun _ => ?_) (fun h => absurd h (by decide))
    refine R_iload_n (pc := 29) dX9_set_29 rfl rfl ?_
    refine R_iconst (pc := 30) (v := 1) dX9_set_30 (by decide) ?_
    refine R_icne (pc := 31) 40 dX9_set_31 (by decide) (fun h => absurd (by decide) h) (fun _ => ?_)
    refine R_sipush (pc := 34) (v := 999) dX9_set_34 (by decide) ?_
    refine R_goto (pc := 37) 43 dX9_set_37 (by decide) ?_
    refine k_X9_124 (pc := 43) (sp_X9_in _ _ _ _) rfl (by decide) (Nat.le_refl _) (Nat.le_refl _) (Nat.le_of_ble_eq_true rfl) dX9_set_43 (fun x w2 h => ?_)
    rcases h with ⟨rfl, ⟨h18, rfl⟩ | ⟨h18, rfl⟩⟩
    · skip
      refine R_ifne (pc := 46) 52 dX9_set_46 (by decide) (fun _ => ?_) (fun h => absurd h (by decide))
      refine R_iload_n (pc := 52) dX9_set_52 rfl rfl ?_
      refine R_ifne (pc := 53) 63 dX9_set_53 (by decide) (fun _ => ?_) (fun h => absurd h (by decide))
      refine R_iload_n (pc := 63) dX9_set_63 rfl rfl ?_
      refine R_iconst (pc := 64) (v := 1) dX9_set_64 (by decide) ?_
      refine R_icne (pc := 65) 75 dX9_set_65 (by decide) (fun h => absurd (by decide) h) (fun _ => ?_)
      refine R_aload_n (pc := 68) dX9_set_68 rfl rfl ?_
      refine g_X9_45 (pc := 69) (v := .int (σ.1 14013)) rfl dX9_set_69 (c_140 _) rfl ?_
      refine R_goto (pc := 72) 79 dX9_set_72 (by decide) ?_
      refine st_4_3_i_i (pc := 79) dX9_set_79 ?_
      refine R_aload_n (pc := 80) dX9_set_80 rfl rfl ?_
      refine R_iload_n (pc := 81) dX9_set_81 rfl rfl ?_
      refine R_ifne (pc := 82) 89 dX9_set_82 (by decide) (fun _ => ?_) (fun h => absurd h (by decide))
      refine R_aload_n (pc := 89) dX9_set_89 rfl rfl ?_
      refine g_X9_41 (pc := 90) (v := .int (σ.1 14012)) rfl dX9_set_90 (c_140 _) rfl ?_
      refine p_X9_41 (pc := 93) rfl dX9_set_93 (c_140 _) (Nat.le_of_ble_eq_true rfl) rfl rfl (s_140_12 _ _) ?_
      have hW23 := cor_ci 14012 (σ.1 14012) (show Cor σ σ from Cor.rfl' σ)
      refine R_aload_n (pc := 96) dX9_set_96 rfl rfl ?_
      refine R_iload_n (pc := 97) dX9_set_97 rfl rfl ?_
      refine R_iconst (pc := 98) (v := 1) dX9_set_98 (by decide) ?_
      refine R_icne (pc := 99) 106 dX9_set_99 (by decide) (fun h => absurd (by decide) h) (fun _ => ?_)
      refine R_iload_n (pc := 102) dX9_set_102 rfl rfl ?_
      refine R_goto (pc := 103) 110 dX9_set_103 (by decide) ?_
      refine p_X9_45 (pc := 110) rfl dX9_set_110 (c_140 _) (Nat.le_of_ble_eq_true rfl) rfl rfl (s_140_13 _ _) ?_
      have hW25 := cor_ci 14013 v hW23
      refine R_aload_n (pc := 113) dX9_set_113 rfl rfl ?_
      refine R_iload_n (pc := 114) dX9_set_114 rfl rfl ?_
      refine R_iconst (pc := 115) (v := 2) dX9_set_115 (by decide) ?_
      refine R_icne (pc := 116) 123 dX9_set_116 (by decide) (fun _ => ?_) (fun h => absurd h (by decide))
      refine R_aload_n (pc := 123) dX9_set_123 rfl rfl ?_
      refine g_X9_48 (pc := 124) (v := .int (σ.1 14014)) rfl dX9_set_124 (c_140 _) rfl ?_
      refine p_X9_48 (pc := 127) rfl dX9_set_127 (c_140 _) (Nat.le_of_ble_eq_true rfl) rfl rfl (s_140_14 _ _) ?_
      have hW27 := cor_ci 14014 (σ.1 14014) hW25
      refine R_iload_n (pc := 130) dX9_set_130 rfl rfl ?_
      exact R_iret (pc := 131) dX9_set_131 rfl rfl (Nat.zero_le _) (Nat.zero_le _) ⟨_, rfl, (by first | (simp only [A_set, inB_t h18, cond_true, cond_false, Bool.and_true, Bool.true_and, Bool.and_false, Bool.false_and, Bool.or_true, Bool.true_or, Bool.or_false, Bool.false_or, Bool.not_true, Bool.not_false, decide_true, decide_false, if_true, if_false, Bool.true_eq_false, Bool.false_eq_true]; done) | (simp [A_set, inB_t h18]; done) | (simp only [A_set, inB_t h18, cond_true, cond_false, Bool.and_true, Bool.true_and, Bool.and_false, Bool.false_and, Bool.or_true, Bool.true_or, Bool.or_false, Bool.false_or, Bool.not_true, Bool.not_false, decide_true, decide_false, if_true, if_false, Bool.true_eq_false, Bool.false_eq_true] <;> decide)), _, rfl, hI, (cor_eq (by first | (simp only [E_X9_set, inB_t h18, cond_true, cond_false, Bool.and_true, Bool.true_and, Bool.and_false, Bool.false_and, Bool.or_true, Bool.true_or, Bool.or_false, Bool.false_or, Bool.not_true, Bool.not_false, decide_true, decide_false, if_true, if_false, Bool.true_eq_false, Bool.false_eq_true]; done) | (simp [E_X9_set, inB_t h18]; done) | (simp only [E_X9_set, inB_t h18, cond_true, cond_false, Bool.and_true, Bool.true_and, Bool.and_false, Bool.false_and, Bool.or_true, Bool.true_or, Bool.or_false, Bool.false_or, Bool.not_true, Bool.not_false, decide_true, decide_false, if_true, if_false, Bool.true_eq_false, Bool.false_eq_true] <;> decide)) hW27)⟩
    · skip
      refine R_ifne (pc := 46) 52 dX9_set_46 (by decide) (fun h => absurd (by decide) h) (fun _ => ?_)
      refine R_bipush (pc := 49) (v := (-3)) dX9_set_49 (by decide) ?_
      exact R_iret (pc := 51) dX9_set_51 rfl rfl (Nat.zero_le _) (Nat.zero_le _) ⟨_, rfl, (by first | (simp only [A_set, inB_f h18, cond_true, cond_false, Bool.and_true, Bool.true_and, Bool.and_false, Bool.false_and, Bool.or_true, Bool.true_or, Bool.or_false, Bool.false_or, Bool.not_true, Bool.not_false, decide_true, decide_false, if_true, if_false, Bool.true_eq_false, Bool.false_eq_true]; done) | (simp [A_set, inB_f h18]; done) | (simp only [A_set, inB_f h18, cond_true, cond_false, Bool.and_true, Bool.true_and, Bool.and_false, Bool.false_and, Bool.or_true, Bool.true_or, Bool.or_false, Bool.false_or, Bool.not_true, Bool.not_false, decide_true, decide_false, if_true, if_false, Bool.true_eq_false, Bool.false_eq_true] <;> decide)), _, rfl, hI, (cor_eq (by first | (simp only [E_X9_set, inB_f h18, cond_true, cond_false, Bool.and_true, Bool.true_and, Bool.and_false, Bool.false_and, Bool.or_true, Bool.true_or, Bool.or_false, Bool.false_or, Bool.not_true, Bool.not_false, decide_true, decide_false, if_true, if_false, Bool.true_eq_false, Bool.false_eq_true]; done) | (simp [E_X9_set, inB_f h18]; done) | (simp only [E_X9_set, inB_f h18, cond_true, cond_false, Bool.and_true, Bool.true_and, Bool.and_false, Bool.false_and, Bool.or_true, Bool.true_or, Bool.or_false, Bool.false_or, Bool.not_true, Bool.not_false, decide_true, decide_false, if_true, if_false, Bool.true_eq_false, Bool.false_eq_true] <;> decide)) (show Cor σ σ from Cor.rfl' σ))⟩
  · skip
    refine R_iload_n (pc := 0) dX9_set_0 rfl rfl ?_
    refine R_iconst (pc := 1) (v := 0) dX9_set_1 (by decide) ?_
    refine R_iconst (pc := 2) (v := 2) dX9_set_2 (by decide) ?_
    refine k_X9_124 (pc := 3) (sp_X9_in _ _ _ _) rfl (by decide) (Nat.le_refl _) (Nat.le_refl _) (Nat.le_of_ble_eq_true rfl) dX9_set_3 (fun x w2 h => ?_)
    obtain ⟨rfl, h⟩ := h
    rcases h.symm with ⟨h, -⟩ | ⟨-, rfl⟩
    · exact absurd ⟨by decide, by decide⟩ h
    refine R_ifeq (pc := 6) 49 dX9_set_6 (by decide) (fun h => absurd h (by decide)) (fun _ => ?_)
    refine R_iload_n (pc := 9) dX9_set_9 rfl rfl ?_
    refine R_iload_n (pc := 10) dX9_set_10 rfl rfl ?_
    refine R_iconst (pc := 11) (v := 2) dX9_set_11 (by decide) ?_
    refine R_icne (pc := 12) 19 dX9_set_12 (by decide) (fun h => absurd (by decide) h) (fun _ => ?_)
    refine R_iconst (pc := 15) (v := 1) dX9_set_15 (by decide) ?_
    refine R_goto (pc := 16) 20 dX9_set_16 (by decide) ?_
    refine R_iload_n (pc := 20) dX9_set_20 rfl rfl ?_
    refine R_ifne (pc := 21) 29 dX9_set_21 (by decide) (fun _ => ?_) (fun h => absurd h (by decide))
    refine R_iload_n (pc := 29) dX9_set_29 rfl rfl ?_
    refine R_iconst (pc := 30) (v := 1) dX9_set_30 (by decide) ?_
    refine R_icne (pc := 31) 40 dX9_set_31 (by decide) (fun _ => ?_) (fun h => absurd h (by decide))
    refine R_sipush (pc := 40) (v := 10000) dX9_set_40 (by decide) ?_
    refine k_X9_124 (pc := 43) (sp_X9_in _ _ _ _) rfl (by decide) (Nat.le_refl _) (Nat.le_refl _) (Nat.le_of_ble_eq_true rfl) dX9_set_43 (fun x w2 h => ?_)
    rcases h with ⟨rfl, ⟨h33, rfl⟩ | ⟨h33, rfl⟩⟩
    · skip
      refine R_ifne (pc := 46) 52 dX9_set_46 (by decide) (fun _ => ?_) (fun h => absurd h (by decide))
      refine R_iload_n (pc := 52) dX9_set_52 rfl rfl ?_
      refine R_ifne (pc := 53) 63 dX9_set_53 (by decide) (fun _ => ?_) (fun h => absurd h (by decide))
      refine R_iload_n (pc := 63) dX9_set_63 rfl rfl ?_
      refine R_iconst (pc := 64) (v := 1) dX9_set_64 (by decide) ?_
      refine R_icne (pc := 65) 75 dX9_set_65 (by decide) (fun _ => ?_) (fun h => absurd h (by decide))
      refine R_aload_n (pc := 75) dX9_set_75 rfl rfl ?_
      refine g_X9_48 (pc := 76) (v := .int (σ.1 14014)) rfl dX9_set_76 (c_140 _) rfl ?_
      refine st_4_3_i_i (pc := 79) dX9_set_79 ?_
      refine R_aload_n (pc := 80) dX9_set_80 rfl rfl ?_
      refine R_iload_n (pc := 81) dX9_set_81 rfl rfl ?_
      refine R_ifne (pc := 82) 89 dX9_set_82 (by decide) (fun _ => ?_) (fun h => absurd h (by decide))
      refine R_aload_n (pc := 89) dX9_set_89 rfl rfl ?_
      refine g_X9_41 (pc := 90) (v := .int (σ.1 14012)) rfl dX9_set_90 (c_140 _) rfl ?_
      refine p_X9_41 (pc := 93) rfl dX9_set_93 (c_140 _) (Nat.le_of_ble_eq_true rfl) rfl rfl (s_140_12 _ _) ?_
      have hW38 := cor_ci 14012 (σ.1 14012) (show Cor σ σ from Cor.rfl' σ)
      refine R_aload_n (pc := 96) dX9_set_96 rfl rfl ?_
      refine R_iload_n (pc := 97) dX9_set_97 rfl rfl ?_
      refine R_iconst (pc := 98) (v := 1) dX9_set_98 (by decide) ?_
      refine R_icne (pc := 99) 106 dX9_set_99 (by decide) (fun _ => ?_) (fun h => absurd h (by decide))
      refine R_aload_n (pc := 106) dX9_set_106 rfl rfl ?_
      refine g_X9_45 (pc := 107) (v := .int (σ.1 14013)) rfl dX9_set_107 (c_140 _) rfl ?_
      refine p_X9_45 (pc := 110) rfl dX9_set_110 (c_140 _) (Nat.le_of_ble_eq_true rfl) rfl rfl (s_140_13 _ _) ?_
      have hW40 := cor_ci 14013 (σ.1 14013) hW38
      refine R_aload_n (pc := 113) dX9_set_113 rfl rfl ?_
      refine R_iload_n (pc := 114) dX9_set_114 rfl rfl ?_
      refine R_iconst (pc := 115) (v := 2) dX9_set_115 (by decide) ?_
      refine R_icne (pc := 116) 123 dX9_set_116 (by decide) (fun h => absurd (by decide) h) (fun _ => ?_)
      refine R_iload_n (pc := 119) dX9_set_119 rfl rfl ?_
      refine R_goto (pc := 120) 127 dX9_set_120 (by decide) ?_
      refine p_X9_48 (pc := 127) rfl dX9_set_127 (c_140 _) (Nat.le_of_ble_eq_true rfl) rfl rfl (s_140_14 _ _) ?_
      have hW42 := cor_ci 14014 v hW40
      refine R_iload_n (pc := 130) dX9_set_130 rfl rfl ?_
      exact R_iret (pc := 131) dX9_set_131 rfl rfl (Nat.zero_le _) (Nat.zero_le _) ⟨_, rfl, (by first | (simp only [A_set, inB_t h33, cond_true, cond_false, Bool.and_true, Bool.true_and, Bool.and_false, Bool.false_and, Bool.or_true, Bool.true_or, Bool.or_false, Bool.false_or, Bool.not_true, Bool.not_false, decide_true, decide_false, if_true, if_false, Bool.true_eq_false, Bool.false_eq_true]; done) | (simp [A_set, inB_t h33]; done) | (simp only [A_set, inB_t h33, cond_true, cond_false, Bool.and_true, Bool.true_and, Bool.and_false, Bool.false_and, Bool.or_true, Bool.true_or, Bool.or_false, Bool.false_or, Bool.not_true, Bool.not_false, decide_true, decide_false, if_true, if_false, Bool.true_eq_false, Bool.false_eq_true] <;> decide)), _, rfl, hI, (cor_eq (by first | (simp only [E_X9_set, inB_t h33, cond_true, cond_false, Bool.and_true, Bool.true_and, Bool.and_false, Bool.false_and, Bool.or_true, Bool.true_or, Bool.or_false, Bool.false_or, Bool.not_true, Bool.not_false, decide_true, decide_false, if_true, if_false, Bool.true_eq_false, Bool.false_eq_true]; done) | (simp [E_X9_set, inB_t h33]; done) | (simp only [E_X9_set, inB_t h33, cond_true, cond_false, Bool.and_true, Bool.true_and, Bool.and_false, Bool.false_and, Bool.or_true, Bool.true_or, Bool.or_false, Bool.false_or, Bool.not_true, Bool.not_false, decide_true, decide_false, if_true, if_false, Bool.true_eq_false, Bool.false_eq_true] <;> decide)) hW42)⟩
    · skip
      refine R_ifne (pc := 46) 52 dX9_set_46 (by decide) (fun h => absurd (by decide) h) (fun _ => ?_)
      refine R_bipush (pc := 49) (v := (-3)) dX9_set_49 (by decide) ?_
      exact R_iret (pc := 51) dX9_set_51 rfl rfl (Nat.zero_le _) (Nat.zero_le _) ⟨_, rfl, (by first | (simp only [A_set, inB_f h33, cond_true, cond_false, Bool.and_true, Bool.true_and, Bool.and_false, Bool.false_and, Bool.or_true, Bool.true_or, Bool.or_false, Bool.false_or, Bool.not_true, Bool.not_false, decide_true, decide_false, if_true, if_false, Bool.true_eq_false, Bool.false_eq_true]; done) | (simp [A_set, inB_f h33]; done) | (simp only [A_set, inB_f h33, cond_true, cond_false, Bool.and_true, Bool.true_and, Bool.and_false, Bool.false_and, Bool.or_true, Bool.true_or, Bool.or_false, Bool.false_or, Bool.not_true, Bool.not_false, decide_true, decide_false, if_true, if_false, Bool.true_eq_false, Bool.false_eq_true] <;> decide)), _, rfl, hI, (cor_eq (by first | (simp only [E_X9_set, inB_f h33, cond_true, cond_false, Bool.and_true, Bool.true_and, Bool.and_false, Bool.false_and, Bool.or_true, Bool.true_or, Bool.or_false, Bool.false_or, Bool.not_true, Bool.not_false, decide_true, decide_false, if_true, if_false, Bool.true_eq_false, Bool.false_eq_true]; done) | (simp [E_X9_set, inB_f h33]; done) | (simp only [E_X9_set, inB_f h33, cond_true, cond_false, Bool.and_true, Bool.true_and, Bool.and_false, Bool.false_and, Bool.or_true, Bool.true_or, Bool.or_false, Bool.false_or, Bool.not_true, Bool.not_false, decide_true, decide_false, if_true, if_false, Bool.true_eq_false, Bool.false_eq_true] <;> decide)) (show Cor σ σ from Cor.rfl' σ))⟩
  · skip
    refine R_iload_n (pc := 0) dX9_set_0 rfl rfl ?_
    refine R_iconst (pc := 1) (v := 0) dX9_set_1 (by decide) ?_
    refine R_iconst (pc := 2) (v := 2) dX9_set_2 (by decide) ?_
    refine k_X9_124 (pc := 3) (sp_X9_in _ _ _ _) rfl (by decide) (Nat.le_refl _) (Nat.le_refl _) (Nat.le_of_ble_eq_true rfl) dX9_set_3 (fun x w2 h => ?_)
    rcases h with ⟨rfl, ⟨h, -⟩ | ⟨-, rfl⟩⟩
    · exact absurd h (inB_no (sw_out (a := a) (M := 2) hsw))
    refine R_ifeq (pc := 6) 49 dX9_set_6 (by decide) (fun _ => ?_) (fun h => absurd (by decide) h)
    refine R_bipush (pc := 49) (v := (-3)) dX9_set_49 (by decide) ?_
    exact R_iret (pc := 51) dX9_set_51 rfl rfl (Nat.zero_le _) (Nat.zero_le _) ⟨_, rfl, (by first | (simp only [A_set, cond_true, cond_false, Bool.and_true, Bool.true_and, Bool.and_false, Bool.false_and, Bool.or_true, Bool.true_or, Bool.or_false, Bool.false_or, Bool.not_true, Bool.not_false, decide_true, decide_false, if_true, if_false, Bool.true_eq_false, Bool.false_eq_true]; done) | (simp only [A_set, (show ¬ a = 0 from ne_out hsw (by decide)), (show ¬ a = 1 from ne_out hsw (by decide)), (show ¬ a = 2 from ne_out hsw (by decide)), cond_true, cond_false, Bool.and_true, Bool.true_and, Bool.and_false, Bool.false_and, Bool.or_true, Bool.true_or, Bool.or_false, Bool.false_or, Bool.not_true, Bool.not_false, decide_true, decide_false, if_true, if_false, Bool.true_eq_false, Bool.false_eq_true]; done) | (simp [A_set, (show ¬ a = 0 from ne_out hsw (by decide)), (show ¬ a = 1 from ne_out hsw (by decide)), (show ¬ a = 2 from ne_out hsw (by decide))]; done) | (simp only [A_set, cond_true, cond_false, Bool.and_true, Bool.true_and, Bool.and_false, Bool.false_and, Bool.or_true, Bool.true_or, Bool.or_false, Bool.false_or, Bool.not_true, Bool.not_false, decide_true, decide_false, if_true, if_false, Bool.true_eq_false, Bool.false_eq_true] <;> decide)), _, rfl, hI, (cor_eq (by first | (simp only [E_X9_set, cond_true, cond_false, Bool.and_true, Bool.true_and, Bool.and_false, Bool.false_and, Bool.or_true, Bool.true_or, Bool.or_false, Bool.false_or, Bool.not_true, Bool.not_false, decide_true, decide_false, if_true, if_false, Bool.true_eq_false, Bool.false_eq_true]; done) | (simp only [E_X9_set, (show ¬ a = 0 from ne_out hsw (by decide)), (show ¬ a = 1 from ne_out hsw (by decide)), (show ¬ a = 2 from ne_out hsw (by decide)), cond_true, cond_false, Bool.and_true, Bool.true_and, Bool.and_false, Bool.false_and, Bool.or_true, Bool.true_or, Bool.or_false, Bool.false_or, Bool.not_true, Bool.not_false, decide_true, decide_false, if_true, if_false, Bool.true_eq_false, Bool.false_eq_true]; done) | (simp [E_X9_set, (show ¬ a = 0 from ne_out hsw (by decide)), (show ¬ a = 1 from ne_out hsw (by decide)), (show ¬ a = 2 from ne_out hsw (by decide))]; done) | (simp only [E_X9_set, cond_true, cond_false, Bool.and_true, Bool.true_and, Bool.and_false, Bool.false_and, Bool.or_true, Bool.true_or, Bool.or_false, Bool.false_or, Bool.not_true, Bool.not_false, decide_true, decide_false, if_true, if_false, Bool.true_eq_false, Bool.false_eq_true] <;> decide)) (show Cor σ σ from Cor.rfl' σ))⟩
def E_X9_feature (σ : Sg) (f a b : Int32) : Sg := (uA (uA σ 156 (upd (σ.2.2.1 156) (Int32.toNatClampNeg f) a)) 157 (upd (σ.2.2.1 157) (Int32.toNatClampNeg f) b))
set_option maxRecDepth 100000 in
set_option maxHeartbeats 40000000 in
theorem ge_X9_feature {G : vG} {l : Launch} (σ : Sg) (f a b : Int32) (hI : Inv σ) : Sp G l yX9_feature cX9_feature 4 (some .int) 2 0 0 [.ref 140, .int f, .int a, .int b] (WW σ) (QI (fun x w2 => x = an_feature f a b ∧ ∃ σ2, w2 = WW σ2 ∧ Inv σ2 ∧ Cor (bif K_feature f a b then (E_X9_feature σ f a b) else σ) σ2)) := by
  refine Sp_of_R [(some (.ref 140)), (some (.int f)), (some (.int a)), (some (.int b))] [] rfl (by simp) rfl (Nat.le_of_ble_eq_true rfl) ?_
  refine R_iload_n (pc := 0) dX9_feature_0 rfl rfl ?_
  refine R_iconst (pc := 1) (v := 0) dX9_feature_1 (by decide) ?_
  refine R_bipush (pc := 2) (v := 7) dX9_feature_2 (by decide) ?_
  refine k_X9_124 (pc := 4) (sp_X9_in _ _ _ _) rfl (by decide) (Nat.le_refl _) (Nat.le_refl _) (Nat.le_of_ble_eq_true rfl) dX9_feature_4 (fun x w2 h => ?_)
  rcases h with ⟨rfl, ⟨h1, rfl⟩ | ⟨h1, rfl⟩⟩
  · skip
    refine R_ifne (pc := 7) 13 dX9_feature_7 (by decide) (fun _ => ?_) (fun h => absurd h (by decide))
    refine R_iload_n (pc := 13) dX9_feature_13 rfl rfl ?_
    refine k_X9_198 (pc := 14) (fx_X9_isDay _ _) rfl (by decide) (Nat.le_refl _) (Nat.le_refl _) (Nat.le_of_ble_eq_true rfl) dX9_feature_14 (fun x w2 h => ?_)
    rcases h with ⟨rfl, ⟨h3, rfl⟩ | ⟨h3, rfl⟩⟩
    · skip
      refine R_ifeq (pc := 17) 31 dX9_feature_17 (by decide) (fun h => absurd h (by decide)) (fun _ => ?_)
      refine R_iload_n (pc := 20) dX9_feature_20 rfl rfl ?_
      refine R_iload_n (pc := 21) dX9_feature_21 rfl rfl ?_
      refine R_sipush (pc := 22) (v := 20000) dX9_feature_22 (by decide) ?_
      refine k_X9_124 (pc := 25) (sp_X9_in _ _ _ _) rfl (by decide) (Nat.le_refl _) (Nat.le_refl _) (Nat.le_of_ble_eq_true rfl) dX9_feature_25 (fun x w2 h => ?_)
      rcases h with ⟨rfl, ⟨h5, rfl⟩ | ⟨h5, rfl⟩⟩
      · skip
        refine R_ifne (pc := 28) 34 dX9_feature_28 (by decide) (fun _ => ?_) (fun h => absurd h (by decide))
        refine R_aload_n (pc := 34) dX9_feature_34 rfl rfl ?_
        refine g_X9_66 (pc := 35) (v := .ref 156) rfl dX9_feature_35 (c_140 _) rfl ?_
        refine R_iload_n (pc := 38) dX9_feature_38 rfl rfl ?_
        refine R_iload_n (pc := 39) dX9_feature_39 rfl rfl ?_
        have hx7 : vp_in f 8 := (vp_of_inR h1 (by decide))
        refine W_iastore (pc := 40) dX9_feature_40 (c_156 _) hx7 (a_156 _ _) ?_
        have hW8 := cor_ca 156 (Int32.toNatClampNeg f) a (show Cor σ σ from Cor.rfl' σ) rfl
        refine R_aload_n (pc := 41) dX9_feature_41 rfl rfl ?_
        refine g_X9_69 (pc := 42) (v := .ref 157) rfl dX9_feature_42 (c_140 _) rfl ?_
        refine R_iload_n (pc := 45) dX9_feature_45 rfl rfl ?_
        refine R_iload_n (pc := 46) dX9_feature_46 rfl rfl ?_
        have hx9 : vp_in f 8 := (vp_of_inR h1 (by decide))
        refine W_iastore (pc := 47) dX9_feature_47 (c_157 _) hx9 (a_157 _ _) ?_
        have hW10 := cor_ca 157 (Int32.toNatClampNeg f) b hW8 rfl
        refine R_iconst (pc := 48) (v := 1) dX9_feature_48 (by decide) ?_
        exact R_iret (pc := 49) dX9_feature_49 rfl rfl (Nat.zero_le _) (Nat.zero_le _) ⟨_, rfl, (by first | (simp only [an_feature, inB_t h1, inB_t h3, inB_t h5, cond_true, cond_false, Bool.and_true, Bool.true_and, Bool.and_false, Bool.false_and, Bool.or_true, Bool.true_or, Bool.or_false, Bool.false_or, Bool.not_true, Bool.not_false, decide_true, decide_false, if_true, if_false, Bool.true_eq_false, Bool.false_eq_true]; done) | (simp [an_feature, inB_t h1, inB_t h3, inB_t h5]; done) | (simp only [an_feature, inB_t h1, inB_t h3, inB_t h5, cond_true, cond_false, Bool.and_true, Bool.true_and, Bool.and_false, Bool.false_and, Bool.or_true, Bool.true_or, Bool.or_false, Bool.false_or, Bool.not_true, Bool.not_false, decide_true, decide_false, if_true, if_false, Bool.true_eq_false, Bool.false_eq_true] <;> decide)), _, rfl, hI, (by have e : (K_feature f a b) = true := (by first | (simp only [K_feature, inB_t h1, inB_t h3, inB_t h5, cond_true, cond_false, Bool.and_true, Bool.true_and, Bool.and_false, Bool.false_and, Bool.or_true, Bool.true_or, Bool.or_false, Bool.false_or, Bool.not_true, Bool.not_false, decide_true, decide_false, if_true, if_false, Bool.true_eq_false, Bool.false_eq_true]; done) | (simp [K_feature, inB_t h1, inB_t h3, inB_t h5]; done) | (simp only [K_feature, inB_t h1, inB_t h3, inB_t h5, cond_true, cond_false, Bool.and_true, Bool.true_and, Bool.and_false, Bool.false_and, Bool.or_true, Bool.true_or, Bool.or_false, Bool.false_or, Bool.not_true, Bool.not_false, decide_true, decide_false, if_true, if_false, Bool.true_eq_false, Bool.false_eq_true] <;> decide)); rw [e]; exact hW10)⟩
      · skip
        refine R_ifne (pc := 28) 34 dX9_feature_28 (by decide) (fun h => absurd (by decide) h) (fun _ => ?_)
        refine R_bipush (pc := 31) (v := (-3)) dX9_feature_31 (by decide) ?_
        exact R_iret (pc := 33) dX9_feature_33 rfl rfl (Nat.zero_le _) (Nat.zero_le _) ⟨_, rfl, (by first | (simp only [an_feature, inB_t h1, inB_t h3, inB_f h5, cond_true, cond_false, Bool.and_true, Bool.true_and, Bool.and_false, Bool.false_and, Bool.or_true, Bool.true_or, Bool.or_false, Bool.false_or, Bool.not_true, Bool.not_false, decide_true, decide_false, if_true, if_false, Bool.true_eq_false, Bool.false_eq_true]; done) | (simp [an_feature, inB_t h1, inB_t h3, inB_f h5]; done) | (simp only [an_feature, inB_t h1, inB_t h3, inB_f h5, cond_true, cond_false, Bool.and_true, Bool.true_and, Bool.and_false, Bool.false_and, Bool.or_true, Bool.true_or, Bool.or_false, Bool.false_or, Bool.not_true, Bool.not_false, decide_true, decide_false, if_true, if_false, Bool.true_eq_false, Bool.false_eq_true] <;> decide)), _, rfl, hI, (by have e : (K_feature f a b) = false := (by first | (simp only [K_feature, inB_t h1, inB_t h3, inB_f h5, cond_true, cond_false, Bool.and_true, Bool.true_and, Bool.and_false, Bool.false_and, Bool.or_true, Bool.true_or, Bool.or_false, Bool.false_or, Bool.not_true, Bool.not_false, decide_true, decide_false, if_true, if_false, Bool.true_eq_false, Bool.false_eq_true]; done) | (simp [K_feature, inB_t h1, inB_t h3, inB_f h5]; done) | (simp only [K_feature, inB_t h1, inB_t h3, inB_f h5, cond_true, cond_false, Bool.and_true, Bool.true_and, Bool.and_false, Bool.false_and, Bool.or_true, Bool.true_or, Bool.or_false, Bool.false_or, Bool.not_true, Bool.not_false, decide_true, decide_false, if_true, if_false, Bool.true_eq_false, Bool.false_eq_true] <;> decide)); rw [e]; exact (show Cor σ σ from Cor.rfl' σ))⟩
    · skip
      refine R_ifeq (pc := 17) 31 dX9_feature_17 (by decide) (fun _ => ?_) (fun h => absurd (by decide) h)
      refine R_bipush (pc := 31) (v := (-3)) dX9_feature_31 (by decide) ?_
      exact R_iret (pc := 33) dX9_feature_33 rfl rfl (Nat.zero_le _) (Nat.zero_le _) ⟨_, rfl, (by first | (simp only [an_feature, inB_t h1, inB_f h3, cond_true, cond_false, Bool.and_true, Bool.true_and, Bool.and_false, Bool.false_and, Bool.or_true, Bool.true_or, Bool.or_false, Bool.false_or, Bool.not_true, Bool.not_false, decide_true, decide_false, if_true, if_false, Bool.true_eq_false, Bool.false_eq_true]; done) | (simp [an_feature, inB_t h1, inB_f h3]; done) | (simp only [an_feature, inB_t h1, inB_f h3, cond_true, cond_false, Bool.and_true, Bool.true_and, Bool.and_false, Bool.false_and, Bool.or_true, Bool.true_or, Bool.or_false, Bool.false_or, Bool.not_true, Bool.not_false, decide_true, decide_false, if_true, if_false, Bool.true_eq_false, Bool.false_eq_true] <;> decide)), _, rfl, hI, (by have e : (K_feature f a b) = false := (by first | (simp only [K_feature, inB_t h1, inB_f h3, cond_true, cond_false, Bool.and_true, Bool.true_and, Bool.and_false, Bool.false_and, Bool.or_true, Bool.true_or, Bool.or_false, Bool.false_or, Bool.not_true, Bool.not_false, decide_true, decide_false, if_true, if_false, Bool.true_eq_false, Bool.false_eq_true]; done) | (simp [K_feature, inB_t h1, inB_f h3]; done) | (simp only [K_feature, inB_t h1, inB_f h3, cond_true, cond_false, Bool.and_true, Bool.true_and, Bool.and_false, Bool.false_and, Bool.or_true, Bool.true_or, Bool.or_false, Bool.false_or, Bool.not_true, Bool.not_false, decide_true, decide_false, if_true, if_false, Bool.true_eq_false, Bool.false_eq_true] <;> decide)); rw [e]; exact (show Cor σ σ from Cor.rfl' σ))⟩
  · skip
    refine R_ifne (pc := 7) 13 dX9_feature_7 (by decide) (fun h => absurd (by decide) h) (fun _ => ?_)
    refine R_bipush (pc := 10) (v := (-2)) dX9_feature_10 (by decide) ?_
    exact R_iret (pc := 12) dX9_feature_12 rfl rfl (Nat.zero_le _) (Nat.zero_le _) ⟨_, rfl, (by first | (simp only [an_feature, inB_f h1, cond_true, cond_false, Bool.and_true, Bool.true_and, Bool.and_false, Bool.false_and, Bool.or_true, Bool.true_or, Bool.or_false, Bool.false_or, Bool.not_true, Bool.not_false, decide_true, decide_false, if_true, if_false, Bool.true_eq_false, Bool.false_eq_true]; done) | (simp [an_feature, inB_f h1]; done) | (simp only [an_feature, inB_f h1, cond_true, cond_false, Bool.and_true, Bool.true_and, Bool.and_false, Bool.false_and, Bool.or_true, Bool.true_or, Bool.or_false, Bool.false_or, Bool.not_true, Bool.not_false, decide_true, decide_false, if_true, if_false, Bool.true_eq_false, Bool.false_eq_true] <;> decide)), _, rfl, hI, (by have e : (K_feature f a b) = false := (by first | (simp only [K_feature, inB_f h1, cond_true, cond_false, Bool.and_true, Bool.true_and, Bool.and_false, Bool.false_and, Bool.or_true, Bool.true_or, Bool.or_false, Bool.false_or, Bool.not_true, Bool.not_false, decide_true, decide_false, if_true, if_false, Bool.true_eq_false, Bool.false_eq_true]; done) | (simp [K_feature, inB_f h1]; done) | (simp only [K_feature, inB_f h1, cond_true, cond_false, Bool.and_true, Bool.true_and, Bool.and_false, Bool.false_and, Bool.or_true, Bool.true_or, Bool.or_false, Bool.false_or, Bool.not_true, Bool.not_false, decide_true, decide_false, if_true, if_false, Bool.true_eq_false, Bool.false_eq_true] <;> decide)); rw [e]; exact (show Cor σ σ from Cor.rfl' σ))⟩
def E_X9_back (σ : Sg) (f a b : Int32) : Sg := (uA (uA σ 159 (upd (σ.2.2.1 159) (Int32.toNatClampNeg f) a)) 160 (upd (σ.2.2.1 160) (Int32.toNatClampNeg f) b))
set_option maxRecDepth 100000 in
set_option maxHeartbeats 40000000 in
theorem ge_X9_back {G : vG} {l : Launch} (σ : Sg) (f a b : Int32) (hI : Inv σ) : Sp G l yX9_back cX9_back 4 (some .int) 2 0 0 [.ref 140, .int f, .int a, .int b] (WW σ) (QI (fun x w2 => x = an_back f a b ∧ ∃ σ2, w2 = WW σ2 ∧ Inv σ2 ∧ Cor (bif K_back f a b then (E_X9_back σ f a b) else σ) σ2)) := by
  refine Sp_of_R [(some (.ref 140)), (some (.int f)), (some (.int a)), (some (.int b))] [] rfl (by simp) rfl (Nat.le_of_ble_eq_true rfl) ?_
  refine R_iload_n (pc := 0) dX9_back_0 rfl rfl ?_
  refine R_iconst (pc := 1) (v := 0) dX9_back_1 (by decide) ?_
  refine R_iconst (pc := 2) (v := 4) dX9_back_2 (by decide) ?_
  refine k_X9_124 (pc := 3) (sp_X9_in _ _ _ _) rfl (by decide) (Nat.le_refl _) (Nat.le_refl _) (Nat.le_of_ble_eq_true rfl) dX9_back_3 (fun x w2 h => ?_)
  rcases h with ⟨rfl, ⟨h1, rfl⟩ | ⟨h1, rfl⟩⟩
  · skip
    refine R_ifne (pc := 6) 12 dX9_back_6 (by decide) (fun _ => ?_) (fun h => absurd h (by decide))
    refine R_iload_n (pc := 12) dX9_back_12 rfl rfl ?_
    refine k_X9_198 (pc := 13) (fx_X9_isDay _ _) rfl (by decide) (Nat.le_refl _) (Nat.le_refl _) (Nat.le_of_ble_eq_true rfl) dX9_back_13 (fun x w2 h => ?_)
    rcases h with ⟨rfl, ⟨h3, rfl⟩ | ⟨h3, rfl⟩⟩
    · skip
      refine R_ifeq (pc := 16) 30 dX9_back_16 (by decide) (fun h => absurd h (by decide)) (fun _ => ?_)
      refine R_iload_n (pc := 19) dX9_back_19 rfl rfl ?_
      refine R_iload_n (pc := 20) dX9_back_20 rfl rfl ?_
      refine R_sipush (pc := 21) (v := 20000) dX9_back_21 (by decide) ?_
      refine k_X9_124 (pc := 24) (sp_X9_in _ _ _ _) rfl (by decide) (Nat.le_refl _) (Nat.le_refl _) (Nat.le_of_ble_eq_true rfl) dX9_back_24 (fun x w2 h => ?_)
      rcases h with ⟨rfl, ⟨h5, rfl⟩ | ⟨h5, rfl⟩⟩
      · skip
        refine R_ifne (pc := 27) 33 dX9_back_27 (by decide) (fun _ => ?_) (fun h => absurd h (by decide))
        refine R_aload_n (pc := 33) dX9_back_33 rfl rfl ?_
        refine g_X9_75 (pc := 34) (v := .ref 159) rfl dX9_back_34 (c_140 _) rfl ?_
        refine R_iload_n (pc := 37) dX9_back_37 rfl rfl ?_
        refine R_iload_n (pc := 38) dX9_back_38 rfl rfl ?_
        have hx7 : vp_in f 5 := (vp_of_inR h1 (by decide))
        refine W_iastore (pc := 39) dX9_back_39 (c_159 _) hx7 (a_159 _ _) ?_
        have hW8 := cor_ca 159 (Int32.toNatClampNeg f) a (show Cor σ σ from Cor.rfl' σ) rfl
        refine R_aload_n (pc := 40) dX9_back_40 rfl rfl ?_
        refine g_X9_78 (pc := 41) (v := .ref 160) rfl dX9_back_41 (c_140 _) rfl ?_
        refine R_iload_n (pc := 44) dX9_back_44 rfl rfl ?_
        refine R_iload_n (pc := 45) dX9_back_45 rfl rfl ?_
        have hx9 : vp_in f 5 := (vp_of_inR h1 (by decide))
        refine W_iastore (pc := 46) dX9_back_46 (c_160 _) hx9 (a_160 _ _) ?_
        have hW10 := cor_ca 160 (Int32.toNatClampNeg f) b hW8 rfl
        refine R_iconst (pc := 47) (v := 1) dX9_back_47 (by decide) ?_
        exact R_iret (pc := 48) dX9_back_48 rfl rfl (Nat.zero_le _) (Nat.zero_le _) ⟨_, rfl, (by first | (simp only [an_back, inB_t h1, inB_t h3, inB_t h5, cond_true, cond_false, Bool.and_true, Bool.true_and, Bool.and_false, Bool.false_and, Bool.or_true, Bool.true_or, Bool.or_false, Bool.false_or, Bool.not_true, Bool.not_false, decide_true, decide_false, if_true, if_false, Bool.true_eq_false, Bool.false_eq_true]; done) | (simp [an_back, inB_t h1, inB_t h3, inB_t h5]; done) | (simp only [an_back, inB_t h1, inB_t h3, inB_t h5, cond_true, cond_false, Bool.and_true, Bool.true_and, Bool.and_false, Bool.false_and, Bool.or_true, Bool.true_or, Bool.or_false, Bool.false_or, Bool.not_true, Bool.not_false, decide_true, decide_false, if_true, if_false, Bool.true_eq_false, Bool.false_eq_true] <;> decide)), _, rfl, hI, (by have e : (K_back f a b) = true := (by first | (simp only [K_back, inB_t h1, inB_t h3, inB_t h5, cond_true, cond_false, Bool.and_true, Bool.true_and, Bool.and_false, Bool.false_and, Bool.or_true, Bool.true_or, Bool.or_false, Bool.false_or, Bool.not_true, Bool.not_false, decide_true, decide_false, if_true, if_false, Bool.true_eq_false, Bool.false_eq_true]; done) | (simp [K_back, inB_t h1, inB_t h3, inB_t h5]; done) | (simp only [K_back, inB_t h1, inB_t h3, inB_t h5, cond_true, cond_false, Bool.and_true, Bool.true_and, Bool.and_false, Bool.false_and, Bool.or_true, Bool.true_or, Bool.or_false, Bool.false_or, Bool.not_true, Bool.not_false, decide_true, decide_false, if_true, if_false, Bool.true_eq_false, Bool.false_eq_true] <;> decide)); rw [e]; exact hW10)⟩
      · skip
        refine R_ifne (pc := 27) 33 dX9_back_27 (by decide) (fun h => absurd (by decide) h) (fun _ => ?_)
        refine R_bipush (pc := 30) (v := (-3)) dX9_back_30 (by decide) ?_
        exact R_iret (pc := 32) dX9_back_32 rfl rfl (Nat.zero_le _) (Nat.zero_le _) ⟨_, rfl, (by first | (simp only [an_back, inB_t h1, inB_t h3, inB_f h5, cond_true, cond_false, Bool.and_true, Bool.true_and, Bool.and_false, Bool.false_and, Bool.or_true, Bool.true_or, Bool.or_false, Bool.false_or, Bool.not_true, Bool.not_false, decide_true, decide_false, if_true, if_false, Bool.true_eq_false, Bool.false_eq_true]; done) | (simp [an_back, inB_t h1, inB_t h3, inB_f h5]; done) | (simp only [an_back, inB_t h1, inB_t h3, inB_f h5, cond_true, cond_false, Bool.and_true, Bool.true_and, Bool.and_false, Bool.false_and, Bool.or_true, Bool.true_or, Bool.or_false, Bool.false_or, Bool.not_true, Bool.not_false, decide_true, decide_false, if_true, if_false, Bool.true_eq_false, Bool.false_eq_true] <;> decide)), _, rfl, hI, (by have e : (K_back f a b) = false := (by first | (simp only [K_back, inB_t h1, inB_t h3, inB_f h5, cond_true, cond_false, Bool.and_true, Bool.true_and, Bool.and_false, Bool.false_and, Bool.or_true, Bool.true_or, Bool.or_false, Bool.false_or, Bool.not_true, Bool.not_false, decide_true, decide_false, if_true, if_false, Bool.true_eq_false, Bool.false_eq_true]; done) | (simp [K_back, inB_t h1, inB_t h3, inB_f h5]; done) | (simp only [K_back, inB_t h1, inB_t h3, inB_f h5, cond_true, cond_false, Bool.and_true, Bool.true_and, Bool.and_false, Bool.false_and, Bool.or_true, Bool.true_or, Bool.or_false, Bool.false_or, Bool.not_true, Bool.not_false, decide_true, decide_false, if_true, if_false, Bool.true_eq_false, Bool.false_eq_true] <;> decide)); rw [e]; exact (show Cor σ σ from Cor.rfl' σ))⟩
    · skip
      refine R_ifeq (pc := 16) 30 dX9_back_16 (by decide) (fun _ => ?_) (fun h => absurd (by decide) h)
      refine R_bipush (pc := 30) (v := (-3)) dX9_back_30 (by decide) ?_
      exact R_iret (pc := 32) dX9_back_32 rfl rfl (Nat.zero_le _) (Nat.zero_le _) ⟨_, rfl, (by first | (simp only [an_back, inB_t h1, inB_f h3, cond_true, cond_false, Bool.and_true, Bool.true_and, Bool.and_false, Bool.false_and, Bool.or_true, Bool.true_or, Bool.or_false, Bool.false_or, Bool.not_true, Bool.not_false, decide_true, decide_false, if_true, if_false, Bool.true_eq_false, Bool.false_eq_true]; done) | (simp [an_back, inB_t h1, inB_f h3]; done) | (simp only [an_back, inB_t h1, inB_f h3, cond_true, cond_false, Bool.and_true, Bool.true_and, Bool.and_false, Bool.false_and, Bool.or_true, Bool.true_or, Bool.or_false, Bool.false_or, Bool.not_true, Bool.not_false, decide_true, decide_false, if_true, if_false, Bool.true_eq_false, Bool.false_eq_true] <;> decide)), _, rfl, hI, (by have e : (K_back f a b) = false := (by first | (simp only [K_back, inB_t h1, inB_f h3, cond_true, cond_false, Bool.and_true, Bool.true_and, Bool.and_false, Bool.false_and, Bool.or_true, Bool.true_or, Bool.or_false, Bool.false_or, Bool.not_true, Bool.not_false, decide_true, decide_false, if_true, if_false, Bool.true_eq_false, Bool.false_eq_true]; done) | (simp [K_back, inB_t h1, inB_f h3]; done) | (simp only [K_back, inB_t h1, inB_f h3, cond_true, cond_false, Bool.and_true, Bool.true_and, Bool.and_false, Bool.false_and, Bool.or_true, Bool.true_or, Bool.or_false, Bool.false_or, Bool.not_true, Bool.not_false, decide_true, decide_false, if_true, if_false, Bool.true_eq_false, Bool.false_eq_true] <;> decide)); rw [e]; exact (show Cor σ σ from Cor.rfl' σ))⟩
  · skip
    refine R_ifne (pc := 6) 12 dX9_back_6 (by decide) (fun h => absurd (by decide) h) (fun _ => ?_)
    refine R_bipush (pc := 9) (v := (-2)) dX9_back_9 (by decide) ?_
    exact R_iret (pc := 11) dX9_back_11 rfl rfl (Nat.zero_le _) (Nat.zero_le _) ⟨_, rfl, (by first | (simp only [an_back, inB_f h1, cond_true, cond_false, Bool.and_true, Bool.true_and, Bool.and_false, Bool.false_and, Bool.or_true, Bool.true_or, Bool.or_false, Bool.false_or, Bool.not_true, Bool.not_false, decide_true, decide_false, if_true, if_false, Bool.true_eq_false, Bool.false_eq_true]; done) | (simp [an_back, inB_f h1]; done) | (simp only [an_back, inB_f h1, cond_true, cond_false, Bool.and_true, Bool.true_and, Bool.and_false, Bool.false_and, Bool.or_true, Bool.true_or, Bool.or_false, Bool.false_or, Bool.not_true, Bool.not_false, decide_true, decide_false, if_true, if_false, Bool.true_eq_false, Bool.false_eq_true] <;> decide)), _, rfl, hI, (by have e : (K_back f a b) = false := (by first | (simp only [K_back, inB_f h1, cond_true, cond_false, Bool.and_true, Bool.true_and, Bool.and_false, Bool.false_and, Bool.or_true, Bool.true_or, Bool.or_false, Bool.false_or, Bool.not_true, Bool.not_false, decide_true, decide_false, if_true, if_false, Bool.true_eq_false, Bool.false_eq_true]; done) | (simp [K_back, inB_f h1]; done) | (simp only [K_back, inB_f h1, cond_true, cond_false, Bool.and_true, Bool.true_and, Bool.and_false, Bool.false_and, Bool.or_true, Bool.true_or, Bool.or_false, Bool.false_or, Bool.not_true, Bool.not_false, decide_true, decide_false, if_true, if_false, Bool.true_eq_false, Bool.false_eq_true] <;> decide)); rw [e]; exact (show Cor σ σ from Cor.rfl' σ))⟩
def E_X9_landmark (σ : Sg) (a b : Int32) : Sg := (uA σ 167 (upd (σ.2.2.1 167) (Int32.toNatClampNeg a) b))
set_option maxRecDepth 100000 in
set_option maxHeartbeats 40000000 in
theorem ge_X9_landmark {G : vG} {l : Launch} (σ : Sg) (a b : Int32) (hI : Inv σ) : Sp G l yX9_landmark cX9_landmark 3 (some .int) 1 0 0 [.ref 140, .int a, .int b] (WW σ) (QI (fun x w2 => x = an_landmark a b ∧ ∃ σ2, w2 = WW σ2 ∧ Inv σ2 ∧ Cor (bif K_landmark a b then (E_X9_landmark σ a b) else σ) σ2)) := by
  refine Sp_of_R [(some (.ref 140)), (some (.int a)), (some (.int b))] [] rfl (by simp) rfl (Nat.le_of_ble_eq_true rfl) ?_
  refine R_iload_n (pc := 0) dX9_landmark_0 rfl rfl ?_
  refine R_iconst (pc := 1) (v := 0) dX9_landmark_1 (by decide) ?_
  refine R_bipush (pc := 2) (v := 7) dX9_landmark_2 (by decide) ?_
  refine k_X9_124 (pc := 4) (sp_X9_in _ _ _ _) rfl (by decide) (Nat.le_refl _) (Nat.le_refl _) (Nat.le_of_ble_eq_true rfl) dX9_landmark_4 (fun x w2 h => ?_)
  rcases h with ⟨rfl, ⟨h1, rfl⟩ | ⟨h1, rfl⟩⟩
  · skip
    refine R_ifne (pc := 7) 13 dX9_landmark_7 (by decide) (fun _ => ?_) (fun h => absurd h (by decide))
    refine R_iload_n (pc := 13) dX9_landmark_13 rfl rfl ?_
    refine R_iconst (pc := 14) (v := 0) dX9_landmark_14 (by decide) ?_
    refine R_bipush (pc := 15) (v := 64) dX9_landmark_15 (by decide) ?_
    refine k_X9_124 (pc := 17) (sp_X9_in _ _ _ _) rfl (by decide) (Nat.le_refl _) (Nat.le_refl _) (Nat.le_of_ble_eq_true rfl) dX9_landmark_17 (fun x w2 h => ?_)
    rcases h with ⟨rfl, ⟨h3, rfl⟩ | ⟨h3, rfl⟩⟩
    · skip
      refine R_ifne (pc := 20) 26 dX9_landmark_20 (by decide) (fun _ => ?_) (fun h => absurd h (by decide))
      refine R_aload_n (pc := 26) dX9_landmark_26 rfl rfl ?_
      refine g_X9_99 (pc := 27) (v := .ref 167) rfl dX9_landmark_27 (c_140 _) rfl ?_
      refine R_iload_n (pc := 30) dX9_landmark_30 rfl rfl ?_
      refine R_iload_n (pc := 31) dX9_landmark_31 rfl rfl ?_
      have hx5 : vp_in a 8 := (vp_of_inR h1 (by decide))
      refine W_iastore (pc := 32) dX9_landmark_32 (c_167 _) hx5 (a_167 _ _) ?_
      have hW6 := cor_ca 167 (Int32.toNatClampNeg a) b (show Cor σ σ from Cor.rfl' σ) rfl
      refine R_iconst (pc := 33) (v := 1) dX9_landmark_33 (by decide) ?_
      exact R_iret (pc := 34) dX9_landmark_34 rfl rfl (Nat.zero_le _) (Nat.zero_le _) ⟨_, rfl, (by first | (simp only [an_landmark, inB_t h1, inB_t h3, cond_true, cond_false, Bool.and_true, Bool.true_and, Bool.and_false, Bool.false_and, Bool.or_true, Bool.true_or, Bool.or_false, Bool.false_or, Bool.not_true, Bool.not_false, decide_true, decide_false, if_true, if_false, Bool.true_eq_false, Bool.false_eq_true]; done) | (simp [an_landmark, inB_t h1, inB_t h3]; done) | (simp only [an_landmark, inB_t h1, inB_t h3, cond_true, cond_false, Bool.and_true, Bool.true_and, Bool.and_false, Bool.false_and, Bool.or_true, Bool.true_or, Bool.or_false, Bool.false_or, Bool.not_true, Bool.not_false, decide_true, decide_false, if_true, if_false, Bool.true_eq_false, Bool.false_eq_true] <;> decide)), _, rfl, hI, (by have e : (K_landmark a b) = true := (by first | (simp only [K_landmark, inB_t h1, inB_t h3, cond_true, cond_false, Bool.and_true, Bool.true_and, Bool.and_false, Bool.false_and, Bool.or_true, Bool.true_or, Bool.or_false, Bool.false_or, Bool.not_true, Bool.not_false, decide_true, decide_false, if_true, if_false, Bool.true_eq_false, Bool.false_eq_true]; done) | (simp [K_landmark, inB_t h1, inB_t h3]; done) | (simp only [K_landmark, inB_t h1, inB_t h3, cond_true, cond_false, Bool.and_true, Bool.true_and, Bool.and_false, Bool.false_and, Bool.or_true, Bool.true_or, Bool.or_false, Bool.false_or, Bool.not_true, Bool.not_false, decide_true, decide_false, if_true, if_false, Bool.true_eq_false, Bool.false_eq_true] <;> decide)); rw [e]; exact hW6)⟩
    · skip
      refine R_ifne (pc := 20) 26 dX9_landmark_20 (by decide) (fun h => absurd (by decide) h) (fun _ => ?_)
      refine R_bipush (pc := 23) (v := (-3)) dX9_landmark_23 (by decide) ?_
      exact R_iret (pc := 25) dX9_landmark_25 rfl rfl (Nat.zero_le _) (Nat.zero_le _) ⟨_, rfl, (by first | (simp only [an_landmark, inB_t h1, inB_f h3, cond_true, cond_false, Bool.and_true, Bool.true_and, Bool.and_false, Bool.false_and, Bool.or_true, Bool.true_or, Bool.or_false, Bool.false_or, Bool.not_true, Bool.not_false, decide_true, decide_false, if_true, if_false, Bool.true_eq_false, Bool.false_eq_true]; done) | (simp [an_landmark, inB_t h1, inB_f h3]; done) | (simp only [an_landmark, inB_t h1, inB_f h3, cond_true, cond_false, Bool.and_true, Bool.true_and, Bool.and_false, Bool.false_and, Bool.or_true, Bool.true_or, Bool.or_false, Bool.false_or, Bool.not_true, Bool.not_false, decide_true, decide_false, if_true, if_false, Bool.true_eq_false, Bool.false_eq_true] <;> decide)), _, rfl, hI, (by have e : (K_landmark a b) = false := (by first | (simp only [K_landmark, inB_t h1, inB_f h3, cond_true, cond_false, Bool.and_true, Bool.true_and, Bool.and_false, Bool.false_and, Bool.or_true, Bool.true_or, Bool.or_false, Bool.false_or, Bool.not_true, Bool.not_false, decide_true, decide_false, if_true, if_false, Bool.true_eq_false, Bool.false_eq_true]; done) | (simp [K_landmark, inB_t h1, inB_f h3]; done) | (simp only [K_landmark, inB_t h1, inB_f h3, cond_true, cond_false, Bool.and_true, Bool.true_and, Bool.and_false, Bool.false_and, Bool.or_true, Bool.true_or, Bool.or_false, Bool.false_or, Bool.not_true, Bool.not_false, decide_true, decide_false, if_true, if_false, Bool.true_eq_false, Bool.false_eq_true] <;> decide)); rw [e]; exact (show Cor σ σ from Cor.rfl' σ))⟩
  · skip
    refine R_ifne (pc := 7) 13 dX9_landmark_7 (by decide) (fun h => absurd (by decide) h) (fun _ => ?_)
    refine R_bipush (pc := 10) (v := (-2)) dX9_landmark_10 (by decide) ?_
    exact R_iret (pc := 12) dX9_landmark_12 rfl rfl (Nat.zero_le _) (Nat.zero_le _) ⟨_, rfl, (by first | (simp only [an_landmark, inB_f h1, cond_true, cond_false, Bool.and_true, Bool.true_and, Bool.and_false, Bool.false_and, Bool.or_true, Bool.true_or, Bool.or_false, Bool.false_or, Bool.not_true, Bool.not_false, decide_true, decide_false, if_true, if_false, Bool.true_eq_false, Bool.false_eq_true]; done) | (simp [an_landmark, inB_f h1]; done) | (simp only [an_landmark, inB_f h1, cond_true, cond_false, Bool.and_true, Bool.true_and, Bool.and_false, Bool.false_and, Bool.or_true, Bool.true_or, Bool.or_false, Bool.false_or, Bool.not_true, Bool.not_false, decide_true, decide_false, if_true, if_false, Bool.true_eq_false, Bool.false_eq_true] <;> decide)), _, rfl, hI, (by have e : (K_landmark a b) = false := (by first | (simp only [K_landmark, inB_f h1, cond_true, cond_false, Bool.and_true, Bool.true_and, Bool.and_false, Bool.false_and, Bool.or_true, Bool.true_or, Bool.or_false, Bool.false_or, Bool.not_true, Bool.not_false, decide_true, decide_false, if_true, if_false, Bool.true_eq_false, Bool.false_eq_true]; done) | (simp [K_landmark, inB_f h1]; done) | (simp only [K_landmark, inB_f h1, cond_true, cond_false, Bool.and_true, Bool.true_and, Bool.and_false, Bool.false_and, Bool.or_true, Bool.true_or, Bool.or_false, Bool.false_or, Bool.not_true, Bool.not_false, decide_true, decide_false, if_true, if_false, Bool.true_eq_false, Bool.false_eq_true] <;> decide)); rw [e]; exact (show Cor σ σ from Cor.rfl' σ))⟩
def E_X9_walls (σ : Sg) (a : Int64) : Sg := (uJ σ 14034 a)
set_option maxRecDepth 100000 in
set_option maxHeartbeats 40000000 in
theorem ge_X9_walls {G : vG} {l : Launch} (σ : Sg) (a : Int64) (hI : Inv σ) : Sp G l yX9_walls cX9_walls 3 (some .int) 0 0 0 [.ref 140, .long a] (WW σ) (QI (fun x w2 => x = 1 ∧ ∃ σ2, w2 = WW σ2 ∧ Inv σ2 ∧ Cor (E_X9_walls σ a) σ2)) := by
  refine Sp_of_R [(some (.ref 140)), (some (.long a)), none] [] rfl (by simp) rfl (Nat.le_of_ble_eq_true rfl) ?_
  refine R_aload_n (pc := 0) dX9_walls_0 rfl rfl ?_
  refine R_lload_n (pc := 1) dX9_walls_1 rfl rfl ?_
  refine p_X9_232 (pc := 2) rfl dX9_walls_2 (c_140 _) (Nat.le_of_ble_eq_true rfl) rfl rfl (s_140_34 _ _) ?_
  have hW1 := cor_cj 14034 a (show Cor σ σ from Cor.rfl' σ)
  refine R_iconst (pc := 5) (v := 1) dX9_walls_5 (by decide) ?_
  exact R_iret (pc := 6) dX9_walls_6 rfl rfl (Nat.zero_le _) (Nat.zero_le _) ⟨_, rfl, rfl, _, rfl, hI, hW1⟩
def E_X9_shows (σ : Sg) (c f v : Int32) : Sg := (uA σ 158 (upd (σ.2.2.1 158) (Int32.toNatClampNeg ((8 * c) + f)) v))
set_option maxRecDepth 100000 in
set_option maxHeartbeats 40000000 in
theorem ge_X9_shows {G : vG} {l : Launch} (σ : Sg) (c f v : Int32) (hI : Inv σ) : Sp G l yX9_shows cX9_shows 5 (some .int) 2 0 0 [.ref 140, .int c, .int f, .int v] (WW σ) (QI (fun x w2 => x = A_shows (thM σ c) f v (σ.2.2.1 158 (Int32.toNatClampNeg ((8 * c) + f))) ∧ ∃ σ2, w2 = WW σ2 ∧ Inv σ2 ∧ Cor (bif K_shows (thM σ c) f v then (E_X9_shows σ c f v) else σ) σ2)) := by
  refine Sp_of_R [(some (.ref 140)), (some (.int c)), (some (.int f)), (some (.int v)), none] [none] rfl (by simp) rfl (Nat.le_of_ble_eq_true rfl) ?_
  refine R_aload_n (pc := 0) dX9_shows_0 rfl rfl ?_
  refine R_iload_n (pc := 1) dX9_shows_1 rfl rfl ?_
  refine k_X9_135 (pc := 2) (gf_X9_isThere _ _ hI) rfl (c_140 _) (by decide) (Nat.le_refl _) (Nat.le_refl _) (Nat.le_of_ble_eq_true rfl) dX9_shows_2 (fun x w2 h => ?_)
  rcases h with ⟨rfl, ⟨h1, rfl⟩ | ⟨h1, rfl⟩⟩
  · skip
    refine R_ifeq (pc := 5) 18 dX9_shows_5 (by decide) (fun h => absurd h (by decide)) (fun _ => ?_)
    refine R_iload_n (pc := 8) dX9_shows_8 rfl rfl ?_
    refine R_iconst (pc := 9) (v := 0) dX9_shows_9 (by decide) ?_
    refine R_bipush (pc := 10) (v := 7) dX9_shows_10 (by decide) ?_
    refine k_X9_124 (pc := 12) (sp_X9_in _ _ _ _) rfl (by decide) (Nat.le_refl _) (Nat.le_refl _) (Nat.le_of_ble_eq_true rfl) dX9_shows_12 (fun x w2 h => ?_)
    rcases h with ⟨rfl, ⟨h3, rfl⟩ | ⟨h3, rfl⟩⟩
    · skip
      refine R_ifne (pc := 15) 21 dX9_shows_15 (by decide) (fun _ => ?_) (fun h => absurd h (by decide))
      refine R_iload_n (pc := 21) dX9_shows_21 rfl rfl ?_
      refine R_iconst (pc := 22) (v := 0) dX9_shows_22 (by decide) ?_
      refine R_iconst (pc := 23) (v := 2) dX9_shows_23 (by decide) ?_
      refine k_X9_124 (pc := 24) (sp_X9_in _ _ _ _) rfl (by decide) (Nat.le_refl _) (Nat.le_refl _) (Nat.le_of_ble_eq_true rfl) dX9_shows_24 (fun x w2 h => ?_)
      rcases h with ⟨rfl, ⟨h5, rfl⟩ | ⟨h5, rfl⟩⟩
      · skip
        refine R_ifne (pc := 27) 33 dX9_shows_27 (by decide) (fun _ => ?_) (fun h => absurd h (by decide))
        refine R_aload_n (pc := 33) dX9_shows_33 rfl rfl ?_
        refine g_X9_72 (pc := 34) (v := .ref 158) rfl dX9_shows_34 (c_140 _) rfl ?_
        refine R_bipush (pc := 37) (v := 8) dX9_shows_37 (by decide) ?_
        refine R_iload_n (pc := 39) dX9_shows_39 rfl rfl ?_
        refine R_imul (pc := 40) dX9_shows_40 ?_
        have r7 : inR (8 * c) 0 152 := inR_mulc (c := 8) (l := 0) (h := 152) 8 (by decide) (show inR c 0 19 from (thM_r h1)) (by decide) (by decide)
        have e8 := ti_mulc (c := 8) (l := 0) (h := 152) 8 (by decide) (show inR c 0 19 from (thM_r h1)) (by decide) (by decide)
        refine R_iload_n (pc := 41) dX9_shows_41 rfl rfl ?_
        refine R_iadd (pc := 42) dX9_shows_42 ?_
        have r9 : inR ((8 * c) + f) 0 159 := inR_add (show inR (8 * c) 0 152 from r7) (show inR f 0 7 from h3) (by decide) (by decide)
        have e10 := ti_add (l := 0) (h := 159) (show inR (8 * c) 0 152 from r7) (show inR f 0 7 from h3) (by decide) (by decide)
        have hx11 : vp_in ((8 * c) + f) 160 := (vp_of_inR r9 (by decide))
        refine R_iaload (pc := 43) dX9_shows_43 (c_158 _) hx11 ?_
        refine st_5_4_i_i (pc := 44) dX9_shows_44 ?_
        refine R_aload_n (pc := 46) dX9_shows_46 rfl rfl ?_
        refine g_X9_72 (pc := 47) (v := .ref 158) rfl dX9_shows_47 (c_140 _) rfl ?_
        refine R_bipush (pc := 50) (v := 8) dX9_shows_50 (by decide) ?_
        refine R_iload_n (pc := 52) dX9_shows_52 rfl rfl ?_
        refine R_imul (pc := 53) dX9_shows_53 ?_
        have r12 : inR (8 * c) 0 152 := inR_mulc (c := 8) (l := 0) (h := 152) 8 (by decide) (show inR c 0 19 from (thM_r h1)) (by decide) (by decide)
        have e13 := ti_mulc (c := 8) (l := 0) (h := 152) 8 (by decide) (show inR c 0 19 from (thM_r h1)) (by decide) (by decide)
        refine R_iload_n (pc := 54) dX9_shows_54 rfl rfl ?_
        refine R_iadd (pc := 55) dX9_shows_55 ?_
        have r14 : inR ((8 * c) + f) 0 159 := inR_add (show inR (8 * c) 0 152 from r12) (show inR f 0 7 from h3) (by decide) (by decide)
        have e15 := ti_add (l := 0) (h := 159) (show inR (8 * c) 0 152 from r12) (show inR f 0 7 from h3) (by decide) (by decide)
        refine R_iload_n (pc := 56) dX9_shows_56 rfl rfl ?_
        have hx16 : vp_in ((8 * c) + f) 160 := (vp_of_inR r14 (by decide))
        refine W_iastore (pc := 57) dX9_shows_57 (c_158 _) hx16 (a_158 _ _) ?_
        have hW17 := cor_ca 158 (Int32.toNatClampNeg ((8 * c) + f)) v (show Cor σ σ from Cor.rfl' σ) rfl
        refine R_iload (pc := 58) dX9_shows_58 rfl ?_
        exact R_iret (pc := 60) dX9_shows_60 rfl rfl (Nat.zero_le _) (Nat.zero_le _) ⟨_, rfl, (by first | (simp only [A_shows, h1, inB_t h3, inB_t h5, cond_true, cond_false, Bool.and_true, Bool.true_and, Bool.and_false, Bool.false_and, Bool.or_true, Bool.true_or, Bool.or_false, Bool.false_or, Bool.not_true, Bool.not_false, decide_true, decide_false, if_true, if_false, Bool.true_eq_false, Bool.false_eq_true]; done) | (simp [A_shows, h1, inB_t h3, inB_t h5]; done) | (simp only [A_shows, h1, inB_t h3, inB_t h5, cond_true, cond_false, Bool.and_true, Bool.true_and, Bool.and_false, Bool.false_and, Bool.or_true, Bool.true_or, Bool.or_false, Bool.false_or, Bool.not_true, Bool.not_false, decide_true, decide_false, if_true, if_false, Bool.true_eq_false, Bool.false_eq_true] <;> decide)), _, rfl, hI, (by have e : (K_shows (thM σ c) f v) = true := (by first | (simp only [K_shows, h1, inB_t h3, inB_t h5, cond_true, cond_false, Bool.and_true, Bool.true_and, Bool.and_false, Bool.false_and, Bool.or_true, Bool.true_or, Bool.or_false, Bool.false_or, Bool.not_true, Bool.not_false, decide_true, decide_false, if_true, if_false, Bool.true_eq_false, Bool.false_eq_true]; done) | (simp [K_shows, h1, inB_t h3, inB_t h5]; done) | (simp only [K_shows, h1, inB_t h3, inB_t h5, cond_true, cond_false, Bool.and_true, Bool.true_and, Bool.and_false, Bool.false_and, Bool.or_true, Bool.true_or, Bool.or_false, Bool.false_or, Bool.not_true, Bool.not_false, decide_true, decide_false, if_true, if_false, Bool.true_eq_false, Bool.false_eq_true] <;> decide)); rw [e]; exact hW17)⟩
      · skip
        refine R_ifne (pc := 27) 33 dX9_shows_27 (by decide) (fun h => absurd (by decide) h) (fun _ => ?_)
        refine R_bipush (pc := 30) (v := (-3)) dX9_shows_30 (by decide) ?_
        exact R_iret (pc := 32) dX9_shows_32 rfl rfl (Nat.zero_le _) (Nat.zero_le _) ⟨_, rfl, (by first | (simp only [A_shows, h1, inB_t h3, inB_f h5, cond_true, cond_false, Bool.and_true, Bool.true_and, Bool.and_false, Bool.false_and, Bool.or_true, Bool.true_or, Bool.or_false, Bool.false_or, Bool.not_true, Bool.not_false, decide_true, decide_false, if_true, if_false, Bool.true_eq_false, Bool.false_eq_true]; done) | (simp [A_shows, h1, inB_t h3, inB_f h5]; done) | (simp only [A_shows, h1, inB_t h3, inB_f h5, cond_true, cond_false, Bool.and_true, Bool.true_and, Bool.and_false, Bool.false_and, Bool.or_true, Bool.true_or, Bool.or_false, Bool.false_or, Bool.not_true, Bool.not_false, decide_true, decide_false, if_true, if_false, Bool.true_eq_false, Bool.false_eq_true] <;> decide)), _, rfl, hI, (by have e : (K_shows (thM σ c) f v) = false := (by first | (simp only [K_shows, h1, inB_t h3, inB_f h5, cond_true, cond_false, Bool.and_true, Bool.true_and, Bool.and_false, Bool.false_and, Bool.or_true, Bool.true_or, Bool.or_false, Bool.false_or, Bool.not_true, Bool.not_false, decide_true, decide_false, if_true, if_false, Bool.true_eq_false, Bool.false_eq_true]; done) | (simp [K_shows, h1, inB_t h3, inB_f h5]; done) | (simp only [K_shows, h1, inB_t h3, inB_f h5, cond_true, cond_false, Bool.and_true, Bool.true_and, Bool.and_false, Bool.false_and, Bool.or_true, Bool.true_or, Bool.or_false, Bool.false_or, Bool.not_true, Bool.not_false, decide_true, decide_false, if_true, if_false, Bool.true_eq_false, Bool.false_eq_true] <;> decide)); rw [e]; exact (show Cor σ σ from Cor.rfl' σ))⟩
    · skip
      refine R_ifne (pc := 15) 21 dX9_shows_15 (by decide) (fun h => absurd (by decide) h) (fun _ => ?_)
      refine R_bipush (pc := 18) (v := (-2)) dX9_shows_18 (by decide) ?_
      exact R_iret (pc := 20) dX9_shows_20 rfl rfl (Nat.zero_le _) (Nat.zero_le _) ⟨_, rfl, (by first | (simp only [A_shows, h1, inB_f h3, cond_true, cond_false, Bool.and_true, Bool.true_and, Bool.and_false, Bool.false_and, Bool.or_true, Bool.true_or, Bool.or_false, Bool.false_or, Bool.not_true, Bool.not_false, decide_true, decide_false, if_true, if_false, Bool.true_eq_false, Bool.false_eq_true]; done) | (simp [A_shows, h1, inB_f h3]; done) | (simp only [A_shows, h1, inB_f h3, cond_true, cond_false, Bool.and_true, Bool.true_and, Bool.and_false, Bool.false_and, Bool.or_true, Bool.true_or, Bool.or_false, Bool.false_or, Bool.not_true, Bool.not_false, decide_true, decide_false, if_true, if_false, Bool.true_eq_false, Bool.false_eq_true] <;> decide)), _, rfl, hI, (by have e : (K_shows (thM σ c) f v) = false := (by first | (simp only [K_shows, h1, inB_f h3, cond_true, cond_false, Bool.and_true, Bool.true_and, Bool.and_false, Bool.false_and, Bool.or_true, Bool.true_or, Bool.or_false, Bool.false_or, Bool.not_true, Bool.not_false, decide_true, decide_false, if_true, if_false, Bool.true_eq_false, Bool.false_eq_true]; done) | (simp [K_shows, h1, inB_f h3]; done) | (simp only [K_shows, h1, inB_f h3, cond_true, cond_false, Bool.and_true, Bool.true_and, Bool.and_false, Bool.false_and, Bool.or_true, Bool.true_or, Bool.or_false, Bool.false_or, Bool.not_true, Bool.not_false, decide_true, decide_false, if_true, if_false, Bool.true_eq_false, Bool.false_eq_true] <;> decide)); rw [e]; exact (show Cor σ σ from Cor.rfl' σ))⟩
  · skip
    refine R_ifeq (pc := 5) 18 dX9_shows_5 (by decide) (fun _ => ?_) (fun h => absurd (by decide) h)
    refine R_bipush (pc := 18) (v := (-2)) dX9_shows_18 (by decide) ?_
    exact R_iret (pc := 20) dX9_shows_20 rfl rfl (Nat.zero_le _) (Nat.zero_le _) ⟨_, rfl, (by first | (simp only [A_shows, h1, cond_true, cond_false, Bool.and_true, Bool.true_and, Bool.and_false, Bool.false_and, Bool.or_true, Bool.true_or, Bool.or_false, Bool.false_or, Bool.not_true, Bool.not_false, decide_true, decide_false, if_true, if_false, Bool.true_eq_false, Bool.false_eq_true]; done) | (simp [A_shows, h1]; done) | (simp only [A_shows, h1, cond_true, cond_false, Bool.and_true, Bool.true_and, Bool.and_false, Bool.false_and, Bool.or_true, Bool.true_or, Bool.or_false, Bool.false_or, Bool.not_true, Bool.not_false, decide_true, decide_false, if_true, if_false, Bool.true_eq_false, Bool.false_eq_true] <;> decide)), _, rfl, hI, (by have e : (K_shows (thM σ c) f v) = false := (by first | (simp only [K_shows, h1, cond_true, cond_false, Bool.and_true, Bool.true_and, Bool.and_false, Bool.false_and, Bool.or_true, Bool.true_or, Bool.or_false, Bool.false_or, Bool.not_true, Bool.not_false, decide_true, decide_false, if_true, if_false, Bool.true_eq_false, Bool.false_eq_true]; done) | (simp [K_shows, h1]; done) | (simp only [K_shows, h1, cond_true, cond_false, Bool.and_true, Bool.true_and, Bool.and_false, Bool.false_and, Bool.or_true, Bool.true_or, Bool.or_false, Bool.false_or, Bool.not_true, Bool.not_false, decide_true, decide_false, if_true, if_false, Bool.true_eq_false, Bool.false_eq_true] <;> decide)); rw [e]; exact (show Cor σ σ from Cor.rfl' σ))⟩
def E_X9_later (σ : Sg) (a b : Int32) : Sg := (uI (uA (uA σ 161 (upd (σ.2.2.1 161) (Int32.toNatClampNeg (σ.1 14025)) a)) 162 (upd (σ.2.2.1 162) (Int32.toNatClampNeg (σ.1 14025)) b)) 14025 ((σ.1 14025) + 1))
set_option maxRecDepth 100000 in
set_option maxHeartbeats 40000000 in
theorem ge_X9_later {G : vG} {l : Launch} (σ : Sg) (a b : Int32) (hI : Inv σ) : Sp G l yX9_later cX9_later 3 (some .int) 2 0 0 [.ref 140, .int a, .int b] (WW σ) (QI (fun x w2 => x = A_later (ttM σ a b) (σ.1 14025) ∧ ∃ σ2, w2 = WW σ2 ∧ Inv σ2 ∧ Cor (bif K_later (ttM σ a b) (σ.1 14025) then (E_X9_later σ a b) else σ) σ2)) := by
  refine Sp_of_R [(some (.ref 140)), (some (.int a)), (some (.int b))] [] rfl (by simp) rfl (Nat.le_of_ble_eq_true rfl) ?_
  refine R_aload_n (pc := 0) dX9_later_0 rfl rfl ?_
  refine R_iload_n (pc := 1) dX9_later_1 rfl rfl ?_
  refine k_X9_135 (pc := 2) (gf_X9_isThere _ _ hI) rfl (c_140 _) (by decide) (Nat.le_refl _) (Nat.le_refl _) (Nat.le_of_ble_eq_true rfl) dX9_later_2 (fun x w2 h => ?_)
  rcases h with ⟨rfl, ⟨h1, rfl⟩ | ⟨h1, rfl⟩⟩
  · skip
    refine R_ifeq (pc := 5) 21 dX9_later_5 (by decide) (fun h => absurd h (by decide)) (fun _ => ?_)
    refine R_aload_n (pc := 8) dX9_later_8 rfl rfl ?_
    refine R_iload_n (pc := 9) dX9_later_9 rfl rfl ?_
    refine k_X9_135 (pc := 10) (gf_X9_isThere _ _ hI) rfl (c_140 _) (by decide) (Nat.le_refl _) (Nat.le_refl _) (Nat.le_of_ble_eq_true rfl) dX9_later_10 (fun x w2 h => ?_)
    rcases h with ⟨rfl, ⟨h3, rfl⟩ | ⟨h3, rfl⟩⟩
    · skip
      refine R_ifeq (pc := 13) 21 dX9_later_13 (by decide) (fun h => absurd h (by decide)) (fun _ => ?_)
      refine R_iload_n (pc := 16) dX9_later_16 rfl rfl ?_
      refine R_iload_n (pc := 17) dX9_later_17 rfl rfl ?_
      refine R_icne (pc := 18) 24 dX9_later_18 (by decide) (fun b18_5 => ?_) (fun b18_5 => ?_)
      · skip
        refine R_aload_n (pc := 24) dX9_later_24 rfl rfl ?_
        refine g_X9_201 (pc := 25) (v := .int (σ.1 14025)) rfl dX9_later_25 (c_140 _) rfl ?_
        refine R_bipush (pc := 28) (v := 12) dX9_later_28 (by decide) ?_
        refine R_icne (pc := 30) 36 dX9_later_30 (by decide) (fun b30_6 => ?_) (fun b30_6 => ?_)
        · skip
          refine R_aload_n (pc := 36) dX9_later_36 rfl rfl ?_
          refine g_X9_81 (pc := 37) (v := .ref 161) rfl dX9_later_37 (c_140 _) rfl ?_
          refine R_aload_n (pc := 40) dX9_later_40 rfl rfl ?_
          refine g_X9_201 (pc := 41) (v := .int (σ.1 14025)) rfl dX9_later_41 (c_140 _) rfl ?_
          refine R_iload_n (pc := 44) dX9_later_44 rfl rfl ?_
          have hx7 : vp_in (σ.1 14025) 12 := (vp_ti (by have q0 := ti_ne b18_5; have q1 := ti_ne b30_6; have q2 := ti_in (thM_r h1); have q3 := ti_in (thM_r h3); have q4 := ti_in (iv_14025 hI); have z0 : (0 : Int32).toInt = 0 := (by decide); have z1 : (1 : Int32).toInt = 1 := (by decide); have z2 : (12 : Int32).toInt = 12 := (by decide); have z3 : (14025 : Int32).toInt = 14025 := (by decide); have z4 : (19 : Int32).toInt = 19 := (by decide); omega) (by have q0 := ti_ne b18_5; have q1 := ti_ne b30_6; have q2 := ti_in (thM_r h1); have q3 := ti_in (thM_r h3); have q4 := ti_in (iv_14025 hI); have z0 : (0 : Int32).toInt = 0 := (by decide); have z1 : (1 : Int32).toInt = 1 := (by decide); have z2 : (12 : Int32).toInt = 12 := (by decide); have z3 : (14025 : Int32).toInt = 14025 := (by decide); have z4 : (19 : Int32).toInt = 19 := (by decide); omega))
          refine W_iastore (pc := 45) dX9_later_45 (c_161 _) hx7 (a_161 _ _) ?_
          have hW8 := cor_ca 161 (Int32.toNatClampNeg (σ.1 14025)) a (show Cor σ σ from Cor.rfl' σ) rfl
          refine R_aload_n (pc := 46) dX9_later_46 rfl rfl ?_
          refine g_X9_84 (pc := 47) (v := .ref 162) rfl dX9_later_47 (c_140 _) rfl ?_
          refine R_aload_n (pc := 50) dX9_later_50 rfl rfl ?_
          refine g_X9_201 (pc := 51) (v := .int (σ.1 14025)) rfl dX9_later_51 (c_140 _) rfl ?_
          refine R_iload_n (pc := 54) dX9_later_54 rfl rfl ?_
          have hx9 : vp_in (σ.1 14025) 12 := (vp_ti (by have q0 := ti_ne b18_5; have q1 := ti_ne b30_6; have q2 := ti_in (thM_r h1); have q3 := ti_in (thM_r h3); have q4 := ti_in (iv_14025 hI); have z0 : (0 : Int32).toInt = 0 := (by decide); have z1 : (1 : Int32).toInt = 1 := (by decide); have z2 : (12 : Int32).toInt = 12 := (by decide); have z3 : (14025 : Int32).toInt = 14025 := (by decide); have z4 : (19 : Int32).toInt = 19 := (by decide); omega) (by have q0 := ti_ne b18_5; have q1 := ti_ne b30_6; have q2 := ti_in (thM_r h1); have q3 := ti_in (thM_r h3); have q4 := ti_in (iv_14025 hI); have z0 : (0 : Int32).toInt = 0 := (by decide); have z1 : (1 : Int32).toInt = 1 := (by decide); have z2 : (12 : Int32).toInt = 12 := (by decide); have z3 : (14025 : Int32).toInt = 14025 := (by decide); have z4 : (19 : Int32).toInt = 19 := (by decide); omega))
          refine W_iastore (pc := 55) dX9_later_55 (c_162 _) hx9 (a_162 _ _) ?_
          have hW10 := cor_ca 162 (Int32.toNatClampNeg (σ.1 14025)) b hW8 rfl
          refine R_aload_n (pc := 56) dX9_later_56 rfl rfl ?_
          refine R_dup (pc := 57) dX9_later_57 rfl ?_
          refine g_X9_201 (pc := 58) (v := .int (σ.1 14025)) rfl dX9_later_58 (c_140 _) rfl ?_
          refine R_iconst (pc := 61) (v := 1) dX9_later_61 (by decide) ?_
          refine R_iadd (pc := 62) dX9_later_62 ?_
          have r11 : inR ((σ.1 14025) + 1) 1 13 := inR_add (show inR (σ.1 14025) 0 12 from (iv_14025 hI)) (show inR 1 1 1 from (inR_self _)) (by decide) (by decide)
          have e12 := ti_add (l := 1) (h := 13) (show inR (σ.1 14025) 0 12 from (iv_14025 hI)) (show inR 1 1 1 from (inR_self _)) (by decide) (by decide)
          refine p_X9_201 (pc := 63) rfl dX9_later_63 (c_140 _) (Nat.le_of_ble_eq_true rfl) rfl rfl (s_140_25 _ _) ?_
          have hV13 := su_14025 hI (show inR ((σ.1 14025) + 1) 0 12 from of_ti (by have q0 := e12; have q1 := ti_ne b18_5; have q2 := ti_ne b30_6; have q3 := ti_in (thM_r h1); have q4 := ti_in (thM_r h3); have q5 := ti_in (iv_14025 hI); have q6 := ti_in r11; have z0 : (0 : Int32).toInt = 0 := (by decide); have z1 : (1 : Int32).toInt = 1 := (by decide); have z2 : (12 : Int32).toInt = 12 := (by decide); have z3 : (13 : Int32).toInt = 13 := (by decide); have z4 : (14025 : Int32).toInt = 14025 := (by decide); have z5 : (19 : Int32).toInt = 19 := (by decide); omega) (by have q0 := e12; have q1 := ti_ne b18_5; have q2 := ti_ne b30_6; have q3 := ti_in (thM_r h1); have q4 := ti_in (thM_r h3); have q5 := ti_in (iv_14025 hI); have q6 := ti_in r11; have z0 : (0 : Int32).toInt = 0 := (by decide); have z1 : (1 : Int32).toInt = 1 := (by decide); have z2 : (12 : Int32).toInt = 12 := (by decide); have z3 : (13 : Int32).toInt = 13 := (by decide); have z4 : (14025 : Int32).toInt = 14025 := (by decide); have z5 : (19 : Int32).toInt = 19 := (by decide); omega))
          have hW14 := cor_ci 14025 ((σ.1 14025) + 1) hW10
          refine R_aload_n (pc := 66) dX9_later_66 rfl rfl ?_
          refine g_X9_201 (pc := 67) (v := .int ((σ.1 14025) + 1)) rfl dX9_later_67 (c_140 _) rfl ?_
          exact R_iret (pc := 70) dX9_later_70 rfl rfl (Nat.zero_le _) (Nat.zero_le _) ⟨_, rfl, (by first | (simp only [A_later, ttM, h1, h3, cond_true, cond_false, Bool.and_true, Bool.true_and, Bool.and_false, Bool.false_and, Bool.or_true, Bool.true_or, Bool.or_false, Bool.false_or, Bool.not_true, Bool.not_false, decide_true, decide_false, if_true, if_false, Bool.true_eq_false, Bool.false_eq_true]; done) | (simp only [A_later, ttM, h1, h3, b18_5, b30_6, cond_true, cond_false, Bool.and_true, Bool.true_and, Bool.and_false, Bool.false_and, Bool.or_true, Bool.true_or, Bool.or_false, Bool.false_or, Bool.not_true, Bool.not_false, decide_true, decide_false, if_true, if_false, Bool.true_eq_false, Bool.false_eq_true]; done) | (simp [A_later, ttM, h1, h3, b18_5, b30_6]; done) | (simp only [A_later, ttM, h1, h3, cond_true, cond_false, Bool.and_true, Bool.true_and, Bool.and_false, Bool.false_and, Bool.or_true, Bool.true_or, Bool.or_false, Bool.false_or, Bool.not_true, Bool.not_false, decide_true, decide_false, if_true, if_false, Bool.true_eq_false, Bool.false_eq_true] <;> decide)), _, rfl, hV13, (by have e : (K_later (ttM σ a b) (σ.1 14025)) = true := (by first | (simp only [K_later, ttM, h1, h3, cond_true, cond_false, Bool.and_true, Bool.true_and, Bool.and_false, Bool.false_and, Bool.or_true, Bool.true_or, Bool.or_false, Bool.false_or, Bool.not_true, Bool.not_false, decide_true, decide_false, if_true, if_false, Bool.true_eq_false, Bool.false_eq_true]; done) | (simp only [K_later, ttM, h1, h3, b18_5, b30_6, cond_true, cond_false, Bool.and_true, Bool.true_and, Bool.and_false, Bool.false_and, Bool.or_true, Bool.true_or, Bool.or_false, Bool.false_or, Bool.not_true, Bool.not_false, decide_true, decide_false, if_true, if_false, Bool.true_eq_false, Bool.false_eq_true]; done) | (simp [K_later, ttM, h1, h3, b18_5, b30_6]; done) | (simp only [K_later, ttM, h1, h3, cond_true, cond_false, Bool.and_true, Bool.true_and, Bool.and_false, Bool.false_and, Bool.or_true, Bool.true_or, Bool.or_false, Bool.false_or, Bool.not_true, Bool.not_false, decide_true, decide_false, if_true, if_false, Bool.true_eq_false, Bool.false_eq_true] <;> decide)); rw [e]; exact hW14)⟩
        · skip
          refine R_bipush (pc := 33) (v := (-5)) dX9_later_33 (by decide) ?_
          exact R_iret (pc := 35) dX9_later_35 rfl rfl (Nat.zero_le _) (Nat.zero_le _) ⟨_, rfl, (by first | (simp only [A_later, ttM, h1, h3, cond_true, cond_false, Bool.and_true, Bool.true_and, Bool.and_false, Bool.false_and, Bool.or_true, Bool.true_or, Bool.or_false, Bool.false_or, Bool.not_true, Bool.not_false, decide_true, decide_false, if_true, if_false, Bool.true_eq_false, Bool.false_eq_true]; done) | (simp only [A_later, ttM, h1, h3, b18_5, b30_6, cond_true, cond_false, Bool.and_true, Bool.true_and, Bool.and_false, Bool.false_and, Bool.or_true, Bool.true_or, Bool.or_false, Bool.false_or, Bool.not_true, Bool.not_false, decide_true, decide_false, if_true, if_false, Bool.true_eq_false, Bool.false_eq_true]; done) | (simp [A_later, ttM, h1, h3, b18_5, b30_6]; done) | (simp only [A_later, ttM, h1, h3, cond_true, cond_false, Bool.and_true, Bool.true_and, Bool.and_false, Bool.false_and, Bool.or_true, Bool.true_or, Bool.or_false, Bool.false_or, Bool.not_true, Bool.not_false, decide_true, decide_false, if_true, if_false, Bool.true_eq_false, Bool.false_eq_true] <;> decide)), _, rfl, hI, (by have e : (K_later (ttM σ a b) (σ.1 14025)) = false := (by first | (simp only [K_later, ttM, h1, h3, cond_true, cond_false, Bool.and_true, Bool.true_and, Bool.and_false, Bool.false_and, Bool.or_true, Bool.true_or, Bool.or_false, Bool.false_or, Bool.not_true, Bool.not_false, decide_true, decide_false, if_true, if_false, Bool.true_eq_false, Bool.false_eq_true]; done) | (simp only [K_later, ttM, h1, h3, b18_5, b30_6, cond_true, cond_false, Bool.and_true, Bool.true_and, Bool.and_false, Bool.false_and, Bool.or_true, Bool.true_or, Bool.or_false, Bool.false_or, Bool.not_true, Bool.not_false, decide_true, decide_false, if_true, if_false, Bool.true_eq_false, Bool.false_eq_true]; done) | (simp [K_later, ttM, h1, h3, b18_5, b30_6]; done) | (simp only [K_later, ttM, h1, h3, cond_true, cond_false, Bool.and_true, Bool.true_and, Bool.and_false, Bool.false_and, Bool.or_true, Bool.true_or, Bool.or_false, Bool.false_or, Bool.not_true, Bool.not_false, decide_true, decide_false, if_true, if_false, Bool.true_eq_false, Bool.false_eq_true] <;> decide)); rw [e]; exact (show Cor σ σ from Cor.rfl' σ))⟩
      · skip
        refine R_bipush (pc := 21) (v := (-2)) dX9_later_21 (by decide) ?_
        exact R_iret (pc := 23) dX9_later_23 rfl rfl (Nat.zero_le _) (Nat.zero_le _) ⟨_, rfl, (by first | (simp only [A_later, ttM, h1, h3, cond_true, cond_false, Bool.and_true, Bool.true_and, Bool.and_false, Bool.false_and, Bool.or_true, Bool.true_or, Bool.or_false, Bool.false_or, Bool.not_true, Bool.not_false, decide_true, decide_false, if_true, if_false, Bool.true_eq_false, Bool.false_eq_true]; done) | (simp only [A_later, ttM, h1, h3, b18_5, cond_true, cond_false, Bool.and_true, Bool.true_and, Bool.and_false, Bool.false_and, Bool.or_true, Bool.true_or, Bool.or_false, Bool.false_or, Bool.not_true, Bool.not_false, decide_true, decide_false, if_true, if_false, Bool.true_eq_false, Bool.false_eq_true]; done) | (simp [A_later, ttM, h1, h3, b18_5]; done) | (simp only [A_later, ttM, h1, h3, cond_true, cond_false, Bool.and_true, Bool.true_and, Bool.and_false, Bool.false_and, Bool.or_true, Bool.true_or, Bool.or_false, Bool.false_or, Bool.not_true, Bool.not_false, decide_true, decide_false, if_true, if_false, Bool.true_eq_false, Bool.false_eq_true] <;> decide)), _, rfl, hI, (by have e : (K_later (ttM σ a b) (σ.1 14025)) = false := (by first | (simp only [K_later, ttM, h1, h3, cond_true, cond_false, Bool.and_true, Bool.true_and, Bool.and_false, Bool.false_and, Bool.or_true, Bool.true_or, Bool.or_false, Bool.false_or, Bool.not_true, Bool.not_false, decide_true, decide_false, if_true, if_false, Bool.true_eq_false, Bool.false_eq_true]; done) | (simp only [K_later, ttM, h1, h3, b18_5, cond_true, cond_false, Bool.and_true, Bool.true_and, Bool.and_false, Bool.false_and, Bool.or_true, Bool.true_or, Bool.or_false, Bool.false_or, Bool.not_true, Bool.not_false, decide_true, decide_false, if_true, if_false, Bool.true_eq_false, Bool.false_eq_true]; done) | (simp [K_later, ttM, h1, h3, b18_5]; done) | (simp only [K_later, ttM, h1, h3, cond_true, cond_false, Bool.and_true, Bool.true_and, Bool.and_false, Bool.false_and, Bool.or_true, Bool.true_or, Bool.or_false, Bool.false_or, Bool.not_true, Bool.not_false, decide_true, decide_false, if_true, if_false, Bool.true_eq_false, Bool.false_eq_true] <;> decide)); rw [e]; exact (show Cor σ σ from Cor.rfl' σ))⟩
    · skip
      refine R_ifeq (pc := 13) 21 dX9_later_13 (by decide) (fun _ => ?_) (fun h => absurd (by decide) h)
      refine R_bipush (pc := 21) (v := (-2)) dX9_later_21 (by decide) ?_
      exact R_iret (pc := 23) dX9_later_23 rfl rfl (Nat.zero_le _) (Nat.zero_le _) ⟨_, rfl, (by first | (simp only [A_later, ttM, h1, h3, cond_true, cond_false, Bool.and_true, Bool.true_and, Bool.and_false, Bool.false_and, Bool.or_true, Bool.true_or, Bool.or_false, Bool.false_or, Bool.not_true, Bool.not_false, decide_true, decide_false, if_true, if_false, Bool.true_eq_false, Bool.false_eq_true]; done) | (simp [A_later, ttM, h1, h3]; done) | (simp only [A_later, ttM, h1, h3, cond_true, cond_false, Bool.and_true, Bool.true_and, Bool.and_false, Bool.false_and, Bool.or_true, Bool.true_or, Bool.or_false, Bool.false_or, Bool.not_true, Bool.not_false, decide_true, decide_false, if_true, if_false, Bool.true_eq_false, Bool.false_eq_true] <;> decide)), _, rfl, hI, (by have e : (K_later (ttM σ a b) (σ.1 14025)) = false := (by first | (simp only [K_later, ttM, h1, h3, cond_true, cond_false, Bool.and_true, Bool.true_and, Bool.and_false, Bool.false_and, Bool.or_true, Bool.true_or, Bool.or_false, Bool.false_or, Bool.not_true, Bool.not_false, decide_true, decide_false, if_true, if_false, Bool.true_eq_false, Bool.false_eq_true]; done) | (simp [K_later, ttM, h1, h3]; done) | (simp only [K_later, ttM, h1, h3, cond_true, cond_false, Bool.and_true, Bool.true_and, Bool.and_false, Bool.false_and, Bool.or_true, Bool.true_or, Bool.or_false, Bool.false_or, Bool.not_true, Bool.not_false, decide_true, decide_false, if_true, if_false, Bool.true_eq_false, Bool.false_eq_true] <;> decide)); rw [e]; exact (show Cor σ σ from Cor.rfl' σ))⟩
  · skip
    refine R_ifeq (pc := 5) 21 dX9_later_5 (by decide) (fun _ => ?_) (fun h => absurd (by decide) h)
    refine R_bipush (pc := 21) (v := (-2)) dX9_later_21 (by decide) ?_
    exact R_iret (pc := 23) dX9_later_23 rfl rfl (Nat.zero_le _) (Nat.zero_le _) ⟨_, rfl, (by first | (simp only [A_later, ttM, h1, cond_true, cond_false, Bool.and_true, Bool.true_and, Bool.and_false, Bool.false_and, Bool.or_true, Bool.true_or, Bool.or_false, Bool.false_or, Bool.not_true, Bool.not_false, decide_true, decide_false, if_true, if_false, Bool.true_eq_false, Bool.false_eq_true]; done) | (simp [A_later, ttM, h1]; done) | (simp only [A_later, ttM, h1, cond_true, cond_false, Bool.and_true, Bool.true_and, Bool.and_false, Bool.false_and, Bool.or_true, Bool.true_or, Bool.or_false, Bool.false_or, Bool.not_true, Bool.not_false, decide_true, decide_false, if_true, if_false, Bool.true_eq_false, Bool.false_eq_true] <;> decide)), _, rfl, hI, (by have e : (K_later (ttM σ a b) (σ.1 14025)) = false := (by first | (simp only [K_later, ttM, h1, cond_true, cond_false, Bool.and_true, Bool.true_and, Bool.and_false, Bool.false_and, Bool.or_true, Bool.true_or, Bool.or_false, Bool.false_or, Bool.not_true, Bool.not_false, decide_true, decide_false, if_true, if_false, Bool.true_eq_false, Bool.false_eq_true]; done) | (simp [K_later, ttM, h1]; done) | (simp only [K_later, ttM, h1, cond_true, cond_false, Bool.and_true, Bool.true_and, Bool.and_false, Bool.false_and, Bool.or_true, Bool.true_or, Bool.or_false, Bool.false_or, Bool.not_true, Bool.not_false, decide_true, decide_false, if_true, if_false, Bool.true_eq_false, Bool.false_eq_true] <;> decide)); rw [e]; exact (show Cor σ σ from Cor.rfl' σ))⟩
def E_X9_unview (σ : Sg) (c : Int32) : Sg := (uA σ 168 (upd (σ.2.2.1 168) (Int32.toNatClampNeg c) 0))
set_option maxRecDepth 100000 in
set_option maxHeartbeats 40000000 in
theorem ge_X9_unview {G : vG} {l : Launch} (σ : Sg) (c : Int32) (hI : Inv σ) : Sp G l yX9_unview cX9_unview 3 (some .int) 2 0 0 [.ref 140, .int c] (WW σ) (QI (fun x w2 => x = A_unview (thM σ c) (σ.2.2.1 168 (Int32.toNatClampNeg c)) ∧ ∃ σ2, w2 = WW σ2 ∧ Inv σ2 ∧ Cor (bif thM σ c then (E_X9_unview σ c) else σ) σ2)) := by
  refine Sp_of_R [(some (.ref 140)), (some (.int c)), none] [none] rfl (by simp) rfl (Nat.le_of_ble_eq_true rfl) ?_
  refine R_aload_n (pc := 0) dX9_unview_0 rfl rfl ?_
  refine R_iload_n (pc := 1) dX9_unview_1 rfl rfl ?_
  refine k_X9_135 (pc := 2) (gf_X9_isThere _ _ hI) rfl (c_140 _) (by decide) (Nat.le_refl _) (Nat.le_refl _) (Nat.le_of_ble_eq_true rfl) dX9_unview_2 (fun x w2 h => ?_)
  rcases h with ⟨rfl, ⟨h1, rfl⟩ | ⟨h1, rfl⟩⟩
  · skip
    refine R_ifne (pc := 5) 11 dX9_unview_5 (by decide) (fun _ => ?_) (fun h => absurd h (by decide))
    refine R_aload_n (pc := 11) dX9_unview_11 rfl rfl ?_
    refine g_X9_102 (pc := 12) (v := .ref 168) rfl dX9_unview_12 (c_140 _) rfl ?_
    refine R_iload_n (pc := 15) dX9_unview_15 rfl rfl ?_
    have hx3 : vp_in c 20 := (vp_of_inR (thM_r h1) (by decide))
    refine R_iaload (pc := 16) dX9_unview_16 (c_168 _) hx3 ?_
    refine st_3_2_i_i (pc := 17) dX9_unview_17 ?_
    refine R_aload_n (pc := 18) dX9_unview_18 rfl rfl ?_
    refine g_X9_102 (pc := 19) (v := .ref 168) rfl dX9_unview_19 (c_140 _) rfl ?_
    refine R_iload_n (pc := 22) dX9_unview_22 rfl rfl ?_
    refine R_iconst (pc := 23) (v := 0) dX9_unview_23 (by decide) ?_
    have hx4 : vp_in c 20 := (vp_of_inR (thM_r h1) (by decide))
    refine W_iastore (pc := 24) dX9_unview_24 (c_168 _) hx4 (a_168 _ _) ?_
    have hV5 := sa_168 hI (Int32.toNatClampNeg c) (show inR 0 0 5 from ⟨by decide, by decide⟩)
    have hW6 := cor_ca 168 (Int32.toNatClampNeg c) 0 (show Cor σ σ from Cor.rfl' σ) rfl
    refine R_iload_n (pc := 25) dX9_unview_25 rfl rfl ?_
    exact R_iret (pc := 26) dX9_unview_26 rfl rfl (Nat.zero_le _) (Nat.zero_le _) ⟨_, rfl, (by first | (simp only [A_unview, h1, cond_true, cond_false, Bool.and_true, Bool.true_and, Bool.and_false, Bool.false_and, Bool.or_true, Bool.true_or, Bool.or_false, Bool.false_or, Bool.not_true, Bool.not_false, decide_true, decide_false, if_true, if_false, Bool.true_eq_false, Bool.false_eq_true]; done) | (simp [A_unview, h1]; done) | (simp only [A_unview, h1, cond_true, cond_false, Bool.and_true, Bool.true_and, Bool.and_false, Bool.false_and, Bool.or_true, Bool.true_or, Bool.or_false, Bool.false_or, Bool.not_true, Bool.not_false, decide_true, decide_false, if_true, if_false, Bool.true_eq_false, Bool.false_eq_true] <;> decide)), _, rfl, hV5, (by have e : (thM σ c) = true := (by first | (simp only [h1, cond_true, cond_false, Bool.and_true, Bool.true_and, Bool.and_false, Bool.false_and, Bool.or_true, Bool.true_or, Bool.or_false, Bool.false_or, Bool.not_true, Bool.not_false, decide_true, decide_false, if_true, if_false, Bool.true_eq_false, Bool.false_eq_true]; done) | (simp [h1]; done) | (simp only [h1, cond_true, cond_false, Bool.and_true, Bool.true_and, Bool.and_false, Bool.false_and, Bool.or_true, Bool.true_or, Bool.or_false, Bool.false_or, Bool.not_true, Bool.not_false, decide_true, decide_false, if_true, if_false, Bool.true_eq_false, Bool.false_eq_true] <;> decide)); rw [e]; exact hW6)⟩
  · skip
    refine R_ifne (pc := 5) 11 dX9_unview_5 (by decide) (fun h => absurd (by decide) h) (fun _ => ?_)
    refine R_bipush (pc := 8) (v := (-2)) dX9_unview_8 (by decide) ?_
    exact R_iret (pc := 10) dX9_unview_10 rfl rfl (Nat.zero_le _) (Nat.zero_le _) ⟨_, rfl, (by first | (simp only [A_unview, h1, cond_true, cond_false, Bool.and_true, Bool.true_and, Bool.and_false, Bool.false_and, Bool.or_true, Bool.true_or, Bool.or_false, Bool.false_or, Bool.not_true, Bool.not_false, decide_true, decide_false, if_true, if_false, Bool.true_eq_false, Bool.false_eq_true]; done) | (simp [A_unview, h1]; done) | (simp only [A_unview, h1, cond_true, cond_false, Bool.and_true, Bool.true_and, Bool.and_false, Bool.false_and, Bool.or_true, Bool.true_or, Bool.or_false, Bool.false_or, Bool.not_true, Bool.not_false, decide_true, decide_false, if_true, if_false, Bool.true_eq_false, Bool.false_eq_true] <;> decide)), _, rfl, hI, (by have e : (thM σ c) = false := (by first | (simp only [h1, cond_true, cond_false, Bool.and_true, Bool.true_and, Bool.and_false, Bool.false_and, Bool.or_true, Bool.true_or, Bool.or_false, Bool.false_or, Bool.not_true, Bool.not_false, decide_true, decide_false, if_true, if_false, Bool.true_eq_false, Bool.false_eq_true]; done) | (simp [h1]; done) | (simp only [h1, cond_true, cond_false, Bool.and_true, Bool.true_and, Bool.and_false, Bool.false_and, Bool.or_true, Bool.true_or, Bool.or_false, Bool.false_or, Bool.not_true, Bool.not_false, decide_true, decide_false, if_true, if_false, Bool.true_eq_false, Bool.false_eq_true] <;> decide)); rw [e]; exact (show Cor σ σ from Cor.rfl' σ))⟩
def E_X9_view (σ : Sg) (c l9 : Int32) : Sg := (uA (uA σ 169 (upd (σ.2.2.1 169) (Int32.toNatClampNeg ((5 * c) + (σ.2.2.1 168 (Int32.toNatClampNeg c)))) l9)) 168 (upd (σ.2.2.1 168) (Int32.toNatClampNeg c) ((σ.2.2.1 168 (Int32.toNatClampNeg c)) + 1)))
set_option maxRecDepth 100000 in
set_option maxHeartbeats 40000000 in
theorem ge_X9_view {G : vG} {l : Launch} (σ : Sg) (c l9 : Int32) (hI : Inv σ) : Sp G l yX9_view cX9_view 4 (some .int) 2 0 0 [.ref 140, .int c, .int l9] (WW σ) (QI (fun x w2 => x = A_view (thM σ c) (inV (fun k => σ.2.2.1 169 (Int32.toNatClampNeg ((5 * c) + (nI k)))) l9 (Int32.toNatClampNeg (σ.2.2.1 168 (Int32.toNatClampNeg c)))) l9 (σ.2.2.1 168 (Int32.toNatClampNeg c)) ∧ ∃ σ2, w2 = WW σ2 ∧ Inv σ2 ∧ Cor (bif K_view (thM σ c) (inV (fun k => σ.2.2.1 169 (Int32.toNatClampNeg ((5 * c) + (nI k)))) l9 (Int32.toNatClampNeg (σ.2.2.1 168 (Int32.toNatClampNeg c)))) l9 (σ.2.2.1 168 (Int32.toNatClampNeg c)) then (E_X9_view σ c l9) else σ) σ2)) := by
  refine Sp_of_R [(some (.ref 140)), (some (.int c)), (some (.int l9)), none] [none] rfl (by simp) rfl (Nat.le_of_ble_eq_true rfl) ?_
  refine R_aload_n (pc := 0) dX9_view_0 rfl rfl ?_
  refine R_iload_n (pc := 1) dX9_view_1 rfl rfl ?_
  refine k_X9_135 (pc := 2) (gf_X9_isThere _ _ hI) rfl (c_140 _) (by decide) (Nat.le_refl _) (Nat.le_refl _) (Nat.le_of_ble_eq_true rfl) dX9_view_2 (fun x w2 h => ?_)
  rcases h with ⟨rfl, ⟨h1, rfl⟩ | ⟨h1, rfl⟩⟩
  · skip
    refine R_ifeq (pc := 5) 18 dX9_view_5 (by decide) (fun h => absurd h (by decide)) (fun _ => ?_)
    refine R_iload_n (pc := 8) dX9_view_8 rfl rfl ?_
    refine R_iconst (pc := 9) (v := 0) dX9_view_9 (by decide) ?_
    refine R_bipush (pc := 10) (v := 7) dX9_view_10 (by decide) ?_
    refine k_X9_124 (pc := 12) (sp_X9_in _ _ _ _) rfl (by decide) (Nat.le_refl _) (Nat.le_refl _) (Nat.le_of_ble_eq_true rfl) dX9_view_12 (fun x w2 h => ?_)
    rcases h with ⟨rfl, ⟨h3, rfl⟩ | ⟨h3, rfl⟩⟩
    · skip
      refine R_ifne (pc := 15) 21 dX9_view_15 (by decide) (fun _ => ?_) (fun h => absurd h (by decide))
      refine R_iconst (pc := 21) (v := 0) dX9_view_21 (by decide) ?_
      refine st_4_3_i_i (pc := 22) dX9_view_22 ?_
      have HL23 : ∀ (q j23 : Nat), j23 + q = 5 → 0 ≤ j23 → inV (fun k => σ.2.2.1 169 (Int32.toNatClampNeg ((5 * c) + (nI k)))) l9 j23 = false → nI j23 ≤ (σ.2.2.1 168 (Int32.toNatClampNeg c)) → R G l yX9_view cX9_view 4 (some .int) 2 0 0 (QI (fun x w2 => x = A_view (thM σ c) (inV (fun k => σ.2.2.1 169 (Int32.toNatClampNeg ((5 * c) + (nI k)))) l9 (Int32.toNatClampNeg (σ.2.2.1 168 (Int32.toNatClampNeg c)))) l9 (σ.2.2.1 168 (Int32.toNatClampNeg c)) ∧ ∃ σ2, w2 = WW σ2 ∧ Inv σ2 ∧ Cor (bif K_view (thM σ c) (inV (fun k => σ.2.2.1 169 (Int32.toNatClampNeg ((5 * c) + (nI k)))) l9 (Int32.toNatClampNeg (σ.2.2.1 168 (Int32.toNatClampNeg c)))) l9 (σ.2.2.1 168 (Int32.toNatClampNeg c)) then (E_X9_view σ c l9) else σ) σ2)) 23 [(some (.ref 140)), (some (.int c)), (some (.int l9)), (some (.int (nI j23)))] [] (WW σ) 0 0 := by
        intro q
        induction q with
        | zero =>
          intro j23 hj hs23 hX23_0 hX23_1
          obtain rfl : j23 = 5 := by omega
          refine R_iload_n (pc := 23) dX9_view_23 rfl rfl ?_
          refine R_aload_n (pc := 24) dX9_view_24 rfl rfl ?_
          refine g_X9_102 (pc := 25) (v := .ref 168) rfl dX9_view_25 (c_140 _) rfl ?_
          refine R_iload_n (pc := 28) dX9_view_28 rfl rfl ?_
          have hx5 : vp_in c 20 := (vp_of_inR (thM_r h1) (by decide))
          refine R_iaload (pc := 29) dX9_view_29 (c_168 _) hx5 ?_
          refine R_icge (pc := 30) 56 dX9_view_30 (by decide) (fun _ => ?_) (fun h => absurd (Int32.not_lt.mp (inR_up (iva_168 hI _ (lt_of_vp hx5)) (Int32.le_refl _) (by decide)).2) h)
          refine R_aload_n (pc := 56) dX9_view_56 rfl rfl ?_
          refine g_X9_102 (pc := 57) (v := .ref 168) rfl dX9_view_57 (c_140 _) rfl ?_
          refine R_iload_n (pc := 60) dX9_view_60 rfl rfl ?_
          have hx7 : vp_in c 20 := (vp_of_inR (thM_r h1) (by decide))
          refine R_iaload (pc := 61) dX9_view_61 (c_168 _) hx7 ?_
          refine R_iconst (pc := 62) (v := 5) dX9_view_62 (by decide) ?_
          refine R_icne (pc := 63) 69 dX9_view_63 (by decide) (fun b63_8 => ?_) (fun b63_8 => ?_)
          · skip
            refine R_aload_n (pc := 69) dX9_view_69 rfl rfl ?_
            refine g_X9_105 (pc := 70) (v := .ref 169) rfl dX9_view_70 (c_140 _) rfl ?_
            refine R_iconst (pc := 73) (v := 5) dX9_view_73 (by decide) ?_
            refine R_iload_n (pc := 74) dX9_view_74 rfl rfl ?_
            refine R_imul (pc := 75) dX9_view_75 ?_
            have r9 : inR (5 * c) 0 95 := inR_mulc (c := 5) (l := 0) (h := 95) 5 (by decide) (show inR c 0 19 from (thM_r h1)) (by decide) (by decide)
            have e10 := ti_mulc (c := 5) (l := 0) (h := 95) 5 (by decide) (show inR c 0 19 from (thM_r h1)) (by decide) (by decide)
            refine R_aload_n (pc := 76) dX9_view_76 rfl rfl ?_
            refine g_X9_102 (pc := 77) (v := .ref 168) rfl dX9_view_77 (c_140 _) rfl ?_
            refine R_iload_n (pc := 80) dX9_view_80 rfl rfl ?_
            have hx11 : vp_in c 20 := (vp_of_inR (thM_r h1) (by decide))
            refine R_iaload (pc := 81) dX9_view_81 (c_168 _) hx11 ?_
            refine R_iadd (pc := 82) dX9_view_82 ?_
            have r12 : inR ((5 * c) + (σ.2.2.1 168 (Int32.toNatClampNeg c))) 0 100 := inR_add (show inR (5 * c) 0 95 from r9) (show inR (σ.2.2.1 168 (Int32.toNatClampNeg c)) 0 5 from (iva_168 hI _ (lt_of_vp hx5))) (by decide) (by decide)
            have e13 := ti_add (l := 0) (h := 100) (show inR (5 * c) 0 95 from r9) (show inR (σ.2.2.1 168 (Int32.toNatClampNeg c)) 0 5 from (iva_168 hI _ (lt_of_vp hx5))) (by decide) (by decide)
            refine R_iload_n (pc := 83) dX9_view_83 rfl rfl ?_
            have hx14 : vp_in ((5 * c) + (σ.2.2.1 168 (Int32.toNatClampNeg c))) 100 := (vp_ti (by have q0 := e10; have q1 := e13; have q2 := ti_ne b63_8; have q3 := ti_in (thM_r h1); have q4 := ti_in h3; have q5 := ti_in (iva_168 hI _ (lt_of_vp hx5)); have q6 := ti_in r9; have q7 := ti_in r12; have z0 : (0 : Int32).toInt = 0 := (by decide); have z1 : (1 : Int32).toInt = 1 := (by decide); have z2 : (100 : Int32).toInt = 100 := (by decide); have z3 : (168 : Int32).toInt = 168 := (by decide); have z4 : (19 : Int32).toInt = 19 := (by decide); have z5 : (5 : Int32).toInt = 5 := (by decide); have z6 : (7 : Int32).toInt = 7 := (by decide); have z7 : (95 : Int32).toInt = 95 := (by decide); omega) (by have q0 := e10; have q1 := e13; have q2 := ti_ne b63_8; have q3 := ti_in (thM_r h1); have q4 := ti_in h3; have q5 := ti_in (iva_168 hI _ (lt_of_vp hx5)); have q6 := ti_in r9; have q7 := ti_in r12; have z0 : (0 : Int32).toInt = 0 := (by decide); have z1 : (1 : Int32).toInt = 1 := (by decide); have z2 : (100 : Int32).toInt = 100 := (by decide); have z3 : (168 : Int32).toInt = 168 := (by decide); have z4 : (19 : Int32).toInt = 19 := (by decide); have z5 : (5 : Int32).toInt = 5 := (by decide); have z6 : (7 : Int32).toInt = 7 := (by decide); have z7 : (95 : Int32).toInt = 95 := (by decide); omega))
            refine W_iastore (pc := 84) dX9_view_84 (c_169 _) hx14 (a_169 _ _) ?_
            have hV15 := sa_169 hI (Int32.toNatClampNeg ((5 * c) + (σ.2.2.1 168 (Int32.toNatClampNeg c)))) h3
            have hW16 := cor_ca 169 (Int32.toNatClampNeg ((5 * c) + (σ.2.2.1 168 (Int32.toNatClampNeg c)))) l9 (show Cor σ σ from Cor.rfl' σ) rfl
            refine R_aload_n (pc := 85) dX9_view_85 rfl rfl ?_
            refine g_X9_102 (pc := 86) (v := .ref 168) rfl dX9_view_86 (c_140 _) rfl ?_
            refine R_iload_n (pc := 89) dX9_view_89 rfl rfl ?_
            refine R_dup2 (pc := 90) dX9_view_90 rfl rfl ?_
            have hx17 : vp_in c 20 := (vp_of_inR (thM_r h1) (by decide))
            refine W_iaload (pc := 91) (σ.2.2.1 168 (Int32.toNatClampNeg c)) dX9_view_91 (c_168 _) hx17 rfl ?_
            refine R_iconst (pc := 92) (v := 1) dX9_view_92 (by decide) ?_
            refine R_iadd (pc := 93) dX9_view_93 ?_
            have r18 : inR ((σ.2.2.1 168 (Int32.toNatClampNeg c)) + 1) 1 6 := inR_add (show inR (σ.2.2.1 168 (Int32.toNatClampNeg c)) 0 5 from (iva_168 hI _ (lt_of_vp hx5))) (show inR 1 1 1 from (inR_self _)) (by decide) (by decide)
            have e19 := ti_add (l := 1) (h := 6) (show inR (σ.2.2.1 168 (Int32.toNatClampNeg c)) 0 5 from (iva_168 hI _ (lt_of_vp hx5))) (show inR 1 1 1 from (inR_self _)) (by decide) (by decide)
            have hx20 : vp_in c 20 := (vp_of_inR (thM_r h1) (by decide))
            refine W_iastore (pc := 94) dX9_view_94 (c_168 _) hx20 (a_168 _ _) ?_
            have hV21 := sa_168 hV15 (Int32.toNatClampNeg c) (show inR ((σ.2.2.1 168 (Int32.toNatClampNeg c)) + 1) 0 5 from of_ti (by have q0 := e10; have q1 := e13; have q2 := e19; have q3 := ti_ne b63_8; have q4 := ti_in (thM_r h1); have q5 := ti_in h3; have q6 := ti_in (iva_168 hI _ (lt_of_vp hx5)); have q7 := ti_in r9; have q8 := ti_in r12; have q9 := ti_in r18; have z0 : (0 : Int32).toInt = 0 := (by decide); have z1 : (1 : Int32).toInt = 1 := (by decide); have z2 : (100 : Int32).toInt = 100 := (by decide); have z3 : (168 : Int32).toInt = 168 := (by decide); have z4 : (19 : Int32).toInt = 19 := (by decide); have z5 : (5 : Int32).toInt = 5 := (by decide); have z6 : (6 : Int32).toInt = 6 := (by decide); have z7 : (7 : Int32).toInt = 7 := (by decide); have z8 : (95 : Int32).toInt = 95 := (by decide); omega) (by have q0 := e10; have q1 := e13; have q2 := e19; have q3 := ti_ne b63_8; have q4 := ti_in (thM_r h1); have q5 := ti_in h3; have q6 := ti_in (iva_168 hI _ (lt_of_vp hx5)); have q7 := ti_in r9; have q8 := ti_in r12; have q9 := ti_in r18; have z0 : (0 : Int32).toInt = 0 := (by decide); have z1 : (1 : Int32).toInt = 1 := (by decide); have z2 : (100 : Int32).toInt = 100 := (by decide); have z3 : (168 : Int32).toInt = 168 := (by decide); have z4 : (19 : Int32).toInt = 19 := (by decide); have z5 : (5 : Int32).toInt = 5 := (by decide); have z6 : (6 : Int32).toInt = 6 := (by decide); have z7 : (7 : Int32).toInt = 7 := (by decide); have z8 : (95 : Int32).toInt = 95 := (by decide); omega))
            have hW22 := cor_ca 168 (Int32.toNatClampNeg c) ((σ.2.2.1 168 (Int32.toNatClampNeg c)) + 1) hW16 rfl
            refine R_aload_n (pc := 95) dX9_view_95 rfl rfl ?_
            refine g_X9_102 (pc := 96) (v := .ref 168) rfl dX9_view_96 (c_140 _) rfl ?_
            refine R_iload_n (pc := 99) dX9_view_99 rfl rfl ?_
            have hx23 : vp_in c 20 := (vp_of_inR (thM_r h1) (by decide))
            refine W_iaload (pc := 100) ((σ.2.2.1 168 (Int32.toNatClampNeg c)) + 1) dX9_view_100 (c_168 _) hx23 (upd_at _ _ _) ?_
            exact R_iret (pc := 101) dX9_view_101 rfl rfl (Nat.zero_le _) (Nat.zero_le _) ⟨_, rfl, (by first | (simp only [A_view, h1, inB_t h3, cond_true, cond_false, Bool.and_true, Bool.true_and, Bool.and_false, Bool.false_and, Bool.or_true, Bool.true_or, Bool.or_false, Bool.false_or, Bool.not_true, Bool.not_false, decide_true, decide_false, if_true, if_false, Bool.true_eq_false, Bool.false_eq_true]; done) | (simp only [A_view, h1, inB_t h3, (decide_eq_false b63_8), (inV_end hX23_0 (by omega) (by first | exact nI_eqe hX23_1 (by assumption) | exact nI_eq5 hX23_1 (iva_168 hI _ (clamp19 (thM_r h1))))), cond_true, cond_false, Bool.and_true, Bool.true_and, Bool.and_false, Bool.false_and, Bool.or_true, Bool.true_or, Bool.or_false, Bool.false_or, Bool.not_true, Bool.not_false, decide_true, decide_false, if_true, if_false, Bool.true_eq_false, Bool.false_eq_true]; done) | (simp only [A_view, h1, inB_t h3, b63_8, (decide_eq_false b63_8), (inV_end hX23_0 (by omega) (by first | exact nI_eqe hX23_1 (by assumption) | exact nI_eq5 hX23_1 (iva_168 hI _ (clamp19 (thM_r h1))))), cond_true, cond_false, Bool.and_true, Bool.true_and, Bool.and_false, Bool.false_and, Bool.or_true, Bool.true_or, Bool.or_false, Bool.false_or, Bool.not_true, Bool.not_false, decide_true, decide_false, if_true, if_false, Bool.true_eq_false, Bool.false_eq_true]; done) | (simp [A_view, h1, inB_t h3, b63_8, (decide_eq_false b63_8), (inV_end hX23_0 (by omega) (by first | exact nI_eqe hX23_1 (by assumption) | exact nI_eq5 hX23_1 (iva_168 hI _ (clamp19 (thM_r h1)))))]; done) | (simp only [A_view, h1, inB_t h3, cond_true, cond_false, Bool.and_true, Bool.true_and, Bool.and_false, Bool.false_and, Bool.or_true, Bool.true_or, Bool.or_false, Bool.false_or, Bool.not_true, Bool.not_false, decide_true, decide_false, if_true, if_false, Bool.true_eq_false, Bool.false_eq_true] <;> decide)), _, rfl, hV21, (by have e : (K_view (thM σ c) (inV (fun k => σ.2.2.1 169 (Int32.toNatClampNeg ((5 * c) + (nI k)))) l9 (Int32.toNatClampNeg (σ.2.2.1 168 (Int32.toNatClampNeg c)))) l9 (σ.2.2.1 168 (Int32.toNatClampNeg c))) = true := (by first | (simp only [K_view, h1, inB_t h3, cond_true, cond_false, Bool.and_true, Bool.true_and, Bool.and_false, Bool.false_and, Bool.or_true, Bool.true_or, Bool.or_false, Bool.false_or, Bool.not_true, Bool.not_false, decide_true, decide_false, if_true, if_false, Bool.true_eq_false, Bool.false_eq_true]; done) | (simp only [K_view, h1, inB_t h3, (decide_eq_false b63_8), (inV_end hX23_0 (by omega) (by first | exact nI_eqe hX23_1 (by assumption) | exact nI_eq5 hX23_1 (iva_168 hI _ (clamp19 (thM_r h1))))), cond_true, cond_false, Bool.and_true, Bool.true_and, Bool.and_false, Bool.false_and, Bool.or_true, Bool.true_or, Bool.or_false, Bool.false_or, Bool.not_true, Bool.not_false, decide_true, decide_false, if_true, if_false, Bool.true_eq_false, Bool.false_eq_true]; done) | (simp only [K_view, h1, inB_t h3, b63_8, (decide_eq_false b63_8), (inV_end hX23_0 (by omega) (by first | exact nI_eqe hX23_1 (by assumption) | exact nI_eq5 hX23_1 (iva_168 hI _ (clamp19 (thM_r h1))))), cond_true, cond_false, Bool.and_true, Bool.true_and, Bool.and_false, Bool.false_and, Bool.or_true, Bool.true_or, Bool.or_false, Bool.false_or, Bool.not_true, Bool.not_false, decide_true, decide_false, if_true, if_false, Bool.true_eq_false, Bool.false_eq_true]; done) | (simp [K_view, h1, inB_t h3, b63_8, (decide_eq_false b63_8), (inV_end hX23_0 (by omega) (by first | exact nI_eqe hX23_1 (by assumption) | exact nI_eq5 hX23_1 (iva_168 hI _ (clamp19 (thM_r h1)))))]; done) | (simp only [K_view, h1, inB_t h3, cond_true, cond_false, Bool.and_true, Bool.true_and, Bool.and_false, Bool.false_and, Bool.or_true, Bool.true_or, Bool.or_false, Bool.false_or, Bool.not_true, Bool.not_false, decide_true, decide_false, if_true, if_false, Bool.true_eq_false, Bool.false_eq_true] <;> decide)); rw [e]; exact hW22)⟩
          · skip
            refine R_bipush (pc := 66) (v := (-5)) dX9_view_66 (by decide) ?_
            exact R_iret (pc := 68) dX9_view_68 rfl rfl (Nat.zero_le _) (Nat.zero_le _) ⟨_, rfl, (by first | (simp only [A_view, h1, inB_t h3, cond_true, cond_false, Bool.and_true, Bool.true_and, Bool.and_false, Bool.false_and, Bool.or_true, Bool.true_or, Bool.or_false, Bool.false_or, Bool.not_true, Bool.not_false, decide_true, decide_false, if_true, if_false, Bool.true_eq_false, Bool.false_eq_true]; done) | (simp only [A_view, h1, inB_t h3, (decide_eq_true b63_8), (inV_end hX23_0 (by omega) (by first | exact nI_eqe hX23_1 (by assumption) | exact nI_eq5 hX23_1 (iva_168 hI _ (clamp19 (thM_r h1))))), cond_true, cond_false, Bool.and_true, Bool.true_and, Bool.and_false, Bool.false_and, Bool.or_true, Bool.true_or, Bool.or_false, Bool.false_or, Bool.not_true, Bool.not_false, decide_true, decide_false, if_true, if_false, Bool.true_eq_false, Bool.false_eq_true]; done) | (simp only [A_view, h1, inB_t h3, b63_8, (decide_eq_true b63_8), (inV_end hX23_0 (by omega) (by first | exact nI_eqe hX23_1 (by assumption) | exact nI_eq5 hX23_1 (iva_168 hI _ (clamp19 (thM_r h1))))), cond_true, cond_false, Bool.and_true, Bool.true_and, Bool.and_false, Bool.false_and, Bool.or_true, Bool.true_or, Bool.or_false, Bool.false_or, Bool.not_true, Bool.not_false, decide_true, decide_false, if_true, if_false, Bool.true_eq_false, Bool.false_eq_true]; done) | (simp [A_view, h1, inB_t h3, b63_8, (decide_eq_true b63_8), (inV_end hX23_0 (by omega) (by first | exact nI_eqe hX23_1 (by assumption) | exact nI_eq5 hX23_1 (iva_168 hI _ (clamp19 (thM_r h1)))))]; done) | (simp only [A_view, h1, inB_t h3, cond_true, cond_false, Bool.and_true, Bool.true_and, Bool.and_false, Bool.false_and, Bool.or_true, Bool.true_or, Bool.or_false, Bool.false_or, Bool.not_true, Bool.not_false, decide_true, decide_false, if_true, if_false, Bool.true_eq_false, Bool.false_eq_true] <;> decide)), _, rfl, hI, (by have e : (K_view (thM σ c) (inV (fun k => σ.2.2.1 169 (Int32.toNatClampNeg ((5 * c) + (nI k)))) l9 (Int32.toNatClampNeg (σ.2.2.1 168 (Int32.toNatClampNeg c)))) l9 (σ.2.2.1 168 (Int32.toNatClampNeg c))) = false := (by first | (simp only [K_view, h1, inB_t h3, cond_true, cond_false, Bool.and_true, Bool.true_and, Bool.and_false, Bool.false_and, Bool.or_true, Bool.true_or, Bool.or_false, Bool.false_or, Bool.not_true, Bool.not_false, decide_true, decide_false, if_true, if_false, Bool.true_eq_false, Bool.false_eq_true]; done) | (simp only [K_view, h1, inB_t h3, (decide_eq_true b63_8), (inV_end hX23_0 (by omega) (by first | exact nI_eqe hX23_1 (by assumption) | exact nI_eq5 hX23_1 (iva_168 hI _ (clamp19 (thM_r h1))))), cond_true, cond_false, Bool.and_true, Bool.true_and, Bool.and_false, Bool.false_and, Bool.or_true, Bool.true_or, Bool.or_false, Bool.false_or, Bool.not_true, Bool.not_false, decide_true, decide_false, if_true, if_false, Bool.true_eq_false, Bool.false_eq_true]; done) | (simp only [K_view, h1, inB_t h3, b63_8, (decide_eq_true b63_8), (inV_end hX23_0 (by omega) (by first | exact nI_eqe hX23_1 (by assumption) | exact nI_eq5 hX23_1 (iva_168 hI _ (clamp19 (thM_r h1))))), cond_true, cond_false, Bool.and_true, Bool.true_and, Bool.and_false, Bool.false_and, Bool.or_true, Bool.true_or, Bool.or_false, Bool.false_or, Bool.not_true, Bool.not_false, decide_true, decide_false, if_true, if_false, Bool.true_eq_false, Bool.false_eq_true]; done) | (simp [K_view, h1, inB_t h3, b63_8, (decide_eq_true b63_8), (inV_end hX23_0 (by omega) (by first | exact nI_eqe hX23_1 (by assumption) | exact nI_eq5 hX23_1 (iva_168 hI _ (clamp19 (thM_r h1)))))]; done) | (simp only [K_view, h1, inB_t h3, cond_true, cond_false, Bool.and_true, Bool.true_and, Bool.and_false, Bool.false_and, Bool.or_true, Bool.true_or, Bool.or_false, Bool.false_or, Bool.not_true, Bool.not_false, decide_true, decide_false, if_true, if_false, Bool.true_eq_false, Bool.false_eq_true] <;> decide)); rw [e]; exact (show Cor σ σ from Cor.rfl' σ))⟩
        | succ q ih23 =>
          intro j23 hj hs23 hX23_0 hX23_1
          have hrg23 : inR (nI j23) 0 4 := inR_ix hs23 (show j23 < 5 by omega) (by decide) (by decide) (by decide)
          have hlt23 : j23 < 5 := by omega
          refine R_iload_n (pc := 23) dX9_view_23 rfl rfl ?_
          refine R_aload_n (pc := 24) dX9_view_24 rfl rfl ?_
          refine g_X9_102 (pc := 25) (v := .ref 168) rfl dX9_view_25 (c_140 _) rfl ?_
          refine R_iload_n (pc := 28) dX9_view_28 rfl rfl ?_
          have hx24 : vp_in c 20 := (vp_of_inR (thM_r h1) (by decide))
          refine R_iaload (pc := 29) dX9_view_29 (c_168 _) hx24 ?_
          refine R_icge (pc := 30) 56 dX9_view_30 (by decide) (fun b30_25 => ?_) (fun b30_25 => ?_)
          · skip
            refine R_aload_n (pc := 56) dX9_view_56 rfl rfl ?_
            refine g_X9_102 (pc := 57) (v := .ref 168) rfl dX9_view_57 (c_140 _) rfl ?_
            refine R_iload_n (pc := 60) dX9_view_60 rfl rfl ?_
            have hx26 : vp_in c 20 := (vp_of_inR (thM_r h1) (by decide))
            refine R_iaload (pc := 61) dX9_view_61 (c_168 _) hx26 ?_
            refine R_iconst (pc := 62) (v := 5) dX9_view_62 (by decide) ?_
            refine R_icne (pc := 63) 69 dX9_view_63 (by decide) (fun b63_27 => ?_) (fun b63_27 => ?_)
            · skip
              refine R_aload_n (pc := 69) dX9_view_69 rfl rfl ?_
              refine g_X9_105 (pc := 70) (v := .ref 169) rfl dX9_view_70 (c_140 _) rfl ?_
              refine R_iconst (pc := 73) (v := 5) dX9_view_73 (by decide) ?_
              refine R_iload_n (pc := 74) dX9_view_74 rfl rfl ?_
              refine R_imul (pc := 75) dX9_view_75 ?_
              have r28 : inR (5 * c) 0 95 := inR_mulc (c := 5) (l := 0) (h := 95) 5 (by decide) (show inR c 0 19 from (thM_r h1)) (by decide) (by decide)
              have e29 := ti_mulc (c := 5) (l := 0) (h := 95) 5 (by decide) (show inR c 0 19 from (thM_r h1)) (by decide) (by decide)
              refine R_aload_n (pc := 76) dX9_view_76 rfl rfl ?_
              refine g_X9_102 (pc := 77) (v := .ref 168) rfl dX9_view_77 (c_140 _) rfl ?_
              refine R_iload_n (pc := 80) dX9_view_80 rfl rfl ?_
              have hx30 : vp_in c 20 := (vp_of_inR (thM_r h1) (by decide))
              refine R_iaload (pc := 81) dX9_view_81 (c_168 _) hx30 ?_
              refine R_iadd (pc := 82) dX9_view_82 ?_
              have r31 : inR ((5 * c) + (σ.2.2.1 168 (Int32.toNatClampNeg c))) 0 100 := inR_add (show inR (5 * c) 0 95 from r28) (show inR (σ.2.2.1 168 (Int32.toNatClampNeg c)) 0 5 from (iva_168 hI _ (lt_of_vp hx24))) (by decide) (by decide)
              have e32 := ti_add (l := 0) (h := 100) (show inR (5 * c) 0 95 from r28) (show inR (σ.2.2.1 168 (Int32.toNatClampNeg c)) 0 5 from (iva_168 hI _ (lt_of_vp hx24))) (by decide) (by decide)
              refine R_iload_n (pc := 83) dX9_view_83 rfl rfl ?_
              have hx33 : vp_in ((5 * c) + (σ.2.2.1 168 (Int32.toNatClampNeg c))) 100 := (vp_ti (by have q0 := e29; have q1 := e32; have q2 := ti_le b30_25; have q3 := ti_ne b63_27; have q4 := ti_in (thM_r h1); have q5 := ti_in h3; have q6 := ti_in hrg23; have q7 := ti_in (iva_168 hI _ (lt_of_vp hx24)); have q8 := ti_in r28; have q9 := ti_in r31; have z0 : (0 : Int32).toInt = 0 := (by decide); have z1 : (1 : Int32).toInt = 1 := (by decide); have z2 : (100 : Int32).toInt = 100 := (by decide); have z3 : (168 : Int32).toInt = 168 := (by decide); have z4 : (19 : Int32).toInt = 19 := (by decide); have z5 : (4 : Int32).toInt = 4 := (by decide); have z6 : (5 : Int32).toInt = 5 := (by decide); have z7 : (7 : Int32).toInt = 7 := (by decide); have z8 : (95 : Int32).toInt = 95 := (by decide); omega) (by have q0 := e29; have q1 := e32; have q2 := ti_le b30_25; have q3 := ti_ne b63_27; have q4 := ti_in (thM_r h1); have q5 := ti_in h3; have q6 := ti_in hrg23; have q7 := ti_in (iva_168 hI _ (lt_of_vp hx24)); have q8 := ti_in r28; have q9 := ti_in r31; have z0 : (0 : Int32).toInt = 0 := (by decide); have z1 : (1 : Int32).toInt = 1 := (by decide); have z2 : (100 : Int32).toInt = 100 := (by decide); have z3 : (168 : Int32).toInt = 168 := (by decide); have z4 : (19 : Int32).toInt = 19 := (by decide); have z5 : (4 : Int32).toInt = 4 := (by decide); have z6 : (5 : Int32).toInt = 5 := (by decide); have z7 : (7 : Int32).toInt = 7 := (by decide); have z8 : (95 : Int32).toInt = 95 := (by decide); omega))
              refine W_iastore (pc := 84) dX9_view_84 (c_169 _) hx33 (a_169 _ _) ?_
              have hV34 := sa_169 hI (Int32.toNatClampNeg ((5 * c) + (σ.2.2.1 168 (Int32.toNatClampNeg c)))) h3
              have hW35 := cor_ca 169 (Int32.toNatClampNeg ((5 * c) + (σ.2.2.1 168 (Int32.toNatClampNeg c)))) l9 (show Cor σ σ from Cor.rfl' σ) rfl
              refine R_aload_n (pc := 85) dX9_view_85 rfl rfl ?_
              refine g_X9_102 (pc := 86) (v := .ref 168) rfl dX9_view_86 (c_140 _) rfl ?_
              refine R_iload_n (pc := 89) dX9_view_89 rfl rfl ?_
              refine R_dup2 (pc := 90) dX9_view_90 rfl rfl ?_
              have hx36 : vp_in c 20 := (vp_of_inR (thM_r h1) (by decide))
              refine W_iaload (pc := 91) (σ.2.2.1 168 (Int32.toNatClampNeg c)) dX9_view_91 (c_168 _) hx36 rfl ?_
              refine R_iconst (pc := 92) (v := 1) dX9_view_92 (by decide) ?_
              refine R_iadd (pc := 93) dX9_view_93 ?_
              have r37 : inR ((σ.2.2.1 168 (Int32.toNatClampNeg c)) + 1) 1 6 := inR_add (show inR (σ.2.2.1 168 (Int32.toNatClampNeg c)) 0 5 from (iva_168 hI _ (lt_of_vp hx24))) (show inR 1 1 1 from (inR_self _)) (by decide) (by decide)
              have e38 := ti_add (l := 1) (h := 6) (show inR (σ.2.2.1 168 (Int32.toNatClampNeg c)) 0 5 from (iva_168 hI _ (lt_of_vp hx24))) (show inR 1 1 1 from (inR_self _)) (by decide) (by decide)
              have hx39 : vp_in c 20 := (vp_of_inR (thM_r h1) (by decide))
              refine W_iastore (pc := 94) dX9_view_94 (c_168 _) hx39 (a_168 _ _) ?_
              have hV40 := sa_168 hV34 (Int32.toNatClampNeg c) (show inR ((σ.2.2.1 168 (Int32.toNatClampNeg c)) + 1) 0 5 from of_ti (by have q0 := e29; have q1 := e32; have q2 := e38; have q3 := ti_le b30_25; have q4 := ti_ne b63_27; have q5 := ti_in (thM_r h1); have q6 := ti_in h3; have q7 := ti_in hrg23; have q8 := ti_in (iva_168 hI _ (lt_of_vp hx24)); have q9 := ti_in r28; have q10 := ti_in r31; have q11 := ti_in r37; have z0 : (0 : Int32).toInt = 0 := (by decide); have z1 : (1 : Int32).toInt = 1 := (by decide); have z2 : (100 : Int32).toInt = 100 := (by decide); have z3 : (168 : Int32).toInt = 168 := (by decide); have z4 : (19 : Int32).toInt = 19 := (by decide); have z5 : (4 : Int32).toInt = 4 := (by decide); have z6 : (5 : Int32).toInt = 5 := (by decide); have z7 : (6 : Int32).toInt = 6 := (by decide); have z8 : (7 : Int32).toInt = 7 := (by decide); have z9 : (95 : Int32).toInt = 95 := (by decide); omega) (by have q0 := e29; have q1 := e32; have q2 := e38; have q3 := ti_le b30_25; have q4 := ti_ne b63_27; have q5 := ti_in (thM_r h1); have q6 := ti_in h3; have q7 := ti_in hrg23; have q8 := ti_in (iva_168 hI _ (lt_of_vp hx24)); have q9 := ti_in r28; have q10 := ti_in r31; have q11 := ti_in r37; have z0 : (0 : Int32).toInt = 0 := (by decide); have z1 : (1 : Int32).toInt = 1 := (by decide); have z2 : (100 : Int32).toInt = 100 := (by decide); have z3 : (168 : Int32).toInt = 168 := (by decide); have z4 : (19 : Int32).toInt = 19 := (by decide); have z5 : (4 : Int32).toInt = 4 := (by decide); have z6 : (5 : Int32).toInt = 5 := (by decide); have z7 : (6 : Int32).toInt = 6 := (by decide); have z8 : (7 : Int32).toInt = 7 := (by decide); have z9 : (95 : Int32).toInt = 95 := (by decide); omega))
              have hW41 := cor_ca 168 (Int32.toNatClampNeg c) ((σ.2.2.1 168 (Int32.toNatClampNeg c)) + 1) hW35 rfl
              refine R_aload_n (pc := 95) dX9_view_95 rfl rfl ?_
              refine g_X9_102 (pc := 96) (v := .ref 168) rfl dX9_view_96 (c_140 _) rfl ?_
              refine R_iload_n (pc := 99) dX9_view_99 rfl rfl ?_
              have hx42 : vp_in c 20 := (vp_of_inR (thM_r h1) (by decide))
              refine W_iaload (pc := 100) ((σ.2.2.1 168 (Int32.toNatClampNeg c)) + 1) dX9_view_100 (c_168 _) hx42 (upd_at _ _ _) ?_
              exact R_iret (pc := 101) dX9_view_101 rfl rfl (Nat.zero_le _) (Nat.zero_le _) ⟨_, rfl, (by first | (simp only [A_view, h1, inB_t h3, cond_true, cond_false, Bool.and_true, Bool.true_and, Bool.and_false, Bool.false_and, Bool.or_true, Bool.true_or, Bool.or_false, Bool.false_or, Bool.not_true, Bool.not_false, decide_true, decide_false, if_true, if_false, Bool.true_eq_false, Bool.false_eq_true]; done) | (simp only [A_view, h1, inB_t h3, (decide_eq_false b63_27), (inV_end hX23_0 (by omega) (by first | exact nI_eqe hX23_1 (by assumption) | exact nI_eq5 hX23_1 (iva_168 hI _ (clamp19 (thM_r h1))))), cond_true, cond_false, Bool.and_true, Bool.true_and, Bool.and_false, Bool.false_and, Bool.or_true, Bool.true_or, Bool.or_false, Bool.false_or, Bool.not_true, Bool.not_false, decide_true, decide_false, if_true, if_false, Bool.true_eq_false, Bool.false_eq_true]; done) | (simp only [A_view, h1, inB_t h3, b30_25, b63_27, (decide_eq_false b63_27), (inV_end hX23_0 (by omega) (by first | exact nI_eqe hX23_1 (by assumption) | exact nI_eq5 hX23_1 (iva_168 hI _ (clamp19 (thM_r h1))))), cond_true, cond_false, Bool.and_true, Bool.true_and, Bool.and_false, Bool.false_and, Bool.or_true, Bool.true_or, Bool.or_false, Bool.false_or, Bool.not_true, Bool.not_false, decide_true, decide_false, if_true, if_false, Bool.true_eq_false, Bool.false_eq_true]; done) | (simp [A_view, h1, inB_t h3, b30_25, b63_27, (decide_eq_false b63_27), (inV_end hX23_0 (by omega) (by first | exact nI_eqe hX23_1 (by assumption) | exact nI_eq5 hX23_1 (iva_168 hI _ (clamp19 (thM_r h1)))))]; done) | (simp only [A_view, h1, inB_t h3, cond_true, cond_false, Bool.and_true, Bool.true_and, Bool.and_false, Bool.false_and, Bool.or_true, Bool.true_or, Bool.or_false, Bool.false_or, Bool.not_true, Bool.not_false, decide_true, decide_false, if_true, if_false, Bool.true_eq_false, Bool.false_eq_true] <;> decide)), _, rfl, hV40, (by have e : (K_view (thM σ c) (inV (fun k => σ.2.2.1 169 (Int32.toNatClampNeg ((5 * c) + (nI k)))) l9 (Int32.toNatClampNeg (σ.2.2.1 168 (Int32.toNatClampNeg c)))) l9 (σ.2.2.1 168 (Int32.toNatClampNeg c))) = true := (by first | (simp only [K_view, h1, inB_t h3, cond_true, cond_false, Bool.and_true, Bool.true_and, Bool.and_false, Bool.false_and, Bool.or_true, Bool.true_or, Bool.or_false, Bool.false_or, Bool.not_true, Bool.not_false, decide_true, decide_false, if_true, if_false, Bool.true_eq_false, Bool.false_eq_true]; done) | (simp only [K_view, h1, inB_t h3, (decide_eq_false b63_27), (inV_end hX23_0 (by omega) (by first | exact nI_eqe hX23_1 (by assumption) | exact nI_eq5 hX23_1 (iva_168 hI _ (clamp19 (thM_r h1))))), cond_true, cond_false, Bool.and_true, Bool.true_and, Bool.and_false, Bool.false_and, Bool.or_true, Bool.true_or, Bool.or_false, Bool.false_or, Bool.not_true, Bool.not_false, decide_true, decide_false, if_true, if_false, Bool.true_eq_false, Bool.false_eq_true]; done) | (simp only [K_view, h1, inB_t h3, b30_25, b63_27, (decide_eq_false b63_27), (inV_end hX23_0 (by omega) (by first | exact nI_eqe hX23_1 (by assumption) | exact nI_eq5 hX23_1 (iva_168 hI _ (clamp19 (thM_r h1))))), cond_true, cond_false, Bool.and_true, Bool.true_and, Bool.and_false, Bool.false_and, Bool.or_true, Bool.true_or, Bool.or_false, Bool.false_or, Bool.not_true, Bool.not_false, decide_true, decide_false, if_true, if_false, Bool.true_eq_false, Bool.false_eq_true]; done) | (simp [K_view, h1, inB_t h3, b30_25, b63_27, (decide_eq_false b63_27), (inV_end hX23_0 (by omega) (by first | exact nI_eqe hX23_1 (by assumption) | exact nI_eq5 hX23_1 (iva_168 hI _ (clamp19 (thM_r h1)))))]; done) | (simp only [K_view, h1, inB_t h3, cond_true, cond_false, Bool.and_true, Bool.true_and, Bool.and_false, Bool.false_and, Bool.or_true, Bool.true_or, Bool.or_false, Bool.false_or, Bool.not_true, Bool.not_false, decide_true, decide_false, if_true, if_false, Bool.true_eq_false, Bool.false_eq_true] <;> decide)); rw [e]; exact hW41)⟩
            · skip
              refine R_bipush (pc := 66) (v := (-5)) dX9_view_66 (by decide) ?_
              exact R_iret (pc := 68) dX9_view_68 rfl rfl (Nat.zero_le _) (Nat.zero_le _) ⟨_, rfl, (by first | (simp only [A_view, h1, inB_t h3, cond_true, cond_false, Bool.and_true, Bool.true_and, Bool.and_false, Bool.false_and, Bool.or_true, Bool.true_or, Bool.or_false, Bool.false_or, Bool.not_true, Bool.not_false, decide_true, decide_false, if_true, if_false, Bool.true_eq_false, Bool.false_eq_true]; done) | (simp only [A_view, h1, inB_t h3, (decide_eq_true b63_27), (inV_end hX23_0 (by omega) (by first | exact nI_eqe hX23_1 (by assumption) | exact nI_eq5 hX23_1 (iva_168 hI _ (clamp19 (thM_r h1))))), cond_true, cond_false, Bool.and_true, Bool.true_and, Bool.and_false, Bool.false_and, Bool.or_true, Bool.true_or, Bool.or_false, Bool.false_or, Bool.not_true, Bool.not_false, decide_true, decide_false, if_true, if_false, Bool.true_eq_false, Bool.false_eq_true]; done) | (simp only [A_view, h1, inB_t h3, b30_25, b63_27, (decide_eq_true b63_27), (inV_end hX23_0 (by omega) (by first | exact nI_eqe hX23_1 (by assumption) | exact nI_eq5 hX23_1 (iva_168 hI _ (clamp19 (thM_r h1))))), cond_true, cond_false, Bool.and_true, Bool.true_and, Bool.and_false, Bool.false_and, Bool.or_true, Bool.true_or, Bool.or_false, Bool.false_or, Bool.not_true, Bool.not_false, decide_true, decide_false, if_true, if_false, Bool.true_eq_false, Bool.false_eq_true]; done) | (simp [A_view, h1, inB_t h3, b30_25, b63_27, (decide_eq_true b63_27), (inV_end hX23_0 (by omega) (by first | exact nI_eqe hX23_1 (by assumption) | exact nI_eq5 hX23_1 (iva_168 hI _ (clamp19 (thM_r h1)))))]; done) | (simp only [A_view, h1, inB_t h3, cond_true, cond_false, Bool.and_true, Bool.true_and, Bool.and_false, Bool.false_and, Bool.or_true, Bool.true_or, Bool.or_false, Bool.false_or, Bool.not_true, Bool.not_false, decide_true, decide_false, if_true, if_false, Bool.true_eq_false, Bool.false_eq_true] <;> decide)), _, rfl, hI, (by have e : (K_view (thM σ c) (inV (fun k => σ.2.2.1 169 (Int32.toNatClampNeg ((5 * c) + (nI k)))) l9 (Int32.toNatClampNeg (σ.2.2.1 168 (Int32.toNatClampNeg c)))) l9 (σ.2.2.1 168 (Int32.toNatClampNeg c))) = false := (by first | (simp only [K_view, h1, inB_t h3, cond_true, cond_false, Bool.and_true, Bool.true_and, Bool.and_false, Bool.false_and, Bool.or_true, Bool.true_or, Bool.or_false, Bool.false_or, Bool.not_true, Bool.not_false, decide_true, decide_false, if_true, if_false, Bool.true_eq_false, Bool.false_eq_true]; done) | (simp only [K_view, h1, inB_t h3, (decide_eq_true b63_27), (inV_end hX23_0 (by omega) (by first | exact nI_eqe hX23_1 (by assumption) | exact nI_eq5 hX23_1 (iva_168 hI _ (clamp19 (thM_r h1))))), cond_true, cond_false, Bool.and_true, Bool.true_and, Bool.and_false, Bool.false_and, Bool.or_true, Bool.true_or, Bool.or_false, Bool.false_or, Bool.not_true, Bool.not_false, decide_true, decide_false, if_true, if_false, Bool.true_eq_false, Bool.false_eq_true]; done) | (simp only [K_view, h1, inB_t h3, b30_25, b63_27, (decide_eq_true b63_27), (inV_end hX23_0 (by omega) (by first | exact nI_eqe hX23_1 (by assumption) | exact nI_eq5 hX23_1 (iva_168 hI _ (clamp19 (thM_r h1))))), cond_true, cond_false, Bool.and_true, Bool.true_and, Bool.and_false, Bool.false_and, Bool.or_true, Bool.true_or, Bool.or_false, Bool.false_or, Bool.not_true, Bool.not_false, decide_true, decide_false, if_true, if_false, Bool.true_eq_false, Bool.false_eq_true]; done) | (simp [K_view, h1, inB_t h3, b30_25, b63_27, (decide_eq_true b63_27), (inV_end hX23_0 (by omega) (by first | exact nI_eqe hX23_1 (by assumption) | exact nI_eq5 hX23_1 (iva_168 hI _ (clamp19 (thM_r h1)))))]; done) | (simp only [K_view, h1, inB_t h3, cond_true, cond_false, Bool.and_true, Bool.true_and, Bool.and_false, Bool.false_and, Bool.or_true, Bool.true_or, Bool.or_false, Bool.false_or, Bool.not_true, Bool.not_false, decide_true, decide_false, if_true, if_false, Bool.true_eq_false, Bool.false_eq_true] <;> decide)); rw [e]; exact (show Cor σ σ from Cor.rfl' σ))⟩
          · skip
            refine R_aload_n (pc := 33) dX9_view_33 rfl rfl ?_
            refine g_X9_105 (pc := 34) (v := .ref 169) rfl dX9_view_34 (c_140 _) rfl ?_
            refine R_iconst (pc := 37) (v := 5) dX9_view_37 (by decide) ?_
            refine R_iload_n (pc := 38) dX9_view_38 rfl rfl ?_
            refine R_imul (pc := 39) dX9_view_39 ?_
            have r43 : inR (5 * c) 0 95 := inR_mulc (c := 5) (l := 0) (h := 95) 5 (by decide) (show inR c 0 19 from (thM_r h1)) (by decide) (by decide)
            have e44 := ti_mulc (c := 5) (l := 0) (h := 95) 5 (by decide) (show inR c 0 19 from (thM_r h1)) (by decide) (by decide)
            refine R_iload_n (pc := 40) dX9_view_40 rfl rfl ?_
            refine R_iadd (pc := 41) dX9_view_41 ?_
            have r45 : inR ((5 * c) + (nI j23)) 0 99 := inR_add (show inR (5 * c) 0 95 from r43) (show inR (nI j23) 0 4 from hrg23) (by decide) (by decide)
            have e46 := ti_add (l := 0) (h := 99) (show inR (5 * c) 0 95 from r43) (show inR (nI j23) 0 4 from hrg23) (by decide) (by decide)
            have hx47 : vp_in ((5 * c) + (nI j23)) 100 := (vp_of_inR r45 (by decide))
            refine R_iaload (pc := 42) dX9_view_42 (c_169 _) hx47 ?_
            refine R_iload_n (pc := 43) dX9_view_43 rfl rfl ?_
            refine R_icne (pc := 44) 50 dX9_view_44 (by decide) (fun b44_48 => ?_) (fun b44_48 => ?_)
            · skip
              refine inc_4_3_1_i (pc := 50) dX9_view_50 ?_
              have r49 : inR ((nI j23) + 1) 1 5 := inR_add (show inR (nI j23) 0 4 from hrg23) (show inR 1 1 1 from (inR_self _)) (by decide) (by decide)
              have e50 := ti_add (l := 1) (h := 5) (show inR (nI j23) 0 4 from hrg23) (show inR 1 1 1 from (inR_self _)) (by decide) (by decide)
              refine R_goto (pc := 53) 23 dX9_view_53 (by decide) ?_
              rw [nI_1]
              exact ih23 (j23 + 1) (by omega) (by omega) (inV_s (f := (fun k => σ.2.2.1 169 (Int32.toNatClampNeg ((5 * c) + (nI k))))) hX23_0 b44_48) (nI_sle (by omega) b30_25)
            · skip
              refine R_bipush (pc := 47) (v := (-4)) dX9_view_47 (by decide) ?_
              exact R_iret (pc := 49) dX9_view_49 rfl rfl (Nat.zero_le _) (Nat.zero_le _) ⟨_, rfl, (by first | (simp only [A_view, h1, inB_t h3, cond_true, cond_false, Bool.and_true, Bool.true_and, Bool.and_false, Bool.false_and, Bool.or_true, Bool.true_or, Bool.or_false, Bool.false_or, Bool.not_true, Bool.not_false, decide_true, decide_false, if_true, if_false, Bool.true_eq_false, Bool.false_eq_true]; done) | (simp only [A_view, h1, inB_t h3, (inV_mono (inV_t (f := (fun k => σ.2.2.1 169 (Int32.toNatClampNeg ((5 * c) + (nI k))))) b44_48) _ (nI_slt (by omega) b30_25)), cond_true, cond_false, Bool.and_true, Bool.true_and, Bool.and_false, Bool.false_and, Bool.or_true, Bool.true_or, Bool.or_false, Bool.false_or, Bool.not_true, Bool.not_false, decide_true, decide_false, if_true, if_false, Bool.true_eq_false, Bool.false_eq_true]; done) | (simp only [A_view, h1, inB_t h3, b30_25, b44_48, (inV_mono (inV_t (f := (fun k => σ.2.2.1 169 (Int32.toNatClampNeg ((5 * c) + (nI k))))) b44_48) _ (nI_slt (by omega) b30_25)), cond_true, cond_false, Bool.and_true, Bool.true_and, Bool.and_false, Bool.false_and, Bool.or_true, Bool.true_or, Bool.or_false, Bool.false_or, Bool.not_true, Bool.not_false, decide_true, decide_false, if_true, if_false, Bool.true_eq_false, Bool.false_eq_true]; done) | (simp [A_view, h1, inB_t h3, b30_25, b44_48, (inV_mono (inV_t (f := (fun k => σ.2.2.1 169 (Int32.toNatClampNeg ((5 * c) + (nI k))))) b44_48) _ (nI_slt (by omega) b30_25))]; done) | (simp only [A_view, h1, inB_t h3, cond_true, cond_false, Bool.and_true, Bool.true_and, Bool.and_false, Bool.false_and, Bool.or_true, Bool.true_or, Bool.or_false, Bool.false_or, Bool.not_true, Bool.not_false, decide_true, decide_false, if_true, if_false, Bool.true_eq_false, Bool.false_eq_true] <;> decide)), _, rfl, hI, (by have e : (K_view (thM σ c) (inV (fun k => σ.2.2.1 169 (Int32.toNatClampNeg ((5 * c) + (nI k)))) l9 (Int32.toNatClampNeg (σ.2.2.1 168 (Int32.toNatClampNeg c)))) l9 (σ.2.2.1 168 (Int32.toNatClampNeg c))) = false := (by first | (simp only [K_view, h1, inB_t h3, cond_true, cond_false, Bool.and_true, Bool.true_and, Bool.and_false, Bool.false_and, Bool.or_true, Bool.true_or, Bool.or_false, Bool.false_or, Bool.not_true, Bool.not_false, decide_true, decide_false, if_true, if_false, Bool.true_eq_false, Bool.false_eq_true]; done) | (simp only [K_view, h1, inB_t h3, (inV_mono (inV_t (f := (fun k => σ.2.2.1 169 (Int32.toNatClampNeg ((5 * c) + (nI k))))) b44_48) _ (nI_slt (by omega) b30_25)), cond_true, cond_false, Bool.and_true, Bool.true_and, Bool.and_false, Bool.false_and, Bool.or_true, Bool.true_or, Bool.or_false, Bool.false_or, Bool.not_true, Bool.not_false, decide_true, decide_false, if_true, if_false, Bool.true_eq_false, Bool.false_eq_true]; done) | (simp only [K_view, h1, inB_t h3, b30_25, b44_48, (inV_mono (inV_t (f := (fun k => σ.2.2.1 169 (Int32.toNatClampNeg ((5 * c) + (nI k))))) b44_48) _ (nI_slt (by omega) b30_25)), cond_true, cond_false, Bool.and_true, Bool.true_and, Bool.and_false, Bool.false_and, Bool.or_true, Bool.true_or, Bool.or_false, Bool.false_or, Bool.not_true, Bool.not_false, decide_true, decide_false, if_true, if_false, Bool.true_eq_false, Bool.false_eq_true]; done) | (simp [K_view, h1, inB_t h3, b30_25, b44_48, (inV_mono (inV_t (f := (fun k => σ.2.2.1 169 (Int32.toNatClampNeg ((5 * c) + (nI k))))) b44_48) _ (nI_slt (by omega) b30_25))]; done) | (simp only [K_view, h1, inB_t h3, cond_true, cond_false, Bool.and_true, Bool.true_and, Bool.and_false, Bool.false_and, Bool.or_true, Bool.true_or, Bool.or_false, Bool.false_or, Bool.not_true, Bool.not_false, decide_true, decide_false, if_true, if_false, Bool.true_eq_false, Bool.false_eq_true] <;> decide)); rw [e]; exact (show Cor σ σ from Cor.rfl' σ))⟩
      exact HL23 5 0 (by omega) (by omega) rfl (show (0 : Int32) ≤ (σ.2.2.1 168 (Int32.toNatClampNeg c)) from Int32.not_lt.mp (iva_168 hI _ (clamp19 (thM_r h1))).1)
    · skip
      refine R_ifne (pc := 15) 21 dX9_view_15 (by decide) (fun h => absurd (by decide) h) (fun _ => ?_)
      refine R_bipush (pc := 18) (v := (-2)) dX9_view_18 (by decide) ?_
      exact R_iret (pc := 20) dX9_view_20 rfl rfl (Nat.zero_le _) (Nat.zero_le _) ⟨_, rfl, (by first | (simp only [A_view, h1, inB_f h3, cond_true, cond_false, Bool.and_true, Bool.true_and, Bool.and_false, Bool.false_and, Bool.or_true, Bool.true_or, Bool.or_false, Bool.false_or, Bool.not_true, Bool.not_false, decide_true, decide_false, if_true, if_false, Bool.true_eq_false, Bool.false_eq_true]; done) | (simp [A_view, h1, inB_f h3]; done) | (simp only [A_view, h1, inB_f h3, cond_true, cond_false, Bool.and_true, Bool.true_and, Bool.and_false, Bool.false_and, Bool.or_true, Bool.true_or, Bool.or_false, Bool.false_or, Bool.not_true, Bool.not_false, decide_true, decide_false, if_true, if_false, Bool.true_eq_false, Bool.false_eq_true] <;> decide)), _, rfl, hI, (by have e : (K_view (thM σ c) (inV (fun k => σ.2.2.1 169 (Int32.toNatClampNeg ((5 * c) + (nI k)))) l9 (Int32.toNatClampNeg (σ.2.2.1 168 (Int32.toNatClampNeg c)))) l9 (σ.2.2.1 168 (Int32.toNatClampNeg c))) = false := (by first | (simp only [K_view, h1, inB_f h3, cond_true, cond_false, Bool.and_true, Bool.true_and, Bool.and_false, Bool.false_and, Bool.or_true, Bool.true_or, Bool.or_false, Bool.false_or, Bool.not_true, Bool.not_false, decide_true, decide_false, if_true, if_false, Bool.true_eq_false, Bool.false_eq_true]; done) | (simp [K_view, h1, inB_f h3]; done) | (simp only [K_view, h1, inB_f h3, cond_true, cond_false, Bool.and_true, Bool.true_and, Bool.and_false, Bool.false_and, Bool.or_true, Bool.true_or, Bool.or_false, Bool.false_or, Bool.not_true, Bool.not_false, decide_true, decide_false, if_true, if_false, Bool.true_eq_false, Bool.false_eq_true] <;> decide)); rw [e]; exact (show Cor σ σ from Cor.rfl' σ))⟩
  · skip
    refine R_ifeq (pc := 5) 18 dX9_view_5 (by decide) (fun _ => ?_) (fun h => absurd (by decide) h)
    refine R_bipush (pc := 18) (v := (-2)) dX9_view_18 (by decide) ?_
    exact R_iret (pc := 20) dX9_view_20 rfl rfl (Nat.zero_le _) (Nat.zero_le _) ⟨_, rfl, (by first | (simp only [A_view, h1, cond_true, cond_false, Bool.and_true, Bool.true_and, Bool.and_false, Bool.false_and, Bool.or_true, Bool.true_or, Bool.or_false, Bool.false_or, Bool.not_true, Bool.not_false, decide_true, decide_false, if_true, if_false, Bool.true_eq_false, Bool.false_eq_true]; done) | (simp [A_view, h1]; done) | (simp only [A_view, h1, cond_true, cond_false, Bool.and_true, Bool.true_and, Bool.and_false, Bool.false_and, Bool.or_true, Bool.true_or, Bool.or_false, Bool.false_or, Bool.not_true, Bool.not_false, decide_true, decide_false, if_true, if_false, Bool.true_eq_false, Bool.false_eq_true] <;> decide)), _, rfl, hI, (by have e : (K_view (thM σ c) (inV (fun k => σ.2.2.1 169 (Int32.toNatClampNeg ((5 * c) + (nI k)))) l9 (Int32.toNatClampNeg (σ.2.2.1 168 (Int32.toNatClampNeg c)))) l9 (σ.2.2.1 168 (Int32.toNatClampNeg c))) = false := (by first | (simp only [K_view, h1, cond_true, cond_false, Bool.and_true, Bool.true_and, Bool.and_false, Bool.false_and, Bool.or_true, Bool.true_or, Bool.or_false, Bool.false_or, Bool.not_true, Bool.not_false, decide_true, decide_false, if_true, if_false, Bool.true_eq_false, Bool.false_eq_true]; done) | (simp [K_view, h1]; done) | (simp only [K_view, h1, cond_true, cond_false, Bool.and_true, Bool.true_and, Bool.and_false, Bool.false_and, Bool.or_true, Bool.true_or, Bool.or_false, Bool.false_or, Bool.not_true, Bool.not_false, decide_true, decide_false, if_true, if_false, Bool.true_eq_false, Bool.false_eq_true] <;> decide)); rw [e]; exact (show Cor σ σ from Cor.rfl' σ))⟩
def E_X9_write (σ : Sg) (p : Int64) (n : Int32) : Sg := (uI (uA σ 170 (wrT (σ.2.2.1 170) (σ.1 14037) p n.toNatClampNeg)) 14037 ((σ.1 14037) + n))
set_option maxRecDepth 100000 in
set_option maxHeartbeats 40000000 in
theorem ge_X9_write {G : vG} {l : Launch} (σ : Sg) (p : Int64) (n : Int32) (hI : Inv σ) : Sp G l yX9_write cX9_write 5 (some .int) 1 0 0 [.ref 140, .long p, .int n] (WW σ) (QI (fun x w2 => x = A_write n (σ.1 14037) ∧ ∃ σ2, w2 = WW σ2 ∧ Inv σ2 ∧ Cor (bif K_write n (σ.1 14037) then (E_X9_write σ p n) else σ) σ2)) := by
  refine Sp_of_R [(some (.ref 140)), (some (.long p)), none, (some (.int n)), none] [none] rfl (by simp) rfl (Nat.le_of_ble_eq_true rfl) ?_
  refine R_iload_n (pc := 0) dX9_write_0 rfl rfl ?_
  refine R_iconst (pc := 1) (v := 1) dX9_write_1 (by decide) ?_
  refine R_bipush (pc := 2) (v := 8) dX9_write_2 (by decide) ?_
  refine k_X9_124 (pc := 4) (sp_X9_in _ _ _ _) rfl (by decide) (Nat.le_refl _) (Nat.le_refl _) (Nat.le_of_ble_eq_true rfl) dX9_write_4 (fun x w2 h => ?_)
  rcases h with ⟨rfl, ⟨h1, rfl⟩ | ⟨h1, rfl⟩⟩
  · skip
    refine R_ifne (pc := 7) 13 dX9_write_7 (by decide) (fun _ => ?_) (fun h => absurd h (by decide))
    refine R_aload_n (pc := 13) dX9_write_13 rfl rfl ?_
    refine g_X9_254 (pc := 14) (v := .int (σ.1 14037)) rfl dX9_write_14 (c_140 _) rfl ?_
    refine R_iload_n (pc := 17) dX9_write_17 rfl rfl ?_
    refine R_iadd (pc := 18) dX9_write_18 ?_
    have r3 : inR ((σ.1 14037) + n) 1 168 := inR_add (show inR (σ.1 14037) 0 160 from (iv_14037 hI)) (show inR n 1 8 from h1) (by decide) (by decide)
    have e4 := ti_add (l := 1) (h := 168) (show inR (σ.1 14037) 0 160 from (iv_14037 hI)) (show inR n 1 8 from h1) (by decide) (by decide)
    refine R_sipush (pc := 19) (v := 160) dX9_write_19 (by decide) ?_
    refine R_icle (pc := 22) 28 dX9_write_22 (by decide) (fun b22_5 => ?_) (fun b22_5 => ?_)
    · skip
      refine R_iconst (pc := 28) (v := 0) dX9_write_28 (by decide) ?_
      refine st_5_4_i_i (pc := 29) dX9_write_29 ?_
      have HL31 : ∀ (q j31 : Nat) (σ31 : Sg), j31 + q = 8 → 0 ≤ j31 → Inv σ31 → σ31.1 14037 = σ.1 14037 → Cor (uA σ 170 (wrT (σ.2.2.1 170) (σ.1 14037) p j31)) σ31 → nI j31 ≤ n → R G l yX9_write cX9_write 5 (some .int) 1 0 0 (QI (fun x w2 => x = A_write n (σ.1 14037) ∧ ∃ σ2, w2 = WW σ2 ∧ Inv σ2 ∧ Cor (bif K_write n (σ.1 14037) then (E_X9_write σ p n) else σ) σ2)) 31 [(some (.ref 140)), (some (.long p)), none, (some (.int n)), (some (.int (nI j31)))] [] (WW σ31) 0 0 := by
        intro q
        induction q with
        | zero =>
          intro j31 σ31 hj hs31 hI31 hk31_14037 hX31_0 hX31_1
          obtain rfl : j31 = 8 := by omega
          refine R_iload (pc := 31) dX9_write_31 rfl ?_
          refine R_iload_n (pc := 33) dX9_write_33 rfl rfl ?_
          refine R_icge (pc := 34) 67 dX9_write_34 (by decide) (fun _ => ?_) (fun h => absurd (Int32.not_lt.mp (inR_up h1 (Int32.le_refl _) (by decide)).2) h)
          refine R_aload_n (pc := 67) dX9_write_67 rfl rfl ?_
          refine R_dup (pc := 68) dX9_write_68 rfl ?_
          refine g_X9_254 (pc := 69) (v := .int (σ.1 14037)) rfl dX9_write_69 (c_140 _) (by show some (Value.int (σ31.1 14037)) = _; rw [hX31_0.1 14037 rfl]) ?_
          refine R_iload_n (pc := 72) dX9_write_72 rfl rfl ?_
          refine R_iadd (pc := 73) dX9_write_73 ?_
          have r7 : inR ((σ.1 14037) + n) 1 168 := inR_add (show inR (σ.1 14037) 0 160 from (iv_14037 hI)) (show inR n 1 8 from h1) (by decide) (by decide)
          have e8 := ti_add (l := 1) (h := 168) (show inR (σ.1 14037) 0 160 from (iv_14037 hI)) (show inR n 1 8 from h1) (by decide) (by decide)
          refine p_X9_254 (pc := 74) rfl dX9_write_74 (c_140 _) (Nat.le_of_ble_eq_true rfl) rfl rfl (s_140_37 _ _) ?_
          have hV9 := su_14037 hI31 (show inR ((σ.1 14037) + n) 0 160 from of_ti (by have q0 := e4; have q1 := ti_eq hk31_14037; have q2 := e8; have q3 := ti_le b22_5; have q4 := ti_in h1; have q5 := ti_in (iv_14037 hI); have q6 := ti_in r7; have z0 : (0 : Int32).toInt = 0 := (by decide); have z1 : (1 : Int32).toInt = 1 := (by decide); have z2 : (14037 : Int32).toInt = 14037 := (by decide); have z3 : (160 : Int32).toInt = 160 := (by decide); have z4 : (168 : Int32).toInt = 168 := (by decide); have z5 : (8 : Int32).toInt = 8 := (by decide); omega) (by have q0 := e4; have q1 := ti_eq hk31_14037; have q2 := e8; have q3 := ti_le b22_5; have q4 := ti_in h1; have q5 := ti_in (iv_14037 hI); have q6 := ti_in r7; have z0 : (0 : Int32).toInt = 0 := (by decide); have z1 : (1 : Int32).toInt = 1 := (by decide); have z2 : (14037 : Int32).toInt = 14037 := (by decide); have z3 : (160 : Int32).toInt = 160 := (by decide); have z4 : (168 : Int32).toInt = 168 := (by decide); have z5 : (8 : Int32).toInt = 8 := (by decide); omega))
          have hW10 := cor_ci 14037 ((σ.1 14037) + n) hX31_0
          refine R_aload_n (pc := 77) dX9_write_77 rfl rfl ?_
          refine g_X9_254 (pc := 78) (v := .int ((σ.1 14037) + n)) rfl dX9_write_78 (c_140 _) rfl ?_
          exact R_iret (pc := 81) dX9_write_81 rfl rfl (Nat.zero_le _) (Nat.zero_le _) ⟨_, rfl, (by first | (simp only [A_write, inB_t h1, cond_true, cond_false, Bool.and_true, Bool.true_and, Bool.and_false, Bool.false_and, Bool.or_true, Bool.true_or, Bool.or_false, Bool.false_or, Bool.not_true, Bool.not_false, decide_true, decide_false, if_true, if_false, Bool.true_eq_false, Bool.false_eq_true]; done) | (simp only [A_write, inB_t h1, b22_5, cond_true, cond_false, Bool.and_true, Bool.true_and, Bool.and_false, Bool.false_and, Bool.or_true, Bool.true_or, Bool.or_false, Bool.false_or, Bool.not_true, Bool.not_false, decide_true, decide_false, if_true, if_false, Bool.true_eq_false, Bool.false_eq_true]; done) | (simp [A_write, inB_t h1, b22_5]; done) | (simp only [A_write, inB_t h1, cond_true, cond_false, Bool.and_true, Bool.true_and, Bool.and_false, Bool.false_and, Bool.or_true, Bool.true_or, Bool.or_false, Bool.false_or, Bool.not_true, Bool.not_false, decide_true, decide_false, if_true, if_false, Bool.true_eq_false, Bool.false_eq_true] <;> decide)), _, rfl, hV9, (by have e : (K_write n (σ.1 14037)) = true := (by first | (simp only [K_write, inB_t h1, cond_true, cond_false, Bool.and_true, Bool.true_and, Bool.and_false, Bool.false_and, Bool.or_true, Bool.true_or, Bool.or_false, Bool.false_or, Bool.not_true, Bool.not_false, decide_true, decide_false, if_true, if_false, Bool.true_eq_false, Bool.false_eq_true]; done) | (simp only [K_write, inB_t h1, b22_5, cond_true, cond_false, Bool.and_true, Bool.true_and, Bool.and_false, Bool.false_and, Bool.or_true, Bool.true_or, Bool.or_false, Bool.false_or, Bool.not_true, Bool.not_false, decide_true, decide_false, if_true, if_false, Bool.true_eq_false, Bool.false_eq_true]; done) | (simp [K_write, inB_t h1, b22_5]; done) | (simp only [K_write, inB_t h1, cond_true, cond_false, Bool.and_true, Bool.true_and, Bool.and_false, Bool.false_and, Bool.or_true, Bool.true_or, Bool.or_false, Bool.false_or, Bool.not_true, Bool.not_false, decide_true, decide_false, if_true, if_false, Bool.true_eq_false, Bool.false_eq_true] <;> decide)); rw [e]; exact (cor_eq (show E_X9_write σ p n = (uI (uA σ 170 (wrT (σ.2.2.1 170) (σ.1 14037) p 8)) 14037 ((σ.1 14037) + n)) from by unfold E_X9_write; rw [(show n.toNatClampNeg = 8 from jn_of (by omega) (by first | exact nI_eqe hX31_1 (by assumption) | exact nI_eq8 hX31_1 (inR_up h1 (by decide) (by decide))))]) hW10))⟩
        | succ q ih31 =>
          intro j31 σ31 hj hs31 hI31 hk31_14037 hX31_0 hX31_1
          have hrg31 : inR (nI j31) 0 7 := inR_ix hs31 (show j31 < 8 by omega) (by decide) (by decide) (by decide)
          have hlt31 : j31 < 8 := by omega
          refine R_iload (pc := 31) dX9_write_31 rfl ?_
          refine R_iload_n (pc := 33) dX9_write_33 rfl rfl ?_
          refine R_icge (pc := 34) 67 dX9_write_34 (by decide) (fun b34_11 => ?_) (fun b34_11 => ?_)
          · skip
            refine R_aload_n (pc := 67) dX9_write_67 rfl rfl ?_
            refine R_dup (pc := 68) dX9_write_68 rfl ?_
            refine g_X9_254 (pc := 69) (v := .int (σ.1 14037)) rfl dX9_write_69 (c_140 _) (by show some (Value.int (σ31.1 14037)) = _; rw [hX31_0.1 14037 rfl]) ?_
            refine R_iload_n (pc := 72) dX9_write_72 rfl rfl ?_
            refine R_iadd (pc := 73) dX9_write_73 ?_
            have r12 : inR ((σ.1 14037) + n) 1 168 := inR_add (show inR (σ.1 14037) 0 160 from (iv_14037 hI)) (show inR n 1 8 from h1) (by decide) (by decide)
            have e13 := ti_add (l := 1) (h := 168) (show inR (σ.1 14037) 0 160 from (iv_14037 hI)) (show inR n 1 8 from h1) (by decide) (by decide)
            refine p_X9_254 (pc := 74) rfl dX9_write_74 (c_140 _) (Nat.le_of_ble_eq_true rfl) rfl rfl (s_140_37 _ _) ?_
            have hV14 := su_14037 hI31 (show inR ((σ.1 14037) + n) 0 160 from of_ti (by have q0 := e4; have q1 := ti_eq hk31_14037; have q2 := e13; have q3 := ti_le b22_5; have q4 := ti_le b34_11; have q5 := ti_in h1; have q6 := ti_in (iv_14037 hI); have q7 := ti_in r12; have q8 := ti_in hrg31; have z0 : (0 : Int32).toInt = 0 := (by decide); have z1 : (1 : Int32).toInt = 1 := (by decide); have z2 : (14037 : Int32).toInt = 14037 := (by decide); have z3 : (160 : Int32).toInt = 160 := (by decide); have z4 : (168 : Int32).toInt = 168 := (by decide); have z5 : (7 : Int32).toInt = 7 := (by decide); have z6 : (8 : Int32).toInt = 8 := (by decide); omega) (by have q0 := e4; have q1 := ti_eq hk31_14037; have q2 := e13; have q3 := ti_le b22_5; have q4 := ti_le b34_11; have q5 := ti_in h1; have q6 := ti_in (iv_14037 hI); have q7 := ti_in r12; have q8 := ti_in hrg31; have z0 : (0 : Int32).toInt = 0 := (by decide); have z1 : (1 : Int32).toInt = 1 := (by decide); have z2 : (14037 : Int32).toInt = 14037 := (by decide); have z3 : (160 : Int32).toInt = 160 := (by decide); have z4 : (168 : Int32).toInt = 168 := (by decide); have z5 : (7 : Int32).toInt = 7 := (by decide); have z6 : (8 : Int32).toInt = 8 := (by decide); omega))
            have hW15 := cor_ci 14037 ((σ.1 14037) + n) hX31_0
            refine R_aload_n (pc := 77) dX9_write_77 rfl rfl ?_
            refine g_X9_254 (pc := 78) (v := .int ((σ.1 14037) + n)) rfl dX9_write_78 (c_140 _) rfl ?_
            exact R_iret (pc := 81) dX9_write_81 rfl rfl (Nat.zero_le _) (Nat.zero_le _) ⟨_, rfl, (by first | (simp only [A_write, inB_t h1, cond_true, cond_false, Bool.and_true, Bool.true_and, Bool.and_false, Bool.false_and, Bool.or_true, Bool.true_or, Bool.or_false, Bool.false_or, Bool.not_true, Bool.not_false, decide_true, decide_false, if_true, if_false, Bool.true_eq_false, Bool.false_eq_true]; done) | (simp only [A_write, inB_t h1, b22_5, b34_11, cond_true, cond_false, Bool.and_true, Bool.true_and, Bool.and_false, Bool.false_and, Bool.or_true, Bool.true_or, Bool.or_false, Bool.false_or, Bool.not_true, Bool.not_false, decide_true, decide_false, if_true, if_false, Bool.true_eq_false, Bool.false_eq_true]; done) | (simp [A_write, inB_t h1, b22_5, b34_11]; done) | (simp only [A_write, inB_t h1, cond_true, cond_false, Bool.and_true, Bool.true_and, Bool.and_false, Bool.false_and, Bool.or_true, Bool.true_or, Bool.or_false, Bool.false_or, Bool.not_true, Bool.not_false, decide_true, decide_false, if_true, if_false, Bool.true_eq_false, Bool.false_eq_true] <;> decide)), _, rfl, hV14, (by have e : (K_write n (σ.1 14037)) = true := (by first | (simp only [K_write, inB_t h1, cond_true, cond_false, Bool.and_true, Bool.true_and, Bool.and_false, Bool.false_and, Bool.or_true, Bool.true_or, Bool.or_false, Bool.false_or, Bool.not_true, Bool.not_false, decide_true, decide_false, if_true, if_false, Bool.true_eq_false, Bool.false_eq_true]; done) | (simp only [K_write, inB_t h1, b22_5, b34_11, cond_true, cond_false, Bool.and_true, Bool.true_and, Bool.and_false, Bool.false_and, Bool.or_true, Bool.true_or, Bool.or_false, Bool.false_or, Bool.not_true, Bool.not_false, decide_true, decide_false, if_true, if_false, Bool.true_eq_false, Bool.false_eq_true]; done) | (simp [K_write, inB_t h1, b22_5, b34_11]; done) | (simp only [K_write, inB_t h1, cond_true, cond_false, Bool.and_true, Bool.true_and, Bool.and_false, Bool.false_and, Bool.or_true, Bool.true_or, Bool.or_false, Bool.false_or, Bool.not_true, Bool.not_false, decide_true, decide_false, if_true, if_false, Bool.true_eq_false, Bool.false_eq_true] <;> decide)); rw [e]; exact (cor_eq (show E_X9_write σ p n = (uI (uA σ 170 (wrT (σ.2.2.1 170) (σ.1 14037) p j31)) 14037 ((σ.1 14037) + n)) from by unfold E_X9_write; rw [(show n.toNatClampNeg = j31 from jn_of (by omega) (by first | exact nI_eqe hX31_1 (by assumption) | exact nI_eq8 hX31_1 (inR_up h1 (by decide) (by decide))))]) hW15))⟩
          · skip
            refine R_aload_n (pc := 37) dX9_write_37 rfl rfl ?_
            refine g_X9_108 (pc := 38) (v := .ref 170) rfl dX9_write_38 (c_140 _) rfl ?_
            refine R_aload_n (pc := 41) dX9_write_41 rfl rfl ?_
            refine g_X9_254 (pc := 42) (v := .int (σ.1 14037)) rfl dX9_write_42 (c_140 _) (by show some (Value.int (σ31.1 14037)) = _; rw [hX31_0.1 14037 rfl]) ?_
            refine R_iload (pc := 45) dX9_write_45 rfl ?_
            refine R_iadd (pc := 47) dX9_write_47 ?_
            have r16 : inR ((σ.1 14037) + (nI j31)) 0 167 := inR_add (show inR (σ.1 14037) 0 160 from (iv_14037 hI)) (show inR (nI j31) 0 7 from hrg31) (by decide) (by decide)
            have e17 := ti_add (l := 0) (h := 167) (show inR (σ.1 14037) 0 160 from (iv_14037 hI)) (show inR (nI j31) 0 7 from hrg31) (by decide) (by decide)
            refine R_lload_n (pc := 48) dX9_write_48 rfl rfl ?_
            refine R_bipush (pc := 49) (v := 8) dX9_write_49 (by decide) ?_
            refine R_iload (pc := 51) dX9_write_51 rfl ?_
            refine R_imul (pc := 53) dX9_write_53 ?_
            have r18 : inR (8 * (nI j31)) 0 56 := inR_mulc (c := 8) (l := 0) (h := 56) 8 (by decide) (show inR (nI j31) 0 7 from hrg31) (by decide) (by decide)
            have e19 := ti_mulc (c := 8) (l := 0) (h := 56) 8 (by decide) (show inR (nI j31) 0 7 from hrg31) (by decide) (by decide)
            refine R_lshr (pc := 54) dX9_write_54 ?_
            refine R_ldc2 (pc := 55) w_1004c dX9_write_55 ?_
            refine R_land (pc := 58) dX9_write_58 ?_
            refine R_l2i (pc := 59) dX9_write_59 ?_
            have hx20 : vp_in ((σ.1 14037) + (nI j31)) 160 := (vp_ti (by have q0 := e4; have q1 := ti_eq hk31_14037; have q2 := e17; have q3 := e19; have q4 := ti_le b22_5; have q5 := ti_nle b34_11; have q6 := ti_in h1; have q7 := ti_in (iv_14037 hI); have q8 := ti_in r3; have q9 := ti_in hrg31; have q10 := ti_in r16; have q11 := ti_in r18; have z0 : (0 : Int32).toInt = 0 := (by decide); have z1 : (1 : Int32).toInt = 1 := (by decide); have z2 : (14037 : Int32).toInt = 14037 := (by decide); have z3 : (160 : Int32).toInt = 160 := (by decide); have z4 : (167 : Int32).toInt = 167 := (by decide); have z5 : (168 : Int32).toInt = 168 := (by decide); have z6 : (56 : Int32).toInt = 56 := (by decide); have z7 : (7 : Int32).toInt = 7 := (by decide); have z8 : (8 : Int32).toInt = 8 := (by decide); omega) (by have q0 := e4; have q1 := ti_eq hk31_14037; have q2 := e17; have q3 := e19; have q4 := ti_le b22_5; have q5 := ti_nle b34_11; have q6 := ti_in h1; have q7 := ti_in (iv_14037 hI); have q8 := ti_in r3; have q9 := ti_in hrg31; have q10 := ti_in r16; have q11 := ti_in r18; have z0 : (0 : Int32).toInt = 0 := (by decide); have z1 : (1 : Int32).toInt = 1 := (by decide); have z2 : (14037 : Int32).toInt = 14037 := (by decide); have z3 : (160 : Int32).toInt = 160 := (by decide); have z4 : (167 : Int32).toInt = 167 := (by decide); have z5 : (168 : Int32).toInt = 168 := (by decide); have z6 : (56 : Int32).toInt = 56 := (by decide); have z7 : (7 : Int32).toInt = 7 := (by decide); have z8 : (8 : Int32).toInt = 8 := (by decide); omega))
            refine W_iastore (pc := 60) dX9_write_60 (c_170 _) hx20 (a_170 _ _) ?_
            have hW21 := cor_ca 170 (Int32.toNatClampNeg ((σ.1 14037) + (nI j31))) (Int64.toInt32 ((p >>> (Int32.toInt64 (8 * (nI j31)) &&& 63)) &&& 255)) hX31_0 rfl
            refine inc_5_4_1_i (pc := 61) dX9_write_61 ?_
            have r22 : inR ((nI j31) + 1) 1 8 := inR_add (show inR (nI j31) 0 7 from hrg31) (show inR 1 1 1 from (inR_self _)) (by decide) (by decide)
            have e23 := ti_add (l := 1) (h := 8) (show inR (nI j31) 0 7 from hrg31) (show inR 1 1 1 from (inR_self _)) (by decide) (by decide)
            refine R_goto (pc := 64) 31 dX9_write_64 (by decide) ?_
            rw [nI_1]
            exact ih31 (j31 + 1) _ (by omega) (by omega) hI31 hk31_14037 (show Cor (uA σ 170 (wrT (σ.2.2.1 170) (σ.1 14037) p (j31 + 1))) _ from cor_uu hW21) (nI_sle (by omega) b34_11)
      exact HL31 8 0 _ (by omega) (by omega) hI rfl (cor_u0 170 (show Cor σ σ from Cor.rfl' σ)) (show (0 : Int32) ≤ n from le0_of1 h1)
    · skip
      refine R_bipush (pc := 25) (v := (-5)) dX9_write_25 (by decide) ?_
      exact R_iret (pc := 27) dX9_write_27 rfl rfl (Nat.zero_le _) (Nat.zero_le _) ⟨_, rfl, (by first | (simp only [A_write, inB_t h1, cond_true, cond_false, Bool.and_true, Bool.true_and, Bool.and_false, Bool.false_and, Bool.or_true, Bool.true_or, Bool.or_false, Bool.false_or, Bool.not_true, Bool.not_false, decide_true, decide_false, if_true, if_false, Bool.true_eq_false, Bool.false_eq_true]; done) | (simp only [A_write, inB_t h1, b22_5, cond_true, cond_false, Bool.and_true, Bool.true_and, Bool.and_false, Bool.false_and, Bool.or_true, Bool.true_or, Bool.or_false, Bool.false_or, Bool.not_true, Bool.not_false, decide_true, decide_false, if_true, if_false, Bool.true_eq_false, Bool.false_eq_true]; done) | (simp [A_write, inB_t h1, b22_5]; done) | (simp only [A_write, inB_t h1, cond_true, cond_false, Bool.and_true, Bool.true_and, Bool.and_false, Bool.false_and, Bool.or_true, Bool.true_or, Bool.or_false, Bool.false_or, Bool.not_true, Bool.not_false, decide_true, decide_false, if_true, if_false, Bool.true_eq_false, Bool.false_eq_true] <;> decide)), _, rfl, hI, (by have e : (K_write n (σ.1 14037)) = false := (by first | (simp only [K_write, inB_t h1, cond_true, cond_false, Bool.and_true, Bool.true_and, Bool.and_false, Bool.false_and, Bool.or_true, Bool.true_or, Bool.or_false, Bool.false_or, Bool.not_true, Bool.not_false, decide_true, decide_false, if_true, if_false, Bool.true_eq_false, Bool.false_eq_true]; done) | (simp only [K_write, inB_t h1, b22_5, cond_true, cond_false, Bool.and_true, Bool.true_and, Bool.and_false, Bool.false_and, Bool.or_true, Bool.true_or, Bool.or_false, Bool.false_or, Bool.not_true, Bool.not_false, decide_true, decide_false, if_true, if_false, Bool.true_eq_false, Bool.false_eq_true]; done) | (simp [K_write, inB_t h1, b22_5]; done) | (simp only [K_write, inB_t h1, cond_true, cond_false, Bool.and_true, Bool.true_and, Bool.and_false, Bool.false_and, Bool.or_true, Bool.true_or, Bool.or_false, Bool.false_or, Bool.not_true, Bool.not_false, decide_true, decide_false, if_true, if_false, Bool.true_eq_false, Bool.false_eq_true] <;> decide)); rw [e]; exact (show Cor σ σ from Cor.rfl' σ))⟩
  · skip
    refine R_ifne (pc := 7) 13 dX9_write_7 (by decide) (fun h => absurd (by decide) h) (fun _ => ?_)
    refine R_bipush (pc := 10) (v := (-3)) dX9_write_10 (by decide) ?_
    exact R_iret (pc := 12) dX9_write_12 rfl rfl (Nat.zero_le _) (Nat.zero_le _) ⟨_, rfl, (by first | (simp only [A_write, inB_f h1, cond_true, cond_false, Bool.and_true, Bool.true_and, Bool.and_false, Bool.false_and, Bool.or_true, Bool.true_or, Bool.or_false, Bool.false_or, Bool.not_true, Bool.not_false, decide_true, decide_false, if_true, if_false, Bool.true_eq_false, Bool.false_eq_true]; done) | (simp [A_write, inB_f h1]; done) | (simp only [A_write, inB_f h1, cond_true, cond_false, Bool.and_true, Bool.true_and, Bool.and_false, Bool.false_and, Bool.or_true, Bool.true_or, Bool.or_false, Bool.false_or, Bool.not_true, Bool.not_false, decide_true, decide_false, if_true, if_false, Bool.true_eq_false, Bool.false_eq_true] <;> decide)), _, rfl, hI, (by have e : (K_write n (σ.1 14037)) = false := (by first | (simp only [K_write, inB_f h1, cond_true, cond_false, Bool.and_true, Bool.true_and, Bool.and_false, Bool.false_and, Bool.or_true, Bool.true_or, Bool.or_false, Bool.false_or, Bool.not_true, Bool.not_false, decide_true, decide_false, if_true, if_false, Bool.true_eq_false, Bool.false_eq_true]; done) | (simp [K_write, inB_f h1]; done) | (simp only [K_write, inB_f h1, cond_true, cond_false, Bool.and_true, Bool.true_and, Bool.and_false, Bool.false_and, Bool.or_true, Bool.true_or, Bool.or_false, Bool.false_or, Bool.not_true, Bool.not_false, decide_true, decide_false, if_true, if_false, Bool.true_eq_false, Bool.false_eq_true] <;> decide)); rw [e]; exact (show Cor σ σ from Cor.rfl' σ))⟩
def E_X9_erase (σ : Sg)  : Sg := (uI σ 14037 0)
set_option maxRecDepth 100000 in
set_option maxHeartbeats 40000000 in
theorem ge_X9_erase {G : vG} {l : Launch} (σ : Sg)  (hI : Inv σ) : Sp G l yX9_erase cX9_erase 2 (some .int) 0 0 0 [.ref 140] (WW σ) (QI (fun x w2 => x = (σ.1 14037) ∧ ∃ σ2, w2 = WW σ2 ∧ Inv σ2 ∧ Cor (E_X9_erase σ) σ2)) := by
  refine Sp_of_R [(some (.ref 140)), none] [none] rfl (by simp) rfl (Nat.le_of_ble_eq_true rfl) ?_
  refine R_aload_n (pc := 0) dX9_erase_0 rfl rfl ?_
  refine g_X9_254 (pc := 1) (v := .int (σ.1 14037)) rfl dX9_erase_1 (c_140 _) rfl ?_
  refine st_2_1_i_a (pc := 4) dX9_erase_4 ?_
  refine R_aload_n (pc := 5) dX9_erase_5 rfl rfl ?_
  refine R_iconst (pc := 6) (v := 0) dX9_erase_6 (by decide) ?_
  refine p_X9_254 (pc := 7) rfl dX9_erase_7 (c_140 _) (Nat.le_of_ble_eq_true rfl) rfl rfl (s_140_37 _ _) ?_
  have hV1 := su_14037 hI (show inR 0 0 160 from ⟨by decide, by decide⟩)
  have hW2 := cor_ci 14037 0 (show Cor σ σ from Cor.rfl' σ)
  refine R_iload_n (pc := 10) dX9_erase_10 rfl rfl ?_
  exact R_iret (pc := 11) dX9_erase_11 rfl rfl (Nat.zero_le _) (Nat.zero_le _) ⟨_, rfl, rfl, _, rfl, hV1, hW2⟩
set_option maxRecDepth 100000 in
set_option maxHeartbeats 40000000 in
theorem ge_X9_catalogue {G : vG} {l : Launch} (σ : Sg)  (hI : Inv σ) : Sp G l yX9_catalogue cX9_catalogue 2 (some .int) 5 0 0 [.ref 140] (WW σ) (QI (fun _ w2 => ∃ σ2, w2 = WW σ2 ∧ Inv σ2 ∧ (Cor σ σ2 ∨ ∃ f n, Cor (uI (uA σ 172 f) 14047 n) σ2))) := by
  refine Sp_of_R [(some (.ref 140)), none] [none] rfl (by simp) rfl (Nat.le_of_ble_eq_true rfl) ?_
  refine R_aload_n (pc := 0) dX9_catalogue_0 rfl rfl ?_
  refine k_X9_315 (pc := 1) (gx_X9_isRead _ hI) rfl (c_140 _) (by decide) (Nat.le_refl _) (Nat.le_refl _) (Nat.le_of_ble_eq_true rfl) dX9_catalogue_1 (fun x w2 h => ?_)
  obtain ⟨hb, σx2, rfl, hV1, hW4, hr3⟩ := h
  have hW5 := Cor.trans (show Cor σ σ from Cor.rfl' σ) hW4
  rcases hb with rfl | rfl
  · skip
    refine R_ifne (pc := 4) 10 dX9_catalogue_4 (by decide) (fun _ => ?_) (fun h => absurd h (by decide))
    refine R_iconst (pc := 10) (v := 0) dX9_catalogue_10 (by decide) ?_
    refine st_2_1_i_a (pc := 11) dX9_catalogue_11 ?_
    have HL12 : ∀ (q j12 : Nat) (σ12 : Sg), j12 + q = 48 → 0 ≤ j12 → Inv σ12 → σ12.1 14045 = σx2.1 14045 → (∃ f, Cor (uA σ 172 f) σ12) → R G l yX9_catalogue cX9_catalogue 2 (some .int) 5 0 0 (QI (fun _ w2 => ∃ σ2, w2 = WW σ2 ∧ Inv σ2 ∧ (Cor σ σ2 ∨ ∃ f n, Cor (uI (uA σ 172 f) 14047 n) σ2))) 12 [(some (.ref 140)), (some (.int (nI j12)))] [] (WW σ12) 0 0 := by
      intro q
      induction q with
      | zero =>
        intro j12 σ12 hj hs12 hI12 hk12_14045 hX12_0
        obtain rfl : j12 = 48 := by omega
        obtain ⟨fL, hL9⟩ := hX12_0
        refine R_iload_n (pc := 12) dX9_catalogue_12 rfl rfl ?_
        refine R_bipush (pc := 13) (v := 48) dX9_catalogue_13 (by decide) ?_
        refine R_icge (pc := 15) 36 dX9_catalogue_15 (by decide) (fun _ => ?_) (fun h => absurd (by decide) h)
        refine R_aload_n (pc := 36) dX9_catalogue_36 rfl rfl ?_
        refine R_aload_n (pc := 37) dX9_catalogue_37 rfl rfl ?_
        refine g_X9_309 (pc := 38) (v := .int (σ12.1 14045)) rfl dX9_catalogue_38 (c_140 _) rfl ?_
        refine p_X9_215 (pc := 41) rfl dX9_catalogue_41 (c_140 _) (Nat.le_of_ble_eq_true rfl) rfl rfl (s_140_47 _ _) ?_
        have hV8 := su_14047 hI12 (show inR (σ12.1 14045) 0 8 from of_ti (by have q0 := ti_eq hk12_14045; have q1 := ti_in hr3; have z0 : (0 : Int32).toInt = 0 := (by decide); have z1 : (1 : Int32).toInt = 1 := (by decide); have z2 : (8 : Int32).toInt = 8 := (by decide); omega) (by have q0 := ti_eq hk12_14045; have q1 := ti_in hr3; have z0 : (0 : Int32).toInt = 0 := (by decide); have z1 : (1 : Int32).toInt = 1 := (by decide); have z2 : (8 : Int32).toInt = 8 := (by decide); omega))
        have hW9 := cor_ci 14047 (σ12.1 14045) hL9
        refine R_aload_n (pc := 44) dX9_catalogue_44 rfl rfl ?_
        refine g_X9_215 (pc := 45) (v := .int (σ12.1 14045)) rfl dX9_catalogue_45 (c_140 _) rfl ?_
        exact R_iret (pc := 48) dX9_catalogue_48 rfl rfl (Nat.zero_le _) (Nat.zero_le _) ⟨_, rfl, _, rfl, hV8, Or.inr ⟨_, _, hW9⟩⟩
      | succ q ih12 =>
        intro j12 σ12 hj hs12 hI12 hk12_14045 hX12_0
        have hrg12 : inR (nI j12) 0 47 := inR_ix hs12 (show j12 < 48 by omega) (by decide) (by decide) (by decide)
        have hlt12 : j12 < 48 := by omega
        obtain ⟨fL, hL9⟩ := hX12_0
        refine R_iload_n (pc := 12) dX9_catalogue_12 rfl rfl ?_
        refine R_bipush (pc := 13) (v := 48) dX9_catalogue_13 (by decide) ?_
        refine R_icge (pc := 15) 36 dX9_catalogue_15 (by decide) (fun h => False.elim (by have q1 := ti_le h; have q2 := ti_in (show inR (nI j12) 0 47 from hrg12); have q3 := ti_in (show inR 48 48 48 from (inR_self _)); have z0 : (0 : Int32).toInt = 0 := (by decide);  have z1 : (47 : Int32).toInt = 47 := (by decide);  have z2 : (48 : Int32).toInt = 48 := (by decide); omega)) (fun _ => ?_)
        refine R_aload_n (pc := 18) dX9_catalogue_18 rfl rfl ?_
        refine g_X9_114 (pc := 19) (v := .ref 172) rfl dX9_catalogue_19 (c_140 _) rfl ?_
        refine R_iload_n (pc := 22) dX9_catalogue_22 rfl rfl ?_
        refine R_aload_n (pc := 23) dX9_catalogue_23 rfl rfl ?_
        refine g_X9_111 (pc := 24) (v := .ref 171) rfl dX9_catalogue_24 (c_140 _) rfl ?_
        refine R_iload_n (pc := 27) dX9_catalogue_27 rfl rfl ?_
        have hx11 : vp_in (nI j12) 48 := (vp_in_nI (by omega) (by decide))
        refine R_iaload (pc := 28) dX9_catalogue_28 (c_171 _) hx11 ?_
        have hx12 : vp_in (nI j12) 48 := (vp_in_nI (by omega) (by decide))
        refine W_iastore (pc := 29) dX9_catalogue_29 (c_172 _) hx12 (a_172 _ _) ?_
        have hW13 := cor_ca 172 (Int32.toNatClampNeg (nI j12)) (σ12.2.2.1 171 (Int32.toNatClampNeg (nI j12))) hL9 rfl
        refine inc_2_1_1_a (pc := 30) dX9_catalogue_30 ?_
        have r14 : inR ((nI j12) + 1) 1 48 := inR_add (show inR (nI j12) 0 47 from hrg12) (show inR 1 1 1 from (inR_self _)) (by decide) (by decide)
        have e15 := ti_add (l := 1) (h := 48) (show inR (nI j12) 0 47 from hrg12) (show inR 1 1 1 from (inR_self _)) (by decide) (by decide)
        refine R_goto (pc := 33) 12 dX9_catalogue_33 (by decide) ?_
        rw [nI_1]
        exact ih12 (j12 + 1) _ (by omega) (by omega) hI12 hk12_14045 ⟨_, cor_uu hW13⟩
    exact HL12 48 0 _ (by omega) (by omega) hV1 rfl ⟨_, cor_u0 172 hW5⟩
  · skip
    refine R_ifne (pc := 4) 10 dX9_catalogue_4 (by decide) (fun h => absurd (by decide) h) (fun _ => ?_)
    refine R_bipush (pc := 7) (v := (-4)) dX9_catalogue_7 (by decide) ?_
    exact R_iret (pc := 9) dX9_catalogue_9 rfl rfl (Nat.zero_le _) (Nat.zero_le _) ⟨_, rfl, _, rfl, hV1, Or.inl hW5⟩
