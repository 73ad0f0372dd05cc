/-! methods on any state that keeps the invariant -/
theorem cor_eq {ρ ρ2 σ : Sg} (e : ρ = ρ2) (h : Cor ρ2 σ) : Cor ρ σ := by rw [e]; exact h
theorem le0_of1 {n M : Int32} (h : inR n 1 M) : (0 : Int32) ≤ n := by
  have h1 := ti_in h
  have z : (1 : Int32).toInt = 1 := by decide
  have z0 : (0 : Int32).toInt = 0 := by decide
  exact Int32.le_iff_toInt_le.mpr (by omega)
theorem jn_of {j : Nat} {n : Int32} (hj : j < 100) (e : nI j = n) : n.toNatClampNeg = j := by rw [← e, nI_clamp (by omega)]
theorem inV_end {f : Nat → Int32} {l : Int32} {j : Nat} {n : Int32} (h : inV f l j = false) (hj : j < 100) (e : nI j = n) : inV f l n.toNatClampNeg = false := by rw [jn_of hj e]; exact h
theorem nI_p {j : Nat} (h : 1 ≤ j) : nI j - 1 = nI (j - 1) := by
  obtain ⟨k, rfl⟩ : ∃ k, j = k + 1 := ⟨j - 1, by omega⟩
  exact nI_pred k
theorem nI_eq20 {n : Int32} (h1 : nI 20 ≤ n) (h2 : inR n 0 20) : nI 20 = n := Int32.le_antisymm h1 (Int32.not_lt.mp h2.2)
theorem nI_eq5 {n : Int32} (h1 : nI 5 ≤ n) (h2 : inR n 0 5) : nI 5 = n := Int32.le_antisymm h1 (Int32.not_lt.mp h2.2)
def E_X8_days (σ : Sg) (a : Int32) : Sg := (uI σ 111 ((σ.1 111) + a))
set_option maxRecDepth 100000 in
set_option maxHeartbeats 40000000 in
theorem ge_X8_days {G : vG} {l : Launch} (σ : Sg) (a : Int32) (hI : Inv σ) : Sp G l yX8_days cX8_days 2 (some .int) 1 0 0 [.ref 0, .int a] (WW σ) (QI (fun x w2 => x = A_days (σ.1 111) a ∧ ∃ σ2, w2 = WW σ2 ∧ Inv σ2 ∧ Cor (bif K_days (σ.1 111) a then (E_X8_days σ a) else σ) σ2)) := by
  refine Sp_of_R [(some (.ref 0)), (some (.int a))] [] rfl (by simp) rfl (Nat.le_of_ble_eq_true rfl) ?_
  refine R_iload_n (pc := 0) dX8_days_0 rfl rfl ?_
  refine R_iconst (pc := 1) (v := 1) dX8_days_1 (by decide) ?_
  refine R_bipush (pc := 2) (v := 99) dX8_days_2 (by decide) ?_
  refine k_X8_72 (pc := 4) (sp_X8_isWithin _ _ _ _) rfl (by decide) (Nat.le_refl _) (Nat.le_refl _) (Nat.le_of_ble_eq_true rfl) dX8_days_4 (fun x w2 h => ?_)
  rcases h with ⟨rfl, ⟨h1, rfl⟩ | ⟨h1, rfl⟩⟩
  · skip
    refine R_ifeq (pc := 7) 25 dX8_days_7 (by decide) (fun h => absurd h (by decide)) (fun _ => ?_)
    refine R_aload_n (pc := 10) dX8_days_10 rfl rfl ?_
    refine g_X8_10 (pc := 11) (v := .ref 1) rfl dX8_days_11 (c_0 _) rfl ?_
    refine g_X8_109 (pc := 14) (v := .int (σ.1 111)) rfl dX8_days_14 (c_1 _) rfl ?_
    refine R_iload_n (pc := 17) dX8_days_17 rfl rfl ?_
    refine R_iadd (pc := 18) dX8_days_18 ?_
    refine R_sipush (pc := 19) (v := 999) dX8_days_19 (by decide) ?_
    refine R_icle (pc := 22) 28 dX8_days_22 (by decide) (fun b22_3 => ?_) (fun b22_3 => ?_)
    · skip
      refine R_aload_n (pc := 28) dX8_days_28 rfl rfl ?_
      refine g_X8_10 (pc := 29) (v := .ref 1) rfl dX8_days_29 (c_0 _) rfl ?_
      refine R_dup (pc := 32) dX8_days_32 rfl ?_
      refine g_X8_109 (pc := 33) (v := .int (σ.1 111)) rfl dX8_days_33 (c_1 _) rfl ?_
      refine R_iload_n (pc := 36) dX8_days_36 rfl rfl ?_
      refine R_iadd (pc := 37) dX8_days_37 ?_
      refine p_X8_109 (pc := 38) rfl dX8_days_38 (c_1 _) (Nat.le_of_ble_eq_true rfl) rfl rfl (s_1_11 _ _) ?_
      have hW4 := cor_ci 111 ((σ.1 111) + a) (show Cor σ σ from Cor.rfl' σ)
      refine R_aload_n (pc := 41) dX8_days_41 rfl rfl ?_
      refine g_X8_10 (pc := 42) (v := .ref 1) rfl dX8_days_42 (c_0 _) rfl ?_
      refine g_X8_109 (pc := 45) (v := .int ((σ.1 111) + a)) rfl dX8_days_45 (c_1 _) rfl ?_
      exact R_iret (pc := 48) dX8_days_48 rfl rfl (Nat.zero_le _) (Nat.zero_le _) ⟨_, rfl, (by first | (simp only [A_days, inB_t h1, cond_true, cond_false, Bool.and_true, Bool.true_and, Bool.and_false, Bool.false_and, Bool.or_true, Bool.true_or, Bool.or_false, Bool.false_or, Bool.not_true, Bool.not_false, decide_true, decide_false, if_true, if_false, Bool.true_eq_false, Bool.false_eq_true]; done) | (simp only [A_days, inB_t h1, b22_3, cond_true, cond_false, Bool.and_true, Bool.true_and, Bool.and_false, Bool.false_and, Bool.or_true, Bool.true_or, Bool.or_false, Bool.false_or, Bool.not_true, Bool.not_false, decide_true, decide_false, if_true, if_false, Bool.true_eq_false, Bool.false_eq_true]; done) | (simp [A_days, inB_t h1, b22_3]; done) | (simp only [A_days, inB_t h1, cond_true, cond_false, Bool.and_true, Bool.true_and, Bool.and_false, Bool.false_and, Bool.or_true, Bool.true_or, Bool.or_false, Bool.false_or, Bool.not_true, Bool.not_false, decide_true, decide_false, if_true, if_false, Bool.true_eq_false, Bool.false_eq_true] <;> decide)), _, rfl, hI, (by have e : (K_days (σ.1 111) a) = true := (by first | (simp only [K_days, inB_t h1, cond_true, cond_false, Bool.and_true, Bool.true_and, Bool.and_false, Bool.false_and, Bool.or_true, Bool.true_or, Bool.or_false, Bool.false_or, Bool.not_true, Bool.not_false, decide_true, decide_false, if_true, if_false, Bool.true_eq_false, Bool.false_eq_true]; done) | (simp only [K_days, inB_t h1, b22_3, cond_true, cond_false, Bool.and_true, Bool.true_and, Bool.and_false, Bool.false_and, Bool.or_true, Bool.true_or, Bool.or_false, Bool.false_or, Bool.not_true, Bool.not_false, decide_true, decide_false, if_true, if_false, Bool.true_eq_false, Bool.false_eq_true]; done) | (simp [K_days, inB_t h1, b22_3]; done) | (simp only [K_days, inB_t h1, cond_true, cond_false, Bool.and_true, Bool.true_and, Bool.and_false, Bool.false_and, Bool.or_true, Bool.true_or, Bool.or_false, Bool.false_or, Bool.not_true, Bool.not_false, decide_true, decide_false, if_true, if_false, Bool.true_eq_false, Bool.false_eq_true] <;> decide)); rw [e]; exact hW4)⟩
    · skip
      refine R_bipush (pc := 25) (v := (-3)) dX8_days_25 (by decide) ?_
      exact R_iret (pc := 27) dX8_days_27 rfl rfl (Nat.zero_le _) (Nat.zero_le _) ⟨_, rfl, (by first | (simp only [A_days, inB_t h1, cond_true, cond_false, Bool.and_true, Bool.true_and, Bool.and_false, Bool.false_and, Bool.or_true, Bool.true_or, Bool.or_false, Bool.false_or, Bool.not_true, Bool.not_false, decide_true, decide_false, if_true, if_false, Bool.true_eq_false, Bool.false_eq_true]; done) | (simp only [A_days, inB_t h1, b22_3, cond_true, cond_false, Bool.and_true, Bool.true_and, Bool.and_false, Bool.false_and, Bool.or_true, Bool.true_or, Bool.or_false, Bool.false_or, Bool.not_true, Bool.not_false, decide_true, decide_false, if_true, if_false, Bool.true_eq_false, Bool.false_eq_true]; done) | (simp [A_days, inB_t h1, b22_3]; done) | (simp only [A_days, inB_t h1, cond_true, cond_false, Bool.and_true, Bool.true_and, Bool.and_false, Bool.false_and, Bool.or_true, Bool.true_or, Bool.or_false, Bool.false_or, Bool.not_true, Bool.not_false, decide_true, decide_false, if_true, if_false, Bool.true_eq_false, Bool.false_eq_true] <;> decide)), _, rfl, hI, (by have e : (K_days (σ.1 111) a) = false := (by first | (simp only [K_days, inB_t h1, cond_true, cond_false, Bool.and_true, Bool.true_and, Bool.and_false, Bool.false_and, Bool.or_true, Bool.true_or, Bool.or_false, Bool.false_or, Bool.not_true, Bool.not_false, decide_true, decide_false, if_true, if_false, Bool.true_eq_false, Bool.false_eq_true]; done) | (simp only [K_days, inB_t h1, b22_3, cond_true, cond_false, Bool.and_true, Bool.true_and, Bool.and_false, Bool.false_and, Bool.or_true, Bool.true_or, Bool.or_false, Bool.false_or, Bool.not_true, Bool.not_false, decide_true, decide_false, if_true, if_false, Bool.true_eq_false, Bool.false_eq_true]; done) | (simp [K_days, inB_t h1, b22_3]; done) | (simp only [K_days, inB_t h1, cond_true, cond_false, Bool.and_true, Bool.true_and, Bool.and_false, Bool.false_and, Bool.or_true, Bool.true_or, Bool.or_false, Bool.false_or, Bool.not_true, Bool.not_false, decide_true, decide_false, if_true, if_false, Bool.true_eq_false, Bool.false_eq_true] <;> decide)); rw [e]; exact (show Cor σ σ from Cor.rfl' σ))⟩
  · skip
    refine R_ifeq (pc := 7) 25 dX8_days_7 (by decide) (fun _ => ?_) (fun h => absurd (by decide) h)
    refine R_bipush (pc := 25) (v := (-3)) dX8_days_25 (by decide) ?_
    exact R_iret (pc := 27) dX8_days_27 rfl rfl (Nat.zero_le _) (Nat.zero_le _) ⟨_, rfl, (by first | (simp only [A_days, inB_f h1, cond_true, cond_false, Bool.and_true, Bool.true_and, Bool.and_false, Bool.false_and, Bool.or_true, Bool.true_or, Bool.or_false, Bool.false_or, Bool.not_true, Bool.not_false, decide_true, decide_false, if_true, if_false, Bool.true_eq_false, Bool.false_eq_true]; done) | (simp [A_days, inB_f h1]; done) | (simp only [A_days, inB_f h1, cond_true, cond_false, Bool.and_true, Bool.true_and, Bool.and_false, Bool.false_and, Bool.or_true, Bool.true_or, Bool.or_false, Bool.false_or, Bool.not_true, Bool.not_false, decide_true, decide_false, if_true, if_false, Bool.true_eq_false, Bool.false_eq_true] <;> decide)), _, rfl, hI, (by have e : (K_days (σ.1 111) a) = false := (by first | (simp only [K_days, inB_f h1, cond_true, cond_false, Bool.and_true, Bool.true_and, Bool.and_false, Bool.false_and, Bool.or_true, Bool.true_or, Bool.or_false, Bool.false_or, Bool.not_true, Bool.not_false, decide_true, decide_false, if_true, if_false, Bool.true_eq_false, Bool.false_eq_true]; done) | (simp [K_days, inB_f h1]; done) | (simp only [K_days, inB_f h1, cond_true, cond_false, Bool.and_true, Bool.true_and, Bool.and_false, Bool.false_and, Bool.or_true, Bool.true_or, Bool.or_false, Bool.false_or, Bool.not_true, Bool.not_false, decide_true, decide_false, if_true, if_false, Bool.true_eq_false, Bool.false_eq_true] <;> decide)); rw [e]; exact (show Cor σ σ from Cor.rfl' σ))⟩
def E_X8_set (σ : Sg) (a v : Int32) : Sg := if a = 0 then (bif inB v 0 8 then uI σ 1204 v else σ) else if a = 1 then (bif inB v 0 999 then uI σ 112 v else σ) else if a = 2 then (bif inB v 1 10000 then uI σ 9 v else σ) else σ
set_option maxRecDepth 100000 in
set_option maxHeartbeats 40000000 in
theorem ge_X8_set {G : vG} {l : Launch} (σ : Sg) (a v : Int32) (hI : Inv σ) : Sp G l yX8_set cX8_set 4 (some .int) 1 0 0 [.ref 0, .int a, .int v] (WW σ) (QI (fun x w2 => x = A_set a v (σ.1 1204) (σ.1 112) (σ.1 9) ∧ ∃ σ2, w2 = WW σ2 ∧ Inv σ2 ∧ Cor (E_X8_set σ a v) σ2)) := by
  refine Sp_of_R [(some (.ref 0)), (some (.int a)), (some (.int v)), none] [none] rfl (by simp) rfl (Nat.le_of_ble_eq_true rfl) ?_
  rcases sw2 a with rfl | rfl | rfl | hsw
  · skip
    refine R_iload_n (pc := 0) dX8_set_0 rfl rfl ?_
    refine R_ifne (pc := 1) 33 dX8_set_1 (by decide) (fun h => absurd (by decide) h) (fun _ => ?_)
    refine R_iload_n (pc := 4) dX8_set_4 rfl rfl ?_
    refine R_iconst (pc := 5) (v := 0) dX8_set_5 (by decide) ?_
    refine R_bipush (pc := 6) (v := 8) dX8_set_6 (by decide) ?_
    refine k_X8_72 (pc := 8) (sp_X8_isWithin _ _ _ _) rfl (by decide) (Nat.le_refl _) (Nat.le_refl _) (Nat.le_of_ble_eq_true rfl) dX8_set_8 (fun x w2 h => ?_)
    rcases h with ⟨rfl, ⟨h2, rfl⟩ | ⟨h2, rfl⟩⟩
    · skip
      refine R_ifeq (pc := 11) 33 dX8_set_11 (by decide) (fun h => absurd h (by decide)) (fun _ => ?_)
      refine R_aload_n (pc := 14) dX8_set_14 rfl rfl ?_
      refine g_X8_21 (pc := 15) (v := .ref 12) rfl dX8_set_15 (c_0 _) rfl ?_
      refine g_X8_112 (pc := 18) (v := .int (σ.1 1204)) rfl dX8_set_18 (c_12 _) rfl ?_
      refine st_4_3_i_i (pc := 21) dX8_set_21 ?_
      refine R_aload_n (pc := 22) dX8_set_22 rfl rfl ?_
      refine g_X8_21 (pc := 23) (v := .ref 12) rfl dX8_set_23 (c_0 _) rfl ?_
      refine R_iload_n (pc := 26) dX8_set_26 rfl rfl ?_
      refine p_X8_112 (pc := 27) rfl dX8_set_27 (c_12 _) (Nat.le_of_ble_eq_true rfl) rfl rfl (s_12_4 _ _) ?_
      have hW4 := cor_ci 1204 v (show Cor σ σ from Cor.rfl' σ)
      refine R_goto (pc := 30) 100 dX8_set_30 (by decide) ?_
      refine R_iload_n (pc := 100) dX8_set_100 rfl rfl ?_
      exact R_iret (pc := 101) dX8_set_101 rfl rfl (Nat.zero_le _) (Nat.zero_le _) ⟨_, rfl, (by first | (simp only [A_set, inB_t h2, cond_true, cond_false, Bool.and_true, Bool.true_and, Bool.and_false, Bool.false_and, Bool.or_true, Bool.true_or, Bool.or_false, Bool.false_or, Bool.not_true, Bool.not_false, decide_true, decide_false, if_true, if_false, Bool.true_eq_false, Bool.false_eq_true]; done) | (simp [A_set, inB_t h2]; done) | (simp only [A_set, inB_t h2, cond_true, cond_false, Bool.and_true, Bool.true_and, Bool.and_false, Bool.false_and, Bool.or_true, Bool.true_or, Bool.or_false, Bool.false_or, Bool.not_true, Bool.not_false, decide_true, decide_false, if_true, if_false, Bool.true_eq_false, Bool.false_eq_true] <;> decide)), _, rfl, hI, (cor_eq (by first | (simp only [E_X8_set, inB_t h2, cond_true, cond_false, Bool.and_true, Bool.true_and, Bool.and_false, Bool.false_and, Bool.or_true, Bool.true_or, Bool.or_false, Bool.false_or, Bool.not_true, Bool.not_false, decide_true, decide_false, if_true, if_false, Bool.true_eq_false, Bool.false_eq_true]; done) | (simp [E_X8_set, inB_t h2]; done) | (simp only [E_X8_set, inB_t h2, cond_true, cond_false, Bool.and_true, Bool.true_and, Bool.and_false, Bool.false_and, Bool.or_true, Bool.true_or, Bool.or_false, Bool.false_or, Bool.not_true, Bool.not_false, decide_true, decide_false, if_true, if_false, Bool.true_eq_false, Bool.false_eq_true] <;> decide)) hW4)⟩
    · skip
      refine R_ifeq (pc := 11) 33 dX8_set_11 (by decide) (fun _ => ?_) (fun h => absurd (by decide) h)
      refine R_iload_n (pc := 33) dX8_set_33 rfl rfl ?_
      refine R_iconst (pc := 34) (v := 1) dX8_set_34 (by decide) ?_
      refine R_icne (pc := 35) 68 dX8_set_35 (by decide) (fun _ => ?_) (fun h => absurd h (by decide))
      refine R_iload_n (pc := 68) dX8_set_68 rfl rfl ?_
      refine R_iconst (pc := 69) (v := 2) dX8_set_69 (by decide) ?_
      refine R_icne (pc := 70) 97 dX8_set_70 (by decide) (fun _ => ?_) (fun h => absurd h (by decide))
      refine R_bipush (pc := 97) (v := (-3)) dX8_set_97 (by decide) ?_
      refine st_4_3_i_i (pc := 99) dX8_set_99 ?_
      refine R_iload_n (pc := 100) dX8_set_100 rfl rfl ?_
      exact R_iret (pc := 101) dX8_set_101 rfl rfl (Nat.zero_le _) (Nat.zero_le _) ⟨_, rfl, (by first | (simp only [A_set, inB_f h2, cond_true, cond_false, Bool.and_true, Bool.true_and, Bool.and_false, Bool.false_and, Bool.or_true, Bool.true_or, Bool.or_false, Bool.false_or, Bool.not_true, Bool.not_false, decide_true, decide_false, if_true, if_false, Bool.true_eq_false, Bool.false_eq_true]; done) | (simp [A_set, inB_f h2]; done) | (simp only [A_set, inB_f h2, cond_true, cond_false, Bool.and_true, Bool.true_and, Bool.and_false, Bool.false_and, Bool.or_true, Bool.true_or, Bool.or_false, Bool.false_or, Bool.not_true, Bool.not_false, decide_true, decide_false, if_true, if_false, Bool.true_eq_false, Bool.false_eq_true] <;> decide)), _, rfl, hI, (cor_eq (by first | (simp only [E_X8_set, inB_f h2, cond_true, cond_false, Bool.and_true, Bool.true_and, Bool.and_false, Bool.false_and, Bool.or_true, Bool.true_or, Bool.or_false, Bool.false_or, Bool.not_true, Bool.not_false, decide_true, decide_false, if_true, if_false, Bool.true_eq_false, Bool.false_eq_true]; done) | (simp [E_X8_set, inB_f h2]; done) | (simp only [E_X8_set, inB_f h2, cond_true, cond_false, Bool.and_true, Bool.true_and, Bool.and_false, Bool.false_and, Bool.or_true, Bool.true_or, Bool.or_false, Bool.false_or, Bool.not_true, Bool.not_false, decide_true, decide_false, if_true, if_false, Bool.true_eq_false, Bool.false_eq_true] <;> decide)) (show Cor σ σ from Cor.rfl' σ))⟩
  · skip
    refine R_iload_n (pc := 0) dX8_set_0 rfl rfl ?_
    refine R_ifne (pc := 1) 33 dX8_set_1 (by decide) (fun _ => ?_) (fun h => absurd h (by decide))
    refine R_iload_n (pc := 33) dX8_set_33 rfl rfl ?_
    refine R_iconst (pc := 34) (v := 1) dX8_set_34 (by decide) ?_
    refine R_icne (pc := 35) 68 dX8_set_35 (by decide) (fun h => absurd (by decide) h) (fun _ => ?_)
    refine R_iload_n (pc := 38) dX8_set_38 rfl rfl ?_
    refine R_iconst (pc := 39) (v := 0) dX8_set_39 (by decide) ?_
    refine R_sipush (pc := 40) (v := 999) dX8_set_40 (by decide) ?_
    refine k_X8_72 (pc := 43) (sp_X8_isWithin _ _ _ _) rfl (by decide) (Nat.le_refl _) (Nat.le_refl _) (Nat.le_of_ble_eq_true rfl) dX8_set_43 (fun x w2 h => ?_)
    rcases h with ⟨rfl, ⟨h10, rfl⟩ | ⟨h10, rfl⟩⟩
    · skip
      refine R_ifeq (pc := 46) 68 dX8_set_46 (by decide) (fun h => absurd h (by decide)) (fun _ => ?_)
      refine R_aload_n (pc := 49) dX8_set_49 rfl rfl ?_
      refine g_X8_10 (pc := 50) (v := .ref 1) rfl dX8_set_50 (c_0 _) rfl ?_
      refine g_X8_115 (pc := 53) (v := .int (σ.1 112)) rfl dX8_set_53 (c_1 _) rfl ?_
      refine st_4_3_i_i (pc := 56) dX8_set_56 ?_
      refine R_aload_n (pc := 57) dX8_set_57 rfl rfl ?_
      refine g_X8_10 (pc := 58) (v := .ref 1) rfl dX8_set_58 (c_0 _) rfl ?_
      refine R_iload_n (pc := 61) dX8_set_61 rfl rfl ?_
      refine p_X8_115 (pc := 62) rfl dX8_set_62 (c_1 _) (Nat.le_of_ble_eq_true rfl) rfl rfl (s_1_12 _ _) ?_
      have hW12 := cor_ci 112 v (show Cor σ σ from Cor.rfl' σ)
      refine R_goto (pc := 65) 100 dX8_set_65 (by decide) ?_
      refine R_iload_n (pc := 100) dX8_set_100 rfl rfl ?_
      exact R_iret (pc := 101) dX8_set_101 rfl rfl (Nat.zero_le _) (Nat.zero_le _) ⟨_, rfl, (by first | (simp only [A_set, inB_t h10, cond_true, cond_false, Bool.and_true, Bool.true_and, Bool.and_false, Bool.false_and, Bool.or_true, Bool.true_or, Bool.or_false, Bool.false_or, Bool.not_true, Bool.not_false, decide_true, decide_false, if_true, if_false, Bool.true_eq_false, Bool.false_eq_true]; done) | (simp [A_set, inB_t h10]; done) | (simp only [A_set, inB_t h10, cond_true, cond_false, Bool.and_true, Bool.true_and, Bool.and_false, Bool.false_and, Bool.or_true, Bool.true_or, Bool.or_false, Bool.false_or, Bool.not_true, Bool.not_false, decide_true, decide_false, if_true, if_false, Bool.true_eq_false, Bool.false_eq_true] <;> decide)), _, rfl, hI, (cor_eq (by first | (simp only [E_X8_set, inB_t h10, cond_true, cond_false, Bool.and_true, Bool.true_and, Bool.and_false, Bool.false_and, Bool.or_true, Bool.true_or, Bool.or_false, Bool.false_or, Bool.not_true, Bool.not_false, decide_true, decide_false, if_true, if_false, Bool.true_eq_false, Bool.false_eq_true]; done) | (simp [E_X8_set, inB_t h10]; done) | (simp only [E_X8_set, inB_t h10, cond_true, cond_false, Bool.and_true, Bool.true_and, Bool.and_false, Bool.false_and, Bool.or_true, Bool.true_or, Bool.or_false, Bool.false_or, Bool.not_true, Bool.not_false, decide_true, decide_false, if_true, if_false, Bool.true_eq_false, Bool.false_eq_true] <;> decide)) hW12)⟩
    · skip
      refine R_ifeq (pc := 46) 68 dX8_set_46 (by decide) (fun _ => ?_) (fun h => absurd (by decide) h)
      refine R_iload_n (pc := 68) dX8_set_68 rfl rfl ?_
      refine R_iconst (pc := 69) (v := 2) dX8_set_69 (by decide) ?_
      refine R_icne (pc := 70) 97 dX8_set_70 (by decide) (fun _ => ?_) (fun h => absurd h (by decide))
      refine R_bipush (pc := 97) (v := (-3)) dX8_set_97 (by decide) ?_
      refine st_4_3_i_i (pc := 99) dX8_set_99 ?_
      refine R_iload_n (pc := 100) dX8_set_100 rfl rfl ?_
      exact R_iret (pc := 101) dX8_set_101 rfl rfl (Nat.zero_le _) (Nat.zero_le _) ⟨_, rfl, (by first | (simp only [A_set, inB_f h10, cond_true, cond_false, Bool.and_true, Bool.true_and, Bool.and_false, Bool.false_and, Bool.or_true, Bool.true_or, Bool.or_false, Bool.false_or, Bool.not_true, Bool.not_false, decide_true, decide_false, if_true, if_false, Bool.true_eq_false, Bool.false_eq_true]; done) | (simp [A_set, inB_f h10]; done) | (simp only [A_set, inB_f h10, cond_true, cond_false, Bool.and_true, Bool.true_and, Bool.and_false, Bool.false_and, Bool.or_true, Bool.true_or, Bool.or_false, Bool.false_or, Bool.not_true, Bool.not_false, decide_true, decide_false, if_true, if_false, Bool.true_eq_false, Bool.false_eq_true] <;> decide)), _, rfl, hI, (cor_eq (by first | (simp only [E_X8_set, inB_f h10, cond_true, cond_false, Bool.and_true, Bool.true_and, Bool.and_false, Bool.false_and, Bool.or_true, Bool.true_or, Bool.or_false, Bool.false_or, Bool.not_true, Bool.not_false, decide_true, decide_false, if_true, if_false, Bool.true_eq_false, Bool.false_eq_true]; done) | (simp [E_X8_set, inB_f h10]; done) | (simp only [E_X8_set, inB_f h10, cond_true, cond_false, Bool.and_true, Bool.true_and, Bool.and_false, Bool.false_and, Bool.or_true, Bool.true_or, Bool.or_false, Bool.false_or, Bool.not_true, Bool.not_false, decide_true, decide_false, if_true, if_false, Bool.true_eq_false, Bool.false_eq_true] <;> decide)) (show Cor σ σ from Cor.rfl' σ))⟩
  · skip
    refine R_iload_n (pc := 0) dX8_set_0 rfl rfl ?_
    refine R_ifne (pc := 1) 33 dX8_set_1 (by decide) (fun _ => ?_) (fun h => absurd h (by decide))
    refine R_iload_n (pc := 33) dX8_set_33 rfl rfl ?_
    refine R_iconst (pc := 34) (v := 1) dX8_set_34 (by decide) ?_
    refine R_icne (pc := 35) 68 dX8_set_35 (by decide) (fun _ => ?_) (fun h => absurd h (by decide))
    refine R_iload_n (pc := 68) dX8_set_68 rfl rfl ?_
    refine R_iconst (pc := 69) (v := 2) dX8_set_69 (by decide) ?_
    refine R_icne (pc := 70) 97 dX8_set_70 (by decide) (fun h => absurd (by decide) h) (fun _ => ?_)
    refine R_iload_n (pc := 73) dX8_set_73 rfl rfl ?_
    refine R_iconst (pc := 74) (v := 1) dX8_set_74 (by decide) ?_
    refine R_sipush (pc := 75) (v := 10000) dX8_set_75 (by decide) ?_
    refine k_X8_72 (pc := 78) (sp_X8_isWithin _ _ _ _) rfl (by decide) (Nat.le_refl _) (Nat.le_refl _) (Nat.le_of_ble_eq_true rfl) dX8_set_78 (fun x w2 h => ?_)
    rcases h with ⟨rfl, ⟨h18, rfl⟩ | ⟨h18, rfl⟩⟩
    · skip
      refine R_ifeq (pc := 81) 97 dX8_set_81 (by decide) (fun h => absurd h (by decide)) (fun _ => ?_)
      refine R_aload_n (pc := 84) dX8_set_84 rfl rfl ?_
      refine g_X8_68 (pc := 85) (v := .int (σ.1 9)) rfl dX8_set_85 (c_0 _) rfl ?_
      refine st_4_3_i_i (pc := 88) dX8_set_88 ?_
      refine R_aload_n (pc := 89) dX8_set_89 rfl rfl ?_
      refine R_iload_n (pc := 90) dX8_set_90 rfl rfl ?_
      refine p_X8_68 (pc := 91) rfl dX8_set_91 (c_0 _) (Nat.le_of_ble_eq_true rfl) rfl rfl (s_0_9 _ _) ?_
      have hW20 := cor_ci 9 v (show Cor σ σ from Cor.rfl' σ)
      refine R_goto (pc := 94) 100 dX8_set_94 (by decide) ?_
      refine R_iload_n (pc := 100) dX8_set_100 rfl rfl ?_
      exact R_iret (pc := 101) dX8_set_101 rfl rfl (Nat.zero_le _) (Nat.zero_le _) ⟨_, rfl, (by first | (simp only [A_set, inB_t h18, cond_true, cond_false, Bool.and_true, Bool.true_and, Bool.and_false, Bool.false_and, Bool.or_true, Bool.true_or, Bool.or_false, Bool.false_or, Bool.not_true, Bool.not_false, decide_true, decide_false, if_true, if_false, Bool.true_eq_false, Bool.false_eq_true]; done) | (simp [A_set, inB_t h18]; done) | (simp only [A_set, inB_t h18, cond_true, cond_false, Bool.and_true, Bool.true_and, Bool.and_false, Bool.false_and, Bool.or_true, Bool.true_or, Bool.or_false, Bool.false_or, Bool.not_true, Bool.not_false, decide_true, decide_false, if_true, if_false, Bool.true_eq_false, Bool.false_eq_true] <;> decide)), _, rfl, hI, (cor_eq (by first | (simp only [E_X8_set, inB_t h18, cond_true, cond_false, Bool.and_true, Bool.true_and, Bool.and_false, Bool.false_and, Bool.or_true, Bool.true_or, Bool.or_false, Bool.false_or, Bool.not_true, Bool.not_false, decide_true, decide_false, if_true, if_false, Bool.true_eq_false, Bool.false_eq_true]; done) | (simp [E_X8_set, inB_t h18]; done) | (simp only [E_X8_set, inB_t h18, cond_true, cond_false, Bool.and_true, Bool.true_and, Bool.and_false, Bool.false_and, Bool.or_true, Bool.true_or, Bool.or_false, Bool.false_or, Bool.not_true, Bool.not_false, decide_true, decide_false, if_true, if_false, Bool.true_eq_false, Bool.false_eq_true] <;> decide)) hW20)⟩
    · skip
      refine R_ifeq (pc := 81) 97 dX8_set_81 (by decide) (fun _ => ?_) (fun h => absurd (by decide) h)
      refine R_bipush (pc := 97) (v := (-3)) dX8_set_97 (by decide) ?_
      refine st_4_3_i_i (pc := 99) dX8_set_99 ?_
      refine R_iload_n (pc := 100) dX8_set_100 rfl rfl ?_
      exact R_iret (pc := 101) dX8_set_101 rfl rfl (Nat.zero_le _) (Nat.zero_le _) ⟨_, rfl, (by first | (simp only [A_set, inB_f h18, cond_true, cond_false, Bool.and_true, Bool.true_and, Bool.and_false, Bool.false_and, Bool.or_true, Bool.true_or, Bool.or_false, Bool.false_or, Bool.not_true, Bool.not_false, decide_true, decide_false, if_true, if_false, Bool.true_eq_false, Bool.false_eq_true]; done) | (simp [A_set, inB_f h18]; done) | (simp only [A_set, inB_f h18, cond_true, cond_false, Bool.and_true, Bool.true_and, Bool.and_false, Bool.false_and, Bool.or_true, Bool.true_or, Bool.or_false, Bool.false_or, Bool.not_true, Bool.not_false, decide_true, decide_false, if_true, if_false, Bool.true_eq_false, Bool.false_eq_true] <;> decide)), _, rfl, hI, (cor_eq (by first | (simp only [E_X8_set, inB_f h18, cond_true, cond_false, Bool.and_true, Bool.true_and, Bool.and_false, Bool.false_and, Bool.or_true, Bool.true_or, Bool.or_false, Bool.false_or, Bool.not_true, Bool.not_false, decide_true, decide_false, if_true, if_false, Bool.true_eq_false, Bool.false_eq_true]; done) | (simp [E_X8_set, inB_f h18]; done) | (simp only [E_X8_set, inB_f h18, cond_true, cond_false, Bool.and_true, Bool.true_and, Bool.and_false, Bool.false_and, Bool.or_true, Bool.true_or, Bool.or_false, Bool.false_or, Bool.not_true, Bool.not_false, decide_true, decide_false, if_true, if_false, Bool.true_eq_false, Bool.false_eq_true] <;> decide)) (show Cor σ σ from Cor.rfl' σ))⟩
  · skip
    refine R_iload_n (pc := 0) dX8_set_0 rfl rfl ?_
    refine R_ifne (pc := 1) 33 dX8_set_1 (by decide) (fun _ => ?_) (fun h => absurd h (ne_out hsw (by decide)))
    refine R_iload_n (pc := 33) dX8_set_33 rfl rfl ?_
    refine R_iconst (pc := 34) (v := 1) dX8_set_34 (by decide) ?_
    refine R_icne (pc := 35) 68 dX8_set_35 (by decide) (fun _ => ?_) (fun h => absurd h (ne_out hsw (by decide)))
    refine R_iload_n (pc := 68) dX8_set_68 rfl rfl ?_
    refine R_iconst (pc := 69) (v := 2) dX8_set_69 (by decide) ?_
    refine R_icne (pc := 70) 97 dX8_set_70 (by decide) (fun _ => ?_) (fun h => absurd h (ne_out hsw (by decide)))
    refine R_bipush (pc := 97) (v := (-3)) dX8_set_97 (by decide) ?_
    refine st_4_3_i_i (pc := 99) dX8_set_99 ?_
    refine R_iload_n (pc := 100) dX8_set_100 rfl rfl ?_
    exact R_iret (pc := 101) dX8_set_101 rfl rfl (Nat.zero_le _) (Nat.zero_le _) ⟨_, rfl, (by first | (simp only [A_set, cond_true, cond_false, Bool.and_true, Bool.true_and, Bool.and_false, Bool.false_and, Bool.or_true, Bool.true_or, Bool.or_false, Bool.false_or, Bool.not_true, Bool.not_false, decide_true, decide_false, if_true, if_false, Bool.true_eq_false, Bool.false_eq_true]; done) | (simp only [A_set, (show ¬ a = 0 from ne_out hsw (by decide)), (show ¬ a = 1 from ne_out hsw (by decide)), (show ¬ a = 2 from ne_out hsw (by decide)), cond_true, cond_false, Bool.and_true, Bool.true_and, Bool.and_false, Bool.false_and, Bool.or_true, Bool.true_or, Bool.or_false, Bool.false_or, Bool.not_true, Bool.not_false, decide_true, decide_false, if_true, if_false, Bool.true_eq_false, Bool.false_eq_true]; done) | (simp [A_set, (show ¬ a = 0 from ne_out hsw (by decide)), (show ¬ a = 1 from ne_out hsw (by decide)), (show ¬ a = 2 from ne_out hsw (by decide))]; done) | (simp only [A_set, cond_true, cond_false, Bool.and_true, Bool.true_and, Bool.and_false, Bool.false_and, Bool.or_true, Bool.true_or, Bool.or_false, Bool.false_or, Bool.not_true, Bool.not_false, decide_true, decide_false, if_true, if_false, Bool.true_eq_false, Bool.false_eq_true] <;> decide)), _, rfl, hI, (cor_eq (by first | (simp only [E_X8_set, cond_true, cond_false, Bool.and_true, Bool.true_and, Bool.and_false, Bool.false_and, Bool.or_true, Bool.true_or, Bool.or_false, Bool.false_or, Bool.not_true, Bool.not_false, decide_true, decide_false, if_true, if_false, Bool.true_eq_false, Bool.false_eq_true]; done) | (simp only [E_X8_set, (show ¬ a = 0 from ne_out hsw (by decide)), (show ¬ a = 1 from ne_out hsw (by decide)), (show ¬ a = 2 from ne_out hsw (by decide)), cond_true, cond_false, Bool.and_true, Bool.true_and, Bool.and_false, Bool.false_and, Bool.or_true, Bool.true_or, Bool.or_false, Bool.false_or, Bool.not_true, Bool.not_false, decide_true, decide_false, if_true, if_false, Bool.true_eq_false, Bool.false_eq_true]; done) | (simp [E_X8_set, (show ¬ a = 0 from ne_out hsw (by decide)), (show ¬ a = 1 from ne_out hsw (by decide)), (show ¬ a = 2 from ne_out hsw (by decide))]; done) | (simp only [E_X8_set, cond_true, cond_false, Bool.and_true, Bool.true_and, Bool.and_false, Bool.false_and, Bool.or_true, Bool.true_or, Bool.or_false, Bool.false_or, Bool.not_true, Bool.not_false, decide_true, decide_false, if_true, if_false, Bool.true_eq_false, Bool.false_eq_true] <;> decide)) (show Cor σ σ from Cor.rfl' σ))⟩
def E_X8_feature (σ : Sg) (f a b : Int32) : Sg := (uA (uA σ 59 (upd (σ.2.2.1 59) (Int32.toNatClampNeg f) a)) 60 (upd (σ.2.2.1 60) (Int32.toNatClampNeg f) b))
set_option maxRecDepth 100000 in
set_option maxHeartbeats 40000000 in
theorem ge_X8_feature {G : vG} {l : Launch} (σ : Sg) (f a b : Int32) (hI : Inv σ) : Sp G l yX8_feature cX8_feature 4 (some .int) 2 0 0 [.ref 0, .int f, .int a, .int b] (WW σ) (QI (fun x w2 => x = an_feature f a b ∧ ∃ σ2, w2 = WW σ2 ∧ Inv σ2 ∧ Cor (bif K_feature f a b then (E_X8_feature σ f a b) else σ) σ2)) := by
  refine Sp_of_R [(some (.ref 0)), (some (.int f)), (some (.int a)), (some (.int b))] [] rfl (by simp) rfl (Nat.le_of_ble_eq_true rfl) ?_
  refine R_iload_n (pc := 0) dX8_feature_0 rfl rfl ?_
  refine R_iconst (pc := 1) (v := 0) dX8_feature_1 (by decide) ?_
  refine R_bipush (pc := 2) (v := 7) dX8_feature_2 (by decide) ?_
  refine k_X8_72 (pc := 4) (sp_X8_isWithin _ _ _ _) rfl (by decide) (Nat.le_refl _) (Nat.le_refl _) (Nat.le_of_ble_eq_true rfl) dX8_feature_4 (fun x w2 h => ?_)
  rcases h with ⟨rfl, ⟨h1, rfl⟩ | ⟨h1, rfl⟩⟩
  · skip
    refine R_ifne (pc := 7) 13 dX8_feature_7 (by decide) (fun _ => ?_) (fun h => absurd h (by decide))
    refine R_iload_n (pc := 13) dX8_feature_13 rfl rfl ?_
    refine R_iload_n (pc := 14) dX8_feature_14 rfl rfl ?_
    refine k_X8_215 (pc := 15) (fx_X8_isSpan _ _ _) rfl (by decide) (Nat.le_refl _) (Nat.le_refl _) (Nat.le_of_ble_eq_true rfl) dX8_feature_15 (fun x w2 h => ?_)
    rcases h with ⟨rfl, ⟨h3, rfl⟩ | ⟨h3, rfl⟩⟩
    · skip
      refine R_ifne (pc := 18) 24 dX8_feature_18 (by decide) (fun _ => ?_) (fun h => absurd h (by decide))
      refine R_aload_n (pc := 24) dX8_feature_24 rfl rfl ?_
      refine g_X8_37 (pc := 25) (v := .ref 58) rfl dX8_feature_25 (c_0 _) rfl ?_
      refine g_X8_218 (pc := 28) (v := .ref 59) rfl dX8_feature_28 (c_58 _) rfl ?_
      refine R_iload_n (pc := 31) dX8_feature_31 rfl rfl ?_
      refine R_iload_n (pc := 32) dX8_feature_32 rfl rfl ?_
      have hx5 : vp_in f 8 := (vp_of_inR h1 (by decide))
      refine W_iastore (pc := 33) dX8_feature_33 (c_59 _) hx5 (a_59 _ _) ?_
      have hW6 := cor_ca 59 (Int32.toNatClampNeg f) a (show Cor σ σ from Cor.rfl' σ) rfl
      refine R_aload_n (pc := 34) dX8_feature_34 rfl rfl ?_
      refine g_X8_37 (pc := 35) (v := .ref 58) rfl dX8_feature_35 (c_0 _) rfl ?_
      refine g_X8_221 (pc := 38) (v := .ref 60) rfl dX8_feature_38 (c_58 _) rfl ?_
      refine R_iload_n (pc := 41) dX8_feature_41 rfl rfl ?_
      refine R_iload_n (pc := 42) dX8_feature_42 rfl rfl ?_
      have hx7 : vp_in f 8 := (vp_of_inR h1 (by decide))
      refine W_iastore (pc := 43) dX8_feature_43 (c_60 _) hx7 (a_60 _ _) ?_
      have hW8 := cor_ca 60 (Int32.toNatClampNeg f) b hW6 rfl
      refine R_iconst (pc := 44) (v := 1) dX8_feature_44 (by decide) ?_
      exact R_iret (pc := 45) dX8_feature_45 rfl rfl (Nat.zero_le _) (Nat.zero_le _) ⟨_, rfl, (by first | (simp only [an_feature, inB_t h1, h3, cond_true, cond_false, Bool.and_true, Bool.true_and, Bool.and_false, Bool.false_and, Bool.or_true, Bool.true_or, Bool.or_false, Bool.false_or, Bool.not_true, Bool.not_false, decide_true, decide_false, if_true, if_false, Bool.true_eq_false, Bool.false_eq_true]; done) | (simp [an_feature, inB_t h1, h3]; done) | (simp only [an_feature, inB_t h1, h3, cond_true, cond_false, Bool.and_true, Bool.true_and, Bool.and_false, Bool.false_and, Bool.or_true, Bool.true_or, Bool.or_false, Bool.false_or, Bool.not_true, Bool.not_false, decide_true, decide_false, if_true, if_false, Bool.true_eq_false, Bool.false_eq_true] <;> decide)), _, rfl, hI, (by have e : (K_feature f a b) = true := (by first | (simp only [K_feature, inB_t h1, h3, cond_true, cond_false, Bool.and_true, Bool.true_and, Bool.and_false, Bool.false_and, Bool.or_true, Bool.true_or, Bool.or_false, Bool.false_or, Bool.not_true, Bool.not_false, decide_true, decide_false, if_true, if_false, Bool.true_eq_false, Bool.false_eq_true]; done) | (simp [K_feature, inB_t h1, h3]; done) | (simp only [K_feature, inB_t h1, h3, cond_true, cond_false, Bool.and_true, Bool.true_and, Bool.and_false, Bool.false_and, Bool.or_true, Bool.true_or, Bool.or_false, Bool.false_or, Bool.not_true, Bool.not_false, decide_true, decide_false, if_true, if_false, Bool.true_eq_false, Bool.false_eq_true] <;> decide)); rw [e]; exact hW8)⟩
    · skip
      refine R_ifne (pc := 18) 24 dX8_feature_18 (by decide) (fun h => absurd (by decide) h) (fun _ => ?_)
      refine R_bipush (pc := 21) (v := (-3)) dX8_feature_21 (by decide) ?_
      exact R_iret (pc := 23) dX8_feature_23 rfl rfl (Nat.zero_le _) (Nat.zero_le _) ⟨_, rfl, (by first | (simp only [an_feature, inB_t h1, h3, cond_true, cond_false, Bool.and_true, Bool.true_and, Bool.and_false, Bool.false_and, Bool.or_true, Bool.true_or, Bool.or_false, Bool.false_or, Bool.not_true, Bool.not_false, decide_true, decide_false, if_true, if_false, Bool.true_eq_false, Bool.false_eq_true]; done) | (simp [an_feature, inB_t h1, h3]; done) | (simp only [an_feature, inB_t h1, h3, cond_true, cond_false, Bool.and_true, Bool.true_and, Bool.and_false, Bool.false_and, Bool.or_true, Bool.true_or, Bool.or_false, Bool.false_or, Bool.not_true, Bool.not_false, decide_true, decide_false, if_true, if_false, Bool.true_eq_false, Bool.false_eq_true] <;> decide)), _, rfl, hI, (by have e : (K_feature f a b) = false := (by first | (simp only [K_feature, inB_t h1, h3, cond_true, cond_false, Bool.and_true, Bool.true_and, Bool.and_false, Bool.false_and, Bool.or_true, Bool.true_or, Bool.or_false, Bool.false_or, Bool.not_true, Bool.not_false, decide_true, decide_false, if_true, if_false, Bool.true_eq_false, Bool.false_eq_true]; done) | (simp [K_feature, inB_t h1, h3]; done) | (simp only [K_feature, inB_t h1, h3, cond_true, cond_false, Bool.and_true, Bool.true_and, Bool.and_false, Bool.false_and, Bool.or_true, Bool.true_or, Bool.or_false, Bool.false_or, Bool.not_true, Bool.not_false, decide_true, decide_false, if_true, if_false, Bool.true_eq_false, Bool.false_eq_true] <;> decide)); rw [e]; exact (show Cor σ σ from Cor.rfl' σ))⟩
  · skip
    refine R_ifne (pc := 7) 13 dX8_feature_7 (by decide) (fun h => absurd (by decide) h) (fun _ => ?_)
    refine R_bipush (pc := 10) (v := (-2)) dX8_feature_10 (by decide) ?_
    exact R_iret (pc := 12) dX8_feature_12 rfl rfl (Nat.zero_le _) (Nat.zero_le _) ⟨_, rfl, (by first | (simp only [an_feature, inB_f h1, cond_true, cond_false, Bool.and_true, Bool.true_and, Bool.and_false, Bool.false_and, Bool.or_true, Bool.true_or, Bool.or_false, Bool.false_or, Bool.not_true, Bool.not_false, decide_true, decide_false, if_true, if_false, Bool.true_eq_false, Bool.false_eq_true]; done) | (simp [an_feature, inB_f h1]; done) | (simp only [an_feature, inB_f h1, cond_true, cond_false, Bool.and_true, Bool.true_and, Bool.and_false, Bool.false_and, Bool.or_true, Bool.true_or, Bool.or_false, Bool.false_or, Bool.not_true, Bool.not_false, decide_true, decide_false, if_true, if_false, Bool.true_eq_false, Bool.false_eq_true] <;> decide)), _, rfl, hI, (by have e : (K_feature f a b) = false := (by first | (simp only [K_feature, inB_f h1, cond_true, cond_false, Bool.and_true, Bool.true_and, Bool.and_false, Bool.false_and, Bool.or_true, Bool.true_or, Bool.or_false, Bool.false_or, Bool.not_true, Bool.not_false, decide_true, decide_false, if_true, if_false, Bool.true_eq_false, Bool.false_eq_true]; done) | (simp [K_feature, inB_f h1]; done) | (simp only [K_feature, inB_f h1, cond_true, cond_false, Bool.and_true, Bool.true_and, Bool.and_false, Bool.false_and, Bool.or_true, Bool.true_or, Bool.or_false, Bool.false_or, Bool.not_true, Bool.not_false, decide_true, decide_false, if_true, if_false, Bool.true_eq_false, Bool.false_eq_true] <;> decide)); rw [e]; exact (show Cor σ σ from Cor.rfl' σ))⟩
def E_X8_back (σ : Sg) (f a b : Int32) : Sg := (uA (uA σ 61 (upd (σ.2.2.1 61) (Int32.toNatClampNeg f) a)) 62 (upd (σ.2.2.1 62) (Int32.toNatClampNeg f) b))
set_option maxRecDepth 100000 in
set_option maxHeartbeats 40000000 in
theorem ge_X8_back {G : vG} {l : Launch} (σ : Sg) (f a b : Int32) (hI : Inv σ) : Sp G l yX8_back cX8_back 4 (some .int) 2 0 0 [.ref 0, .int f, .int a, .int b] (WW σ) (QI (fun x w2 => x = an_back f a b ∧ ∃ σ2, w2 = WW σ2 ∧ Inv σ2 ∧ Cor (bif K_back f a b then (E_X8_back σ f a b) else σ) σ2)) := by
  refine Sp_of_R [(some (.ref 0)), (some (.int f)), (some (.int a)), (some (.int b))] [] rfl (by simp) rfl (Nat.le_of_ble_eq_true rfl) ?_
  refine R_iload_n (pc := 0) dX8_back_0 rfl rfl ?_
  refine R_iconst (pc := 1) (v := 0) dX8_back_1 (by decide) ?_
  refine R_iconst (pc := 2) (v := 4) dX8_back_2 (by decide) ?_
  refine k_X8_72 (pc := 3) (sp_X8_isWithin _ _ _ _) rfl (by decide) (Nat.le_refl _) (Nat.le_refl _) (Nat.le_of_ble_eq_true rfl) dX8_back_3 (fun x w2 h => ?_)
  rcases h with ⟨rfl, ⟨h1, rfl⟩ | ⟨h1, rfl⟩⟩
  · skip
    refine R_ifne (pc := 6) 12 dX8_back_6 (by decide) (fun _ => ?_) (fun h => absurd h (by decide))
    refine R_iload_n (pc := 12) dX8_back_12 rfl rfl ?_
    refine R_iload_n (pc := 13) dX8_back_13 rfl rfl ?_
    refine k_X8_215 (pc := 14) (fx_X8_isSpan _ _ _) rfl (by decide) (Nat.le_refl _) (Nat.le_refl _) (Nat.le_of_ble_eq_true rfl) dX8_back_14 (fun x w2 h => ?_)
    rcases h with ⟨rfl, ⟨h3, rfl⟩ | ⟨h3, rfl⟩⟩
    · skip
      refine R_ifne (pc := 17) 23 dX8_back_17 (by decide) (fun _ => ?_) (fun h => absurd h (by decide))
      refine R_aload_n (pc := 23) dX8_back_23 rfl rfl ?_
      refine g_X8_37 (pc := 24) (v := .ref 58) rfl dX8_back_24 (c_0 _) rfl ?_
      refine g_X8_227 (pc := 27) (v := .ref 61) rfl dX8_back_27 (c_58 _) rfl ?_
      refine R_iload_n (pc := 30) dX8_back_30 rfl rfl ?_
      refine R_iload_n (pc := 31) dX8_back_31 rfl rfl ?_
      have hx5 : vp_in f 5 := (vp_of_inR h1 (by decide))
      refine W_iastore (pc := 32) dX8_back_32 (c_61 _) hx5 (a_61 _ _) ?_
      have hW6 := cor_ca 61 (Int32.toNatClampNeg f) a (show Cor σ σ from Cor.rfl' σ) rfl
      refine R_aload_n (pc := 33) dX8_back_33 rfl rfl ?_
      refine g_X8_37 (pc := 34) (v := .ref 58) rfl dX8_back_34 (c_0 _) rfl ?_
      refine g_X8_230 (pc := 37) (v := .ref 62) rfl dX8_back_37 (c_58 _) rfl ?_
      refine R_iload_n (pc := 40) dX8_back_40 rfl rfl ?_
      refine R_iload_n (pc := 41) dX8_back_41 rfl rfl ?_
      have hx7 : vp_in f 5 := (vp_of_inR h1 (by decide))
      refine W_iastore (pc := 42) dX8_back_42 (c_62 _) hx7 (a_62 _ _) ?_
      have hW8 := cor_ca 62 (Int32.toNatClampNeg f) b hW6 rfl
      refine R_iconst (pc := 43) (v := 1) dX8_back_43 (by decide) ?_
      exact R_iret (pc := 44) dX8_back_44 rfl rfl (Nat.zero_le _) (Nat.zero_le _) ⟨_, rfl, (by first | (simp only [an_back, inB_t h1, h3, cond_true, cond_false, Bool.and_true, Bool.true_and, Bool.and_false, Bool.false_and, Bool.or_true, Bool.true_or, Bool.or_false, Bool.false_or, Bool.not_true, Bool.not_false, decide_true, decide_false, if_true, if_false, Bool.true_eq_false, Bool.false_eq_true]; done) | (simp [an_back, inB_t h1, h3]; done) | (simp only [an_back, inB_t h1, h3, cond_true, cond_false, Bool.and_true, Bool.true_and, Bool.and_false, Bool.false_and, Bool.or_true, Bool.true_or, Bool.or_false, Bool.false_or, Bool.not_true, Bool.not_false, decide_true, decide_false, if_true, if_false, Bool.true_eq_false, Bool.false_eq_true] <;> decide)), _, rfl, hI, (by have e : (K_back f a b) = true := (by first | (simp only [K_back, inB_t h1, h3, cond_true, cond_false, Bool.and_true, Bool.true_and, Bool.and_false, Bool.false_and, Bool.or_true, Bool.true_or, Bool.or_false, Bool.false_or, Bool.not_true, Bool.not_false, decide_true, decide_false, if_true, if_false, Bool.true_eq_false, Bool.false_eq_true]; done) | (simp [K_back, inB_t h1, h3]; done) | (simp only [K_back, inB_t h1, h3, cond_true, cond_false, Bool.and_true, Bool.true_and, Bool.and_false, Bool.false_and, Bool.or_true, Bool.true_or, Bool.or_false, Bool.false_or, Bool.not_true, Bool.not_false, decide_true, decide_false, if_true, if_false, Bool.true_eq_false, Bool.false_eq_true] <;> decide)); rw [e]; exact hW8)⟩
    · skip
      refine R_ifne (pc := 17) 23 dX8_back_17 (by decide) (fun h => absurd (by decide) h) (fun _ => ?_)
      refine R_bipush (pc := 20) (v := (-3)) dX8_back_20 (by decide) ?_
      exact R_iret (pc := 22) dX8_back_22 rfl rfl (Nat.zero_le _) (Nat.zero_le _) ⟨_, rfl, (by first | (simp only [an_back, inB_t h1, h3, cond_true, cond_false, Bool.and_true, Bool.true_and, Bool.and_false, Bool.false_and, Bool.or_true, Bool.true_or, Bool.or_false, Bool.false_or, Bool.not_true, Bool.not_false, decide_true, decide_false, if_true, if_false, Bool.true_eq_false, Bool.false_eq_true]; done) | (simp [an_back, inB_t h1, h3]; done) | (simp only [an_back, inB_t h1, h3, cond_true, cond_false, Bool.and_true, Bool.true_and, Bool.and_false, Bool.false_and, Bool.or_true, Bool.true_or, Bool.or_false, Bool.false_or, Bool.not_true, Bool.not_false, decide_true, decide_false, if_true, if_false, Bool.true_eq_false, Bool.false_eq_true] <;> decide)), _, rfl, hI, (by have e : (K_back f a b) = false := (by first | (simp only [K_back, inB_t h1, h3, cond_true, cond_false, Bool.and_true, Bool.true_and, Bool.and_false, Bool.false_and, Bool.or_true, Bool.true_or, Bool.or_false, Bool.false_or, Bool.not_true, Bool.not_false, decide_true, decide_false, if_true, if_false, Bool.true_eq_false, Bool.false_eq_true]; done) | (simp [K_back, inB_t h1, h3]; done) | (simp only [K_back, inB_t h1, h3, cond_true, cond_false, Bool.and_true, Bool.true_and, Bool.and_false, Bool.false_and, Bool.or_true, Bool.true_or, Bool.or_false, Bool.false_or, Bool.not_true, Bool.not_false, decide_true, decide_false, if_true, if_false, Bool.true_eq_false, Bool.false_eq_true] <;> decide)); rw [e]; exact (show Cor σ σ from Cor.rfl' σ))⟩
  · skip
    refine R_ifne (pc := 6) 12 dX8_back_6 (by decide) (fun h => absurd (by decide) h) (fun _ => ?_)
    refine R_bipush (pc := 9) (v := (-2)) dX8_back_9 (by decide) ?_
    exact R_iret (pc := 11) dX8_back_11 rfl rfl (Nat.zero_le _) (Nat.zero_le _) ⟨_, rfl, (by first | (simp only [an_back, inB_f h1, cond_true, cond_false, Bool.and_true, Bool.true_and, Bool.and_false, Bool.false_and, Bool.or_true, Bool.true_or, Bool.or_false, Bool.false_or, Bool.not_true, Bool.not_false, decide_true, decide_false, if_true, if_false, Bool.true_eq_false, Bool.false_eq_true]; done) | (simp [an_back, inB_f h1]; done) | (simp only [an_back, inB_f h1, cond_true, cond_false, Bool.and_true, Bool.true_and, Bool.and_false, Bool.false_and, Bool.or_true, Bool.true_or, Bool.or_false, Bool.false_or, Bool.not_true, Bool.not_false, decide_true, decide_false, if_true, if_false, Bool.true_eq_false, Bool.false_eq_true] <;> decide)), _, rfl, hI, (by have e : (K_back f a b) = false := (by first | (simp only [K_back, inB_f h1, cond_true, cond_false, Bool.and_true, Bool.true_and, Bool.and_false, Bool.false_and, Bool.or_true, Bool.true_or, Bool.or_false, Bool.false_or, Bool.not_true, Bool.not_false, decide_true, decide_false, if_true, if_false, Bool.true_eq_false, Bool.false_eq_true]; done) | (simp [K_back, inB_f h1]; done) | (simp only [K_back, inB_f h1, cond_true, cond_false, Bool.and_true, Bool.true_and, Bool.and_false, Bool.false_and, Bool.or_true, Bool.true_or, Bool.or_false, Bool.false_or, Bool.not_true, Bool.not_false, decide_true, decide_false, if_true, if_false, Bool.true_eq_false, Bool.false_eq_true] <;> decide)); rw [e]; exact (show Cor σ σ from Cor.rfl' σ))⟩
def E_X8_landmark (σ : Sg) (a b : Int32) : Sg := (uA σ 94 (upd (σ.2.2.1 94) (Int32.toNatClampNeg a) b))
set_option maxRecDepth 100000 in
set_option maxHeartbeats 40000000 in
theorem ge_X8_landmark {G : vG} {l : Launch} (σ : Sg) (a b : Int32) (hI : Inv σ) : Sp G l yX8_landmark cX8_landmark 3 (some .int) 1 0 0 [.ref 0, .int a, .int b] (WW σ) (QI (fun x w2 => x = an_landmark a b ∧ ∃ σ2, w2 = WW σ2 ∧ Inv σ2 ∧ Cor (bif K_landmark a b then (E_X8_landmark σ a b) else σ) σ2)) := by
  refine Sp_of_R [(some (.ref 0)), (some (.int a)), (some (.int b))] [] rfl (by simp) rfl (Nat.le_of_ble_eq_true rfl) ?_
  refine R_iload_n (pc := 0) dX8_landmark_0 rfl rfl ?_
  refine R_iconst (pc := 1) (v := 0) dX8_landmark_1 (by decide) ?_
  refine R_bipush (pc := 2) (v := 7) dX8_landmark_2 (by decide) ?_
  refine k_X8_72 (pc := 4) (sp_X8_isWithin _ _ _ _) rfl (by decide) (Nat.le_refl _) (Nat.le_refl _) (Nat.le_of_ble_eq_true rfl) dX8_landmark_4 (fun x w2 h => ?_)
  rcases h with ⟨rfl, ⟨h1, rfl⟩ | ⟨h1, rfl⟩⟩
  · skip
    refine R_ifne (pc := 7) 13 dX8_landmark_7 (by decide) (fun _ => ?_) (fun h => absurd h (by decide))
    refine R_iload_n (pc := 13) dX8_landmark_13 rfl rfl ?_
    refine R_iconst (pc := 14) (v := 0) dX8_landmark_14 (by decide) ?_
    refine R_bipush (pc := 15) (v := 63) dX8_landmark_15 (by decide) ?_
    refine k_X8_72 (pc := 17) (sp_X8_isWithin _ _ _ _) rfl (by decide) (Nat.le_refl _) (Nat.le_refl _) (Nat.le_of_ble_eq_true rfl) dX8_landmark_17 (fun x w2 h => ?_)
    rcases h with ⟨rfl, ⟨h3, rfl⟩ | ⟨h3, rfl⟩⟩
    · skip
      refine R_ifne (pc := 20) 32 dX8_landmark_20 (by decide) (fun _ => ?_) (fun h => absurd h (by decide))
      refine R_aload_n (pc := 32) dX8_landmark_32 rfl rfl ?_
      refine g_X8_44 (pc := 33) (v := .ref 93) rfl dX8_landmark_33 (c_0 _) rfl ?_
      refine g_X8_264 (pc := 36) (v := .ref 94) rfl dX8_landmark_36 (c_93 _) rfl ?_
      refine R_iload_n (pc := 39) dX8_landmark_39 rfl rfl ?_
      refine R_iload_n (pc := 40) dX8_landmark_40 rfl rfl ?_
      have hx5 : vp_in a 8 := (vp_of_inR h1 (by decide))
      refine W_iastore (pc := 41) dX8_landmark_41 (c_94 _) hx5 (a_94 _ _) ?_
      have hW6 := cor_ca 94 (Int32.toNatClampNeg a) b (show Cor σ σ from Cor.rfl' σ) rfl
      refine R_iconst (pc := 42) (v := 1) dX8_landmark_42 (by decide) ?_
      exact R_iret (pc := 43) dX8_landmark_43 rfl rfl (Nat.zero_le _) (Nat.zero_le _) ⟨_, rfl, (by first | (simp only [an_landmark, inB_t h1, inB_t h3, cond_true, cond_false, Bool.and_true, Bool.true_and, Bool.and_false, Bool.false_and, Bool.or_true, Bool.true_or, Bool.or_false, Bool.false_or, Bool.not_true, Bool.not_false, decide_true, decide_false, if_true, if_false, Bool.true_eq_false, Bool.false_eq_true]; done) | (simp only [an_landmark, inB_t h1, inB_t h3, (lm_eq _ h3), cond_true, cond_false, Bool.and_true, Bool.true_and, Bool.and_false, Bool.false_and, Bool.or_true, Bool.true_or, Bool.or_false, Bool.false_or, Bool.not_true, Bool.not_false, decide_true, decide_false, if_true, if_false, Bool.true_eq_false, Bool.false_eq_true]; done) | (simp only [an_landmark, inB_t h1, inB_t h3, (lm_eq _ h3), cond_true, cond_false, Bool.and_true, Bool.true_and, Bool.and_false, Bool.false_and, Bool.or_true, Bool.true_or, Bool.or_false, Bool.false_or, Bool.not_true, Bool.not_false, decide_true, decide_false, if_true, if_false, Bool.true_eq_false, Bool.false_eq_true]; done) | (simp [an_landmark, inB_t h1, inB_t h3, (lm_eq _ h3)]; done) | (simp only [an_landmark, inB_t h1, inB_t h3, cond_true, cond_false, Bool.and_true, Bool.true_and, Bool.and_false, Bool.false_and, Bool.or_true, Bool.true_or, Bool.or_false, Bool.false_or, Bool.not_true, Bool.not_false, decide_true, decide_false, if_true, if_false, Bool.true_eq_false, Bool.false_eq_true] <;> decide)), _, rfl, hI, (by have e : (K_landmark a b) = true := (by first | (simp only [K_landmark, inB_t h1, inB_t h3, cond_true, cond_false, Bool.and_true, Bool.true_and, Bool.and_false, Bool.false_and, Bool.or_true, Bool.true_or, Bool.or_false, Bool.false_or, Bool.not_true, Bool.not_false, decide_true, decide_false, if_true, if_false, Bool.true_eq_false, Bool.false_eq_true]; done) | (simp only [K_landmark, inB_t h1, inB_t h3, (lm_eq _ h3), cond_true, cond_false, Bool.and_true, Bool.true_and, Bool.and_false, Bool.false_and, Bool.or_true, Bool.true_or, Bool.or_false, Bool.false_or, Bool.not_true, Bool.not_false, decide_true, decide_false, if_true, if_false, Bool.true_eq_false, Bool.false_eq_true]; done) | (simp only [K_landmark, inB_t h1, inB_t h3, (lm_eq _ h3), cond_true, cond_false, Bool.and_true, Bool.true_and, Bool.and_false, Bool.false_and, Bool.or_true, Bool.true_or, Bool.or_false, Bool.false_or, Bool.not_true, Bool.not_false, decide_true, decide_false, if_true, if_false, Bool.true_eq_false, Bool.false_eq_true]; done) | (simp [K_landmark, inB_t h1, inB_t h3, (lm_eq _ h3)]; done) | (simp only [K_landmark, inB_t h1, inB_t h3, cond_true, cond_false, Bool.and_true, Bool.true_and, Bool.and_false, Bool.false_and, Bool.or_true, Bool.true_or, Bool.or_false, Bool.false_or, Bool.not_true, Bool.not_false, decide_true, decide_false, if_true, if_false, Bool.true_eq_false, Bool.false_eq_true] <;> decide)); rw [e]; exact hW6)⟩
    · skip
      refine R_ifne (pc := 20) 32 dX8_landmark_20 (by decide) (fun h => absurd (by decide) h) (fun _ => ?_)
      refine R_iload_n (pc := 23) dX8_landmark_23 rfl rfl ?_
      refine R_bipush (pc := 24) (v := 64) dX8_landmark_24 (by decide) ?_
      refine R_iceq (pc := 26) 32 dX8_landmark_26 (by decide) (fun b26_8 => ?_) (fun b26_8 => ?_)
      · skip
        refine R_aload_n (pc := 32) dX8_landmark_32 rfl rfl ?_
        refine g_X8_44 (pc := 33) (v := .ref 93) rfl dX8_landmark_33 (c_0 _) rfl ?_
        refine g_X8_264 (pc := 36) (v := .ref 94) rfl dX8_landmark_36 (c_93 _) rfl ?_
        refine R_iload_n (pc := 39) dX8_landmark_39 rfl rfl ?_
        refine R_iload_n (pc := 40) dX8_landmark_40 rfl rfl ?_
        have hx9 : vp_in a 8 := (vp_of_inR h1 (by decide))
        refine W_iastore (pc := 41) dX8_landmark_41 (c_94 _) hx9 (a_94 _ _) ?_
        have hW10 := cor_ca 94 (Int32.toNatClampNeg a) b (show Cor σ σ from Cor.rfl' σ) rfl
        refine R_iconst (pc := 42) (v := 1) dX8_landmark_42 (by decide) ?_
        exact R_iret (pc := 43) dX8_landmark_43 rfl rfl (Nat.zero_le _) (Nat.zero_le _) ⟨_, rfl, (by first | (simp only [an_landmark, inB_t h1, inB_f h3, cond_true, cond_false, Bool.and_true, Bool.true_and, Bool.and_false, Bool.false_and, Bool.or_true, Bool.true_or, Bool.or_false, Bool.false_or, Bool.not_true, Bool.not_false, decide_true, decide_false, if_true, if_false, Bool.true_eq_false, Bool.false_eq_true]; done) | (simp only [an_landmark, inB_t h1, inB_f h3, (show inB b 0 64 = true by rw [b26_8]; decide), cond_true, cond_false, Bool.and_true, Bool.true_and, Bool.and_false, Bool.false_and, Bool.or_true, Bool.true_or, Bool.or_false, Bool.false_or, Bool.not_true, Bool.not_false, decide_true, decide_false, if_true, if_false, Bool.true_eq_false, Bool.false_eq_true]; done) | (simp only [an_landmark, inB_t h1, inB_f h3, b26_8, (show inB b 0 64 = true by rw [b26_8]; decide), cond_true, cond_false, Bool.and_true, Bool.true_and, Bool.and_false, Bool.false_and, Bool.or_true, Bool.true_or, Bool.or_false, Bool.false_or, Bool.not_true, Bool.not_false, decide_true, decide_false, if_true, if_false, Bool.true_eq_false, Bool.false_eq_true]; done) | (simp [an_landmark, inB_t h1, inB_f h3, b26_8, (show inB b 0 64 = true by rw [b26_8]; decide)]; done) | (simp only [an_landmark, inB_t h1, inB_f h3, cond_true, cond_false, Bool.and_true, Bool.true_and, Bool.and_false, Bool.false_and, Bool.or_true, Bool.true_or, Bool.or_false, Bool.false_or, Bool.not_true, Bool.not_false, decide_true, decide_false, if_true, if_false, Bool.true_eq_false, Bool.false_eq_true] <;> decide)), _, rfl, hI, (by have e : (K_landmark a b) = true := (by first | (simp only [K_landmark, inB_t h1, inB_f h3, cond_true, cond_false, Bool.and_true, Bool.true_and, Bool.and_false, Bool.false_and, Bool.or_true, Bool.true_or, Bool.or_false, Bool.false_or, Bool.not_true, Bool.not_false, decide_true, decide_false, if_true, if_false, Bool.true_eq_false, Bool.false_eq_true]; done) | (simp only [K_landmark, inB_t h1, inB_f h3, (show inB b 0 64 = true by rw [b26_8]; decide), cond_true, cond_false, Bool.and_true, Bool.true_and, Bool.and_false, Bool.false_and, Bool.or_true, Bool.true_or, Bool.or_false, Bool.false_or, Bool.not_true, Bool.not_false, decide_true, decide_false, if_true, if_false, Bool.true_eq_false, Bool.false_eq_true]; done) | (simp only [K_landmark, inB_t h1, inB_f h3, b26_8, (show inB b 0 64 = true by rw [b26_8]; decide), cond_true, cond_false, Bool.and_true, Bool.true_and, Bool.and_false, Bool.false_and, Bool.or_true, Bool.true_or, Bool.or_false, Bool.false_or, Bool.not_true, Bool.not_false, decide_true, decide_false, if_true, if_false, Bool.true_eq_false, Bool.false_eq_true]; done) | (simp [K_landmark, inB_t h1, inB_f h3, b26_8, (show inB b 0 64 = true by rw [b26_8]; decide)]; done) | (simp only [K_landmark, inB_t h1, inB_f h3, cond_true, cond_false, Bool.and_true, Bool.true_and, Bool.and_false, Bool.false_and, Bool.or_true, Bool.true_or, Bool.or_false, Bool.false_or, Bool.not_true, Bool.not_false, decide_true, decide_false, if_true, if_false, Bool.true_eq_false, Bool.false_eq_true] <;> decide)); rw [e]; exact hW10)⟩
      · skip
        refine R_bipush (pc := 29) (v := (-3)) dX8_landmark_29 (by decide) ?_
        exact R_iret (pc := 31) dX8_landmark_31 rfl rfl (Nat.zero_le _) (Nat.zero_le _) ⟨_, rfl, (by first | (simp only [an_landmark, inB_t h1, inB_f h3, cond_true, cond_false, Bool.and_true, Bool.true_and, Bool.and_false, Bool.false_and, Bool.or_true, Bool.true_or, Bool.or_false, Bool.false_or, Bool.not_true, Bool.not_false, decide_true, decide_false, if_true, if_false, Bool.true_eq_false, Bool.false_eq_true]; done) | (simp only [an_landmark, inB_t h1, inB_f h3, (lm_no _ h3 b26_8), cond_true, cond_false, Bool.and_true, Bool.true_and, Bool.and_false, Bool.false_and, Bool.or_true, Bool.true_or, Bool.or_false, Bool.false_or, Bool.not_true, Bool.not_false, decide_true, decide_false, if_true, if_false, Bool.true_eq_false, Bool.false_eq_true]; done) | (simp only [an_landmark, inB_t h1, inB_f h3, b26_8, (lm_no _ h3 b26_8), cond_true, cond_false, Bool.and_true, Bool.true_and, Bool.and_false, Bool.false_and, Bool.or_true, Bool.true_or, Bool.or_false, Bool.false_or, Bool.not_true, Bool.not_false, decide_true, decide_false, if_true, if_false, Bool.true_eq_false, Bool.false_eq_true]; done) | (simp [an_landmark, inB_t h1, inB_f h3, b26_8, (lm_no _ h3 b26_8)]; done) | (simp only [an_landmark, inB_t h1, inB_f h3, cond_true, cond_false, Bool.and_true, Bool.true_and, Bool.and_false, Bool.false_and, Bool.or_true, Bool.true_or, Bool.or_false, Bool.false_or, Bool.not_true, Bool.not_false, decide_true, decide_false, if_true, if_false, Bool.true_eq_false, Bool.false_eq_true] <;> decide)), _, rfl, hI, (by have e : (K_landmark a b) = false := (by first | (simp only [K_landmark, inB_t h1, inB_f h3, cond_true, cond_false, Bool.and_true, Bool.true_and, Bool.and_false, Bool.false_and, Bool.or_true, Bool.true_or, Bool.or_false, Bool.false_or, Bool.not_true, Bool.not_false, decide_true, decide_false, if_true, if_false, Bool.true_eq_false, Bool.false_eq_true]; done) | (simp only [K_landmark, inB_t h1, inB_f h3, (lm_no _ h3 b26_8), cond_true, cond_false, Bool.and_true, Bool.true_and, Bool.and_false, Bool.false_and, Bool.or_true, Bool.true_or, Bool.or_false, Bool.false_or, Bool.not_true, Bool.not_false, decide_true, decide_false, if_true, if_false, Bool.true_eq_false, Bool.false_eq_true]; done) | (simp only [K_landmark, inB_t h1, inB_f h3, b26_8, (lm_no _ h3 b26_8), cond_true, cond_false, Bool.and_true, Bool.true_and, Bool.and_false, Bool.false_and, Bool.or_true, Bool.true_or, Bool.or_false, Bool.false_or, Bool.not_true, Bool.not_false, decide_true, decide_false, if_true, if_false, Bool.true_eq_false, Bool.false_eq_true]; done) | (simp [K_landmark, inB_t h1, inB_f h3, b26_8, (lm_no _ h3 b26_8)]; done) | (simp only [K_landmark, inB_t h1, inB_f h3, cond_true, cond_false, Bool.and_true, Bool.true_and, Bool.and_false, Bool.false_and, Bool.or_true, Bool.true_or, Bool.or_false, Bool.false_or, Bool.not_true, Bool.not_false, decide_true, decide_false, if_true, if_false, Bool.true_eq_false, Bool.false_eq_true] <;> decide)); rw [e]; exact (show Cor σ σ from Cor.rfl' σ))⟩
  · skip
    refine R_ifne (pc := 7) 13 dX8_landmark_7 (by decide) (fun h => absurd (by decide) h) (fun _ => ?_)
    refine R_bipush (pc := 10) (v := (-2)) dX8_landmark_10 (by decide) ?_
    exact R_iret (pc := 12) dX8_landmark_12 rfl rfl (Nat.zero_le _) (Nat.zero_le _) ⟨_, rfl, (by first | (simp only [an_landmark, inB_f h1, cond_true, cond_false, Bool.and_true, Bool.true_and, Bool.and_false, Bool.false_and, Bool.or_true, Bool.true_or, Bool.or_false, Bool.false_or, Bool.not_true, Bool.not_false, decide_true, decide_false, if_true, if_false, Bool.true_eq_false, Bool.false_eq_true]; done) | (simp [an_landmark, inB_f h1]; done) | (simp only [an_landmark, inB_f h1, cond_true, cond_false, Bool.and_true, Bool.true_and, Bool.and_false, Bool.false_and, Bool.or_true, Bool.true_or, Bool.or_false, Bool.false_or, Bool.not_true, Bool.not_false, decide_true, decide_false, if_true, if_false, Bool.true_eq_false, Bool.false_eq_true] <;> decide)), _, rfl, hI, (by have e : (K_landmark a b) = false := (by first | (simp only [K_landmark, inB_f h1, cond_true, cond_false, Bool.and_true, Bool.true_and, Bool.and_false, Bool.false_and, Bool.or_true, Bool.true_or, Bool.or_false, Bool.false_or, Bool.not_true, Bool.not_false, decide_true, decide_false, if_true, if_false, Bool.true_eq_false, Bool.false_eq_true]; done) | (simp [K_landmark, inB_f h1]; done) | (simp only [K_landmark, inB_f h1, cond_true, cond_false, Bool.and_true, Bool.true_and, Bool.and_false, Bool.false_and, Bool.or_true, Bool.true_or, Bool.or_false, Bool.false_or, Bool.not_true, Bool.not_false, decide_true, decide_false, if_true, if_false, Bool.true_eq_false, Bool.false_eq_true] <;> decide)); rw [e]; exact (show Cor σ σ from Cor.rfl' σ))⟩
def E_X8_walls (σ : Sg) (a : Int64) : Sg := (uJ σ 9301 a)
set_option maxRecDepth 100000 in
set_option maxHeartbeats 40000000 in
theorem ge_X8_walls {G : vG} {l : Launch} (σ : Sg) (a : Int64) (hI : Inv σ) : Sp G l yX8_walls cX8_walls 3 (some .int) 0 0 0 [.ref 0, .long a] (WW σ) (QI (fun x w2 => x = 1 ∧ ∃ σ2, w2 = WW σ2 ∧ Inv σ2 ∧ Cor (E_X8_walls σ a) σ2)) := by
  refine Sp_of_R [(some (.ref 0)), (some (.long a)), none] [] rfl (by simp) rfl (Nat.le_of_ble_eq_true rfl) ?_
  refine R_aload_n (pc := 0) dX8_walls_0 rfl rfl ?_
  refine g_X8_44 (pc := 1) (v := .ref 93) rfl dX8_walls_1 (c_0 _) rfl ?_
  refine R_lload_n (pc := 4) dX8_walls_4 rfl rfl ?_
  refine p_X8_267 (pc := 5) rfl dX8_walls_5 (c_93 _) (Nat.le_of_ble_eq_true rfl) rfl rfl (s_93_1 _ _) ?_
  have hW1 := cor_cj 9301 a (show Cor σ σ from Cor.rfl' σ)
  refine R_iconst (pc := 8) (v := 1) dX8_walls_8 (by decide) ?_
  exact R_iret (pc := 9) dX8_walls_9 rfl rfl (Nat.zero_le _) (Nat.zero_le _) ⟨_, rfl, rfl, _, rfl, hI, hW1⟩
def E_X8_shows (σ : Sg) (c f v : Int32) : Sg := (uA σ (64 + (Int32.toNatClampNeg c)) (upd (σ.2.2.1 (64 + (Int32.toNatClampNeg c))) (Int32.toNatClampNeg f) v))
set_option maxRecDepth 100000 in
set_option maxHeartbeats 40000000 in
theorem ge_X8_shows {G : vG} {l : Launch} (σ : Sg) (c f v : Int32) (hI : Inv σ) : Sp G l yX8_shows cX8_shows 5 (some .int) 1 0 0 [.ref 0, .int c, .int f, .int v] (WW σ) (QI (fun x w2 => x = A_shows (thC σ c) f v (σ.2.2.1 (64 + (Int32.toNatClampNeg c)) (Int32.toNatClampNeg f)) ∧ ∃ σ2, w2 = WW σ2 ∧ Inv σ2 ∧ Cor (bif K_shows (thC σ c) f v then (E_X8_shows σ c f v) else σ) σ2)) := by
  refine Sp_of_R [(some (.ref 0)), (some (.int c)), (some (.int f)), (some (.int v)), none] [none] rfl (by simp) rfl (Nat.le_of_ble_eq_true rfl) ?_
  refine R_aload_n (pc := 0) dX8_shows_0 rfl rfl ?_
  refine g_X8_10 (pc := 1) (v := .ref 1) rfl dX8_shows_1 (c_0 _) rfl ?_
  refine R_iload_n (pc := 4) dX8_shows_4 rfl rfl ?_
  refine k_X8_90 (pc := 5) (ge_X0_isThere _ _ hI) rfl (c_1 _) (by decide) (Nat.le_refl _) (Nat.le_refl _) (Nat.le_of_ble_eq_true rfl) dX8_shows_5 (fun x w2 h => ?_)
  rcases h with ⟨rfl, ⟨h1, rfl⟩ | ⟨h1, rfl⟩⟩
  · skip
    refine R_ifeq (pc := 8) 21 dX8_shows_8 (by decide) (fun h => absurd h (by decide)) (fun _ => ?_)
    refine R_iload_n (pc := 11) dX8_shows_11 rfl rfl ?_
    refine R_iconst (pc := 12) (v := 0) dX8_shows_12 (by decide) ?_
    refine R_bipush (pc := 13) (v := 7) dX8_shows_13 (by decide) ?_
    refine k_X8_72 (pc := 15) (sp_X8_isWithin _ _ _ _) rfl (by decide) (Nat.le_refl _) (Nat.le_refl _) (Nat.le_of_ble_eq_true rfl) dX8_shows_15 (fun x w2 h => ?_)
    rcases h with ⟨rfl, ⟨h3, rfl⟩ | ⟨h3, rfl⟩⟩
    · skip
      refine R_ifne (pc := 18) 24 dX8_shows_18 (by decide) (fun _ => ?_) (fun h => absurd h (by decide))
      refine R_iload_n (pc := 24) dX8_shows_24 rfl rfl ?_
      refine R_ifeq (pc := 25) 41 dX8_shows_25 (by decide) (fun b25_5 => ?_) (fun b25_5 => ?_)
      · skip
        refine R_aload_n (pc := 41) dX8_shows_41 rfl rfl ?_
        refine g_X8_37 (pc := 42) (v := .ref 58) rfl dX8_shows_42 (c_0 _) rfl ?_
        refine g_X8_224 (pc := 45) (v := .ref 63) rfl dX8_shows_45 (c_58 _) rfl ?_
        refine R_iload_n (pc := 48) dX8_shows_48 rfl rfl ?_
        have hx6 : vp_in c 20 := (vp_of_inR (thC_r hI h1) (by decide))
        refine R_aaload (pc := 49) (b := 64 + (Int32.toNatClampNeg c)) dX8_shows_49 (c_63 _) hx6 (if_pos (lt_of_vp hx6)) ?_
        refine R_iload_n (pc := 50) dX8_shows_50 rfl rfl ?_
        have hx7 : vp_in f 8 := (vp_of_inR h3 (by decide))
        refine R_iaload (pc := 51) dX8_shows_51 (r_63 _ _ (lt_of_vp hx6)) hx7 ?_
        refine st_5_4_i_i (pc := 52) dX8_shows_52 ?_
        refine R_aload_n (pc := 54) dX8_shows_54 rfl rfl ?_
        refine g_X8_37 (pc := 55) (v := .ref 58) rfl dX8_shows_55 (c_0 _) rfl ?_
        refine g_X8_224 (pc := 58) (v := .ref 63) rfl dX8_shows_58 (c_58 _) rfl ?_
        refine R_iload_n (pc := 61) dX8_shows_61 rfl rfl ?_
        have hx8 : vp_in c 20 := (vp_of_inR (thC_r hI h1) (by decide))
        refine R_aaload (pc := 62) (b := 64 + (Int32.toNatClampNeg c)) dX8_shows_62 (c_63 _) hx8 (if_pos (lt_of_vp hx8)) ?_
        refine R_iload_n (pc := 63) dX8_shows_63 rfl rfl ?_
        refine R_iload_n (pc := 64) dX8_shows_64 rfl rfl ?_
        have hx9 : vp_in f 8 := (vp_of_inR h3 (by decide))
        refine W_iastore (pc := 65) dX8_shows_65 (r_63 _ _ (lt_of_vp hx8)) hx9 (ra_63 _ _ _ (lt_of_vp hx8)) ?_
        have hV10 := sr_64 hI (upd (σ.2.2.1 (64 + (Int32.toNatClampNeg c))) (Int32.toNatClampNeg f) v) _ (lt_of_vp hx8)
        have hW11 := cor_ca (64 + (Int32.toNatClampNeg c)) (Int32.toNatClampNeg f) v (show Cor σ σ from Cor.rfl' σ) (scA_64 (lt_of_vp hx8))
        refine R_iload (pc := 66) dX8_shows_66 rfl ?_
        exact R_iret (pc := 68) dX8_shows_68 rfl rfl (Nat.zero_le _) (Nat.zero_le _) ⟨_, rfl, (by first | (simp only [A_shows, h1, inB_t h3, cond_true, cond_false, Bool.and_true, Bool.true_and, Bool.and_false, Bool.false_and, Bool.or_true, Bool.true_or, Bool.or_false, Bool.false_or, Bool.not_true, Bool.not_false, decide_true, decide_false, if_true, if_false, Bool.true_eq_false, Bool.false_eq_true]; done) | (simp only [A_shows, h1, inB_t h3, (inB_i0 b25_5), cond_true, cond_false, Bool.and_true, Bool.true_and, Bool.and_false, Bool.false_and, Bool.or_true, Bool.true_or, Bool.or_false, Bool.false_or, Bool.not_true, Bool.not_false, decide_true, decide_false, if_true, if_false, Bool.true_eq_false, Bool.false_eq_true]; done) | (simp only [A_shows, h1, inB_t h3, b25_5, (inB_i0 b25_5), cond_true, cond_false, Bool.and_true, Bool.true_and, Bool.and_false, Bool.false_and, Bool.or_true, Bool.true_or, Bool.or_false, Bool.false_or, Bool.not_true, Bool.not_false, decide_true, decide_false, if_true, if_false, Bool.true_eq_false, Bool.false_eq_true]; done) | (simp [A_shows, h1, inB_t h3, b25_5, (inB_i0 b25_5)]; done) | (simp only [A_shows, h1, inB_t h3, cond_true, cond_false, Bool.and_true, Bool.true_and, Bool.and_false, Bool.false_and, Bool.or_true, Bool.true_or, Bool.or_false, Bool.false_or, Bool.not_true, Bool.not_false, decide_true, decide_false, if_true, if_false, Bool.true_eq_false, Bool.false_eq_true] <;> decide)), _, rfl, hV10, (by have e : (K_shows (thC σ c) f v) = true := (by first | (simp only [K_shows, h1, inB_t h3, cond_true, cond_false, Bool.and_true, Bool.true_and, Bool.and_false, Bool.false_and, Bool.or_true, Bool.true_or, Bool.or_false, Bool.false_or, Bool.not_true, Bool.not_false, decide_true, decide_false, if_true, if_false, Bool.true_eq_false, Bool.false_eq_true]; done) | (simp only [K_shows, h1, inB_t h3, (inB_i0 b25_5), cond_true, cond_false, Bool.and_true, Bool.true_and, Bool.and_false, Bool.false_and, Bool.or_true, Bool.true_or, Bool.or_false, Bool.false_or, Bool.not_true, Bool.not_false, decide_true, decide_false, if_true, if_false, Bool.true_eq_false, Bool.false_eq_true]; done) | (simp only [K_shows, h1, inB_t h3, b25_5, (inB_i0 b25_5), cond_true, cond_false, Bool.and_true, Bool.true_and, Bool.and_false, Bool.false_and, Bool.or_true, Bool.true_or, Bool.or_false, Bool.false_or, Bool.not_true, Bool.not_false, decide_true, decide_false, if_true, if_false, Bool.true_eq_false, Bool.false_eq_true]; done) | (simp [K_shows, h1, inB_t h3, b25_5, (inB_i0 b25_5)]; done) | (simp only [K_shows, h1, inB_t h3, cond_true, cond_false, Bool.and_true, Bool.true_and, Bool.and_false, Bool.false_and, Bool.or_true, Bool.true_or, Bool.or_false, Bool.false_or, Bool.not_true, Bool.not_false, decide_true, decide_false, if_true, if_false, Bool.true_eq_false, Bool.false_eq_true] <;> decide)); rw [e]; exact hW11)⟩
      · skip
        refine R_iload_n (pc := 28) dX8_shows_28 rfl rfl ?_
        refine R_iconst (pc := 29) (v := 1) dX8_shows_29 (by decide) ?_
        refine R_iceq (pc := 30) 41 dX8_shows_30 (by decide) (fun b30_12 => ?_) (fun b30_12 => ?_)
        · skip
          refine R_aload_n (pc := 41) dX8_shows_41 rfl rfl ?_
          refine g_X8_37 (pc := 42) (v := .ref 58) rfl dX8_shows_42 (c_0 _) rfl ?_
          refine g_X8_224 (pc := 45) (v := .ref 63) rfl dX8_shows_45 (c_58 _) rfl ?_
          refine R_iload_n (pc := 48) dX8_shows_48 rfl rfl ?_
          have hx13 : vp_in c 20 := (vp_of_inR (thC_r hI h1) (by decide))
          refine R_aaload (pc := 49) (b := 64 + (Int32.toNatClampNeg c)) dX8_shows_49 (c_63 _) hx13 (if_pos (lt_of_vp hx13)) ?_
          refine R_iload_n (pc := 50) dX8_shows_50 rfl rfl ?_
          have hx14 : vp_in f 8 := (vp_of_inR h3 (by decide))
          refine R_iaload (pc := 51) dX8_shows_51 (r_63 _ _ (lt_of_vp hx13)) hx14 ?_
          refine st_5_4_i_i (pc := 52) dX8_shows_52 ?_
          refine R_aload_n (pc := 54) dX8_shows_54 rfl rfl ?_
          refine g_X8_37 (pc := 55) (v := .ref 58) rfl dX8_shows_55 (c_0 _) rfl ?_
          refine g_X8_224 (pc := 58) (v := .ref 63) rfl dX8_shows_58 (c_58 _) rfl ?_
          refine R_iload_n (pc := 61) dX8_shows_61 rfl rfl ?_
          have hx15 : vp_in c 20 := (vp_of_inR (thC_r hI h1) (by decide))
          refine R_aaload (pc := 62) (b := 64 + (Int32.toNatClampNeg c)) dX8_shows_62 (c_63 _) hx15 (if_pos (lt_of_vp hx15)) ?_
          refine R_iload_n (pc := 63) dX8_shows_63 rfl rfl ?_
          refine R_iload_n (pc := 64) dX8_shows_64 rfl rfl ?_
          have hx16 : vp_in f 8 := (vp_of_inR h3 (by decide))
          refine W_iastore (pc := 65) dX8_shows_65 (r_63 _ _ (lt_of_vp hx15)) hx16 (ra_63 _ _ _ (lt_of_vp hx15)) ?_
          have hV17 := sr_64 hI (upd (σ.2.2.1 (64 + (Int32.toNatClampNeg c))) (Int32.toNatClampNeg f) v) _ (lt_of_vp hx15)
          have hW18 := cor_ca (64 + (Int32.toNatClampNeg c)) (Int32.toNatClampNeg f) v (show Cor σ σ from Cor.rfl' σ) (scA_64 (lt_of_vp hx15))
          refine R_iload (pc := 66) dX8_shows_66 rfl ?_
          exact R_iret (pc := 68) dX8_shows_68 rfl rfl (Nat.zero_le _) (Nat.zero_le _) ⟨_, rfl, (by first | (simp only [A_shows, h1, inB_t h3, cond_true, cond_false, Bool.and_true, Bool.true_and, Bool.and_false, Bool.false_and, Bool.or_true, Bool.true_or, Bool.or_false, Bool.false_or, Bool.not_true, Bool.not_false, decide_true, decide_false, if_true, if_false, Bool.true_eq_false, Bool.false_eq_true]; done) | (simp only [A_shows, h1, inB_t h3, (inB_i1 b30_12), cond_true, cond_false, Bool.and_true, Bool.true_and, Bool.and_false, Bool.false_and, Bool.or_true, Bool.true_or, Bool.or_false, Bool.false_or, Bool.not_true, Bool.not_false, decide_true, decide_false, if_true, if_false, Bool.true_eq_false, Bool.false_eq_true]; done) | (simp only [A_shows, h1, inB_t h3, b25_5, b30_12, (inB_i1 b30_12), cond_true, cond_false, Bool.and_true, Bool.true_and, Bool.and_false, Bool.false_and, Bool.or_true, Bool.true_or, Bool.or_false, Bool.false_or, Bool.not_true, Bool.not_false, decide_true, decide_false, if_true, if_false, Bool.true_eq_false, Bool.false_eq_true]; done) | (simp [A_shows, h1, inB_t h3, b25_5, b30_12, (inB_i1 b30_12)]; done) | (simp only [A_shows, h1, inB_t h3, cond_true, cond_false, Bool.and_true, Bool.true_and, Bool.and_false, Bool.false_and, Bool.or_true, Bool.true_or, Bool.or_false, Bool.false_or, Bool.not_true, Bool.not_false, decide_true, decide_false, if_true, if_false, Bool.true_eq_false, Bool.false_eq_true] <;> decide)), _, rfl, hV17, (by have e : (K_shows (thC σ c) f v) = true := (by first | (simp only [K_shows, h1, inB_t h3, cond_true, cond_false, Bool.and_true, Bool.true_and, Bool.and_false, Bool.false_and, Bool.or_true, Bool.true_or, Bool.or_false, Bool.false_or, Bool.not_true, Bool.not_false, decide_true, decide_false, if_true, if_false, Bool.true_eq_false, Bool.false_eq_true]; done) | (simp only [K_shows, h1, inB_t h3, (inB_i1 b30_12), cond_true, cond_false, Bool.and_true, Bool.true_and, Bool.and_false, Bool.false_and, Bool.or_true, Bool.true_or, Bool.or_false, Bool.false_or, Bool.not_true, Bool.not_false, decide_true, decide_false, if_true, if_false, Bool.true_eq_false, Bool.false_eq_true]; done) | (simp only [K_shows, h1, inB_t h3, b25_5, b30_12, (inB_i1 b30_12), cond_true, cond_false, Bool.and_true, Bool.true_and, Bool.and_false, Bool.false_and, Bool.or_true, Bool.true_or, Bool.or_false, Bool.false_or, Bool.not_true, Bool.not_false, decide_true, decide_false, if_true, if_false, Bool.true_eq_false, Bool.false_eq_true]; done) | (simp [K_shows, h1, inB_t h3, b25_5, b30_12, (inB_i1 b30_12)]; done) | (simp only [K_shows, h1, inB_t h3, cond_true, cond_false, Bool.and_true, Bool.true_and, Bool.and_false, Bool.false_and, Bool.or_true, Bool.true_or, Bool.or_false, Bool.false_or, Bool.not_true, Bool.not_false, decide_true, decide_false, if_true, if_false, Bool.true_eq_false, Bool.false_eq_true] <;> decide)); rw [e]; exact hW18)⟩
        · skip
          refine R_iload_n (pc := 33) dX8_shows_33 rfl rfl ?_
          refine R_iconst (pc := 34) (v := 2) dX8_shows_34 (by decide) ?_
          refine R_iceq (pc := 35) 41 dX8_shows_35 (by decide) (fun b35_19 => ?_) (fun b35_19 => ?_)
          · skip
            refine R_aload_n (pc := 41) dX8_shows_41 rfl rfl ?_
            refine g_X8_37 (pc := 42) (v := .ref 58) rfl dX8_shows_42 (c_0 _) rfl ?_
            refine g_X8_224 (pc := 45) (v := .ref 63) rfl dX8_shows_45 (c_58 _) rfl ?_
            refine R_iload_n (pc := 48) dX8_shows_48 rfl rfl ?_
            have hx20 : vp_in c 20 := (vp_of_inR (thC_r hI h1) (by decide))
            refine R_aaload (pc := 49) (b := 64 + (Int32.toNatClampNeg c)) dX8_shows_49 (c_63 _) hx20 (if_pos (lt_of_vp hx20)) ?_
            refine R_iload_n (pc := 50) dX8_shows_50 rfl rfl ?_
            have hx21 : vp_in f 8 := (vp_of_inR h3 (by decide))
            refine R_iaload (pc := 51) dX8_shows_51 (r_63 _ _ (lt_of_vp hx20)) hx21 ?_
            refine st_5_4_i_i (pc := 52) dX8_shows_52 ?_
            refine R_aload_n (pc := 54) dX8_shows_54 rfl rfl ?_
            refine g_X8_37 (pc := 55) (v := .ref 58) rfl dX8_shows_55 (c_0 _) rfl ?_
            refine g_X8_224 (pc := 58) (v := .ref 63) rfl dX8_shows_58 (c_58 _) rfl ?_
            refine R_iload_n (pc := 61) dX8_shows_61 rfl rfl ?_
            have hx22 : vp_in c 20 := (vp_of_inR (thC_r hI h1) (by decide))
            refine R_aaload (pc := 62) (b := 64 + (Int32.toNatClampNeg c)) dX8_shows_62 (c_63 _) hx22 (if_pos (lt_of_vp hx22)) ?_
            refine R_iload_n (pc := 63) dX8_shows_63 rfl rfl ?_
            refine R_iload_n (pc := 64) dX8_shows_64 rfl rfl ?_
            have hx23 : vp_in f 8 := (vp_of_inR h3 (by decide))
            refine W_iastore (pc := 65) dX8_shows_65 (r_63 _ _ (lt_of_vp hx22)) hx23 (ra_63 _ _ _ (lt_of_vp hx22)) ?_
            have hV24 := sr_64 hI (upd (σ.2.2.1 (64 + (Int32.toNatClampNeg c))) (Int32.toNatClampNeg f) v) _ (lt_of_vp hx22)
            have hW25 := cor_ca (64 + (Int32.toNatClampNeg c)) (Int32.toNatClampNeg f) v (show Cor σ σ from Cor.rfl' σ) (scA_64 (lt_of_vp hx22))
            refine R_iload (pc := 66) dX8_shows_66 rfl ?_
            exact R_iret (pc := 68) dX8_shows_68 rfl rfl (Nat.zero_le _) (Nat.zero_le _) ⟨_, rfl, (by first | (simp only [A_shows, h1, inB_t h3, cond_true, cond_false, Bool.and_true, Bool.true_and, Bool.and_false, Bool.false_and, Bool.or_true, Bool.true_or, Bool.or_false, Bool.false_or, Bool.not_true, Bool.not_false, decide_true, decide_false, if_true, if_false, Bool.true_eq_false, Bool.false_eq_true]; done) | (simp only [A_shows, h1, inB_t h3, (inB_i2 b35_19), cond_true, cond_false, Bool.and_true, Bool.true_and, Bool.and_false, Bool.false_and, Bool.or_true, Bool.true_or, Bool.or_false, Bool.false_or, Bool.not_true, Bool.not_false, decide_true, decide_false, if_true, if_false, Bool.true_eq_false, Bool.false_eq_true]; done) | (simp only [A_shows, h1, inB_t h3, b25_5, b30_12, b35_19, (inB_i2 b35_19), cond_true, cond_false, Bool.and_true, Bool.true_and, Bool.and_false, Bool.false_and, Bool.or_true, Bool.true_or, Bool.or_false, Bool.false_or, Bool.not_true, Bool.not_false, decide_true, decide_false, if_true, if_false, Bool.true_eq_false, Bool.false_eq_true]; done) | (simp [A_shows, h1, inB_t h3, b25_5, b30_12, b35_19, (inB_i2 b35_19)]; done) | (simp only [A_shows, h1, inB_t h3, cond_true, cond_false, Bool.and_true, Bool.true_and, Bool.and_false, Bool.false_and, Bool.or_true, Bool.true_or, Bool.or_false, Bool.false_or, Bool.not_true, Bool.not_false, decide_true, decide_false, if_true, if_false, Bool.true_eq_false, Bool.false_eq_true] <;> decide)), _, rfl, hV24, (by have e : (K_shows (thC σ c) f v) = true := (by first | (simp only [K_shows, h1, inB_t h3, cond_true, cond_false, Bool.and_true, Bool.true_and, Bool.and_false, Bool.false_and, Bool.or_true, Bool.true_or, Bool.or_false, Bool.false_or, Bool.not_true, Bool.not_false, decide_true, decide_false, if_true, if_false, Bool.true_eq_false, Bool.false_eq_true]; done) | (simp only [K_shows, h1, inB_t h3, (inB_i2 b35_19), cond_true, cond_false, Bool.and_true, Bool.true_and, Bool.and_false, Bool.false_and, Bool.or_true, Bool.true_or, Bool.or_false, Bool.false_or, Bool.not_true, Bool.not_false, decide_true, decide_false, if_true, if_false, Bool.true_eq_false, Bool.false_eq_true]; done) | (simp only [K_shows, h1, inB_t h3, b25_5, b30_12, b35_19, (inB_i2 b35_19), cond_true, cond_false, Bool.and_true, Bool.true_and, Bool.and_false, Bool.false_and, Bool.or_true, Bool.true_or, Bool.or_false, Bool.false_or, Bool.not_true, Bool.not_false, decide_true, decide_false, if_true, if_false, Bool.true_eq_false, Bool.false_eq_true]; done) | (simp [K_shows, h1, inB_t h3, b25_5, b30_12, b35_19, (inB_i2 b35_19)]; done) | (simp only [K_shows, h1, inB_t h3, cond_true, cond_false, Bool.and_true, Bool.true_and, Bool.and_false, Bool.false_and, Bool.or_true, Bool.true_or, Bool.or_false, Bool.false_or, Bool.not_true, Bool.not_false, decide_true, decide_false, if_true, if_false, Bool.true_eq_false, Bool.false_eq_true] <;> decide)); rw [e]; exact hW25)⟩
          · skip
            refine R_bipush (pc := 38) (v := (-3)) dX8_shows_38 (by decide) ?_
            exact R_iret (pc := 40) dX8_shows_40 rfl rfl (Nat.zero_le _) (Nat.zero_le _) ⟨_, rfl, (by first | (simp only [A_shows, h1, inB_t h3, cond_true, cond_false, Bool.and_true, Bool.true_and, Bool.and_false, Bool.false_and, Bool.or_true, Bool.true_or, Bool.or_false, Bool.false_or, Bool.not_true, Bool.not_false, decide_true, decide_false, if_true, if_false, Bool.true_eq_false, Bool.false_eq_true]; done) | (simp only [A_shows, h1, inB_t h3, (inB_no3 b25_5 b30_12 b35_19), cond_true, cond_false, Bool.and_true, Bool.true_and, Bool.and_false, Bool.false_and, Bool.or_true, Bool.true_or, Bool.or_false, Bool.false_or, Bool.not_true, Bool.not_false, decide_true, decide_false, if_true, if_false, Bool.true_eq_false, Bool.false_eq_true]; done) | (simp only [A_shows, h1, inB_t h3, b25_5, b30_12, b35_19, (inB_no3 b25_5 b30_12 b35_19), cond_true, cond_false, Bool.and_true, Bool.true_and, Bool.and_false, Bool.false_and, Bool.or_true, Bool.true_or, Bool.or_false, Bool.false_or, Bool.not_true, Bool.not_false, decide_true, decide_false, if_true, if_false, Bool.true_eq_false, Bool.false_eq_true]; done) | (simp [A_shows, h1, inB_t h3, b25_5, b30_12, b35_19, (inB_no3 b25_5 b30_12 b35_19)]; done) | (simp only [A_shows, h1, inB_t h3, cond_true, cond_false, Bool.and_true, Bool.true_and, Bool.and_false, Bool.false_and, Bool.or_true, Bool.true_or, Bool.or_false, Bool.false_or, Bool.not_true, Bool.not_false, decide_true, decide_false, if_true, if_false, Bool.true_eq_false, Bool.false_eq_true] <;> decide)), _, rfl, hI, (by have e : (K_shows (thC σ c) f v) = false := (by first | (simp only [K_shows, h1, inB_t h3, cond_true, cond_false, Bool.and_true, Bool.true_and, Bool.and_false, Bool.false_and, Bool.or_true, Bool.true_or, Bool.or_false, Bool.false_or, Bool.not_true, Bool.not_false, decide_true, decide_false, if_true, if_false, Bool.true_eq_false, Bool.false_eq_true]; done) | (simp only [K_shows, h1, inB_t h3, (inB_no3 b25_5 b30_12 b35_19), cond_true, cond_false, Bool.and_true, Bool.true_and, Bool.and_false, Bool.false_and, Bool.or_true, Bool.true_or, Bool.or_false, Bool.false_or, Bool.not_true, Bool.not_false, decide_true, decide_false, if_true, if_false, Bool.true_eq_false, Bool.false_eq_true]; done) | (simp only [K_shows, h1, inB_t h3, b25_5, b30_12, b35_19, (inB_no3 b25_5 b30_12 b35_19), cond_true, cond_false, Bool.and_true, Bool.true_and, Bool.and_false, Bool.false_and, Bool.or_true, Bool.true_or, Bool.or_false, Bool.false_or, Bool.not_true, Bool.not_false, decide_true, decide_false, if_true, if_false, Bool.true_eq_false, Bool.false_eq_true]; done) | (simp [K_shows, h1, inB_t h3, b25_5, b30_12, b35_19, (inB_no3 b25_5 b30_12 b35_19)]; done) | (simp only [K_shows, h1, inB_t h3, cond_true, cond_false, Bool.and_true, Bool.true_and, Bool.and_false, Bool.false_and, Bool.or_true, Bool.true_or, Bool.or_false, Bool.false_or, Bool.not_true, Bool.not_false, decide_true, decide_false, if_true, if_false, Bool.true_eq_false, Bool.false_eq_true] <;> decide)); rw [e]; exact (show Cor σ σ from Cor.rfl' σ))⟩
    · skip
      refine R_ifne (pc := 18) 24 dX8_shows_18 (by decide) (fun h => absurd (by decide) h) (fun _ => ?_)
      refine R_bipush (pc := 21) (v := (-2)) dX8_shows_21 (by decide) ?_
      exact R_iret (pc := 23) dX8_shows_23 rfl rfl (Nat.zero_le _) (Nat.zero_le _) ⟨_, rfl, (by first | (simp only [A_shows, h1, inB_f h3, cond_true, cond_false, Bool.and_true, Bool.true_and, Bool.and_false, Bool.false_and, Bool.or_true, Bool.true_or, Bool.or_false, Bool.false_or, Bool.not_true, Bool.not_false, decide_true, decide_false, if_true, if_false, Bool.true_eq_false, Bool.false_eq_true]; done) | (simp [A_shows, h1, inB_f h3]; done) | (simp only [A_shows, h1, inB_f h3, cond_true, cond_false, Bool.and_true, Bool.true_and, Bool.and_false, Bool.false_and, Bool.or_true, Bool.true_or, Bool.or_false, Bool.false_or, Bool.not_true, Bool.not_false, decide_true, decide_false, if_true, if_false, Bool.true_eq_false, Bool.false_eq_true] <;> decide)), _, rfl, hI, (by have e : (K_shows (thC σ c) f v) = false := (by first | (simp only [K_shows, h1, inB_f h3, cond_true, cond_false, Bool.and_true, Bool.true_and, Bool.and_false, Bool.false_and, Bool.or_true, Bool.true_or, Bool.or_false, Bool.false_or, Bool.not_true, Bool.not_false, decide_true, decide_false, if_true, if_false, Bool.true_eq_false, Bool.false_eq_true]; done) | (simp [K_shows, h1, inB_f h3]; done) | (simp only [K_shows, h1, inB_f h3, cond_true, cond_false, Bool.and_true, Bool.true_and, Bool.and_false, Bool.false_and, Bool.or_true, Bool.true_or, Bool.or_false, Bool.false_or, Bool.not_true, Bool.not_false, decide_true, decide_false, if_true, if_false, Bool.true_eq_false, Bool.false_eq_true] <;> decide)); rw [e]; exact (show Cor σ σ from Cor.rfl' σ))⟩
  · skip
    refine R_ifeq (pc := 8) 21 dX8_shows_8 (by decide) (fun _ => ?_) (fun h => absurd (by decide) h)
    refine R_bipush (pc := 21) (v := (-2)) dX8_shows_21 (by decide) ?_
    exact R_iret (pc := 23) dX8_shows_23 rfl rfl (Nat.zero_le _) (Nat.zero_le _) ⟨_, rfl, (by first | (simp only [A_shows, h1, cond_true, cond_false, Bool.and_true, Bool.true_and, Bool.and_false, Bool.false_and, Bool.or_true, Bool.true_or, Bool.or_false, Bool.false_or, Bool.not_true, Bool.not_false, decide_true, decide_false, if_true, if_false, Bool.true_eq_false, Bool.false_eq_true]; done) | (simp [A_shows, h1]; done) | (simp only [A_shows, h1, cond_true, cond_false, Bool.and_true, Bool.true_and, Bool.and_false, Bool.false_and, Bool.or_true, Bool.true_or, Bool.or_false, Bool.false_or, Bool.not_true, Bool.not_false, decide_true, decide_false, if_true, if_false, Bool.true_eq_false, Bool.false_eq_true] <;> decide)), _, rfl, hI, (by have e : (K_shows (thC σ c) f v) = false := (by first | (simp only [K_shows, h1, cond_true, cond_false, Bool.and_true, Bool.true_and, Bool.and_false, Bool.false_and, Bool.or_true, Bool.true_or, Bool.or_false, Bool.false_or, Bool.not_true, Bool.not_false, decide_true, decide_false, if_true, if_false, Bool.true_eq_false, Bool.false_eq_true]; done) | (simp [K_shows, h1]; done) | (simp only [K_shows, h1, cond_true, cond_false, Bool.and_true, Bool.true_and, Bool.and_false, Bool.false_and, Bool.or_true, Bool.true_or, Bool.or_false, Bool.false_or, Bool.not_true, Bool.not_false, decide_true, decide_false, if_true, if_false, Bool.true_eq_false, Bool.false_eq_true] <;> decide)); rw [e]; exact (show Cor σ σ from Cor.rfl' σ))⟩
def E_X8_later (σ : Sg) (a b : Int32) : Sg := (uI (uA (uA σ 84 (upd (σ.2.2.1 84) (Int32.toNatClampNeg (σ.1 5809)) a)) 85 (upd (σ.2.2.1 85) (Int32.toNatClampNeg (σ.1 5809)) b)) 5809 ((σ.1 5809) + 1))
set_option maxRecDepth 100000 in
set_option maxHeartbeats 40000000 in
theorem ge_X8_later {G : vG} {l : Launch} (σ : Sg) (a b : Int32) (hI : Inv σ) : Sp G l yX8_later cX8_later 3 (some .int) 2 0 0 [.ref 0, .int a, .int b] (WW σ) (QI (fun x w2 => x = A_later (ttC σ a b) (σ.1 5809) ∧ ∃ σ2, w2 = WW σ2 ∧ Inv σ2 ∧ Cor (bif K_later (ttC σ a b) (σ.1 5809) then (E_X8_later σ a b) else σ) σ2)) := by
  refine Sp_of_R [(some (.ref 0)), (some (.int a)), (some (.int b))] [] rfl (by simp) rfl (Nat.le_of_ble_eq_true rfl) ?_
  refine R_aload_n (pc := 0) dX8_later_0 rfl rfl ?_
  refine R_iload_n (pc := 1) dX8_later_1 rfl rfl ?_
  refine R_iload_n (pc := 2) dX8_later_2 rfl rfl ?_
  refine k_X8_118 (pc := 3) (ge_X8_areTwoThere _ _ _ hI) rfl (c_0 _) (by decide) (Nat.le_refl _) (Nat.le_refl _) (Nat.le_of_ble_eq_true rfl) dX8_later_3 (fun x w2 h => ?_)
  rcases h with ⟨rfl, ⟨h1, rfl⟩ | ⟨h1, rfl⟩⟩
  · skip
    refine R_ifne (pc := 6) 12 dX8_later_6 (by decide) (fun _ => ?_) (fun h => absurd h (by decide))
    refine R_aload_n (pc := 12) dX8_later_12 rfl rfl ?_
    refine g_X8_37 (pc := 13) (v := .ref 58) rfl dX8_later_13 (c_0 _) rfl ?_
    refine g_X8_233 (pc := 16) (v := .int (σ.1 5809)) rfl dX8_later_16 (c_58 _) rfl ?_
    refine R_bipush (pc := 19) (v := 12) dX8_later_19 (by decide) ?_
    refine R_iclt (pc := 21) 27 dX8_later_21 (by decide) (fun b21_3 => ?_) (fun b21_3 => ?_)
    · skip
      refine R_aload_n (pc := 27) dX8_later_27 rfl rfl ?_
      refine g_X8_37 (pc := 28) (v := .ref 58) rfl dX8_later_28 (c_0 _) rfl ?_
      refine g_X8_236 (pc := 31) (v := .ref 84) rfl dX8_later_31 (c_58 _) rfl ?_
      refine R_aload_n (pc := 34) dX8_later_34 rfl rfl ?_
      refine g_X8_37 (pc := 35) (v := .ref 58) rfl dX8_later_35 (c_0 _) rfl ?_
      refine g_X8_233 (pc := 38) (v := .int (σ.1 5809)) rfl dX8_later_38 (c_58 _) rfl ?_
      refine R_iload_n (pc := 41) dX8_later_41 rfl rfl ?_
      have hx4 : vp_in (σ.1 5809) 12 := (vp_ti (by have q0 := ti_lt b21_3; have q1 := ti_in (ttC_r hI h1).1; have q2 := ti_in (ttC_r hI h1).2; have q3 := ti_in (iv_5809 hI); have z0 : (0 : Int32).toInt = 0 := (by decide); have z1 : (1 : Int32).toInt = 1 := (by decide); have z2 : (12 : Int32).toInt = 12 := (by decide); have z3 : (19 : Int32).toInt = 19 := (by decide); have z4 : (5809 : Int32).toInt = 5809 := (by decide); omega) (by have q0 := ti_lt b21_3; have q1 := ti_in (ttC_r hI h1).1; have q2 := ti_in (ttC_r hI h1).2; have q3 := ti_in (iv_5809 hI); have z0 : (0 : Int32).toInt = 0 := (by decide); have z1 : (1 : Int32).toInt = 1 := (by decide); have z2 : (12 : Int32).toInt = 12 := (by decide); have z3 : (19 : Int32).toInt = 19 := (by decide); have z4 : (5809 : Int32).toInt = 5809 := (by decide); omega))
      refine W_iastore (pc := 42) dX8_later_42 (c_84 _) hx4 (a_84 _ _) ?_
      have hV5 := sa_84 hI (Int32.toNatClampNeg (σ.1 5809)) (ttC_r hI h1).1
      have hW6 := cor_ca 84 (Int32.toNatClampNeg (σ.1 5809)) a (show Cor σ σ from Cor.rfl' σ) rfl
      refine R_aload_n (pc := 43) dX8_later_43 rfl rfl ?_
      refine g_X8_37 (pc := 44) (v := .ref 58) rfl dX8_later_44 (c_0 _) rfl ?_
      refine g_X8_239 (pc := 47) (v := .ref 85) rfl dX8_later_47 (c_58 _) rfl ?_
      refine R_aload_n (pc := 50) dX8_later_50 rfl rfl ?_
      refine g_X8_37 (pc := 51) (v := .ref 58) rfl dX8_later_51 (c_0 _) rfl ?_
      refine g_X8_233 (pc := 54) (v := .int (σ.1 5809)) rfl dX8_later_54 (c_58 _) rfl ?_
      refine R_iload_n (pc := 57) dX8_later_57 rfl rfl ?_
      have hx7 : vp_in (σ.1 5809) 12 := (vp_ti (by have q0 := ti_lt b21_3; have q1 := ti_in (ttC_r hI h1).1; have q2 := ti_in (ttC_r hI h1).2; have q3 := ti_in (iv_5809 hI); have z0 : (0 : Int32).toInt = 0 := (by decide); have z1 : (1 : Int32).toInt = 1 := (by decide); have z2 : (12 : Int32).toInt = 12 := (by decide); have z3 : (19 : Int32).toInt = 19 := (by decide); have z4 : (5809 : Int32).toInt = 5809 := (by decide); omega) (by have q0 := ti_lt b21_3; have q1 := ti_in (ttC_r hI h1).1; have q2 := ti_in (ttC_r hI h1).2; have q3 := ti_in (iv_5809 hI); have z0 : (0 : Int32).toInt = 0 := (by decide); have z1 : (1 : Int32).toInt = 1 := (by decide); have z2 : (12 : Int32).toInt = 12 := (by decide); have z3 : (19 : Int32).toInt = 19 := (by decide); have z4 : (5809 : Int32).toInt = 5809 := (by decide); omega))
      refine W_iastore (pc := 58) dX8_later_58 (c_85 _) hx7 (a_85 _ _) ?_
      have hV8 := sa_85 hV5 (Int32.toNatClampNeg (σ.1 5809)) (ttC_r hI h1).2
      have hW9 := cor_ca 85 (Int32.toNatClampNeg (σ.1 5809)) b hW6 rfl
      refine R_aload_n (pc := 59) dX8_later_59 rfl rfl ?_
      refine g_X8_37 (pc := 60) (v := .ref 58) rfl dX8_later_60 (c_0 _) rfl ?_
      refine R_dup (pc := 63) dX8_later_63 rfl ?_
      refine g_X8_233 (pc := 64) (v := .int (σ.1 5809)) rfl dX8_later_64 (c_58 _) rfl ?_
      refine R_iconst (pc := 67) (v := 1) dX8_later_67 (by decide) ?_
      refine R_iadd (pc := 68) dX8_later_68 ?_
      have r10 : inR ((σ.1 5809) + 1) 1 13 := inR_add (show inR (σ.1 5809) 0 12 from (iv_5809 hI)) (show inR 1 1 1 from (inR_self _)) (by decide) (by decide)
      have e11 := ti_add (l := 1) (h := 13) (show inR (σ.1 5809) 0 12 from (iv_5809 hI)) (show inR 1 1 1 from (inR_self _)) (by decide) (by decide)
      refine p_X8_233 (pc := 69) rfl dX8_later_69 (c_58 _) (Nat.le_of_ble_eq_true rfl) rfl rfl (s_58_9 _ _) ?_
      have hV12 := su_5809 hV8 (show inR ((σ.1 5809) + 1) 0 12 from of_ti (by have q0 := e11; have q1 := ti_lt b21_3; have q2 := ti_in (ttC_r hI h1).1; have q3 := ti_in (ttC_r hI h1).2; have q4 := ti_in (iv_5809 hI); have q5 := ti_in r10; have z0 : (0 : Int32).toInt = 0 := (by decide); have z1 : (1 : Int32).toInt = 1 := (by decide); have z2 : (12 : Int32).toInt = 12 := (by decide); have z3 : (13 : Int32).toInt = 13 := (by decide); have z4 : (19 : Int32).toInt = 19 := (by decide); have z5 : (5809 : Int32).toInt = 5809 := (by decide); omega) (by have q0 := e11; have q1 := ti_lt b21_3; have q2 := ti_in (ttC_r hI h1).1; have q3 := ti_in (ttC_r hI h1).2; have q4 := ti_in (iv_5809 hI); have q5 := ti_in r10; have z0 : (0 : Int32).toInt = 0 := (by decide); have z1 : (1 : Int32).toInt = 1 := (by decide); have z2 : (12 : Int32).toInt = 12 := (by decide); have z3 : (13 : Int32).toInt = 13 := (by decide); have z4 : (19 : Int32).toInt = 19 := (by decide); have z5 : (5809 : Int32).toInt = 5809 := (by decide); omega))
      have hW13 := cor_ci 5809 ((σ.1 5809) + 1) hW9
      refine R_aload_n (pc := 72) dX8_later_72 rfl rfl ?_
      refine g_X8_37 (pc := 73) (v := .ref 58) rfl dX8_later_73 (c_0 _) rfl ?_
      refine g_X8_233 (pc := 76) (v := .int ((σ.1 5809) + 1)) rfl dX8_later_76 (c_58 _) rfl ?_
      exact R_iret (pc := 79) dX8_later_79 rfl rfl (Nat.zero_le _) (Nat.zero_le _) ⟨_, rfl, (by first | (simp only [A_later, h1, cond_true, cond_false, Bool.and_true, Bool.true_and, Bool.and_false, Bool.false_and, Bool.or_true, Bool.true_or, Bool.or_false, Bool.false_or, Bool.not_true, Bool.not_false, decide_true, decide_false, if_true, if_false, Bool.true_eq_false, Bool.false_eq_true]; done) | (simp only [A_later, h1, (decide_eq_false (ne_of_lt b21_3)), cond_true, cond_false, Bool.and_true, Bool.true_and, Bool.and_false, Bool.false_and, Bool.or_true, Bool.true_or, Bool.or_false, Bool.false_or, Bool.not_true, Bool.not_false, decide_true, decide_false, if_true, if_false, Bool.true_eq_false, Bool.false_eq_true]; done) | (simp only [A_later, h1, b21_3, (decide_eq_false (ne_of_lt b21_3)), cond_true, cond_false, Bool.and_true, Bool.true_and, Bool.and_false, Bool.false_and, Bool.or_true, Bool.true_or, Bool.or_false, Bool.false_or, Bool.not_true, Bool.not_false, decide_true, decide_false, if_true, if_false, Bool.true_eq_false, Bool.false_eq_true]; done) | (simp [A_later, h1, b21_3, (decide_eq_false (ne_of_lt b21_3))]; done) | (simp only [A_later, h1, cond_true, cond_false, Bool.and_true, Bool.true_and, Bool.and_false, Bool.false_and, Bool.or_true, Bool.true_or, Bool.or_false, Bool.false_or, Bool.not_true, Bool.not_false, decide_true, decide_false, if_true, if_false, Bool.true_eq_false, Bool.false_eq_true] <;> decide)), _, rfl, hV12, (by have e : (K_later (ttC σ a b) (σ.1 5809)) = true := (by first | (simp only [K_later, h1, cond_true, cond_false, Bool.and_true, Bool.true_and, Bool.and_false, Bool.false_and, Bool.or_true, Bool.true_or, Bool.or_false, Bool.false_or, Bool.not_true, Bool.not_false, decide_true, decide_false, if_true, if_false, Bool.true_eq_false, Bool.false_eq_true]; done) | (simp only [K_later, h1, (decide_eq_false (ne_of_lt b21_3)), cond_true, cond_false, Bool.and_true, Bool.true_and, Bool.and_false, Bool.false_and, Bool.or_true, Bool.true_or, Bool.or_false, Bool.false_or, Bool.not_true, Bool.not_false, decide_true, decide_false, if_true, if_false, Bool.true_eq_false, Bool.false_eq_true]; done) | (simp only [K_later, h1, b21_3, (decide_eq_false (ne_of_lt b21_3)), cond_true, cond_false, Bool.and_true, Bool.true_and, Bool.and_false, Bool.false_and, Bool.or_true, Bool.true_or, Bool.or_false, Bool.false_or, Bool.not_true, Bool.not_false, decide_true, decide_false, if_true, if_false, Bool.true_eq_false, Bool.false_eq_true]; done) | (simp [K_later, h1, b21_3, (decide_eq_false (ne_of_lt b21_3))]; done) | (simp only [K_later, h1, cond_true, cond_false, Bool.and_true, Bool.true_and, Bool.and_false, Bool.false_and, Bool.or_true, Bool.true_or, Bool.or_false, Bool.false_or, Bool.not_true, Bool.not_false, decide_true, decide_false, if_true, if_false, Bool.true_eq_false, Bool.false_eq_true] <;> decide)); rw [e]; exact hW13)⟩
    · skip
      refine R_bipush (pc := 24) (v := (-5)) dX8_later_24 (by decide) ?_
      exact R_iret (pc := 26) dX8_later_26 rfl rfl (Nat.zero_le _) (Nat.zero_le _) ⟨_, rfl, (by first | (simp only [A_later, h1, cond_true, cond_false, Bool.and_true, Bool.true_and, Bool.and_false, Bool.false_and, Bool.or_true, Bool.true_or, Bool.or_false, Bool.false_or, Bool.not_true, Bool.not_false, decide_true, decide_false, if_true, if_false, Bool.true_eq_false, Bool.false_eq_true]; done) | (simp only [A_later, h1, (decide_eq_true (eq_of_nlt (iv_5809 hI) b21_3)), cond_true, cond_false, Bool.and_true, Bool.true_and, Bool.and_false, Bool.false_and, Bool.or_true, Bool.true_or, Bool.or_false, Bool.false_or, Bool.not_true, Bool.not_false, decide_true, decide_false, if_true, if_false, Bool.true_eq_false, Bool.false_eq_true]; done) | (simp only [A_later, h1, b21_3, (decide_eq_true (eq_of_nlt (iv_5809 hI) b21_3)), cond_true, cond_false, Bool.and_true, Bool.true_and, Bool.and_false, Bool.false_and, Bool.or_true, Bool.true_or, Bool.or_false, Bool.false_or, Bool.not_true, Bool.not_false, decide_true, decide_false, if_true, if_false, Bool.true_eq_false, Bool.false_eq_true]; done) | (simp [A_later, h1, b21_3, (decide_eq_true (eq_of_nlt (iv_5809 hI) b21_3))]; done) | (simp only [A_later, h1, cond_true, cond_false, Bool.and_true, Bool.true_and, Bool.and_false, Bool.false_and, Bool.or_true, Bool.true_or, Bool.or_false, Bool.false_or, Bool.not_true, Bool.not_false, decide_true, decide_false, if_true, if_false, Bool.true_eq_false, Bool.false_eq_true] <;> decide)), _, rfl, hI, (by have e : (K_later (ttC σ a b) (σ.1 5809)) = false := (by first | (simp only [K_later, h1, cond_true, cond_false, Bool.and_true, Bool.true_and, Bool.and_false, Bool.false_and, Bool.or_true, Bool.true_or, Bool.or_false, Bool.false_or, Bool.not_true, Bool.not_false, decide_true, decide_false, if_true, if_false, Bool.true_eq_false, Bool.false_eq_true]; done) | (simp only [K_later, h1, (decide_eq_true (eq_of_nlt (iv_5809 hI) b21_3)), cond_true, cond_false, Bool.and_true, Bool.true_and, Bool.and_false, Bool.false_and, Bool.or_true, Bool.true_or, Bool.or_false, Bool.false_or, Bool.not_true, Bool.not_false, decide_true, decide_false, if_true, if_false, Bool.true_eq_false, Bool.false_eq_true]; done) | (simp only [K_later, h1, b21_3, (decide_eq_true (eq_of_nlt (iv_5809 hI) b21_3)), cond_true, cond_false, Bool.and_true, Bool.true_and, Bool.and_false, Bool.false_and, Bool.or_true, Bool.true_or, Bool.or_false, Bool.false_or, Bool.not_true, Bool.not_false, decide_true, decide_false, if_true, if_false, Bool.true_eq_false, Bool.false_eq_true]; done) | (simp [K_later, h1, b21_3, (decide_eq_true (eq_of_nlt (iv_5809 hI) b21_3))]; done) | (simp only [K_later, h1, cond_true, cond_false, Bool.and_true, Bool.true_and, Bool.and_false, Bool.false_and, Bool.or_true, Bool.true_or, Bool.or_false, Bool.false_or, Bool.not_true, Bool.not_false, decide_true, decide_false, if_true, if_false, Bool.true_eq_false, Bool.false_eq_true] <;> decide)); rw [e]; exact (show Cor σ σ from Cor.rfl' σ))⟩
  · skip
    refine R_ifne (pc := 6) 12 dX8_later_6 (by decide) (fun h => absurd (by decide) h) (fun _ => ?_)
    refine R_bipush (pc := 9) (v := (-2)) dX8_later_9 (by decide) ?_
    exact R_iret (pc := 11) dX8_later_11 rfl rfl (Nat.zero_le _) (Nat.zero_le _) ⟨_, rfl, (by first | (simp only [A_later, h1, cond_true, cond_false, Bool.and_true, Bool.true_and, Bool.and_false, Bool.false_and, Bool.or_true, Bool.true_or, Bool.or_false, Bool.false_or, Bool.not_true, Bool.not_false, decide_true, decide_false, if_true, if_false, Bool.true_eq_false, Bool.false_eq_true]; done) | (simp [A_later, h1]; done) | (simp only [A_later, h1, cond_true, cond_false, Bool.and_true, Bool.true_and, Bool.and_false, Bool.false_and, Bool.or_true, Bool.true_or, Bool.or_false, Bool.false_or, Bool.not_true, Bool.not_false, decide_true, decide_false, if_true, if_false, Bool.true_eq_false, Bool.false_eq_true] <;> decide)), _, rfl, hI, (by have e : (K_later (ttC σ a b) (σ.1 5809)) = false := (by first | (simp only [K_later, h1, cond_true, cond_false, Bool.and_true, Bool.true_and, Bool.and_false, Bool.false_and, Bool.or_true, Bool.true_or, Bool.or_false, Bool.false_or, Bool.not_true, Bool.not_false, decide_true, decide_false, if_true, if_false, Bool.true_eq_false, Bool.false_eq_true]; done) | (simp [K_later, h1]; done) | (simp only [K_later, h1, cond_true, cond_false, Bool.and_true, Bool.true_and, Bool.and_false, Bool.false_and, Bool.or_true, Bool.true_or, Bool.or_false, Bool.false_or, Bool.not_true, Bool.not_false, decide_true, decide_false, if_true, if_false, Bool.true_eq_false, Bool.false_eq_true] <;> decide)); rw [e]; exact (show Cor σ σ from Cor.rfl' σ))⟩
def E_X8_unview (σ : Sg) (c : Int32) : Sg := (uA σ 116 (upd (σ.2.2.1 116) (Int32.toNatClampNeg c) 0))
set_option maxRecDepth 100000 in
set_option maxHeartbeats 40000000 in
theorem ge_X8_unview {G : vG} {l : Launch} (σ : Sg) (c : Int32) (hI : Inv σ) : Sp G l yX8_unview cX8_unview 3 (some .int) 1 0 0 [.ref 0, .int c] (WW σ) (QI (fun x w2 => x = A_unview (thC σ c) (σ.2.2.1 116 (Int32.toNatClampNeg c)) ∧ ∃ σ2, w2 = WW σ2 ∧ Inv σ2 ∧ Cor (bif thC σ c then (E_X8_unview σ c) else σ) σ2)) := by
  refine Sp_of_R [(some (.ref 0)), (some (.int c)), none] [none] rfl (by simp) rfl (Nat.le_of_ble_eq_true rfl) ?_
  refine R_aload_n (pc := 0) dX8_unview_0 rfl rfl ?_
  refine g_X8_10 (pc := 1) (v := .ref 1) rfl dX8_unview_1 (c_0 _) rfl ?_
  refine R_iload_n (pc := 4) dX8_unview_4 rfl rfl ?_
  refine k_X8_90 (pc := 5) (ge_X0_isThere _ _ hI) rfl (c_1 _) (by decide) (Nat.le_refl _) (Nat.le_refl _) (Nat.le_of_ble_eq_true rfl) dX8_unview_5 (fun x w2 h => ?_)
  rcases h with ⟨rfl, ⟨h1, rfl⟩ | ⟨h1, rfl⟩⟩
  · skip
    refine R_ifne (pc := 8) 14 dX8_unview_8 (by decide) (fun _ => ?_) (fun h => absurd h (by decide))
    refine R_aload_n (pc := 14) dX8_unview_14 rfl rfl ?_
    refine g_X8_44 (pc := 15) (v := .ref 93) rfl dX8_unview_15 (c_0 _) rfl ?_
    refine g_X8_274 (pc := 18) (v := .ref 116) rfl dX8_unview_18 (c_93 _) rfl ?_
    refine R_iload_n (pc := 21) dX8_unview_21 rfl rfl ?_
    have hx3 : vp_in c 20 := (vp_of_inR (thC_r hI h1) (by decide))
    refine R_iaload (pc := 22) dX8_unview_22 (c_116 _) hx3 ?_
    refine st_3_2_i_i (pc := 23) dX8_unview_23 ?_
    refine R_aload_n (pc := 24) dX8_unview_24 rfl rfl ?_
    refine g_X8_44 (pc := 25) (v := .ref 93) rfl dX8_unview_25 (c_0 _) rfl ?_
    refine g_X8_274 (pc := 28) (v := .ref 116) rfl dX8_unview_28 (c_93 _) rfl ?_
    refine R_iload_n (pc := 31) dX8_unview_31 rfl rfl ?_
    refine R_iconst (pc := 32) (v := 0) dX8_unview_32 (by decide) ?_
    have hx4 : vp_in c 20 := (vp_of_inR (thC_r hI h1) (by decide))
    refine W_iastore (pc := 33) dX8_unview_33 (c_116 _) hx4 (a_116 _ _) ?_
    have hV5 := sa_116 hI (Int32.toNatClampNeg c) (show inR 0 0 5 from ⟨by decide, by decide⟩)
    have hW6 := cor_ca 116 (Int32.toNatClampNeg c) 0 (show Cor σ σ from Cor.rfl' σ) rfl
    refine R_iload_n (pc := 34) dX8_unview_34 rfl rfl ?_
    exact R_iret (pc := 35) dX8_unview_35 rfl rfl (Nat.zero_le _) (Nat.zero_le _) ⟨_, rfl, (by first | (simp only [A_unview, h1, cond_true, cond_false, Bool.and_true, Bool.true_and, Bool.and_false, Bool.false_and, Bool.or_true, Bool.true_or, Bool.or_false, Bool.false_or, Bool.not_true, Bool.not_false, decide_true, decide_false, if_true, if_false, Bool.true_eq_false, Bool.false_eq_true]; done) | (simp [A_unview, h1]; done) | (simp only [A_unview, h1, cond_true, cond_false, Bool.and_true, Bool.true_and, Bool.and_false, Bool.false_and, Bool.or_true, Bool.true_or, Bool.or_false, Bool.false_or, Bool.not_true, Bool.not_false, decide_true, decide_false, if_true, if_false, Bool.true_eq_false, Bool.false_eq_true] <;> decide)), _, rfl, hV5, (by have e : (thC σ c) = true := (by first | (simp only [h1, cond_true, cond_false, Bool.and_true, Bool.true_and, Bool.and_false, Bool.false_and, Bool.or_true, Bool.true_or, Bool.or_false, Bool.false_or, Bool.not_true, Bool.not_false, decide_true, decide_false, if_true, if_false, Bool.true_eq_false, Bool.false_eq_true]; done) | (simp [h1]; done) | (simp only [h1, cond_true, cond_false, Bool.and_true, Bool.true_and, Bool.and_false, Bool.false_and, Bool.or_true, Bool.true_or, Bool.or_false, Bool.false_or, Bool.not_true, Bool.not_false, decide_true, decide_false, if_true, if_false, Bool.true_eq_false, Bool.false_eq_true] <;> decide)); rw [e]; exact hW6)⟩
  · skip
    refine R_ifne (pc := 8) 14 dX8_unview_8 (by decide) (fun h => absurd (by decide) h) (fun _ => ?_)
    refine R_bipush (pc := 11) (v := (-2)) dX8_unview_11 (by decide) ?_
    exact R_iret (pc := 13) dX8_unview_13 rfl rfl (Nat.zero_le _) (Nat.zero_le _) ⟨_, rfl, (by first | (simp only [A_unview, h1, cond_true, cond_false, Bool.and_true, Bool.true_and, Bool.and_false, Bool.false_and, Bool.or_true, Bool.true_or, Bool.or_false, Bool.false_or, Bool.not_true, Bool.not_false, decide_true, decide_false, if_true, if_false, Bool.true_eq_false, Bool.false_eq_true]; done) | (simp [A_unview, h1]; done) | (simp only [A_unview, h1, cond_true, cond_false, Bool.and_true, Bool.true_and, Bool.and_false, Bool.false_and, Bool.or_true, Bool.true_or, Bool.or_false, Bool.false_or, Bool.not_true, Bool.not_false, decide_true, decide_false, if_true, if_false, Bool.true_eq_false, Bool.false_eq_true] <;> decide)), _, rfl, hI, (by have e : (thC σ c) = false := (by first | (simp only [h1, cond_true, cond_false, Bool.and_true, Bool.true_and, Bool.and_false, Bool.false_and, Bool.or_true, Bool.true_or, Bool.or_false, Bool.false_or, Bool.not_true, Bool.not_false, decide_true, decide_false, if_true, if_false, Bool.true_eq_false, Bool.false_eq_true]; done) | (simp [h1]; done) | (simp only [h1, cond_true, cond_false, Bool.and_true, Bool.true_and, Bool.and_false, Bool.false_and, Bool.or_true, Bool.true_or, Bool.or_false, Bool.false_or, Bool.not_true, Bool.not_false, decide_true, decide_false, if_true, if_false, Bool.true_eq_false, Bool.false_eq_true] <;> decide)); rw [e]; exact (show Cor σ σ from Cor.rfl' σ))⟩
set_option maxRecDepth 100000 in
set_option maxHeartbeats 40000000 in
theorem ge_X2_isInView {G : vG} {l : Launch} (σ : Sg) (c l9 : Int32) (hI : Inv σ) (hc : inR c 0 19) : Sp G l yX2_isInView cX2_isInView 4 (some .boolean) 0 0 0 [.ref 93, .int c, .int l9] (WW σ) (QI (fun x w2 => w2 = WW σ ∧ (inV (fun k => σ.2.2.1 (96 + (Int32.toNatClampNeg c)) (Int32.toNatClampNeg (nI k))) l9 (Int32.toNatClampNeg (σ.2.2.1 116 (Int32.toNatClampNeg c))) = true ∧ x = 1 ∨ inV (fun k => σ.2.2.1 (96 + (Int32.toNatClampNeg c)) (Int32.toNatClampNeg (nI k))) l9 (Int32.toNatClampNeg (σ.2.2.1 116 (Int32.toNatClampNeg c))) = false ∧ x = 0))) := by
  refine Sp_of_R [(some (.ref 93)), (some (.int c)), (some (.int l9)), none] [none] rfl (by simp) rfl (Nat.le_of_ble_eq_true rfl) ?_
  refine R_iconst (pc := 0) (v := 0) dX2_isInView_0 (by decide) ?_
  refine st_4_3_i_i (pc := 1) dX2_isInView_1 ?_
  have HL2 : ∀ (q j2 : Nat), j2 + q = 5 → 0 ≤ j2 → inV (fun k => σ.2.2.1 (96 + (Int32.toNatClampNeg c)) (Int32.toNatClampNeg (nI k))) l9 j2 = false → nI j2 ≤ (σ.2.2.1 116 (Int32.toNatClampNeg c)) → R G l yX2_isInView cX2_isInView 4 (some .boolean) 0 0 0 (QI (fun x w2 => w2 = WW σ ∧ (inV (fun k => σ.2.2.1 (96 + (Int32.toNatClampNeg c)) (Int32.toNatClampNeg (nI k))) l9 (Int32.toNatClampNeg (σ.2.2.1 116 (Int32.toNatClampNeg c))) = true ∧ x = 1 ∨ inV (fun k => σ.2.2.1 (96 + (Int32.toNatClampNeg c)) (Int32.toNatClampNeg (nI k))) l9 (Int32.toNatClampNeg (σ.2.2.1 116 (Int32.toNatClampNeg c))) = false ∧ x = 0))) 2 [(some (.ref 93)), (some (.int c)), (some (.int l9)), (some (.int (nI j2)))] [] (WW σ) 0 0 := by
    intro q
    induction q with
    | zero =>
      intro j2 hj hs2 hX2_0 hX2_1
      obtain rfl : j2 = 5 := by omega
      refine R_iload_n (pc := 2) dX2_isInView_2 rfl rfl ?_
      refine R_aload_n (pc := 3) dX2_isInView_3 rfl rfl ?_
      refine g_X2_20 (pc := 4) (v := .ref 116) rfl dX2_isInView_4 (c_93 _) rfl ?_
      refine R_iload_n (pc := 7) dX2_isInView_7 rfl rfl ?_
      have hx1 : vp_in c 20 := (vp_of_inR hc (by decide))
      refine R_iaload (pc := 8) dX2_isInView_8 (c_116 _) hx1 ?_
      refine R_icge (pc := 9) 32 dX2_isInView_9 (by decide) (fun _ => ?_) (fun h => absurd (Int32.not_lt.mp (inR_up (iva_116 hI _ (lt_of_vp hx1)) (Int32.le_refl _) (by decide)).2) h)
      refine R_iconst (pc := 32) (v := 0) dX2_isInView_32 (by decide) ?_
      exact R_iret (pc := 33) dX2_isInView_33 rfl rfl (Nat.zero_le _) (Nat.zero_le _) ⟨_, rfl, rfl, Or.inr ⟨(inV_end hX2_0 (by omega) (by first | exact nI_eqe hX2_1 (by assumption) | exact nI_eq5 hX2_1 (iva_116 hI _ (clamp19 hc)))), rfl⟩⟩
    | succ q ih2 =>
      intro j2 hj hs2 hX2_0 hX2_1
      have hrg2 : inR (nI j2) 0 4 := inR_ix hs2 (show j2 < 5 by omega) (by decide) (by decide) (by decide)
      have hlt2 : j2 < 5 := by omega
      refine R_iload_n (pc := 2) dX2_isInView_2 rfl rfl ?_
      refine R_aload_n (pc := 3) dX2_isInView_3 rfl rfl ?_
      refine g_X2_20 (pc := 4) (v := .ref 116) rfl dX2_isInView_4 (c_93 _) rfl ?_
      refine R_iload_n (pc := 7) dX2_isInView_7 rfl rfl ?_
      have hx3 : vp_in c 20 := (vp_of_inR hc (by decide))
      refine R_iaload (pc := 8) dX2_isInView_8 (c_116 _) hx3 ?_
      refine R_icge (pc := 9) 32 dX2_isInView_9 (by decide) (fun b9_4 => ?_) (fun b9_4 => ?_)
      · skip
        refine R_iconst (pc := 32) (v := 0) dX2_isInView_32 (by decide) ?_
        exact R_iret (pc := 33) dX2_isInView_33 rfl rfl (Nat.zero_le _) (Nat.zero_le _) ⟨_, rfl, rfl, Or.inr ⟨(inV_end hX2_0 (by omega) (by first | exact nI_eqe hX2_1 (by assumption) | exact nI_eq5 hX2_1 (iva_116 hI _ (clamp19 hc)))), rfl⟩⟩
      · skip
        refine R_aload_n (pc := 12) dX2_isInView_12 rfl rfl ?_
        refine g_X2_17 (pc := 13) (v := .ref 95) rfl dX2_isInView_13 (c_93 _) rfl ?_
        refine R_iload_n (pc := 16) dX2_isInView_16 rfl rfl ?_
        have hx5 : vp_in c 20 := (vp_of_inR hc (by decide))
        refine R_aaload (pc := 17) (b := 96 + (Int32.toNatClampNeg c)) dX2_isInView_17 (c_95 _) hx5 (if_pos (lt_of_vp hx5)) ?_
        refine R_iload_n (pc := 18) dX2_isInView_18 rfl rfl ?_
        have hx6 : vp_in (nI j2) 5 := (vp_in_nI (by omega) (by decide))
        refine R_iaload (pc := 19) dX2_isInView_19 (r_95 _ _ (lt_of_vp hx5)) hx6 ?_
        refine R_iload_n (pc := 20) dX2_isInView_20 rfl rfl ?_
        refine R_icne (pc := 21) 26 dX2_isInView_21 (by decide) (fun b21_7 => ?_) (fun b21_7 => ?_)
        · skip
          refine inc_4_3_1_i (pc := 26) dX2_isInView_26 ?_
          have r8 : inR ((nI j2) + 1) 1 5 := inR_add (show inR (nI j2) 0 4 from hrg2) (show inR 1 1 1 from (inR_self _)) (by decide) (by decide)
          have e9 := ti_add (l := 1) (h := 5) (show inR (nI j2) 0 4 from hrg2) (show inR 1 1 1 from (inR_self _)) (by decide) (by decide)
          refine R_goto (pc := 29) 2 dX2_isInView_29 (by decide) ?_
          rw [nI_1]
          exact ih2 (j2 + 1) (by omega) (by omega) (inV_s (f := (fun k => σ.2.2.1 (96 + (Int32.toNatClampNeg c)) (Int32.toNatClampNeg (nI k)))) hX2_0 b21_7) (nI_sle (by omega) b9_4)
        · skip
          refine R_iconst (pc := 24) (v := 1) dX2_isInView_24 (by decide) ?_
          exact R_iret (pc := 25) dX2_isInView_25 rfl rfl (Nat.zero_le _) (Nat.zero_le _) ⟨_, rfl, rfl, Or.inl ⟨(inV_mono (inV_t (f := (fun k => σ.2.2.1 (96 + (Int32.toNatClampNeg c)) (Int32.toNatClampNeg (nI k)))) b21_7) _ (nI_slt (by omega) b9_4)), rfl⟩⟩
  exact HL2 5 0 (by omega) (by omega) rfl (show (0 : Int32) ≤ (σ.2.2.1 116 (Int32.toNatClampNeg c)) from Int32.not_lt.mp (iva_116 hI _ (clamp19 hc)).1)
def E_X8_view (σ : Sg) (c l9 : Int32) : Sg := (uA (uA σ (96 + (Int32.toNatClampNeg c)) (upd (σ.2.2.1 (96 + (Int32.toNatClampNeg c))) (Int32.toNatClampNeg (σ.2.2.1 116 (Int32.toNatClampNeg c))) l9)) 116 (upd ((uA σ (96 + (Int32.toNatClampNeg c)) (upd (σ.2.2.1 (96 + (Int32.toNatClampNeg c))) (Int32.toNatClampNeg (σ.2.2.1 116 (Int32.toNatClampNeg c))) l9)).2.2.1 116) (Int32.toNatClampNeg c) ((σ.2.2.1 116 (Int32.toNatClampNeg c)) + 1)))
set_option maxRecDepth 100000 in
set_option maxHeartbeats 40000000 in
theorem ge_X8_view {G : vG} {l : Launch} (σ : Sg) (c l9 : Int32) (hI : Inv σ) : Sp G l yX8_view cX8_view 3 (some .int) 1 0 0 [.ref 0, .int c, .int l9] (WW σ) (QI (fun x w2 => x = A_view (thC σ c) (inV (fun k => σ.2.2.1 (96 + (Int32.toNatClampNeg c)) (Int32.toNatClampNeg (nI k))) l9 (Int32.toNatClampNeg (σ.2.2.1 116 (Int32.toNatClampNeg c)))) l9 (σ.2.2.1 116 (Int32.toNatClampNeg c)) ∧ ∃ σ2, w2 = WW σ2 ∧ Inv σ2 ∧ Cor (bif K_view (thC σ c) (inV (fun k => σ.2.2.1 (96 + (Int32.toNatClampNeg c)) (Int32.toNatClampNeg (nI k))) l9 (Int32.toNatClampNeg (σ.2.2.1 116 (Int32.toNatClampNeg c)))) l9 (σ.2.2.1 116 (Int32.toNatClampNeg c)) then (E_X8_view σ c l9) else σ) σ2)) := by
  refine Sp_of_R [(some (.ref 0)), (some (.int c)), (some (.int l9))] [] rfl (by simp) rfl (Nat.le_of_ble_eq_true rfl) ?_
  refine R_aload_n (pc := 0) dX8_view_0 rfl rfl ?_
  refine g_X8_10 (pc := 1) (v := .ref 1) rfl dX8_view_1 (c_0 _) rfl ?_
  refine R_iload_n (pc := 4) dX8_view_4 rfl rfl ?_
  refine k_X8_90 (pc := 5) (ge_X0_isThere _ _ hI) rfl (c_1 _) (by decide) (Nat.le_refl _) (Nat.le_refl _) (Nat.le_of_ble_eq_true rfl) dX8_view_5 (fun x w2 h => ?_)
  rcases h with ⟨rfl, ⟨h1, rfl⟩ | ⟨h1, rfl⟩⟩
  · skip
    refine R_ifeq (pc := 8) 21 dX8_view_8 (by decide) (fun h => absurd h (by decide)) (fun _ => ?_)
    refine R_iload_n (pc := 11) dX8_view_11 rfl rfl ?_
    refine R_iconst (pc := 12) (v := 0) dX8_view_12 (by decide) ?_
    refine R_bipush (pc := 13) (v := 7) dX8_view_13 (by decide) ?_
    refine k_X8_72 (pc := 15) (sp_X8_isWithin _ _ _ _) rfl (by decide) (Nat.le_refl _) (Nat.le_refl _) (Nat.le_of_ble_eq_true rfl) dX8_view_15 (fun x w2 h => ?_)
    rcases h with ⟨rfl, ⟨h3, rfl⟩ | ⟨h3, rfl⟩⟩
    · skip
      refine R_ifne (pc := 18) 24 dX8_view_18 (by decide) (fun _ => ?_) (fun h => absurd h (by decide))
      refine R_aload_n (pc := 24) dX8_view_24 rfl rfl ?_
      refine g_X8_44 (pc := 25) (v := .ref 93) rfl dX8_view_25 (c_0 _) rfl ?_
      refine R_iload_n (pc := 28) dX8_view_28 rfl rfl ?_
      refine R_iload_n (pc := 29) dX8_view_29 rfl rfl ?_
      refine k_X8_271 (pc := 30) (ge_X2_isInView _ _ _ hI (thC_r hI h1)) rfl (c_93 _) (by decide) (Nat.le_refl _) (Nat.le_refl _) (Nat.le_of_ble_eq_true rfl) dX8_view_30 (fun x w2 h => ?_)
      rcases h with ⟨rfl, ⟨h5, rfl⟩ | ⟨h5, rfl⟩⟩
      · skip
        refine R_ifeq (pc := 33) 39 dX8_view_33 (by decide) (fun h => absurd h (by decide)) (fun _ => ?_)
        refine R_bipush (pc := 36) (v := (-4)) dX8_view_36 (by decide) ?_
        exact R_iret (pc := 38) dX8_view_38 rfl rfl (Nat.zero_le _) (Nat.zero_le _) ⟨_, rfl, (by first | (simp only [A_view, h1, inB_t h3, h5, cond_true, cond_false, Bool.and_true, Bool.true_and, Bool.and_false, Bool.false_and, Bool.or_true, Bool.true_or, Bool.or_false, Bool.false_or, Bool.not_true, Bool.not_false, decide_true, decide_false, if_true, if_false, Bool.true_eq_false, Bool.false_eq_true]; done) | (simp [A_view, h1, inB_t h3, h5]; done) | (simp only [A_view, h1, inB_t h3, h5, cond_true, cond_false, Bool.and_true, Bool.true_and, Bool.and_false, Bool.false_and, Bool.or_true, Bool.true_or, Bool.or_false, Bool.false_or, Bool.not_true, Bool.not_false, decide_true, decide_false, if_true, if_false, Bool.true_eq_false, Bool.false_eq_true] <;> decide)), _, rfl, hI, (by have e : (K_view (thC σ c) (inV (fun k => σ.2.2.1 (96 + (Int32.toNatClampNeg c)) (Int32.toNatClampNeg (nI k))) l9 (Int32.toNatClampNeg (σ.2.2.1 116 (Int32.toNatClampNeg c)))) l9 (σ.2.2.1 116 (Int32.toNatClampNeg c))) = false := (by first | (simp only [K_view, h1, inB_t h3, h5, cond_true, cond_false, Bool.and_true, Bool.true_and, Bool.and_false, Bool.false_and, Bool.or_true, Bool.true_or, Bool.or_false, Bool.false_or, Bool.not_true, Bool.not_false, decide_true, decide_false, if_true, if_false, Bool.true_eq_false, Bool.false_eq_true]; done) | (simp [K_view, h1, inB_t h3, h5]; done) | (simp only [K_view, h1, inB_t h3, h5, cond_true, cond_false, Bool.and_true, Bool.true_and, Bool.and_false, Bool.false_and, Bool.or_true, Bool.true_or, Bool.or_false, Bool.false_or, Bool.not_true, Bool.not_false, decide_true, decide_false, if_true, if_false, Bool.true_eq_false, Bool.false_eq_true] <;> decide)); rw [e]; exact (show Cor σ σ from Cor.rfl' σ))⟩
      · skip
        refine R_ifeq (pc := 33) 39 dX8_view_33 (by decide) (fun _ => ?_) (fun h => absurd (by decide) h)
        refine R_aload_n (pc := 39) dX8_view_39 rfl rfl ?_
        refine g_X8_44 (pc := 40) (v := .ref 93) rfl dX8_view_40 (c_0 _) rfl ?_
        refine g_X8_274 (pc := 43) (v := .ref 116) rfl dX8_view_43 (c_93 _) rfl ?_
        refine R_iload_n (pc := 46) dX8_view_46 rfl rfl ?_
        have hx8 : vp_in c 20 := (vp_of_inR (thC_r hI h1) (by decide))
        refine R_iaload (pc := 47) dX8_view_47 (c_116 _) hx8 ?_
        refine R_iconst (pc := 48) (v := 5) dX8_view_48 (by decide) ?_
        refine R_iclt (pc := 49) 55 dX8_view_49 (by decide) (fun b49_9 => ?_) (fun b49_9 => ?_)
        · skip
          refine R_aload_n (pc := 55) dX8_view_55 rfl rfl ?_
          refine g_X8_44 (pc := 56) (v := .ref 93) rfl dX8_view_56 (c_0 _) rfl ?_
          refine g_X8_277 (pc := 59) (v := .ref 95) rfl dX8_view_59 (c_93 _) rfl ?_
          refine R_iload_n (pc := 62) dX8_view_62 rfl rfl ?_
          have hx10 : vp_in c 20 := (vp_of_inR (thC_r hI h1) (by decide))
          refine R_aaload (pc := 63) (b := 96 + (Int32.toNatClampNeg c)) dX8_view_63 (c_95 _) hx10 (if_pos (lt_of_vp hx10)) ?_
          refine R_aload_n (pc := 64) dX8_view_64 rfl rfl ?_
          refine g_X8_44 (pc := 65) (v := .ref 93) rfl dX8_view_65 (c_0 _) rfl ?_
          refine g_X8_274 (pc := 68) (v := .ref 116) rfl dX8_view_68 (c_93 _) rfl ?_
          refine R_iload_n (pc := 71) dX8_view_71 rfl rfl ?_
          have hx11 : vp_in c 20 := (vp_of_inR (thC_r hI h1) (by decide))
          refine R_iaload (pc := 72) dX8_view_72 (c_116 _) hx11 ?_
          refine R_iload_n (pc := 73) dX8_view_73 rfl rfl ?_
          have hx12 : vp_in (σ.2.2.1 116 (Int32.toNatClampNeg c)) 5 := (vp_ti (by have q0 := ti_lt b49_9; have q1 := ti_in (thC_r hI h1); have q2 := ti_in h3; have q3 := ti_in (iva_116 hI _ (lt_of_vp hx8)); have z0 : (0 : Int32).toInt = 0 := (by decide); have z1 : (1 : Int32).toInt = 1 := (by decide); have z2 : (116 : Int32).toInt = 116 := (by decide); have z3 : (19 : Int32).toInt = 19 := (by decide); have z4 : (5 : Int32).toInt = 5 := (by decide); have z5 : (7 : Int32).toInt = 7 := (by decide); omega) (by have q0 := ti_lt b49_9; have q1 := ti_in (thC_r hI h1); have q2 := ti_in h3; have q3 := ti_in (iva_116 hI _ (lt_of_vp hx8)); have z0 : (0 : Int32).toInt = 0 := (by decide); have z1 : (1 : Int32).toInt = 1 := (by decide); have z2 : (116 : Int32).toInt = 116 := (by decide); have z3 : (19 : Int32).toInt = 19 := (by decide); have z4 : (5 : Int32).toInt = 5 := (by decide); have z5 : (7 : Int32).toInt = 7 := (by decide); omega))
          refine W_iastore (pc := 74) dX8_view_74 (r_95 _ _ (lt_of_vp hx10)) hx12 (ra_95 _ _ _ (lt_of_vp hx10)) ?_
          have hV13 := sr_96 hI (Int32.toNatClampNeg (σ.2.2.1 116 (Int32.toNatClampNeg c))) h3 _ (lt_of_vp hx10)
          have hW14 := cor_ca (96 + (Int32.toNatClampNeg c)) (Int32.toNatClampNeg (σ.2.2.1 116 (Int32.toNatClampNeg c))) l9 (show Cor σ σ from Cor.rfl' σ) (scA_96 (lt_of_vp hx10))
          refine R_aload_n (pc := 75) dX8_view_75 rfl rfl ?_
          refine g_X8_44 (pc := 76) (v := .ref 93) rfl dX8_view_76 (c_0 _) rfl ?_
          refine g_X8_274 (pc := 79) (v := .ref 116) rfl dX8_view_79 (c_93 _) rfl ?_
          refine R_iload_n (pc := 82) dX8_view_82 rfl rfl ?_
          refine R_dup2 (pc := 83) dX8_view_83 rfl rfl ?_
          have hx15 : vp_in c 20 := (vp_of_inR (thC_r hI h1) (by decide))
          refine W_iaload (pc := 84) (σ.2.2.1 116 (Int32.toNatClampNeg c)) dX8_view_84 (c_116 _) hx15 (up_row _ (by have := lt_of_vp hx10; omega)) ?_
          refine R_iconst (pc := 85) (v := 1) dX8_view_85 (by decide) ?_
          refine R_iadd (pc := 86) dX8_view_86 ?_
          have r16 : inR ((σ.2.2.1 116 (Int32.toNatClampNeg c)) + 1) 1 6 := inR_add (show inR (σ.2.2.1 116 (Int32.toNatClampNeg c)) 0 5 from (iva_116 hI _ (lt_of_vp hx8))) (show inR 1 1 1 from (inR_self _)) (by decide) (by decide)
          have e17 := ti_add (l := 1) (h := 6) (show inR (σ.2.2.1 116 (Int32.toNatClampNeg c)) 0 5 from (iva_116 hI _ (lt_of_vp hx8))) (show inR 1 1 1 from (inR_self _)) (by decide) (by decide)
          have hx18 : vp_in c 20 := (vp_of_inR (thC_r hI h1) (by decide))
          refine W_iastore (pc := 87) dX8_view_87 (c_116 _) hx18 (a_116 _ _) ?_
          have hV19 := sa_116 hV13 (Int32.toNatClampNeg c) (show inR ((σ.2.2.1 116 (Int32.toNatClampNeg c)) + 1) 0 5 from of_ti (by have q0 := e17; have q1 := ti_lt b49_9; have q2 := ti_in (thC_r hI h1); have q3 := ti_in h3; have q4 := ti_in (iva_116 hI _ (lt_of_vp hx8)); have q5 := ti_in r16; have z0 : (0 : Int32).toInt = 0 := (by decide); have z1 : (1 : Int32).toInt = 1 := (by decide); have z2 : (116 : Int32).toInt = 116 := (by decide); have z3 : (19 : Int32).toInt = 19 := (by decide); have z4 : (5 : Int32).toInt = 5 := (by decide); have z5 : (6 : Int32).toInt = 6 := (by decide); have z6 : (7 : Int32).toInt = 7 := (by decide); omega) (by have q0 := e17; have q1 := ti_lt b49_9; have q2 := ti_in (thC_r hI h1); have q3 := ti_in h3; have q4 := ti_in (iva_116 hI _ (lt_of_vp hx8)); have q5 := ti_in r16; have z0 : (0 : Int32).toInt = 0 := (by decide); have z1 : (1 : Int32).toInt = 1 := (by decide); have z2 : (116 : Int32).toInt = 116 := (by decide); have z3 : (19 : Int32).toInt = 19 := (by decide); have z4 : (5 : Int32).toInt = 5 := (by decide); have z5 : (6 : Int32).toInt = 6 := (by decide); have z6 : (7 : Int32).toInt = 7 := (by decide); omega))
          have hW20 := cor_ca 116 (Int32.toNatClampNeg c) ((σ.2.2.1 116 (Int32.toNatClampNeg c)) + 1) hW14 rfl
          refine R_aload_n (pc := 88) dX8_view_88 rfl rfl ?_
          refine g_X8_44 (pc := 89) (v := .ref 93) rfl dX8_view_89 (c_0 _) rfl ?_
          refine g_X8_274 (pc := 92) (v := .ref 116) rfl dX8_view_92 (c_93 _) rfl ?_
          refine R_iload_n (pc := 95) dX8_view_95 rfl rfl ?_
          have hx21 : vp_in c 20 := (vp_of_inR (thC_r hI h1) (by decide))
          refine W_iaload (pc := 96) ((σ.2.2.1 116 (Int32.toNatClampNeg c)) + 1) dX8_view_96 (c_116 _) hx21 (upd_at _ _ _) ?_
          exact R_iret (pc := 97) dX8_view_97 rfl rfl (Nat.zero_le _) (Nat.zero_le _) ⟨_, rfl, (by first | (simp only [A_view, h1, inB_t h3, h5, cond_true, cond_false, Bool.and_true, Bool.true_and, Bool.and_false, Bool.false_and, Bool.or_true, Bool.true_or, Bool.or_false, Bool.false_or, Bool.not_true, Bool.not_false, decide_true, decide_false, if_true, if_false, Bool.true_eq_false, Bool.false_eq_true]; done) | (simp only [A_view, h1, inB_t h3, h5, (decide_eq_false (ne_of_lt b49_9)), cond_true, cond_false, Bool.and_true, Bool.true_and, Bool.and_false, Bool.false_and, Bool.or_true, Bool.true_or, Bool.or_false, Bool.false_or, Bool.not_true, Bool.not_false, decide_true, decide_false, if_true, if_false, Bool.true_eq_false, Bool.false_eq_true]; done) | (simp only [A_view, h1, inB_t h3, h5, b49_9, (decide_eq_false (ne_of_lt b49_9)), cond_true, cond_false, Bool.and_true, Bool.true_and, Bool.and_false, Bool.false_and, Bool.or_true, Bool.true_or, Bool.or_false, Bool.false_or, Bool.not_true, Bool.not_false, decide_true, decide_false, if_true, if_false, Bool.true_eq_false, Bool.false_eq_true]; done) | (simp [A_view, h1, inB_t h3, h5, b49_9, (decide_eq_false (ne_of_lt b49_9))]; done) | (simp only [A_view, h1, inB_t h3, h5, cond_true, cond_false, Bool.and_true, Bool.true_and, Bool.and_false, Bool.false_and, Bool.or_true, Bool.true_or, Bool.or_false, Bool.false_or, Bool.not_true, Bool.not_false, decide_true, decide_false, if_true, if_false, Bool.true_eq_false, Bool.false_eq_true] <;> decide)), _, rfl, hV19, (by have e : (K_view (thC σ c) (inV (fun k => σ.2.2.1 (96 + (Int32.toNatClampNeg c)) (Int32.toNatClampNeg (nI k))) l9 (Int32.toNatClampNeg (σ.2.2.1 116 (Int32.toNatClampNeg c)))) l9 (σ.2.2.1 116 (Int32.toNatClampNeg c))) = true := (by first | (simp only [K_view, h1, inB_t h3, h5, cond_true, cond_false, Bool.and_true, Bool.true_and, Bool.and_false, Bool.false_and, Bool.or_true, Bool.true_or, Bool.or_false, Bool.false_or, Bool.not_true, Bool.not_false, decide_true, decide_false, if_true, if_false, Bool.true_eq_false, Bool.false_eq_true]; done) | (simp only [K_view, h1, inB_t h3, h5, (decide_eq_false (ne_of_lt b49_9)), cond_true, cond_false, Bool.and_true, Bool.true_and, Bool.and_false, Bool.false_and, Bool.or_true, Bool.true_or, Bool.or_false, Bool.false_or, Bool.not_true, Bool.not_false, decide_true, decide_false, if_true, if_false, Bool.true_eq_false, Bool.false_eq_true]; done) | (simp only [K_view, h1, inB_t h3, h5, b49_9, (decide_eq_false (ne_of_lt b49_9)), cond_true, cond_false, Bool.and_true, Bool.true_and, Bool.and_false, Bool.false_and, Bool.or_true, Bool.true_or, Bool.or_false, Bool.false_or, Bool.not_true, Bool.not_false, decide_true, decide_false, if_true, if_false, Bool.true_eq_false, Bool.false_eq_true]; done) | (simp [K_view, h1, inB_t h3, h5, b49_9, (decide_eq_false (ne_of_lt b49_9))]; done) | (simp only [K_view, h1, inB_t h3, h5, cond_true, cond_false, Bool.and_true, Bool.true_and, Bool.and_false, Bool.false_and, Bool.or_true, Bool.true_or, Bool.or_false, Bool.false_or, Bool.not_true, Bool.not_false, decide_true, decide_false, if_true, if_false, Bool.true_eq_false, Bool.false_eq_true] <;> decide)); rw [e]; exact hW20)⟩
        · skip
          refine R_bipush (pc := 52) (v := (-5)) dX8_view_52 (by decide) ?_
          exact R_iret (pc := 54) dX8_view_54 rfl rfl (Nat.zero_le _) (Nat.zero_le _) ⟨_, rfl, (by first | (simp only [A_view, h1, inB_t h3, h5, cond_true, cond_false, Bool.and_true, Bool.true_and, Bool.and_false, Bool.false_and, Bool.or_true, Bool.true_or, Bool.or_false, Bool.false_or, Bool.not_true, Bool.not_false, decide_true, decide_false, if_true, if_false, Bool.true_eq_false, Bool.false_eq_true]; done) | (simp only [A_view, h1, inB_t h3, h5, (decide_eq_true (eq_of_nlt (iva_116 hI _ (clamp19 (thC_r hI h1))) b49_9)), cond_true, cond_false, Bool.and_true, Bool.true_and, Bool.and_false, Bool.false_and, Bool.or_true, Bool.true_or, Bool.or_false, Bool.false_or, Bool.not_true, Bool.not_false, decide_true, decide_false, if_true, if_false, Bool.true_eq_false, Bool.false_eq_true]; done) | (simp only [A_view, h1, inB_t h3, h5, b49_9, (decide_eq_true (eq_of_nlt (iva_116 hI _ (clamp19 (thC_r hI h1))) b49_9)), cond_true, cond_false, Bool.and_true, Bool.true_and, Bool.and_false, Bool.false_and, Bool.or_true, Bool.true_or, Bool.or_false, Bool.false_or, Bool.not_true, Bool.not_false, decide_true, decide_false, if_true, if_false, Bool.true_eq_false, Bool.false_eq_true]; done) | (simp [A_view, h1, inB_t h3, h5, b49_9, (decide_eq_true (eq_of_nlt (iva_116 hI _ (clamp19 (thC_r hI h1))) b49_9))]; done) | (simp only [A_view, h1, inB_t h3, h5, cond_true, cond_false, Bool.and_true, Bool.true_and, Bool.and_false, Bool.false_and, Bool.or_true, Bool.true_or, Bool.or_false, Bool.false_or, Bool.not_true, Bool.not_false, decide_true, decide_false, if_true, if_false, Bool.true_eq_false, Bool.false_eq_true] <;> decide)), _, rfl, hI, (by have e : (K_view (thC σ c) (inV (fun k => σ.2.2.1 (96 + (Int32.toNatClampNeg c)) (Int32.toNatClampNeg (nI k))) l9 (Int32.toNatClampNeg (σ.2.2.1 116 (Int32.toNatClampNeg c)))) l9 (σ.2.2.1 116 (Int32.toNatClampNeg c))) = false := (by first | (simp only [K_view, h1, inB_t h3, h5, cond_true, cond_false, Bool.and_true, Bool.true_and, Bool.and_false, Bool.false_and, Bool.or_true, Bool.true_or, Bool.or_false, Bool.false_or, Bool.not_true, Bool.not_false, decide_true, decide_false, if_true, if_false, Bool.true_eq_false, Bool.false_eq_true]; done) | (simp only [K_view, h1, inB_t h3, h5, (decide_eq_true (eq_of_nlt (iva_116 hI _ (clamp19 (thC_r hI h1))) b49_9)), cond_true, cond_false, Bool.and_true, Bool.true_and, Bool.and_false, Bool.false_and, Bool.or_true, Bool.true_or, Bool.or_false, Bool.false_or, Bool.not_true, Bool.not_false, decide_true, decide_false, if_true, if_false, Bool.true_eq_false, Bool.false_eq_true]; done) | (simp only [K_view, h1, inB_t h3, h5, b49_9, (decide_eq_true (eq_of_nlt (iva_116 hI _ (clamp19 (thC_r hI h1))) b49_9)), cond_true, cond_false, Bool.and_true, Bool.true_and, Bool.and_false, Bool.false_and, Bool.or_true, Bool.true_or, Bool.or_false, Bool.false_or, Bool.not_true, Bool.not_false, decide_true, decide_false, if_true, if_false, Bool.true_eq_false, Bool.false_eq_true]; done) | (simp [K_view, h1, inB_t h3, h5, b49_9, (decide_eq_true (eq_of_nlt (iva_116 hI _ (clamp19 (thC_r hI h1))) b49_9))]; done) | (simp only [K_view, h1, inB_t h3, h5, cond_true, cond_false, Bool.and_true, Bool.true_and, Bool.and_false, Bool.false_and, Bool.or_true, Bool.true_or, Bool.or_false, Bool.false_or, Bool.not_true, Bool.not_false, decide_true, decide_false, if_true, if_false, Bool.true_eq_false, Bool.false_eq_true] <;> decide)); rw [e]; exact (show Cor σ σ from Cor.rfl' σ))⟩
    · skip
      refine R_ifne (pc := 18) 24 dX8_view_18 (by decide) (fun h => absurd (by decide) h) (fun _ => ?_)
      refine R_bipush (pc := 21) (v := (-2)) dX8_view_21 (by decide) ?_
      exact R_iret (pc := 23) dX8_view_23 rfl rfl (Nat.zero_le _) (Nat.zero_le _) ⟨_, rfl, (by first | (simp only [A_view, h1, inB_f h3, cond_true, cond_false, Bool.and_true, Bool.true_and, Bool.and_false, Bool.false_and, Bool.or_true, Bool.true_or, Bool.or_false, Bool.false_or, Bool.not_true, Bool.not_false, decide_true, decide_false, if_true, if_false, Bool.true_eq_false, Bool.false_eq_true]; done) | (simp [A_view, h1, inB_f h3]; done) | (simp only [A_view, h1, inB_f h3, cond_true, cond_false, Bool.and_true, Bool.true_and, Bool.and_false, Bool.false_and, Bool.or_true, Bool.true_or, Bool.or_false, Bool.false_or, Bool.not_true, Bool.not_false, decide_true, decide_false, if_true, if_false, Bool.true_eq_false, Bool.false_eq_true] <;> decide)), _, rfl, hI, (by have e : (K_view (thC σ c) (inV (fun k => σ.2.2.1 (96 + (Int32.toNatClampNeg c)) (Int32.toNatClampNeg (nI k))) l9 (Int32.toNatClampNeg (σ.2.2.1 116 (Int32.toNatClampNeg c)))) l9 (σ.2.2.1 116 (Int32.toNatClampNeg c))) = false := (by first | (simp only [K_view, h1, inB_f h3, cond_true, cond_false, Bool.and_true, Bool.true_and, Bool.and_false, Bool.false_and, Bool.or_true, Bool.true_or, Bool.or_false, Bool.false_or, Bool.not_true, Bool.not_false, decide_true, decide_false, if_true, if_false, Bool.true_eq_false, Bool.false_eq_true]; done) | (simp [K_view, h1, inB_f h3]; done) | (simp only [K_view, h1, inB_f h3, cond_true, cond_false, Bool.and_true, Bool.true_and, Bool.and_false, Bool.false_and, Bool.or_true, Bool.true_or, Bool.or_false, Bool.false_or, Bool.not_true, Bool.not_false, decide_true, decide_false, if_true, if_false, Bool.true_eq_false, Bool.false_eq_true] <;> decide)); rw [e]; exact (show Cor σ σ from Cor.rfl' σ))⟩
  · skip
    refine R_ifeq (pc := 8) 21 dX8_view_8 (by decide) (fun _ => ?_) (fun h => absurd (by decide) h)
    refine R_bipush (pc := 21) (v := (-2)) dX8_view_21 (by decide) ?_
    exact R_iret (pc := 23) dX8_view_23 rfl rfl (Nat.zero_le _) (Nat.zero_le _) ⟨_, rfl, (by first | (simp only [A_view, h1, cond_true, cond_false, Bool.and_true, Bool.true_and, Bool.and_false, Bool.false_and, Bool.or_true, Bool.true_or, Bool.or_false, Bool.false_or, Bool.not_true, Bool.not_false, decide_true, decide_false, if_true, if_false, Bool.true_eq_false, Bool.false_eq_true]; done) | (simp [A_view, h1]; done) | (simp only [A_view, h1, cond_true, cond_false, Bool.and_true, Bool.true_and, Bool.and_false, Bool.false_and, Bool.or_true, Bool.true_or, Bool.or_false, Bool.false_or, Bool.not_true, Bool.not_false, decide_true, decide_false, if_true, if_false, Bool.true_eq_false, Bool.false_eq_true] <;> decide)), _, rfl, hI, (by have e : (K_view (thC σ c) (inV (fun k => σ.2.2.1 (96 + (Int32.toNatClampNeg c)) (Int32.toNatClampNeg (nI k))) l9 (Int32.toNatClampNeg (σ.2.2.1 116 (Int32.toNatClampNeg c)))) l9 (σ.2.2.1 116 (Int32.toNatClampNeg c))) = false := (by first | (simp only [K_view, h1, cond_true, cond_false, Bool.and_true, Bool.true_and, Bool.and_false, Bool.false_and, Bool.or_true, Bool.true_or, Bool.or_false, Bool.false_or, Bool.not_true, Bool.not_false, decide_true, decide_false, if_true, if_false, Bool.true_eq_false, Bool.false_eq_true]; done) | (simp [K_view, h1]; done) | (simp only [K_view, h1, cond_true, cond_false, Bool.and_true, Bool.true_and, Bool.and_false, Bool.false_and, Bool.or_true, Bool.true_or, Bool.or_false, Bool.false_or, Bool.not_true, Bool.not_false, decide_true, decide_false, if_true, if_false, Bool.true_eq_false, Bool.false_eq_true] <;> decide)); rw [e]; exact (show Cor σ σ from Cor.rfl' σ))⟩
