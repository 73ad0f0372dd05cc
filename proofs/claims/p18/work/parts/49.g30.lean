/-! methods on any state that keeps the invariant -/
def an_card (l p n b s t : Int32) : Int32 := bif inB l 0 3 && (inB p 0 4 && inB b 0 4) then (bif inB n 0 99 && (inB s 0 4 && inB t (-1) 20000) then 0 else -3) else -2
def an_days (n : Int32) : Int32 := bif inB n 1 99 then (if 0 + n ≤ 999 then 0 + n else -3) else -3
def an_set (a v : Int32) : Int32 := if a = 0 then (bif inB v 0 8 then 2 else -3) else if a = 1 then (bif inB v 0 999 then 999 else -3) else if a = 2 then (bif inB v 1 10000 then 100 else -3) else -3
def an_series (p a : Int32) : Int32 := bif inB p 0 4 then (bif inB a 0 4 then (if a = 1 then -1 else if a = 2 then -1 else 0) else -3) else -2
def an_gap (p i : Int32) : Int32 := bif inB p 0 4 then (if i < 0 then -3 else -1) else -2
def an_unseen (a : Int32) : Int32 := bif inB a 0 1 then (if a = 0 then 0 else 1) else -3
def an_overlap (a b c : Int32) : Int32 := bif inB a 0 3 && inB b 0 3 then (if a = b then -2 else bif inB c 0 2 then (if c = 0 then 0 else -1) else -3) else -2
def an_feature (f a b : Int32) : Int32 := bif inB f 0 7 then (bif inB a 0 20000 && inB b a 20000 then 1 else -3) else -2
def an_back (f a b : Int32) : Int32 := bif inB f 0 4 then (bif inB a 0 20000 && inB b a 20000 then 1 else -3) else -2
def an_landmark (a b : Int32) : Int32 := bif inB a 0 7 then (bif inB b 0 64 then 1 else -3) else -2
def an_write (n : Int32) : Int32 := bif inB n 1 8 then (if 160 < 0 + n then -5 else 0 + n) else -3
def an_count (a : Int32) : Int32 := bif inB a 0 7 then 0 else -3
theorem lm_eq (b : Int32) (h : inR b 0 63) : inB b 0 64 = true := by
  apply inB_t
  refine ⟨h.1, fun h2 => h.2 ?_⟩
  rw [Int32.lt_iff_toInt_lt] at h2 ⊢
  have : (63 : Int32).toInt = 63 := by decide
  have : (64 : Int32).toInt = 64 := by decide
  omega
theorem lm_no (b : Int32) (h : ¬ inR b 0 63) (h2 : ¬ b = 64) : inB b 0 64 = false := by
  apply inB_f
  intro h3
  refine h ⟨h3.1, fun h4 => h3.2 ?_⟩
  have e1 : (63 : Int32).toInt = 63 := by decide
  have e2 : (64 : Int32).toInt = 64 := by decide
  rw [Int32.lt_iff_toInt_lt] at h4 ⊢
  have : b.toInt ≠ 64 := fun h5 => h2 (Int32.toInt_inj.mp (by rw [h5, e2]))
  omega
set_option maxRecDepth 100000 in
set_option maxHeartbeats 40000000 in
theorem fx_X8_isSpan {G : vG} {l : Launch} (w : VW) (a b : Int32) : Sp G l yX8_isSpan cX8_isSpan 2 (some .boolean) 1 0 0 [.int a, .int b] (w) (QI (fun x w2 => w2 = w ∧ ((inB a 0 20000 && inB b a 20000) = true ∧ x = 1 ∨ (inB a 0 20000 && inB b a 20000) = false ∧ x = 0))) := by
  refine Sp_of_R [(some (.int a)), (some (.int b))] [] rfl (by simp) rfl (Nat.le_of_ble_eq_true rfl) ?_
  refine R_iload_n (pc := 0) dX8_isSpan_0 rfl rfl ?_
  refine R_iconst (pc := 1) (v := 0) dX8_isSpan_1 (by decide) ?_
  refine R_sipush (pc := 2) (v := 20000) dX8_isSpan_2 (by decide) ?_
  refine k_X8_72 (pc := 5) (sp_X8_isWithin _ _ _ _) rfl (by decide) (Nat.le_refl _) (Nat.le_refl _) (Nat.le_of_ble_eq_true rfl) dX8_isSpan_5 (fun x w2 h => ?_)
  rcases h with ⟨rfl, ⟨h1, rfl⟩ | ⟨h1, rfl⟩⟩
  · skip
    refine R_ifeq (pc := 8) 26 dX8_isSpan_8 (by decide) (fun h => absurd h (by decide)) (fun _ => ?_)
    refine R_iload_n (pc := 11) dX8_isSpan_11 rfl rfl ?_
    refine R_iload_n (pc := 12) dX8_isSpan_12 rfl rfl ?_
    refine R_sipush (pc := 13) (v := 20000) dX8_isSpan_13 (by decide) ?_
    refine k_X8_72 (pc := 16) (sp_X8_isWithin _ _ _ _) rfl (by decide) (Nat.le_refl _) (Nat.le_refl _) (Nat.le_of_ble_eq_true rfl) dX8_isSpan_16 (fun x w2 h => ?_)
    rcases h with ⟨rfl, ⟨h3, rfl⟩ | ⟨h3, rfl⟩⟩
    · skip
      refine R_ifeq (pc := 19) 26 dX8_isSpan_19 (by decide) (fun h => absurd h (by decide)) (fun _ => ?_)
      refine R_iconst (pc := 22) (v := 1) dX8_isSpan_22 (by decide) ?_
      refine R_goto (pc := 23) 27 dX8_isSpan_23 (by decide) ?_
      exact R_iret (pc := 27) dX8_isSpan_27 rfl rfl (Nat.zero_le _) (Nat.zero_le _) ⟨_, rfl, rfl, by simp [inB_t h1, inB_t h3]⟩
    · skip
      refine R_ifeq (pc := 19) 26 dX8_isSpan_19 (by decide) (fun _ => ?_) (fun h => absurd (by decide) h)
      refine R_iconst (pc := 26) (v := 0) dX8_isSpan_26 (by decide) ?_
      exact R_iret (pc := 27) dX8_isSpan_27 rfl rfl (Nat.zero_le _) (Nat.zero_le _) ⟨_, rfl, rfl, by simp [inB_t h1, inB_f h3]⟩
  · skip
    refine R_ifeq (pc := 8) 26 dX8_isSpan_8 (by decide) (fun _ => ?_) (fun h => absurd (by decide) h)
    refine R_iconst (pc := 26) (v := 0) dX8_isSpan_26 (by decide) ?_
    exact R_iret (pc := 27) dX8_isSpan_27 rfl rfl (Nat.zero_le _) (Nat.zero_le _) ⟨_, rfl, rfl, by simp [inB_f h1]⟩
set_option maxRecDepth 100000 in
set_option maxHeartbeats 40000000 in
theorem fx_X9_isDay {G : vG} {l : Launch} (w : VW) (a : Int32) : Sp G l yX9_isDay cX9_isDay 1 (some .boolean) 1 0 0 [.int a] (w) (QI (fun x w2 => w2 = w ∧ (inR a 0 20000 ∧ x = 1 ∨ ¬ inR a 0 20000 ∧ x = 0))) := by
  refine Sp_of_R [(some (.int a))] [] rfl (by simp) rfl (Nat.le_of_ble_eq_true rfl) ?_
  refine R_iload_n (pc := 0) dX9_isDay_0 rfl rfl ?_
  refine R_iconst (pc := 1) (v := 0) dX9_isDay_1 (by decide) ?_
  refine R_sipush (pc := 2) (v := 20000) dX9_isDay_2 (by decide) ?_
  refine k_X9_124 (pc := 5) (sp_X9_in _ _ _ _) rfl (by decide) (Nat.le_refl _) (Nat.le_refl _) (Nat.le_of_ble_eq_true rfl) dX9_isDay_5 (fun x w2 h => ?_)
  rcases h with ⟨rfl, ⟨h1, rfl⟩ | ⟨h1, rfl⟩⟩
  · skip
    exact R_iret (pc := 8) dX9_isDay_8 rfl rfl (Nat.zero_le _) (Nat.zero_le _) ⟨_, rfl, rfl, Or.inl ⟨h1, rfl⟩⟩
  · skip
    exact R_iret (pc := 8) dX9_isDay_8 rfl rfl (Nat.zero_le _) (Nat.zero_le _) ⟨_, rfl, rfl, Or.inr ⟨h1, rfl⟩⟩
set_option maxRecDepth 100000 in
set_option maxHeartbeats 40000000 in
theorem ga_X8_walls {G : vG} {l : Launch} (σ : Sg) (a : Int64) (hI : Inv σ) : Sp G l yX8_walls cX8_walls 3 (some .int) 0 0 0 [.ref 0, .long a] (WW σ) (QI (fun x w2 => x = 1 ∧ ∃ σ2, w2 = WW σ2 ∧ Inv σ2)) := by
  refine Sp_of_R [(some (.ref 0)), (some (.long a)), none] [] rfl (by simp) rfl (Nat.le_of_ble_eq_true rfl) ?_
  refine R_aload_n (pc := 0) dX8_walls_0 rfl rfl ?_
  refine g_X8_44 (pc := 1) (v := .ref 93) rfl dX8_walls_1 (c_0 _) rfl ?_
  refine R_lload_n (pc := 4) dX8_walls_4 rfl rfl ?_
  refine p_X8_267 (pc := 5) rfl dX8_walls_5 (c_93 _) (Nat.le_of_ble_eq_true rfl) rfl rfl (s_93_1 _ _) ?_
  have hW1 := cor_cj 9301 a (Cor.rfl' σ)
  refine R_iconst (pc := 8) (v := 1) dX8_walls_8 (by decide) ?_
  exact R_iret (pc := 9) dX8_walls_9 rfl rfl (Nat.zero_le _) (Nat.zero_le _) ⟨_, rfl, rfl, _, rfl, hI⟩
set_option maxRecDepth 100000 in
set_option maxHeartbeats 40000000 in
theorem ga_X8_feature {G : vG} {l : Launch} (σ : Sg) (f a b : Int32) (hI : Inv σ) : Sp G l yX8_feature cX8_feature 4 (some .int) 2 0 0 [.ref 0, .int f, .int a, .int b] (WW σ) (QI (fun x w2 => x = an_feature f a b ∧ ∃ σ2, w2 = WW σ2 ∧ Inv σ2)) := by
  refine Sp_of_R [(some (.ref 0)), (some (.int f)), (some (.int a)), (some (.int b))] [] rfl (by simp) rfl (Nat.le_of_ble_eq_true rfl) ?_
  refine R_iload_n (pc := 0) dX8_feature_0 rfl rfl ?_
  refine R_iconst (pc := 1) (v := 0) dX8_feature_1 (by decide) ?_
  refine R_bipush (pc := 2) (v := 7) dX8_feature_2 (by decide) ?_
  refine k_X8_72 (pc := 4) (sp_X8_isWithin _ _ _ _) rfl (by decide) (Nat.le_refl _) (Nat.le_refl _) (Nat.le_of_ble_eq_true rfl) dX8_feature_4 (fun x w2 h => ?_)
  rcases h with ⟨rfl, ⟨h1, rfl⟩ | ⟨h1, rfl⟩⟩
  · skip
    refine R_ifne (pc := 7) 13 dX8_feature_7 (by decide) (fun _ => ?_) (fun h => absurd h (by decide))
    refine R_iload_n (pc := 13) dX8_feature_13 rfl rfl ?_
    refine R_iload_n (pc := 14) dX8_feature_14 rfl rfl ?_
    refine k_X8_215 (pc := 15) (fx_X8_isSpan _ _ _) rfl (by decide) (Nat.le_refl _) (Nat.le_refl _) (Nat.le_of_ble_eq_true rfl) dX8_feature_15 (fun x w2 h => ?_)
    rcases h with ⟨rfl, ⟨h3, rfl⟩ | ⟨h3, rfl⟩⟩
    · skip
      refine R_ifne (pc := 18) 24 dX8_feature_18 (by decide) (fun _ => ?_) (fun h => absurd h (by decide))
      refine R_aload_n (pc := 24) dX8_feature_24 rfl rfl ?_
      refine g_X8_37 (pc := 25) (v := .ref 58) rfl dX8_feature_25 (c_0 _) rfl ?_
      refine g_X8_218 (pc := 28) (v := .ref 59) rfl dX8_feature_28 (c_58 _) rfl ?_
      refine R_iload_n (pc := 31) dX8_feature_31 rfl rfl ?_
      refine R_iload_n (pc := 32) dX8_feature_32 rfl rfl ?_
      have hx5 : vp_in f 8 := (vp_of_inR h1 (by decide))
      refine W_iastore (pc := 33) dX8_feature_33 (c_59 _) hx5 (a_59 _ _) ?_
      have hW6 := cor_ca 59 (Int32.toNatClampNeg f) a (Cor.rfl' σ) rfl
      refine R_aload_n (pc := 34) dX8_feature_34 rfl rfl ?_
      refine g_X8_37 (pc := 35) (v := .ref 58) rfl dX8_feature_35 (c_0 _) rfl ?_
      refine g_X8_221 (pc := 38) (v := .ref 60) rfl dX8_feature_38 (c_58 _) rfl ?_
      refine R_iload_n (pc := 41) dX8_feature_41 rfl rfl ?_
      refine R_iload_n (pc := 42) dX8_feature_42 rfl rfl ?_
      have hx7 : vp_in f 8 := (vp_of_inR h1 (by decide))
      refine W_iastore (pc := 43) dX8_feature_43 (c_60 _) hx7 (a_60 _ _) ?_
      have hW8 := cor_ca 60 (Int32.toNatClampNeg f) b hW6 rfl
      refine R_iconst (pc := 44) (v := 1) dX8_feature_44 (by decide) ?_
      exact R_iret (pc := 45) dX8_feature_45 rfl rfl (Nat.zero_le _) (Nat.zero_le _) ⟨_, rfl, (by first | (simp only [an_feature, inB_t h1, h3, cond_true, cond_false, Bool.and_true, Bool.true_and, Bool.and_false, Bool.false_and]; done) | (simp only [an_feature, inB_t h1, h3, cond_true, cond_false, Bool.and_true, Bool.true_and, Bool.and_false, Bool.false_and, if_true, if_true, if_false, ite_self]; done) | (simp only [an_feature, inB_t h1, h3, cond_true, cond_false, Bool.and_true, Bool.true_and, Bool.and_false, Bool.false_and] <;> simp []; done) | (simp only [an_feature, inB_t h1, h3, cond_true, cond_false, Bool.and_true, Bool.true_and, Bool.and_false, Bool.false_and] <;> decide)), _, rfl, hI⟩
    · skip
      refine R_ifne (pc := 18) 24 dX8_feature_18 (by decide) (fun h => absurd (by decide) h) (fun _ => ?_)
      refine R_bipush (pc := 21) (v := (-3)) dX8_feature_21 (by decide) ?_
      exact R_iret (pc := 23) dX8_feature_23 rfl rfl (Nat.zero_le _) (Nat.zero_le _) ⟨_, rfl, (by first | (simp only [an_feature, inB_t h1, h3, cond_true, cond_false, Bool.and_true, Bool.true_and, Bool.and_false, Bool.false_and]; done) | (simp only [an_feature, inB_t h1, h3, cond_true, cond_false, Bool.and_true, Bool.true_and, Bool.and_false, Bool.false_and, if_true, if_true, if_false, ite_self]; done) | (simp only [an_feature, inB_t h1, h3, cond_true, cond_false, Bool.and_true, Bool.true_and, Bool.and_false, Bool.false_and] <;> simp []; done) | (simp only [an_feature, inB_t h1, h3, cond_true, cond_false, Bool.and_true, Bool.true_and, Bool.and_false, Bool.false_and] <;> decide)), _, rfl, hI⟩
  · skip
    refine R_ifne (pc := 7) 13 dX8_feature_7 (by decide) (fun h => absurd (by decide) h) (fun _ => ?_)
    refine R_bipush (pc := 10) (v := (-2)) dX8_feature_10 (by decide) ?_
    exact R_iret (pc := 12) dX8_feature_12 rfl rfl (Nat.zero_le _) (Nat.zero_le _) ⟨_, rfl, (by first | (simp only [an_feature, inB_f h1, cond_true, cond_false, Bool.and_true, Bool.true_and, Bool.and_false, Bool.false_and]; done) | (simp only [an_feature, inB_f h1, cond_true, cond_false, Bool.and_true, Bool.true_and, Bool.and_false, Bool.false_and, if_true, if_true, if_false, ite_self]; done) | (simp only [an_feature, inB_f h1, cond_true, cond_false, Bool.and_true, Bool.true_and, Bool.and_false, Bool.false_and] <;> simp []; done) | (simp only [an_feature, inB_f h1, cond_true, cond_false, Bool.and_true, Bool.true_and, Bool.and_false, Bool.false_and] <;> decide)), _, rfl, hI⟩
set_option maxRecDepth 100000 in
set_option maxHeartbeats 40000000 in
theorem ga_X8_back {G : vG} {l : Launch} (σ : Sg) (f a b : Int32) (hI : Inv σ) : Sp G l yX8_back cX8_back 4 (some .int) 2 0 0 [.ref 0, .int f, .int a, .int b] (WW σ) (QI (fun x w2 => x = an_back f a b ∧ ∃ σ2, w2 = WW σ2 ∧ Inv σ2)) := by
  refine Sp_of_R [(some (.ref 0)), (some (.int f)), (some (.int a)), (some (.int b))] [] rfl (by simp) rfl (Nat.le_of_ble_eq_true rfl) ?_
  refine R_iload_n (pc := 0) dX8_back_0 rfl rfl ?_
  refine R_iconst (pc := 1) (v := 0) dX8_back_1 (by decide) ?_
  refine R_iconst (pc := 2) (v := 4) dX8_back_2 (by decide) ?_
  refine k_X8_72 (pc := 3) (sp_X8_isWithin _ _ _ _) rfl (by decide) (Nat.le_refl _) (Nat.le_refl _) (Nat.le_of_ble_eq_true rfl) dX8_back_3 (fun x w2 h => ?_)
  rcases h with ⟨rfl, ⟨h1, rfl⟩ | ⟨h1, rfl⟩⟩
  · skip
    refine R_ifne (pc := 6) 12 dX8_back_6 (by decide) (fun _ => ?_) (fun h => absurd h (by decide))
    refine R_iload_n (pc := 12) dX8_back_12 rfl rfl ?_
    refine R_iload_n (pc := 13) dX8_back_13 rfl rfl ?_
    refine k_X8_215 (pc := 14) (fx_X8_isSpan _ _ _) rfl (by decide) (Nat.le_refl _) (Nat.le_refl _) (Nat.le_of_ble_eq_true rfl) dX8_back_14 (fun x w2 h => ?_)
    rcases h with ⟨rfl, ⟨h3, rfl⟩ | ⟨h3, rfl⟩⟩
    · skip
      refine R_ifne (pc := 17) 23 dX8_back_17 (by decide) (fun _ => ?_) (fun h => absurd h (by decide))
      refine R_aload_n (pc := 23) dX8_back_23 rfl rfl ?_
      refine g_X8_37 (pc := 24) (v := .ref 58) rfl dX8_back_24 (c_0 _) rfl ?_
      refine g_X8_227 (pc := 27) (v := .ref 61) rfl dX8_back_27 (c_58 _) rfl ?_
      refine R_iload_n (pc := 30) dX8_back_30 rfl rfl ?_
      refine R_iload_n (pc := 31) dX8_back_31 rfl rfl ?_
      have hx5 : vp_in f 5 := (vp_of_inR h1 (by decide))
      refine W_iastore (pc := 32) dX8_back_32 (c_61 _) hx5 (a_61 _ _) ?_
      have hW6 := cor_ca 61 (Int32.toNatClampNeg f) a (Cor.rfl' σ) rfl
      refine R_aload_n (pc := 33) dX8_back_33 rfl rfl ?_
      refine g_X8_37 (pc := 34) (v := .ref 58) rfl dX8_back_34 (c_0 _) rfl ?_
      refine g_X8_230 (pc := 37) (v := .ref 62) rfl dX8_back_37 (c_58 _) rfl ?_
      refine R_iload_n (pc := 40) dX8_back_40 rfl rfl ?_
      refine R_iload_n (pc := 41) dX8_back_41 rfl rfl ?_
      have hx7 : vp_in f 5 := (vp_of_inR h1 (by decide))
      refine W_iastore (pc := 42) dX8_back_42 (c_62 _) hx7 (a_62 _ _) ?_
      have hW8 := cor_ca 62 (Int32.toNatClampNeg f) b hW6 rfl
      refine R_iconst (pc := 43) (v := 1) dX8_back_43 (by decide) ?_
      exact R_iret (pc := 44) dX8_back_44 rfl rfl (Nat.zero_le _) (Nat.zero_le _) ⟨_, rfl, (by first | (simp only [an_back, inB_t h1, h3, cond_true, cond_false, Bool.and_true, Bool.true_and, Bool.and_false, Bool.false_and]; done) | (simp only [an_back, inB_t h1, h3, cond_true, cond_false, Bool.and_true, Bool.true_and, Bool.and_false, Bool.false_and, if_true, if_true, if_false, ite_self]; done) | (simp only [an_back, inB_t h1, h3, cond_true, cond_false, Bool.and_true, Bool.true_and, Bool.and_false, Bool.false_and] <;> simp []; done) | (simp only [an_back, inB_t h1, h3, cond_true, cond_false, Bool.and_true, Bool.true_and, Bool.and_false, Bool.false_and] <;> decide)), _, rfl, hI⟩
    · skip
      refine R_ifne (pc := 17) 23 dX8_back_17 (by decide) (fun h => absurd (by decide) h) (fun _ => ?_)
      refine R_bipush (pc := 20) (v := (-3)) dX8_back_20 (by decide) ?_
      exact R_iret (pc := 22) dX8_back_22 rfl rfl (Nat.zero_le _) (Nat.zero_le _) ⟨_, rfl, (by first | (simp only [an_back, inB_t h1, h3, cond_true, cond_false, Bool.and_true, Bool.true_and, Bool.and_false, Bool.false_and]; done) | (simp only [an_back, inB_t h1, h3, cond_true, cond_false, Bool.and_true, Bool.true_and, Bool.and_false, Bool.false_and, if_true, if_true, if_false, ite_self]; done) | (simp only [an_back, inB_t h1, h3, cond_true, cond_false, Bool.and_true, Bool.true_and, Bool.and_false, Bool.false_and] <;> simp []; done) | (simp only [an_back, inB_t h1, h3, cond_true, cond_false, Bool.and_true, Bool.true_and, Bool.and_false, Bool.false_and] <;> decide)), _, rfl, hI⟩
  · skip
    refine R_ifne (pc := 6) 12 dX8_back_6 (by decide) (fun h => absurd (by decide) h) (fun _ => ?_)
    refine R_bipush (pc := 9) (v := (-2)) dX8_back_9 (by decide) ?_
    exact R_iret (pc := 11) dX8_back_11 rfl rfl (Nat.zero_le _) (Nat.zero_le _) ⟨_, rfl, (by first | (simp only [an_back, inB_f h1, cond_true, cond_false, Bool.and_true, Bool.true_and, Bool.and_false, Bool.false_and]; done) | (simp only [an_back, inB_f h1, cond_true, cond_false, Bool.and_true, Bool.true_and, Bool.and_false, Bool.false_and, if_true, if_true, if_false, ite_self]; done) | (simp only [an_back, inB_f h1, cond_true, cond_false, Bool.and_true, Bool.true_and, Bool.and_false, Bool.false_and] <;> simp []; done) | (simp only [an_back, inB_f h1, cond_true, cond_false, Bool.and_true, Bool.true_and, Bool.and_false, Bool.false_and] <;> decide)), _, rfl, hI⟩
set_option maxRecDepth 100000 in
set_option maxHeartbeats 40000000 in
theorem ga_X8_landmark {G : vG} {l : Launch} (σ : Sg) (a b : Int32) (hI : Inv σ) : Sp G l yX8_landmark cX8_landmark 3 (some .int) 1 0 0 [.ref 0, .int a, .int b] (WW σ) (QI (fun x w2 => x = an_landmark a b ∧ ∃ σ2, w2 = WW σ2 ∧ Inv σ2)) := by
  refine Sp_of_R [(some (.ref 0)), (some (.int a)), (some (.int b))] [] rfl (by simp) rfl (Nat.le_of_ble_eq_true rfl) ?_
  refine R_iload_n (pc := 0) dX8_landmark_0 rfl rfl ?_
  refine R_iconst (pc := 1) (v := 0) dX8_landmark_1 (by decide) ?_
  refine R_bipush (pc := 2) (v := 7) dX8_landmark_2 (by decide) ?_
  refine k_X8_72 (pc := 4) (sp_X8_isWithin _ _ _ _) rfl (by decide) (Nat.le_refl _) (Nat.le_refl _) (Nat.le_of_ble_eq_true rfl) dX8_landmark_4 (fun x w2 h => ?_)
  rcases h with ⟨rfl, ⟨h1, rfl⟩ | ⟨h1, rfl⟩⟩
  · skip
    refine R_ifne (pc := 7) 13 dX8_landmark_7 (by decide) (fun _ => ?_) (fun h => absurd h (by decide))
    refine R_iload_n (pc := 13) dX8_landmark_13 rfl rfl ?_
    refine R_iconst (pc := 14) (v := 0) dX8_landmark_14 (by decide) ?_
    refine R_bipush (pc := 15) (v := 63) dX8_landmark_15 (by decide) ?_
    refine k_X8_72 (pc := 17) (sp_X8_isWithin _ _ _ _) rfl (by decide) (Nat.le_refl _) (Nat.le_refl _) (Nat.le_of_ble_eq_true rfl) dX8_landmark_17 (fun x w2 h => ?_)
    rcases h with ⟨rfl, ⟨h3, rfl⟩ | ⟨h3, rfl⟩⟩
    · skip
      refine R_ifne (pc := 20) 32 dX8_landmark_20 (by decide) (fun _ => ?_) (fun h => absurd h (by decide))
      refine R_aload_n (pc := 32) dX8_landmark_32 rfl rfl ?_
      refine g_X8_44 (pc := 33) (v := .ref 93) rfl dX8_landmark_33 (c_0 _) rfl ?_
      refine g_X8_264 (pc := 36) (v := .ref 94) rfl dX8_landmark_36 (c_93 _) rfl ?_
      refine R_iload_n (pc := 39) dX8_landmark_39 rfl rfl ?_
      refine R_iload_n (pc := 40) dX8_landmark_40 rfl rfl ?_
      have hx5 : vp_in a 8 := (vp_of_inR h1 (by decide))
      refine W_iastore (pc := 41) dX8_landmark_41 (c_94 _) hx5 (a_94 _ _) ?_
      have hW6 := cor_ca 94 (Int32.toNatClampNeg a) b (Cor.rfl' σ) rfl
      refine R_iconst (pc := 42) (v := 1) dX8_landmark_42 (by decide) ?_
      exact R_iret (pc := 43) dX8_landmark_43 rfl rfl (Nat.zero_le _) (Nat.zero_le _) ⟨_, rfl, (by simp only [an_landmark, inB_t h1, lm_eq _ h3, cond_true, cond_false]), _, rfl, hI⟩
    · skip
      refine R_ifne (pc := 20) 32 dX8_landmark_20 (by decide) (fun h => absurd (by decide) h) (fun _ => ?_)
      refine R_iload_n (pc := 23) dX8_landmark_23 rfl rfl ?_
      refine R_bipush (pc := 24) (v := 64) dX8_landmark_24 (by decide) ?_
      refine R_iceq (pc := 26) 32 dX8_landmark_26 (by decide) (fun b26_8 => ?_) (fun b26_8 => ?_)
      · skip
        refine R_aload_n (pc := 32) dX8_landmark_32 rfl rfl ?_
        refine g_X8_44 (pc := 33) (v := .ref 93) rfl dX8_landmark_33 (c_0 _) rfl ?_
        refine g_X8_264 (pc := 36) (v := .ref 94) rfl dX8_landmark_36 (c_93 _) rfl ?_
        refine R_iload_n (pc := 39) dX8_landmark_39 rfl rfl ?_
        refine R_iload_n (pc := 40) dX8_landmark_40 rfl rfl ?_
        have hx9 : vp_in a 8 := (vp_of_inR h1 (by decide))
        refine W_iastore (pc := 41) dX8_landmark_41 (c_94 _) hx9 (a_94 _ _) ?_
        have hW10 := cor_ca 94 (Int32.toNatClampNeg a) b (Cor.rfl' σ) rfl
        refine R_iconst (pc := 42) (v := 1) dX8_landmark_42 (by decide) ?_
        exact R_iret (pc := 43) dX8_landmark_43 rfl rfl (Nat.zero_le _) (Nat.zero_le _) ⟨_, rfl, (by simp only [an_landmark, inB_t h1, (show inB b 0 64 = true by rw [b26_8]; decide), cond_true, cond_false]), _, rfl, hI⟩
      · skip
        refine R_bipush (pc := 29) (v := (-3)) dX8_landmark_29 (by decide) ?_
        exact R_iret (pc := 31) dX8_landmark_31 rfl rfl (Nat.zero_le _) (Nat.zero_le _) ⟨_, rfl, (by simp only [an_landmark, inB_t h1, lm_no _ h3 b26_8, cond_true, cond_false]), _, rfl, hI⟩
  · skip
    refine R_ifne (pc := 7) 13 dX8_landmark_7 (by decide) (fun h => absurd (by decide) h) (fun _ => ?_)
    refine R_bipush (pc := 10) (v := (-2)) dX8_landmark_10 (by decide) ?_
    exact R_iret (pc := 12) dX8_landmark_12 rfl rfl (Nat.zero_le _) (Nat.zero_le _) ⟨_, rfl, (by first | (simp only [an_landmark, inB_f h1, cond_true, cond_false, Bool.and_true, Bool.true_and, Bool.and_false, Bool.false_and]; done) | (simp only [an_landmark, inB_f h1, cond_true, cond_false, Bool.and_true, Bool.true_and, Bool.and_false, Bool.false_and, if_true, if_true, if_false, ite_self]; done) | (simp only [an_landmark, inB_f h1, cond_true, cond_false, Bool.and_true, Bool.true_and, Bool.and_false, Bool.false_and] <;> simp []; done) | (simp only [an_landmark, inB_f h1, cond_true, cond_false, Bool.and_true, Bool.true_and, Bool.and_false, Bool.false_and] <;> decide)), _, rfl, hI⟩
set_option maxRecDepth 100000 in
set_option maxHeartbeats 40000000 in
theorem ga_X9_walls {G : vG} {l : Launch} (σ : Sg) (a : Int64) (hI : Inv σ) : Sp G l yX9_walls cX9_walls 3 (some .int) 0 0 0 [.ref 140, .long a] (WW σ) (QI (fun x w2 => x = 1 ∧ ∃ σ2, w2 = WW σ2 ∧ Inv σ2)) := by
  refine Sp_of_R [(some (.ref 140)), (some (.long a)), none] [] rfl (by simp) rfl (Nat.le_of_ble_eq_true rfl) ?_
  refine R_aload_n (pc := 0) dX9_walls_0 rfl rfl ?_
  refine R_lload_n (pc := 1) dX9_walls_1 rfl rfl ?_
  refine p_X9_232 (pc := 2) rfl dX9_walls_2 (c_140 _) (Nat.le_of_ble_eq_true rfl) rfl rfl (s_140_34 _ _) ?_
  have hW1 := cor_cj 14034 a (Cor.rfl' σ)
  refine R_iconst (pc := 5) (v := 1) dX9_walls_5 (by decide) ?_
  exact R_iret (pc := 6) dX9_walls_6 rfl rfl (Nat.zero_le _) (Nat.zero_le _) ⟨_, rfl, rfl, _, rfl, hI⟩
set_option maxRecDepth 100000 in
set_option maxHeartbeats 40000000 in
theorem ga_X9_feature {G : vG} {l : Launch} (σ : Sg) (f a b : Int32) (hI : Inv σ) : Sp G l yX9_feature cX9_feature 4 (some .int) 2 0 0 [.ref 140, .int f, .int a, .int b] (WW σ) (QI (fun x w2 => x = an_feature f a b ∧ ∃ σ2, w2 = WW σ2 ∧ Inv σ2)) := by
  refine Sp_of_R [(some (.ref 140)), (some (.int f)), (some (.int a)), (some (.int b))] [] rfl (by simp) rfl (Nat.le_of_ble_eq_true rfl) ?_
  refine R_iload_n (pc := 0) dX9_feature_0 rfl rfl ?_
  refine R_iconst (pc := 1) (v := 0) dX9_feature_1 (by decide) ?_
  refine R_bipush (pc := 2) (v := 7) dX9_feature_2 (by decide) ?_
  refine k_X9_124 (pc := 4) (sp_X9_in _ _ _ _) rfl (by decide) (Nat.le_refl _) (Nat.le_refl _) (Nat.le_of_ble_eq_true rfl) dX9_feature_4 (fun x w2 h => ?_)
  rcases h with ⟨rfl, ⟨h1, rfl⟩ | ⟨h1, rfl⟩⟩
  · skip
    refine R_ifne (pc := 7) 13 dX9_feature_7 (by decide) (fun _ => ?_) (fun h => absurd h (by decide))
    refine R_iload_n (pc := 13) dX9_feature_13 rfl rfl ?_
    refine k_X9_198 (pc := 14) (fx_X9_isDay _ _) rfl (by decide) (Nat.le_refl _) (Nat.le_refl _) (Nat.le_of_ble_eq_true rfl) dX9_feature_14 (fun x w2 h => ?_)
    rcases h with ⟨rfl, ⟨h3, rfl⟩ | ⟨h3, rfl⟩⟩
    · skip
      refine R_ifeq (pc := 17) 31 dX9_feature_17 (by decide) (fun h => absurd h (by decide)) (fun _ => ?_)
      refine R_iload_n (pc := 20) dX9_feature_20 rfl rfl ?_
      refine R_iload_n (pc := 21) dX9_feature_21 rfl rfl ?_
      refine R_sipush (pc := 22) (v := 20000) dX9_feature_22 (by decide) ?_
      refine k_X9_124 (pc := 25) (sp_X9_in _ _ _ _) rfl (by decide) (Nat.le_refl _) (Nat.le_refl _) (Nat.le_of_ble_eq_true rfl) dX9_feature_25 (fun x w2 h => ?_)
      rcases h with ⟨rfl, ⟨h5, rfl⟩ | ⟨h5, rfl⟩⟩
      · skip
        refine R_ifne (pc := 28) 34 dX9_feature_28 (by decide) (fun _ => ?_) (fun h => absurd h (by decide))
        refine R_aload_n (pc := 34) dX9_feature_34 rfl rfl ?_
        refine g_X9_66 (pc := 35) (v := .ref 156) rfl dX9_feature_35 (c_140 _) rfl ?_
        refine R_iload_n (pc := 38) dX9_feature_38 rfl rfl ?_
        refine R_iload_n (pc := 39) dX9_feature_39 rfl rfl ?_
        have hx7 : vp_in f 8 := (vp_of_inR h1 (by decide))
        refine W_iastore (pc := 40) dX9_feature_40 (c_156 _) hx7 (a_156 _ _) ?_
        have hW8 := cor_ca 156 (Int32.toNatClampNeg f) a (Cor.rfl' σ) rfl
        refine R_aload_n (pc := 41) dX9_feature_41 rfl rfl ?_
        refine g_X9_69 (pc := 42) (v := .ref 157) rfl dX9_feature_42 (c_140 _) rfl ?_
        refine R_iload_n (pc := 45) dX9_feature_45 rfl rfl ?_
        refine R_iload_n (pc := 46) dX9_feature_46 rfl rfl ?_
        have hx9 : vp_in f 8 := (vp_of_inR h1 (by decide))
        refine W_iastore (pc := 47) dX9_feature_47 (c_157 _) hx9 (a_157 _ _) ?_
        have hW10 := cor_ca 157 (Int32.toNatClampNeg f) b hW8 rfl
        refine R_iconst (pc := 48) (v := 1) dX9_feature_48 (by decide) ?_
        exact R_iret (pc := 49) dX9_feature_49 rfl rfl (Nat.zero_le _) (Nat.zero_le _) ⟨_, rfl, (by first | (simp only [an_feature, inB_t h1, inB_t h3, inB_t h5, cond_true, cond_false, Bool.and_true, Bool.true_and, Bool.and_false, Bool.false_and]; done) | (simp only [an_feature, inB_t h1, inB_t h3, inB_t h5, cond_true, cond_false, Bool.and_true, Bool.true_and, Bool.and_false, Bool.false_and, if_true, if_true, if_false, ite_self]; done) | (simp only [an_feature, inB_t h1, inB_t h3, inB_t h5, cond_true, cond_false, Bool.and_true, Bool.true_and, Bool.and_false, Bool.false_and] <;> simp []; done) | (simp only [an_feature, inB_t h1, inB_t h3, inB_t h5, cond_true, cond_false, Bool.and_true, Bool.true_and, Bool.and_false, Bool.false_and] <;> decide)), _, rfl, hI⟩
      · skip
        refine R_ifne (pc := 28) 34 dX9_feature_28 (by decide) (fun h => absurd (by decide) h) (fun _ => ?_)
        refine R_bipush (pc := 31) (v := (-3)) dX9_feature_31 (by decide) ?_
        exact R_iret (pc := 33) dX9_feature_33 rfl rfl (Nat.zero_le _) (Nat.zero_le _) ⟨_, rfl, (by first | (simp only [an_feature, inB_t h1, inB_t h3, inB_f h5, cond_true, cond_false, Bool.and_true, Bool.true_and, Bool.and_false, Bool.false_and]; done) | (simp only [an_feature, inB_t h1, inB_t h3, inB_f h5, cond_true, cond_false, Bool.and_true, Bool.true_and, Bool.and_false, Bool.false_and, if_true, if_true, if_false, ite_self]; done) | (simp only [an_feature, inB_t h1, inB_t h3, inB_f h5, cond_true, cond_false, Bool.and_true, Bool.true_and, Bool.and_false, Bool.false_and] <;> simp []; done) | (simp only [an_feature, inB_t h1, inB_t h3, inB_f h5, cond_true, cond_false, Bool.and_true, Bool.true_and, Bool.and_false, Bool.false_and] <;> decide)), _, rfl, hI⟩
    · skip
      refine R_ifeq (pc := 17) 31 dX9_feature_17 (by decide) (fun _ => ?_) (fun h => absurd (by decide) h)
      refine R_bipush (pc := 31) (v := (-3)) dX9_feature_31 (by decide) ?_
      exact R_iret (pc := 33) dX9_feature_33 rfl rfl (Nat.zero_le _) (Nat.zero_le _) ⟨_, rfl, (by first | (simp only [an_feature, inB_t h1, inB_f h3, cond_true, cond_false, Bool.and_true, Bool.true_and, Bool.and_false, Bool.false_and]; done) | (simp only [an_feature, inB_t h1, inB_f h3, cond_true, cond_false, Bool.and_true, Bool.true_and, Bool.and_false, Bool.false_and, if_true, if_true, if_false, ite_self]; done) | (simp only [an_feature, inB_t h1, inB_f h3, cond_true, cond_false, Bool.and_true, Bool.true_and, Bool.and_false, Bool.false_and] <;> simp []; done) | (simp only [an_feature, inB_t h1, inB_f h3, cond_true, cond_false, Bool.and_true, Bool.true_and, Bool.and_false, Bool.false_and] <;> decide)), _, rfl, hI⟩
  · skip
    refine R_ifne (pc := 7) 13 dX9_feature_7 (by decide) (fun h => absurd (by decide) h) (fun _ => ?_)
    refine R_bipush (pc := 10) (v := (-2)) dX9_feature_10 (by decide) ?_
    exact R_iret (pc := 12) dX9_feature_12 rfl rfl (Nat.zero_le _) (Nat.zero_le _) ⟨_, rfl, (by first | (simp only [an_feature, inB_f h1, cond_true, cond_false, Bool.and_true, Bool.true_and, Bool.and_false, Bool.false_and]; done) | (simp only [an_feature, inB_f h1, cond_true, cond_false, Bool.and_true, Bool.true_and, Bool.and_false, Bool.false_and, if_true, if_true, if_false, ite_self]; done) | (simp only [an_feature, inB_f h1, cond_true, cond_false, Bool.and_true, Bool.true_and, Bool.and_false, Bool.false_and] <;> simp []; done) | (simp only [an_feature, inB_f h1, cond_true, cond_false, Bool.and_true, Bool.true_and, Bool.and_false, Bool.false_and] <;> decide)), _, rfl, hI⟩
set_option maxRecDepth 100000 in
set_option maxHeartbeats 40000000 in
theorem ga_X9_back {G : vG} {l : Launch} (σ : Sg) (f a b : Int32) (hI : Inv σ) : Sp G l yX9_back cX9_back 4 (some .int) 2 0 0 [.ref 140, .int f, .int a, .int b] (WW σ) (QI (fun x w2 => x = an_back f a b ∧ ∃ σ2, w2 = WW σ2 ∧ Inv σ2)) := by
  refine Sp_of_R [(some (.ref 140)), (some (.int f)), (some (.int a)), (some (.int b))] [] rfl (by simp) rfl (Nat.le_of_ble_eq_true rfl) ?_
  refine R_iload_n (pc := 0) dX9_back_0 rfl rfl ?_
  refine R_iconst (pc := 1) (v := 0) dX9_back_1 (by decide) ?_
  refine R_iconst (pc := 2) (v := 4) dX9_back_2 (by decide) ?_
  refine k_X9_124 (pc := 3) (sp_X9_in _ _ _ _) rfl (by decide) (Nat.le_refl _) (Nat.le_refl _) (Nat.le_of_ble_eq_true rfl) dX9_back_3 (fun x w2 h => ?_)
  rcases h with ⟨rfl, ⟨h1, rfl⟩ | ⟨h1, rfl⟩⟩
  · skip
    refine R_ifne (pc := 6) 12 dX9_back_6 (by decide) (fun _ => ?_) (fun h => absurd h (by decide))
    refine R_iload_n (pc := 12) dX9_back_12 rfl rfl ?_
    refine k_X9_198 (pc := 13) (fx_X9_isDay _ _) rfl (by decide) (Nat.le_refl _) (Nat.le_refl _) (Nat.le_of_ble_eq_true rfl) dX9_back_13 (fun x w2 h => ?_)
    rcases h with ⟨rfl, ⟨h3, rfl⟩ | ⟨h3, rfl⟩⟩
    · skip
      refine R_ifeq (pc := 16) 30 dX9_back_16 (by decide) (fun h => absurd h (by decide)) (fun _ => ?_)
      refine R_iload_n (pc := 19) dX9_back_19 rfl rfl ?_
      refine R_iload_n (pc := 20) dX9_back_20 rfl rfl ?_
      refine R_sipush (pc := 21) (v := 20000) dX9_back_21 (by decide) ?_
      refine k_X9_124 (pc := 24) (sp_X9_in _ _ _ _) rfl (by decide) (Nat.le_refl _) (Nat.le_refl _) (Nat.le_of_ble_eq_true rfl) dX9_back_24 (fun x w2 h => ?_)
      rcases h with ⟨rfl, ⟨h5, rfl⟩ | ⟨h5, rfl⟩⟩
      · skip
        refine R_ifne (pc := 27) 33 dX9_back_27 (by decide) (fun _ => ?_) (fun h => absurd h (by decide))
        refine R_aload_n (pc := 33) dX9_back_33 rfl rfl ?_
        refine g_X9_75 (pc := 34) (v := .ref 159) rfl dX9_back_34 (c_140 _) rfl ?_
        refine R_iload_n (pc := 37) dX9_back_37 rfl rfl ?_
        refine R_iload_n (pc := 38) dX9_back_38 rfl rfl ?_
        have hx7 : vp_in f 5 := (vp_of_inR h1 (by decide))
        refine W_iastore (pc := 39) dX9_back_39 (c_159 _) hx7 (a_159 _ _) ?_
        have hW8 := cor_ca 159 (Int32.toNatClampNeg f) a (Cor.rfl' σ) rfl
        refine R_aload_n (pc := 40) dX9_back_40 rfl rfl ?_
        refine g_X9_78 (pc := 41) (v := .ref 160) rfl dX9_back_41 (c_140 _) rfl ?_
        refine R_iload_n (pc := 44) dX9_back_44 rfl rfl ?_
        refine R_iload_n (pc := 45) dX9_back_45 rfl rfl ?_
        have hx9 : vp_in f 5 := (vp_of_inR h1 (by decide))
        refine W_iastore (pc := 46) dX9_back_46 (c_160 _) hx9 (a_160 _ _) ?_
        have hW10 := cor_ca 160 (Int32.toNatClampNeg f) b hW8 rfl
        refine R_iconst (pc := 47) (v := 1) dX9_back_47 (by decide) ?_
        exact R_iret (pc := 48) dX9_back_48 rfl rfl (Nat.zero_le _) (Nat.zero_le _) ⟨_, rfl, (by first | (simp only [an_back, inB_t h1, inB_t h3, inB_t h5, cond_true, cond_false, Bool.and_true, Bool.true_and, Bool.and_false, Bool.false_and]; done) | (simp only [an_back, inB_t h1, inB_t h3, inB_t h5, cond_true, cond_false, Bool.and_true, Bool.true_and, Bool.and_false, Bool.false_and, if_true, if_true, if_false, ite_self]; done) | (simp only [an_back, inB_t h1, inB_t h3, inB_t h5, cond_true, cond_false, Bool.and_true, Bool.true_and, Bool.and_false, Bool.false_and] <;> simp []; done) | (simp only [an_back, inB_t h1, inB_t h3, inB_t h5, cond_true, cond_false, Bool.and_true, Bool.true_and, Bool.and_false, Bool.false_and] <;> decide)), _, rfl, hI⟩
      · skip
        refine R_ifne (pc := 27) 33 dX9_back_27 (by decide) (fun h => absurd (by decide) h) (fun _ => ?_)
        refine R_bipush (pc := 30) (v := (-3)) dX9_back_30 (by decide) ?_
        exact R_iret (pc := 32) dX9_back_32 rfl rfl (Nat.zero_le _) (Nat.zero_le _) ⟨_, rfl, (by first | (simp only [an_back, inB_t h1, inB_t h3, inB_f h5, cond_true, cond_false, Bool.and_true, Bool.true_and, Bool.and_false, Bool.false_and]; done) | (simp only [an_back, inB_t h1, inB_t h3, inB_f h5, cond_true, cond_false, Bool.and_true, Bool.true_and, Bool.and_false, Bool.false_and, if_true, if_true, if_false, ite_self]; done) | (simp only [an_back, inB_t h1, inB_t h3, inB_f h5, cond_true, cond_false, Bool.and_true, Bool.true_and, Bool.and_false, Bool.false_and] <;> simp []; done) | (simp only [an_back, inB_t h1, inB_t h3, inB_f h5, cond_true, cond_false, Bool.and_true, Bool.true_and, Bool.and_false, Bool.false_and] <;> decide)), _, rfl, hI⟩
    · skip
      refine R_ifeq (pc := 16) 30 dX9_back_16 (by decide) (fun _ => ?_) (fun h => absurd (by decide) h)
      refine R_bipush (pc := 30) (v := (-3)) dX9_back_30 (by decide) ?_
      exact R_iret (pc := 32) dX9_back_32 rfl rfl (Nat.zero_le _) (Nat.zero_le _) ⟨_, rfl, (by first | (simp only [an_back, inB_t h1, inB_f h3, cond_true, cond_false, Bool.and_true, Bool.true_and, Bool.and_false, Bool.false_and]; done) | (simp only [an_back, inB_t h1, inB_f h3, cond_true, cond_false, Bool.and_true, Bool.true_and, Bool.and_false, Bool.false_and, if_true, if_true, if_false, ite_self]; done) | (simp only [an_back, inB_t h1, inB_f h3, cond_true, cond_false, Bool.and_true, Bool.true_and, Bool.and_false, Bool.false_and] <;> simp []; done) | (simp only [an_back, inB_t h1, inB_f h3, cond_true, cond_false, Bool.and_true, Bool.true_and, Bool.and_false, Bool.false_and] <;> decide)), _, rfl, hI⟩
  · skip
    refine R_ifne (pc := 6) 12 dX9_back_6 (by decide) (fun h => absurd (by decide) h) (fun _ => ?_)
    refine R_bipush (pc := 9) (v := (-2)) dX9_back_9 (by decide) ?_
    exact R_iret (pc := 11) dX9_back_11 rfl rfl (Nat.zero_le _) (Nat.zero_le _) ⟨_, rfl, (by first | (simp only [an_back, inB_f h1, cond_true, cond_false, Bool.and_true, Bool.true_and, Bool.and_false, Bool.false_and]; done) | (simp only [an_back, inB_f h1, cond_true, cond_false, Bool.and_true, Bool.true_and, Bool.and_false, Bool.false_and, if_true, if_true, if_false, ite_self]; done) | (simp only [an_back, inB_f h1, cond_true, cond_false, Bool.and_true, Bool.true_and, Bool.and_false, Bool.false_and] <;> simp []; done) | (simp only [an_back, inB_f h1, cond_true, cond_false, Bool.and_true, Bool.true_and, Bool.and_false, Bool.false_and] <;> decide)), _, rfl, hI⟩
set_option maxRecDepth 100000 in
set_option maxHeartbeats 40000000 in
theorem ga_X9_landmark {G : vG} {l : Launch} (σ : Sg) (a b : Int32) (hI : Inv σ) : Sp G l yX9_landmark cX9_landmark 3 (some .int) 1 0 0 [.ref 140, .int a, .int b] (WW σ) (QI (fun x w2 => x = an_landmark a b ∧ ∃ σ2, w2 = WW σ2 ∧ Inv σ2)) := by
  refine Sp_of_R [(some (.ref 140)), (some (.int a)), (some (.int b))] [] rfl (by simp) rfl (Nat.le_of_ble_eq_true rfl) ?_
  refine R_iload_n (pc := 0) dX9_landmark_0 rfl rfl ?_
  refine R_iconst (pc := 1) (v := 0) dX9_landmark_1 (by decide) ?_
  refine R_bipush (pc := 2) (v := 7) dX9_landmark_2 (by decide) ?_
  refine k_X9_124 (pc := 4) (sp_X9_in _ _ _ _) rfl (by decide) (Nat.le_refl _) (Nat.le_refl _) (Nat.le_of_ble_eq_true rfl) dX9_landmark_4 (fun x w2 h => ?_)
  rcases h with ⟨rfl, ⟨h1, rfl⟩ | ⟨h1, rfl⟩⟩
  · skip
    refine R_ifne (pc := 7) 13 dX9_landmark_7 (by decide) (fun _ => ?_) (fun h => absurd h (by decide))
    refine R_iload_n (pc := 13) dX9_landmark_13 rfl rfl ?_
    refine R_iconst (pc := 14) (v := 0) dX9_landmark_14 (by decide) ?_
    refine R_bipush (pc := 15) (v := 64) dX9_landmark_15 (by decide) ?_
    refine k_X9_124 (pc := 17) (sp_X9_in _ _ _ _) rfl (by decide) (Nat.le_refl _) (Nat.le_refl _) (Nat.le_of_ble_eq_true rfl) dX9_landmark_17 (fun x w2 h => ?_)
    rcases h with ⟨rfl, ⟨h3, rfl⟩ | ⟨h3, rfl⟩⟩
    · skip
      refine R_ifne (pc := 20) 26 dX9_landmark_20 (by decide) (fun _ => ?_) (fun h => absurd h (by decide))
      refine R_aload_n (pc := 26) dX9_landmark_26 rfl rfl ?_
      refine g_X9_99 (pc := 27) (v := .ref 167) rfl dX9_landmark_27 (c_140 _) rfl ?_
      refine R_iload_n (pc := 30) dX9_landmark_30 rfl rfl ?_
      refine R_iload_n (pc := 31) dX9_landmark_31 rfl rfl ?_
      have hx5 : vp_in a 8 := (vp_of_inR h1 (by decide))
      refine W_iastore (pc := 32) dX9_landmark_32 (c_167 _) hx5 (a_167 _ _) ?_
      have hW6 := cor_ca 167 (Int32.toNatClampNeg a) b (Cor.rfl' σ) rfl
      refine R_iconst (pc := 33) (v := 1) dX9_landmark_33 (by decide) ?_
      exact R_iret (pc := 34) dX9_landmark_34 rfl rfl (Nat.zero_le _) (Nat.zero_le _) ⟨_, rfl, (by first | (simp only [an_landmark, inB_t h1, inB_t h3, cond_true, cond_false, Bool.and_true, Bool.true_and, Bool.and_false, Bool.false_and]; done) | (simp only [an_landmark, inB_t h1, inB_t h3, cond_true, cond_false, Bool.and_true, Bool.true_and, Bool.and_false, Bool.false_and, if_true, if_true, if_false, ite_self]; done) | (simp only [an_landmark, inB_t h1, inB_t h3, cond_true, cond_false, Bool.and_true, Bool.true_and, Bool.and_false, Bool.false_and] <;> simp []; done) | (simp only [an_landmark, inB_t h1, inB_t h3, cond_true, cond_false, Bool.and_true, Bool.true_and, Bool.and_false, Bool.false_and] <;> decide)), _, rfl, hI⟩
    · skip
      refine R_ifne (pc := 20) 26 dX9_landmark_20 (by decide) (fun h => absurd (by decide) h) (fun _ => ?_)
      refine R_bipush (pc := 23) (v := (-3)) dX9_landmark_23 (by decide) ?_
      exact R_iret (pc := 25) dX9_landmark_25 rfl rfl (Nat.zero_le _) (Nat.zero_le _) ⟨_, rfl, (by first | (simp only [an_landmark, inB_t h1, inB_f h3, cond_true, cond_false, Bool.and_true, Bool.true_and, Bool.and_false, Bool.false_and]; done) | (simp only [an_landmark, inB_t h1, inB_f h3, cond_true, cond_false, Bool.and_true, Bool.true_and, Bool.and_false, Bool.false_and, if_true, if_true, if_false, ite_self]; done) | (simp only [an_landmark, inB_t h1, inB_f h3, cond_true, cond_false, Bool.and_true, Bool.true_and, Bool.and_false, Bool.false_and] <;> simp []; done) | (simp only [an_landmark, inB_t h1, inB_f h3, cond_true, cond_false, Bool.and_true, Bool.true_and, Bool.and_false, Bool.false_and] <;> decide)), _, rfl, hI⟩
  · skip
    refine R_ifne (pc := 7) 13 dX9_landmark_7 (by decide) (fun h => absurd (by decide) h) (fun _ => ?_)
    refine R_bipush (pc := 10) (v := (-2)) dX9_landmark_10 (by decide) ?_
    exact R_iret (pc := 12) dX9_landmark_12 rfl rfl (Nat.zero_le _) (Nat.zero_le _) ⟨_, rfl, (by first | (simp only [an_landmark, inB_f h1, cond_true, cond_false, Bool.and_true, Bool.true_and, Bool.and_false, Bool.false_and]; done) | (simp only [an_landmark, inB_f h1, cond_true, cond_false, Bool.and_true, Bool.true_and, Bool.and_false, Bool.false_and, if_true, if_true, if_false, ite_self]; done) | (simp only [an_landmark, inB_f h1, cond_true, cond_false, Bool.and_true, Bool.true_and, Bool.and_false, Bool.false_and] <;> simp []; done) | (simp only [an_landmark, inB_f h1, cond_true, cond_false, Bool.and_true, Bool.true_and, Bool.and_false, Bool.false_and] <;> decide)), _, rfl, hI⟩
