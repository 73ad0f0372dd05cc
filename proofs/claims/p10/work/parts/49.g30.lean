/-! methods on any state that keeps the invariant -/
def an_feature (f a b : Int32) : Int32 := bif inB f 0 7 then (bif inB a 0 20000 && inB b a 20000 then 1 else -3) else -2
def an_back (f a b : Int32) : Int32 := bif inB f 0 4 then (bif inB a 0 20000 && inB b a 20000 then 1 else -3) else -2
def an_landmark (a b : Int32) : Int32 := bif inB a 0 7 then (bif inB b 0 64 then 1 else -3) else -2
theorem lm_eq (b : Int32) (h : inR b 0 63) : inB b 0 64 = true := by
  apply inB_t
  refine ⟨h.1, fun h2 => h.2 ?_⟩
  rw [Int32.lt_iff_toInt_lt] at h2 ⊢
  have : (63 : Int32).toInt = 63 := by decide
  have : (64 : Int32).toInt = 64 := by decide
  omega
theorem lm_no (b : Int32) (h : ¬ inR b 0 63) (h2 : ¬ b = 64) : inB b 0 64 = false := by
  apply inB_f
  intro h3
  refine h ⟨h3.1, fun h4 => h3.2 ?_⟩
  have e1 : (63 : Int32).toInt = 63 := by decide
  have e2 : (64 : Int32).toInt = 64 := by decide
  rw [Int32.lt_iff_toInt_lt] at h4 ⊢
  have : b.toInt ≠ 64 := fun h5 => h2 (Int32.toInt_inj.mp (by rw [h5, e2]))
  omega
set_option maxRecDepth 100000 in
set_option maxHeartbeats 40000000 in
theorem fx_X8_isSpan {G : vG} {l : Launch} (w : VW) (a b : Int32) : Sp G l yX8_isSpan cX8_isSpan 2 (some .boolean) 1 0 0 [.int a, .int b] (w) (QI (fun x w2 => w2 = w ∧ ((inB a 0 20000 && inB b a 20000) = true ∧ x = 1 ∨ (inB a 0 20000 && inB b a 20000) = false ∧ x = 0))) := by
  refine Sp_of_R [(some (.int a)), (some (.int b))] [] rfl (by simp) rfl (Nat.le_of_ble_eq_true rfl) ?_
  refine R_iload_n (pc := 0) dX8_isSpan_0 rfl rfl ?_
  refine R_iconst (pc := 1) (v := 0) dX8_isSpan_1 (by decide) ?_
  refine R_sipush (pc := 2) (v := 20000) dX8_isSpan_2 (by decide) ?_
  refine k_X8_72 (pc := 5) (sp_X8_isWithin _ _ _ _) rfl (by decide) (Nat.le_refl _) (Nat.le_refl _) (Nat.le_of_ble_eq_true rfl) dX8_isSpan_5 (fun x w2 h => ?_)
  rcases h with ⟨rfl, ⟨h1, rfl⟩ | ⟨h1, rfl⟩⟩
  · skip
    refine R_ifeq (pc := 8) 26 dX8_isSpan_8 (by decide) (fun h => absurd h (by decide)) (fun _ => ?_)
    refine R_iload_n (pc := 11) dX8_isSpan_11 rfl rfl ?_
    refine R_iload_n (pc := 12) dX8_isSpan_12 rfl rfl ?_
    refine R_sipush (pc := 13) (v := 20000) dX8_isSpan_13 (by decide) ?_
    refine k_X8_72 (pc := 16) (sp_X8_isWithin _ _ _ _) rfl (by decide) (Nat.le_refl _) (Nat.le_refl _) (Nat.le_of_ble_eq_true rfl) dX8_isSpan_16 (fun x w2 h => ?_)
    rcases h with ⟨rfl, ⟨h3, rfl⟩ | ⟨h3, rfl⟩⟩
    · skip
      refine R_ifeq (pc := 19) 26 dX8_isSpan_19 (by decide) (fun h => absurd h (by decide)) (fun _ => ?_)
      refine R_iconst (pc := 22) (v := 1) dX8_isSpan_22 (by decide) ?_
      refine R_goto (pc := 23) 27 dX8_isSpan_23 (by decide) ?_
      exact R_iret (pc := 27) dX8_isSpan_27 rfl rfl (Nat.zero_le _) (Nat.zero_le _) ⟨_, rfl, rfl, by simp [inB_t h1, inB_t h3]⟩
    · skip
      refine R_ifeq (pc := 19) 26 dX8_isSpan_19 (by decide) (fun _ => ?_) (fun h => absurd (by decide) h)
      refine R_iconst (pc := 26) (v := 0) dX8_isSpan_26 (by decide) ?_
      exact R_iret (pc := 27) dX8_isSpan_27 rfl rfl (Nat.zero_le _) (Nat.zero_le _) ⟨_, rfl, rfl, by simp [inB_t h1, inB_f h3]⟩
  · skip
    refine R_ifeq (pc := 8) 26 dX8_isSpan_8 (by decide) (fun _ => ?_) (fun h => absurd (by decide) h)
    refine R_iconst (pc := 26) (v := 0) dX8_isSpan_26 (by decide) ?_
    exact R_iret (pc := 27) dX8_isSpan_27 rfl rfl (Nat.zero_le _) (Nat.zero_le _) ⟨_, rfl, rfl, by simp [inB_f h1]⟩
set_option maxRecDepth 100000 in
set_option maxHeartbeats 40000000 in
theorem fx_X9_isDay {G : vG} {l : Launch} (w : VW) (a : Int32) : Sp G l yX9_isDay cX9_isDay 1 (some .boolean) 1 0 0 [.int a] (w) (QI (fun x w2 => w2 = w ∧ (inR a 0 20000 ∧ x = 1 ∨ ¬ inR a 0 20000 ∧ x = 0))) := by
  refine Sp_of_R [(some (.int a))] [] rfl (by simp) rfl (Nat.le_of_ble_eq_true rfl) ?_
  refine R_iload_n (pc := 0) dX9_isDay_0 rfl rfl ?_
  refine R_iconst (pc := 1) (v := 0) dX9_isDay_1 (by decide) ?_
  refine R_sipush (pc := 2) (v := 20000) dX9_isDay_2 (by decide) ?_
  refine k_X9_124 (pc := 5) (sp_X9_in _ _ _ _) rfl (by decide) (Nat.le_refl _) (Nat.le_refl _) (Nat.le_of_ble_eq_true rfl) dX9_isDay_5 (fun x w2 h => ?_)
  rcases h with ⟨rfl, ⟨h1, rfl⟩ | ⟨h1, rfl⟩⟩
  · skip
    exact R_iret (pc := 8) dX9_isDay_8 rfl rfl (Nat.zero_le _) (Nat.zero_le _) ⟨_, rfl, rfl, Or.inl ⟨h1, rfl⟩⟩
  · skip
    exact R_iret (pc := 8) dX9_isDay_8 rfl rfl (Nat.zero_le _) (Nat.zero_le _) ⟨_, rfl, rfl, Or.inr ⟨h1, rfl⟩⟩
