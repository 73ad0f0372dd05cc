
theorem nI_m1 (n : Nat) : nI (n + 1) + (-1) = nI n := by
  have h := nI_pred n
  rw [Int32.sub_eq_add_neg] at h
  exact h
theorem nI_z (j : Nat) : (0 : Int32) + nI j = nI j := by simp
theorem sw2 (a : Int32) : a = 0 ∨ a = 1 ∨ a = 2 ∨ (a.toInt < 0 ∨ 2 < a.toInt) := by
  rcases sw_of a 2 (by decide) with ⟨j, hj, rfl⟩ | h
  · rcases (show j = 0 ∨ j = 1 ∨ j = 2 by omega) with rfl | rfl | rfl <;> decide
  · exact Or.inr (Or.inr (Or.inr h))
theorem ne_out {a c : Int32} {M : Int} (h : a.toInt < 0 ∨ M < a.toInt) (hc : 0 ≤ c.toInt ∧ c.toInt ≤ M) : ¬ a = c := by
  rintro rfl
  omega
theorem inB_no {a v b : Int32} (h : inB a v b = false) : ¬ inR a v b := fun h2 => by rw [inB_t h2] at h; cases h
theorem ne_sw {a : Int32} (h : a.toInt < 0 ∨ 2 < a.toInt) : ¬ a = 0 ∧ ¬ a = 1 ∧ ¬ a = 2 := by
  refine ⟨?_, ?_, ?_⟩ <;> intro h2 <;> subst h2 <;> revert h <;> decide

theorem dX9_thereMany_0 : decode cX9_thereMany 0 = .ok (.iconst 0, 1) := by decide +kernel
theorem dX9_thereMany_1 : decode cX9_thereMany 1 = .ok (.istore_n 1, 1) := by decide +kernel
theorem dX9_thereMany_2 : decode cX9_thereMany 2 = .ok (.iload_n 1, 1) := by decide +kernel
theorem dX9_thereMany_3 : decode cX9_thereMany 3 = .ok (.aload_n 0, 1) := by decide +kernel
theorem dX9_thereMany_4 : decode cX9_thereMany 4 = .ok (.getfield 117, 3) := by decide +kernel
theorem dX9_thereMany_7 : decode cX9_thereMany 7 = .ok (.if_icmp .ge 22, 3) := by decide +kernel
theorem dX9_thereMany_10 : decode cX9_thereMany 10 = .ok (.aload_n 0, 1) := by decide +kernel
theorem dX9_thereMany_11 : decode cX9_thereMany 11 = .ok (.getfield 32, 3) := by decide +kernel
theorem dX9_thereMany_14 : decode cX9_thereMany 14 = .ok (.iload_n 1, 1) := by decide +kernel
theorem dX9_thereMany_15 : decode cX9_thereMany 15 = .ok (.iaload, 1) := by decide +kernel
theorem dX9_thereMany_16 : decode cX9_thereMany 16 = .ok (.aload_n 0, 1) := by decide +kernel
theorem dX9_thereMany_17 : decode cX9_thereMany 17 = .ok (.getfield 45, 3) := by decide +kernel
theorem dX9_thereMany_20 : decode cX9_thereMany 20 = .ok (.if_icmp .gt 9, 3) := by decide +kernel
theorem dX9_thereMany_23 : decode cX9_thereMany 23 = .ok (.iinc 1 1, 3) := by decide +kernel
theorem dX9_thereMany_26 : decode cX9_thereMany 26 = .ok (.goto (-24), 3) := by decide +kernel
theorem dX9_thereMany_29 : decode cX9_thereMany 29 = .ok (.iload_n 1, 1) := by decide +kernel
theorem dX9_thereMany_30 : decode cX9_thereMany 30 = .ok (.ireturn, 1) := by decide +kernel
set_option maxRecDepth 100000 in
set_option maxHeartbeats 40000000 in
theorem fx_X9_thereMany {G : vG} {l : Launch} (σ : Sg)  (h0 : σ.1 14000 = 0) : Sp G l yX9_thereMany cX9_thereMany 2 (some .int) 0 0 0 [.ref 140] (WW σ) (QI (fun x w2 => w2 = WW σ ∧ x = 0)) := by
  refine Sp_of_R [(some (.ref 140)), none] [none] rfl (by simp) rfl (Nat.le_of_ble_eq_true rfl) ?_
  refine R_iconst (pc := 0) (v := 0) dX9_thereMany_0 (by decide) ?_
  refine st_2_1_i_a (pc := 1) dX9_thereMany_1 ?_
  refine R_iload_n (pc := 2) dX9_thereMany_2 rfl rfl ?_
  refine R_aload_n (pc := 3) dX9_thereMany_3 rfl rfl ?_
  refine g_X9_117 (pc := 4) (v := .int 0) rfl dX9_thereMany_4 (c_140 _) (by show some (Value.int (σ.1 14000)) = _; rw [h0]) ?_
  refine R_icge (pc := 7) 29 dX9_thereMany_7 (by decide) (fun _ => ?_) (fun h => absurd (by decide) h)
  refine R_iload_n (pc := 29) dX9_thereMany_29 rfl rfl ?_
  exact R_iret (pc := 30) dX9_thereMany_30 rfl rfl (Nat.zero_le _) (Nat.zero_le _) ⟨_, rfl, rfl, rfl⟩
theorem dX9_isThere_0 : decode cX9_isThere 0 = .ok (.iload_n 1, 1) := by decide +kernel
theorem dX9_isThere_1 : decode cX9_isThere 1 = .ok (.iconst 0, 1) := by decide +kernel
theorem dX9_isThere_2 : decode cX9_isThere 2 = .ok (.aload_n 0, 1) := by decide +kernel
theorem dX9_isThere_3 : decode cX9_isThere 3 = .ok (.invokevirtual 120, 3) := by decide +kernel
theorem dX9_isThere_6 : decode cX9_isThere 6 = .ok (.iconst 1, 1) := by decide +kernel
theorem dX9_isThere_7 : decode cX9_isThere 7 = .ok (.isub, 1) := by decide +kernel
theorem dX9_isThere_8 : decode cX9_isThere 8 = .ok (.invokestatic 124, 3) := by decide +kernel
theorem dX9_isThere_11 : decode cX9_isThere 11 = .ok (.ireturn, 1) := by decide +kernel
set_option maxRecDepth 100000 in
set_option maxHeartbeats 40000000 in
theorem fx_X9_isThere {G : vG} {l : Launch} (σ : Sg) (c : Int32) (h0 : σ.1 14000 = 0) : Sp G l yX9_isThere cX9_isThere 2 (some .boolean) 1 0 0 [.ref 140, .int c] (WW σ) (QI (fun x w2 => w2 = WW σ ∧ x = 0)) := by
  refine Sp_of_R [(some (.ref 140)), (some (.int c))] [] rfl (by simp) rfl (Nat.le_of_ble_eq_true rfl) ?_
  refine R_iload_n (pc := 0) dX9_isThere_0 rfl rfl ?_
  refine R_iconst (pc := 1) (v := 0) dX9_isThere_1 (by decide) ?_
  refine R_aload_n (pc := 2) dX9_isThere_2 rfl rfl ?_
  refine k_X9_120 (pc := 3) (fx_X9_thereMany _ h0) rfl (c_140 _) (by decide) (Nat.le_refl _) (Nat.le_refl _) (Nat.le_of_ble_eq_true rfl) dX9_isThere_3 (fun x w2 h => ?_)
  obtain ⟨rfl, rfl⟩ := h
  refine R_iconst (pc := 6) (v := 1) dX9_isThere_6 (by decide) ?_
  refine R_isub (pc := 7) dX9_isThere_7 ?_
  refine R_cv (-1) (by decide) ?_
  refine k_X9_124 (pc := 8) (sp_X9_in _ _ _ _) rfl (by decide) (Nat.le_refl _) (Nat.le_refl _) (Nat.le_of_ble_eq_true rfl) dX9_isThere_8 (fun x w2 h => ?_)
  obtain ⟨rfl, h⟩ := h
  rcases h with ⟨h, -⟩ | ⟨-, rfl⟩
  · exact absurd h (inR_no _)
  exact R_iret (pc := 11) dX9_isThere_11 rfl rfl (Nat.zero_le _) (Nat.zero_le _) ⟨_, rfl, rfl, rfl⟩
theorem dX9_isPublisher_0 : decode cX9_isPublisher 0 = .ok (.iload_n 0, 1) := by decide +kernel
theorem dX9_isPublisher_1 : decode cX9_isPublisher 1 = .ok (.iconst 0, 1) := by decide +kernel
theorem dX9_isPublisher_2 : decode cX9_isPublisher 2 = .ok (.iconst 4, 1) := by decide +kernel
theorem dX9_isPublisher_3 : decode cX9_isPublisher 3 = .ok (.invokestatic 124, 3) := by decide +kernel
theorem dX9_isPublisher_6 : decode cX9_isPublisher 6 = .ok (.ireturn, 1) := by decide +kernel
set_option maxRecDepth 100000 in
set_option maxHeartbeats 40000000 in
theorem sp_X9_isPublisher {G : vG} {l : Launch} (w : VW) (v : Int32) : Sp G l yX9_isPublisher cX9_isPublisher 1 (some .boolean) 1 0 0 [.int v] (w) (QI (fun x w2 => w2 = w ∧ (inR v 0 4 ∧ x = 1 ∨ ¬ inR v 0 4 ∧ x = 0))) := by
  refine Sp_of_R [(some (.int v))] [] rfl (by simp) rfl (Nat.le_of_ble_eq_true rfl) ?_
  refine R_iload_n (pc := 0) dX9_isPublisher_0 rfl rfl ?_
  refine R_iconst (pc := 1) (v := 0) dX9_isPublisher_1 (by decide) ?_
  refine R_iconst (pc := 2) (v := 4) dX9_isPublisher_2 (by decide) ?_
  refine k_X9_124 (pc := 3) (sp_X9_in _ _ _ _) rfl (by decide) (Nat.le_refl _) (Nat.le_refl _) (Nat.le_of_ble_eq_true rfl) dX9_isPublisher_3 (fun x w2 h => ?_)
  rcases h with ⟨rfl, ⟨h1, rfl⟩ | ⟨h1, rfl⟩⟩
  · skip
    exact R_iret (pc := 6) dX9_isPublisher_6 rfl rfl (Nat.zero_le _) (Nat.zero_le _) ⟨_, rfl, rfl, by simp [h1]⟩
  · skip
    exact R_iret (pc := 6) dX9_isPublisher_6 rfl rfl (Nat.zero_le _) (Nat.zero_le _) ⟨_, rfl, rfl, by simp [h1]⟩
theorem dX9_isDay_0 : decode cX9_isDay 0 = .ok (.iload_n 0, 1) := by decide +kernel
theorem dX9_isDay_1 : decode cX9_isDay 1 = .ok (.iconst 0, 1) := by decide +kernel
theorem dX9_isDay_2 : decode cX9_isDay 2 = .ok (.sipush 20000, 3) := by decide +kernel
theorem dX9_isDay_5 : decode cX9_isDay 5 = .ok (.invokestatic 124, 3) := by decide +kernel
theorem dX9_isDay_8 : decode cX9_isDay 8 = .ok (.ireturn, 1) := by decide +kernel
set_option maxRecDepth 100000 in
set_option maxHeartbeats 40000000 in
theorem sp_X9_isDay {G : vG} {l : Launch} (w : VW) (v : Int32) : Sp G l yX9_isDay cX9_isDay 1 (some .boolean) 1 0 0 [.int v] (w) (QI (fun x w2 => w2 = w ∧ (inR v 0 20000 ∧ x = 1 ∨ ¬ inR v 0 20000 ∧ x = 0))) := by
  refine Sp_of_R [(some (.int v))] [] rfl (by simp) rfl (Nat.le_of_ble_eq_true rfl) ?_
  refine R_iload_n (pc := 0) dX9_isDay_0 rfl rfl ?_
  refine R_iconst (pc := 1) (v := 0) dX9_isDay_1 (by decide) ?_
  refine R_sipush (pc := 2) (v := 20000) dX9_isDay_2 (by decide) ?_
  refine k_X9_124 (pc := 5) (sp_X9_in _ _ _ _) rfl (by decide) (Nat.le_refl _) (Nat.le_refl _) (Nat.le_of_ble_eq_true rfl) dX9_isDay_5 (fun x w2 h => ?_)
  rcases h with ⟨rfl, ⟨h1, rfl⟩ | ⟨h1, rfl⟩⟩
  · skip
    exact R_iret (pc := 8) dX9_isDay_8 rfl rfl (Nat.zero_le _) (Nat.zero_le _) ⟨_, rfl, rfl, by simp [h1]⟩
  · skip
    exact R_iret (pc := 8) dX9_isDay_8 rfl rfl (Nat.zero_le _) (Nat.zero_le _) ⟨_, rfl, rfl, by simp [h1]⟩
theorem dX9_hasNumber_0 : decode cX9_hasNumber 0 = .ok (.iconst 0, 1) := by decide +kernel
theorem dX9_hasNumber_1 : decode cX9_hasNumber 1 = .ok (.istore_n 3, 1) := by decide +kernel
theorem dX9_hasNumber_2 : decode cX9_hasNumber 2 = .ok (.iconst 0, 1) := by decide +kernel
theorem dX9_hasNumber_3 : decode cX9_hasNumber 3 = .ok (.istore 4, 2) := by decide +kernel
theorem dX9_hasNumber_5 : decode cX9_hasNumber 5 = .ok (.iload 4, 2) := by decide +kernel
theorem dX9_hasNumber_7 : decode cX9_hasNumber 7 = .ok (.aload_n 0, 1) := by decide +kernel
theorem dX9_hasNumber_8 : decode cX9_hasNumber 8 = .ok (.invokevirtual 120, 3) := by decide +kernel
theorem dX9_hasNumber_11 : decode cX9_hasNumber 11 = .ok (.if_icmp .ge 41, 3) := by decide +kernel
theorem dX9_hasNumber_14 : decode cX9_hasNumber 14 = .ok (.iload_n 3, 1) := by decide +kernel
theorem dX9_hasNumber_15 : decode cX9_hasNumber 15 = .ok (.ifCond .ne 25, 3) := by decide +kernel
theorem dX9_hasNumber_18 : decode cX9_hasNumber 18 = .ok (.aload_n 0, 1) := by decide +kernel
theorem dX9_hasNumber_19 : decode cX9_hasNumber 19 = .ok (.getfield 13, 3) := by decide +kernel
theorem dX9_hasNumber_22 : decode cX9_hasNumber 22 = .ok (.iload 4, 2) := by decide +kernel
theorem dX9_hasNumber_24 : decode cX9_hasNumber 24 = .ok (.iaload, 1) := by decide +kernel
theorem dX9_hasNumber_25 : decode cX9_hasNumber 25 = .ok (.iload_n 1, 1) := by decide +kernel
theorem dX9_hasNumber_26 : decode cX9_hasNumber 26 = .ok (.if_icmp .ne 18, 3) := by decide +kernel
theorem dX9_hasNumber_29 : decode cX9_hasNumber 29 = .ok (.aload_n 0, 1) := by decide +kernel
theorem dX9_hasNumber_30 : decode cX9_hasNumber 30 = .ok (.getfield 16, 3) := by decide +kernel
theorem dX9_hasNumber_33 : decode cX9_hasNumber 33 = .ok (.iload 4, 2) := by decide +kernel
theorem dX9_hasNumber_35 : decode cX9_hasNumber 35 = .ok (.iaload, 1) := by decide +kernel
theorem dX9_hasNumber_36 : decode cX9_hasNumber 36 = .ok (.iload_n 2, 1) := by decide +kernel
theorem dX9_hasNumber_37 : decode cX9_hasNumber 37 = .ok (.if_icmp .ne 7, 3) := by decide +kernel
theorem dX9_hasNumber_40 : decode cX9_hasNumber 40 = .ok (.iconst 1, 1) := by decide +kernel
theorem dX9_hasNumber_41 : decode cX9_hasNumber 41 = .ok (.goto 4, 3) := by decide +kernel
theorem dX9_hasNumber_44 : decode cX9_hasNumber 44 = .ok (.iconst 0, 1) := by decide +kernel
theorem dX9_hasNumber_45 : decode cX9_hasNumber 45 = .ok (.istore_n 3, 1) := by decide +kernel
theorem dX9_hasNumber_46 : decode cX9_hasNumber 46 = .ok (.iinc 4 1, 3) := by decide +kernel
theorem dX9_hasNumber_49 : decode cX9_hasNumber 49 = .ok (.goto (-44), 3) := by decide +kernel
theorem dX9_hasNumber_52 : decode cX9_hasNumber 52 = .ok (.iload_n 3, 1) := by decide +kernel
theorem dX9_hasNumber_53 : decode cX9_hasNumber 53 = .ok (.ireturn, 1) := by decide +kernel
set_option maxRecDepth 100000 in
set_option maxHeartbeats 40000000 in
theorem fx_X9_hasNumber {G : vG} {l : Launch} (σ : Sg) (p n : Int32) (h0 : σ.1 14000 = 0) : Sp G l yX9_hasNumber cX9_hasNumber 5 (some .boolean) 1 0 0 [.ref 140, .int p, .int n] (WW σ) (QI (fun x w2 => w2 = WW σ ∧ x = 0)) := by
  refine Sp_of_R [(some (.ref 140)), (some (.int p)), (some (.int n)), none, none] [none, none] rfl (by simp) rfl (Nat.le_of_ble_eq_true rfl) ?_
  refine R_iconst (pc := 0) (v := 0) dX9_hasNumber_0 (by decide) ?_
  refine st_5_3_i_i (pc := 1) dX9_hasNumber_1 ?_
  refine R_iconst (pc := 2) (v := 0) dX9_hasNumber_2 (by decide) ?_
  refine st_5_4_i_i (pc := 3) dX9_hasNumber_3 ?_
  refine R_iload (pc := 5) dX9_hasNumber_5 rfl ?_
  refine R_aload_n (pc := 7) dX9_hasNumber_7 rfl rfl ?_
  refine k_X9_120 (pc := 8) (fx_X9_thereMany _ h0) rfl (c_140 _) (by decide) (Nat.le_refl _) (Nat.le_refl _) (Nat.le_of_ble_eq_true rfl) dX9_hasNumber_8 (fun x w2 h => ?_)
  obtain ⟨rfl, rfl⟩ := h
  refine R_icge (pc := 11) 52 dX9_hasNumber_11 (by decide) (fun _ => ?_) (fun h => absurd (by decide) h)
  refine R_iload_n (pc := 52) dX9_hasNumber_52 rfl rfl ?_
  exact R_iret (pc := 53) dX9_hasNumber_53 rfl rfl (Nat.zero_le _) (Nat.zero_le _) ⟨_, rfl, rfl, rfl⟩
theorem dX9_endOf_0 : decode cX9_endOf 0 = .ok (.iload_n 2, 1) := by decide +kernel
theorem dX9_endOf_1 : decode cX9_endOf 1 = .ok (.iconst 1, 1) := by decide +kernel
theorem dX9_endOf_2 : decode cX9_endOf 2 = .ok (.if_icmp .ne 7, 3) := by decide +kernel
theorem dX9_endOf_5 : decode cX9_endOf 5 = .ok (.iconst 1, 1) := by decide +kernel
theorem dX9_endOf_6 : decode cX9_endOf 6 = .ok (.goto 5, 3) := by decide +kernel
theorem dX9_endOf_9 : decode cX9_endOf 9 = .ok (.bipush 99, 2) := by decide +kernel
theorem dX9_endOf_11 : decode cX9_endOf 11 = .ok (.istore_n 3, 1) := by decide +kernel
theorem dX9_endOf_12 : decode cX9_endOf 12 = .ok (.iload_n 3, 1) := by decide +kernel
theorem dX9_endOf_13 : decode cX9_endOf 13 = .ok (.iconst 1, 1) := by decide +kernel
theorem dX9_endOf_14 : decode cX9_endOf 14 = .ok (.bipush 99, 2) := by decide +kernel
theorem dX9_endOf_16 : decode cX9_endOf 16 = .ok (.invokestatic 124, 3) := by decide +kernel
theorem dX9_endOf_19 : decode cX9_endOf 19 = .ok (.ifCond .eq 19, 3) := by decide +kernel
theorem dX9_endOf_22 : decode cX9_endOf 22 = .ok (.aload_n 0, 1) := by decide +kernel
theorem dX9_endOf_23 : decode cX9_endOf 23 = .ok (.iload_n 1, 1) := by decide +kernel
theorem dX9_endOf_24 : decode cX9_endOf 24 = .ok (.iload_n 3, 1) := by decide +kernel
theorem dX9_endOf_25 : decode cX9_endOf 25 = .ok (.invokevirtual 185, 3) := by decide +kernel
theorem dX9_endOf_28 : decode cX9_endOf 28 = .ok (.ifCond .ne 10, 3) := by decide +kernel
theorem dX9_endOf_31 : decode cX9_endOf 31 = .ok (.iload_n 3, 1) := by decide +kernel
theorem dX9_endOf_32 : decode cX9_endOf 32 = .ok (.iload_n 2, 1) := by decide +kernel
theorem dX9_endOf_33 : decode cX9_endOf 33 = .ok (.iadd, 1) := by decide +kernel
theorem dX9_endOf_34 : decode cX9_endOf 34 = .ok (.istore_n 3, 1) := by decide +kernel
theorem dX9_endOf_35 : decode cX9_endOf 35 = .ok (.goto (-23), 3) := by decide +kernel
theorem dX9_endOf_38 : decode cX9_endOf 38 = .ok (.iload_n 3, 1) := by decide +kernel
theorem dX9_endOf_39 : decode cX9_endOf 39 = .ok (.iconst 1, 1) := by decide +kernel
theorem dX9_endOf_40 : decode cX9_endOf 40 = .ok (.bipush 99, 2) := by decide +kernel
theorem dX9_endOf_42 : decode cX9_endOf 42 = .ok (.invokestatic 124, 3) := by decide +kernel
theorem dX9_endOf_45 : decode cX9_endOf 45 = .ok (.ifCond .eq 7, 3) := by decide +kernel
theorem dX9_endOf_48 : decode cX9_endOf 48 = .ok (.iload_n 3, 1) := by decide +kernel
theorem dX9_endOf_49 : decode cX9_endOf 49 = .ok (.goto 4, 3) := by decide +kernel
theorem dX9_endOf_52 : decode cX9_endOf 52 = .ok (.iconst (-1), 1) := by decide +kernel
theorem dX9_endOf_53 : decode cX9_endOf 53 = .ok (.ireturn, 1) := by decide +kernel
set_option maxRecDepth 100000 in
set_option maxHeartbeats 40000000 in
theorem fx_X9_endOfU {G : vG} {l : Launch} (σ : Sg) (p : Int32) (h0 : σ.1 14000 = 0) : Sp G l yX9_endOf cX9_endOf 4 (some .int) 2 0 0 [.ref 140, .int p, .int 1] (WW σ) (QI (fun x w2 => w2 = WW σ ∧ x = -1)) := by
  refine Sp_of_R [(some (.ref 140)), (some (.int p)), (some (.int 1)), none] [none] rfl (by simp) rfl (Nat.le_of_ble_eq_true rfl) ?_
  refine R_iload_n (pc := 0) dX9_endOf_0 rfl rfl ?_
  refine R_iconst (pc := 1) (v := 1) dX9_endOf_1 (by decide) ?_
  refine R_icne (pc := 2) 9 dX9_endOf_2 (by decide) (fun h => absurd (by decide) h) (fun _ => ?_)
  refine R_iconst (pc := 5) (v := 1) dX9_endOf_5 (by decide) ?_
  refine R_goto (pc := 6) 11 dX9_endOf_6 (by decide) ?_
  refine st_4_3_i_i (pc := 11) dX9_endOf_11 ?_
  have HL12 : ∀ (q j : Nat), j + q = 100 → R G l yX9_endOf cX9_endOf 4 (some .int) 2 0 0 (QI (fun x w2 => w2 = WW σ ∧ x = -1)) 12 [(some (.ref 140)), (some (.int p)), (some (.int 1)), (some (.int (nI j)))] [] (WW σ) 0 0 := by
    intro q
    induction q with
    | zero =>
      intro j hj
      obtain rfl : j = 100 := by omega
      refine R_iload_n (pc := 12) dX9_endOf_12 rfl rfl ?_
      refine R_iconst (pc := 13) (v := 1) dX9_endOf_13 (by decide) ?_
      refine R_bipush (pc := 14) (v := 99) dX9_endOf_14 (by decide) ?_
      refine k_X9_124 (pc := 16) (sp_X9_in _ _ _ _) rfl (by decide) (Nat.le_refl _) (Nat.le_refl _) (Nat.le_of_ble_eq_true rfl) dX9_endOf_16 (fun x w2 h => ?_)
      obtain ⟨rfl, h⟩ := h
      rcases h with ⟨h, -⟩ | ⟨-, rfl⟩
      · exact absurd h (by unfold inR; decide)
      refine R_ifeq (pc := 19) 38 dX9_endOf_19 (by decide) (fun _ => ?_) (fun h => absurd (by decide) h)
      refine R_iload_n (pc := 38) dX9_endOf_38 rfl rfl ?_
      refine R_iconst (pc := 39) (v := 1) dX9_endOf_39 (by decide) ?_
      refine R_bipush (pc := 40) (v := 99) dX9_endOf_40 (by decide) ?_
      refine k_X9_124 (pc := 42) (sp_X9_in _ _ _ _) rfl (by decide) (Nat.le_refl _) (Nat.le_refl _) (Nat.le_of_ble_eq_true rfl) dX9_endOf_42 (fun x w2 h => ?_)
      obtain ⟨rfl, h⟩ := h
      rcases h with ⟨h, -⟩ | ⟨-, rfl⟩
      · exact absurd h (by unfold inR; decide)
      refine R_ifeq (pc := 45) 52 dX9_endOf_45 (by decide) (fun _ => ?_) (fun h => absurd (by decide) h)
      refine R_iconst (pc := 52) (v := (-1)) dX9_endOf_52 (by decide) ?_
      exact R_iret (pc := 53) dX9_endOf_53 rfl rfl (Nat.zero_le _) (Nat.zero_le _) ⟨_, rfl, rfl, rfl⟩
    | succ q ih =>
      intro j hj
      have hlt : j < 100 := by omega
      refine R_iload_n (pc := 12) dX9_endOf_12 rfl rfl ?_
      refine R_iconst (pc := 13) (v := 1) dX9_endOf_13 (by decide) ?_
      refine R_bipush (pc := 14) (v := 99) dX9_endOf_14 (by decide) ?_
      refine k_X9_124 (pc := 16) (sp_X9_in _ _ _ _) rfl (by decide) (Nat.le_refl _) (Nat.le_refl _) (Nat.le_of_ble_eq_true rfl) dX9_endOf_16 (fun x w2 h => ?_)
      rcases h with ⟨rfl, ⟨h4, rfl⟩ | ⟨h4, rfl⟩⟩
      · skip
        refine R_ifeq (pc := 19) 38 dX9_endOf_19 (by decide) (fun h => absurd h (by decide)) (fun _ => ?_)
        refine R_aload_n (pc := 22) dX9_endOf_22 rfl rfl ?_
        refine R_iload_n (pc := 23) dX9_endOf_23 rfl rfl ?_
        refine R_iload_n (pc := 24) dX9_endOf_24 rfl rfl ?_
        refine k_X9_185 (pc := 25) (fx_X9_hasNumber _ _ _ h0) rfl (c_140 _) (by decide) (Nat.le_refl _) (Nat.le_refl _) (Nat.le_of_ble_eq_true rfl) dX9_endOf_25 (fun x w2 h => ?_)
        obtain ⟨rfl, rfl⟩ := h
        refine R_ifne (pc := 28) 38 dX9_endOf_28 (by decide) (fun h => absurd (by decide) h) (fun _ => ?_)
        refine R_iload_n (pc := 31) dX9_endOf_31 rfl rfl ?_
        refine R_iload_n (pc := 32) dX9_endOf_32 rfl rfl ?_
        refine R_iadd (pc := 33) dX9_endOf_33 ?_
        refine st_4_3_i_i (pc := 34) dX9_endOf_34 ?_
        refine R_goto (pc := 35) 12 dX9_endOf_35 (by decide) ?_
        rw [nI_1]
        exact ih (j + 1) (by omega)
      · skip
        refine R_ifeq (pc := 19) 38 dX9_endOf_19 (by decide) (fun _ => ?_) (fun h => absurd (by decide) h)
        refine R_iload_n (pc := 38) dX9_endOf_38 rfl rfl ?_
        refine R_iconst (pc := 39) (v := 1) dX9_endOf_39 (by decide) ?_
        refine R_bipush (pc := 40) (v := 99) dX9_endOf_40 (by decide) ?_
        refine k_X9_124 (pc := 42) (sp_X9_in _ _ _ _) rfl (by decide) (Nat.le_refl _) (Nat.le_refl _) (Nat.le_of_ble_eq_true rfl) dX9_endOf_42 (fun x w2 h => ?_)
        rcases h with ⟨rfl, ⟨h8, rfl⟩ | ⟨h8, rfl⟩⟩
        · skip
          refine R_ifeq (pc := 45) 52 dX9_endOf_45 (by decide) (fun h => absurd h (by decide)) (fun _ => ?_)
          exact absurd h8 h4
        · skip
          refine R_ifeq (pc := 45) 52 dX9_endOf_45 (by decide) (fun _ => ?_) (fun h => absurd (by decide) h)
          refine R_iconst (pc := 52) (v := (-1)) dX9_endOf_52 (by decide) ?_
          exact R_iret (pc := 53) dX9_endOf_53 rfl rfl (Nat.zero_le _) (Nat.zero_le _) ⟨_, rfl, rfl, rfl⟩
  exact HL12 99 1 (by omega)
set_option maxRecDepth 100000 in
set_option maxHeartbeats 40000000 in
theorem fx_X9_endOfD {G : vG} {l : Launch} (σ : Sg) (p : Int32) (h0 : σ.1 14000 = 0) : Sp G l yX9_endOf cX9_endOf 4 (some .int) 2 0 0 [.ref 140, .int p, .int (-1)] (WW σ) (QI (fun x w2 => w2 = WW σ ∧ x = -1)) := by
  refine Sp_of_R [(some (.ref 140)), (some (.int p)), (some (.int (-1))), none] [none] rfl (by simp) rfl (Nat.le_of_ble_eq_true rfl) ?_
  refine R_iload_n (pc := 0) dX9_endOf_0 rfl rfl ?_
  refine R_iconst (pc := 1) (v := 1) dX9_endOf_1 (by decide) ?_
  refine R_icne (pc := 2) 9 dX9_endOf_2 (by decide) (fun _ => ?_) (fun h => absurd h (by decide))
  refine R_bipush (pc := 9) (v := 99) dX9_endOf_9 (by decide) ?_
  refine st_4_3_i_i (pc := 11) dX9_endOf_11 ?_
  have HD : ∀ (j : Nat), R G l yX9_endOf cX9_endOf 4 (some .int) 2 0 0 (QI (fun x w2 => w2 = WW σ ∧ x = -1)) 12 [(some (.ref 140)), (some (.int p)), (some (.int (-1))), (some (.int (nI j)))] [] (WW σ) 0 0 := by
    intro j
    induction j with
    | zero =>
      refine R_iload_n (pc := 12) dX9_endOf_12 rfl rfl ?_
      refine R_iconst (pc := 13) (v := 1) dX9_endOf_13 (by decide) ?_
      refine R_bipush (pc := 14) (v := 99) dX9_endOf_14 (by decide) ?_
      refine k_X9_124 (pc := 16) (sp_X9_in _ _ _ _) rfl (by decide) (Nat.le_refl _) (Nat.le_refl _) (Nat.le_of_ble_eq_true rfl) dX9_endOf_16 (fun x w2 h => ?_)
      obtain ⟨rfl, h⟩ := h
      rcases h with ⟨h, -⟩ | ⟨-, rfl⟩
      · exact absurd h (by unfold inR; decide)
      refine R_ifeq (pc := 19) 38 dX9_endOf_19 (by decide) (fun _ => ?_) (fun h => absurd (by decide) h)
      refine R_iload_n (pc := 38) dX9_endOf_38 rfl rfl ?_
      refine R_iconst (pc := 39) (v := 1) dX9_endOf_39 (by decide) ?_
      refine R_bipush (pc := 40) (v := 99) dX9_endOf_40 (by decide) ?_
      refine k_X9_124 (pc := 42) (sp_X9_in _ _ _ _) rfl (by decide) (Nat.le_refl _) (Nat.le_refl _) (Nat.le_of_ble_eq_true rfl) dX9_endOf_42 (fun x w2 h => ?_)
      obtain ⟨rfl, h⟩ := h
      rcases h with ⟨h, -⟩ | ⟨-, rfl⟩
      · exact absurd h (by unfold inR; decide)
      refine R_ifeq (pc := 45) 52 dX9_endOf_45 (by decide) (fun _ => ?_) (fun h => absurd (by decide) h)
      refine R_iconst (pc := 52) (v := (-1)) dX9_endOf_52 (by decide) ?_
      exact R_iret (pc := 53) dX9_endOf_53 rfl rfl (Nat.zero_le _) (Nat.zero_le _) ⟨_, rfl, rfl, rfl⟩
    | succ j ih =>
      refine R_iload_n (pc := 12) dX9_endOf_12 rfl rfl ?_
      refine R_iconst (pc := 13) (v := 1) dX9_endOf_13 (by decide) ?_
      refine R_bipush (pc := 14) (v := 99) dX9_endOf_14 (by decide) ?_
      refine k_X9_124 (pc := 16) (sp_X9_in _ _ _ _) rfl (by decide) (Nat.le_refl _) (Nat.le_refl _) (Nat.le_of_ble_eq_true rfl) dX9_endOf_16 (fun x w2 h => ?_)
      rcases h with ⟨rfl, ⟨h4, rfl⟩ | ⟨h4, rfl⟩⟩
      · skip
        refine R_ifeq (pc := 19) 38 dX9_endOf_19 (by decide) (fun h => absurd h (by decide)) (fun _ => ?_)
        refine R_aload_n (pc := 22) dX9_endOf_22 rfl rfl ?_
        refine R_iload_n (pc := 23) dX9_endOf_23 rfl rfl ?_
        refine R_iload_n (pc := 24) dX9_endOf_24 rfl rfl ?_
        refine k_X9_185 (pc := 25) (fx_X9_hasNumber _ _ _ h0) rfl (c_140 _) (by decide) (Nat.le_refl _) (Nat.le_refl _) (Nat.le_of_ble_eq_true rfl) dX9_endOf_25 (fun x w2 h => ?_)
        obtain ⟨rfl, rfl⟩ := h
        refine R_ifne (pc := 28) 38 dX9_endOf_28 (by decide) (fun h => absurd (by decide) h) (fun _ => ?_)
        refine R_iload_n (pc := 31) dX9_endOf_31 rfl rfl ?_
        refine R_iload_n (pc := 32) dX9_endOf_32 rfl rfl ?_
        refine R_iadd (pc := 33) dX9_endOf_33 ?_
        refine st_4_3_i_i (pc := 34) dX9_endOf_34 ?_
        refine R_goto (pc := 35) 12 dX9_endOf_35 (by decide) ?_
        rw [nI_m1]
        exact ih
      · skip
        refine R_ifeq (pc := 19) 38 dX9_endOf_19 (by decide) (fun _ => ?_) (fun h => absurd (by decide) h)
        refine R_iload_n (pc := 38) dX9_endOf_38 rfl rfl ?_
        refine R_iconst (pc := 39) (v := 1) dX9_endOf_39 (by decide) ?_
        refine R_bipush (pc := 40) (v := 99) dX9_endOf_40 (by decide) ?_
        refine k_X9_124 (pc := 42) (sp_X9_in _ _ _ _) rfl (by decide) (Nat.le_refl _) (Nat.le_refl _) (Nat.le_of_ble_eq_true rfl) dX9_endOf_42 (fun x w2 h => ?_)
        rcases h with ⟨rfl, ⟨h8, rfl⟩ | ⟨h8, rfl⟩⟩
        · skip
          refine R_ifeq (pc := 45) 52 dX9_endOf_45 (by decide) (fun h => absurd h (by decide)) (fun _ => ?_)
          exact absurd h8 h4
        · skip
          refine R_ifeq (pc := 45) 52 dX9_endOf_45 (by decide) (fun _ => ?_) (fun h => absurd (by decide) h)
          refine R_iconst (pc := 52) (v := (-1)) dX9_endOf_52 (by decide) ?_
          exact R_iret (pc := 53) dX9_endOf_53 rfl rfl (Nat.zero_le _) (Nat.zero_le _) ⟨_, rfl, rfl, rfl⟩
  exact HD 99
theorem dX9_isMissing_0 : decode cX9_isMissing 0 = .ok (.aload_n 0, 1) := by decide +kernel
theorem dX9_isMissing_1 : decode cX9_isMissing 1 = .ok (.iload_n 1, 1) := by decide +kernel
theorem dX9_isMissing_2 : decode cX9_isMissing 2 = .ok (.iconst 1, 1) := by decide +kernel
theorem dX9_isMissing_3 : decode cX9_isMissing 3 = .ok (.invokevirtual 188, 3) := by decide +kernel
theorem dX9_isMissing_6 : decode cX9_isMissing 6 = .ok (.iconst (-1), 1) := by decide +kernel
theorem dX9_isMissing_7 : decode cX9_isMissing 7 = .ok (.if_icmp .eq 36, 3) := by decide +kernel
theorem dX9_isMissing_10 : decode cX9_isMissing 10 = .ok (.iload_n 2, 1) := by decide +kernel
theorem dX9_isMissing_11 : decode cX9_isMissing 11 = .ok (.aload_n 0, 1) := by decide +kernel
theorem dX9_isMissing_12 : decode cX9_isMissing 12 = .ok (.iload_n 1, 1) := by decide +kernel
theorem dX9_isMissing_13 : decode cX9_isMissing 13 = .ok (.iconst 1, 1) := by decide +kernel
theorem dX9_isMissing_14 : decode cX9_isMissing 14 = .ok (.invokevirtual 188, 3) := by decide +kernel
theorem dX9_isMissing_17 : decode cX9_isMissing 17 = .ok (.if_icmp .le 26, 3) := by decide +kernel
theorem dX9_isMissing_20 : decode cX9_isMissing 20 = .ok (.iload_n 2, 1) := by decide +kernel
theorem dX9_isMissing_21 : decode cX9_isMissing 21 = .ok (.aload_n 0, 1) := by decide +kernel
theorem dX9_isMissing_22 : decode cX9_isMissing 22 = .ok (.iload_n 1, 1) := by decide +kernel
theorem dX9_isMissing_23 : decode cX9_isMissing 23 = .ok (.iconst (-1), 1) := by decide +kernel
theorem dX9_isMissing_24 : decode cX9_isMissing 24 = .ok (.invokevirtual 188, 3) := by decide +kernel
theorem dX9_isMissing_27 : decode cX9_isMissing 27 = .ok (.if_icmp .ge 16, 3) := by decide +kernel
theorem dX9_isMissing_30 : decode cX9_isMissing 30 = .ok (.aload_n 0, 1) := by decide +kernel
theorem dX9_isMissing_31 : decode cX9_isMissing 31 = .ok (.iload_n 1, 1) := by decide +kernel
theorem dX9_isMissing_32 : decode cX9_isMissing 32 = .ok (.iload_n 2, 1) := by decide +kernel
theorem dX9_isMissing_33 : decode cX9_isMissing 33 = .ok (.invokevirtual 185, 3) := by decide +kernel
theorem dX9_isMissing_36 : decode cX9_isMissing 36 = .ok (.ifCond .ne 7, 3) := by decide +kernel
theorem dX9_isMissing_39 : decode cX9_isMissing 39 = .ok (.iconst 1, 1) := by decide +kernel
theorem dX9_isMissing_40 : decode cX9_isMissing 40 = .ok (.goto 4, 3) := by decide +kernel
theorem dX9_isMissing_43 : decode cX9_isMissing 43 = .ok (.iconst 0, 1) := by decide +kernel
theorem dX9_isMissing_44 : decode cX9_isMissing 44 = .ok (.ireturn, 1) := by decide +kernel
set_option maxRecDepth 100000 in
set_option maxHeartbeats 40000000 in
theorem fx_X9_isMissing {G : vG} {l : Launch} (σ : Sg) (p n : Int32) (h0 : σ.1 14000 = 0) : Sp G l yX9_isMissing cX9_isMissing 3 (some .boolean) 3 0 0 [.ref 140, .int p, .int n] (WW σ) (QI (fun x w2 => w2 = WW σ ∧ x = 0)) := by
  refine Sp_of_R [(some (.ref 140)), (some (.int p)), (some (.int n))] [] rfl (by simp) rfl (Nat.le_of_ble_eq_true rfl) ?_
  refine R_aload_n (pc := 0) dX9_isMissing_0 rfl rfl ?_
  refine R_iload_n (pc := 1) dX9_isMissing_1 rfl rfl ?_
  refine R_iconst (pc := 2) (v := 1) dX9_isMissing_2 (by decide) ?_
  refine k_X9_188 (pc := 3) (fx_X9_endOfU _ _ h0) rfl (c_140 _) (by decide) (Nat.le_refl _) (Nat.le_refl _) (Nat.le_of_ble_eq_true rfl) dX9_isMissing_3 (fun x w2 h => ?_)
  obtain ⟨rfl, rfl⟩ := h
  refine R_iconst (pc := 6) (v := (-1)) dX9_isMissing_6 (by decide) ?_
  refine R_iceq (pc := 7) 43 dX9_isMissing_7 (by decide) (fun _ => ?_) (fun h => absurd (by decide) h)
  refine R_iconst (pc := 43) (v := 0) dX9_isMissing_43 (by decide) ?_
  exact R_iret (pc := 44) dX9_isMissing_44 rfl rfl (Nat.zero_le _) (Nat.zero_le _) ⟨_, rfl, rfl, rfl⟩
theorem dX9_findUnlike_0 : decode cX9_findUnlike 0 = .ok (.iconst 0, 1) := by decide +kernel
theorem dX9_findUnlike_1 : decode cX9_findUnlike 1 = .ok (.istore_n 1, 1) := by decide +kernel
theorem dX9_findUnlike_2 : decode cX9_findUnlike 2 = .ok (.iload_n 1, 1) := by decide +kernel
theorem dX9_findUnlike_3 : decode cX9_findUnlike 3 = .ok (.aload_n 0, 1) := by decide +kernel
theorem dX9_findUnlike_4 : decode cX9_findUnlike 4 = .ok (.getfield 117, 3) := by decide +kernel
theorem dX9_findUnlike_7 : decode cX9_findUnlike 7 = .ok (.if_icmp .ge 61, 3) := by decide +kernel
theorem dX9_findUnlike_10 : decode cX9_findUnlike 10 = .ok (.iconst 0, 1) := by decide +kernel
theorem dX9_findUnlike_11 : decode cX9_findUnlike 11 = .ok (.istore_n 2, 1) := by decide +kernel
theorem dX9_findUnlike_12 : decode cX9_findUnlike 12 = .ok (.iload_n 2, 1) := by decide +kernel
theorem dX9_findUnlike_13 : decode cX9_findUnlike 13 = .ok (.iload_n 1, 1) := by decide +kernel
theorem dX9_findUnlike_14 : decode cX9_findUnlike 14 = .ok (.if_icmp .ge 48, 3) := by decide +kernel
theorem dX9_findUnlike_17 : decode cX9_findUnlike 17 = .ok (.aload_n 0, 1) := by decide +kernel
theorem dX9_findUnlike_18 : decode cX9_findUnlike 18 = .ok (.getfield 51, 3) := by decide +kernel
theorem dX9_findUnlike_21 : decode cX9_findUnlike 21 = .ok (.bipush 20, 2) := by decide +kernel
theorem dX9_findUnlike_23 : decode cX9_findUnlike 23 = .ok (.iload_n 1, 1) := by decide +kernel
theorem dX9_findUnlike_24 : decode cX9_findUnlike 24 = .ok (.imul, 1) := by decide +kernel
theorem dX9_findUnlike_25 : decode cX9_findUnlike 25 = .ok (.iload_n 2, 1) := by decide +kernel
theorem dX9_findUnlike_26 : decode cX9_findUnlike 26 = .ok (.iadd, 1) := by decide +kernel
theorem dX9_findUnlike_27 : decode cX9_findUnlike 27 = .ok (.aload_n 0, 1) := by decide +kernel
theorem dX9_findUnlike_28 : decode cX9_findUnlike 28 = .ok (.iload_n 1, 1) := by decide +kernel
theorem dX9_findUnlike_29 : decode cX9_findUnlike 29 = .ok (.iload_n 2, 1) := by decide +kernel
theorem dX9_findUnlike_30 : decode cX9_findUnlike 30 = .ok (.invokevirtual 148, 3) := by decide +kernel
theorem dX9_findUnlike_33 : decode cX9_findUnlike 33 = .ok (.iastore, 1) := by decide +kernel
theorem dX9_findUnlike_34 : decode cX9_findUnlike 34 = .ok (.aload_n 0, 1) := by decide +kernel
theorem dX9_findUnlike_35 : decode cX9_findUnlike 35 = .ok (.getfield 51, 3) := by decide +kernel
theorem dX9_findUnlike_38 : decode cX9_findUnlike 38 = .ok (.bipush 20, 2) := by decide +kernel
theorem dX9_findUnlike_40 : decode cX9_findUnlike 40 = .ok (.iload_n 2, 1) := by decide +kernel
theorem dX9_findUnlike_41 : decode cX9_findUnlike 41 = .ok (.imul, 1) := by decide +kernel
theorem dX9_findUnlike_42 : decode cX9_findUnlike 42 = .ok (.iload_n 1, 1) := by decide +kernel
theorem dX9_findUnlike_43 : decode cX9_findUnlike 43 = .ok (.iadd, 1) := by decide +kernel
theorem dX9_findUnlike_44 : decode cX9_findUnlike 44 = .ok (.aload_n 0, 1) := by decide +kernel
theorem dX9_findUnlike_45 : decode cX9_findUnlike 45 = .ok (.getfield 51, 3) := by decide +kernel
theorem dX9_findUnlike_48 : decode cX9_findUnlike 48 = .ok (.bipush 20, 2) := by decide +kernel
theorem dX9_findUnlike_50 : decode cX9_findUnlike 50 = .ok (.iload_n 1, 1) := by decide +kernel
theorem dX9_findUnlike_51 : decode cX9_findUnlike 51 = .ok (.imul, 1) := by decide +kernel
theorem dX9_findUnlike_52 : decode cX9_findUnlike 52 = .ok (.iload_n 2, 1) := by decide +kernel
theorem dX9_findUnlike_53 : decode cX9_findUnlike 53 = .ok (.iadd, 1) := by decide +kernel
theorem dX9_findUnlike_54 : decode cX9_findUnlike 54 = .ok (.iaload, 1) := by decide +kernel
theorem dX9_findUnlike_55 : decode cX9_findUnlike 55 = .ok (.iastore, 1) := by decide +kernel
theorem dX9_findUnlike_56 : decode cX9_findUnlike 56 = .ok (.iinc 2 1, 3) := by decide +kernel
theorem dX9_findUnlike_59 : decode cX9_findUnlike 59 = .ok (.goto (-47), 3) := by decide +kernel
theorem dX9_findUnlike_62 : decode cX9_findUnlike 62 = .ok (.iinc 1 1, 3) := by decide +kernel
theorem dX9_findUnlike_65 : decode cX9_findUnlike 65 = .ok (.goto (-63), 3) := by decide +kernel
theorem dX9_findUnlike_68 : decode cX9_findUnlike 68 = .ok (.return_, 1) := by decide +kernel
set_option maxRecDepth 100000 in
set_option maxHeartbeats 40000000 in
theorem fx_X9_findUnlike {G : vG} {l : Launch} (σ : Sg)  (h0 : σ.1 14000 = 0) : Sp G l yX9_findUnlike cX9_findUnlike 3 none 3 0 0 [.ref 140] (WW σ) (QV (fun w2 => w2 = WW σ)) := by
  refine Sp_of_R [(some (.ref 140)), none, none] [none, none] rfl (by simp) rfl (Nat.le_of_ble_eq_true rfl) ?_
  refine R_iconst (pc := 0) (v := 0) dX9_findUnlike_0 (by decide) ?_
  refine st_3_1_i_a (pc := 1) dX9_findUnlike_1 ?_
  refine R_iload_n (pc := 2) dX9_findUnlike_2 rfl rfl ?_
  refine R_aload_n (pc := 3) dX9_findUnlike_3 rfl rfl ?_
  refine g_X9_117 (pc := 4) (v := .int 0) rfl dX9_findUnlike_4 (c_140 _) (by show some (Value.int (σ.1 14000)) = _; rw [h0]) ?_
  refine R_icge (pc := 7) 68 dX9_findUnlike_7 (by decide) (fun _ => ?_) (fun h => absurd (by decide) h)
  exact R_vret (pc := 68) dX9_findUnlike_68 rfl (Nat.zero_le _) (Nat.zero_le _) ⟨rfl, rfl⟩
theorem dX9_findChains_0 : decode cX9_findChains 0 = .ok (.aload_n 0, 1) := by decide +kernel
theorem dX9_findChains_1 : decode cX9_findChains 1 = .ok (.invokevirtual 120, 3) := by decide +kernel
theorem dX9_findChains_4 : decode cX9_findChains 4 = .ok (.istore 4, 2) := by decide +kernel
theorem dX9_findChains_6 : decode cX9_findChains 6 = .ok (.iconst 0, 1) := by decide +kernel
theorem dX9_findChains_7 : decode cX9_findChains 7 = .ok (.istore 5, 2) := by decide +kernel
theorem dX9_findChains_9 : decode cX9_findChains 9 = .ok (.iload 5, 2) := by decide +kernel
theorem dX9_findChains_11 : decode cX9_findChains 11 = .ok (.iload 4, 2) := by decide +kernel
theorem dX9_findChains_13 : decode cX9_findChains 13 = .ok (.if_icmp .ge 15, 3) := by decide +kernel
theorem dX9_findChains_16 : decode cX9_findChains 16 = .ok (.aload_n 1, 1) := by decide +kernel
theorem dX9_findChains_17 : decode cX9_findChains 17 = .ok (.iload 5, 2) := by decide +kernel
theorem dX9_findChains_19 : decode cX9_findChains 19 = .ok (.iload 5, 2) := by decide +kernel
theorem dX9_findChains_21 : decode cX9_findChains 21 = .ok (.iastore, 1) := by decide +kernel
theorem dX9_findChains_22 : decode cX9_findChains 22 = .ok (.iinc 5 1, 3) := by decide +kernel
theorem dX9_findChains_25 : decode cX9_findChains 25 = .ok (.goto (-16), 3) := by decide +kernel
theorem dX9_findChains_28 : decode cX9_findChains 28 = .ok (.iconst 0, 1) := by decide +kernel
theorem dX9_findChains_29 : decode cX9_findChains 29 = .ok (.istore 5, 2) := by decide +kernel
theorem dX9_findChains_31 : decode cX9_findChains 31 = .ok (.iload 5, 2) := by decide +kernel
theorem dX9_findChains_33 : decode cX9_findChains 33 = .ok (.iload 4, 2) := by decide +kernel
theorem dX9_findChains_35 : decode cX9_findChains 35 = .ok (.if_icmp .ge 175, 3) := by decide +kernel
theorem dX9_findChains_38 : decode cX9_findChains 38 = .ok (.iconst 0, 1) := by decide +kernel
theorem dX9_findChains_39 : decode cX9_findChains 39 = .ok (.istore 6, 2) := by decide +kernel
theorem dX9_findChains_41 : decode cX9_findChains 41 = .ok (.iload 6, 2) := by decide +kernel
theorem dX9_findChains_43 : decode cX9_findChains 43 = .ok (.iload 5, 2) := by decide +kernel
theorem dX9_findChains_45 : decode cX9_findChains 45 = .ok (.if_icmp .ge 159, 3) := by decide +kernel
theorem dX9_findChains_48 : decode cX9_findChains 48 = .ok (.iload 5, 2) := by decide +kernel
theorem dX9_findChains_50 : decode cX9_findChains 50 = .ok (.iload_n 3, 1) := by decide +kernel
theorem dX9_findChains_51 : decode cX9_findChains 51 = .ok (.if_icmp .eq 53, 3) := by decide +kernel
theorem dX9_findChains_54 : decode cX9_findChains 54 = .ok (.iload 6, 2) := by decide +kernel
theorem dX9_findChains_56 : decode cX9_findChains 56 = .ok (.iload_n 3, 1) := by decide +kernel
theorem dX9_findChains_57 : decode cX9_findChains 57 = .ok (.if_icmp .eq 47, 3) := by decide +kernel
theorem dX9_findChains_60 : decode cX9_findChains 60 = .ok (.aload_n 1, 1) := by decide +kernel
theorem dX9_findChains_61 : decode cX9_findChains 61 = .ok (.iload 5, 2) := by decide +kernel
theorem dX9_findChains_63 : decode cX9_findChains 63 = .ok (.iaload, 1) := by decide +kernel
theorem dX9_findChains_64 : decode cX9_findChains 64 = .ok (.aload_n 1, 1) := by decide +kernel
theorem dX9_findChains_65 : decode cX9_findChains 65 = .ok (.iload 6, 2) := by decide +kernel
theorem dX9_findChains_67 : decode cX9_findChains 67 = .ok (.iaload, 1) := by decide +kernel
theorem dX9_findChains_68 : decode cX9_findChains 68 = .ok (.if_icmp .eq 36, 3) := by decide +kernel
theorem dX9_findChains_71 : decode cX9_findChains 71 = .ok (.iload_n 2, 1) := by decide +kernel
theorem dX9_findChains_72 : decode cX9_findChains 72 = .ok (.ifCond .eq 17, 3) := by decide +kernel
theorem dX9_findChains_75 : decode cX9_findChains 75 = .ok (.aload_n 0, 1) := by decide +kernel
theorem dX9_findChains_76 : decode cX9_findChains 76 = .ok (.iload 5, 2) := by decide +kernel
theorem dX9_findChains_78 : decode cX9_findChains 78 = .ok (.iload 6, 2) := by decide +kernel
theorem dX9_findChains_80 : decode cX9_findChains 80 = .ok (.invokevirtual 159, 3) := by decide +kernel
theorem dX9_findChains_83 : decode cX9_findChains 83 = .ok (.ifCond .eq 21, 3) := by decide +kernel
theorem dX9_findChains_86 : decode cX9_findChains 86 = .ok (.goto 14, 3) := by decide +kernel
theorem dX9_findChains_89 : decode cX9_findChains 89 = .ok (.aload_n 0, 1) := by decide +kernel
theorem dX9_findChains_90 : decode cX9_findChains 90 = .ok (.iload 5, 2) := by decide +kernel
theorem dX9_findChains_92 : decode cX9_findChains 92 = .ok (.iload 6, 2) := by decide +kernel
theorem dX9_findChains_94 : decode cX9_findChains 94 = .ok (.invokevirtual 155, 3) := by decide +kernel
theorem dX9_findChains_97 : decode cX9_findChains 97 = .ok (.ifCond .eq 7, 3) := by decide +kernel
theorem dX9_findChains_100 : decode cX9_findChains 100 = .ok (.iconst 1, 1) := by decide +kernel
theorem dX9_findChains_101 : decode cX9_findChains 101 = .ok (.goto 4, 3) := by decide +kernel
theorem dX9_findChains_104 : decode cX9_findChains 104 = .ok (.iconst 0, 1) := by decide +kernel
theorem dX9_findChains_105 : decode cX9_findChains 105 = .ok (.istore 7, 2) := by decide +kernel
theorem dX9_findChains_107 : decode cX9_findChains 107 = .ok (.aload_n 1, 1) := by decide +kernel
theorem dX9_findChains_108 : decode cX9_findChains 108 = .ok (.iload 5, 2) := by decide +kernel
theorem dX9_findChains_110 : decode cX9_findChains 110 = .ok (.iaload, 1) := by decide +kernel
theorem dX9_findChains_111 : decode cX9_findChains 111 = .ok (.aload_n 1, 1) := by decide +kernel
theorem dX9_findChains_112 : decode cX9_findChains 112 = .ok (.iload 6, 2) := by decide +kernel
theorem dX9_findChains_114 : decode cX9_findChains 114 = .ok (.iaload, 1) := by decide +kernel
theorem dX9_findChains_115 : decode cX9_findChains 115 = .ok (.if_icmp .ge 10, 3) := by decide +kernel
theorem dX9_findChains_118 : decode cX9_findChains 118 = .ok (.aload_n 1, 1) := by decide +kernel
theorem dX9_findChains_119 : decode cX9_findChains 119 = .ok (.iload 5, 2) := by decide +kernel
theorem dX9_findChains_121 : decode cX9_findChains 121 = .ok (.iaload, 1) := by decide +kernel
theorem dX9_findChains_122 : decode cX9_findChains 122 = .ok (.goto 7, 3) := by decide +kernel
theorem dX9_findChains_125 : decode cX9_findChains 125 = .ok (.aload_n 1, 1) := by decide +kernel
theorem dX9_findChains_126 : decode cX9_findChains 126 = .ok (.iload 6, 2) := by decide +kernel
theorem dX9_findChains_128 : decode cX9_findChains 128 = .ok (.iaload, 1) := by decide +kernel
theorem dX9_findChains_129 : decode cX9_findChains 129 = .ok (.istore 8, 2) := by decide +kernel
theorem dX9_findChains_131 : decode cX9_findChains 131 = .ok (.aload_n 1, 1) := by decide +kernel
theorem dX9_findChains_132 : decode cX9_findChains 132 = .ok (.iload 5, 2) := by decide +kernel
theorem dX9_findChains_134 : decode cX9_findChains 134 = .ok (.iaload, 1) := by decide +kernel
theorem dX9_findChains_135 : decode cX9_findChains 135 = .ok (.aload_n 1, 1) := by decide +kernel
theorem dX9_findChains_136 : decode cX9_findChains 136 = .ok (.iload 6, 2) := by decide +kernel
theorem dX9_findChains_138 : decode cX9_findChains 138 = .ok (.iaload, 1) := by decide +kernel
theorem dX9_findChains_139 : decode cX9_findChains 139 = .ok (.if_icmp .ge 10, 3) := by decide +kernel
theorem dX9_findChains_142 : decode cX9_findChains 142 = .ok (.aload_n 1, 1) := by decide +kernel
theorem dX9_findChains_143 : decode cX9_findChains 143 = .ok (.iload 6, 2) := by decide +kernel
theorem dX9_findChains_145 : decode cX9_findChains 145 = .ok (.iaload, 1) := by decide +kernel
theorem dX9_findChains_146 : decode cX9_findChains 146 = .ok (.goto 7, 3) := by decide +kernel
theorem dX9_findChains_149 : decode cX9_findChains 149 = .ok (.aload_n 1, 1) := by decide +kernel
theorem dX9_findChains_150 : decode cX9_findChains 150 = .ok (.iload 5, 2) := by decide +kernel
theorem dX9_findChains_152 : decode cX9_findChains 152 = .ok (.iaload, 1) := by decide +kernel
theorem dX9_findChains_153 : decode cX9_findChains 153 = .ok (.istore 9, 2) := by decide +kernel
theorem dX9_findChains_155 : decode cX9_findChains 155 = .ok (.iconst 0, 1) := by decide +kernel
theorem dX9_findChains_156 : decode cX9_findChains 156 = .ok (.istore 10, 2) := by decide +kernel
theorem dX9_findChains_158 : decode cX9_findChains 158 = .ok (.iload 10, 2) := by decide +kernel
theorem dX9_findChains_160 : decode cX9_findChains 160 = .ok (.iload 4, 2) := by decide +kernel
theorem dX9_findChains_162 : decode cX9_findChains 162 = .ok (.if_icmp .ge 36, 3) := by decide +kernel
theorem dX9_findChains_165 : decode cX9_findChains 165 = .ok (.iload 7, 2) := by decide +kernel
theorem dX9_findChains_167 : decode cX9_findChains 167 = .ok (.ifCond .eq 31, 3) := by decide +kernel
theorem dX9_findChains_170 : decode cX9_findChains 170 = .ok (.aload_n 1, 1) := by decide +kernel
theorem dX9_findChains_171 : decode cX9_findChains 171 = .ok (.iload 10, 2) := by decide +kernel
theorem dX9_findChains_173 : decode cX9_findChains 173 = .ok (.aload_n 1, 1) := by decide +kernel
theorem dX9_findChains_174 : decode cX9_findChains 174 = .ok (.iload 10, 2) := by decide +kernel
theorem dX9_findChains_176 : decode cX9_findChains 176 = .ok (.iaload, 1) := by decide +kernel
theorem dX9_findChains_177 : decode cX9_findChains 177 = .ok (.iload 9, 2) := by decide +kernel
theorem dX9_findChains_179 : decode cX9_findChains 179 = .ok (.if_icmp .ne 8, 3) := by decide +kernel
theorem dX9_findChains_182 : decode cX9_findChains 182 = .ok (.iload 8, 2) := by decide +kernel
theorem dX9_findChains_184 : decode cX9_findChains 184 = .ok (.goto 7, 3) := by decide +kernel
theorem dX9_findChains_187 : decode cX9_findChains 187 = .ok (.aload_n 1, 1) := by decide +kernel
theorem dX9_findChains_188 : decode cX9_findChains 188 = .ok (.iload 10, 2) := by decide +kernel
theorem dX9_findChains_190 : decode cX9_findChains 190 = .ok (.iaload, 1) := by decide +kernel
theorem dX9_findChains_191 : decode cX9_findChains 191 = .ok (.iastore, 1) := by decide +kernel
theorem dX9_findChains_192 : decode cX9_findChains 192 = .ok (.iinc 10 1, 3) := by decide +kernel
theorem dX9_findChains_195 : decode cX9_findChains 195 = .ok (.goto (-37), 3) := by decide +kernel
theorem dX9_findChains_198 : decode cX9_findChains 198 = .ok (.iinc 6 1, 3) := by decide +kernel
theorem dX9_findChains_201 : decode cX9_findChains 201 = .ok (.goto (-160), 3) := by decide +kernel
theorem dX9_findChains_204 : decode cX9_findChains 204 = .ok (.iinc 5 1, 3) := by decide +kernel
theorem dX9_findChains_207 : decode cX9_findChains 207 = .ok (.goto (-176), 3) := by decide +kernel
theorem dX9_findChains_210 : decode cX9_findChains 210 = .ok (.return_, 1) := by decide +kernel
set_option maxRecDepth 100000 in
set_option maxHeartbeats 40000000 in
theorem fx_X9_findChains {G : vG} {l : Launch} (σ : Sg) (a : Nat) (b c : Int32) (h0 : σ.1 14000 = 0) : Sp G l yX9_findChains cX9_findChains 11 none 3 0 0 [.ref 140, .ref a, .int b, .int c] (WW σ) (QV (fun w2 => w2 = WW σ)) := by
  refine Sp_of_R [(some (.ref 140)), (some (.ref a)), (some (.int b)), (some (.int c)), none, none, none, none, none, none, none] [none, none, none, none, none, none, none] rfl (by simp) rfl (Nat.le_of_ble_eq_true rfl) ?_
  refine R_aload_n (pc := 0) dX9_findChains_0 rfl rfl ?_
  refine k_X9_120 (pc := 1) (fx_X9_thereMany _ h0) rfl (c_140 _) (by decide) (Nat.le_refl _) (Nat.le_refl _) (Nat.le_of_ble_eq_true rfl) dX9_findChains_1 (fun x w2 h => ?_)
  obtain ⟨rfl, rfl⟩ := h
  refine st_11_4_i_i (pc := 4) dX9_findChains_4 ?_
  refine R_iconst (pc := 6) (v := 0) dX9_findChains_6 (by decide) ?_
  refine st_11_5_i_i (pc := 7) dX9_findChains_7 ?_
  refine R_iload (pc := 9) dX9_findChains_9 rfl ?_
  refine R_iload (pc := 11) dX9_findChains_11 rfl ?_
  refine R_icge (pc := 13) 28 dX9_findChains_13 (by decide) (fun _ => ?_) (fun h => absurd (by decide) h)
  refine R_iconst (pc := 28) (v := 0) dX9_findChains_28 (by decide) ?_
  refine st_11_5_i_i (pc := 29) dX9_findChains_29 ?_
  refine R_iload (pc := 31) dX9_findChains_31 rfl ?_
  refine R_iload (pc := 33) dX9_findChains_33 rfl ?_
  refine R_icge (pc := 35) 210 dX9_findChains_35 (by decide) (fun _ => ?_) (fun h => absurd (by decide) h)
  exact R_vret (pc := 210) dX9_findChains_210 rfl (Nat.zero_le _) (Nat.zero_le _) ⟨rfl, rfl⟩
theorem dX9_isEmpty_0 : decode cX9_isEmpty 0 = .ok (.iconst 0, 1) := by decide +kernel
theorem dX9_isEmpty_1 : decode cX9_isEmpty 1 = .ok (.istore_n 2, 1) := by decide +kernel
theorem dX9_isEmpty_2 : decode cX9_isEmpty 2 = .ok (.iconst 0, 1) := by decide +kernel
theorem dX9_isEmpty_3 : decode cX9_isEmpty 3 = .ok (.istore_n 3, 1) := by decide +kernel
theorem dX9_isEmpty_4 : decode cX9_isEmpty 4 = .ok (.iload_n 3, 1) := by decide +kernel
theorem dX9_isEmpty_5 : decode cX9_isEmpty 5 = .ok (.aload_n 0, 1) := by decide +kernel
theorem dX9_isEmpty_6 : decode cX9_isEmpty 6 = .ok (.invokevirtual 120, 3) := by decide +kernel
theorem dX9_isEmpty_9 : decode cX9_isEmpty 9 = .ok (.if_icmp .ge 64, 3) := by decide +kernel
theorem dX9_isEmpty_12 : decode cX9_isEmpty 12 = .ok (.iload_n 2, 1) := by decide +kernel
theorem dX9_isEmpty_13 : decode cX9_isEmpty 13 = .ok (.ifCond .ne 48, 3) := by decide +kernel
theorem dX9_isEmpty_16 : decode cX9_isEmpty 16 = .ok (.iload_n 3, 1) := by decide +kernel
theorem dX9_isEmpty_17 : decode cX9_isEmpty 17 = .ok (.iload_n 1, 1) := by decide +kernel
theorem dX9_isEmpty_18 : decode cX9_isEmpty 18 = .ok (.if_icmp .eq 47, 3) := by decide +kernel
theorem dX9_isEmpty_21 : decode cX9_isEmpty 21 = .ok (.aload_n 0, 1) := by decide +kernel
theorem dX9_isEmpty_22 : decode cX9_isEmpty 22 = .ok (.getfield 93, 3) := by decide +kernel
theorem dX9_isEmpty_25 : decode cX9_isEmpty 25 = .ok (.iload_n 3, 1) := by decide +kernel
theorem dX9_isEmpty_26 : decode cX9_isEmpty 26 = .ok (.iaload, 1) := by decide +kernel
theorem dX9_isEmpty_27 : decode cX9_isEmpty 27 = .ok (.aload_n 0, 1) := by decide +kernel
theorem dX9_isEmpty_28 : decode cX9_isEmpty 28 = .ok (.getfield 96, 3) := by decide +kernel
theorem dX9_isEmpty_31 : decode cX9_isEmpty 31 = .ok (.iload_n 3, 1) := by decide +kernel
theorem dX9_isEmpty_32 : decode cX9_isEmpty 32 = .ok (.iaload, 1) := by decide +kernel
theorem dX9_isEmpty_33 : decode cX9_isEmpty 33 = .ok (.if_icmp .gt 28, 3) := by decide +kernel
theorem dX9_isEmpty_36 : decode cX9_isEmpty 36 = .ok (.aload_n 0, 1) := by decide +kernel
theorem dX9_isEmpty_37 : decode cX9_isEmpty 37 = .ok (.getfield 87, 3) := by decide +kernel
theorem dX9_isEmpty_40 : decode cX9_isEmpty 40 = .ok (.aload_n 0, 1) := by decide +kernel
theorem dX9_isEmpty_41 : decode cX9_isEmpty 41 = .ok (.getfield 54, 3) := by decide +kernel
theorem dX9_isEmpty_44 : decode cX9_isEmpty 44 = .ok (.iload_n 3, 1) := by decide +kernel
theorem dX9_isEmpty_45 : decode cX9_isEmpty 45 = .ok (.iaload, 1) := by decide +kernel
theorem dX9_isEmpty_46 : decode cX9_isEmpty 46 = .ok (.iaload, 1) := by decide +kernel
theorem dX9_isEmpty_47 : decode cX9_isEmpty 47 = .ok (.aload_n 0, 1) := by decide +kernel
theorem dX9_isEmpty_48 : decode cX9_isEmpty 48 = .ok (.getfield 90, 3) := by decide +kernel
theorem dX9_isEmpty_51 : decode cX9_isEmpty 51 = .ok (.aload_n 0, 1) := by decide +kernel
theorem dX9_isEmpty_52 : decode cX9_isEmpty 52 = .ok (.getfield 54, 3) := by decide +kernel
theorem dX9_isEmpty_55 : decode cX9_isEmpty 55 = .ok (.iload_n 3, 1) := by decide +kernel
theorem dX9_isEmpty_56 : decode cX9_isEmpty 56 = .ok (.iaload, 1) := by decide +kernel
theorem dX9_isEmpty_57 : decode cX9_isEmpty 57 = .ok (.iaload, 1) := by decide +kernel
theorem dX9_isEmpty_58 : decode cX9_isEmpty 58 = .ok (.if_icmp .le 7, 3) := by decide +kernel
theorem dX9_isEmpty_61 : decode cX9_isEmpty 61 = .ok (.iconst 1, 1) := by decide +kernel
theorem dX9_isEmpty_62 : decode cX9_isEmpty 62 = .ok (.goto 4, 3) := by decide +kernel
theorem dX9_isEmpty_65 : decode cX9_isEmpty 65 = .ok (.iconst 0, 1) := by decide +kernel
theorem dX9_isEmpty_66 : decode cX9_isEmpty 66 = .ok (.istore_n 2, 1) := by decide +kernel
theorem dX9_isEmpty_67 : decode cX9_isEmpty 67 = .ok (.iinc 3 1, 3) := by decide +kernel
theorem dX9_isEmpty_70 : decode cX9_isEmpty 70 = .ok (.goto (-66), 3) := by decide +kernel
theorem dX9_isEmpty_73 : decode cX9_isEmpty 73 = .ok (.iload_n 2, 1) := by decide +kernel
theorem dX9_isEmpty_74 : decode cX9_isEmpty 74 = .ok (.ireturn, 1) := by decide +kernel
set_option maxRecDepth 100000 in
set_option maxHeartbeats 40000000 in
theorem fx_X9_isEmpty {G : vG} {l : Launch} (σ : Sg) (b : Int32) (h0 : σ.1 14000 = 0) : Sp G l yX9_isEmpty cX9_isEmpty 4 (some .boolean) 1 0 0 [.ref 140, .int b] (WW σ) (QI (fun x w2 => w2 = WW σ ∧ x = 0)) := by
  refine Sp_of_R [(some (.ref 140)), (some (.int b)), none, none] [none, none] rfl (by simp) rfl (Nat.le_of_ble_eq_true rfl) ?_
  refine R_iconst (pc := 0) (v := 0) dX9_isEmpty_0 (by decide) ?_
  refine st_4_2_i_i (pc := 1) dX9_isEmpty_1 ?_
  refine R_iconst (pc := 2) (v := 0) dX9_isEmpty_2 (by decide) ?_
  refine st_4_3_i_i (pc := 3) dX9_isEmpty_3 ?_
  refine R_iload_n (pc := 4) dX9_isEmpty_4 rfl rfl ?_
  refine R_aload_n (pc := 5) dX9_isEmpty_5 rfl rfl ?_
  refine k_X9_120 (pc := 6) (fx_X9_thereMany _ h0) rfl (c_140 _) (by decide) (Nat.le_refl _) (Nat.le_refl _) (Nat.le_of_ble_eq_true rfl) dX9_isEmpty_6 (fun x w2 h => ?_)
  obtain ⟨rfl, rfl⟩ := h
  refine R_icge (pc := 9) 73 dX9_isEmpty_9 (by decide) (fun _ => ?_) (fun h => absurd (by decide) h)
  refine R_iload_n (pc := 73) dX9_isEmpty_73 rfl rfl ?_
  exact R_iret (pc := 74) dX9_isEmpty_74 rfl rfl (Nat.zero_le _) (Nat.zero_le _) ⟨_, rfl, rfl, rfl⟩
theorem dX9_common_0 : decode cX9_common 0 = .ok (.iload_n 0, 1) := by decide +kernel
theorem dX9_common_1 : decode cX9_common 1 = .ok (.istore_n 2, 1) := by decide +kernel
theorem dX9_common_2 : decode cX9_common 2 = .ok (.iload_n 1, 1) := by decide +kernel
theorem dX9_common_3 : decode cX9_common 3 = .ok (.istore_n 3, 1) := by decide +kernel
theorem dX9_common_4 : decode cX9_common 4 = .ok (.iload_n 3, 1) := by decide +kernel
theorem dX9_common_5 : decode cX9_common 5 = .ok (.ifCond .eq 16, 3) := by decide +kernel
theorem dX9_common_8 : decode cX9_common 8 = .ok (.iload_n 2, 1) := by decide +kernel
theorem dX9_common_9 : decode cX9_common 9 = .ok (.iload_n 3, 1) := by decide +kernel
theorem dX9_common_10 : decode cX9_common 10 = .ok (.irem, 1) := by decide +kernel
theorem dX9_common_11 : decode cX9_common 11 = .ok (.istore 4, 2) := by decide +kernel
theorem dX9_common_13 : decode cX9_common 13 = .ok (.iload_n 3, 1) := by decide +kernel
theorem dX9_common_14 : decode cX9_common 14 = .ok (.istore_n 2, 1) := by decide +kernel
theorem dX9_common_15 : decode cX9_common 15 = .ok (.iload 4, 2) := by decide +kernel
theorem dX9_common_17 : decode cX9_common 17 = .ok (.istore_n 3, 1) := by decide +kernel
theorem dX9_common_18 : decode cX9_common 18 = .ok (.goto (-14), 3) := by decide +kernel
theorem dX9_common_21 : decode cX9_common 21 = .ok (.iload_n 2, 1) := by decide +kernel
theorem dX9_common_22 : decode cX9_common 22 = .ok (.ireturn, 1) := by decide +kernel
set_option maxRecDepth 100000 in
set_option maxHeartbeats 40000000 in
theorem fx_X9_common02 {G : vG} {l : Launch} (w : VW) : Sp G l yX9_common cX9_common 5 (some .int) 0 0 0 [.int 0, .int 2] (w) (QI (fun x w2 => w2 = w ∧ x = 2)) := by
  refine Sp_of_R [(some (.int 0)), (some (.int 2)), none, none, none] [none, none, none] rfl (by simp) rfl (Nat.le_of_ble_eq_true rfl) ?_
  refine R_iload_n (pc := 0) dX9_common_0 rfl rfl ?_
  refine st_5_2_i_i (pc := 1) dX9_common_1 ?_
  refine R_iload_n (pc := 2) dX9_common_2 rfl rfl ?_
  refine st_5_3_i_i (pc := 3) dX9_common_3 ?_
  refine R_iload_n (pc := 4) dX9_common_4 rfl rfl ?_
  refine R_ifeq (pc := 5) 21 dX9_common_5 (by decide) (fun h => absurd h (by decide)) (fun _ => ?_)
  refine R_iload_n (pc := 8) dX9_common_8 rfl rfl ?_
  refine R_iload_n (pc := 9) dX9_common_9 rfl rfl ?_
  refine R_irem (pc := 10) dX9_common_10 (by decide) ?_
  refine R_cv 0 (by decide) ?_
  refine st_5_4_i_i (pc := 11) dX9_common_11 ?_
  refine R_iload_n (pc := 13) dX9_common_13 rfl rfl ?_
  refine st_5_2_i_i (pc := 14) dX9_common_14 ?_
  refine R_iload (pc := 15) dX9_common_15 rfl ?_
  refine st_5_3_i_i (pc := 17) dX9_common_17 ?_
  refine R_goto (pc := 18) 4 dX9_common_18 (by decide) ?_
  refine R_iload_n (pc := 4) dX9_common_4 rfl rfl ?_
  refine R_ifeq (pc := 5) 21 dX9_common_5 (by decide) (fun _ => ?_) (fun h => absurd (by decide) h)
  refine R_iload_n (pc := 21) dX9_common_21 rfl rfl ?_
  exact R_iret (pc := 22) dX9_common_22 rfl rfl (Nat.zero_le _) (Nat.zero_le _) ⟨_, rfl, rfl, rfl⟩
theorem dX9_lowest_0 : decode cX9_lowest 0 = .ok (.iload_n 0, 1) := by decide +kernel
theorem dX9_lowest_1 : decode cX9_lowest 1 = .ok (.iload_n 1, 1) := by decide +kernel
theorem dX9_lowest_2 : decode cX9_lowest 2 = .ok (.invokestatic 191, 3) := by decide +kernel
theorem dX9_lowest_5 : decode cX9_lowest 5 = .ok (.istore_n 3, 1) := by decide +kernel
theorem dX9_lowest_6 : decode cX9_lowest 6 = .ok (.iload_n 2, 1) := by decide +kernel
theorem dX9_lowest_7 : decode cX9_lowest 7 = .ok (.ifCond .eq 9, 3) := by decide +kernel
theorem dX9_lowest_10 : decode cX9_lowest 10 = .ok (.iload_n 0, 1) := by decide +kernel
theorem dX9_lowest_11 : decode cX9_lowest 11 = .ok (.iload_n 3, 1) := by decide +kernel
theorem dX9_lowest_12 : decode cX9_lowest 12 = .ok (.idiv, 1) := by decide +kernel
theorem dX9_lowest_13 : decode cX9_lowest 13 = .ok (.goto 6, 3) := by decide +kernel
theorem dX9_lowest_16 : decode cX9_lowest 16 = .ok (.iload_n 1, 1) := by decide +kernel
theorem dX9_lowest_17 : decode cX9_lowest 17 = .ok (.iload_n 3, 1) := by decide +kernel
theorem dX9_lowest_18 : decode cX9_lowest 18 = .ok (.idiv, 1) := by decide +kernel
theorem dX9_lowest_19 : decode cX9_lowest 19 = .ok (.ireturn, 1) := by decide +kernel
set_option maxRecDepth 100000 in
set_option maxHeartbeats 40000000 in
theorem fx_X9_lowest1 {G : vG} {l : Launch} (w : VW) : Sp G l yX9_lowest cX9_lowest 4 (some .int) 1 0 0 [.int 0, .int 2, .int 1] (w) (QI (fun x w2 => w2 = w ∧ x = 0)) := by
  refine Sp_of_R [(some (.int 0)), (some (.int 2)), (some (.int 1)), none] [none] rfl (by simp) rfl (Nat.le_of_ble_eq_true rfl) ?_
  refine R_iload_n (pc := 0) dX9_lowest_0 rfl rfl ?_
  refine R_iload_n (pc := 1) dX9_lowest_1 rfl rfl ?_
  refine k_X9_191 (pc := 2) (fx_X9_common02 _) rfl (by decide) (Nat.le_refl _) (Nat.le_refl _) (Nat.le_of_ble_eq_true rfl) dX9_lowest_2 (fun x w2 h => ?_)
  obtain ⟨rfl, rfl⟩ := h
  refine st_4_3_i_i (pc := 5) dX9_lowest_5 ?_
  refine R_iload_n (pc := 6) dX9_lowest_6 rfl rfl ?_
  refine R_ifeq (pc := 7) 16 dX9_lowest_7 (by decide) (fun h => absurd h (by decide)) (fun _ => ?_)
  refine R_iload_n (pc := 10) dX9_lowest_10 rfl rfl ?_
  refine R_iload_n (pc := 11) dX9_lowest_11 rfl rfl ?_
  refine R_idiv (pc := 12) dX9_lowest_12 (by decide) ?_
  refine R_cv 0 (by decide) ?_
  refine R_goto (pc := 13) 19 dX9_lowest_13 (by decide) ?_
  exact R_iret (pc := 19) dX9_lowest_19 rfl rfl (Nat.zero_le _) (Nat.zero_le _) ⟨_, rfl, rfl, rfl⟩
set_option maxRecDepth 100000 in
set_option maxHeartbeats 40000000 in
theorem fx_X9_lowest0 {G : vG} {l : Launch} (w : VW) : Sp G l yX9_lowest cX9_lowest 4 (some .int) 1 0 0 [.int 0, .int 2, .int 0] (w) (QI (fun x w2 => w2 = w ∧ x = 1)) := by
  refine Sp_of_R [(some (.int 0)), (some (.int 2)), (some (.int 0)), none] [none] rfl (by simp) rfl (Nat.le_of_ble_eq_true rfl) ?_
  refine R_iload_n (pc := 0) dX9_lowest_0 rfl rfl ?_
  refine R_iload_n (pc := 1) dX9_lowest_1 rfl rfl ?_
  refine k_X9_191 (pc := 2) (fx_X9_common02 _) rfl (by decide) (Nat.le_refl _) (Nat.le_refl _) (Nat.le_of_ble_eq_true rfl) dX9_lowest_2 (fun x w2 h => ?_)
  obtain ⟨rfl, rfl⟩ := h
  refine st_4_3_i_i (pc := 5) dX9_lowest_5 ?_
  refine R_iload_n (pc := 6) dX9_lowest_6 rfl rfl ?_
  refine R_ifeq (pc := 7) 16 dX9_lowest_7 (by decide) (fun _ => ?_) (fun h => absurd (by decide) h)
  refine R_iload_n (pc := 16) dX9_lowest_16 rfl rfl ?_
  refine R_iload_n (pc := 17) dX9_lowest_17 rfl rfl ?_
  refine R_idiv (pc := 18) dX9_lowest_18 (by decide) ?_
  refine R_cv 1 (by decide) ?_
  exact R_iret (pc := 19) dX9_lowest_19 rfl rfl (Nat.zero_le _) (Nat.zero_le _) ⟨_, rfl, rfl, rfl⟩
theorem dX9_areSpans_0 : decode cX9_areSpans 0 = .ok (.aload_n 0, 1) := by decide +kernel
theorem dX9_areSpans_1 : decode cX9_areSpans 1 = .ok (.invokevirtual 162, 3) := by decide +kernel
theorem dX9_areSpans_4 : decode cX9_areSpans 4 = .ok (.aload_n 0, 1) := by decide +kernel
theorem dX9_areSpans_5 : decode cX9_areSpans 5 = .ok (.aload_n 0, 1) := by decide +kernel
theorem dX9_areSpans_6 : decode cX9_areSpans 6 = .ok (.getfield 54, 3) := by decide +kernel
theorem dX9_areSpans_9 : decode cX9_areSpans 9 = .ok (.iconst 0, 1) := by decide +kernel
theorem dX9_areSpans_10 : decode cX9_areSpans 10 = .ok (.iload_n 1, 1) := by decide +kernel
theorem dX9_areSpans_11 : decode cX9_areSpans 11 = .ok (.invokevirtual 165, 3) := by decide +kernel
theorem dX9_areSpans_14 : decode cX9_areSpans 14 = .ok (.iconst 0, 1) := by decide +kernel
theorem dX9_areSpans_15 : decode cX9_areSpans 15 = .ok (.istore_n 3, 1) := by decide +kernel
theorem dX9_areSpans_16 : decode cX9_areSpans 16 = .ok (.iload_n 3, 1) := by decide +kernel
theorem dX9_areSpans_17 : decode cX9_areSpans 17 = .ok (.bipush 20, 2) := by decide +kernel
theorem dX9_areSpans_19 : decode cX9_areSpans 19 = .ok (.if_icmp .ge 41, 3) := by decide +kernel
theorem dX9_areSpans_22 : decode cX9_areSpans 22 = .ok (.aload_n 0, 1) := by decide +kernel
theorem dX9_areSpans_23 : decode cX9_areSpans 23 = .ok (.getfield 87, 3) := by decide +kernel
theorem dX9_areSpans_26 : decode cX9_areSpans 26 = .ok (.iload_n 3, 1) := by decide +kernel
theorem dX9_areSpans_27 : decode cX9_areSpans 27 = .ok (.iconst 0, 1) := by decide +kernel
theorem dX9_areSpans_28 : decode cX9_areSpans 28 = .ok (.iastore, 1) := by decide +kernel
theorem dX9_areSpans_29 : decode cX9_areSpans 29 = .ok (.aload_n 0, 1) := by decide +kernel
theorem dX9_areSpans_30 : decode cX9_areSpans 30 = .ok (.getfield 90, 3) := by decide +kernel
theorem dX9_areSpans_33 : decode cX9_areSpans 33 = .ok (.iload_n 3, 1) := by decide +kernel
theorem dX9_areSpans_34 : decode cX9_areSpans 34 = .ok (.sipush 20000, 3) := by decide +kernel
theorem dX9_areSpans_37 : decode cX9_areSpans 37 = .ok (.iastore, 1) := by decide +kernel
theorem dX9_areSpans_38 : decode cX9_areSpans 38 = .ok (.aload_n 0, 1) := by decide +kernel
theorem dX9_areSpans_39 : decode cX9_areSpans 39 = .ok (.getfield 93, 3) := by decide +kernel
theorem dX9_areSpans_42 : decode cX9_areSpans 42 = .ok (.iload_n 3, 1) := by decide +kernel
theorem dX9_areSpans_43 : decode cX9_areSpans 43 = .ok (.iconst 0, 1) := by decide +kernel
theorem dX9_areSpans_44 : decode cX9_areSpans 44 = .ok (.iastore, 1) := by decide +kernel
theorem dX9_areSpans_45 : decode cX9_areSpans 45 = .ok (.aload_n 0, 1) := by decide +kernel
theorem dX9_areSpans_46 : decode cX9_areSpans 46 = .ok (.getfield 96, 3) := by decide +kernel
theorem dX9_areSpans_49 : decode cX9_areSpans 49 = .ok (.iload_n 3, 1) := by decide +kernel
theorem dX9_areSpans_50 : decode cX9_areSpans 50 = .ok (.sipush 20000, 3) := by decide +kernel
theorem dX9_areSpans_53 : decode cX9_areSpans 53 = .ok (.iastore, 1) := by decide +kernel
theorem dX9_areSpans_54 : decode cX9_areSpans 54 = .ok (.iinc 3 1, 3) := by decide +kernel
theorem dX9_areSpans_57 : decode cX9_areSpans 57 = .ok (.goto (-41), 3) := by decide +kernel
theorem dX9_areSpans_60 : decode cX9_areSpans 60 = .ok (.aload_n 0, 1) := by decide +kernel
theorem dX9_areSpans_61 : decode cX9_areSpans 61 = .ok (.iconst 1, 1) := by decide +kernel
theorem dX9_areSpans_62 : decode cX9_areSpans 62 = .ok (.putfield 204, 3) := by decide +kernel
theorem dX9_areSpans_65 : decode cX9_areSpans 65 = .ok (.aload_n 0, 1) := by decide +kernel
theorem dX9_areSpans_66 : decode cX9_areSpans 66 = .ok (.getfield 204, 3) := by decide +kernel
theorem dX9_areSpans_69 : decode cX9_areSpans 69 = .ok (.ifCond .eq 142, 3) := by decide +kernel
theorem dX9_areSpans_72 : decode cX9_areSpans 72 = .ok (.aload_n 0, 1) := by decide +kernel
theorem dX9_areSpans_73 : decode cX9_areSpans 73 = .ok (.iload_n 1, 1) := by decide +kernel
theorem dX9_areSpans_74 : decode cX9_areSpans 74 = .ok (.invokevirtual 221, 3) := by decide +kernel
theorem dX9_areSpans_77 : decode cX9_areSpans 77 = .ok (.ifCond .ne 134, 3) := by decide +kernel
theorem dX9_areSpans_80 : decode cX9_areSpans 80 = .ok (.aload_n 0, 1) := by decide +kernel
theorem dX9_areSpans_81 : decode cX9_areSpans 81 = .ok (.iconst 0, 1) := by decide +kernel
theorem dX9_areSpans_82 : decode cX9_areSpans 82 = .ok (.putfield 204, 3) := by decide +kernel
theorem dX9_areSpans_85 : decode cX9_areSpans 85 = .ok (.iconst 0, 1) := by decide +kernel
theorem dX9_areSpans_86 : decode cX9_areSpans 86 = .ok (.istore_n 3, 1) := by decide +kernel
theorem dX9_areSpans_87 : decode cX9_areSpans 87 = .ok (.iload_n 3, 1) := by decide +kernel
theorem dX9_areSpans_88 : decode cX9_areSpans 88 = .ok (.aload_n 0, 1) := by decide +kernel
theorem dX9_areSpans_89 : decode cX9_areSpans 89 = .ok (.invokevirtual 120, 3) := by decide +kernel
theorem dX9_areSpans_92 : decode cX9_areSpans 92 = .ok (.if_icmp .ge 20, 3) := by decide +kernel
theorem dX9_areSpans_95 : decode cX9_areSpans 95 = .ok (.iload_n 3, 1) := by decide +kernel
theorem dX9_areSpans_96 : decode cX9_areSpans 96 = .ok (.iload_n 1, 1) := by decide +kernel
theorem dX9_areSpans_97 : decode cX9_areSpans 97 = .ok (.if_icmp .eq 9, 3) := by decide +kernel
theorem dX9_areSpans_100 : decode cX9_areSpans 100 = .ok (.aload_n 0, 1) := by decide +kernel
theorem dX9_areSpans_101 : decode cX9_areSpans 101 = .ok (.iload_n 3, 1) := by decide +kernel
theorem dX9_areSpans_102 : decode cX9_areSpans 102 = .ok (.iload_n 2, 1) := by decide +kernel
theorem dX9_areSpans_103 : decode cX9_areSpans 103 = .ok (.invokevirtual 224, 3) := by decide +kernel
theorem dX9_areSpans_106 : decode cX9_areSpans 106 = .ok (.iinc 3 1, 3) := by decide +kernel
theorem dX9_areSpans_109 : decode cX9_areSpans 109 = .ok (.goto (-22), 3) := by decide +kernel
theorem dX9_areSpans_112 : decode cX9_areSpans 112 = .ok (.iconst 0, 1) := by decide +kernel
theorem dX9_areSpans_113 : decode cX9_areSpans 113 = .ok (.istore_n 3, 1) := by decide +kernel
theorem dX9_areSpans_114 : decode cX9_areSpans 114 = .ok (.iload_n 3, 1) := by decide +kernel
theorem dX9_areSpans_115 : decode cX9_areSpans 115 = .ok (.aload_n 0, 1) := by decide +kernel
theorem dX9_areSpans_116 : decode cX9_areSpans 116 = .ok (.getfield 201, 3) := by decide +kernel
theorem dX9_areSpans_119 : decode cX9_areSpans 119 = .ok (.if_icmp .ge 89, 3) := by decide +kernel
theorem dX9_areSpans_122 : decode cX9_areSpans 122 = .ok (.aload_n 0, 1) := by decide +kernel
theorem dX9_areSpans_123 : decode cX9_areSpans 123 = .ok (.getfield 81, 3) := by decide +kernel
theorem dX9_areSpans_126 : decode cX9_areSpans 126 = .ok (.iload_n 3, 1) := by decide +kernel
theorem dX9_areSpans_127 : decode cX9_areSpans 127 = .ok (.iaload, 1) := by decide +kernel
theorem dX9_areSpans_128 : decode cX9_areSpans 128 = .ok (.istore 4, 2) := by decide +kernel
theorem dX9_areSpans_130 : decode cX9_areSpans 130 = .ok (.aload_n 0, 1) := by decide +kernel
theorem dX9_areSpans_131 : decode cX9_areSpans 131 = .ok (.getfield 84, 3) := by decide +kernel
theorem dX9_areSpans_134 : decode cX9_areSpans 134 = .ok (.iload_n 3, 1) := by decide +kernel
theorem dX9_areSpans_135 : decode cX9_areSpans 135 = .ok (.iaload, 1) := by decide +kernel
theorem dX9_areSpans_136 : decode cX9_areSpans 136 = .ok (.istore 5, 2) := by decide +kernel
theorem dX9_areSpans_138 : decode cX9_areSpans 138 = .ok (.aload_n 0, 1) := by decide +kernel
theorem dX9_areSpans_139 : decode cX9_areSpans 139 = .ok (.iload 4, 2) := by decide +kernel
theorem dX9_areSpans_141 : decode cX9_areSpans 141 = .ok (.invokevirtual 135, 3) := by decide +kernel
theorem dX9_areSpans_144 : decode cX9_areSpans 144 = .ok (.ifCond .eq 58, 3) := by decide +kernel
theorem dX9_areSpans_147 : decode cX9_areSpans 147 = .ok (.aload_n 0, 1) := by decide +kernel
theorem dX9_areSpans_148 : decode cX9_areSpans 148 = .ok (.iload 5, 2) := by decide +kernel
theorem dX9_areSpans_150 : decode cX9_areSpans 150 = .ok (.invokevirtual 135, 3) := by decide +kernel
theorem dX9_areSpans_153 : decode cX9_areSpans 153 = .ok (.ifCond .eq 49, 3) := by decide +kernel
theorem dX9_areSpans_156 : decode cX9_areSpans 156 = .ok (.iload 4, 2) := by decide +kernel
theorem dX9_areSpans_158 : decode cX9_areSpans 158 = .ok (.iload_n 1, 1) := by decide +kernel
theorem dX9_areSpans_159 : decode cX9_areSpans 159 = .ok (.if_icmp .eq 43, 3) := by decide +kernel
theorem dX9_areSpans_162 : decode cX9_areSpans 162 = .ok (.iload 5, 2) := by decide +kernel
theorem dX9_areSpans_164 : decode cX9_areSpans 164 = .ok (.iload_n 1, 1) := by decide +kernel
theorem dX9_areSpans_165 : decode cX9_areSpans 165 = .ok (.if_icmp .eq 37, 3) := by decide +kernel
theorem dX9_areSpans_168 : decode cX9_areSpans 168 = .ok (.aload_n 0, 1) := by decide +kernel
theorem dX9_areSpans_169 : decode cX9_areSpans 169 = .ok (.iload 4, 2) := by decide +kernel
theorem dX9_areSpans_171 : decode cX9_areSpans 171 = .ok (.aload_n 0, 1) := by decide +kernel
theorem dX9_areSpans_172 : decode cX9_areSpans 172 = .ok (.getfield 93, 3) := by decide +kernel
theorem dX9_areSpans_175 : decode cX9_areSpans 175 = .ok (.iload 5, 2) := by decide +kernel
theorem dX9_areSpans_177 : decode cX9_areSpans 177 = .ok (.iaload, 1) := by decide +kernel
theorem dX9_areSpans_178 : decode cX9_areSpans 178 = .ok (.iconst 1, 1) := by decide +kernel
theorem dX9_areSpans_179 : decode cX9_areSpans 179 = .ok (.iadd, 1) := by decide +kernel
theorem dX9_areSpans_180 : decode cX9_areSpans 180 = .ok (.sipush 20000, 3) := by decide +kernel
theorem dX9_areSpans_183 : decode cX9_areSpans 183 = .ok (.invokevirtual 212, 3) := by decide +kernel
theorem dX9_areSpans_186 : decode cX9_areSpans 186 = .ok (.aload_n 0, 1) := by decide +kernel
theorem dX9_areSpans_187 : decode cX9_areSpans 187 = .ok (.iload 5, 2) := by decide +kernel
theorem dX9_areSpans_189 : decode cX9_areSpans 189 = .ok (.iconst 0, 1) := by decide +kernel
theorem dX9_areSpans_190 : decode cX9_areSpans 190 = .ok (.aload_n 0, 1) := by decide +kernel
theorem dX9_areSpans_191 : decode cX9_areSpans 191 = .ok (.getfield 96, 3) := by decide +kernel
theorem dX9_areSpans_194 : decode cX9_areSpans 194 = .ok (.iload 4, 2) := by decide +kernel
theorem dX9_areSpans_196 : decode cX9_areSpans 196 = .ok (.iaload, 1) := by decide +kernel
theorem dX9_areSpans_197 : decode cX9_areSpans 197 = .ok (.iconst 1, 1) := by decide +kernel
theorem dX9_areSpans_198 : decode cX9_areSpans 198 = .ok (.isub, 1) := by decide +kernel
theorem dX9_areSpans_199 : decode cX9_areSpans 199 = .ok (.invokevirtual 212, 3) := by decide +kernel
theorem dX9_areSpans_202 : decode cX9_areSpans 202 = .ok (.iinc 3 1, 3) := by decide +kernel
theorem dX9_areSpans_205 : decode cX9_areSpans 205 = .ok (.goto (-91), 3) := by decide +kernel
theorem dX9_areSpans_208 : decode cX9_areSpans 208 = .ok (.goto (-143), 3) := by decide +kernel
theorem dX9_areSpans_211 : decode cX9_areSpans 211 = .ok (.aload_n 0, 1) := by decide +kernel
theorem dX9_areSpans_212 : decode cX9_areSpans 212 = .ok (.iload_n 1, 1) := by decide +kernel
theorem dX9_areSpans_213 : decode cX9_areSpans 213 = .ok (.invokevirtual 221, 3) := by decide +kernel
theorem dX9_areSpans_216 : decode cX9_areSpans 216 = .ok (.ifCond .ne 7, 3) := by decide +kernel
theorem dX9_areSpans_219 : decode cX9_areSpans 219 = .ok (.iconst 1, 1) := by decide +kernel
theorem dX9_areSpans_220 : decode cX9_areSpans 220 = .ok (.goto 4, 3) := by decide +kernel
theorem dX9_areSpans_223 : decode cX9_areSpans 223 = .ok (.iconst 0, 1) := by decide +kernel
theorem dX9_areSpans_224 : decode cX9_areSpans 224 = .ok (.ireturn, 1) := by decide +kernel
set_option maxRecDepth 100000 in
set_option maxHeartbeats 40000000 in
theorem fx_X9_areSpans {G : vG} {l : Launch} (σ : Sg) (a b : Int32) (h0 : σ.1 14000 = 0) (h1 : σ.1 14025 = 0) : Sp G l yX9_areSpans cX9_areSpans 6 (some .boolean) 4 0 0 [.ref 140, .int a, .int b] (WW σ) (QI (fun x _ => x = 1)) := by
  refine Sp_of_R [(some (.ref 140)), (some (.int a)), (some (.int b)), none, none, none] [none, none, none] rfl (by simp) rfl (Nat.le_of_ble_eq_true rfl) ?_
  refine R_aload_n (pc := 0) dX9_areSpans_0 rfl rfl ?_
  refine k_X9_162 (pc := 1) (fx_X9_findUnlike _ h0) rfl (c_140 _) (by decide) (Nat.le_refl _) (Nat.le_refl _) (Nat.le_of_ble_eq_true rfl) dX9_areSpans_1 (fun w2 h => ?_)
  subst h
  refine R_aload_n (pc := 4) dX9_areSpans_4 rfl rfl ?_
  refine R_aload_n (pc := 5) dX9_areSpans_5 rfl rfl ?_
  refine g_X9_54 (pc := 6) (v := .ref 152) rfl dX9_areSpans_6 (c_140 _) rfl ?_
  refine R_iconst (pc := 9) (v := 0) dX9_areSpans_9 (by decide) ?_
  refine R_iload_n (pc := 10) dX9_areSpans_10 rfl rfl ?_
  refine k_X9_165 (pc := 11) (fx_X9_findChains _ _ _ _ h0) rfl (c_140 _) (by decide) (Nat.le_refl _) (Nat.le_refl _) (Nat.le_of_ble_eq_true rfl) dX9_areSpans_11 (fun w2 h => ?_)
  subst h
  refine R_iconst (pc := 14) (v := 0) dX9_areSpans_14 (by decide) ?_
  refine st_6_3_i_i (pc := 15) dX9_areSpans_15 ?_
  have HL16 : ∀ (q j : Nat) (σ : Sg), j + q = 20 → σ.1 14000 = 0 → σ.1 14025 = 0 → R G l yX9_areSpans cX9_areSpans 6 (some .boolean) 4 0 0 (QI (fun x _ => x = 1)) 16 [(some (.ref 140)), (some (.int a)), (some (.int b)), (some (.int (nI j))), none, none] [] (WW σ) 0 0 := by
    intro q
    induction q with
    | zero =>
      intro j σ hj h0 h1
      obtain rfl : j = 20 := by omega
      refine R_iload_n (pc := 16) dX9_areSpans_16 rfl rfl ?_
      refine R_bipush (pc := 17) (v := 20) dX9_areSpans_17 (by decide) ?_
      refine R_icge (pc := 19) 60 dX9_areSpans_19 (by decide) (fun _ => ?_) (fun h => absurd (by decide) h)
      refine R_aload_n (pc := 60) dX9_areSpans_60 rfl rfl ?_
      refine R_iconst (pc := 61) (v := 1) dX9_areSpans_61 (by decide) ?_
      refine p_X9_204 (pc := 62) rfl dX9_areSpans_62 (c_140 _) (Nat.le_of_ble_eq_true rfl) rfl rfl (s_140_32 _ _) ?_
      refine R_aload_n (pc := 65) dX9_areSpans_65 rfl rfl ?_
      refine g_X9_204 (pc := 66) (v := .int 1) rfl dX9_areSpans_66 (c_140 _) rfl ?_
      refine R_ifeq (pc := 69) 211 dX9_areSpans_69 (by decide) (fun h => absurd h (by decide)) (fun _ => ?_)
      refine R_aload_n (pc := 72) dX9_areSpans_72 rfl rfl ?_
      refine R_iload_n (pc := 73) dX9_areSpans_73 rfl rfl ?_
      refine k_X9_221 (pc := 74) (fx_X9_isEmpty _ _ h0) rfl (c_140 _) (by decide) (Nat.le_refl _) (Nat.le_refl _) (Nat.le_of_ble_eq_true rfl) dX9_areSpans_74 (fun x w2 h => ?_)
      obtain ⟨rfl, rfl⟩ := h
      refine R_ifne (pc := 77) 211 dX9_areSpans_77 (by decide) (fun h => absurd (by decide) h) (fun _ => ?_)
      refine R_aload_n (pc := 80) dX9_areSpans_80 rfl rfl ?_
      refine R_iconst (pc := 81) (v := 0) dX9_areSpans_81 (by decide) ?_
      refine p_X9_204 (pc := 82) rfl dX9_areSpans_82 (c_140 _) (Nat.le_of_ble_eq_true rfl) rfl rfl (s_140_32 _ _) ?_
      refine R_iconst (pc := 85) (v := 0) dX9_areSpans_85 (by decide) ?_
      refine st_6_3_i_i (pc := 86) dX9_areSpans_86 ?_
      refine R_iload_n (pc := 87) dX9_areSpans_87 rfl rfl ?_
      refine R_aload_n (pc := 88) dX9_areSpans_88 rfl rfl ?_
      refine k_X9_120 (pc := 89) (fx_X9_thereMany _ h0) rfl (c_140 _) (by decide) (Nat.le_refl _) (Nat.le_refl _) (Nat.le_of_ble_eq_true rfl) dX9_areSpans_89 (fun x w2 h => ?_)
      obtain ⟨rfl, rfl⟩ := h
      refine R_icge (pc := 92) 112 dX9_areSpans_92 (by decide) (fun _ => ?_) (fun h => absurd (by decide) h)
      refine R_iconst (pc := 112) (v := 0) dX9_areSpans_112 (by decide) ?_
      refine st_6_3_i_i (pc := 113) dX9_areSpans_113 ?_
      refine R_iload_n (pc := 114) dX9_areSpans_114 rfl rfl ?_
      refine R_aload_n (pc := 115) dX9_areSpans_115 rfl rfl ?_
      refine g_X9_201 (pc := 116) (v := .int 0) rfl dX9_areSpans_116 (c_140 _) (by show some (Value.int (σ.1 14025)) = _; rw [h1]) ?_
      refine R_icge (pc := 119) 208 dX9_areSpans_119 (by decide) (fun _ => ?_) (fun h => absurd (by decide) h)
      refine R_goto (pc := 208) 65 dX9_areSpans_208 (by decide) ?_
      refine R_aload_n (pc := 65) dX9_areSpans_65 rfl rfl ?_
      refine g_X9_204 (pc := 66) (v := .int 0) rfl dX9_areSpans_66 (c_140 _) rfl ?_
      refine R_ifeq (pc := 69) 211 dX9_areSpans_69 (by decide) (fun _ => ?_) (fun h => absurd (by decide) h)
      refine R_aload_n (pc := 211) dX9_areSpans_211 rfl rfl ?_
      refine R_iload_n (pc := 212) dX9_areSpans_212 rfl rfl ?_
      refine k_X9_221 (pc := 213) (fx_X9_isEmpty _ _ h0) rfl (c_140 _) (by decide) (Nat.le_refl _) (Nat.le_refl _) (Nat.le_of_ble_eq_true rfl) dX9_areSpans_213 (fun x w2 h => ?_)
      obtain ⟨rfl, rfl⟩ := h
      refine R_ifne (pc := 216) 223 dX9_areSpans_216 (by decide) (fun h => absurd (by decide) h) (fun _ => ?_)
      refine R_iconst (pc := 219) (v := 1) dX9_areSpans_219 (by decide) ?_
      refine R_goto (pc := 220) 224 dX9_areSpans_220 (by decide) ?_
      exact R_iret (pc := 224) dX9_areSpans_224 rfl rfl (Nat.zero_le _) (Nat.zero_le _) ⟨_, rfl, rfl⟩
    | succ q ih =>
      intro j σ hj h0 h1
      have hlt : j < 20 := by omega
      refine R_iload_n (pc := 16) dX9_areSpans_16 rfl rfl ?_
      refine R_bipush (pc := 17) (v := 20) dX9_areSpans_17 (by decide) ?_
      refine R_icge (pc := 19) 60 dX9_areSpans_19 (by decide) (fun h => absurd h (nI_ge hlt (by decide))) (fun _ => ?_)
      refine R_aload_n (pc := 22) dX9_areSpans_22 rfl rfl ?_
      refine g_X9_87 (pc := 23) (v := .ref 163) rfl dX9_areSpans_23 (c_140 _) rfl ?_
      refine R_iload_n (pc := 26) dX9_areSpans_26 rfl rfl ?_
      refine R_iconst (pc := 27) (v := 0) dX9_areSpans_27 (by decide) ?_
      refine W_iastore (pc := 28) dX9_areSpans_28 (c_163 _) (vp_in_nI hlt (by decide)) (a_163 _ _) ?_
      refine R_aload_n (pc := 29) dX9_areSpans_29 rfl rfl ?_
      refine g_X9_90 (pc := 30) (v := .ref 164) rfl dX9_areSpans_30 (c_140 _) rfl ?_
      refine R_iload_n (pc := 33) dX9_areSpans_33 rfl rfl ?_
      refine R_sipush (pc := 34) (v := 20000) dX9_areSpans_34 (by decide) ?_
      refine W_iastore (pc := 37) dX9_areSpans_37 (c_164 _) (vp_in_nI hlt (by decide)) (a_164 _ _) ?_
      refine R_aload_n (pc := 38) dX9_areSpans_38 rfl rfl ?_
      refine g_X9_93 (pc := 39) (v := .ref 165) rfl dX9_areSpans_39 (c_140 _) rfl ?_
      refine R_iload_n (pc := 42) dX9_areSpans_42 rfl rfl ?_
      refine R_iconst (pc := 43) (v := 0) dX9_areSpans_43 (by decide) ?_
      refine W_iastore (pc := 44) dX9_areSpans_44 (c_165 _) (vp_in_nI hlt (by decide)) (a_165 _ _) ?_
      refine R_aload_n (pc := 45) dX9_areSpans_45 rfl rfl ?_
      refine g_X9_96 (pc := 46) (v := .ref 166) rfl dX9_areSpans_46 (c_140 _) rfl ?_
      refine R_iload_n (pc := 49) dX9_areSpans_49 rfl rfl ?_
      refine R_sipush (pc := 50) (v := 20000) dX9_areSpans_50 (by decide) ?_
      refine W_iastore (pc := 53) dX9_areSpans_53 (c_166 _) (vp_in_nI hlt (by decide)) (a_166 _ _) ?_
      refine inc_6_3_1_i (pc := 54) dX9_areSpans_54 ?_
      refine R_goto (pc := 57) 16 dX9_areSpans_57 (by decide) ?_
      rw [nI_1]
      exact ih (j + 1) _ (by omega) h0 h1
  exact HL16 20 0 _ (by omega) (by assumption) (by assumption)
theorem dX9_negative_0 : decode cX9_negative 0 = .ok (.aload_n 0, 1) := by decide +kernel
theorem dX9_negative_1 : decode cX9_negative 1 = .ok (.iload_n 1, 1) := by decide +kernel
theorem dX9_negative_2 : decode cX9_negative 2 = .ok (.invokevirtual 135, 3) := by decide +kernel
theorem dX9_negative_5 : decode cX9_negative 5 = .ok (.ifCond .ne 6, 3) := by decide +kernel
theorem dX9_negative_8 : decode cX9_negative 8 = .ok (.bipush (-2), 2) := by decide +kernel
theorem dX9_negative_10 : decode cX9_negative 10 = .ok (.ireturn, 1) := by decide +kernel
theorem dX9_negative_11 : decode cX9_negative 11 = .ok (.aload_n 0, 1) := by decide +kernel
theorem dX9_negative_12 : decode cX9_negative 12 = .ok (.invokevirtual 162, 3) := by decide +kernel
theorem dX9_negative_15 : decode cX9_negative 15 = .ok (.aload_n 0, 1) := by decide +kernel
theorem dX9_negative_16 : decode cX9_negative 16 = .ok (.aload_n 0, 1) := by decide +kernel
theorem dX9_negative_17 : decode cX9_negative 17 = .ok (.getfield 54, 3) := by decide +kernel
theorem dX9_negative_20 : decode cX9_negative 20 = .ok (.iconst 0, 1) := by decide +kernel
theorem dX9_negative_21 : decode cX9_negative 21 = .ok (.iconst (-1), 1) := by decide +kernel
theorem dX9_negative_22 : decode cX9_negative 22 = .ok (.invokevirtual 165, 3) := by decide +kernel
theorem dX9_negative_25 : decode cX9_negative 25 = .ok (.aload_n 0, 1) := by decide +kernel
theorem dX9_negative_26 : decode cX9_negative 26 = .ok (.getfield 54, 3) := by decide +kernel
theorem dX9_negative_29 : decode cX9_negative 29 = .ok (.iload_n 1, 1) := by decide +kernel
theorem dX9_negative_30 : decode cX9_negative 30 = .ok (.iaload, 1) := by decide +kernel
theorem dX9_negative_31 : decode cX9_negative 31 = .ok (.ireturn, 1) := by decide +kernel
set_option maxRecDepth 100000 in
set_option maxHeartbeats 40000000 in
theorem fm_negative {G : vG} {l : Launch} (τ : Sg) (c : Int32) : Sp G l yX9_negative cX9_negative 2 (some .int) 4 0 0 [.ref 140, .int c] (WW (mx τ)) (QI (fun x _ => x = -2)) := by
  refine Sp_of_R [(some (.ref 140)), (some (.int c))] [] rfl (by simp) rfl (Nat.le_of_ble_eq_true rfl) ?_
  refine R_aload_n (pc := 0) dX9_negative_0 rfl rfl ?_
  refine R_iload_n (pc := 1) dX9_negative_1 rfl rfl ?_
  refine k_X9_135 (pc := 2) (fx_X9_isThere _ _ rfl) rfl (c_140 _) (by decide) (Nat.le_refl _) (Nat.le_refl _) (Nat.le_of_ble_eq_true rfl) dX9_negative_2 (fun x w2 h => ?_)
  obtain ⟨rfl, rfl⟩ := h
  refine R_ifne (pc := 5) 11 dX9_negative_5 (by decide) (fun h => absurd (by decide) h) (fun _ => ?_)
  refine R_bipush (pc := 8) (v := (-2)) dX9_negative_8 (by decide) ?_
  exact R_iret (pc := 10) dX9_negative_10 rfl rfl (Nat.zero_le _) (Nat.zero_le _) ⟨_, rfl, rfl⟩
theorem dX9_far_0 : decode cX9_far 0 = .ok (.aload_n 0, 1) := by decide +kernel
theorem dX9_far_1 : decode cX9_far 1 = .ok (.iload_n 1, 1) := by decide +kernel
theorem dX9_far_2 : decode cX9_far 2 = .ok (.invokevirtual 135, 3) := by decide +kernel
theorem dX9_far_5 : decode cX9_far 5 = .ok (.ifCond .eq 20, 3) := by decide +kernel
theorem dX9_far_8 : decode cX9_far 8 = .ok (.aload_n 0, 1) := by decide +kernel
theorem dX9_far_9 : decode cX9_far 9 = .ok (.iload_n 2, 1) := by decide +kernel
theorem dX9_far_10 : decode cX9_far 10 = .ok (.invokevirtual 135, 3) := by decide +kernel
theorem dX9_far_13 : decode cX9_far 13 = .ok (.ifCond .eq 12, 3) := by decide +kernel
theorem dX9_far_16 : decode cX9_far 16 = .ok (.aload_n 0, 1) := by decide +kernel
theorem dX9_far_17 : decode cX9_far 17 = .ok (.iload_n 1, 1) := by decide +kernel
theorem dX9_far_18 : decode cX9_far 18 = .ok (.iload_n 2, 1) := by decide +kernel
theorem dX9_far_19 : decode cX9_far 19 = .ok (.invokevirtual 152, 3) := by decide +kernel
theorem dX9_far_22 : decode cX9_far 22 = .ok (.goto 5, 3) := by decide +kernel
theorem dX9_far_25 : decode cX9_far 25 = .ok (.bipush (-2), 2) := by decide +kernel
theorem dX9_far_27 : decode cX9_far 27 = .ok (.ireturn, 1) := by decide +kernel
set_option maxRecDepth 100000 in
set_option maxHeartbeats 40000000 in
theorem fm_far {G : vG} {l : Launch} (τ : Sg) (a b : Int32) : Sp G l yX9_far cX9_far 3 (some .int) 2 0 0 [.ref 140, .int a, .int b] (WW (mx τ)) (QI (fun x _ => x = -2)) := by
  refine Sp_of_R [(some (.ref 140)), (some (.int a)), (some (.int b))] [] rfl (by simp) rfl (Nat.le_of_ble_eq_true rfl) ?_
  refine R_aload_n (pc := 0) dX9_far_0 rfl rfl ?_
  refine R_iload_n (pc := 1) dX9_far_1 rfl rfl ?_
  refine k_X9_135 (pc := 2) (fx_X9_isThere _ _ rfl) rfl (c_140 _) (by decide) (Nat.le_refl _) (Nat.le_refl _) (Nat.le_of_ble_eq_true rfl) dX9_far_2 (fun x w2 h => ?_)
  obtain ⟨rfl, rfl⟩ := h
  refine R_ifeq (pc := 5) 25 dX9_far_5 (by decide) (fun _ => ?_) (fun h => absurd (by decide) h)
  refine R_bipush (pc := 25) (v := (-2)) dX9_far_25 (by decide) ?_
  exact R_iret (pc := 27) dX9_far_27 rfl rfl (Nat.zero_le _) (Nat.zero_le _) ⟨_, rfl, rfl⟩
theorem dX9_difference_0 : decode cX9_difference 0 = .ok (.aload_n 0, 1) := by decide +kernel
theorem dX9_difference_1 : decode cX9_difference 1 = .ok (.iload_n 1, 1) := by decide +kernel
theorem dX9_difference_2 : decode cX9_difference 2 = .ok (.invokevirtual 135, 3) := by decide +kernel
theorem dX9_difference_5 : decode cX9_difference 5 = .ok (.ifCond .eq 16, 3) := by decide +kernel
theorem dX9_difference_8 : decode cX9_difference 8 = .ok (.aload_n 0, 1) := by decide +kernel
theorem dX9_difference_9 : decode cX9_difference 9 = .ok (.iload_n 2, 1) := by decide +kernel
theorem dX9_difference_10 : decode cX9_difference 10 = .ok (.invokevirtual 135, 3) := by decide +kernel
theorem dX9_difference_13 : decode cX9_difference 13 = .ok (.ifCond .eq 8, 3) := by decide +kernel
theorem dX9_difference_16 : decode cX9_difference 16 = .ok (.iload_n 1, 1) := by decide +kernel
theorem dX9_difference_17 : decode cX9_difference 17 = .ok (.iload_n 2, 1) := by decide +kernel
theorem dX9_difference_18 : decode cX9_difference 18 = .ok (.if_icmp .ne 6, 3) := by decide +kernel
theorem dX9_difference_21 : decode cX9_difference 21 = .ok (.bipush (-2), 2) := by decide +kernel
theorem dX9_difference_23 : decode cX9_difference 23 = .ok (.ireturn, 1) := by decide +kernel
theorem dX9_difference_24 : decode cX9_difference 24 = .ok (.aload_n 0, 1) := by decide +kernel
theorem dX9_difference_25 : decode cX9_difference 25 = .ok (.iload_n 1, 1) := by decide +kernel
theorem dX9_difference_26 : decode cX9_difference 26 = .ok (.iload_n 2, 1) := by decide +kernel
theorem dX9_difference_27 : decode cX9_difference 27 = .ok (.invokevirtual 148, 3) := by decide +kernel
theorem dX9_difference_30 : decode cX9_difference 30 = .ok (.ireturn, 1) := by decide +kernel
set_option maxRecDepth 100000 in
set_option maxHeartbeats 40000000 in
theorem fm_difference {G : vG} {l : Launch} (τ : Sg) (a b : Int32) : Sp G l yX9_difference cX9_difference 3 (some .int) 3 0 0 [.ref 140, .int a, .int b] (WW (mx τ)) (QI (fun x _ => x = -2)) := by
  refine Sp_of_R [(some (.ref 140)), (some (.int a)), (some (.int b))] [] rfl (by simp) rfl (Nat.le_of_ble_eq_true rfl) ?_
  refine R_aload_n (pc := 0) dX9_difference_0 rfl rfl ?_
  refine R_iload_n (pc := 1) dX9_difference_1 rfl rfl ?_
  refine k_X9_135 (pc := 2) (fx_X9_isThere _ _ rfl) rfl (c_140 _) (by decide) (Nat.le_refl _) (Nat.le_refl _) (Nat.le_of_ble_eq_true rfl) dX9_difference_2 (fun x w2 h => ?_)
  obtain ⟨rfl, rfl⟩ := h
  refine R_ifeq (pc := 5) 21 dX9_difference_5 (by decide) (fun _ => ?_) (fun h => absurd (by decide) h)
  refine R_bipush (pc := 21) (v := (-2)) dX9_difference_21 (by decide) ?_
  exact R_iret (pc := 23) dX9_difference_23 rfl rfl (Nat.zero_le _) (Nat.zero_le _) ⟨_, rfl, rfl⟩
theorem dX9_match_0 : decode cX9_match 0 = .ok (.aload_n 0, 1) := by decide +kernel
theorem dX9_match_1 : decode cX9_match 1 = .ok (.iload_n 1, 1) := by decide +kernel
theorem dX9_match_2 : decode cX9_match 2 = .ok (.invokevirtual 135, 3) := by decide +kernel
theorem dX9_match_5 : decode cX9_match 5 = .ok (.ifCond .eq 16, 3) := by decide +kernel
theorem dX9_match_8 : decode cX9_match 8 = .ok (.aload_n 0, 1) := by decide +kernel
theorem dX9_match_9 : decode cX9_match 9 = .ok (.iload_n 2, 1) := by decide +kernel
theorem dX9_match_10 : decode cX9_match 10 = .ok (.invokevirtual 135, 3) := by decide +kernel
theorem dX9_match_13 : decode cX9_match 13 = .ok (.ifCond .eq 8, 3) := by decide +kernel
theorem dX9_match_16 : decode cX9_match 16 = .ok (.iload_n 1, 1) := by decide +kernel
theorem dX9_match_17 : decode cX9_match 17 = .ok (.iload_n 2, 1) := by decide +kernel
theorem dX9_match_18 : decode cX9_match 18 = .ok (.if_icmp .ne 6, 3) := by decide +kernel
theorem dX9_match_21 : decode cX9_match 21 = .ok (.bipush (-2), 2) := by decide +kernel
theorem dX9_match_23 : decode cX9_match 23 = .ok (.ireturn, 1) := by decide +kernel
theorem dX9_match_24 : decode cX9_match 24 = .ok (.aload_n 0, 1) := by decide +kernel
theorem dX9_match_25 : decode cX9_match 25 = .ok (.invokevirtual 162, 3) := by decide +kernel
theorem dX9_match_28 : decode cX9_match 28 = .ok (.aload_n 0, 1) := by decide +kernel
theorem dX9_match_29 : decode cX9_match 29 = .ok (.iload_n 1, 1) := by decide +kernel
theorem dX9_match_30 : decode cX9_match 30 = .ok (.iload_n 2, 1) := by decide +kernel
theorem dX9_match_31 : decode cX9_match 31 = .ok (.invokevirtual 159, 3) := by decide +kernel
theorem dX9_match_34 : decode cX9_match 34 = .ok (.ifCond .eq 7, 3) := by decide +kernel
theorem dX9_match_37 : decode cX9_match 37 = .ok (.iconst 1, 1) := by decide +kernel
theorem dX9_match_38 : decode cX9_match 38 = .ok (.goto 4, 3) := by decide +kernel
theorem dX9_match_41 : decode cX9_match 41 = .ok (.iconst 0, 1) := by decide +kernel
theorem dX9_match_42 : decode cX9_match 42 = .ok (.ireturn, 1) := by decide +kernel
set_option maxRecDepth 100000 in
set_option maxHeartbeats 40000000 in
theorem fm_match {G : vG} {l : Launch} (τ : Sg) (a b : Int32) : Sp G l yX9_match cX9_match 3 (some .int) 4 0 0 [.ref 140, .int a, .int b] (WW (mx τ)) (QI (fun x _ => x = -2)) := by
  refine Sp_of_R [(some (.ref 140)), (some (.int a)), (some (.int b))] [] rfl (by simp) rfl (Nat.le_of_ble_eq_true rfl) ?_
  refine R_aload_n (pc := 0) dX9_match_0 rfl rfl ?_
  refine R_iload_n (pc := 1) dX9_match_1 rfl rfl ?_
  refine k_X9_135 (pc := 2) (fx_X9_isThere _ _ rfl) rfl (c_140 _) (by decide) (Nat.le_refl _) (Nat.le_refl _) (Nat.le_of_ble_eq_true rfl) dX9_match_2 (fun x w2 h => ?_)
  obtain ⟨rfl, rfl⟩ := h
  refine R_ifeq (pc := 5) 21 dX9_match_5 (by decide) (fun _ => ?_) (fun h => absurd (by decide) h)
  refine R_bipush (pc := 21) (v := (-2)) dX9_match_21 (by decide) ?_
  exact R_iret (pc := 23) dX9_match_23 rfl rfl (Nat.zero_le _) (Nat.zero_le _) ⟨_, rfl, rfl⟩
theorem dX9_of_0 : decode cX9_of 0 = .ok (.aload_n 0, 1) := by decide +kernel
theorem dX9_of_1 : decode cX9_of 1 = .ok (.iload_n 1, 1) := by decide +kernel
theorem dX9_of_2 : decode cX9_of 2 = .ok (.invokevirtual 135, 3) := by decide +kernel
theorem dX9_of_5 : decode cX9_of 5 = .ok (.ifCond .ne 6, 3) := by decide +kernel
theorem dX9_of_8 : decode cX9_of 8 = .ok (.bipush (-2), 2) := by decide +kernel
theorem dX9_of_10 : decode cX9_of 10 = .ok (.ireturn, 1) := by decide +kernel
theorem dX9_of_11 : decode cX9_of 11 = .ok (.iload_n 2, 1) := by decide +kernel
theorem dX9_of_12 : decode cX9_of 12 = .ok (.iconst 0, 1) := by decide +kernel
theorem dX9_of_13 : decode cX9_of 13 = .ok (.iconst 4, 1) := by decide +kernel
theorem dX9_of_14 : decode cX9_of 14 = .ok (.invokestatic 124, 3) := by decide +kernel
theorem dX9_of_17 : decode cX9_of 17 = .ok (.ifCond .ne 6, 3) := by decide +kernel
theorem dX9_of_20 : decode cX9_of 20 = .ok (.bipush (-3), 2) := by decide +kernel
theorem dX9_of_22 : decode cX9_of 22 = .ok (.ireturn, 1) := by decide +kernel
theorem dX9_of_23 : decode cX9_of 23 = .ok (.aload_n 0, 1) := by decide +kernel
theorem dX9_of_24 : decode cX9_of 24 = .ok (.invokevirtual 162, 3) := by decide +kernel
theorem dX9_of_27 : decode cX9_of 27 = .ok (.aload_n 0, 1) := by decide +kernel
theorem dX9_of_28 : decode cX9_of 28 = .ok (.aload_n 0, 1) := by decide +kernel
theorem dX9_of_29 : decode cX9_of 29 = .ok (.getfield 57, 3) := by decide +kernel
theorem dX9_of_32 : decode cX9_of 32 = .ok (.iconst 1, 1) := by decide +kernel
theorem dX9_of_33 : decode cX9_of 33 = .ok (.iconst (-1), 1) := by decide +kernel
theorem dX9_of_34 : decode cX9_of 34 = .ok (.invokevirtual 165, 3) := by decide +kernel
theorem dX9_of_37 : decode cX9_of 37 = .ok (.aload_n 0, 1) := by decide +kernel
theorem dX9_of_38 : decode cX9_of 38 = .ok (.aload_n 0, 1) := by decide +kernel
theorem dX9_of_39 : decode cX9_of 39 = .ok (.getfield 54, 3) := by decide +kernel
theorem dX9_of_42 : decode cX9_of 42 = .ok (.iconst 0, 1) := by decide +kernel
theorem dX9_of_43 : decode cX9_of 43 = .ok (.iconst (-1), 1) := by decide +kernel
theorem dX9_of_44 : decode cX9_of 44 = .ok (.invokevirtual 165, 3) := by decide +kernel
theorem dX9_of_47 : decode cX9_of 47 = .ok (.iload_n 2, 1) := by decide +kernel
theorem dX9_of_48 : decode cX9_of 48 = .ok (.iconst 4, 1) := by decide +kernel
theorem dX9_of_49 : decode cX9_of 49 = .ok (.if_icmp .ne 60, 3) := by decide +kernel
theorem dX9_of_52 : decode cX9_of 52 = .ok (.iconst 0, 1) := by decide +kernel
theorem dX9_of_53 : decode cX9_of 53 = .ok (.istore_n 3, 1) := by decide +kernel
theorem dX9_of_54 : decode cX9_of 54 = .ok (.iconst 0, 1) := by decide +kernel
theorem dX9_of_55 : decode cX9_of 55 = .ok (.istore 4, 2) := by decide +kernel
theorem dX9_of_57 : decode cX9_of 57 = .ok (.iload 4, 2) := by decide +kernel
theorem dX9_of_59 : decode cX9_of 59 = .ok (.aload_n 0, 1) := by decide +kernel
theorem dX9_of_60 : decode cX9_of 60 = .ok (.invokevirtual 120, 3) := by decide +kernel
theorem dX9_of_63 : decode cX9_of 63 = .ok (.if_icmp .ge 41, 3) := by decide +kernel
theorem dX9_of_66 : decode cX9_of 66 = .ok (.iload_n 3, 1) := by decide +kernel
theorem dX9_of_67 : decode cX9_of 67 = .ok (.aload_n 0, 1) := by decide +kernel
theorem dX9_of_68 : decode cX9_of 68 = .ok (.getfield 54, 3) := by decide +kernel
theorem dX9_of_71 : decode cX9_of 71 = .ok (.iload 4, 2) := by decide +kernel
theorem dX9_of_73 : decode cX9_of 73 = .ok (.iaload, 1) := by decide +kernel
theorem dX9_of_74 : decode cX9_of 74 = .ok (.aload_n 0, 1) := by decide +kernel
theorem dX9_of_75 : decode cX9_of 75 = .ok (.getfield 54, 3) := by decide +kernel
theorem dX9_of_78 : decode cX9_of 78 = .ok (.iload_n 1, 1) := by decide +kernel
theorem dX9_of_79 : decode cX9_of 79 = .ok (.iaload, 1) := by decide +kernel
theorem dX9_of_80 : decode cX9_of 80 = .ok (.if_icmp .ne 15, 3) := by decide +kernel
theorem dX9_of_83 : decode cX9_of 83 = .ok (.iconst 1, 1) := by decide +kernel
theorem dX9_of_84 : decode cX9_of 84 = .ok (.aload_n 0, 1) := by decide +kernel
theorem dX9_of_85 : decode cX9_of 85 = .ok (.getfield 13, 3) := by decide +kernel
theorem dX9_of_88 : decode cX9_of 88 = .ok (.iload 4, 2) := by decide +kernel
theorem dX9_of_90 : decode cX9_of 90 = .ok (.iaload, 1) := by decide +kernel
theorem dX9_of_91 : decode cX9_of 91 = .ok (.ishl, 1) := by decide +kernel
theorem dX9_of_92 : decode cX9_of 92 = .ok (.goto 4, 3) := by decide +kernel
theorem dX9_of_95 : decode cX9_of 95 = .ok (.iconst 0, 1) := by decide +kernel
theorem dX9_of_96 : decode cX9_of 96 = .ok (.ior, 1) := by decide +kernel
theorem dX9_of_97 : decode cX9_of 97 = .ok (.istore_n 3, 1) := by decide +kernel
theorem dX9_of_98 : decode cX9_of 98 = .ok (.iinc 4 1, 3) := by decide +kernel
theorem dX9_of_101 : decode cX9_of 101 = .ok (.goto (-44), 3) := by decide +kernel
theorem dX9_of_104 : decode cX9_of 104 = .ok (.iload_n 3, 1) := by decide +kernel
theorem dX9_of_105 : decode cX9_of 105 = .ok (.invokestatic 173, 3) := by decide +kernel
theorem dX9_of_108 : decode cX9_of 108 = .ok (.ireturn, 1) := by decide +kernel
theorem dX9_of_109 : decode cX9_of 109 = .ok (.iload_n 2, 1) := by decide +kernel
theorem dX9_of_110 : decode cX9_of 110 = .ok (.ifCond .ne 12, 3) := by decide +kernel
theorem dX9_of_113 : decode cX9_of 113 = .ok (.aload_n 0, 1) := by decide +kernel
theorem dX9_of_114 : decode cX9_of 114 = .ok (.getfield 57, 3) := by decide +kernel
theorem dX9_of_117 : decode cX9_of 117 = .ok (.iload_n 1, 1) := by decide +kernel
theorem dX9_of_118 : decode cX9_of 118 = .ok (.iaload, 1) := by decide +kernel
theorem dX9_of_119 : decode cX9_of 119 = .ok (.goto 42, 3) := by decide +kernel
theorem dX9_of_122 : decode cX9_of 122 = .ok (.iload_n 2, 1) := by decide +kernel
theorem dX9_of_123 : decode cX9_of 123 = .ok (.iconst 1, 1) := by decide +kernel
theorem dX9_of_124 : decode cX9_of 124 = .ok (.if_icmp .ne 19, 3) := by decide +kernel
theorem dX9_of_127 : decode cX9_of 127 = .ok (.aload_n 0, 1) := by decide +kernel
theorem dX9_of_128 : decode cX9_of 128 = .ok (.aload_n 0, 1) := by decide +kernel
theorem dX9_of_129 : decode cX9_of 129 = .ok (.getfield 57, 3) := by decide +kernel
theorem dX9_of_132 : decode cX9_of 132 = .ok (.iload_n 1, 1) := by decide +kernel
theorem dX9_of_133 : decode cX9_of 133 = .ok (.iaload, 1) := by decide +kernel
theorem dX9_of_134 : decode cX9_of 134 = .ok (.invokevirtual 169, 3) := by decide +kernel
theorem dX9_of_137 : decode cX9_of 137 = .ok (.invokestatic 173, 3) := by decide +kernel
theorem dX9_of_140 : decode cX9_of 140 = .ok (.goto 21, 3) := by decide +kernel
theorem dX9_of_143 : decode cX9_of 143 = .ok (.iload_n 2, 1) := by decide +kernel
theorem dX9_of_144 : decode cX9_of 144 = .ok (.iconst 2, 1) := by decide +kernel
theorem dX9_of_145 : decode cX9_of 145 = .ok (.if_icmp .ne 11, 3) := by decide +kernel
theorem dX9_of_148 : decode cX9_of 148 = .ok (.aload_n 0, 1) := by decide +kernel
theorem dX9_of_149 : decode cX9_of 149 = .ok (.iload_n 1, 1) := by decide +kernel
theorem dX9_of_150 : decode cX9_of 150 = .ok (.invokevirtual 179, 3) := by decide +kernel
theorem dX9_of_153 : decode cX9_of 153 = .ok (.goto 8, 3) := by decide +kernel
theorem dX9_of_156 : decode cX9_of 156 = .ok (.aload_n 0, 1) := by decide +kernel
theorem dX9_of_157 : decode cX9_of 157 = .ok (.iload_n 1, 1) := by decide +kernel
theorem dX9_of_158 : decode cX9_of 158 = .ok (.invokevirtual 182, 3) := by decide +kernel
theorem dX9_of_161 : decode cX9_of 161 = .ok (.ireturn, 1) := by decide +kernel
set_option maxRecDepth 100000 in
set_option maxHeartbeats 40000000 in
theorem fm_of {G : vG} {l : Launch} (τ : Sg) (a b : Int32) : Sp G l yX9_of cX9_of 5 (some .int) 5 0 0 [.ref 140, .int a, .int b] (WW (mx τ)) (QI (fun x _ => x = -2)) := by
  refine Sp_of_R [(some (.ref 140)), (some (.int a)), (some (.int b)), none, none] [none, none] rfl (by simp) rfl (Nat.le_of_ble_eq_true rfl) ?_
  refine R_aload_n (pc := 0) dX9_of_0 rfl rfl ?_
  refine R_iload_n (pc := 1) dX9_of_1 rfl rfl ?_
  refine k_X9_135 (pc := 2) (fx_X9_isThere _ _ rfl) rfl (c_140 _) (by decide) (Nat.le_refl _) (Nat.le_refl _) (Nat.le_of_ble_eq_true rfl) dX9_of_2 (fun x w2 h => ?_)
  obtain ⟨rfl, rfl⟩ := h
  refine R_ifne (pc := 5) 11 dX9_of_5 (by decide) (fun h => absurd (by decide) h) (fun _ => ?_)
  refine R_bipush (pc := 8) (v := (-2)) dX9_of_8 (by decide) ?_
  exact R_iret (pc := 10) dX9_of_10 rfl rfl (Nat.zero_le _) (Nat.zero_le _) ⟨_, rfl, rfl⟩
theorem dX9_shows_0 : decode cX9_shows 0 = .ok (.aload_n 0, 1) := by decide +kernel
theorem dX9_shows_1 : decode cX9_shows 1 = .ok (.iload_n 1, 1) := by decide +kernel
theorem dX9_shows_2 : decode cX9_shows 2 = .ok (.invokevirtual 135, 3) := by decide +kernel
theorem dX9_shows_5 : decode cX9_shows 5 = .ok (.ifCond .eq 13, 3) := by decide +kernel
theorem dX9_shows_8 : decode cX9_shows 8 = .ok (.iload_n 2, 1) := by decide +kernel
theorem dX9_shows_9 : decode cX9_shows 9 = .ok (.iconst 0, 1) := by decide +kernel
theorem dX9_shows_10 : decode cX9_shows 10 = .ok (.bipush 7, 2) := by decide +kernel
theorem dX9_shows_12 : decode cX9_shows 12 = .ok (.invokestatic 124, 3) := by decide +kernel
theorem dX9_shows_15 : decode cX9_shows 15 = .ok (.ifCond .ne 6, 3) := by decide +kernel
theorem dX9_shows_18 : decode cX9_shows 18 = .ok (.bipush (-2), 2) := by decide +kernel
theorem dX9_shows_20 : decode cX9_shows 20 = .ok (.ireturn, 1) := by decide +kernel
theorem dX9_shows_21 : decode cX9_shows 21 = .ok (.iload_n 3, 1) := by decide +kernel
theorem dX9_shows_22 : decode cX9_shows 22 = .ok (.iconst 0, 1) := by decide +kernel
theorem dX9_shows_23 : decode cX9_shows 23 = .ok (.iconst 2, 1) := by decide +kernel
theorem dX9_shows_24 : decode cX9_shows 24 = .ok (.invokestatic 124, 3) := by decide +kernel
theorem dX9_shows_27 : decode cX9_shows 27 = .ok (.ifCond .ne 6, 3) := by decide +kernel
theorem dX9_shows_30 : decode cX9_shows 30 = .ok (.bipush (-3), 2) := by decide +kernel
theorem dX9_shows_32 : decode cX9_shows 32 = .ok (.ireturn, 1) := by decide +kernel
theorem dX9_shows_33 : decode cX9_shows 33 = .ok (.aload_n 0, 1) := by decide +kernel
theorem dX9_shows_34 : decode cX9_shows 34 = .ok (.getfield 72, 3) := by decide +kernel
theorem dX9_shows_37 : decode cX9_shows 37 = .ok (.bipush 8, 2) := by decide +kernel
theorem dX9_shows_39 : decode cX9_shows 39 = .ok (.iload_n 1, 1) := by decide +kernel
theorem dX9_shows_40 : decode cX9_shows 40 = .ok (.imul, 1) := by decide +kernel
theorem dX9_shows_41 : decode cX9_shows 41 = .ok (.iload_n 2, 1) := by decide +kernel
theorem dX9_shows_42 : decode cX9_shows 42 = .ok (.iadd, 1) := by decide +kernel
theorem dX9_shows_43 : decode cX9_shows 43 = .ok (.iaload, 1) := by decide +kernel
theorem dX9_shows_44 : decode cX9_shows 44 = .ok (.istore 4, 2) := by decide +kernel
theorem dX9_shows_46 : decode cX9_shows 46 = .ok (.aload_n 0, 1) := by decide +kernel
theorem dX9_shows_47 : decode cX9_shows 47 = .ok (.getfield 72, 3) := by decide +kernel
theorem dX9_shows_50 : decode cX9_shows 50 = .ok (.bipush 8, 2) := by decide +kernel
theorem dX9_shows_52 : decode cX9_shows 52 = .ok (.iload_n 1, 1) := by decide +kernel
theorem dX9_shows_53 : decode cX9_shows 53 = .ok (.imul, 1) := by decide +kernel
theorem dX9_shows_54 : decode cX9_shows 54 = .ok (.iload_n 2, 1) := by decide +kernel
theorem dX9_shows_55 : decode cX9_shows 55 = .ok (.iadd, 1) := by decide +kernel
theorem dX9_shows_56 : decode cX9_shows 56 = .ok (.iload_n 3, 1) := by decide +kernel
theorem dX9_shows_57 : decode cX9_shows 57 = .ok (.iastore, 1) := by decide +kernel
theorem dX9_shows_58 : decode cX9_shows 58 = .ok (.iload 4, 2) := by decide +kernel
theorem dX9_shows_60 : decode cX9_shows 60 = .ok (.ireturn, 1) := by decide +kernel
set_option maxRecDepth 100000 in
set_option maxHeartbeats 40000000 in
theorem fm_shows {G : vG} {l : Launch} (τ : Sg) (a b c : Int32) : Sp G l yX9_shows cX9_shows 5 (some .int) 2 0 0 [.ref 140, .int a, .int b, .int c] (WW (mx τ)) (QI (fun x _ => x = -2)) := by
  refine Sp_of_R [(some (.ref 140)), (some (.int a)), (some (.int b)), (some (.int c)), none] [none] rfl (by simp) rfl (Nat.le_of_ble_eq_true rfl) ?_
  refine R_aload_n (pc := 0) dX9_shows_0 rfl rfl ?_
  refine R_iload_n (pc := 1) dX9_shows_1 rfl rfl ?_
  refine k_X9_135 (pc := 2) (fx_X9_isThere _ _ rfl) rfl (c_140 _) (by decide) (Nat.le_refl _) (Nat.le_refl _) (Nat.le_of_ble_eq_true rfl) dX9_shows_2 (fun x w2 h => ?_)
  obtain ⟨rfl, rfl⟩ := h
  refine R_ifeq (pc := 5) 18 dX9_shows_5 (by decide) (fun _ => ?_) (fun h => absurd (by decide) h)
  refine R_bipush (pc := 18) (v := (-2)) dX9_shows_18 (by decide) ?_
  exact R_iret (pc := 20) dX9_shows_20 rfl rfl (Nat.zero_le _) (Nat.zero_le _) ⟨_, rfl, rfl⟩
theorem dX9_later_0 : decode cX9_later 0 = .ok (.aload_n 0, 1) := by decide +kernel
theorem dX9_later_1 : decode cX9_later 1 = .ok (.iload_n 1, 1) := by decide +kernel
theorem dX9_later_2 : decode cX9_later 2 = .ok (.invokevirtual 135, 3) := by decide +kernel
theorem dX9_later_5 : decode cX9_later 5 = .ok (.ifCond .eq 16, 3) := by decide +kernel
theorem dX9_later_8 : decode cX9_later 8 = .ok (.aload_n 0, 1) := by decide +kernel
theorem dX9_later_9 : decode cX9_later 9 = .ok (.iload_n 2, 1) := by decide +kernel
theorem dX9_later_10 : decode cX9_later 10 = .ok (.invokevirtual 135, 3) := by decide +kernel
theorem dX9_later_13 : decode cX9_later 13 = .ok (.ifCond .eq 8, 3) := by decide +kernel
theorem dX9_later_16 : decode cX9_later 16 = .ok (.iload_n 1, 1) := by decide +kernel
theorem dX9_later_17 : decode cX9_later 17 = .ok (.iload_n 2, 1) := by decide +kernel
theorem dX9_later_18 : decode cX9_later 18 = .ok (.if_icmp .ne 6, 3) := by decide +kernel
theorem dX9_later_21 : decode cX9_later 21 = .ok (.bipush (-2), 2) := by decide +kernel
theorem dX9_later_23 : decode cX9_later 23 = .ok (.ireturn, 1) := by decide +kernel
theorem dX9_later_24 : decode cX9_later 24 = .ok (.aload_n 0, 1) := by decide +kernel
theorem dX9_later_25 : decode cX9_later 25 = .ok (.getfield 201, 3) := by decide +kernel
theorem dX9_later_28 : decode cX9_later 28 = .ok (.bipush 12, 2) := by decide +kernel
theorem dX9_later_30 : decode cX9_later 30 = .ok (.if_icmp .ne 6, 3) := by decide +kernel
theorem dX9_later_33 : decode cX9_later 33 = .ok (.bipush (-5), 2) := by decide +kernel
theorem dX9_later_35 : decode cX9_later 35 = .ok (.ireturn, 1) := by decide +kernel
theorem dX9_later_36 : decode cX9_later 36 = .ok (.aload_n 0, 1) := by decide +kernel
theorem dX9_later_37 : decode cX9_later 37 = .ok (.getfield 81, 3) := by decide +kernel
theorem dX9_later_40 : decode cX9_later 40 = .ok (.aload_n 0, 1) := by decide +kernel
theorem dX9_later_41 : decode cX9_later 41 = .ok (.getfield 201, 3) := by decide +kernel
theorem dX9_later_44 : decode cX9_later 44 = .ok (.iload_n 1, 1) := by decide +kernel
theorem dX9_later_45 : decode cX9_later 45 = .ok (.iastore, 1) := by decide +kernel
theorem dX9_later_46 : decode cX9_later 46 = .ok (.aload_n 0, 1) := by decide +kernel
theorem dX9_later_47 : decode cX9_later 47 = .ok (.getfield 84, 3) := by decide +kernel
theorem dX9_later_50 : decode cX9_later 50 = .ok (.aload_n 0, 1) := by decide +kernel
theorem dX9_later_51 : decode cX9_later 51 = .ok (.getfield 201, 3) := by decide +kernel
theorem dX9_later_54 : decode cX9_later 54 = .ok (.iload_n 2, 1) := by decide +kernel
theorem dX9_later_55 : decode cX9_later 55 = .ok (.iastore, 1) := by decide +kernel
theorem dX9_later_56 : decode cX9_later 56 = .ok (.aload_n 0, 1) := by decide +kernel
theorem dX9_later_57 : decode cX9_later 57 = .ok (.dup, 1) := by decide +kernel
theorem dX9_later_58 : decode cX9_later 58 = .ok (.getfield 201, 3) := by decide +kernel
theorem dX9_later_61 : decode cX9_later 61 = .ok (.iconst 1, 1) := by decide +kernel
theorem dX9_later_62 : decode cX9_later 62 = .ok (.iadd, 1) := by decide +kernel
theorem dX9_later_63 : decode cX9_later 63 = .ok (.putfield 201, 3) := by decide +kernel
theorem dX9_later_66 : decode cX9_later 66 = .ok (.aload_n 0, 1) := by decide +kernel
theorem dX9_later_67 : decode cX9_later 67 = .ok (.getfield 201, 3) := by decide +kernel
theorem dX9_later_70 : decode cX9_later 70 = .ok (.ireturn, 1) := by decide +kernel
set_option maxRecDepth 100000 in
set_option maxHeartbeats 40000000 in
theorem fm_later {G : vG} {l : Launch} (τ : Sg) (a b : Int32) : Sp G l yX9_later cX9_later 3 (some .int) 2 0 0 [.ref 140, .int a, .int b] (WW (mx τ)) (QI (fun x _ => x = -2)) := by
  refine Sp_of_R [(some (.ref 140)), (some (.int a)), (some (.int b))] [] rfl (by simp) rfl (Nat.le_of_ble_eq_true rfl) ?_
  refine R_aload_n (pc := 0) dX9_later_0 rfl rfl ?_
  refine R_iload_n (pc := 1) dX9_later_1 rfl rfl ?_
  refine k_X9_135 (pc := 2) (fx_X9_isThere _ _ rfl) rfl (c_140 _) (by decide) (Nat.le_refl _) (Nat.le_refl _) (Nat.le_of_ble_eq_true rfl) dX9_later_2 (fun x w2 h => ?_)
  obtain ⟨rfl, rfl⟩ := h
  refine R_ifeq (pc := 5) 21 dX9_later_5 (by decide) (fun _ => ?_) (fun h => absurd (by decide) h)
  refine R_bipush (pc := 21) (v := (-2)) dX9_later_21 (by decide) ?_
  exact R_iret (pc := 23) dX9_later_23 rfl rfl (Nat.zero_le _) (Nat.zero_le _) ⟨_, rfl, rfl⟩
theorem dX9_span_0 : decode cX9_span 0 = .ok (.aload_n 0, 1) := by decide +kernel
theorem dX9_span_1 : decode cX9_span 1 = .ok (.iload_n 1, 1) := by decide +kernel
theorem dX9_span_2 : decode cX9_span 2 = .ok (.invokevirtual 135, 3) := by decide +kernel
theorem dX9_span_5 : decode cX9_span 5 = .ok (.ifCond .ne 6, 3) := by decide +kernel
theorem dX9_span_8 : decode cX9_span 8 = .ok (.bipush (-2), 2) := by decide +kernel
theorem dX9_span_10 : decode cX9_span 10 = .ok (.ireturn, 1) := by decide +kernel
theorem dX9_span_11 : decode cX9_span 11 = .ok (.iload_n 2, 1) := by decide +kernel
theorem dX9_span_12 : decode cX9_span 12 = .ok (.iconst 0, 1) := by decide +kernel
theorem dX9_span_13 : decode cX9_span 13 = .ok (.iconst 1, 1) := by decide +kernel
theorem dX9_span_14 : decode cX9_span 14 = .ok (.invokestatic 124, 3) := by decide +kernel
theorem dX9_span_17 : decode cX9_span 17 = .ok (.ifCond .eq 12, 3) := by decide +kernel
theorem dX9_span_20 : decode cX9_span 20 = .ok (.iload_n 3, 1) := by decide +kernel
theorem dX9_span_21 : decode cX9_span 21 = .ok (.iconst 0, 1) := by decide +kernel
theorem dX9_span_22 : decode cX9_span 22 = .ok (.iconst 1, 1) := by decide +kernel
theorem dX9_span_23 : decode cX9_span 23 = .ok (.invokestatic 124, 3) := by decide +kernel
theorem dX9_span_26 : decode cX9_span 26 = .ok (.ifCond .ne 6, 3) := by decide +kernel
theorem dX9_span_29 : decode cX9_span 29 = .ok (.bipush (-3), 2) := by decide +kernel
theorem dX9_span_31 : decode cX9_span 31 = .ok (.ireturn, 1) := by decide +kernel
theorem dX9_span_32 : decode cX9_span 32 = .ok (.aload_n 0, 1) := by decide +kernel
theorem dX9_span_33 : decode cX9_span 33 = .ok (.iconst (-1), 1) := by decide +kernel
theorem dX9_span_34 : decode cX9_span 34 = .ok (.iconst 1, 1) := by decide +kernel
theorem dX9_span_35 : decode cX9_span 35 = .ok (.invokevirtual 228, 3) := by decide +kernel
theorem dX9_span_38 : decode cX9_span 38 = .ok (.ifCond .ne 5, 3) := by decide +kernel
theorem dX9_span_41 : decode cX9_span 41 = .ok (.iconst (-1), 1) := by decide +kernel
theorem dX9_span_42 : decode cX9_span 42 = .ok (.ireturn, 1) := by decide +kernel
theorem dX9_span_43 : decode cX9_span 43 = .ok (.iload_n 2, 1) := by decide +kernel
theorem dX9_span_44 : decode cX9_span 44 = .ok (.ifCond .ne 33, 3) := by decide +kernel
theorem dX9_span_47 : decode cX9_span 47 = .ok (.iload_n 3, 1) := by decide +kernel
theorem dX9_span_48 : decode cX9_span 48 = .ok (.ifCond .ne 17, 3) := by decide +kernel
theorem dX9_span_51 : decode cX9_span 51 = .ok (.aload_n 0, 1) := by decide +kernel
theorem dX9_span_52 : decode cX9_span 52 = .ok (.getfield 87, 3) := by decide +kernel
theorem dX9_span_55 : decode cX9_span 55 = .ok (.aload_n 0, 1) := by decide +kernel
theorem dX9_span_56 : decode cX9_span 56 = .ok (.getfield 54, 3) := by decide +kernel
theorem dX9_span_59 : decode cX9_span 59 = .ok (.iload_n 1, 1) := by decide +kernel
theorem dX9_span_60 : decode cX9_span 60 = .ok (.iaload, 1) := by decide +kernel
theorem dX9_span_61 : decode cX9_span 61 = .ok (.iaload, 1) := by decide +kernel
theorem dX9_span_62 : decode cX9_span 62 = .ok (.goto 14, 3) := by decide +kernel
theorem dX9_span_65 : decode cX9_span 65 = .ok (.aload_n 0, 1) := by decide +kernel
theorem dX9_span_66 : decode cX9_span 66 = .ok (.getfield 90, 3) := by decide +kernel
theorem dX9_span_69 : decode cX9_span 69 = .ok (.aload_n 0, 1) := by decide +kernel
theorem dX9_span_70 : decode cX9_span 70 = .ok (.getfield 54, 3) := by decide +kernel
theorem dX9_span_73 : decode cX9_span 73 = .ok (.iload_n 1, 1) := by decide +kernel
theorem dX9_span_74 : decode cX9_span 74 = .ok (.iaload, 1) := by decide +kernel
theorem dX9_span_75 : decode cX9_span 75 = .ok (.iaload, 1) := by decide +kernel
theorem dX9_span_76 : decode cX9_span 76 = .ok (.ireturn, 1) := by decide +kernel
theorem dX9_span_77 : decode cX9_span 77 = .ok (.iload_n 3, 1) := by decide +kernel
theorem dX9_span_78 : decode cX9_span 78 = .ok (.ifCond .ne 12, 3) := by decide +kernel
theorem dX9_span_81 : decode cX9_span 81 = .ok (.aload_n 0, 1) := by decide +kernel
theorem dX9_span_82 : decode cX9_span 82 = .ok (.getfield 93, 3) := by decide +kernel
theorem dX9_span_85 : decode cX9_span 85 = .ok (.iload_n 1, 1) := by decide +kernel
theorem dX9_span_86 : decode cX9_span 86 = .ok (.iaload, 1) := by decide +kernel
theorem dX9_span_87 : decode cX9_span 87 = .ok (.goto 9, 3) := by decide +kernel
theorem dX9_span_90 : decode cX9_span 90 = .ok (.aload_n 0, 1) := by decide +kernel
theorem dX9_span_91 : decode cX9_span 91 = .ok (.getfield 96, 3) := by decide +kernel
theorem dX9_span_94 : decode cX9_span 94 = .ok (.iload_n 1, 1) := by decide +kernel
theorem dX9_span_95 : decode cX9_span 95 = .ok (.iaload, 1) := by decide +kernel
theorem dX9_span_96 : decode cX9_span 96 = .ok (.ireturn, 1) := by decide +kernel
set_option maxRecDepth 100000 in
set_option maxHeartbeats 40000000 in
theorem fm_span {G : vG} {l : Launch} (τ : Sg) (a b c : Int32) : Sp G l yX9_span cX9_span 4 (some .int) 5 0 0 [.ref 140, .int a, .int b, .int c] (WW (mx τ)) (QI (fun x _ => x = -2)) := by
  refine Sp_of_R [(some (.ref 140)), (some (.int a)), (some (.int b)), (some (.int c))] [] rfl (by simp) rfl (Nat.le_of_ble_eq_true rfl) ?_
  refine R_aload_n (pc := 0) dX9_span_0 rfl rfl ?_
  refine R_iload_n (pc := 1) dX9_span_1 rfl rfl ?_
  refine k_X9_135 (pc := 2) (fx_X9_isThere _ _ rfl) rfl (c_140 _) (by decide) (Nat.le_refl _) (Nat.le_refl _) (Nat.le_of_ble_eq_true rfl) dX9_span_2 (fun x w2 h => ?_)
  obtain ⟨rfl, rfl⟩ := h
  refine R_ifne (pc := 5) 11 dX9_span_5 (by decide) (fun h => absurd (by decide) h) (fun _ => ?_)
  refine R_bipush (pc := 8) (v := (-2)) dX9_span_8 (by decide) ?_
  exact R_iret (pc := 10) dX9_span_10 rfl rfl (Nat.zero_le _) (Nat.zero_le _) ⟨_, rfl, rfl⟩
theorem dX9_view_0 : decode cX9_view 0 = .ok (.aload_n 0, 1) := by decide +kernel
theorem dX9_view_1 : decode cX9_view 1 = .ok (.iload_n 1, 1) := by decide +kernel
theorem dX9_view_2 : decode cX9_view 2 = .ok (.invokevirtual 135, 3) := by decide +kernel
theorem dX9_view_5 : decode cX9_view 5 = .ok (.ifCond .eq 13, 3) := by decide +kernel
theorem dX9_view_8 : decode cX9_view 8 = .ok (.iload_n 2, 1) := by decide +kernel
theorem dX9_view_9 : decode cX9_view 9 = .ok (.iconst 0, 1) := by decide +kernel
theorem dX9_view_10 : decode cX9_view 10 = .ok (.bipush 7, 2) := by decide +kernel
theorem dX9_view_12 : decode cX9_view 12 = .ok (.invokestatic 124, 3) := by decide +kernel
theorem dX9_view_15 : decode cX9_view 15 = .ok (.ifCond .ne 6, 3) := by decide +kernel
theorem dX9_view_18 : decode cX9_view 18 = .ok (.bipush (-2), 2) := by decide +kernel
theorem dX9_view_20 : decode cX9_view 20 = .ok (.ireturn, 1) := by decide +kernel
theorem dX9_view_21 : decode cX9_view 21 = .ok (.iconst 0, 1) := by decide +kernel
theorem dX9_view_22 : decode cX9_view 22 = .ok (.istore_n 3, 1) := by decide +kernel
theorem dX9_view_23 : decode cX9_view 23 = .ok (.iload_n 3, 1) := by decide +kernel
theorem dX9_view_24 : decode cX9_view 24 = .ok (.aload_n 0, 1) := by decide +kernel
theorem dX9_view_25 : decode cX9_view 25 = .ok (.getfield 102, 3) := by decide +kernel
theorem dX9_view_28 : decode cX9_view 28 = .ok (.iload_n 1, 1) := by decide +kernel
theorem dX9_view_29 : decode cX9_view 29 = .ok (.iaload, 1) := by decide +kernel
theorem dX9_view_30 : decode cX9_view 30 = .ok (.if_icmp .ge 26, 3) := by decide +kernel
theorem dX9_view_33 : decode cX9_view 33 = .ok (.aload_n 0, 1) := by decide +kernel
theorem dX9_view_34 : decode cX9_view 34 = .ok (.getfield 105, 3) := by decide +kernel
theorem dX9_view_37 : decode cX9_view 37 = .ok (.iconst 5, 1) := by decide +kernel
theorem dX9_view_38 : decode cX9_view 38 = .ok (.iload_n 1, 1) := by decide +kernel
theorem dX9_view_39 : decode cX9_view 39 = .ok (.imul, 1) := by decide +kernel
theorem dX9_view_40 : decode cX9_view 40 = .ok (.iload_n 3, 1) := by decide +kernel
theorem dX9_view_41 : decode cX9_view 41 = .ok (.iadd, 1) := by decide +kernel
theorem dX9_view_42 : decode cX9_view 42 = .ok (.iaload, 1) := by decide +kernel
theorem dX9_view_43 : decode cX9_view 43 = .ok (.iload_n 2, 1) := by decide +kernel
theorem dX9_view_44 : decode cX9_view 44 = .ok (.if_icmp .ne 6, 3) := by decide +kernel
theorem dX9_view_47 : decode cX9_view 47 = .ok (.bipush (-4), 2) := by decide +kernel
theorem dX9_view_49 : decode cX9_view 49 = .ok (.ireturn, 1) := by decide +kernel
theorem dX9_view_50 : decode cX9_view 50 = .ok (.iinc 3 1, 3) := by decide +kernel
theorem dX9_view_53 : decode cX9_view 53 = .ok (.goto (-30), 3) := by decide +kernel
theorem dX9_view_56 : decode cX9_view 56 = .ok (.aload_n 0, 1) := by decide +kernel
theorem dX9_view_57 : decode cX9_view 57 = .ok (.getfield 102, 3) := by decide +kernel
theorem dX9_view_60 : decode cX9_view 60 = .ok (.iload_n 1, 1) := by decide +kernel
theorem dX9_view_61 : decode cX9_view 61 = .ok (.iaload, 1) := by decide +kernel
theorem dX9_view_62 : decode cX9_view 62 = .ok (.iconst 5, 1) := by decide +kernel
theorem dX9_view_63 : decode cX9_view 63 = .ok (.if_icmp .ne 6, 3) := by decide +kernel
theorem dX9_view_66 : decode cX9_view 66 = .ok (.bipush (-5), 2) := by decide +kernel
theorem dX9_view_68 : decode cX9_view 68 = .ok (.ireturn, 1) := by decide +kernel
theorem dX9_view_69 : decode cX9_view 69 = .ok (.aload_n 0, 1) := by decide +kernel
theorem dX9_view_70 : decode cX9_view 70 = .ok (.getfield 105, 3) := by decide +kernel
theorem dX9_view_73 : decode cX9_view 73 = .ok (.iconst 5, 1) := by decide +kernel
theorem dX9_view_74 : decode cX9_view 74 = .ok (.iload_n 1, 1) := by decide +kernel
theorem dX9_view_75 : decode cX9_view 75 = .ok (.imul, 1) := by decide +kernel
theorem dX9_view_76 : decode cX9_view 76 = .ok (.aload_n 0, 1) := by decide +kernel
theorem dX9_view_77 : decode cX9_view 77 = .ok (.getfield 102, 3) := by decide +kernel
theorem dX9_view_80 : decode cX9_view 80 = .ok (.iload_n 1, 1) := by decide +kernel
theorem dX9_view_81 : decode cX9_view 81 = .ok (.iaload, 1) := by decide +kernel
theorem dX9_view_82 : decode cX9_view 82 = .ok (.iadd, 1) := by decide +kernel
theorem dX9_view_83 : decode cX9_view 83 = .ok (.iload_n 2, 1) := by decide +kernel
theorem dX9_view_84 : decode cX9_view 84 = .ok (.iastore, 1) := by decide +kernel
theorem dX9_view_85 : decode cX9_view 85 = .ok (.aload_n 0, 1) := by decide +kernel
theorem dX9_view_86 : decode cX9_view 86 = .ok (.getfield 102, 3) := by decide +kernel
theorem dX9_view_89 : decode cX9_view 89 = .ok (.iload_n 1, 1) := by decide +kernel
theorem dX9_view_90 : decode cX9_view 90 = .ok (.dup2, 1) := by decide +kernel
theorem dX9_view_91 : decode cX9_view 91 = .ok (.iaload, 1) := by decide +kernel
theorem dX9_view_92 : decode cX9_view 92 = .ok (.iconst 1, 1) := by decide +kernel
theorem dX9_view_93 : decode cX9_view 93 = .ok (.iadd, 1) := by decide +kernel
theorem dX9_view_94 : decode cX9_view 94 = .ok (.iastore, 1) := by decide +kernel
theorem dX9_view_95 : decode cX9_view 95 = .ok (.aload_n 0, 1) := by decide +kernel
theorem dX9_view_96 : decode cX9_view 96 = .ok (.getfield 102, 3) := by decide +kernel
theorem dX9_view_99 : decode cX9_view 99 = .ok (.iload_n 1, 1) := by decide +kernel
theorem dX9_view_100 : decode cX9_view 100 = .ok (.iaload, 1) := by decide +kernel
theorem dX9_view_101 : decode cX9_view 101 = .ok (.ireturn, 1) := by decide +kernel
set_option maxRecDepth 100000 in
set_option maxHeartbeats 40000000 in
theorem fm_view {G : vG} {l : Launch} (τ : Sg) (a b : Int32) : Sp G l yX9_view cX9_view 4 (some .int) 2 0 0 [.ref 140, .int a, .int b] (WW (mx τ)) (QI (fun x _ => x = -2)) := by
  refine Sp_of_R [(some (.ref 140)), (some (.int a)), (some (.int b)), none] [none] rfl (by simp) rfl (Nat.le_of_ble_eq_true rfl) ?_
  refine R_aload_n (pc := 0) dX9_view_0 rfl rfl ?_
  refine R_iload_n (pc := 1) dX9_view_1 rfl rfl ?_
  refine k_X9_135 (pc := 2) (fx_X9_isThere _ _ rfl) rfl (c_140 _) (by decide) (Nat.le_refl _) (Nat.le_refl _) (Nat.le_of_ble_eq_true rfl) dX9_view_2 (fun x w2 h => ?_)
  obtain ⟨rfl, rfl⟩ := h
  refine R_ifeq (pc := 5) 18 dX9_view_5 (by decide) (fun _ => ?_) (fun h => absurd (by decide) h)
  refine R_bipush (pc := 18) (v := (-2)) dX9_view_18 (by decide) ?_
  exact R_iret (pc := 20) dX9_view_20 rfl rfl (Nat.zero_le _) (Nat.zero_le _) ⟨_, rfl, rfl⟩
theorem dX9_unview_0 : decode cX9_unview 0 = .ok (.aload_n 0, 1) := by decide +kernel
theorem dX9_unview_1 : decode cX9_unview 1 = .ok (.iload_n 1, 1) := by decide +kernel
theorem dX9_unview_2 : decode cX9_unview 2 = .ok (.invokevirtual 135, 3) := by decide +kernel
theorem dX9_unview_5 : decode cX9_unview 5 = .ok (.ifCond .ne 6, 3) := by decide +kernel
theorem dX9_unview_8 : decode cX9_unview 8 = .ok (.bipush (-2), 2) := by decide +kernel
theorem dX9_unview_10 : decode cX9_unview 10 = .ok (.ireturn, 1) := by decide +kernel
theorem dX9_unview_11 : decode cX9_unview 11 = .ok (.aload_n 0, 1) := by decide +kernel
theorem dX9_unview_12 : decode cX9_unview 12 = .ok (.getfield 102, 3) := by decide +kernel
theorem dX9_unview_15 : decode cX9_unview 15 = .ok (.iload_n 1, 1) := by decide +kernel
theorem dX9_unview_16 : decode cX9_unview 16 = .ok (.iaload, 1) := by decide +kernel
theorem dX9_unview_17 : decode cX9_unview 17 = .ok (.istore_n 2, 1) := by decide +kernel
theorem dX9_unview_18 : decode cX9_unview 18 = .ok (.aload_n 0, 1) := by decide +kernel
theorem dX9_unview_19 : decode cX9_unview 19 = .ok (.getfield 102, 3) := by decide +kernel
theorem dX9_unview_22 : decode cX9_unview 22 = .ok (.iload_n 1, 1) := by decide +kernel
theorem dX9_unview_23 : decode cX9_unview 23 = .ok (.iconst 0, 1) := by decide +kernel
theorem dX9_unview_24 : decode cX9_unview 24 = .ok (.iastore, 1) := by decide +kernel
theorem dX9_unview_25 : decode cX9_unview 25 = .ok (.iload_n 2, 1) := by decide +kernel
theorem dX9_unview_26 : decode cX9_unview 26 = .ok (.ireturn, 1) := by decide +kernel
set_option maxRecDepth 100000 in
set_option maxHeartbeats 40000000 in
theorem fm_unview {G : vG} {l : Launch} (τ : Sg) (a : Int32) : Sp G l yX9_unview cX9_unview 3 (some .int) 2 0 0 [.ref 140, .int a] (WW (mx τ)) (QI (fun x _ => x = -2)) := by
  refine Sp_of_R [(some (.ref 140)), (some (.int a)), none] [none] rfl (by simp) rfl (Nat.le_of_ble_eq_true rfl) ?_
  refine R_aload_n (pc := 0) dX9_unview_0 rfl rfl ?_
  refine R_iload_n (pc := 1) dX9_unview_1 rfl rfl ?_
  refine k_X9_135 (pc := 2) (fx_X9_isThere _ _ rfl) rfl (c_140 _) (by decide) (Nat.le_refl _) (Nat.le_refl _) (Nat.le_of_ble_eq_true rfl) dX9_unview_2 (fun x w2 h => ?_)
  obtain ⟨rfl, rfl⟩ := h
  refine R_ifne (pc := 5) 11 dX9_unview_5 (by decide) (fun h => absurd (by decide) h) (fun _ => ?_)
  refine R_bipush (pc := 8) (v := (-2)) dX9_unview_8 (by decide) ?_
  exact R_iret (pc := 10) dX9_unview_10 rfl rfl (Nat.zero_le _) (Nat.zero_le _) ⟨_, rfl, rfl⟩
theorem dX9_together_0 : decode cX9_together 0 = .ok (.aload_n 0, 1) := by decide +kernel
theorem dX9_together_1 : decode cX9_together 1 = .ok (.iload_n 1, 1) := by decide +kernel
theorem dX9_together_2 : decode cX9_together 2 = .ok (.invokevirtual 135, 3) := by decide +kernel
theorem dX9_together_5 : decode cX9_together 5 = .ok (.ifCond .ne 6, 3) := by decide +kernel
theorem dX9_together_8 : decode cX9_together 8 = .ok (.bipush (-2), 2) := by decide +kernel
theorem dX9_together_10 : decode cX9_together 10 = .ok (.ireturn, 1) := by decide +kernel
theorem dX9_together_11 : decode cX9_together 11 = .ok (.aload_n 0, 1) := by decide +kernel
theorem dX9_together_12 : decode cX9_together 12 = .ok (.invokevirtual 162, 3) := by decide +kernel
theorem dX9_together_15 : decode cX9_together 15 = .ok (.aload_n 0, 1) := by decide +kernel
theorem dX9_together_16 : decode cX9_together 16 = .ok (.aload_n 0, 1) := by decide +kernel
theorem dX9_together_17 : decode cX9_together 17 = .ok (.getfield 54, 3) := by decide +kernel
theorem dX9_together_20 : decode cX9_together 20 = .ok (.iconst 0, 1) := by decide +kernel
theorem dX9_together_21 : decode cX9_together 21 = .ok (.iconst (-1), 1) := by decide +kernel
theorem dX9_together_22 : decode cX9_together 22 = .ok (.invokevirtual 165, 3) := by decide +kernel
theorem dX9_together_25 : decode cX9_together 25 = .ok (.ldc2_w 252, 3) := by decide +kernel
theorem dX9_together_28 : decode cX9_together 28 = .ok (.lstore_n 2, 1) := by decide +kernel
theorem dX9_together_29 : decode cX9_together 29 = .ok (.iconst 0, 1) := by decide +kernel
theorem dX9_together_30 : decode cX9_together 30 = .ok (.istore 4, 2) := by decide +kernel
theorem dX9_together_32 : decode cX9_together 32 = .ok (.iload 4, 2) := by decide +kernel
theorem dX9_together_34 : decode cX9_together 34 = .ok (.aload_n 0, 1) := by decide +kernel
theorem dX9_together_35 : decode cX9_together 35 = .ok (.invokevirtual 120, 3) := by decide +kernel
theorem dX9_together_38 : decode cX9_together 38 = .ok (.if_icmp .ge 48, 3) := by decide +kernel
theorem dX9_together_41 : decode cX9_together 41 = .ok (.aload_n 0, 1) := by decide +kernel
theorem dX9_together_42 : decode cX9_together 42 = .ok (.getfield 54, 3) := by decide +kernel
theorem dX9_together_45 : decode cX9_together 45 = .ok (.iload 4, 2) := by decide +kernel
theorem dX9_together_47 : decode cX9_together 47 = .ok (.iaload, 1) := by decide +kernel
theorem dX9_together_48 : decode cX9_together 48 = .ok (.aload_n 0, 1) := by decide +kernel
theorem dX9_together_49 : decode cX9_together 49 = .ok (.getfield 54, 3) := by decide +kernel
theorem dX9_together_52 : decode cX9_together 52 = .ok (.iload_n 1, 1) := by decide +kernel
theorem dX9_together_53 : decode cX9_together 53 = .ok (.iaload, 1) := by decide +kernel
theorem dX9_together_54 : decode cX9_together 54 = .ok (.if_icmp .ne 24, 3) := by decide +kernel
theorem dX9_together_57 : decode cX9_together 57 = .ok (.aload_n 0, 1) := by decide +kernel
theorem dX9_together_58 : decode cX9_together 58 = .ok (.getfield 102, 3) := by decide +kernel
theorem dX9_together_61 : decode cX9_together 61 = .ok (.iload 4, 2) := by decide +kernel
theorem dX9_together_63 : decode cX9_together 63 = .ok (.iaload, 1) := by decide +kernel
theorem dX9_together_64 : decode cX9_together 64 = .ok (.ifCond .le 14, 3) := by decide +kernel
theorem dX9_together_67 : decode cX9_together 67 = .ok (.lload_n 2, 1) := by decide +kernel
theorem dX9_together_68 : decode cX9_together 68 = .ok (.aload_n 0, 1) := by decide +kernel
theorem dX9_together_69 : decode cX9_together 69 = .ok (.iload 4, 2) := by decide +kernel
theorem dX9_together_71 : decode cX9_together 71 = .ok (.invokevirtual 248, 3) := by decide +kernel
theorem dX9_together_74 : decode cX9_together 74 = .ok (.land, 1) := by decide +kernel
theorem dX9_together_75 : decode cX9_together 75 = .ok (.goto 4, 3) := by decide +kernel
theorem dX9_together_78 : decode cX9_together 78 = .ok (.lload_n 2, 1) := by decide +kernel
theorem dX9_together_79 : decode cX9_together 79 = .ok (.lstore_n 2, 1) := by decide +kernel
theorem dX9_together_80 : decode cX9_together 80 = .ok (.iinc 4 1, 3) := by decide +kernel
theorem dX9_together_83 : decode cX9_together 83 = .ok (.goto (-51), 3) := by decide +kernel
theorem dX9_together_86 : decode cX9_together 86 = .ok (.iconst 0, 1) := by decide +kernel
theorem dX9_together_87 : decode cX9_together 87 = .ok (.istore 4, 2) := by decide +kernel
theorem dX9_together_89 : decode cX9_together 89 = .ok (.iconst 0, 1) := by decide +kernel
theorem dX9_together_90 : decode cX9_together 90 = .ok (.istore 5, 2) := by decide +kernel
theorem dX9_together_92 : decode cX9_together 92 = .ok (.iload 5, 2) := by decide +kernel
theorem dX9_together_94 : decode cX9_together 94 = .ok (.bipush 64, 2) := by decide +kernel
theorem dX9_together_96 : decode cX9_together 96 = .ok (.if_icmp .ge 30, 3) := by decide +kernel
theorem dX9_together_99 : decode cX9_together 99 = .ok (.iload 4, 2) := by decide +kernel
theorem dX9_together_101 : decode cX9_together 101 = .ok (.lload_n 2, 1) := by decide +kernel
theorem dX9_together_102 : decode cX9_together 102 = .ok (.iload 5, 2) := by decide +kernel
theorem dX9_together_104 : decode cX9_together 104 = .ok (.lshr, 1) := by decide +kernel
theorem dX9_together_105 : decode cX9_together 105 = .ok (.lconst 1, 1) := by decide +kernel
theorem dX9_together_106 : decode cX9_together 106 = .ok (.land, 1) := by decide +kernel
theorem dX9_together_107 : decode cX9_together 107 = .ok (.lconst 1, 1) := by decide +kernel
theorem dX9_together_108 : decode cX9_together 108 = .ok (.lcmp, 1) := by decide +kernel
theorem dX9_together_109 : decode cX9_together 109 = .ok (.ifCond .ne 7, 3) := by decide +kernel
theorem dX9_together_112 : decode cX9_together 112 = .ok (.iconst 1, 1) := by decide +kernel
theorem dX9_together_113 : decode cX9_together 113 = .ok (.goto 4, 3) := by decide +kernel
theorem dX9_together_116 : decode cX9_together 116 = .ok (.iconst 0, 1) := by decide +kernel
theorem dX9_together_117 : decode cX9_together 117 = .ok (.iadd, 1) := by decide +kernel
theorem dX9_together_118 : decode cX9_together 118 = .ok (.istore 4, 2) := by decide +kernel
theorem dX9_together_120 : decode cX9_together 120 = .ok (.iinc 5 1, 3) := by decide +kernel
theorem dX9_together_123 : decode cX9_together 123 = .ok (.goto (-31), 3) := by decide +kernel
theorem dX9_together_126 : decode cX9_together 126 = .ok (.iload 4, 2) := by decide +kernel
theorem dX9_together_128 : decode cX9_together 128 = .ok (.ireturn, 1) := by decide +kernel
set_option maxRecDepth 100000 in
set_option maxHeartbeats 40000000 in
theorem fm_together {G : vG} {l : Launch} (τ : Sg) (a : Int32) : Sp G l yX9_together cX9_together 6 (some .int) 4 0 0 [.ref 140, .int a] (WW (mx τ)) (QI (fun x _ => x = -2)) := by
  refine Sp_of_R [(some (.ref 140)), (some (.int a)), none, none, none, none] [none, none, none, none] rfl (by simp) rfl (Nat.le_of_ble_eq_true rfl) ?_
  refine R_aload_n (pc := 0) dX9_together_0 rfl rfl ?_
  refine R_iload_n (pc := 1) dX9_together_1 rfl rfl ?_
  refine k_X9_135 (pc := 2) (fx_X9_isThere _ _ rfl) rfl (c_140 _) (by decide) (Nat.le_refl _) (Nat.le_refl _) (Nat.le_of_ble_eq_true rfl) dX9_together_2 (fun x w2 h => ?_)
  obtain ⟨rfl, rfl⟩ := h
  refine R_ifne (pc := 5) 11 dX9_together_5 (by decide) (fun h => absurd (by decide) h) (fun _ => ?_)
  refine R_bipush (pc := 8) (v := (-2)) dX9_together_8 (by decide) ?_
  exact R_iret (pc := 10) dX9_together_10 rfl rfl (Nat.zero_le _) (Nat.zero_le _) ⟨_, rfl, rfl⟩
theorem dX9_caption_0 : decode cX9_caption 0 = .ok (.aload_n 0, 1) := by decide +kernel
theorem dX9_caption_1 : decode cX9_caption 1 = .ok (.iload_n 1, 1) := by decide +kernel
theorem dX9_caption_2 : decode cX9_caption 2 = .ok (.invokevirtual 135, 3) := by decide +kernel
theorem dX9_caption_5 : decode cX9_caption 5 = .ok (.ifCond .ne 6, 3) := by decide +kernel
theorem dX9_caption_8 : decode cX9_caption 8 = .ok (.bipush (-2), 2) := by decide +kernel
theorem dX9_caption_10 : decode cX9_caption 10 = .ok (.ireturn, 1) := by decide +kernel
theorem dX9_caption_11 : decode cX9_caption 11 = .ok (.iload 4, 2) := by decide +kernel
theorem dX9_caption_13 : decode cX9_caption 13 = .ok (.iconst 0, 1) := by decide +kernel
theorem dX9_caption_14 : decode cX9_caption 14 = .ok (.bipush 8, 2) := by decide +kernel
theorem dX9_caption_16 : decode cX9_caption 16 = .ok (.invokestatic 124, 3) := by decide +kernel
theorem dX9_caption_19 : decode cX9_caption 19 = .ok (.ifCond .ne 6, 3) := by decide +kernel
theorem dX9_caption_22 : decode cX9_caption 22 = .ok (.bipush (-3), 2) := by decide +kernel
theorem dX9_caption_24 : decode cX9_caption 24 = .ok (.ireturn, 1) := by decide +kernel
theorem dX9_caption_25 : decode cX9_caption 25 = .ok (.iconst 0, 1) := by decide +kernel
theorem dX9_caption_26 : decode cX9_caption 26 = .ok (.istore 5, 2) := by decide +kernel
theorem dX9_caption_28 : decode cX9_caption 28 = .ok (.iload 5, 2) := by decide +kernel
theorem dX9_caption_30 : decode cX9_caption 30 = .ok (.iload 4, 2) := by decide +kernel
theorem dX9_caption_32 : decode cX9_caption 32 = .ok (.if_icmp .ge 34, 3) := by decide +kernel
theorem dX9_caption_35 : decode cX9_caption 35 = .ok (.lload_n 2, 1) := by decide +kernel
theorem dX9_caption_36 : decode cX9_caption 36 = .ok (.bipush 8, 2) := by decide +kernel
theorem dX9_caption_38 : decode cX9_caption 38 = .ok (.iload 5, 2) := by decide +kernel
theorem dX9_caption_40 : decode cX9_caption 40 = .ok (.imul, 1) := by decide +kernel
theorem dX9_caption_41 : decode cX9_caption 41 = .ok (.lshr, 1) := by decide +kernel
theorem dX9_caption_42 : decode cX9_caption 42 = .ok (.ldc2_w 138, 3) := by decide +kernel
theorem dX9_caption_45 : decode cX9_caption 45 = .ok (.land, 1) := by decide +kernel
theorem dX9_caption_46 : decode cX9_caption 46 = .ok (.l2i, 1) := by decide +kernel
theorem dX9_caption_47 : decode cX9_caption 47 = .ok (.bipush 97, 2) := by decide +kernel
theorem dX9_caption_49 : decode cX9_caption 49 = .ok (.bipush 122, 2) := by decide +kernel
theorem dX9_caption_51 : decode cX9_caption 51 = .ok (.invokestatic 124, 3) := by decide +kernel
theorem dX9_caption_54 : decode cX9_caption 54 = .ok (.ifCond .ne 6, 3) := by decide +kernel
theorem dX9_caption_57 : decode cX9_caption 57 = .ok (.bipush (-3), 2) := by decide +kernel
theorem dX9_caption_59 : decode cX9_caption 59 = .ok (.ireturn, 1) := by decide +kernel
theorem dX9_caption_60 : decode cX9_caption 60 = .ok (.iinc 5 1, 3) := by decide +kernel
theorem dX9_caption_63 : decode cX9_caption 63 = .ok (.goto (-35), 3) := by decide +kernel
theorem dX9_caption_66 : decode cX9_caption 66 = .ok (.iconst 0, 1) := by decide +kernel
theorem dX9_caption_67 : decode cX9_caption 67 = .ok (.istore 5, 2) := by decide +kernel
theorem dX9_caption_69 : decode cX9_caption 69 = .ok (.iload 5, 2) := by decide +kernel
theorem dX9_caption_71 : decode cX9_caption 71 = .ok (.iload 4, 2) := by decide +kernel
theorem dX9_caption_73 : decode cX9_caption 73 = .ok (.if_icmp .ge 33, 3) := by decide +kernel
theorem dX9_caption_76 : decode cX9_caption 76 = .ok (.aload_n 0, 1) := by decide +kernel
theorem dX9_caption_77 : decode cX9_caption 77 = .ok (.getfield 38, 3) := by decide +kernel
theorem dX9_caption_80 : decode cX9_caption 80 = .ok (.bipush 8, 2) := by decide +kernel
theorem dX9_caption_82 : decode cX9_caption 82 = .ok (.iload_n 1, 1) := by decide +kernel
theorem dX9_caption_83 : decode cX9_caption 83 = .ok (.imul, 1) := by decide +kernel
theorem dX9_caption_84 : decode cX9_caption 84 = .ok (.iload 5, 2) := by decide +kernel
theorem dX9_caption_86 : decode cX9_caption 86 = .ok (.iadd, 1) := by decide +kernel
theorem dX9_caption_87 : decode cX9_caption 87 = .ok (.lload_n 2, 1) := by decide +kernel
theorem dX9_caption_88 : decode cX9_caption 88 = .ok (.bipush 8, 2) := by decide +kernel
theorem dX9_caption_90 : decode cX9_caption 90 = .ok (.iload 5, 2) := by decide +kernel
theorem dX9_caption_92 : decode cX9_caption 92 = .ok (.imul, 1) := by decide +kernel
theorem dX9_caption_93 : decode cX9_caption 93 = .ok (.lshr, 1) := by decide +kernel
theorem dX9_caption_94 : decode cX9_caption 94 = .ok (.ldc2_w 138, 3) := by decide +kernel
theorem dX9_caption_97 : decode cX9_caption 97 = .ok (.land, 1) := by decide +kernel
theorem dX9_caption_98 : decode cX9_caption 98 = .ok (.l2i, 1) := by decide +kernel
theorem dX9_caption_99 : decode cX9_caption 99 = .ok (.iastore, 1) := by decide +kernel
theorem dX9_caption_100 : decode cX9_caption 100 = .ok (.iinc 5 1, 3) := by decide +kernel
theorem dX9_caption_103 : decode cX9_caption 103 = .ok (.goto (-34), 3) := by decide +kernel
theorem dX9_caption_106 : decode cX9_caption 106 = .ok (.aload_n 0, 1) := by decide +kernel
theorem dX9_caption_107 : decode cX9_caption 107 = .ok (.getfield 35, 3) := by decide +kernel
theorem dX9_caption_110 : decode cX9_caption 110 = .ok (.iload_n 1, 1) := by decide +kernel
theorem dX9_caption_111 : decode cX9_caption 111 = .ok (.iload 4, 2) := by decide +kernel
theorem dX9_caption_113 : decode cX9_caption 113 = .ok (.iastore, 1) := by decide +kernel
theorem dX9_caption_114 : decode cX9_caption 114 = .ok (.iconst 1, 1) := by decide +kernel
theorem dX9_caption_115 : decode cX9_caption 115 = .ok (.ireturn, 1) := by decide +kernel
set_option maxRecDepth 100000 in
set_option maxHeartbeats 40000000 in
theorem fm_caption {G : vG} {l : Launch} (τ : Sg) (a : Int32) (b : Int64) (c : Int32) : Sp G l yX9_caption cX9_caption 6 (some .int) 2 0 0 [.ref 140, .int a, .long b, .int c] (WW (mx τ)) (QI (fun x _ => x = -2)) := by
  refine Sp_of_R [(some (.ref 140)), (some (.int a)), (some (.long b)), none, (some (.int c)), none] [none] rfl (by simp) rfl (Nat.le_of_ble_eq_true rfl) ?_
  refine R_aload_n (pc := 0) dX9_caption_0 rfl rfl ?_
  refine R_iload_n (pc := 1) dX9_caption_1 rfl rfl ?_
  refine k_X9_135 (pc := 2) (fx_X9_isThere _ _ rfl) rfl (c_140 _) (by decide) (Nat.le_refl _) (Nat.le_refl _) (Nat.le_of_ble_eq_true rfl) dX9_caption_2 (fun x w2 h => ?_)
  obtain ⟨rfl, rfl⟩ := h
  refine R_ifne (pc := 5) 11 dX9_caption_5 (by decide) (fun h => absurd (by decide) h) (fun _ => ?_)
  refine R_bipush (pc := 8) (v := (-2)) dX9_caption_8 (by decide) ?_
  exact R_iret (pc := 10) dX9_caption_10 rfl rfl (Nat.zero_le _) (Nat.zero_le _) ⟨_, rfl, rfl⟩
theorem dX9_breaks_0 : decode cX9_breaks 0 = .ok (.iload_n 1, 1) := by decide +kernel
theorem dX9_breaks_1 : decode cX9_breaks 1 = .ok (.iconst 0, 1) := by decide +kernel
theorem dX9_breaks_2 : decode cX9_breaks 2 = .ok (.aload_n 0, 1) := by decide +kernel
theorem dX9_breaks_3 : decode cX9_breaks 3 = .ok (.getfield 215, 3) := by decide +kernel
theorem dX9_breaks_6 : decode cX9_breaks 6 = .ok (.iconst 1, 1) := by decide +kernel
theorem dX9_breaks_7 : decode cX9_breaks 7 = .ok (.isub, 1) := by decide +kernel
theorem dX9_breaks_8 : decode cX9_breaks 8 = .ok (.invokestatic 124, 3) := by decide +kernel
theorem dX9_breaks_11 : decode cX9_breaks 11 = .ok (.ifCond .ne 6, 3) := by decide +kernel
theorem dX9_breaks_14 : decode cX9_breaks 14 = .ok (.bipush (-2), 2) := by decide +kernel
theorem dX9_breaks_16 : decode cX9_breaks 16 = .ok (.ireturn, 1) := by decide +kernel
theorem dX9_breaks_17 : decode cX9_breaks 17 = .ok (.aload_n 0, 1) := by decide +kernel
theorem dX9_breaks_18 : decode cX9_breaks 18 = .ok (.getfield 114, 3) := by decide +kernel
theorem dX9_breaks_21 : decode cX9_breaks 21 = .ok (.bipush 6, 2) := by decide +kernel
theorem dX9_breaks_23 : decode cX9_breaks 23 = .ok (.iload_n 1, 1) := by decide +kernel
theorem dX9_breaks_24 : decode cX9_breaks 24 = .ok (.imul, 1) := by decide +kernel
theorem dX9_breaks_25 : decode cX9_breaks 25 = .ok (.iconst 3, 1) := by decide +kernel
theorem dX9_breaks_26 : decode cX9_breaks 26 = .ok (.iadd, 1) := by decide +kernel
theorem dX9_breaks_27 : decode cX9_breaks 27 = .ok (.iaload, 1) := by decide +kernel
theorem dX9_breaks_28 : decode cX9_breaks 28 = .ok (.iconst 1, 1) := by decide +kernel
theorem dX9_breaks_29 : decode cX9_breaks 29 = .ok (.if_icmp .ne 7, 3) := by decide +kernel
theorem dX9_breaks_32 : decode cX9_breaks 32 = .ok (.iconst 1, 1) := by decide +kernel
theorem dX9_breaks_33 : decode cX9_breaks 33 = .ok (.goto 4, 3) := by decide +kernel
theorem dX9_breaks_36 : decode cX9_breaks 36 = .ok (.iconst 0, 1) := by decide +kernel
theorem dX9_breaks_37 : decode cX9_breaks 37 = .ok (.istore_n 2, 1) := by decide +kernel
theorem dX9_breaks_38 : decode cX9_breaks 38 = .ok (.iload_n 2, 1) := by decide +kernel
theorem dX9_breaks_39 : decode cX9_breaks 39 = .ok (.ifCond .eq 15, 3) := by decide +kernel
theorem dX9_breaks_42 : decode cX9_breaks 42 = .ok (.aload_n 0, 1) := by decide +kernel
theorem dX9_breaks_43 : decode cX9_breaks 43 = .ok (.iconst (-1), 1) := by decide +kernel
theorem dX9_breaks_44 : decode cX9_breaks 44 = .ok (.iconst 0, 1) := by decide +kernel
theorem dX9_breaks_45 : decode cX9_breaks 45 = .ok (.invokevirtual 228, 3) := by decide +kernel
theorem dX9_breaks_48 : decode cX9_breaks 48 = .ok (.ifCond .ne 6, 3) := by decide +kernel
theorem dX9_breaks_51 : decode cX9_breaks 51 = .ok (.bipush (-4), 2) := by decide +kernel
theorem dX9_breaks_53 : decode cX9_breaks 53 = .ok (.ireturn, 1) := by decide +kernel
theorem dX9_breaks_54 : decode cX9_breaks 54 = .ok (.iconst 0, 1) := by decide +kernel
theorem dX9_breaks_55 : decode cX9_breaks 55 = .ok (.istore_n 3, 1) := by decide +kernel
theorem dX9_breaks_56 : decode cX9_breaks 56 = .ok (.iconst 0, 1) := by decide +kernel
theorem dX9_breaks_57 : decode cX9_breaks 57 = .ok (.istore 4, 2) := by decide +kernel
theorem dX9_breaks_59 : decode cX9_breaks 59 = .ok (.iload 4, 2) := by decide +kernel
theorem dX9_breaks_61 : decode cX9_breaks 61 = .ok (.aload_n 0, 1) := by decide +kernel
theorem dX9_breaks_62 : decode cX9_breaks 62 = .ok (.invokevirtual 120, 3) := by decide +kernel
theorem dX9_breaks_65 : decode cX9_breaks 65 = .ok (.if_icmp .ge 120, 3) := by decide +kernel
theorem dX9_breaks_68 : decode cX9_breaks 68 = .ok (.iload_n 2, 1) := by decide +kernel
theorem dX9_breaks_69 : decode cX9_breaks 69 = .ok (.ifCond .eq 53, 3) := by decide +kernel
theorem dX9_breaks_72 : decode cX9_breaks 72 = .ok (.aload_n 0, 1) := by decide +kernel
theorem dX9_breaks_73 : decode cX9_breaks 73 = .ok (.getfield 93, 3) := by decide +kernel
theorem dX9_breaks_76 : decode cX9_breaks 76 = .ok (.iload 4, 2) := by decide +kernel
theorem dX9_breaks_78 : decode cX9_breaks 78 = .ok (.iaload, 1) := by decide +kernel
theorem dX9_breaks_79 : decode cX9_breaks 79 = .ok (.aload_n 0, 1) := by decide +kernel
theorem dX9_breaks_80 : decode cX9_breaks 80 = .ok (.getfield 114, 3) := by decide +kernel
theorem dX9_breaks_83 : decode cX9_breaks 83 = .ok (.bipush 6, 2) := by decide +kernel
theorem dX9_breaks_85 : decode cX9_breaks 85 = .ok (.iload_n 1, 1) := by decide +kernel
theorem dX9_breaks_86 : decode cX9_breaks 86 = .ok (.imul, 1) := by decide +kernel
theorem dX9_breaks_87 : decode cX9_breaks 87 = .ok (.iconst 5, 1) := by decide +kernel
theorem dX9_breaks_88 : decode cX9_breaks 88 = .ok (.iadd, 1) := by decide +kernel
theorem dX9_breaks_89 : decode cX9_breaks 89 = .ok (.iaload, 1) := by decide +kernel
theorem dX9_breaks_90 : decode cX9_breaks 90 = .ok (.if_icmp .gt 24, 3) := by decide +kernel
theorem dX9_breaks_93 : decode cX9_breaks 93 = .ok (.aload_n 0, 1) := by decide +kernel
theorem dX9_breaks_94 : decode cX9_breaks 94 = .ok (.getfield 96, 3) := by decide +kernel
theorem dX9_breaks_97 : decode cX9_breaks 97 = .ok (.iload 4, 2) := by decide +kernel
theorem dX9_breaks_99 : decode cX9_breaks 99 = .ok (.iaload, 1) := by decide +kernel
theorem dX9_breaks_100 : decode cX9_breaks 100 = .ok (.aload_n 0, 1) := by decide +kernel
theorem dX9_breaks_101 : decode cX9_breaks 101 = .ok (.getfield 114, 3) := by decide +kernel
theorem dX9_breaks_104 : decode cX9_breaks 104 = .ok (.bipush 6, 2) := by decide +kernel
theorem dX9_breaks_106 : decode cX9_breaks 106 = .ok (.iload_n 1, 1) := by decide +kernel
theorem dX9_breaks_107 : decode cX9_breaks 107 = .ok (.imul, 1) := by decide +kernel
theorem dX9_breaks_108 : decode cX9_breaks 108 = .ok (.iconst 4, 1) := by decide +kernel
theorem dX9_breaks_109 : decode cX9_breaks 109 = .ok (.iadd, 1) := by decide +kernel
theorem dX9_breaks_110 : decode cX9_breaks 110 = .ok (.iaload, 1) := by decide +kernel
theorem dX9_breaks_111 : decode cX9_breaks 111 = .ok (.if_icmp .ge 7, 3) := by decide +kernel
theorem dX9_breaks_114 : decode cX9_breaks 114 = .ok (.iconst 1, 1) := by decide +kernel
theorem dX9_breaks_115 : decode cX9_breaks 115 = .ok (.goto 33, 3) := by decide +kernel
theorem dX9_breaks_118 : decode cX9_breaks 118 = .ok (.iconst 0, 1) := by decide +kernel
theorem dX9_breaks_119 : decode cX9_breaks 119 = .ok (.goto 29, 3) := by decide +kernel
theorem dX9_breaks_122 : decode cX9_breaks 122 = .ok (.aload_n 0, 1) := by decide +kernel
theorem dX9_breaks_123 : decode cX9_breaks 123 = .ok (.getfield 19, 3) := by decide +kernel
theorem dX9_breaks_126 : decode cX9_breaks 126 = .ok (.iload 4, 2) := by decide +kernel
theorem dX9_breaks_128 : decode cX9_breaks 128 = .ok (.iaload, 1) := by decide +kernel
theorem dX9_breaks_129 : decode cX9_breaks 129 = .ok (.aload_n 0, 1) := by decide +kernel
theorem dX9_breaks_130 : decode cX9_breaks 130 = .ok (.getfield 114, 3) := by decide +kernel
theorem dX9_breaks_133 : decode cX9_breaks 133 = .ok (.bipush 6, 2) := by decide +kernel
theorem dX9_breaks_135 : decode cX9_breaks 135 = .ok (.iload_n 1, 1) := by decide +kernel
theorem dX9_breaks_136 : decode cX9_breaks 136 = .ok (.imul, 1) := by decide +kernel
theorem dX9_breaks_137 : decode cX9_breaks 137 = .ok (.iconst 4, 1) := by decide +kernel
theorem dX9_breaks_138 : decode cX9_breaks 138 = .ok (.iadd, 1) := by decide +kernel
theorem dX9_breaks_139 : decode cX9_breaks 139 = .ok (.iaload, 1) := by decide +kernel
theorem dX9_breaks_140 : decode cX9_breaks 140 = .ok (.if_icmp .eq 7, 3) := by decide +kernel
theorem dX9_breaks_143 : decode cX9_breaks 143 = .ok (.iconst 1, 1) := by decide +kernel
theorem dX9_breaks_144 : decode cX9_breaks 144 = .ok (.goto 4, 3) := by decide +kernel
theorem dX9_breaks_147 : decode cX9_breaks 147 = .ok (.iconst 0, 1) := by decide +kernel
theorem dX9_breaks_148 : decode cX9_breaks 148 = .ok (.istore 5, 2) := by decide +kernel
theorem dX9_breaks_150 : decode cX9_breaks 150 = .ok (.iload_n 3, 1) := by decide +kernel
theorem dX9_breaks_151 : decode cX9_breaks 151 = .ok (.aload_n 0, 1) := by decide +kernel
theorem dX9_breaks_152 : decode cX9_breaks 152 = .ok (.iload 4, 2) := by decide +kernel
theorem dX9_breaks_154 : decode cX9_breaks 154 = .ok (.bipush 6, 2) := by decide +kernel
theorem dX9_breaks_156 : decode cX9_breaks 156 = .ok (.iload_n 1, 1) := by decide +kernel
theorem dX9_breaks_157 : decode cX9_breaks 157 = .ok (.imul, 1) := by decide +kernel
theorem dX9_breaks_158 : decode cX9_breaks 158 = .ok (.invokevirtual 218, 3) := by decide +kernel
theorem dX9_breaks_161 : decode cX9_breaks 161 = .ok (.ifCond .eq 15, 3) := by decide +kernel
theorem dX9_breaks_164 : decode cX9_breaks 164 = .ok (.iload 5, 2) := by decide +kernel
theorem dX9_breaks_166 : decode cX9_breaks 166 = .ok (.ifCond .eq 10, 3) := by decide +kernel
theorem dX9_breaks_169 : decode cX9_breaks 169 = .ok (.iconst 1, 1) := by decide +kernel
theorem dX9_breaks_170 : decode cX9_breaks 170 = .ok (.iload 4, 2) := by decide +kernel
theorem dX9_breaks_172 : decode cX9_breaks 172 = .ok (.ishl, 1) := by decide +kernel
theorem dX9_breaks_173 : decode cX9_breaks 173 = .ok (.goto 4, 3) := by decide +kernel
theorem dX9_breaks_176 : decode cX9_breaks 176 = .ok (.iconst 0, 1) := by decide +kernel
theorem dX9_breaks_177 : decode cX9_breaks 177 = .ok (.ior, 1) := by decide +kernel
theorem dX9_breaks_178 : decode cX9_breaks 178 = .ok (.istore_n 3, 1) := by decide +kernel
theorem dX9_breaks_179 : decode cX9_breaks 179 = .ok (.iinc 4 1, 3) := by decide +kernel
theorem dX9_breaks_182 : decode cX9_breaks 182 = .ok (.goto (-123), 3) := by decide +kernel
theorem dX9_breaks_185 : decode cX9_breaks 185 = .ok (.iload_n 3, 1) := by decide +kernel
theorem dX9_breaks_186 : decode cX9_breaks 186 = .ok (.ireturn, 1) := by decide +kernel
set_option maxRecDepth 100000 in
set_option maxHeartbeats 40000000 in
theorem fm_breaks {G : vG} {l : Launch} (τ : Sg) (i : Int32) : Sp G l yX9_breaks cX9_breaks 6 (some .int) 5 0 0 [.ref 140, .int i] (WW (mx τ)) (QI (fun x _ => x = -2)) := by
  refine Sp_of_R [(some (.ref 140)), (some (.int i)), none, none, none, none] [none, none, none, none] rfl (by simp) rfl (Nat.le_of_ble_eq_true rfl) ?_
  refine R_iload_n (pc := 0) dX9_breaks_0 rfl rfl ?_
  refine R_iconst (pc := 1) (v := 0) dX9_breaks_1 (by decide) ?_
  refine R_aload_n (pc := 2) dX9_breaks_2 rfl rfl ?_
  refine g_X9_215 (pc := 3) (v := .int 0) rfl dX9_breaks_3 (c_140 _) rfl ?_
  refine R_iconst (pc := 6) (v := 1) dX9_breaks_6 (by decide) ?_
  refine R_isub (pc := 7) dX9_breaks_7 ?_
  refine R_cv (-1) (by decide) ?_
  refine k_X9_124 (pc := 8) (sp_X9_in _ _ _ _) rfl (by decide) (Nat.le_refl _) (Nat.le_refl _) (Nat.le_of_ble_eq_true rfl) dX9_breaks_8 (fun x w2 h => ?_)
  obtain ⟨rfl, h⟩ := h
  rcases h with ⟨h, -⟩ | ⟨-, rfl⟩
  · exact absurd h (inR_no _)
  refine R_ifne (pc := 11) 17 dX9_breaks_11 (by decide) (fun h => absurd (by decide) h) (fun _ => ?_)
  refine R_bipush (pc := 14) (v := (-2)) dX9_breaks_14 (by decide) ?_
  exact R_iret (pc := 16) dX9_breaks_16 rfl rfl (Nat.zero_le _) (Nat.zero_le _) ⟨_, rfl, rfl⟩
theorem dX9_stood_0 : decode cX9_stood 0 = .ok (.aload_n 0, 1) := by decide +kernel
theorem dX9_stood_1 : decode cX9_stood 1 = .ok (.iload_n 1, 1) := by decide +kernel
theorem dX9_stood_2 : decode cX9_stood 2 = .ok (.invokevirtual 135, 3) := by decide +kernel
theorem dX9_stood_5 : decode cX9_stood 5 = .ok (.ifCond .eq 11, 3) := by decide +kernel
theorem dX9_stood_8 : decode cX9_stood 8 = .ok (.aload_n 0, 1) := by decide +kernel
theorem dX9_stood_9 : decode cX9_stood 9 = .ok (.iload_n 1, 1) := by decide +kernel
theorem dX9_stood_10 : decode cX9_stood 10 = .ok (.invokevirtual 248, 3) := by decide +kernel
theorem dX9_stood_13 : decode cX9_stood 13 = .ok (.goto 4, 3) := by decide +kernel
theorem dX9_stood_16 : decode cX9_stood 16 = .ok (.lconst 0, 1) := by decide +kernel
theorem dX9_stood_17 : decode cX9_stood 17 = .ok (.lreturn, 1) := by decide +kernel
set_option maxRecDepth 100000 in
set_option maxHeartbeats 40000000 in
theorem fm_stood {G : vG} {l : Launch} (τ : Sg) (a : Int32) : Sp G l yX9_stood cX9_stood 2 (some .long) 4 0 0 [.ref 140, .int a] (WW (mx τ)) (QL (fun x _ => x = 0)) := by
  refine Sp_of_R [(some (.ref 140)), (some (.int a))] [] rfl (by simp) rfl (Nat.le_of_ble_eq_true rfl) ?_
  refine R_aload_n (pc := 0) dX9_stood_0 rfl rfl ?_
  refine R_iload_n (pc := 1) dX9_stood_1 rfl rfl ?_
  refine k_X9_135 (pc := 2) (fx_X9_isThere _ _ rfl) rfl (c_140 _) (by decide) (Nat.le_refl _) (Nat.le_refl _) (Nat.le_of_ble_eq_true rfl) dX9_stood_2 (fun x w2 h => ?_)
  obtain ⟨rfl, rfl⟩ := h
  refine R_ifeq (pc := 5) 16 dX9_stood_5 (by decide) (fun _ => ?_) (fun h => absurd (by decide) h)
  refine R_lconst (pc := 16) (v := 0) dX9_stood_16 (by decide) ?_
  exact R_lret (pc := 17) dX9_stood_17 rfl (Nat.zero_le _) (Nat.zero_le _) ⟨_, rfl, rfl⟩
theorem dX9_erase_0 : decode cX9_erase 0 = .ok (.aload_n 0, 1) := by decide +kernel
theorem dX9_erase_1 : decode cX9_erase 1 = .ok (.getfield 254, 3) := by decide +kernel
theorem dX9_erase_4 : decode cX9_erase 4 = .ok (.istore_n 1, 1) := by decide +kernel
theorem dX9_erase_5 : decode cX9_erase 5 = .ok (.aload_n 0, 1) := by decide +kernel
theorem dX9_erase_6 : decode cX9_erase 6 = .ok (.iconst 0, 1) := by decide +kernel
theorem dX9_erase_7 : decode cX9_erase 7 = .ok (.putfield 254, 3) := by decide +kernel
theorem dX9_erase_10 : decode cX9_erase 10 = .ok (.iload_n 1, 1) := by decide +kernel
theorem dX9_erase_11 : decode cX9_erase 11 = .ok (.ireturn, 1) := by decide +kernel
set_option maxRecDepth 100000 in
set_option maxHeartbeats 40000000 in
theorem fm_erase {G : vG} {l : Launch} (τ : Sg)  : Sp G l yX9_erase cX9_erase 2 (some .int) 0 0 0 [.ref 140] (WW (mx τ)) (QI (fun x _ => x = 0)) := by
  refine Sp_of_R [(some (.ref 140)), none] [none] rfl (by simp) rfl (Nat.le_of_ble_eq_true rfl) ?_
  refine R_aload_n (pc := 0) dX9_erase_0 rfl rfl ?_
  refine g_X9_254 (pc := 1) (v := .int 0) rfl dX9_erase_1 (c_140 _) rfl ?_
  refine st_2_1_i_a (pc := 4) dX9_erase_4 ?_
  refine R_aload_n (pc := 5) dX9_erase_5 rfl rfl ?_
  refine R_iconst (pc := 6) (v := 0) dX9_erase_6 (by decide) ?_
  refine p_X9_254 (pc := 7) rfl dX9_erase_7 (c_140 _) (Nat.le_of_ble_eq_true rfl) rfl rfl (s_140_37 _ _) ?_
  refine R_iload_n (pc := 10) dX9_erase_10 rfl rfl ?_
  exact R_iret (pc := 11) dX9_erase_11 rfl rfl (Nat.zero_le _) (Nat.zero_le _) ⟨_, rfl, rfl⟩
theorem dX9_days_0 : decode cX9_days 0 = .ok (.iload_n 1, 1) := by decide +kernel
theorem dX9_days_1 : decode cX9_days 1 = .ok (.iconst 1, 1) := by decide +kernel
theorem dX9_days_2 : decode cX9_days 2 = .ok (.bipush 99, 2) := by decide +kernel
theorem dX9_days_4 : decode cX9_days 4 = .ok (.invokestatic 124, 3) := by decide +kernel
theorem dX9_days_7 : decode cX9_days 7 = .ok (.ifCond .eq 15, 3) := by decide +kernel
theorem dX9_days_10 : decode cX9_days 10 = .ok (.aload_n 0, 1) := by decide +kernel
theorem dX9_days_11 : decode cX9_days 11 = .ok (.getfield 132, 3) := by decide +kernel
theorem dX9_days_14 : decode cX9_days 14 = .ok (.iload_n 1, 1) := by decide +kernel
theorem dX9_days_15 : decode cX9_days 15 = .ok (.iadd, 1) := by decide +kernel
theorem dX9_days_16 : decode cX9_days 16 = .ok (.sipush 999, 3) := by decide +kernel
theorem dX9_days_19 : decode cX9_days 19 = .ok (.if_icmp .le 6, 3) := by decide +kernel
theorem dX9_days_22 : decode cX9_days 22 = .ok (.bipush (-3), 2) := by decide +kernel
theorem dX9_days_24 : decode cX9_days 24 = .ok (.ireturn, 1) := by decide +kernel
theorem dX9_days_25 : decode cX9_days 25 = .ok (.aload_n 0, 1) := by decide +kernel
theorem dX9_days_26 : decode cX9_days 26 = .ok (.dup, 1) := by decide +kernel
theorem dX9_days_27 : decode cX9_days 27 = .ok (.getfield 132, 3) := by decide +kernel
theorem dX9_days_30 : decode cX9_days 30 = .ok (.iload_n 1, 1) := by decide +kernel
theorem dX9_days_31 : decode cX9_days 31 = .ok (.iadd, 1) := by decide +kernel
theorem dX9_days_32 : decode cX9_days 32 = .ok (.putfield 132, 3) := by decide +kernel
theorem dX9_days_35 : decode cX9_days 35 = .ok (.aload_n 0, 1) := by decide +kernel
theorem dX9_days_36 : decode cX9_days 36 = .ok (.getfield 132, 3) := by decide +kernel
theorem dX9_days_39 : decode cX9_days 39 = .ok (.ireturn, 1) := by decide +kernel
set_option maxRecDepth 100000 in
set_option maxHeartbeats 40000000 in
theorem fm_days {G : vG} {l : Launch} (τ : Sg) (n : Int32) : Sp G l yX9_days cX9_days 2 (some .int) 1 0 0 [.ref 140, .int n] (WW (mx τ)) (QI (fun x _ => x = an_days n)) := by
  refine Sp_of_R [(some (.ref 140)), (some (.int n))] [] rfl (by simp) rfl (Nat.le_of_ble_eq_true rfl) ?_
  refine R_iload_n (pc := 0) dX9_days_0 rfl rfl ?_
  refine R_iconst (pc := 1) (v := 1) dX9_days_1 (by decide) ?_
  refine R_bipush (pc := 2) (v := 99) dX9_days_2 (by decide) ?_
  refine k_X9_124 (pc := 4) (sp_X9_in _ _ _ _) rfl (by decide) (Nat.le_refl _) (Nat.le_refl _) (Nat.le_of_ble_eq_true rfl) dX9_days_4 (fun x w2 h => ?_)
  rcases h with ⟨rfl, ⟨h1, rfl⟩ | ⟨h1, rfl⟩⟩
  · skip
    refine R_ifeq (pc := 7) 22 dX9_days_7 (by decide) (fun h => absurd h (by decide)) (fun _ => ?_)
    refine R_aload_n (pc := 10) dX9_days_10 rfl rfl ?_
    refine g_X9_132 (pc := 11) (v := .int 0) rfl dX9_days_11 (c_140 _) rfl ?_
    refine R_iload_n (pc := 14) dX9_days_14 rfl rfl ?_
    refine R_iadd (pc := 15) dX9_days_15 ?_
    refine R_sipush (pc := 16) (v := 999) dX9_days_16 (by decide) ?_
    refine R_icle (pc := 19) 25 dX9_days_19 (by decide) (fun b19_3 => ?_) (fun b19_3 => ?_)
    · skip
      refine R_aload_n (pc := 25) dX9_days_25 rfl rfl ?_
      refine R_dup (pc := 26) dX9_days_26 rfl ?_
      refine g_X9_132 (pc := 27) (v := .int 0) rfl dX9_days_27 (c_140 _) rfl ?_
      refine R_iload_n (pc := 30) dX9_days_30 rfl rfl ?_
      refine R_iadd (pc := 31) dX9_days_31 ?_
      refine p_X9_132 (pc := 32) rfl dX9_days_32 (c_140 _) (Nat.le_of_ble_eq_true rfl) rfl rfl (s_140_11 _ _) ?_
      refine R_aload_n (pc := 35) dX9_days_35 rfl rfl ?_
      refine g_X9_132 (pc := 36) (v := .int (0 + n)) rfl dX9_days_36 (c_140 _) rfl ?_
      exact R_iret (pc := 39) dX9_days_39 rfl rfl (Nat.zero_le _) (Nat.zero_le _) ⟨_, rfl, (by first | (simp only [an_days, inB_t h1, cond_true, cond_false, Bool.and_true, Bool.true_and, Bool.and_false, Bool.false_and]; done) | (simp only [an_days, inB_t h1, cond_true, cond_false, Bool.and_true, Bool.true_and, Bool.and_false, Bool.false_and, b19_3, if_true, if_false, ite_self]; done) | (simp only [an_days, inB_t h1, cond_true, cond_false, Bool.and_true, Bool.true_and, Bool.and_false, Bool.false_and] <;> simp [b19_3]; done) | (simp only [an_days, inB_t h1, cond_true, cond_false, Bool.and_true, Bool.true_and, Bool.and_false, Bool.false_and] <;> decide))⟩
    · skip
      refine R_bipush (pc := 22) (v := (-3)) dX9_days_22 (by decide) ?_
      exact R_iret (pc := 24) dX9_days_24 rfl rfl (Nat.zero_le _) (Nat.zero_le _) ⟨_, rfl, (by first | (simp only [an_days, inB_t h1, cond_true, cond_false, Bool.and_true, Bool.true_and, Bool.and_false, Bool.false_and]; done) | (simp only [an_days, inB_t h1, cond_true, cond_false, Bool.and_true, Bool.true_and, Bool.and_false, Bool.false_and, b19_3, if_true, if_false, ite_self]; done) | (simp only [an_days, inB_t h1, cond_true, cond_false, Bool.and_true, Bool.true_and, Bool.and_false, Bool.false_and] <;> simp [b19_3]; done) | (simp only [an_days, inB_t h1, cond_true, cond_false, Bool.and_true, Bool.true_and, Bool.and_false, Bool.false_and] <;> decide))⟩
  · skip
    refine R_ifeq (pc := 7) 22 dX9_days_7 (by decide) (fun _ => ?_) (fun h => absurd (by decide) h)
    refine R_bipush (pc := 22) (v := (-3)) dX9_days_22 (by decide) ?_
    exact R_iret (pc := 24) dX9_days_24 rfl rfl (Nat.zero_le _) (Nat.zero_le _) ⟨_, rfl, (by first | (simp only [an_days, inB_f h1, cond_true, cond_false, Bool.and_true, Bool.true_and, Bool.and_false, Bool.false_and]; done) | (simp only [an_days, inB_f h1, cond_true, cond_false, Bool.and_true, Bool.true_and, Bool.and_false, Bool.false_and, if_true, if_true, if_false, ite_self]; done) | (simp only [an_days, inB_f h1, cond_true, cond_false, Bool.and_true, Bool.true_and, Bool.and_false, Bool.false_and] <;> simp []; done) | (simp only [an_days, inB_f h1, cond_true, cond_false, Bool.and_true, Bool.true_and, Bool.and_false, Bool.false_and] <;> decide))⟩
theorem dX9_unseen_0 : decode cX9_unseen 0 = .ok (.iload_n 1, 1) := by decide +kernel
theorem dX9_unseen_1 : decode cX9_unseen 1 = .ok (.iconst 0, 1) := by decide +kernel
theorem dX9_unseen_2 : decode cX9_unseen 2 = .ok (.iconst 1, 1) := by decide +kernel
theorem dX9_unseen_3 : decode cX9_unseen 3 = .ok (.invokestatic 124, 3) := by decide +kernel
theorem dX9_unseen_6 : decode cX9_unseen 6 = .ok (.ifCond .ne 6, 3) := by decide +kernel
theorem dX9_unseen_9 : decode cX9_unseen 9 = .ok (.bipush (-3), 2) := by decide +kernel
theorem dX9_unseen_11 : decode cX9_unseen 11 = .ok (.ireturn, 1) := by decide +kernel
theorem dX9_unseen_12 : decode cX9_unseen 12 = .ok (.aload_n 0, 1) := by decide +kernel
theorem dX9_unseen_13 : decode cX9_unseen 13 = .ok (.invokevirtual 162, 3) := by decide +kernel
theorem dX9_unseen_16 : decode cX9_unseen 16 = .ok (.aload_n 0, 1) := by decide +kernel
theorem dX9_unseen_17 : decode cX9_unseen 17 = .ok (.aload_n 0, 1) := by decide +kernel
theorem dX9_unseen_18 : decode cX9_unseen 18 = .ok (.getfield 57, 3) := by decide +kernel
theorem dX9_unseen_21 : decode cX9_unseen 21 = .ok (.iconst 1, 1) := by decide +kernel
theorem dX9_unseen_22 : decode cX9_unseen 22 = .ok (.iconst (-1), 1) := by decide +kernel
theorem dX9_unseen_23 : decode cX9_unseen 23 = .ok (.invokevirtual 165, 3) := by decide +kernel
theorem dX9_unseen_26 : decode cX9_unseen 26 = .ok (.iconst 0, 1) := by decide +kernel
theorem dX9_unseen_27 : decode cX9_unseen 27 = .ok (.istore_n 2, 1) := by decide +kernel
theorem dX9_unseen_28 : decode cX9_unseen 28 = .ok (.iconst 0, 1) := by decide +kernel
theorem dX9_unseen_29 : decode cX9_unseen 29 = .ok (.istore_n 3, 1) := by decide +kernel
theorem dX9_unseen_30 : decode cX9_unseen 30 = .ok (.iconst 0, 1) := by decide +kernel
theorem dX9_unseen_31 : decode cX9_unseen 31 = .ok (.istore 4, 2) := by decide +kernel
theorem dX9_unseen_33 : decode cX9_unseen 33 = .ok (.iload 4, 2) := by decide +kernel
theorem dX9_unseen_35 : decode cX9_unseen 35 = .ok (.aload_n 0, 1) := by decide +kernel
theorem dX9_unseen_36 : decode cX9_unseen 36 = .ok (.invokevirtual 120, 3) := by decide +kernel
theorem dX9_unseen_39 : decode cX9_unseen 39 = .ok (.if_icmp .ge 64, 3) := by decide +kernel
theorem dX9_unseen_42 : decode cX9_unseen 42 = .ok (.aload_n 0, 1) := by decide +kernel
theorem dX9_unseen_43 : decode cX9_unseen 43 = .ok (.getfield 57, 3) := by decide +kernel
theorem dX9_unseen_46 : decode cX9_unseen 46 = .ok (.iload 4, 2) := by decide +kernel
theorem dX9_unseen_48 : decode cX9_unseen 48 = .ok (.iaload, 1) := by decide +kernel
theorem dX9_unseen_49 : decode cX9_unseen 49 = .ok (.iload 4, 2) := by decide +kernel
theorem dX9_unseen_51 : decode cX9_unseen 51 = .ok (.if_icmp .ne 15, 3) := by decide +kernel
theorem dX9_unseen_54 : decode cX9_unseen 54 = .ok (.aload_n 0, 1) := by decide +kernel
theorem dX9_unseen_55 : decode cX9_unseen 55 = .ok (.iload 4, 2) := by decide +kernel
theorem dX9_unseen_57 : decode cX9_unseen 57 = .ok (.invokevirtual 169, 3) := by decide +kernel
theorem dX9_unseen_60 : decode cX9_unseen 60 = .ok (.invokestatic 173, 3) := by decide +kernel
theorem dX9_unseen_63 : decode cX9_unseen 63 = .ok (.goto 4, 3) := by decide +kernel
theorem dX9_unseen_66 : decode cX9_unseen 66 = .ok (.iconst 0, 1) := by decide +kernel
theorem dX9_unseen_67 : decode cX9_unseen 67 = .ok (.istore 5, 2) := by decide +kernel
theorem dX9_unseen_69 : decode cX9_unseen 69 = .ok (.iload_n 2, 1) := by decide +kernel
theorem dX9_unseen_70 : decode cX9_unseen 70 = .ok (.iload 5, 2) := by decide +kernel
theorem dX9_unseen_72 : decode cX9_unseen 72 = .ok (.iconst 1, 1) := by decide +kernel
theorem dX9_unseen_73 : decode cX9_unseen 73 = .ok (.if_icmp .ne 7, 3) := by decide +kernel
theorem dX9_unseen_76 : decode cX9_unseen 76 = .ok (.iconst 1, 1) := by decide +kernel
theorem dX9_unseen_77 : decode cX9_unseen 77 = .ok (.goto 4, 3) := by decide +kernel
theorem dX9_unseen_80 : decode cX9_unseen 80 = .ok (.iconst 0, 1) := by decide +kernel
theorem dX9_unseen_81 : decode cX9_unseen 81 = .ok (.iadd, 1) := by decide +kernel
theorem dX9_unseen_82 : decode cX9_unseen 82 = .ok (.istore_n 2, 1) := by decide +kernel
theorem dX9_unseen_83 : decode cX9_unseen 83 = .ok (.iload_n 3, 1) := by decide +kernel
theorem dX9_unseen_84 : decode cX9_unseen 84 = .ok (.iload 5, 2) := by decide +kernel
theorem dX9_unseen_86 : decode cX9_unseen 86 = .ok (.iconst 2, 1) := by decide +kernel
theorem dX9_unseen_87 : decode cX9_unseen 87 = .ok (.if_icmp .ne 7, 3) := by decide +kernel
theorem dX9_unseen_90 : decode cX9_unseen 90 = .ok (.iconst 1, 1) := by decide +kernel
theorem dX9_unseen_91 : decode cX9_unseen 91 = .ok (.goto 4, 3) := by decide +kernel
theorem dX9_unseen_94 : decode cX9_unseen 94 = .ok (.iconst 0, 1) := by decide +kernel
theorem dX9_unseen_95 : decode cX9_unseen 95 = .ok (.iadd, 1) := by decide +kernel
theorem dX9_unseen_96 : decode cX9_unseen 96 = .ok (.istore_n 3, 1) := by decide +kernel
theorem dX9_unseen_97 : decode cX9_unseen 97 = .ok (.iinc 4 1, 3) := by decide +kernel
theorem dX9_unseen_100 : decode cX9_unseen 100 = .ok (.goto (-67), 3) := by decide +kernel
theorem dX9_unseen_103 : decode cX9_unseen 103 = .ok (.iload_n 3, 1) := by decide +kernel
theorem dX9_unseen_104 : decode cX9_unseen 104 = .ok (.ifCond .ne 24, 3) := by decide +kernel
theorem dX9_unseen_107 : decode cX9_unseen 107 = .ok (.iload_n 2, 1) := by decide +kernel
theorem dX9_unseen_108 : decode cX9_unseen 108 = .ok (.iload_n 2, 1) := by decide +kernel
theorem dX9_unseen_109 : decode cX9_unseen 109 = .ok (.iconst 1, 1) := by decide +kernel
theorem dX9_unseen_110 : decode cX9_unseen 110 = .ok (.isub, 1) := by decide +kernel
theorem dX9_unseen_111 : decode cX9_unseen 111 = .ok (.imul, 1) := by decide +kernel
theorem dX9_unseen_112 : decode cX9_unseen 112 = .ok (.iconst 2, 1) := by decide +kernel
theorem dX9_unseen_113 : decode cX9_unseen 113 = .ok (.iload_n 1, 1) := by decide +kernel
theorem dX9_unseen_114 : decode cX9_unseen 114 = .ok (.ifCond .ne 7, 3) := by decide +kernel
theorem dX9_unseen_117 : decode cX9_unseen 117 = .ok (.iconst 1, 1) := by decide +kernel
theorem dX9_unseen_118 : decode cX9_unseen 118 = .ok (.goto 4, 3) := by decide +kernel
theorem dX9_unseen_121 : decode cX9_unseen 121 = .ok (.iconst 0, 1) := by decide +kernel
theorem dX9_unseen_122 : decode cX9_unseen 122 = .ok (.invokestatic 194, 3) := by decide +kernel
theorem dX9_unseen_125 : decode cX9_unseen 125 = .ok (.goto 21, 3) := by decide +kernel
theorem dX9_unseen_128 : decode cX9_unseen 128 = .ok (.iload_n 2, 1) := by decide +kernel
theorem dX9_unseen_129 : decode cX9_unseen 129 = .ok (.iload_n 2, 1) := by decide +kernel
theorem dX9_unseen_130 : decode cX9_unseen 130 = .ok (.imul, 1) := by decide +kernel
theorem dX9_unseen_131 : decode cX9_unseen 131 = .ok (.iconst 2, 1) := by decide +kernel
theorem dX9_unseen_132 : decode cX9_unseen 132 = .ok (.iload_n 3, 1) := by decide +kernel
theorem dX9_unseen_133 : decode cX9_unseen 133 = .ok (.imul, 1) := by decide +kernel
theorem dX9_unseen_134 : decode cX9_unseen 134 = .ok (.iload_n 1, 1) := by decide +kernel
theorem dX9_unseen_135 : decode cX9_unseen 135 = .ok (.ifCond .ne 7, 3) := by decide +kernel
theorem dX9_unseen_138 : decode cX9_unseen 138 = .ok (.iconst 1, 1) := by decide +kernel
theorem dX9_unseen_139 : decode cX9_unseen 139 = .ok (.goto 4, 3) := by decide +kernel
theorem dX9_unseen_142 : decode cX9_unseen 142 = .ok (.iconst 0, 1) := by decide +kernel
theorem dX9_unseen_143 : decode cX9_unseen 143 = .ok (.invokestatic 194, 3) := by decide +kernel
theorem dX9_unseen_146 : decode cX9_unseen 146 = .ok (.ireturn, 1) := by decide +kernel
set_option maxRecDepth 100000 in
set_option maxHeartbeats 40000000 in
theorem fm_unseen {G : vG} {l : Launch} (τ : Sg) (a : Int32) : Sp G l yX9_unseen cX9_unseen 6 (some .int) 4 0 0 [.ref 140, .int a] (WW (mx τ)) (QI (fun x _ => x = an_unseen a)) := by
  refine Sp_of_R [(some (.ref 140)), (some (.int a)), none, none, none, none] [none, none, none, none] rfl (by simp) rfl (Nat.le_of_ble_eq_true rfl) ?_
  refine R_iload_n (pc := 0) dX9_unseen_0 rfl rfl ?_
  refine R_iconst (pc := 1) (v := 0) dX9_unseen_1 (by decide) ?_
  refine R_iconst (pc := 2) (v := 1) dX9_unseen_2 (by decide) ?_
  refine k_X9_124 (pc := 3) (sp_X9_in _ _ _ _) rfl (by decide) (Nat.le_refl _) (Nat.le_refl _) (Nat.le_of_ble_eq_true rfl) dX9_unseen_3 (fun x w2 h => ?_)
  rcases h with ⟨rfl, ⟨h1, rfl⟩ | ⟨h1, rfl⟩⟩
  · skip
    refine R_ifne (pc := 6) 12 dX9_unseen_6 (by decide) (fun _ => ?_) (fun h => absurd h (by decide))
    refine R_aload_n (pc := 12) dX9_unseen_12 rfl rfl ?_
    refine k_X9_162 (pc := 13) (fx_X9_findUnlike _ rfl) rfl (c_140 _) (by decide) (Nat.le_refl _) (Nat.le_refl _) (Nat.le_of_ble_eq_true rfl) dX9_unseen_13 (fun w2 h => ?_)
    subst h
    refine R_aload_n (pc := 16) dX9_unseen_16 rfl rfl ?_
    refine R_aload_n (pc := 17) dX9_unseen_17 rfl rfl ?_
    refine g_X9_57 (pc := 18) (v := .ref 153) rfl dX9_unseen_18 (c_140 _) rfl ?_
    refine R_iconst (pc := 21) (v := 1) dX9_unseen_21 (by decide) ?_
    refine R_iconst (pc := 22) (v := (-1)) dX9_unseen_22 (by decide) ?_
    refine k_X9_165 (pc := 23) (fx_X9_findChains _ _ _ _ rfl) rfl (c_140 _) (by decide) (Nat.le_refl _) (Nat.le_refl _) (Nat.le_of_ble_eq_true rfl) dX9_unseen_23 (fun w2 h => ?_)
    subst h
    refine R_iconst (pc := 26) (v := 0) dX9_unseen_26 (by decide) ?_
    refine st_6_2_i_i (pc := 27) dX9_unseen_27 ?_
    refine R_iconst (pc := 28) (v := 0) dX9_unseen_28 (by decide) ?_
    refine st_6_3_i_i (pc := 29) dX9_unseen_29 ?_
    refine R_iconst (pc := 30) (v := 0) dX9_unseen_30 (by decide) ?_
    refine st_6_4_i_i (pc := 31) dX9_unseen_31 ?_
    refine R_iload (pc := 33) dX9_unseen_33 rfl ?_
    refine R_aload_n (pc := 35) dX9_unseen_35 rfl rfl ?_
    refine k_X9_120 (pc := 36) (fx_X9_thereMany _ rfl) rfl (c_140 _) (by decide) (Nat.le_refl _) (Nat.le_refl _) (Nat.le_of_ble_eq_true rfl) dX9_unseen_36 (fun x w2 h => ?_)
    obtain ⟨rfl, rfl⟩ := h
    refine R_icge (pc := 39) 103 dX9_unseen_39 (by decide) (fun _ => ?_) (fun h => absurd (by decide) h)
    refine R_iload_n (pc := 103) dX9_unseen_103 rfl rfl ?_
    refine R_ifne (pc := 104) 128 dX9_unseen_104 (by decide) (fun h => absurd (by decide) h) (fun _ => ?_)
    refine R_iload_n (pc := 107) dX9_unseen_107 rfl rfl ?_
    refine R_iload_n (pc := 108) dX9_unseen_108 rfl rfl ?_
    refine R_iconst (pc := 109) (v := 1) dX9_unseen_109 (by decide) ?_
    refine R_isub (pc := 110) dX9_unseen_110 ?_
    refine R_cv (-1) (by decide) ?_
    refine R_imul (pc := 111) dX9_unseen_111 ?_
    refine R_cv 0 (by decide) ?_
    refine R_iconst (pc := 112) (v := 2) dX9_unseen_112 (by decide) ?_
    refine R_iload_n (pc := 113) dX9_unseen_113 rfl rfl ?_
    refine R_ifne (pc := 114) 121 dX9_unseen_114 (by decide) (fun b114_5 => ?_) (fun b114_5 => ?_)
    · skip
      refine R_iconst (pc := 121) (v := 0) dX9_unseen_121 (by decide) ?_
      refine k_X9_194 (pc := 122) (fx_X9_lowest0 _) rfl (by decide) (Nat.le_refl _) (Nat.le_refl _) (Nat.le_of_ble_eq_true rfl) dX9_unseen_122 (fun x w2 h => ?_)
      obtain ⟨rfl, rfl⟩ := h
      refine R_goto (pc := 125) 146 dX9_unseen_125 (by decide) ?_
      exact R_iret (pc := 146) dX9_unseen_146 rfl rfl (Nat.zero_le _) (Nat.zero_le _) ⟨_, rfl, (by first | (simp only [an_unseen, inB_t h1, cond_true, cond_false, Bool.and_true, Bool.true_and, Bool.and_false, Bool.false_and]; done) | (simp only [an_unseen, inB_t h1, cond_true, cond_false, Bool.and_true, Bool.true_and, Bool.and_false, Bool.false_and, b114_5, if_true, if_false, ite_self]; done) | (simp only [an_unseen, inB_t h1, cond_true, cond_false, Bool.and_true, Bool.true_and, Bool.and_false, Bool.false_and] <;> simp [b114_5]; done) | (simp only [an_unseen, inB_t h1, cond_true, cond_false, Bool.and_true, Bool.true_and, Bool.and_false, Bool.false_and] <;> decide))⟩
    · skip
      refine R_iconst (pc := 117) (v := 1) dX9_unseen_117 (by decide) ?_
      refine R_goto (pc := 118) 122 dX9_unseen_118 (by decide) ?_
      refine k_X9_194 (pc := 122) (fx_X9_lowest1 _) rfl (by decide) (Nat.le_refl _) (Nat.le_refl _) (Nat.le_of_ble_eq_true rfl) dX9_unseen_122 (fun x w2 h => ?_)
      obtain ⟨rfl, rfl⟩ := h
      refine R_goto (pc := 125) 146 dX9_unseen_125 (by decide) ?_
      exact R_iret (pc := 146) dX9_unseen_146 rfl rfl (Nat.zero_le _) (Nat.zero_le _) ⟨_, rfl, (by first | (simp only [an_unseen, inB_t h1, cond_true, cond_false, Bool.and_true, Bool.true_and, Bool.and_false, Bool.false_and]; done) | (simp only [an_unseen, inB_t h1, cond_true, cond_false, Bool.and_true, Bool.true_and, Bool.and_false, Bool.false_and, b114_5, if_true, if_false, ite_self]; done) | (simp only [an_unseen, inB_t h1, cond_true, cond_false, Bool.and_true, Bool.true_and, Bool.and_false, Bool.false_and] <;> simp [b114_5]; done) | (simp only [an_unseen, inB_t h1, cond_true, cond_false, Bool.and_true, Bool.true_and, Bool.and_false, Bool.false_and] <;> decide))⟩
  · skip
    refine R_ifne (pc := 6) 12 dX9_unseen_6 (by decide) (fun h => absurd (by decide) h) (fun _ => ?_)
    refine R_bipush (pc := 9) (v := (-3)) dX9_unseen_9 (by decide) ?_
    exact R_iret (pc := 11) dX9_unseen_11 rfl rfl (Nat.zero_le _) (Nat.zero_le _) ⟨_, rfl, (by first | (simp only [an_unseen, inB_f h1, cond_true, cond_false, Bool.and_true, Bool.true_and, Bool.and_false, Bool.false_and]; done) | (simp only [an_unseen, inB_f h1, cond_true, cond_false, Bool.and_true, Bool.true_and, Bool.and_false, Bool.false_and, if_true, if_true, if_false, ite_self]; done) | (simp only [an_unseen, inB_f h1, cond_true, cond_false, Bool.and_true, Bool.true_and, Bool.and_false, Bool.false_and] <;> simp []; done) | (simp only [an_unseen, inB_f h1, cond_true, cond_false, Bool.and_true, Bool.true_and, Bool.and_false, Bool.false_and] <;> decide))⟩
theorem dX9_overlap_0 : decode cX9_overlap 0 = .ok (.iload_n 1, 1) := by decide +kernel
theorem dX9_overlap_1 : decode cX9_overlap 1 = .ok (.iconst 0, 1) := by decide +kernel
theorem dX9_overlap_2 : decode cX9_overlap 2 = .ok (.iconst 3, 1) := by decide +kernel
theorem dX9_overlap_3 : decode cX9_overlap 3 = .ok (.invokestatic 124, 3) := by decide +kernel
theorem dX9_overlap_6 : decode cX9_overlap 6 = .ok (.ifCond .eq 17, 3) := by decide +kernel
theorem dX9_overlap_9 : decode cX9_overlap 9 = .ok (.iload_n 2, 1) := by decide +kernel
theorem dX9_overlap_10 : decode cX9_overlap 10 = .ok (.iconst 0, 1) := by decide +kernel
theorem dX9_overlap_11 : decode cX9_overlap 11 = .ok (.iconst 3, 1) := by decide +kernel
theorem dX9_overlap_12 : decode cX9_overlap 12 = .ok (.invokestatic 124, 3) := by decide +kernel
theorem dX9_overlap_15 : decode cX9_overlap 15 = .ok (.ifCond .eq 8, 3) := by decide +kernel
theorem dX9_overlap_18 : decode cX9_overlap 18 = .ok (.iload_n 1, 1) := by decide +kernel
theorem dX9_overlap_19 : decode cX9_overlap 19 = .ok (.iload_n 2, 1) := by decide +kernel
theorem dX9_overlap_20 : decode cX9_overlap 20 = .ok (.if_icmp .ne 6, 3) := by decide +kernel
theorem dX9_overlap_23 : decode cX9_overlap 23 = .ok (.bipush (-2), 2) := by decide +kernel
theorem dX9_overlap_25 : decode cX9_overlap 25 = .ok (.ireturn, 1) := by decide +kernel
theorem dX9_overlap_26 : decode cX9_overlap 26 = .ok (.iload_n 3, 1) := by decide +kernel
theorem dX9_overlap_27 : decode cX9_overlap 27 = .ok (.iconst 0, 1) := by decide +kernel
theorem dX9_overlap_28 : decode cX9_overlap 28 = .ok (.iconst 2, 1) := by decide +kernel
theorem dX9_overlap_29 : decode cX9_overlap 29 = .ok (.invokestatic 124, 3) := by decide +kernel
theorem dX9_overlap_32 : decode cX9_overlap 32 = .ok (.ifCond .ne 6, 3) := by decide +kernel
theorem dX9_overlap_35 : decode cX9_overlap 35 = .ok (.bipush (-3), 2) := by decide +kernel
theorem dX9_overlap_37 : decode cX9_overlap 37 = .ok (.ireturn, 1) := by decide +kernel
theorem dX9_overlap_38 : decode cX9_overlap 38 = .ok (.aload_n 0, 1) := by decide +kernel
theorem dX9_overlap_39 : decode cX9_overlap 39 = .ok (.invokevirtual 162, 3) := by decide +kernel
theorem dX9_overlap_42 : decode cX9_overlap 42 = .ok (.aload_n 0, 1) := by decide +kernel
theorem dX9_overlap_43 : decode cX9_overlap 43 = .ok (.aload_n 0, 1) := by decide +kernel
theorem dX9_overlap_44 : decode cX9_overlap 44 = .ok (.getfield 57, 3) := by decide +kernel
theorem dX9_overlap_47 : decode cX9_overlap 47 = .ok (.iconst 1, 1) := by decide +kernel
theorem dX9_overlap_48 : decode cX9_overlap 48 = .ok (.iconst (-1), 1) := by decide +kernel
theorem dX9_overlap_49 : decode cX9_overlap 49 = .ok (.invokevirtual 165, 3) := by decide +kernel
theorem dX9_overlap_52 : decode cX9_overlap 52 = .ok (.iconst 0, 1) := by decide +kernel
theorem dX9_overlap_53 : decode cX9_overlap 53 = .ok (.istore 4, 2) := by decide +kernel
theorem dX9_overlap_55 : decode cX9_overlap 55 = .ok (.iconst 0, 1) := by decide +kernel
theorem dX9_overlap_56 : decode cX9_overlap 56 = .ok (.istore 5, 2) := by decide +kernel
theorem dX9_overlap_58 : decode cX9_overlap 58 = .ok (.iconst 0, 1) := by decide +kernel
theorem dX9_overlap_59 : decode cX9_overlap 59 = .ok (.istore 6, 2) := by decide +kernel
theorem dX9_overlap_61 : decode cX9_overlap 61 = .ok (.iconst 0, 1) := by decide +kernel
theorem dX9_overlap_62 : decode cX9_overlap 62 = .ok (.istore 7, 2) := by decide +kernel
theorem dX9_overlap_64 : decode cX9_overlap 64 = .ok (.iload 7, 2) := by decide +kernel
theorem dX9_overlap_66 : decode cX9_overlap 66 = .ok (.aload_n 0, 1) := by decide +kernel
theorem dX9_overlap_67 : decode cX9_overlap 67 = .ok (.invokevirtual 120, 3) := by decide +kernel
theorem dX9_overlap_70 : decode cX9_overlap 70 = .ok (.if_icmp .ge 71, 3) := by decide +kernel
theorem dX9_overlap_73 : decode cX9_overlap 73 = .ok (.aload_n 0, 1) := by decide +kernel
theorem dX9_overlap_74 : decode cX9_overlap 74 = .ok (.getfield 57, 3) := by decide +kernel
theorem dX9_overlap_77 : decode cX9_overlap 77 = .ok (.iload 7, 2) := by decide +kernel
theorem dX9_overlap_79 : decode cX9_overlap 79 = .ok (.iaload, 1) := by decide +kernel
theorem dX9_overlap_80 : decode cX9_overlap 80 = .ok (.iload 7, 2) := by decide +kernel
theorem dX9_overlap_82 : decode cX9_overlap 82 = .ok (.if_icmp .ne 12, 3) := by decide +kernel
theorem dX9_overlap_85 : decode cX9_overlap 85 = .ok (.aload_n 0, 1) := by decide +kernel
theorem dX9_overlap_86 : decode cX9_overlap 86 = .ok (.iload 7, 2) := by decide +kernel
theorem dX9_overlap_88 : decode cX9_overlap 88 = .ok (.invokevirtual 169, 3) := by decide +kernel
theorem dX9_overlap_91 : decode cX9_overlap 91 = .ok (.goto 4, 3) := by decide +kernel
theorem dX9_overlap_94 : decode cX9_overlap 94 = .ok (.iconst 0, 1) := by decide +kernel
theorem dX9_overlap_95 : decode cX9_overlap 95 = .ok (.istore 8, 2) := by decide +kernel
theorem dX9_overlap_97 : decode cX9_overlap 97 = .ok (.iload 5, 2) := by decide +kernel
theorem dX9_overlap_99 : decode cX9_overlap 99 = .ok (.iload 8, 2) := by decide +kernel
theorem dX9_overlap_101 : decode cX9_overlap 101 = .ok (.iload_n 1, 1) := by decide +kernel
theorem dX9_overlap_102 : decode cX9_overlap 102 = .ok (.ishr, 1) := by decide +kernel
theorem dX9_overlap_103 : decode cX9_overlap 103 = .ok (.iconst 1, 1) := by decide +kernel
theorem dX9_overlap_104 : decode cX9_overlap 104 = .ok (.iand, 1) := by decide +kernel
theorem dX9_overlap_105 : decode cX9_overlap 105 = .ok (.iadd, 1) := by decide +kernel
theorem dX9_overlap_106 : decode cX9_overlap 106 = .ok (.istore 5, 2) := by decide +kernel
theorem dX9_overlap_108 : decode cX9_overlap 108 = .ok (.iload 6, 2) := by decide +kernel
theorem dX9_overlap_110 : decode cX9_overlap 110 = .ok (.iload 8, 2) := by decide +kernel
theorem dX9_overlap_112 : decode cX9_overlap 112 = .ok (.iload_n 2, 1) := by decide +kernel
theorem dX9_overlap_113 : decode cX9_overlap 113 = .ok (.ishr, 1) := by decide +kernel
theorem dX9_overlap_114 : decode cX9_overlap 114 = .ok (.iconst 1, 1) := by decide +kernel
theorem dX9_overlap_115 : decode cX9_overlap 115 = .ok (.iand, 1) := by decide +kernel
theorem dX9_overlap_116 : decode cX9_overlap 116 = .ok (.iadd, 1) := by decide +kernel
theorem dX9_overlap_117 : decode cX9_overlap 117 = .ok (.istore 6, 2) := by decide +kernel
theorem dX9_overlap_119 : decode cX9_overlap 119 = .ok (.iload 4, 2) := by decide +kernel
theorem dX9_overlap_121 : decode cX9_overlap 121 = .ok (.iload 8, 2) := by decide +kernel
theorem dX9_overlap_123 : decode cX9_overlap 123 = .ok (.iload_n 1, 1) := by decide +kernel
theorem dX9_overlap_124 : decode cX9_overlap 124 = .ok (.ishr, 1) := by decide +kernel
theorem dX9_overlap_125 : decode cX9_overlap 125 = .ok (.iload 8, 2) := by decide +kernel
theorem dX9_overlap_127 : decode cX9_overlap 127 = .ok (.iload_n 2, 1) := by decide +kernel
theorem dX9_overlap_128 : decode cX9_overlap 128 = .ok (.ishr, 1) := by decide +kernel
theorem dX9_overlap_129 : decode cX9_overlap 129 = .ok (.iand, 1) := by decide +kernel
theorem dX9_overlap_130 : decode cX9_overlap 130 = .ok (.iconst 1, 1) := by decide +kernel
theorem dX9_overlap_131 : decode cX9_overlap 131 = .ok (.iand, 1) := by decide +kernel
theorem dX9_overlap_132 : decode cX9_overlap 132 = .ok (.iadd, 1) := by decide +kernel
theorem dX9_overlap_133 : decode cX9_overlap 133 = .ok (.istore 4, 2) := by decide +kernel
theorem dX9_overlap_135 : decode cX9_overlap 135 = .ok (.iinc 7 1, 3) := by decide +kernel
theorem dX9_overlap_138 : decode cX9_overlap 138 = .ok (.goto (-74), 3) := by decide +kernel
theorem dX9_overlap_141 : decode cX9_overlap 141 = .ok (.iload_n 3, 1) := by decide +kernel
theorem dX9_overlap_142 : decode cX9_overlap 142 = .ok (.ifCond .ne 8, 3) := by decide +kernel
theorem dX9_overlap_145 : decode cX9_overlap 145 = .ok (.iload 4, 2) := by decide +kernel
theorem dX9_overlap_147 : decode cX9_overlap 147 = .ok (.goto 32, 3) := by decide +kernel
theorem dX9_overlap_150 : decode cX9_overlap 150 = .ok (.iload 4, 2) := by decide +kernel
theorem dX9_overlap_152 : decode cX9_overlap 152 = .ok (.ifCond .ne 7, 3) := by decide +kernel
theorem dX9_overlap_155 : decode cX9_overlap 155 = .ok (.iconst (-1), 1) := by decide +kernel
theorem dX9_overlap_156 : decode cX9_overlap 156 = .ok (.goto 23, 3) := by decide +kernel
theorem dX9_overlap_159 : decode cX9_overlap 159 = .ok (.iload 5, 2) := by decide +kernel
theorem dX9_overlap_161 : decode cX9_overlap 161 = .ok (.iload 6, 2) := by decide +kernel
theorem dX9_overlap_163 : decode cX9_overlap 163 = .ok (.imul, 1) := by decide +kernel
theorem dX9_overlap_164 : decode cX9_overlap 164 = .ok (.iload 4, 2) := by decide +kernel
theorem dX9_overlap_166 : decode cX9_overlap 166 = .ok (.iload_n 3, 1) := by decide +kernel
theorem dX9_overlap_167 : decode cX9_overlap 167 = .ok (.iconst 1, 1) := by decide +kernel
theorem dX9_overlap_168 : decode cX9_overlap 168 = .ok (.if_icmp .ne 7, 3) := by decide +kernel
theorem dX9_overlap_171 : decode cX9_overlap 171 = .ok (.iconst 1, 1) := by decide +kernel
theorem dX9_overlap_172 : decode cX9_overlap 172 = .ok (.goto 4, 3) := by decide +kernel
theorem dX9_overlap_175 : decode cX9_overlap 175 = .ok (.iconst 0, 1) := by decide +kernel
theorem dX9_overlap_176 : decode cX9_overlap 176 = .ok (.invokestatic 194, 3) := by decide +kernel
theorem dX9_overlap_179 : decode cX9_overlap 179 = .ok (.ireturn, 1) := by decide +kernel
set_option maxRecDepth 100000 in
set_option maxHeartbeats 40000000 in
theorem fm_overlap {G : vG} {l : Launch} (τ : Sg) (a b c : Int32) : Sp G l yX9_overlap cX9_overlap 9 (some .int) 4 0 0 [.ref 140, .int a, .int b, .int c] (WW (mx τ)) (QI (fun x _ => x = an_overlap a b c)) := by
  refine Sp_of_R [(some (.ref 140)), (some (.int a)), (some (.int b)), (some (.int c)), none, none, none, none, none] [none, none, none, none, none] rfl (by simp) rfl (Nat.le_of_ble_eq_true rfl) ?_
  refine R_iload_n (pc := 0) dX9_overlap_0 rfl rfl ?_
  refine R_iconst (pc := 1) (v := 0) dX9_overlap_1 (by decide) ?_
  refine R_iconst (pc := 2) (v := 3) dX9_overlap_2 (by decide) ?_
  refine k_X9_124 (pc := 3) (sp_X9_in _ _ _ _) rfl (by decide) (Nat.le_refl _) (Nat.le_refl _) (Nat.le_of_ble_eq_true rfl) dX9_overlap_3 (fun x w2 h => ?_)
  rcases h with ⟨rfl, ⟨h1, rfl⟩ | ⟨h1, rfl⟩⟩
  · skip
    refine R_ifeq (pc := 6) 23 dX9_overlap_6 (by decide) (fun h => absurd h (by decide)) (fun _ => ?_)
    refine R_iload_n (pc := 9) dX9_overlap_9 rfl rfl ?_
    refine R_iconst (pc := 10) (v := 0) dX9_overlap_10 (by decide) ?_
    refine R_iconst (pc := 11) (v := 3) dX9_overlap_11 (by decide) ?_
    refine k_X9_124 (pc := 12) (sp_X9_in _ _ _ _) rfl (by decide) (Nat.le_refl _) (Nat.le_refl _) (Nat.le_of_ble_eq_true rfl) dX9_overlap_12 (fun x w2 h => ?_)
    rcases h with ⟨rfl, ⟨h3, rfl⟩ | ⟨h3, rfl⟩⟩
    · skip
      refine R_ifeq (pc := 15) 23 dX9_overlap_15 (by decide) (fun h => absurd h (by decide)) (fun _ => ?_)
      refine R_iload_n (pc := 18) dX9_overlap_18 rfl rfl ?_
      refine R_iload_n (pc := 19) dX9_overlap_19 rfl rfl ?_
      refine R_icne (pc := 20) 26 dX9_overlap_20 (by decide) (fun b20_5 => ?_) (fun b20_5 => ?_)
      · skip
        refine R_iload_n (pc := 26) dX9_overlap_26 rfl rfl ?_
        refine R_iconst (pc := 27) (v := 0) dX9_overlap_27 (by decide) ?_
        refine R_iconst (pc := 28) (v := 2) dX9_overlap_28 (by decide) ?_
        refine k_X9_124 (pc := 29) (sp_X9_in _ _ _ _) rfl (by decide) (Nat.le_refl _) (Nat.le_refl _) (Nat.le_of_ble_eq_true rfl) dX9_overlap_29 (fun x w2 h => ?_)
        rcases h with ⟨rfl, ⟨h6, rfl⟩ | ⟨h6, rfl⟩⟩
        · skip
          refine R_ifne (pc := 32) 38 dX9_overlap_32 (by decide) (fun _ => ?_) (fun h => absurd h (by decide))
          refine R_aload_n (pc := 38) dX9_overlap_38 rfl rfl ?_
          refine k_X9_162 (pc := 39) (fx_X9_findUnlike _ rfl) rfl (c_140 _) (by decide) (Nat.le_refl _) (Nat.le_refl _) (Nat.le_of_ble_eq_true rfl) dX9_overlap_39 (fun w2 h => ?_)
          subst h
          refine R_aload_n (pc := 42) dX9_overlap_42 rfl rfl ?_
          refine R_aload_n (pc := 43) dX9_overlap_43 rfl rfl ?_
          refine g_X9_57 (pc := 44) (v := .ref 153) rfl dX9_overlap_44 (c_140 _) rfl ?_
          refine R_iconst (pc := 47) (v := 1) dX9_overlap_47 (by decide) ?_
          refine R_iconst (pc := 48) (v := (-1)) dX9_overlap_48 (by decide) ?_
          refine k_X9_165 (pc := 49) (fx_X9_findChains _ _ _ _ rfl) rfl (c_140 _) (by decide) (Nat.le_refl _) (Nat.le_refl _) (Nat.le_of_ble_eq_true rfl) dX9_overlap_49 (fun w2 h => ?_)
          subst h
          refine R_iconst (pc := 52) (v := 0) dX9_overlap_52 (by decide) ?_
          refine st_9_4_i_i (pc := 53) dX9_overlap_53 ?_
          refine R_iconst (pc := 55) (v := 0) dX9_overlap_55 (by decide) ?_
          refine st_9_5_i_i (pc := 56) dX9_overlap_56 ?_
          refine R_iconst (pc := 58) (v := 0) dX9_overlap_58 (by decide) ?_
          refine st_9_6_i_i (pc := 59) dX9_overlap_59 ?_
          refine R_iconst (pc := 61) (v := 0) dX9_overlap_61 (by decide) ?_
          refine st_9_7_i_i (pc := 62) dX9_overlap_62 ?_
          refine R_iload (pc := 64) dX9_overlap_64 rfl ?_
          refine R_aload_n (pc := 66) dX9_overlap_66 rfl rfl ?_
          refine k_X9_120 (pc := 67) (fx_X9_thereMany _ rfl) rfl (c_140 _) (by decide) (Nat.le_refl _) (Nat.le_refl _) (Nat.le_of_ble_eq_true rfl) dX9_overlap_67 (fun x w2 h => ?_)
          obtain ⟨rfl, rfl⟩ := h
          refine R_icge (pc := 70) 141 dX9_overlap_70 (by decide) (fun _ => ?_) (fun h => absurd (by decide) h)
          refine R_iload_n (pc := 141) dX9_overlap_141 rfl rfl ?_
          refine R_ifne (pc := 142) 150 dX9_overlap_142 (by decide) (fun b142_9 => ?_) (fun b142_9 => ?_)
          · skip
            refine R_iload (pc := 150) dX9_overlap_150 rfl ?_
            refine R_ifne (pc := 152) 159 dX9_overlap_152 (by decide) (fun h => absurd (by decide) h) (fun _ => ?_)
            refine R_iconst (pc := 155) (v := (-1)) dX9_overlap_155 (by decide) ?_
            refine R_goto (pc := 156) 179 dX9_overlap_156 (by decide) ?_
            exact R_iret (pc := 179) dX9_overlap_179 rfl rfl (Nat.zero_le _) (Nat.zero_le _) ⟨_, rfl, (by first | exact absurd (b20_5.symm.trans b142_9) (by decide) | exact absurd (b142_9.symm.trans b20_5) (by decide) | (simp only [an_overlap, inB_t h1, inB_t h3, inB_t h6, cond_true, cond_false, Bool.and_true, Bool.true_and, Bool.and_false, Bool.false_and]; done) | (simp only [an_overlap, inB_t h1, inB_t h3, inB_t h6, cond_true, cond_false, Bool.and_true, Bool.true_and, Bool.and_false, Bool.false_and, b20_5, b142_9, if_true, if_false, ite_self]; done) | (simp only [an_overlap, inB_t h1, inB_t h3, inB_t h6, cond_true, cond_false, Bool.and_true, Bool.true_and, Bool.and_false, Bool.false_and] <;> simp [b20_5, b142_9]; done) | (simp only [an_overlap, inB_t h1, inB_t h3, inB_t h6, cond_true, cond_false, Bool.and_true, Bool.true_and, Bool.and_false, Bool.false_and] <;> decide))⟩
          · skip
            refine R_iload (pc := 145) dX9_overlap_145 rfl ?_
            refine R_goto (pc := 147) 179 dX9_overlap_147 (by decide) ?_
            exact R_iret (pc := 179) dX9_overlap_179 rfl rfl (Nat.zero_le _) (Nat.zero_le _) ⟨_, rfl, (by first | exact absurd (b20_5.symm.trans b142_9) (by decide) | exact absurd (b142_9.symm.trans b20_5) (by decide) | (simp only [an_overlap, inB_t h1, inB_t h3, inB_t h6, cond_true, cond_false, Bool.and_true, Bool.true_and, Bool.and_false, Bool.false_and]; done) | (simp only [an_overlap, inB_t h1, inB_t h3, inB_t h6, cond_true, cond_false, Bool.and_true, Bool.true_and, Bool.and_false, Bool.false_and, b20_5, b142_9, if_true, if_false, ite_self]; done) | (simp only [an_overlap, inB_t h1, inB_t h3, inB_t h6, cond_true, cond_false, Bool.and_true, Bool.true_and, Bool.and_false, Bool.false_and] <;> simp [b20_5, b142_9]; done) | (simp only [an_overlap, inB_t h1, inB_t h3, inB_t h6, cond_true, cond_false, Bool.and_true, Bool.true_and, Bool.and_false, Bool.false_and] <;> decide))⟩
        · skip
          refine R_ifne (pc := 32) 38 dX9_overlap_32 (by decide) (fun h => absurd (by decide) h) (fun _ => ?_)
          refine R_bipush (pc := 35) (v := (-3)) dX9_overlap_35 (by decide) ?_
          exact R_iret (pc := 37) dX9_overlap_37 rfl rfl (Nat.zero_le _) (Nat.zero_le _) ⟨_, rfl, (by first | (simp only [an_overlap, inB_t h1, inB_t h3, inB_f h6, cond_true, cond_false, Bool.and_true, Bool.true_and, Bool.and_false, Bool.false_and]; done) | (simp only [an_overlap, inB_t h1, inB_t h3, inB_f h6, cond_true, cond_false, Bool.and_true, Bool.true_and, Bool.and_false, Bool.false_and, b20_5, if_true, if_false, ite_self]; done) | (simp only [an_overlap, inB_t h1, inB_t h3, inB_f h6, cond_true, cond_false, Bool.and_true, Bool.true_and, Bool.and_false, Bool.false_and] <;> simp [b20_5]; done) | (simp only [an_overlap, inB_t h1, inB_t h3, inB_f h6, cond_true, cond_false, Bool.and_true, Bool.true_and, Bool.and_false, Bool.false_and] <;> decide))⟩
      · skip
        refine R_bipush (pc := 23) (v := (-2)) dX9_overlap_23 (by decide) ?_
        exact R_iret (pc := 25) dX9_overlap_25 rfl rfl (Nat.zero_le _) (Nat.zero_le _) ⟨_, rfl, (by first | (simp only [an_overlap, inB_t h1, inB_t h3, cond_true, cond_false, Bool.and_true, Bool.true_and, Bool.and_false, Bool.false_and]; done) | (simp only [an_overlap, inB_t h1, inB_t h3, cond_true, cond_false, Bool.and_true, Bool.true_and, Bool.and_false, Bool.false_and, b20_5, if_true, if_false, ite_self]; done) | (simp only [an_overlap, inB_t h1, inB_t h3, cond_true, cond_false, Bool.and_true, Bool.true_and, Bool.and_false, Bool.false_and] <;> simp [b20_5]; done) | (simp only [an_overlap, inB_t h1, inB_t h3, cond_true, cond_false, Bool.and_true, Bool.true_and, Bool.and_false, Bool.false_and] <;> decide))⟩
    · skip
      refine R_ifeq (pc := 15) 23 dX9_overlap_15 (by decide) (fun _ => ?_) (fun h => absurd (by decide) h)
      refine R_bipush (pc := 23) (v := (-2)) dX9_overlap_23 (by decide) ?_
      exact R_iret (pc := 25) dX9_overlap_25 rfl rfl (Nat.zero_le _) (Nat.zero_le _) ⟨_, rfl, (by first | (simp only [an_overlap, inB_t h1, inB_f h3, cond_true, cond_false, Bool.and_true, Bool.true_and, Bool.and_false, Bool.false_and]; done) | (simp only [an_overlap, inB_t h1, inB_f h3, cond_true, cond_false, Bool.and_true, Bool.true_and, Bool.and_false, Bool.false_and, if_true, if_true, if_false, ite_self]; done) | (simp only [an_overlap, inB_t h1, inB_f h3, cond_true, cond_false, Bool.and_true, Bool.true_and, Bool.and_false, Bool.false_and] <;> simp []; done) | (simp only [an_overlap, inB_t h1, inB_f h3, cond_true, cond_false, Bool.and_true, Bool.true_and, Bool.and_false, Bool.false_and] <;> decide))⟩
  · skip
    refine R_ifeq (pc := 6) 23 dX9_overlap_6 (by decide) (fun _ => ?_) (fun h => absurd (by decide) h)
    refine R_bipush (pc := 23) (v := (-2)) dX9_overlap_23 (by decide) ?_
    exact R_iret (pc := 25) dX9_overlap_25 rfl rfl (Nat.zero_le _) (Nat.zero_le _) ⟨_, rfl, (by first | (simp only [an_overlap, inB_f h1, cond_true, cond_false, Bool.and_true, Bool.true_and, Bool.and_false, Bool.false_and]; done) | (simp only [an_overlap, inB_f h1, cond_true, cond_false, Bool.and_true, Bool.true_and, Bool.and_false, Bool.false_and, if_true, if_true, if_false, ite_self]; done) | (simp only [an_overlap, inB_f h1, cond_true, cond_false, Bool.and_true, Bool.true_and, Bool.and_false, Bool.false_and] <;> simp []; done) | (simp only [an_overlap, inB_f h1, cond_true, cond_false, Bool.and_true, Bool.true_and, Bool.and_false, Bool.false_and] <;> decide))⟩
theorem dX9_walls_0 : decode cX9_walls 0 = .ok (.aload_n 0, 1) := by decide +kernel
theorem dX9_walls_1 : decode cX9_walls 1 = .ok (.lload_n 1, 1) := by decide +kernel
theorem dX9_walls_2 : decode cX9_walls 2 = .ok (.putfield 232, 3) := by decide +kernel
theorem dX9_walls_5 : decode cX9_walls 5 = .ok (.iconst 1, 1) := by decide +kernel
theorem dX9_walls_6 : decode cX9_walls 6 = .ok (.ireturn, 1) := by decide +kernel
set_option maxRecDepth 100000 in
set_option maxHeartbeats 40000000 in
theorem fm_walls {G : vG} {l : Launch} (τ : Sg) (a : Int64) : Sp G l yX9_walls cX9_walls 3 (some .int) 0 0 0 [.ref 140, .long a] (WW (mx τ)) (QI (fun x _ => x = 1)) := by
  refine Sp_of_R [(some (.ref 140)), (some (.long a)), none] [] rfl (by simp) rfl (Nat.le_of_ble_eq_true rfl) ?_
  refine R_aload_n (pc := 0) dX9_walls_0 rfl rfl ?_
  refine R_lload_n (pc := 1) dX9_walls_1 rfl rfl ?_
  refine p_X9_232 (pc := 2) rfl dX9_walls_2 (c_140 _) (Nat.le_of_ble_eq_true rfl) rfl rfl (s_140_34 _ _) ?_
  refine R_iconst (pc := 5) (v := 1) dX9_walls_5 (by decide) ?_
  exact R_iret (pc := 6) dX9_walls_6 rfl rfl (Nat.zero_le _) (Nat.zero_le _) ⟨_, rfl, rfl⟩
theorem dX9_feature_0 : decode cX9_feature 0 = .ok (.iload_n 1, 1) := by decide +kernel
theorem dX9_feature_1 : decode cX9_feature 1 = .ok (.iconst 0, 1) := by decide +kernel
theorem dX9_feature_2 : decode cX9_feature 2 = .ok (.bipush 7, 2) := by decide +kernel
theorem dX9_feature_4 : decode cX9_feature 4 = .ok (.invokestatic 124, 3) := by decide +kernel
theorem dX9_feature_7 : decode cX9_feature 7 = .ok (.ifCond .ne 6, 3) := by decide +kernel
theorem dX9_feature_10 : decode cX9_feature 10 = .ok (.bipush (-2), 2) := by decide +kernel
theorem dX9_feature_12 : decode cX9_feature 12 = .ok (.ireturn, 1) := by decide +kernel
theorem dX9_feature_13 : decode cX9_feature 13 = .ok (.iload_n 2, 1) := by decide +kernel
theorem dX9_feature_14 : decode cX9_feature 14 = .ok (.invokestatic 198, 3) := by decide +kernel
theorem dX9_feature_17 : decode cX9_feature 17 = .ok (.ifCond .eq 14, 3) := by decide +kernel
theorem dX9_feature_20 : decode cX9_feature 20 = .ok (.iload_n 3, 1) := by decide +kernel
theorem dX9_feature_21 : decode cX9_feature 21 = .ok (.iload_n 2, 1) := by decide +kernel
theorem dX9_feature_22 : decode cX9_feature 22 = .ok (.sipush 20000, 3) := by decide +kernel
theorem dX9_feature_25 : decode cX9_feature 25 = .ok (.invokestatic 124, 3) := by decide +kernel
theorem dX9_feature_28 : decode cX9_feature 28 = .ok (.ifCond .ne 6, 3) := by decide +kernel
theorem dX9_feature_31 : decode cX9_feature 31 = .ok (.bipush (-3), 2) := by decide +kernel
theorem dX9_feature_33 : decode cX9_feature 33 = .ok (.ireturn, 1) := by decide +kernel
theorem dX9_feature_34 : decode cX9_feature 34 = .ok (.aload_n 0, 1) := by decide +kernel
theorem dX9_feature_35 : decode cX9_feature 35 = .ok (.getfield 66, 3) := by decide +kernel
theorem dX9_feature_38 : decode cX9_feature 38 = .ok (.iload_n 1, 1) := by decide +kernel
theorem dX9_feature_39 : decode cX9_feature 39 = .ok (.iload_n 2, 1) := by decide +kernel
theorem dX9_feature_40 : decode cX9_feature 40 = .ok (.iastore, 1) := by decide +kernel
theorem dX9_feature_41 : decode cX9_feature 41 = .ok (.aload_n 0, 1) := by decide +kernel
theorem dX9_feature_42 : decode cX9_feature 42 = .ok (.getfield 69, 3) := by decide +kernel
theorem dX9_feature_45 : decode cX9_feature 45 = .ok (.iload_n 1, 1) := by decide +kernel
theorem dX9_feature_46 : decode cX9_feature 46 = .ok (.iload_n 3, 1) := by decide +kernel
theorem dX9_feature_47 : decode cX9_feature 47 = .ok (.iastore, 1) := by decide +kernel
theorem dX9_feature_48 : decode cX9_feature 48 = .ok (.iconst 1, 1) := by decide +kernel
theorem dX9_feature_49 : decode cX9_feature 49 = .ok (.ireturn, 1) := by decide +kernel
set_option maxRecDepth 100000 in
set_option maxHeartbeats 40000000 in
theorem fm_feature {G : vG} {l : Launch} (τ : Sg) (f a b : Int32) : Sp G l yX9_feature cX9_feature 4 (some .int) 2 0 0 [.ref 140, .int f, .int a, .int b] (WW (mx τ)) (QI (fun x _ => x = an_feature f a b)) := by
  refine Sp_of_R [(some (.ref 140)), (some (.int f)), (some (.int a)), (some (.int b))] [] rfl (by simp) rfl (Nat.le_of_ble_eq_true rfl) ?_
  refine R_iload_n (pc := 0) dX9_feature_0 rfl rfl ?_
  refine R_iconst (pc := 1) (v := 0) dX9_feature_1 (by decide) ?_
  refine R_bipush (pc := 2) (v := 7) dX9_feature_2 (by decide) ?_
  refine k_X9_124 (pc := 4) (sp_X9_in _ _ _ _) rfl (by decide) (Nat.le_refl _) (Nat.le_refl _) (Nat.le_of_ble_eq_true rfl) dX9_feature_4 (fun x w2 h => ?_)
  rcases h with ⟨rfl, ⟨h1, rfl⟩ | ⟨h1, rfl⟩⟩
  · skip
    refine R_ifne (pc := 7) 13 dX9_feature_7 (by decide) (fun _ => ?_) (fun h => absurd h (by decide))
    refine R_iload_n (pc := 13) dX9_feature_13 rfl rfl ?_
    refine k_X9_198 (pc := 14) (sp_X9_isDay _ _) rfl (by decide) (Nat.le_refl _) (Nat.le_refl _) (Nat.le_of_ble_eq_true rfl) dX9_feature_14 (fun x w2 h => ?_)
    rcases h with ⟨rfl, ⟨h3, rfl⟩ | ⟨h3, rfl⟩⟩
    · skip
      refine R_ifeq (pc := 17) 31 dX9_feature_17 (by decide) (fun h => absurd h (by decide)) (fun _ => ?_)
      refine R_iload_n (pc := 20) dX9_feature_20 rfl rfl ?_
      refine R_iload_n (pc := 21) dX9_feature_21 rfl rfl ?_
      refine R_sipush (pc := 22) (v := 20000) dX9_feature_22 (by decide) ?_
      refine k_X9_124 (pc := 25) (sp_X9_in _ _ _ _) rfl (by decide) (Nat.le_refl _) (Nat.le_refl _) (Nat.le_of_ble_eq_true rfl) dX9_feature_25 (fun x w2 h => ?_)
      rcases h with ⟨rfl, ⟨h5, rfl⟩ | ⟨h5, rfl⟩⟩
      · skip
        refine R_ifne (pc := 28) 34 dX9_feature_28 (by decide) (fun _ => ?_) (fun h => absurd h (by decide))
        refine R_aload_n (pc := 34) dX9_feature_34 rfl rfl ?_
        refine g_X9_66 (pc := 35) (v := .ref 156) rfl dX9_feature_35 (c_140 _) rfl ?_
        refine R_iload_n (pc := 38) dX9_feature_38 rfl rfl ?_
        refine R_iload_n (pc := 39) dX9_feature_39 rfl rfl ?_
        refine W_iastore (pc := 40) dX9_feature_40 (c_156 _) (vp_of_inR h1 (by decide)) (a_156 _ _) ?_
        refine R_aload_n (pc := 41) dX9_feature_41 rfl rfl ?_
        refine g_X9_69 (pc := 42) (v := .ref 157) rfl dX9_feature_42 (c_140 _) rfl ?_
        refine R_iload_n (pc := 45) dX9_feature_45 rfl rfl ?_
        refine R_iload_n (pc := 46) dX9_feature_46 rfl rfl ?_
        refine W_iastore (pc := 47) dX9_feature_47 (c_157 _) (vp_of_inR h1 (by decide)) (a_157 _ _) ?_
        refine R_iconst (pc := 48) (v := 1) dX9_feature_48 (by decide) ?_
        exact R_iret (pc := 49) dX9_feature_49 rfl rfl (Nat.zero_le _) (Nat.zero_le _) ⟨_, rfl, (by first | (simp only [an_feature, inB_t h1, inB_t h3, inB_t h5, cond_true, cond_false, Bool.and_true, Bool.true_and, Bool.and_false, Bool.false_and]; done) | (simp only [an_feature, inB_t h1, inB_t h3, inB_t h5, cond_true, cond_false, Bool.and_true, Bool.true_and, Bool.and_false, Bool.false_and, if_true, if_true, if_false, ite_self]; done) | (simp only [an_feature, inB_t h1, inB_t h3, inB_t h5, cond_true, cond_false, Bool.and_true, Bool.true_and, Bool.and_false, Bool.false_and] <;> simp []; done) | (simp only [an_feature, inB_t h1, inB_t h3, inB_t h5, cond_true, cond_false, Bool.and_true, Bool.true_and, Bool.and_false, Bool.false_and] <;> decide))⟩
      · skip
        refine R_ifne (pc := 28) 34 dX9_feature_28 (by decide) (fun h => absurd (by decide) h) (fun _ => ?_)
        refine R_bipush (pc := 31) (v := (-3)) dX9_feature_31 (by decide) ?_
        exact R_iret (pc := 33) dX9_feature_33 rfl rfl (Nat.zero_le _) (Nat.zero_le _) ⟨_, rfl, (by first | (simp only [an_feature, inB_t h1, inB_t h3, inB_f h5, cond_true, cond_false, Bool.and_true, Bool.true_and, Bool.and_false, Bool.false_and]; done) | (simp only [an_feature, inB_t h1, inB_t h3, inB_f h5, cond_true, cond_false, Bool.and_true, Bool.true_and, Bool.and_false, Bool.false_and, if_true, if_true, if_false, ite_self]; done) | (simp only [an_feature, inB_t h1, inB_t h3, inB_f h5, cond_true, cond_false, Bool.and_true, Bool.true_and, Bool.and_false, Bool.false_and] <;> simp []; done) | (simp only [an_feature, inB_t h1, inB_t h3, inB_f h5, cond_true, cond_false, Bool.and_true, Bool.true_and, Bool.and_false, Bool.false_and] <;> decide))⟩
    · skip
      refine R_ifeq (pc := 17) 31 dX9_feature_17 (by decide) (fun _ => ?_) (fun h => absurd (by decide) h)
      refine R_bipush (pc := 31) (v := (-3)) dX9_feature_31 (by decide) ?_
      exact R_iret (pc := 33) dX9_feature_33 rfl rfl (Nat.zero_le _) (Nat.zero_le _) ⟨_, rfl, (by first | (simp only [an_feature, inB_t h1, inB_f h3, cond_true, cond_false, Bool.and_true, Bool.true_and, Bool.and_false, Bool.false_and]; done) | (simp only [an_feature, inB_t h1, inB_f h3, cond_true, cond_false, Bool.and_true, Bool.true_and, Bool.and_false, Bool.false_and, if_true, if_true, if_false, ite_self]; done) | (simp only [an_feature, inB_t h1, inB_f h3, cond_true, cond_false, Bool.and_true, Bool.true_and, Bool.and_false, Bool.false_and] <;> simp []; done) | (simp only [an_feature, inB_t h1, inB_f h3, cond_true, cond_false, Bool.and_true, Bool.true_and, Bool.and_false, Bool.false_and] <;> decide))⟩
  · skip
    refine R_ifne (pc := 7) 13 dX9_feature_7 (by decide) (fun h => absurd (by decide) h) (fun _ => ?_)
    refine R_bipush (pc := 10) (v := (-2)) dX9_feature_10 (by decide) ?_
    exact R_iret (pc := 12) dX9_feature_12 rfl rfl (Nat.zero_le _) (Nat.zero_le _) ⟨_, rfl, (by first | (simp only [an_feature, inB_f h1, cond_true, cond_false, Bool.and_true, Bool.true_and, Bool.and_false, Bool.false_and]; done) | (simp only [an_feature, inB_f h1, cond_true, cond_false, Bool.and_true, Bool.true_and, Bool.and_false, Bool.false_and, if_true, if_true, if_false, ite_self]; done) | (simp only [an_feature, inB_f h1, cond_true, cond_false, Bool.and_true, Bool.true_and, Bool.and_false, Bool.false_and] <;> simp []; done) | (simp only [an_feature, inB_f h1, cond_true, cond_false, Bool.and_true, Bool.true_and, Bool.and_false, Bool.false_and] <;> decide))⟩
theorem dX9_back_0 : decode cX9_back 0 = .ok (.iload_n 1, 1) := by decide +kernel
theorem dX9_back_1 : decode cX9_back 1 = .ok (.iconst 0, 1) := by decide +kernel
theorem dX9_back_2 : decode cX9_back 2 = .ok (.iconst 4, 1) := by decide +kernel
theorem dX9_back_3 : decode cX9_back 3 = .ok (.invokestatic 124, 3) := by decide +kernel
theorem dX9_back_6 : decode cX9_back 6 = .ok (.ifCond .ne 6, 3) := by decide +kernel
theorem dX9_back_9 : decode cX9_back 9 = .ok (.bipush (-2), 2) := by decide +kernel
theorem dX9_back_11 : decode cX9_back 11 = .ok (.ireturn, 1) := by decide +kernel
theorem dX9_back_12 : decode cX9_back 12 = .ok (.iload_n 2, 1) := by decide +kernel
theorem dX9_back_13 : decode cX9_back 13 = .ok (.invokestatic 198, 3) := by decide +kernel
theorem dX9_back_16 : decode cX9_back 16 = .ok (.ifCond .eq 14, 3) := by decide +kernel
theorem dX9_back_19 : decode cX9_back 19 = .ok (.iload_n 3, 1) := by decide +kernel
theorem dX9_back_20 : decode cX9_back 20 = .ok (.iload_n 2, 1) := by decide +kernel
theorem dX9_back_21 : decode cX9_back 21 = .ok (.sipush 20000, 3) := by decide +kernel
theorem dX9_back_24 : decode cX9_back 24 = .ok (.invokestatic 124, 3) := by decide +kernel
theorem dX9_back_27 : decode cX9_back 27 = .ok (.ifCond .ne 6, 3) := by decide +kernel
theorem dX9_back_30 : decode cX9_back 30 = .ok (.bipush (-3), 2) := by decide +kernel
theorem dX9_back_32 : decode cX9_back 32 = .ok (.ireturn, 1) := by decide +kernel
theorem dX9_back_33 : decode cX9_back 33 = .ok (.aload_n 0, 1) := by decide +kernel
theorem dX9_back_34 : decode cX9_back 34 = .ok (.getfield 75, 3) := by decide +kernel
theorem dX9_back_37 : decode cX9_back 37 = .ok (.iload_n 1, 1) := by decide +kernel
theorem dX9_back_38 : decode cX9_back 38 = .ok (.iload_n 2, 1) := by decide +kernel
theorem dX9_back_39 : decode cX9_back 39 = .ok (.iastore, 1) := by decide +kernel
theorem dX9_back_40 : decode cX9_back 40 = .ok (.aload_n 0, 1) := by decide +kernel
theorem dX9_back_41 : decode cX9_back 41 = .ok (.getfield 78, 3) := by decide +kernel
theorem dX9_back_44 : decode cX9_back 44 = .ok (.iload_n 1, 1) := by decide +kernel
theorem dX9_back_45 : decode cX9_back 45 = .ok (.iload_n 3, 1) := by decide +kernel
theorem dX9_back_46 : decode cX9_back 46 = .ok (.iastore, 1) := by decide +kernel
theorem dX9_back_47 : decode cX9_back 47 = .ok (.iconst 1, 1) := by decide +kernel
theorem dX9_back_48 : decode cX9_back 48 = .ok (.ireturn, 1) := by decide +kernel
set_option maxRecDepth 100000 in
set_option maxHeartbeats 40000000 in
theorem fm_back {G : vG} {l : Launch} (τ : Sg) (f a b : Int32) : Sp G l yX9_back cX9_back 4 (some .int) 2 0 0 [.ref 140, .int f, .int a, .int b] (WW (mx τ)) (QI (fun x _ => x = an_back f a b)) := by
  refine Sp_of_R [(some (.ref 140)), (some (.int f)), (some (.int a)), (some (.int b))] [] rfl (by simp) rfl (Nat.le_of_ble_eq_true rfl) ?_
  refine R_iload_n (pc := 0) dX9_back_0 rfl rfl ?_
  refine R_iconst (pc := 1) (v := 0) dX9_back_1 (by decide) ?_
  refine R_iconst (pc := 2) (v := 4) dX9_back_2 (by decide) ?_
  refine k_X9_124 (pc := 3) (sp_X9_in _ _ _ _) rfl (by decide) (Nat.le_refl _) (Nat.le_refl _) (Nat.le_of_ble_eq_true rfl) dX9_back_3 (fun x w2 h => ?_)
  rcases h with ⟨rfl, ⟨h1, rfl⟩ | ⟨h1, rfl⟩⟩
  · skip
    refine R_ifne (pc := 6) 12 dX9_back_6 (by decide) (fun _ => ?_) (fun h => absurd h (by decide))
    refine R_iload_n (pc := 12) dX9_back_12 rfl rfl ?_
    refine k_X9_198 (pc := 13) (sp_X9_isDay _ _) rfl (by decide) (Nat.le_refl _) (Nat.le_refl _) (Nat.le_of_ble_eq_true rfl) dX9_back_13 (fun x w2 h => ?_)
    rcases h with ⟨rfl, ⟨h3, rfl⟩ | ⟨h3, rfl⟩⟩
    · skip
      refine R_ifeq (pc := 16) 30 dX9_back_16 (by decide) (fun h => absurd h (by decide)) (fun _ => ?_)
      refine R_iload_n (pc := 19) dX9_back_19 rfl rfl ?_
      refine R_iload_n (pc := 20) dX9_back_20 rfl rfl ?_
      refine R_sipush (pc := 21) (v := 20000) dX9_back_21 (by decide) ?_
      refine k_X9_124 (pc := 24) (sp_X9_in _ _ _ _) rfl (by decide) (Nat.le_refl _) (Nat.le_refl _) (Nat.le_of_ble_eq_true rfl) dX9_back_24 (fun x w2 h => ?_)
      rcases h with ⟨rfl, ⟨h5, rfl⟩ | ⟨h5, rfl⟩⟩
      · skip
        refine R_ifne (pc := 27) 33 dX9_back_27 (by decide) (fun _ => ?_) (fun h => absurd h (by decide))
        refine R_aload_n (pc := 33) dX9_back_33 rfl rfl ?_
        refine g_X9_75 (pc := 34) (v := .ref 159) rfl dX9_back_34 (c_140 _) rfl ?_
        refine R_iload_n (pc := 37) dX9_back_37 rfl rfl ?_
        refine R_iload_n (pc := 38) dX9_back_38 rfl rfl ?_
        refine W_iastore (pc := 39) dX9_back_39 (c_159 _) (vp_of_inR h1 (by decide)) (a_159 _ _) ?_
        refine R_aload_n (pc := 40) dX9_back_40 rfl rfl ?_
        refine g_X9_78 (pc := 41) (v := .ref 160) rfl dX9_back_41 (c_140 _) rfl ?_
        refine R_iload_n (pc := 44) dX9_back_44 rfl rfl ?_
        refine R_iload_n (pc := 45) dX9_back_45 rfl rfl ?_
        refine W_iastore (pc := 46) dX9_back_46 (c_160 _) (vp_of_inR h1 (by decide)) (a_160 _ _) ?_
        refine R_iconst (pc := 47) (v := 1) dX9_back_47 (by decide) ?_
        exact R_iret (pc := 48) dX9_back_48 rfl rfl (Nat.zero_le _) (Nat.zero_le _) ⟨_, rfl, (by first | (simp only [an_back, inB_t h1, inB_t h3, inB_t h5, cond_true, cond_false, Bool.and_true, Bool.true_and, Bool.and_false, Bool.false_and]; done) | (simp only [an_back, inB_t h1, inB_t h3, inB_t h5, cond_true, cond_false, Bool.and_true, Bool.true_and, Bool.and_false, Bool.false_and, if_true, if_true, if_false, ite_self]; done) | (simp only [an_back, inB_t h1, inB_t h3, inB_t h5, cond_true, cond_false, Bool.and_true, Bool.true_and, Bool.and_false, Bool.false_and] <;> simp []; done) | (simp only [an_back, inB_t h1, inB_t h3, inB_t h5, cond_true, cond_false, Bool.and_true, Bool.true_and, Bool.and_false, Bool.false_and] <;> decide))⟩
      · skip
        refine R_ifne (pc := 27) 33 dX9_back_27 (by decide) (fun h => absurd (by decide) h) (fun _ => ?_)
        refine R_bipush (pc := 30) (v := (-3)) dX9_back_30 (by decide) ?_
        exact R_iret (pc := 32) dX9_back_32 rfl rfl (Nat.zero_le _) (Nat.zero_le _) ⟨_, rfl, (by first | (simp only [an_back, inB_t h1, inB_t h3, inB_f h5, cond_true, cond_false, Bool.and_true, Bool.true_and, Bool.and_false, Bool.false_and]; done) | (simp only [an_back, inB_t h1, inB_t h3, inB_f h5, cond_true, cond_false, Bool.and_true, Bool.true_and, Bool.and_false, Bool.false_and, if_true, if_true, if_false, ite_self]; done) | (simp only [an_back, inB_t h1, inB_t h3, inB_f h5, cond_true, cond_false, Bool.and_true, Bool.true_and, Bool.and_false, Bool.false_and] <;> simp []; done) | (simp only [an_back, inB_t h1, inB_t h3, inB_f h5, cond_true, cond_false, Bool.and_true, Bool.true_and, Bool.and_false, Bool.false_and] <;> decide))⟩
    · skip
      refine R_ifeq (pc := 16) 30 dX9_back_16 (by decide) (fun _ => ?_) (fun h => absurd (by decide) h)
      refine R_bipush (pc := 30) (v := (-3)) dX9_back_30 (by decide) ?_
      exact R_iret (pc := 32) dX9_back_32 rfl rfl (Nat.zero_le _) (Nat.zero_le _) ⟨_, rfl, (by first | (simp only [an_back, inB_t h1, inB_f h3, cond_true, cond_false, Bool.and_true, Bool.true_and, Bool.and_false, Bool.false_and]; done) | (simp only [an_back, inB_t h1, inB_f h3, cond_true, cond_false, Bool.and_true, Bool.true_and, Bool.and_false, Bool.false_and, if_true, if_true, if_false, ite_self]; done) | (simp only [an_back, inB_t h1, inB_f h3, cond_true, cond_false, Bool.and_true, Bool.true_and, Bool.and_false, Bool.false_and] <;> simp []; done) | (simp only [an_back, inB_t h1, inB_f h3, cond_true, cond_false, Bool.and_true, Bool.true_and, Bool.and_false, Bool.false_and] <;> decide))⟩
  · skip
    refine R_ifne (pc := 6) 12 dX9_back_6 (by decide) (fun h => absurd (by decide) h) (fun _ => ?_)
    refine R_bipush (pc := 9) (v := (-2)) dX9_back_9 (by decide) ?_
    exact R_iret (pc := 11) dX9_back_11 rfl rfl (Nat.zero_le _) (Nat.zero_le _) ⟨_, rfl, (by first | (simp only [an_back, inB_f h1, cond_true, cond_false, Bool.and_true, Bool.true_and, Bool.and_false, Bool.false_and]; done) | (simp only [an_back, inB_f h1, cond_true, cond_false, Bool.and_true, Bool.true_and, Bool.and_false, Bool.false_and, if_true, if_true, if_false, ite_self]; done) | (simp only [an_back, inB_f h1, cond_true, cond_false, Bool.and_true, Bool.true_and, Bool.and_false, Bool.false_and] <;> simp []; done) | (simp only [an_back, inB_f h1, cond_true, cond_false, Bool.and_true, Bool.true_and, Bool.and_false, Bool.false_and] <;> decide))⟩
theorem dX9_landmark_0 : decode cX9_landmark 0 = .ok (.iload_n 1, 1) := by decide +kernel
theorem dX9_landmark_1 : decode cX9_landmark 1 = .ok (.iconst 0, 1) := by decide +kernel
theorem dX9_landmark_2 : decode cX9_landmark 2 = .ok (.bipush 7, 2) := by decide +kernel
theorem dX9_landmark_4 : decode cX9_landmark 4 = .ok (.invokestatic 124, 3) := by decide +kernel
theorem dX9_landmark_7 : decode cX9_landmark 7 = .ok (.ifCond .ne 6, 3) := by decide +kernel
theorem dX9_landmark_10 : decode cX9_landmark 10 = .ok (.bipush (-2), 2) := by decide +kernel
theorem dX9_landmark_12 : decode cX9_landmark 12 = .ok (.ireturn, 1) := by decide +kernel
theorem dX9_landmark_13 : decode cX9_landmark 13 = .ok (.iload_n 2, 1) := by decide +kernel
theorem dX9_landmark_14 : decode cX9_landmark 14 = .ok (.iconst 0, 1) := by decide +kernel
theorem dX9_landmark_15 : decode cX9_landmark 15 = .ok (.bipush 64, 2) := by decide +kernel
theorem dX9_landmark_17 : decode cX9_landmark 17 = .ok (.invokestatic 124, 3) := by decide +kernel
theorem dX9_landmark_20 : decode cX9_landmark 20 = .ok (.ifCond .ne 6, 3) := by decide +kernel
theorem dX9_landmark_23 : decode cX9_landmark 23 = .ok (.bipush (-3), 2) := by decide +kernel
theorem dX9_landmark_25 : decode cX9_landmark 25 = .ok (.ireturn, 1) := by decide +kernel
theorem dX9_landmark_26 : decode cX9_landmark 26 = .ok (.aload_n 0, 1) := by decide +kernel
theorem dX9_landmark_27 : decode cX9_landmark 27 = .ok (.getfield 99, 3) := by decide +kernel
theorem dX9_landmark_30 : decode cX9_landmark 30 = .ok (.iload_n 1, 1) := by decide +kernel
theorem dX9_landmark_31 : decode cX9_landmark 31 = .ok (.iload_n 2, 1) := by decide +kernel
theorem dX9_landmark_32 : decode cX9_landmark 32 = .ok (.iastore, 1) := by decide +kernel
theorem dX9_landmark_33 : decode cX9_landmark 33 = .ok (.iconst 1, 1) := by decide +kernel
theorem dX9_landmark_34 : decode cX9_landmark 34 = .ok (.ireturn, 1) := by decide +kernel
set_option maxRecDepth 100000 in
set_option maxHeartbeats 40000000 in
theorem fm_landmark {G : vG} {l : Launch} (τ : Sg) (a b : Int32) : Sp G l yX9_landmark cX9_landmark 3 (some .int) 1 0 0 [.ref 140, .int a, .int b] (WW (mx τ)) (QI (fun x _ => x = an_landmark a b)) := by
  refine Sp_of_R [(some (.ref 140)), (some (.int a)), (some (.int b))] [] rfl (by simp) rfl (Nat.le_of_ble_eq_true rfl) ?_
  refine R_iload_n (pc := 0) dX9_landmark_0 rfl rfl ?_
  refine R_iconst (pc := 1) (v := 0) dX9_landmark_1 (by decide) ?_
  refine R_bipush (pc := 2) (v := 7) dX9_landmark_2 (by decide) ?_
  refine k_X9_124 (pc := 4) (sp_X9_in _ _ _ _) rfl (by decide) (Nat.le_refl _) (Nat.le_refl _) (Nat.le_of_ble_eq_true rfl) dX9_landmark_4 (fun x w2 h => ?_)
  rcases h with ⟨rfl, ⟨h1, rfl⟩ | ⟨h1, rfl⟩⟩
  · skip
    refine R_ifne (pc := 7) 13 dX9_landmark_7 (by decide) (fun _ => ?_) (fun h => absurd h (by decide))
    refine R_iload_n (pc := 13) dX9_landmark_13 rfl rfl ?_
    refine R_iconst (pc := 14) (v := 0) dX9_landmark_14 (by decide) ?_
    refine R_bipush (pc := 15) (v := 64) dX9_landmark_15 (by decide) ?_
    refine k_X9_124 (pc := 17) (sp_X9_in _ _ _ _) rfl (by decide) (Nat.le_refl _) (Nat.le_refl _) (Nat.le_of_ble_eq_true rfl) dX9_landmark_17 (fun x w2 h => ?_)
    rcases h with ⟨rfl, ⟨h3, rfl⟩ | ⟨h3, rfl⟩⟩
    · skip
      refine R_ifne (pc := 20) 26 dX9_landmark_20 (by decide) (fun _ => ?_) (fun h => absurd h (by decide))
      refine R_aload_n (pc := 26) dX9_landmark_26 rfl rfl ?_
      refine g_X9_99 (pc := 27) (v := .ref 167) rfl dX9_landmark_27 (c_140 _) rfl ?_
      refine R_iload_n (pc := 30) dX9_landmark_30 rfl rfl ?_
      refine R_iload_n (pc := 31) dX9_landmark_31 rfl rfl ?_
      refine W_iastore (pc := 32) dX9_landmark_32 (c_167 _) (vp_of_inR h1 (by decide)) (a_167 _ _) ?_
      refine R_iconst (pc := 33) (v := 1) dX9_landmark_33 (by decide) ?_
      exact R_iret (pc := 34) dX9_landmark_34 rfl rfl (Nat.zero_le _) (Nat.zero_le _) ⟨_, rfl, (by first | (simp only [an_landmark, inB_t h1, inB_t h3, cond_true, cond_false, Bool.and_true, Bool.true_and, Bool.and_false, Bool.false_and]; done) | (simp only [an_landmark, inB_t h1, inB_t h3, cond_true, cond_false, Bool.and_true, Bool.true_and, Bool.and_false, Bool.false_and, if_true, if_true, if_false, ite_self]; done) | (simp only [an_landmark, inB_t h1, inB_t h3, cond_true, cond_false, Bool.and_true, Bool.true_and, Bool.and_false, Bool.false_and] <;> simp []; done) | (simp only [an_landmark, inB_t h1, inB_t h3, cond_true, cond_false, Bool.and_true, Bool.true_and, Bool.and_false, Bool.false_and] <;> decide))⟩
    · skip
      refine R_ifne (pc := 20) 26 dX9_landmark_20 (by decide) (fun h => absurd (by decide) h) (fun _ => ?_)
      refine R_bipush (pc := 23) (v := (-3)) dX9_landmark_23 (by decide) ?_
      exact R_iret (pc := 25) dX9_landmark_25 rfl rfl (Nat.zero_le _) (Nat.zero_le _) ⟨_, rfl, (by first | (simp only [an_landmark, inB_t h1, inB_f h3, cond_true, cond_false, Bool.and_true, Bool.true_and, Bool.and_false, Bool.false_and]; done) | (simp only [an_landmark, inB_t h1, inB_f h3, cond_true, cond_false, Bool.and_true, Bool.true_and, Bool.and_false, Bool.false_and, if_true, if_true, if_false, ite_self]; done) | (simp only [an_landmark, inB_t h1, inB_f h3, cond_true, cond_false, Bool.and_true, Bool.true_and, Bool.and_false, Bool.false_and] <;> simp []; done) | (simp only [an_landmark, inB_t h1, inB_f h3, cond_true, cond_false, Bool.and_true, Bool.true_and, Bool.and_false, Bool.false_and] <;> decide))⟩
  · skip
    refine R_ifne (pc := 7) 13 dX9_landmark_7 (by decide) (fun h => absurd (by decide) h) (fun _ => ?_)
    refine R_bipush (pc := 10) (v := (-2)) dX9_landmark_10 (by decide) ?_
    exact R_iret (pc := 12) dX9_landmark_12 rfl rfl (Nat.zero_le _) (Nat.zero_le _) ⟨_, rfl, (by first | (simp only [an_landmark, inB_f h1, cond_true, cond_false, Bool.and_true, Bool.true_and, Bool.and_false, Bool.false_and]; done) | (simp only [an_landmark, inB_f h1, cond_true, cond_false, Bool.and_true, Bool.true_and, Bool.and_false, Bool.false_and, if_true, if_true, if_false, ite_self]; done) | (simp only [an_landmark, inB_f h1, cond_true, cond_false, Bool.and_true, Bool.true_and, Bool.and_false, Bool.false_and] <;> simp []; done) | (simp only [an_landmark, inB_f h1, cond_true, cond_false, Bool.and_true, Bool.true_and, Bool.and_false, Bool.false_and] <;> decide))⟩
theorem dX9_gap_0 : decode cX9_gap 0 = .ok (.iload_n 1, 1) := by decide +kernel
theorem dX9_gap_1 : decode cX9_gap 1 = .ok (.invokestatic 128, 3) := by decide +kernel
theorem dX9_gap_4 : decode cX9_gap 4 = .ok (.ifCond .ne 6, 3) := by decide +kernel
theorem dX9_gap_7 : decode cX9_gap 7 = .ok (.bipush (-2), 2) := by decide +kernel
theorem dX9_gap_9 : decode cX9_gap 9 = .ok (.ireturn, 1) := by decide +kernel
theorem dX9_gap_10 : decode cX9_gap 10 = .ok (.iload_n 2, 1) := by decide +kernel
theorem dX9_gap_11 : decode cX9_gap 11 = .ok (.ifCond .ge 6, 3) := by decide +kernel
theorem dX9_gap_14 : decode cX9_gap 14 = .ok (.bipush (-3), 2) := by decide +kernel
theorem dX9_gap_16 : decode cX9_gap 16 = .ok (.ireturn, 1) := by decide +kernel
theorem dX9_gap_17 : decode cX9_gap 17 = .ok (.iload_n 2, 1) := by decide +kernel
theorem dX9_gap_18 : decode cX9_gap 18 = .ok (.istore_n 3, 1) := by decide +kernel
theorem dX9_gap_19 : decode cX9_gap 19 = .ok (.iconst 0, 1) := by decide +kernel
theorem dX9_gap_20 : decode cX9_gap 20 = .ok (.istore 4, 2) := by decide +kernel
theorem dX9_gap_22 : decode cX9_gap 22 = .ok (.iconst 1, 1) := by decide +kernel
theorem dX9_gap_23 : decode cX9_gap 23 = .ok (.istore 5, 2) := by decide +kernel
theorem dX9_gap_25 : decode cX9_gap 25 = .ok (.iload 5, 2) := by decide +kernel
theorem dX9_gap_27 : decode cX9_gap 27 = .ok (.bipush 100, 2) := by decide +kernel
theorem dX9_gap_29 : decode cX9_gap 29 = .ok (.if_icmp .ge 62, 3) := by decide +kernel
theorem dX9_gap_32 : decode cX9_gap 32 = .ok (.aload_n 0, 1) := by decide +kernel
theorem dX9_gap_33 : decode cX9_gap 33 = .ok (.iload_n 1, 1) := by decide +kernel
theorem dX9_gap_34 : decode cX9_gap 34 = .ok (.iload 5, 2) := by decide +kernel
theorem dX9_gap_36 : decode cX9_gap 36 = .ok (.invokevirtual 176, 3) := by decide +kernel
theorem dX9_gap_39 : decode cX9_gap 39 = .ok (.ifCond .eq 20, 3) := by decide +kernel
theorem dX9_gap_42 : decode cX9_gap 42 = .ok (.iload 4, 2) := by decide +kernel
theorem dX9_gap_44 : decode cX9_gap 44 = .ok (.ifCond .ne 8, 3) := by decide +kernel
theorem dX9_gap_47 : decode cX9_gap 47 = .ok (.iload 5, 2) := by decide +kernel
theorem dX9_gap_49 : decode cX9_gap 49 = .ok (.goto 5, 3) := by decide +kernel
theorem dX9_gap_52 : decode cX9_gap 52 = .ok (.iload 4, 2) := by decide +kernel
theorem dX9_gap_54 : decode cX9_gap 54 = .ok (.istore 4, 2) := by decide +kernel
theorem dX9_gap_56 : decode cX9_gap 56 = .ok (.goto 29, 3) := by decide +kernel
theorem dX9_gap_59 : decode cX9_gap 59 = .ok (.iload 4, 2) := by decide +kernel
theorem dX9_gap_61 : decode cX9_gap 61 = .ok (.ifCond .le 24, 3) := by decide +kernel
theorem dX9_gap_64 : decode cX9_gap 64 = .ok (.iload_n 3, 1) := by decide +kernel
theorem dX9_gap_65 : decode cX9_gap 65 = .ok (.ifCond .ne 14, 3) := by decide +kernel
theorem dX9_gap_68 : decode cX9_gap 68 = .ok (.bipush 100, 2) := by decide +kernel
theorem dX9_gap_70 : decode cX9_gap 70 = .ok (.iload 4, 2) := by decide +kernel
theorem dX9_gap_72 : decode cX9_gap 72 = .ok (.imul, 1) := by decide +kernel
theorem dX9_gap_73 : decode cX9_gap 73 = .ok (.iload 5, 2) := by decide +kernel
theorem dX9_gap_75 : decode cX9_gap 75 = .ok (.iadd, 1) := by decide +kernel
theorem dX9_gap_76 : decode cX9_gap 76 = .ok (.iconst 1, 1) := by decide +kernel
theorem dX9_gap_77 : decode cX9_gap 77 = .ok (.isub, 1) := by decide +kernel
theorem dX9_gap_78 : decode cX9_gap 78 = .ok (.ireturn, 1) := by decide +kernel
theorem dX9_gap_79 : decode cX9_gap 79 = .ok (.iinc 3 (-1), 3) := by decide +kernel
theorem dX9_gap_82 : decode cX9_gap 82 = .ok (.iconst 0, 1) := by decide +kernel
theorem dX9_gap_83 : decode cX9_gap 83 = .ok (.istore 4, 2) := by decide +kernel
theorem dX9_gap_85 : decode cX9_gap 85 = .ok (.iinc 5 1, 3) := by decide +kernel
theorem dX9_gap_88 : decode cX9_gap 88 = .ok (.goto (-63), 3) := by decide +kernel
theorem dX9_gap_91 : decode cX9_gap 91 = .ok (.iconst (-1), 1) := by decide +kernel
theorem dX9_gap_92 : decode cX9_gap 92 = .ok (.ireturn, 1) := by decide +kernel
set_option maxRecDepth 100000 in
set_option maxHeartbeats 40000000 in
theorem fm_gap {G : vG} {l : Launch} (τ : Sg) (p i : Int32) : Sp G l yX9_gap cX9_gap 6 (some .int) 4 0 0 [.ref 140, .int p, .int i] (WW (mx τ)) (QI (fun x _ => x = an_gap p i)) := by
  refine Sp_of_R [(some (.ref 140)), (some (.int p)), (some (.int i)), none, none, none] [none, none, none] rfl (by simp) rfl (Nat.le_of_ble_eq_true rfl) ?_
  refine R_iload_n (pc := 0) dX9_gap_0 rfl rfl ?_
  refine k_X9_128 (pc := 1) (sp_X9_isPublisher _ _) rfl (by decide) (Nat.le_refl _) (Nat.le_refl _) (Nat.le_of_ble_eq_true rfl) dX9_gap_1 (fun x w2 h => ?_)
  rcases h with ⟨rfl, ⟨h1, rfl⟩ | ⟨h1, rfl⟩⟩
  · skip
    refine R_ifne (pc := 4) 10 dX9_gap_4 (by decide) (fun _ => ?_) (fun h => absurd h (by decide))
    refine R_iload_n (pc := 10) dX9_gap_10 rfl rfl ?_
    refine R_ifge (pc := 11) 17 dX9_gap_11 (by decide) (fun b11_3 => ?_) (fun b11_3 => ?_)
    · skip
      refine R_iload_n (pc := 17) dX9_gap_17 rfl rfl ?_
      refine st_6_3_i_i (pc := 18) dX9_gap_18 ?_
      refine R_iconst (pc := 19) (v := 0) dX9_gap_19 (by decide) ?_
      refine st_6_4_i_i (pc := 20) dX9_gap_20 ?_
      refine R_iconst (pc := 22) (v := 1) dX9_gap_22 (by decide) ?_
      refine st_6_5_i_i (pc := 23) dX9_gap_23 ?_
      have HL25 : ∀ (q j : Nat), j + q = 100 → R G l yX9_gap cX9_gap 6 (some .int) 4 0 0 (QI (fun x _ => x = an_gap p i)) 25 [(some (.ref 140)), (some (.int p)), (some (.int i)), (some (.int i)), (some (.int 0)), (some (.int (nI j)))] [] (WW (mx τ)) 0 0 := by
        intro q
        induction q with
        | zero =>
          intro j hj
          obtain rfl : j = 100 := by omega
          refine R_iload (pc := 25) dX9_gap_25 rfl ?_
          refine R_bipush (pc := 27) (v := 100) dX9_gap_27 (by decide) ?_
          refine R_icge (pc := 29) 91 dX9_gap_29 (by decide) (fun _ => ?_) (fun h => absurd (by decide) h)
          refine R_iconst (pc := 91) (v := (-1)) dX9_gap_91 (by decide) ?_
          exact R_iret (pc := 92) dX9_gap_92 rfl rfl (Nat.zero_le _) (Nat.zero_le _) ⟨_, rfl, (by first | (simp only [an_gap, inB_t h1, cond_true, cond_false, Bool.and_true, Bool.true_and, Bool.and_false, Bool.false_and]; done) | (simp only [an_gap, inB_t h1, cond_true, cond_false, Bool.and_true, Bool.true_and, Bool.and_false, Bool.false_and, b11_3, if_true, if_false, ite_self]; done) | (simp only [an_gap, inB_t h1, cond_true, cond_false, Bool.and_true, Bool.true_and, Bool.and_false, Bool.false_and] <;> simp [b11_3]; done) | (simp only [an_gap, inB_t h1, cond_true, cond_false, Bool.and_true, Bool.true_and, Bool.and_false, Bool.false_and] <;> decide))⟩
        | succ q ih =>
          intro j hj
          have hlt : j < 100 := by omega
          refine R_iload (pc := 25) dX9_gap_25 rfl ?_
          refine R_bipush (pc := 27) (v := 100) dX9_gap_27 (by decide) ?_
          refine R_icge (pc := 29) 91 dX9_gap_29 (by decide) (fun h => absurd h (nI_ge hlt (by decide))) (fun _ => ?_)
          refine R_aload_n (pc := 32) dX9_gap_32 rfl rfl ?_
          refine R_iload_n (pc := 33) dX9_gap_33 rfl rfl ?_
          refine R_iload (pc := 34) dX9_gap_34 rfl ?_
          refine k_X9_176 (pc := 36) (fx_X9_isMissing _ _ _ rfl) rfl (c_140 _) (by decide) (Nat.le_refl _) (Nat.le_refl _) (Nat.le_of_ble_eq_true rfl) dX9_gap_36 (fun x w2 h => ?_)
          obtain ⟨rfl, rfl⟩ := h
          refine R_ifeq (pc := 39) 59 dX9_gap_39 (by decide) (fun _ => ?_) (fun h => absurd (by decide) h)
          refine R_iload (pc := 59) dX9_gap_59 rfl ?_
          refine R_ifle (pc := 61) 85 dX9_gap_61 (by decide) (fun _ => ?_) (fun h => absurd (by decide) h)
          refine inc_6_5_1_i (pc := 85) dX9_gap_85 ?_
          refine R_goto (pc := 88) 25 dX9_gap_88 (by decide) ?_
          rw [nI_1]
          exact ih (j + 1) (by omega)
      exact HL25 99 1 (by omega)
    · skip
      refine R_bipush (pc := 14) (v := (-3)) dX9_gap_14 (by decide) ?_
      exact R_iret (pc := 16) dX9_gap_16 rfl rfl (Nat.zero_le _) (Nat.zero_le _) ⟨_, rfl, (by first | (simp only [an_gap, inB_t h1, cond_true, cond_false, Bool.and_true, Bool.true_and, Bool.and_false, Bool.false_and]; done) | (simp only [an_gap, inB_t h1, cond_true, cond_false, Bool.and_true, Bool.true_and, Bool.and_false, Bool.false_and, b11_3, if_true, if_false, ite_self]; done) | (simp only [an_gap, inB_t h1, cond_true, cond_false, Bool.and_true, Bool.true_and, Bool.and_false, Bool.false_and] <;> simp [b11_3]; done) | (simp only [an_gap, inB_t h1, cond_true, cond_false, Bool.and_true, Bool.true_and, Bool.and_false, Bool.false_and] <;> decide))⟩
  · skip
    refine R_ifne (pc := 4) 10 dX9_gap_4 (by decide) (fun h => absurd (by decide) h) (fun _ => ?_)
    refine R_bipush (pc := 7) (v := (-2)) dX9_gap_7 (by decide) ?_
    exact R_iret (pc := 9) dX9_gap_9 rfl rfl (Nat.zero_le _) (Nat.zero_le _) ⟨_, rfl, (by first | (simp only [an_gap, inB_f h1, cond_true, cond_false, Bool.and_true, Bool.true_and, Bool.and_false, Bool.false_and]; done) | (simp only [an_gap, inB_f h1, cond_true, cond_false, Bool.and_true, Bool.true_and, Bool.and_false, Bool.false_and, if_true, if_true, if_false, ite_self]; done) | (simp only [an_gap, inB_f h1, cond_true, cond_false, Bool.and_true, Bool.true_and, Bool.and_false, Bool.false_and] <;> simp []; done) | (simp only [an_gap, inB_f h1, cond_true, cond_false, Bool.and_true, Bool.true_and, Bool.and_false, Bool.false_and] <;> decide))⟩
theorem dX9_series_0 : decode cX9_series 0 = .ok (.iload_n 1, 1) := by decide +kernel
theorem dX9_series_1 : decode cX9_series 1 = .ok (.invokestatic 128, 3) := by decide +kernel
theorem dX9_series_4 : decode cX9_series 4 = .ok (.ifCond .ne 6, 3) := by decide +kernel
theorem dX9_series_7 : decode cX9_series 7 = .ok (.bipush (-2), 2) := by decide +kernel
theorem dX9_series_9 : decode cX9_series 9 = .ok (.ireturn, 1) := by decide +kernel
theorem dX9_series_10 : decode cX9_series 10 = .ok (.iload_n 2, 1) := by decide +kernel
theorem dX9_series_11 : decode cX9_series 11 = .ok (.iconst 0, 1) := by decide +kernel
theorem dX9_series_12 : decode cX9_series 12 = .ok (.iconst 4, 1) := by decide +kernel
theorem dX9_series_13 : decode cX9_series 13 = .ok (.invokestatic 124, 3) := by decide +kernel
theorem dX9_series_16 : decode cX9_series 16 = .ok (.ifCond .ne 6, 3) := by decide +kernel
theorem dX9_series_19 : decode cX9_series 19 = .ok (.bipush (-3), 2) := by decide +kernel
theorem dX9_series_21 : decode cX9_series 21 = .ok (.ireturn, 1) := by decide +kernel
theorem dX9_series_22 : decode cX9_series 22 = .ok (.iconst 0, 1) := by decide +kernel
theorem dX9_series_23 : decode cX9_series 23 = .ok (.istore_n 3, 1) := by decide +kernel
theorem dX9_series_24 : decode cX9_series 24 = .ok (.iconst 0, 1) := by decide +kernel
theorem dX9_series_25 : decode cX9_series 25 = .ok (.istore 4, 2) := by decide +kernel
theorem dX9_series_27 : decode cX9_series 27 = .ok (.iconst 0, 1) := by decide +kernel
theorem dX9_series_28 : decode cX9_series 28 = .ok (.istore 5, 2) := by decide +kernel
theorem dX9_series_30 : decode cX9_series 30 = .ok (.iconst 0, 1) := by decide +kernel
theorem dX9_series_31 : decode cX9_series 31 = .ok (.istore 6, 2) := by decide +kernel
theorem dX9_series_33 : decode cX9_series 33 = .ok (.iconst 1, 1) := by decide +kernel
theorem dX9_series_34 : decode cX9_series 34 = .ok (.istore 7, 2) := by decide +kernel
theorem dX9_series_36 : decode cX9_series 36 = .ok (.iload 7, 2) := by decide +kernel
theorem dX9_series_38 : decode cX9_series 38 = .ok (.bipush 100, 2) := by decide +kernel
theorem dX9_series_40 : decode cX9_series 40 = .ok (.if_icmp .ge 75, 3) := by decide +kernel
theorem dX9_series_43 : decode cX9_series 43 = .ok (.aload_n 0, 1) := by decide +kernel
theorem dX9_series_44 : decode cX9_series 44 = .ok (.iload_n 1, 1) := by decide +kernel
theorem dX9_series_45 : decode cX9_series 45 = .ok (.iload 7, 2) := by decide +kernel
theorem dX9_series_47 : decode cX9_series 47 = .ok (.invokevirtual 176, 3) := by decide +kernel
theorem dX9_series_50 : decode cX9_series 50 = .ok (.istore 8, 2) := by decide +kernel
theorem dX9_series_52 : decode cX9_series 52 = .ok (.iload_n 3, 1) := by decide +kernel
theorem dX9_series_53 : decode cX9_series 53 = .ok (.aload_n 0, 1) := by decide +kernel
theorem dX9_series_54 : decode cX9_series 54 = .ok (.iload_n 1, 1) := by decide +kernel
theorem dX9_series_55 : decode cX9_series 55 = .ok (.iload 7, 2) := by decide +kernel
theorem dX9_series_57 : decode cX9_series 57 = .ok (.invokevirtual 185, 3) := by decide +kernel
theorem dX9_series_60 : decode cX9_series 60 = .ok (.ifCond .eq 7, 3) := by decide +kernel
theorem dX9_series_63 : decode cX9_series 63 = .ok (.iconst 1, 1) := by decide +kernel
theorem dX9_series_64 : decode cX9_series 64 = .ok (.goto 4, 3) := by decide +kernel
theorem dX9_series_67 : decode cX9_series 67 = .ok (.iconst 0, 1) := by decide +kernel
theorem dX9_series_68 : decode cX9_series 68 = .ok (.iadd, 1) := by decide +kernel
theorem dX9_series_69 : decode cX9_series 69 = .ok (.istore_n 3, 1) := by decide +kernel
theorem dX9_series_70 : decode cX9_series 70 = .ok (.iload 4, 2) := by decide +kernel
theorem dX9_series_72 : decode cX9_series 72 = .ok (.iload 8, 2) := by decide +kernel
theorem dX9_series_74 : decode cX9_series 74 = .ok (.ifCond .eq 7, 3) := by decide +kernel
theorem dX9_series_77 : decode cX9_series 77 = .ok (.iconst 1, 1) := by decide +kernel
theorem dX9_series_78 : decode cX9_series 78 = .ok (.goto 4, 3) := by decide +kernel
theorem dX9_series_81 : decode cX9_series 81 = .ok (.iconst 0, 1) := by decide +kernel
theorem dX9_series_82 : decode cX9_series 82 = .ok (.iadd, 1) := by decide +kernel
theorem dX9_series_83 : decode cX9_series 83 = .ok (.istore 4, 2) := by decide +kernel
theorem dX9_series_85 : decode cX9_series 85 = .ok (.iload 5, 2) := by decide +kernel
theorem dX9_series_87 : decode cX9_series 87 = .ok (.iload 8, 2) := by decide +kernel
theorem dX9_series_89 : decode cX9_series 89 = .ok (.ifCond .eq 12, 3) := by decide +kernel
theorem dX9_series_92 : decode cX9_series 92 = .ok (.iload 6, 2) := by decide +kernel
theorem dX9_series_94 : decode cX9_series 94 = .ok (.ifCond .ne 7, 3) := by decide +kernel
theorem dX9_series_97 : decode cX9_series 97 = .ok (.iconst 1, 1) := by decide +kernel
theorem dX9_series_98 : decode cX9_series 98 = .ok (.goto 4, 3) := by decide +kernel
theorem dX9_series_101 : decode cX9_series 101 = .ok (.iconst 0, 1) := by decide +kernel
theorem dX9_series_102 : decode cX9_series 102 = .ok (.iadd, 1) := by decide +kernel
theorem dX9_series_103 : decode cX9_series 103 = .ok (.istore 5, 2) := by decide +kernel
theorem dX9_series_105 : decode cX9_series 105 = .ok (.iload 8, 2) := by decide +kernel
theorem dX9_series_107 : decode cX9_series 107 = .ok (.istore 6, 2) := by decide +kernel
theorem dX9_series_109 : decode cX9_series 109 = .ok (.iinc 7 1, 3) := by decide +kernel
theorem dX9_series_112 : decode cX9_series 112 = .ok (.goto (-76), 3) := by decide +kernel
theorem dX9_series_115 : decode cX9_series 115 = .ok (.iload_n 2, 1) := by decide +kernel
theorem dX9_series_116 : decode cX9_series 116 = .ok (.ifCond .ne 7, 3) := by decide +kernel
theorem dX9_series_119 : decode cX9_series 119 = .ok (.iload_n 3, 1) := by decide +kernel
theorem dX9_series_120 : decode cX9_series 120 = .ok (.goto 43, 3) := by decide +kernel
theorem dX9_series_123 : decode cX9_series 123 = .ok (.iload_n 2, 1) := by decide +kernel
theorem dX9_series_124 : decode cX9_series 124 = .ok (.iconst 1, 1) := by decide +kernel
theorem dX9_series_125 : decode cX9_series 125 = .ok (.if_icmp .ne 12, 3) := by decide +kernel
theorem dX9_series_128 : decode cX9_series 128 = .ok (.aload_n 0, 1) := by decide +kernel
theorem dX9_series_129 : decode cX9_series 129 = .ok (.iload_n 1, 1) := by decide +kernel
theorem dX9_series_130 : decode cX9_series 130 = .ok (.iconst 1, 1) := by decide +kernel
theorem dX9_series_131 : decode cX9_series 131 = .ok (.invokevirtual 188, 3) := by decide +kernel
theorem dX9_series_134 : decode cX9_series 134 = .ok (.goto 29, 3) := by decide +kernel
theorem dX9_series_137 : decode cX9_series 137 = .ok (.iload_n 2, 1) := by decide +kernel
theorem dX9_series_138 : decode cX9_series 138 = .ok (.iconst 2, 1) := by decide +kernel
theorem dX9_series_139 : decode cX9_series 139 = .ok (.if_icmp .ne 12, 3) := by decide +kernel
theorem dX9_series_142 : decode cX9_series 142 = .ok (.aload_n 0, 1) := by decide +kernel
theorem dX9_series_143 : decode cX9_series 143 = .ok (.iload_n 1, 1) := by decide +kernel
theorem dX9_series_144 : decode cX9_series 144 = .ok (.iconst (-1), 1) := by decide +kernel
theorem dX9_series_145 : decode cX9_series 145 = .ok (.invokevirtual 188, 3) := by decide +kernel
theorem dX9_series_148 : decode cX9_series 148 = .ok (.goto 15, 3) := by decide +kernel
theorem dX9_series_151 : decode cX9_series 151 = .ok (.iload_n 2, 1) := by decide +kernel
theorem dX9_series_152 : decode cX9_series 152 = .ok (.iconst 3, 1) := by decide +kernel
theorem dX9_series_153 : decode cX9_series 153 = .ok (.if_icmp .ne 8, 3) := by decide +kernel
theorem dX9_series_156 : decode cX9_series 156 = .ok (.iload 4, 2) := by decide +kernel
theorem dX9_series_158 : decode cX9_series 158 = .ok (.goto 5, 3) := by decide +kernel
theorem dX9_series_161 : decode cX9_series 161 = .ok (.iload 5, 2) := by decide +kernel
theorem dX9_series_163 : decode cX9_series 163 = .ok (.ireturn, 1) := by decide +kernel
set_option maxRecDepth 100000 in
set_option maxHeartbeats 40000000 in
theorem fm_series {G : vG} {l : Launch} (τ : Sg) (p a : Int32) : Sp G l yX9_series cX9_series 9 (some .int) 4 0 0 [.ref 140, .int p, .int a] (WW (mx τ)) (QI (fun x _ => x = an_series p a)) := by
  refine Sp_of_R [(some (.ref 140)), (some (.int p)), (some (.int a)), none, none, none, none, none, none] [none, none, none, none, none, none] rfl (by simp) rfl (Nat.le_of_ble_eq_true rfl) ?_
  refine R_iload_n (pc := 0) dX9_series_0 rfl rfl ?_
  refine k_X9_128 (pc := 1) (sp_X9_isPublisher _ _) rfl (by decide) (Nat.le_refl _) (Nat.le_refl _) (Nat.le_of_ble_eq_true rfl) dX9_series_1 (fun x w2 h => ?_)
  rcases h with ⟨rfl, ⟨h1, rfl⟩ | ⟨h1, rfl⟩⟩
  · skip
    refine R_ifne (pc := 4) 10 dX9_series_4 (by decide) (fun _ => ?_) (fun h => absurd h (by decide))
    refine R_iload_n (pc := 10) dX9_series_10 rfl rfl ?_
    refine R_iconst (pc := 11) (v := 0) dX9_series_11 (by decide) ?_
    refine R_iconst (pc := 12) (v := 4) dX9_series_12 (by decide) ?_
    refine k_X9_124 (pc := 13) (sp_X9_in _ _ _ _) rfl (by decide) (Nat.le_refl _) (Nat.le_refl _) (Nat.le_of_ble_eq_true rfl) dX9_series_13 (fun x w2 h => ?_)
    rcases h with ⟨rfl, ⟨h3, rfl⟩ | ⟨h3, rfl⟩⟩
    · skip
      refine R_ifne (pc := 16) 22 dX9_series_16 (by decide) (fun _ => ?_) (fun h => absurd h (by decide))
      refine R_iconst (pc := 22) (v := 0) dX9_series_22 (by decide) ?_
      refine st_9_3_i_i (pc := 23) dX9_series_23 ?_
      refine R_iconst (pc := 24) (v := 0) dX9_series_24 (by decide) ?_
      refine st_9_4_i_i (pc := 25) dX9_series_25 ?_
      refine R_iconst (pc := 27) (v := 0) dX9_series_27 (by decide) ?_
      refine st_9_5_i_i (pc := 28) dX9_series_28 ?_
      refine R_iconst (pc := 30) (v := 0) dX9_series_30 (by decide) ?_
      refine st_9_6_i_i (pc := 31) dX9_series_31 ?_
      refine R_iconst (pc := 33) (v := 1) dX9_series_33 (by decide) ?_
      refine st_9_7_i_i (pc := 34) dX9_series_34 ?_
      have HL36 : ∀ (q j : Nat) (o8 : Option Value), j + q = 100 → R G l yX9_series cX9_series 9 (some .int) 4 0 0 (QI (fun x _ => x = an_series p a)) 36 [(some (.ref 140)), (some (.int p)), (some (.int a)), (some (.int 0)), (some (.int 0)), (some (.int 0)), (some (.int 0)), (some (.int (nI j))), o8] [] (WW (mx τ)) 0 0 := by
        intro q
        induction q with
        | zero =>
          intro j o8 hj
          obtain rfl : j = 100 := by omega
          refine R_iload (pc := 36) dX9_series_36 rfl ?_
          refine R_bipush (pc := 38) (v := 100) dX9_series_38 (by decide) ?_
          refine R_icge (pc := 40) 115 dX9_series_40 (by decide) (fun _ => ?_) (fun h => absurd (by decide) h)
          refine R_iload_n (pc := 115) dX9_series_115 rfl rfl ?_
          refine R_ifne (pc := 116) 123 dX9_series_116 (by decide) (fun b116_6 => ?_) (fun b116_6 => ?_)
          · skip
            refine R_iload_n (pc := 123) dX9_series_123 rfl rfl ?_
            refine R_iconst (pc := 124) (v := 1) dX9_series_124 (by decide) ?_
            refine R_icne (pc := 125) 137 dX9_series_125 (by decide) (fun b125_7 => ?_) (fun b125_7 => ?_)
            · skip
              refine R_iload_n (pc := 137) dX9_series_137 rfl rfl ?_
              refine R_iconst (pc := 138) (v := 2) dX9_series_138 (by decide) ?_
              refine R_icne (pc := 139) 151 dX9_series_139 (by decide) (fun b139_8 => ?_) (fun b139_8 => ?_)
              · skip
                refine R_iload_n (pc := 151) dX9_series_151 rfl rfl ?_
                refine R_iconst (pc := 152) (v := 3) dX9_series_152 (by decide) ?_
                refine R_icne (pc := 153) 161 dX9_series_153 (by decide) (fun b153_9 => ?_) (fun b153_9 => ?_)
                · skip
                  refine R_iload (pc := 161) dX9_series_161 rfl ?_
                  exact R_iret (pc := 163) dX9_series_163 rfl rfl (Nat.zero_le _) (Nat.zero_le _) ⟨_, rfl, (by first | exact absurd (b116_6.symm.trans b125_7) (by decide) | exact absurd (b116_6.symm.trans b139_8) (by decide) | exact absurd (b116_6.symm.trans b153_9) (by decide) | exact absurd (b125_7.symm.trans b116_6) (by decide) | exact absurd (b125_7.symm.trans b139_8) (by decide) | exact absurd (b125_7.symm.trans b153_9) (by decide) | exact absurd (b139_8.symm.trans b116_6) (by decide) | exact absurd (b139_8.symm.trans b125_7) (by decide) | exact absurd (b139_8.symm.trans b153_9) (by decide) | exact absurd (b153_9.symm.trans b116_6) (by decide) | exact absurd (b153_9.symm.trans b125_7) (by decide) | exact absurd (b153_9.symm.trans b139_8) (by decide) | (simp only [an_series, inB_t h1, inB_t h3, cond_true, cond_false, Bool.and_true, Bool.true_and, Bool.and_false, Bool.false_and]; done) | (simp only [an_series, inB_t h1, inB_t h3, cond_true, cond_false, Bool.and_true, Bool.true_and, Bool.and_false, Bool.false_and, b116_6, b125_7, b139_8, b153_9, if_true, if_false, ite_self]; done) | (simp only [an_series, inB_t h1, inB_t h3, cond_true, cond_false, Bool.and_true, Bool.true_and, Bool.and_false, Bool.false_and] <;> simp [b116_6, b125_7, b139_8, b153_9]; done) | (simp only [an_series, inB_t h1, inB_t h3, cond_true, cond_false, Bool.and_true, Bool.true_and, Bool.and_false, Bool.false_and] <;> decide))⟩
                · skip
                  refine R_iload (pc := 156) dX9_series_156 rfl ?_
                  refine R_goto (pc := 158) 163 dX9_series_158 (by decide) ?_
                  exact R_iret (pc := 163) dX9_series_163 rfl rfl (Nat.zero_le _) (Nat.zero_le _) ⟨_, rfl, (by first | exact absurd (b116_6.symm.trans b125_7) (by decide) | exact absurd (b116_6.symm.trans b139_8) (by decide) | exact absurd (b116_6.symm.trans b153_9) (by decide) | exact absurd (b125_7.symm.trans b116_6) (by decide) | exact absurd (b125_7.symm.trans b139_8) (by decide) | exact absurd (b125_7.symm.trans b153_9) (by decide) | exact absurd (b139_8.symm.trans b116_6) (by decide) | exact absurd (b139_8.symm.trans b125_7) (by decide) | exact absurd (b139_8.symm.trans b153_9) (by decide) | exact absurd (b153_9.symm.trans b116_6) (by decide) | exact absurd (b153_9.symm.trans b125_7) (by decide) | exact absurd (b153_9.symm.trans b139_8) (by decide) | (simp only [an_series, inB_t h1, inB_t h3, cond_true, cond_false, Bool.and_true, Bool.true_and, Bool.and_false, Bool.false_and]; done) | (simp only [an_series, inB_t h1, inB_t h3, cond_true, cond_false, Bool.and_true, Bool.true_and, Bool.and_false, Bool.false_and, b116_6, b125_7, b139_8, b153_9, if_true, if_false, ite_self]; done) | (simp only [an_series, inB_t h1, inB_t h3, cond_true, cond_false, Bool.and_true, Bool.true_and, Bool.and_false, Bool.false_and] <;> simp [b116_6, b125_7, b139_8, b153_9]; done) | (simp only [an_series, inB_t h1, inB_t h3, cond_true, cond_false, Bool.and_true, Bool.true_and, Bool.and_false, Bool.false_and] <;> decide))⟩
              · skip
                refine R_aload_n (pc := 142) dX9_series_142 rfl rfl ?_
                refine R_iload_n (pc := 143) dX9_series_143 rfl rfl ?_
                refine R_iconst (pc := 144) (v := (-1)) dX9_series_144 (by decide) ?_
                refine k_X9_188 (pc := 145) (fx_X9_endOfD _ _ rfl) rfl (c_140 _) (by decide) (Nat.le_refl _) (Nat.le_refl _) (Nat.le_of_ble_eq_true rfl) dX9_series_145 (fun x w2 h => ?_)
                obtain ⟨rfl, rfl⟩ := h
                refine R_goto (pc := 148) 163 dX9_series_148 (by decide) ?_
                exact R_iret (pc := 163) dX9_series_163 rfl rfl (Nat.zero_le _) (Nat.zero_le _) ⟨_, rfl, (by first | exact absurd (b116_6.symm.trans b125_7) (by decide) | exact absurd (b116_6.symm.trans b139_8) (by decide) | exact absurd (b125_7.symm.trans b116_6) (by decide) | exact absurd (b125_7.symm.trans b139_8) (by decide) | exact absurd (b139_8.symm.trans b116_6) (by decide) | exact absurd (b139_8.symm.trans b125_7) (by decide) | (simp only [an_series, inB_t h1, inB_t h3, cond_true, cond_false, Bool.and_true, Bool.true_and, Bool.and_false, Bool.false_and]; done) | (simp only [an_series, inB_t h1, inB_t h3, cond_true, cond_false, Bool.and_true, Bool.true_and, Bool.and_false, Bool.false_and, b116_6, b125_7, b139_8, if_true, if_false, ite_self]; done) | (simp only [an_series, inB_t h1, inB_t h3, cond_true, cond_false, Bool.and_true, Bool.true_and, Bool.and_false, Bool.false_and] <;> simp [b116_6, b125_7, b139_8]; done) | (simp only [an_series, inB_t h1, inB_t h3, cond_true, cond_false, Bool.and_true, Bool.true_and, Bool.and_false, Bool.false_and] <;> decide))⟩
            · skip
              refine R_aload_n (pc := 128) dX9_series_128 rfl rfl ?_
              refine R_iload_n (pc := 129) dX9_series_129 rfl rfl ?_
              refine R_iconst (pc := 130) (v := 1) dX9_series_130 (by decide) ?_
              refine k_X9_188 (pc := 131) (fx_X9_endOfU _ _ rfl) rfl (c_140 _) (by decide) (Nat.le_refl _) (Nat.le_refl _) (Nat.le_of_ble_eq_true rfl) dX9_series_131 (fun x w2 h => ?_)
              obtain ⟨rfl, rfl⟩ := h
              refine R_goto (pc := 134) 163 dX9_series_134 (by decide) ?_
              exact R_iret (pc := 163) dX9_series_163 rfl rfl (Nat.zero_le _) (Nat.zero_le _) ⟨_, rfl, (by first | exact absurd (b116_6.symm.trans b125_7) (by decide) | exact absurd (b125_7.symm.trans b116_6) (by decide) | (simp only [an_series, inB_t h1, inB_t h3, cond_true, cond_false, Bool.and_true, Bool.true_and, Bool.and_false, Bool.false_and]; done) | (simp only [an_series, inB_t h1, inB_t h3, cond_true, cond_false, Bool.and_true, Bool.true_and, Bool.and_false, Bool.false_and, b116_6, b125_7, if_true, if_false, ite_self]; done) | (simp only [an_series, inB_t h1, inB_t h3, cond_true, cond_false, Bool.and_true, Bool.true_and, Bool.and_false, Bool.false_and] <;> simp [b116_6, b125_7]; done) | (simp only [an_series, inB_t h1, inB_t h3, cond_true, cond_false, Bool.and_true, Bool.true_and, Bool.and_false, Bool.false_and] <;> decide))⟩
          · skip
            refine R_iload_n (pc := 119) dX9_series_119 rfl rfl ?_
            refine R_goto (pc := 120) 163 dX9_series_120 (by decide) ?_
            exact R_iret (pc := 163) dX9_series_163 rfl rfl (Nat.zero_le _) (Nat.zero_le _) ⟨_, rfl, (by first | (simp only [an_series, inB_t h1, inB_t h3, cond_true, cond_false, Bool.and_true, Bool.true_and, Bool.and_false, Bool.false_and]; done) | (simp only [an_series, inB_t h1, inB_t h3, cond_true, cond_false, Bool.and_true, Bool.true_and, Bool.and_false, Bool.false_and, b116_6, if_true, if_false, ite_self]; done) | (simp only [an_series, inB_t h1, inB_t h3, cond_true, cond_false, Bool.and_true, Bool.true_and, Bool.and_false, Bool.false_and] <;> simp [b116_6]; done) | (simp only [an_series, inB_t h1, inB_t h3, cond_true, cond_false, Bool.and_true, Bool.true_and, Bool.and_false, Bool.false_and] <;> decide))⟩
        | succ q ih =>
          intro j o8 hj
          have hlt : j < 100 := by omega
          refine R_iload (pc := 36) dX9_series_36 rfl ?_
          refine R_bipush (pc := 38) (v := 100) dX9_series_38 (by decide) ?_
          refine R_icge (pc := 40) 115 dX9_series_40 (by decide) (fun h => absurd h (nI_ge hlt (by decide))) (fun _ => ?_)
          refine R_aload_n (pc := 43) dX9_series_43 rfl rfl ?_
          refine R_iload_n (pc := 44) dX9_series_44 rfl rfl ?_
          refine R_iload (pc := 45) dX9_series_45 rfl ?_
          refine k_X9_176 (pc := 47) (fx_X9_isMissing _ _ _ rfl) rfl (c_140 _) (by decide) (Nat.le_refl _) (Nat.le_refl _) (Nat.le_of_ble_eq_true rfl) dX9_series_47 (fun x w2 h => ?_)
          obtain ⟨rfl, rfl⟩ := h
          refine st_9_8_i_i (pc := 50) dX9_series_50 ?_
          refine R_iload_n (pc := 52) dX9_series_52 rfl rfl ?_
          refine R_aload_n (pc := 53) dX9_series_53 rfl rfl ?_
          refine R_iload_n (pc := 54) dX9_series_54 rfl rfl ?_
          refine R_iload (pc := 55) dX9_series_55 rfl ?_
          refine k_X9_185 (pc := 57) (fx_X9_hasNumber _ _ _ rfl) rfl (c_140 _) (by decide) (Nat.le_refl _) (Nat.le_refl _) (Nat.le_of_ble_eq_true rfl) dX9_series_57 (fun x w2 h => ?_)
          obtain ⟨rfl, rfl⟩ := h
          refine R_ifeq (pc := 60) 67 dX9_series_60 (by decide) (fun _ => ?_) (fun h => absurd (by decide) h)
          refine R_iconst (pc := 67) (v := 0) dX9_series_67 (by decide) ?_
          refine R_iadd (pc := 68) dX9_series_68 ?_
          refine R_cv 0 (by decide) ?_
          refine st_9_3_i_i (pc := 69) dX9_series_69 ?_
          refine R_iload (pc := 70) dX9_series_70 rfl ?_
          refine R_iload (pc := 72) dX9_series_72 rfl ?_
          refine R_ifeq (pc := 74) 81 dX9_series_74 (by decide) (fun _ => ?_) (fun h => absurd (by decide) h)
          refine R_iconst (pc := 81) (v := 0) dX9_series_81 (by decide) ?_
          refine R_iadd (pc := 82) dX9_series_82 ?_
          refine R_cv 0 (by decide) ?_
          refine st_9_4_i_i (pc := 83) dX9_series_83 ?_
          refine R_iload (pc := 85) dX9_series_85 rfl ?_
          refine R_iload (pc := 87) dX9_series_87 rfl ?_
          refine R_ifeq (pc := 89) 101 dX9_series_89 (by decide) (fun _ => ?_) (fun h => absurd (by decide) h)
          refine R_iconst (pc := 101) (v := 0) dX9_series_101 (by decide) ?_
          refine R_iadd (pc := 102) dX9_series_102 ?_
          refine R_cv 0 (by decide) ?_
          refine st_9_5_i_i (pc := 103) dX9_series_103 ?_
          refine R_iload (pc := 105) dX9_series_105 rfl ?_
          refine st_9_6_i_i (pc := 107) dX9_series_107 ?_
          refine inc_9_7_1_i (pc := 109) dX9_series_109 ?_
          refine R_goto (pc := 112) 36 dX9_series_112 (by decide) ?_
          rw [nI_1]
          exact ih (j + 1) _ (by omega)
      exact HL36 99 1 _ (by omega)
    · skip
      refine R_ifne (pc := 16) 22 dX9_series_16 (by decide) (fun h => absurd (by decide) h) (fun _ => ?_)
      refine R_bipush (pc := 19) (v := (-3)) dX9_series_19 (by decide) ?_
      exact R_iret (pc := 21) dX9_series_21 rfl rfl (Nat.zero_le _) (Nat.zero_le _) ⟨_, rfl, (by first | (simp only [an_series, inB_t h1, inB_f h3, cond_true, cond_false, Bool.and_true, Bool.true_and, Bool.and_false, Bool.false_and]; done) | (simp only [an_series, inB_t h1, inB_f h3, cond_true, cond_false, Bool.and_true, Bool.true_and, Bool.and_false, Bool.false_and, if_true, if_true, if_false, ite_self]; done) | (simp only [an_series, inB_t h1, inB_f h3, cond_true, cond_false, Bool.and_true, Bool.true_and, Bool.and_false, Bool.false_and] <;> simp []; done) | (simp only [an_series, inB_t h1, inB_f h3, cond_true, cond_false, Bool.and_true, Bool.true_and, Bool.and_false, Bool.false_and] <;> decide))⟩
  · skip
    refine R_ifne (pc := 4) 10 dX9_series_4 (by decide) (fun h => absurd (by decide) h) (fun _ => ?_)
    refine R_bipush (pc := 7) (v := (-2)) dX9_series_7 (by decide) ?_
    exact R_iret (pc := 9) dX9_series_9 rfl rfl (Nat.zero_le _) (Nat.zero_le _) ⟨_, rfl, (by first | (simp only [an_series, inB_f h1, cond_true, cond_false, Bool.and_true, Bool.true_and, Bool.and_false, Bool.false_and]; done) | (simp only [an_series, inB_f h1, cond_true, cond_false, Bool.and_true, Bool.true_and, Bool.and_false, Bool.false_and, if_true, if_true, if_false, ite_self]; done) | (simp only [an_series, inB_f h1, cond_true, cond_false, Bool.and_true, Bool.true_and, Bool.and_false, Bool.false_and] <;> simp []; done) | (simp only [an_series, inB_f h1, cond_true, cond_false, Bool.and_true, Bool.true_and, Bool.and_false, Bool.false_and] <;> decide))⟩
theorem dX9_quarrel_0 : decode cX9_quarrel 0 = .ok (.aload_n 0, 1) := by decide +kernel
theorem dX9_quarrel_1 : decode cX9_quarrel 1 = .ok (.iconst (-1), 1) := by decide +kernel
theorem dX9_quarrel_2 : decode cX9_quarrel 2 = .ok (.iconst 1, 1) := by decide +kernel
theorem dX9_quarrel_3 : decode cX9_quarrel 3 = .ok (.invokevirtual 228, 3) := by decide +kernel
theorem dX9_quarrel_6 : decode cX9_quarrel 6 = .ok (.ifCond .eq 7, 3) := by decide +kernel
theorem dX9_quarrel_9 : decode cX9_quarrel 9 = .ok (.iconst 0, 1) := by decide +kernel
theorem dX9_quarrel_10 : decode cX9_quarrel 10 = .ok (.goto 4, 3) := by decide +kernel
theorem dX9_quarrel_13 : decode cX9_quarrel 13 = .ok (.iconst 1, 1) := by decide +kernel
theorem dX9_quarrel_14 : decode cX9_quarrel 14 = .ok (.ireturn, 1) := by decide +kernel
set_option maxRecDepth 100000 in
set_option maxHeartbeats 40000000 in
theorem fm_quarrel {G : vG} {l : Launch} (τ : Sg)  : Sp G l yX9_quarrel cX9_quarrel 1 (some .int) 5 0 0 [.ref 140] (WW (mx τ)) (QI (fun x _ => x = 0)) := by
  refine Sp_of_R [(some (.ref 140))] [] rfl (by simp) rfl (Nat.le_of_ble_eq_true rfl) ?_
  refine R_aload_n (pc := 0) dX9_quarrel_0 rfl rfl ?_
  refine R_iconst (pc := 1) (v := (-1)) dX9_quarrel_1 (by decide) ?_
  refine R_iconst (pc := 2) (v := 1) dX9_quarrel_2 (by decide) ?_
  refine k_X9_228 (pc := 3) (fx_X9_areSpans _ _ _ rfl rfl) rfl (c_140 _) (by decide) (Nat.le_refl _) (Nat.le_refl _) (Nat.le_of_ble_eq_true rfl) dX9_quarrel_3 (fun x w1 h => ?_)
  subst h
  refine R_ifeq (pc := 6) 13 dX9_quarrel_6 (by decide) (fun h => absurd h (by decide)) (fun _ => ?_)
  refine R_iconst (pc := 9) (v := 0) dX9_quarrel_9 (by decide) ?_
  refine R_goto (pc := 10) 14 dX9_quarrel_10 (by decide) ?_
  exact R_iret (pc := 14) dX9_quarrel_14 rfl rfl (Nat.zero_le _) (Nat.zero_le _) ⟨_, rfl, rfl⟩
theorem dX9_culprit_0 : decode cX9_culprit 0 = .ok (.aload_n 0, 1) := by decide +kernel
theorem dX9_culprit_1 : decode cX9_culprit 1 = .ok (.iconst (-1), 1) := by decide +kernel
theorem dX9_culprit_2 : decode cX9_culprit 2 = .ok (.iconst 1, 1) := by decide +kernel
theorem dX9_culprit_3 : decode cX9_culprit 3 = .ok (.invokevirtual 228, 3) := by decide +kernel
theorem dX9_culprit_6 : decode cX9_culprit 6 = .ok (.ifCond .eq 5, 3) := by decide +kernel
theorem dX9_culprit_9 : decode cX9_culprit 9 = .ok (.iconst (-1), 1) := by decide +kernel
theorem dX9_culprit_10 : decode cX9_culprit 10 = .ok (.ireturn, 1) := by decide +kernel
theorem dX9_culprit_11 : decode cX9_culprit 11 = .ok (.iconst 0, 1) := by decide +kernel
theorem dX9_culprit_12 : decode cX9_culprit 12 = .ok (.istore_n 1, 1) := by decide +kernel
theorem dX9_culprit_13 : decode cX9_culprit 13 = .ok (.iload_n 1, 1) := by decide +kernel
theorem dX9_culprit_14 : decode cX9_culprit 14 = .ok (.aload_n 0, 1) := by decide +kernel
theorem dX9_culprit_15 : decode cX9_culprit 15 = .ok (.invokevirtual 120, 3) := by decide +kernel
theorem dX9_culprit_18 : decode cX9_culprit 18 = .ok (.if_icmp .ge 20, 3) := by decide +kernel
theorem dX9_culprit_21 : decode cX9_culprit 21 = .ok (.aload_n 0, 1) := by decide +kernel
theorem dX9_culprit_22 : decode cX9_culprit 22 = .ok (.iload_n 1, 1) := by decide +kernel
theorem dX9_culprit_23 : decode cX9_culprit 23 = .ok (.iconst 1, 1) := by decide +kernel
theorem dX9_culprit_24 : decode cX9_culprit 24 = .ok (.invokevirtual 228, 3) := by decide +kernel
theorem dX9_culprit_27 : decode cX9_culprit 27 = .ok (.ifCond .eq 5, 3) := by decide +kernel
theorem dX9_culprit_30 : decode cX9_culprit 30 = .ok (.iload_n 1, 1) := by decide +kernel
theorem dX9_culprit_31 : decode cX9_culprit 31 = .ok (.ireturn, 1) := by decide +kernel
theorem dX9_culprit_32 : decode cX9_culprit 32 = .ok (.iinc 1 1, 3) := by decide +kernel
theorem dX9_culprit_35 : decode cX9_culprit 35 = .ok (.goto (-22), 3) := by decide +kernel
theorem dX9_culprit_38 : decode cX9_culprit 38 = .ok (.iconst (-1), 1) := by decide +kernel
theorem dX9_culprit_39 : decode cX9_culprit 39 = .ok (.ireturn, 1) := by decide +kernel
set_option maxRecDepth 100000 in
set_option maxHeartbeats 40000000 in
theorem fm_culprit {G : vG} {l : Launch} (τ : Sg)  : Sp G l yX9_culprit cX9_culprit 2 (some .int) 5 0 0 [.ref 140] (WW (mx τ)) (QI (fun x _ => x = -1)) := by
  refine Sp_of_R [(some (.ref 140)), none] [none] rfl (by simp) rfl (Nat.le_of_ble_eq_true rfl) ?_
  refine R_aload_n (pc := 0) dX9_culprit_0 rfl rfl ?_
  refine R_iconst (pc := 1) (v := (-1)) dX9_culprit_1 (by decide) ?_
  refine R_iconst (pc := 2) (v := 1) dX9_culprit_2 (by decide) ?_
  refine k_X9_228 (pc := 3) (fx_X9_areSpans _ _ _ rfl rfl) rfl (c_140 _) (by decide) (Nat.le_refl _) (Nat.le_refl _) (Nat.le_of_ble_eq_true rfl) dX9_culprit_3 (fun x w1 h => ?_)
  subst h
  refine R_ifeq (pc := 6) 11 dX9_culprit_6 (by decide) (fun h => absurd h (by decide)) (fun _ => ?_)
  refine R_iconst (pc := 9) (v := (-1)) dX9_culprit_9 (by decide) ?_
  exact R_iret (pc := 10) dX9_culprit_10 rfl rfl (Nat.zero_le _) (Nat.zero_le _) ⟨_, rfl, rfl⟩
theorem dX9_count_0 : decode cX9_count 0 = .ok (.iconst 0, 1) := by decide +kernel
theorem dX9_count_1 : decode cX9_count 1 = .ok (.istore_n 2, 1) := by decide +kernel
theorem dX9_count_2 : decode cX9_count 2 = .ok (.iload_n 1, 1) := by decide +kernel
theorem dX9_count_3 : decode cX9_count 3 = .ok (.iconst 2, 1) := by decide +kernel
theorem dX9_count_4 : decode cX9_count 4 = .ok (.if_icmp .eq 8, 3) := by decide +kernel
theorem dX9_count_7 : decode cX9_count 7 = .ok (.iload_n 1, 1) := by decide +kernel
theorem dX9_count_8 : decode cX9_count 8 = .ok (.iconst 3, 1) := by decide +kernel
theorem dX9_count_9 : decode cX9_count 9 = .ok (.if_icmp .ne 77, 3) := by decide +kernel
theorem dX9_count_12 : decode cX9_count 12 = .ok (.aload_n 0, 1) := by decide +kernel
theorem dX9_count_13 : decode cX9_count 13 = .ok (.invokevirtual 162, 3) := by decide +kernel
theorem dX9_count_16 : decode cX9_count 16 = .ok (.aload_n 0, 1) := by decide +kernel
theorem dX9_count_17 : decode cX9_count 17 = .ok (.aload_n 0, 1) := by decide +kernel
theorem dX9_count_18 : decode cX9_count 18 = .ok (.getfield 54, 3) := by decide +kernel
theorem dX9_count_21 : decode cX9_count 21 = .ok (.iconst 0, 1) := by decide +kernel
theorem dX9_count_22 : decode cX9_count 22 = .ok (.iconst (-1), 1) := by decide +kernel
theorem dX9_count_23 : decode cX9_count 23 = .ok (.invokevirtual 165, 3) := by decide +kernel
theorem dX9_count_26 : decode cX9_count 26 = .ok (.aload_n 0, 1) := by decide +kernel
theorem dX9_count_27 : decode cX9_count 27 = .ok (.aload_n 0, 1) := by decide +kernel
theorem dX9_count_28 : decode cX9_count 28 = .ok (.getfield 57, 3) := by decide +kernel
theorem dX9_count_31 : decode cX9_count 31 = .ok (.iconst 1, 1) := by decide +kernel
theorem dX9_count_32 : decode cX9_count 32 = .ok (.iconst (-1), 1) := by decide +kernel
theorem dX9_count_33 : decode cX9_count 33 = .ok (.invokevirtual 165, 3) := by decide +kernel
theorem dX9_count_36 : decode cX9_count 36 = .ok (.iconst 0, 1) := by decide +kernel
theorem dX9_count_37 : decode cX9_count 37 = .ok (.istore_n 3, 1) := by decide +kernel
theorem dX9_count_38 : decode cX9_count 38 = .ok (.iload_n 3, 1) := by decide +kernel
theorem dX9_count_39 : decode cX9_count 39 = .ok (.aload_n 0, 1) := by decide +kernel
theorem dX9_count_40 : decode cX9_count 40 = .ok (.invokevirtual 120, 3) := by decide +kernel
theorem dX9_count_43 : decode cX9_count 43 = .ok (.if_icmp .ge 41, 3) := by decide +kernel
theorem dX9_count_46 : decode cX9_count 46 = .ok (.iload_n 2, 1) := by decide +kernel
theorem dX9_count_47 : decode cX9_count 47 = .ok (.iload_n 1, 1) := by decide +kernel
theorem dX9_count_48 : decode cX9_count 48 = .ok (.iconst 2, 1) := by decide +kernel
theorem dX9_count_49 : decode cX9_count 49 = .ok (.if_icmp .ne 12, 3) := by decide +kernel
theorem dX9_count_52 : decode cX9_count 52 = .ok (.aload_n 0, 1) := by decide +kernel
theorem dX9_count_53 : decode cX9_count 53 = .ok (.getfield 54, 3) := by decide +kernel
theorem dX9_count_56 : decode cX9_count 56 = .ok (.iload_n 3, 1) := by decide +kernel
theorem dX9_count_57 : decode cX9_count 57 = .ok (.iaload, 1) := by decide +kernel
theorem dX9_count_58 : decode cX9_count 58 = .ok (.goto 9, 3) := by decide +kernel
theorem dX9_count_61 : decode cX9_count 61 = .ok (.aload_n 0, 1) := by decide +kernel
theorem dX9_count_62 : decode cX9_count 62 = .ok (.getfield 57, 3) := by decide +kernel
theorem dX9_count_65 : decode cX9_count 65 = .ok (.iload_n 3, 1) := by decide +kernel
theorem dX9_count_66 : decode cX9_count 66 = .ok (.iaload, 1) := by decide +kernel
theorem dX9_count_67 : decode cX9_count 67 = .ok (.iload_n 3, 1) := by decide +kernel
theorem dX9_count_68 : decode cX9_count 68 = .ok (.if_icmp .ne 7, 3) := by decide +kernel
theorem dX9_count_71 : decode cX9_count 71 = .ok (.iconst 1, 1) := by decide +kernel
theorem dX9_count_72 : decode cX9_count 72 = .ok (.goto 4, 3) := by decide +kernel
theorem dX9_count_75 : decode cX9_count 75 = .ok (.iconst 0, 1) := by decide +kernel
theorem dX9_count_76 : decode cX9_count 76 = .ok (.iadd, 1) := by decide +kernel
theorem dX9_count_77 : decode cX9_count 77 = .ok (.istore_n 2, 1) := by decide +kernel
theorem dX9_count_78 : decode cX9_count 78 = .ok (.iinc 3 1, 3) := by decide +kernel
theorem dX9_count_81 : decode cX9_count 81 = .ok (.goto (-43), 3) := by decide +kernel
theorem dX9_count_84 : decode cX9_count 84 = .ok (.iload_n 2, 1) := by decide +kernel
theorem dX9_count_85 : decode cX9_count 85 = .ok (.ireturn, 1) := by decide +kernel
theorem dX9_count_86 : decode cX9_count 86 = .ok (.iload_n 1, 1) := by decide +kernel
theorem dX9_count_87 : decode cX9_count 87 = .ok (.tableswitch 75 0 7 #[45, 50, 75, 75, 55, 60, 65, 70], 45) := by decide +kernel
theorem dX9_count_132 : decode cX9_count 132 = .ok (.aload_n 0, 1) := by decide +kernel
theorem dX9_count_133 : decode cX9_count 133 = .ok (.getfield 117, 3) := by decide +kernel
theorem dX9_count_136 : decode cX9_count 136 = .ok (.ireturn, 1) := by decide +kernel
theorem dX9_count_137 : decode cX9_count 137 = .ok (.aload_n 0, 1) := by decide +kernel
theorem dX9_count_138 : decode cX9_count 138 = .ok (.invokevirtual 120, 3) := by decide +kernel
theorem dX9_count_141 : decode cX9_count 141 = .ok (.ireturn, 1) := by decide +kernel
theorem dX9_count_142 : decode cX9_count 142 = .ok (.aload_n 0, 1) := by decide +kernel
theorem dX9_count_143 : decode cX9_count 143 = .ok (.getfield 132, 3) := by decide +kernel
theorem dX9_count_146 : decode cX9_count 146 = .ok (.ireturn, 1) := by decide +kernel
theorem dX9_count_147 : decode cX9_count 147 = .ok (.aload_n 0, 1) := by decide +kernel
theorem dX9_count_148 : decode cX9_count 148 = .ok (.getfield 254, 3) := by decide +kernel
theorem dX9_count_151 : decode cX9_count 151 = .ok (.ireturn, 1) := by decide +kernel
theorem dX9_count_152 : decode cX9_count 152 = .ok (.aload_n 0, 1) := by decide +kernel
theorem dX9_count_153 : decode cX9_count 153 = .ok (.getfield 215, 3) := by decide +kernel
theorem dX9_count_156 : decode cX9_count 156 = .ok (.ireturn, 1) := by decide +kernel
theorem dX9_count_157 : decode cX9_count 157 = .ok (.aload_n 0, 1) := by decide +kernel
theorem dX9_count_158 : decode cX9_count 158 = .ok (.getfield 201, 3) := by decide +kernel
theorem dX9_count_161 : decode cX9_count 161 = .ok (.ireturn, 1) := by decide +kernel
theorem dX9_count_162 : decode cX9_count 162 = .ok (.bipush (-3), 2) := by decide +kernel
theorem dX9_count_164 : decode cX9_count 164 = .ok (.ireturn, 1) := by decide +kernel
set_option maxRecDepth 100000 in
set_option maxHeartbeats 40000000 in
theorem fm_count {G : vG} {l : Launch} (τ : Sg) (a : Int32) : Sp G l yX9_count cX9_count 4 (some .int) 4 0 0 [.ref 140, .int a] (WW (mx τ)) (QI (fun x _ => x = an_count a)) := by
  refine Sp_of_R [(some (.ref 140)), (some (.int a)), none, none] [none, none] rfl (by simp) rfl (Nat.le_of_ble_eq_true rfl) ?_
  rcases sw7 a with rfl | rfl | rfl | rfl | rfl | rfl | rfl | rfl | hsw
  · skip
    refine R_iconst (pc := 0) (v := 0) dX9_count_0 (by decide) ?_
    refine st_4_2_i_i (pc := 1) dX9_count_1 ?_
    refine R_iload_n (pc := 2) dX9_count_2 rfl rfl ?_
    refine R_iconst (pc := 3) (v := 2) dX9_count_3 (by decide) ?_
    refine R_iceq (pc := 4) 12 dX9_count_4 (by decide) (fun h => absurd h (by decide)) (fun _ => ?_)
    refine R_iload_n (pc := 7) dX9_count_7 rfl rfl ?_
    refine R_iconst (pc := 8) (v := 3) dX9_count_8 (by decide) ?_
    refine R_icne (pc := 9) 86 dX9_count_9 (by decide) (fun _ => ?_) (fun h => absurd h (by decide))
    refine R_iload_n (pc := 86) dX9_count_86 rfl rfl ?_
    refine R_tin (pc := 87) 132 dX9_count_87 (by decide) (by decide) rfl (by decide) ?_
    refine R_aload_n (pc := 132) dX9_count_132 rfl rfl ?_
    refine g_X9_117 (pc := 133) (v := .int 0) rfl dX9_count_133 (c_140 _) rfl ?_
    exact R_iret (pc := 136) dX9_count_136 rfl rfl (Nat.zero_le _) (Nat.zero_le _) ⟨_, rfl, (by first | (simp only [an_count, inB_t (show inR 0 0 7 from ⟨by decide, by decide⟩), cond_true, cond_false, Bool.and_true, Bool.true_and, Bool.and_false, Bool.false_and]; done) | (simp only [an_count, inB_t (show inR 0 0 7 from ⟨by decide, by decide⟩), cond_true, cond_false, Bool.and_true, Bool.true_and, Bool.and_false, Bool.false_and, if_true, if_true, if_false, ite_self]; done) | (simp only [an_count, inB_t (show inR 0 0 7 from ⟨by decide, by decide⟩), cond_true, cond_false, Bool.and_true, Bool.true_and, Bool.and_false, Bool.false_and] <;> simp []; done) | (simp only [an_count, inB_t (show inR 0 0 7 from ⟨by decide, by decide⟩), cond_true, cond_false, Bool.and_true, Bool.true_and, Bool.and_false, Bool.false_and] <;> decide))⟩
  · skip
    refine R_iconst (pc := 0) (v := 0) dX9_count_0 (by decide) ?_
    refine st_4_2_i_i (pc := 1) dX9_count_1 ?_
    refine R_iload_n (pc := 2) dX9_count_2 rfl rfl ?_
    refine R_iconst (pc := 3) (v := 2) dX9_count_3 (by decide) ?_
    refine R_iceq (pc := 4) 12 dX9_count_4 (by decide) (fun h => absurd h (by decide)) (fun _ => ?_)
    refine R_iload_n (pc := 7) dX9_count_7 rfl rfl ?_
    refine R_iconst (pc := 8) (v := 3) dX9_count_8 (by decide) ?_
    refine R_icne (pc := 9) 86 dX9_count_9 (by decide) (fun _ => ?_) (fun h => absurd h (by decide))
    refine R_iload_n (pc := 86) dX9_count_86 rfl rfl ?_
    refine R_tin (pc := 87) 137 dX9_count_87 (by decide) (by decide) rfl (by decide) ?_
    refine R_aload_n (pc := 137) dX9_count_137 rfl rfl ?_
    refine k_X9_120 (pc := 138) (fx_X9_thereMany _ rfl) rfl (c_140 _) (by decide) (Nat.le_refl _) (Nat.le_refl _) (Nat.le_of_ble_eq_true rfl) dX9_count_138 (fun x w2 h => ?_)
    obtain ⟨rfl, rfl⟩ := h
    exact R_iret (pc := 141) dX9_count_141 rfl rfl (Nat.zero_le _) (Nat.zero_le _) ⟨_, rfl, (by first | (simp only [an_count, inB_t (show inR 1 0 7 from ⟨by decide, by decide⟩), cond_true, cond_false, Bool.and_true, Bool.true_and, Bool.and_false, Bool.false_and]; done) | (simp only [an_count, inB_t (show inR 1 0 7 from ⟨by decide, by decide⟩), cond_true, cond_false, Bool.and_true, Bool.true_and, Bool.and_false, Bool.false_and, if_true, if_true, if_false, ite_self]; done) | (simp only [an_count, inB_t (show inR 1 0 7 from ⟨by decide, by decide⟩), cond_true, cond_false, Bool.and_true, Bool.true_and, Bool.and_false, Bool.false_and] <;> simp []; done) | (simp only [an_count, inB_t (show inR 1 0 7 from ⟨by decide, by decide⟩), cond_true, cond_false, Bool.and_true, Bool.true_and, Bool.and_false, Bool.false_and] <;> decide))⟩
  · skip
    refine R_iconst (pc := 0) (v := 0) dX9_count_0 (by decide) ?_
    refine st_4_2_i_i (pc := 1) dX9_count_1 ?_
    refine R_iload_n (pc := 2) dX9_count_2 rfl rfl ?_
    refine R_iconst (pc := 3) (v := 2) dX9_count_3 (by decide) ?_
    refine R_iceq (pc := 4) 12 dX9_count_4 (by decide) (fun _ => ?_) (fun h => absurd (by decide) h)
    refine R_aload_n (pc := 12) dX9_count_12 rfl rfl ?_
    refine k_X9_162 (pc := 13) (fx_X9_findUnlike _ rfl) rfl (c_140 _) (by decide) (Nat.le_refl _) (Nat.le_refl _) (Nat.le_of_ble_eq_true rfl) dX9_count_13 (fun w2 h => ?_)
    subst h
    refine R_aload_n (pc := 16) dX9_count_16 rfl rfl ?_
    refine R_aload_n (pc := 17) dX9_count_17 rfl rfl ?_
    refine g_X9_54 (pc := 18) (v := .ref 152) rfl dX9_count_18 (c_140 _) rfl ?_
    refine R_iconst (pc := 21) (v := 0) dX9_count_21 (by decide) ?_
    refine R_iconst (pc := 22) (v := (-1)) dX9_count_22 (by decide) ?_
    refine k_X9_165 (pc := 23) (fx_X9_findChains _ _ _ _ rfl) rfl (c_140 _) (by decide) (Nat.le_refl _) (Nat.le_refl _) (Nat.le_of_ble_eq_true rfl) dX9_count_23 (fun w2 h => ?_)
    subst h
    refine R_aload_n (pc := 26) dX9_count_26 rfl rfl ?_
    refine R_aload_n (pc := 27) dX9_count_27 rfl rfl ?_
    refine g_X9_57 (pc := 28) (v := .ref 153) rfl dX9_count_28 (c_140 _) rfl ?_
    refine R_iconst (pc := 31) (v := 1) dX9_count_31 (by decide) ?_
    refine R_iconst (pc := 32) (v := (-1)) dX9_count_32 (by decide) ?_
    refine k_X9_165 (pc := 33) (fx_X9_findChains _ _ _ _ rfl) rfl (c_140 _) (by decide) (Nat.le_refl _) (Nat.le_refl _) (Nat.le_of_ble_eq_true rfl) dX9_count_33 (fun w2 h => ?_)
    subst h
    refine R_iconst (pc := 36) (v := 0) dX9_count_36 (by decide) ?_
    refine st_4_3_i_i (pc := 37) dX9_count_37 ?_
    refine R_iload_n (pc := 38) dX9_count_38 rfl rfl ?_
    refine R_aload_n (pc := 39) dX9_count_39 rfl rfl ?_
    refine k_X9_120 (pc := 40) (fx_X9_thereMany _ rfl) rfl (c_140 _) (by decide) (Nat.le_refl _) (Nat.le_refl _) (Nat.le_of_ble_eq_true rfl) dX9_count_40 (fun x w2 h => ?_)
    obtain ⟨rfl, rfl⟩ := h
    refine R_icge (pc := 43) 84 dX9_count_43 (by decide) (fun _ => ?_) (fun h => absurd (by decide) h)
    refine R_iload_n (pc := 84) dX9_count_84 rfl rfl ?_
    exact R_iret (pc := 85) dX9_count_85 rfl rfl (Nat.zero_le _) (Nat.zero_le _) ⟨_, rfl, (by first | (simp only [an_count, inB_t (show inR 2 0 7 from ⟨by decide, by decide⟩), cond_true, cond_false, Bool.and_true, Bool.true_and, Bool.and_false, Bool.false_and]; done) | (simp only [an_count, inB_t (show inR 2 0 7 from ⟨by decide, by decide⟩), cond_true, cond_false, Bool.and_true, Bool.true_and, Bool.and_false, Bool.false_and, if_true, if_true, if_false, ite_self]; done) | (simp only [an_count, inB_t (show inR 2 0 7 from ⟨by decide, by decide⟩), cond_true, cond_false, Bool.and_true, Bool.true_and, Bool.and_false, Bool.false_and] <;> simp []; done) | (simp only [an_count, inB_t (show inR 2 0 7 from ⟨by decide, by decide⟩), cond_true, cond_false, Bool.and_true, Bool.true_and, Bool.and_false, Bool.false_and] <;> decide))⟩
  · skip
    refine R_iconst (pc := 0) (v := 0) dX9_count_0 (by decide) ?_
    refine st_4_2_i_i (pc := 1) dX9_count_1 ?_
    refine R_iload_n (pc := 2) dX9_count_2 rfl rfl ?_
    refine R_iconst (pc := 3) (v := 2) dX9_count_3 (by decide) ?_
    refine R_iceq (pc := 4) 12 dX9_count_4 (by decide) (fun h => absurd h (by decide)) (fun _ => ?_)
    refine R_iload_n (pc := 7) dX9_count_7 rfl rfl ?_
    refine R_iconst (pc := 8) (v := 3) dX9_count_8 (by decide) ?_
    refine R_icne (pc := 9) 86 dX9_count_9 (by decide) (fun h => absurd (by decide) h) (fun _ => ?_)
    refine R_aload_n (pc := 12) dX9_count_12 rfl rfl ?_
    refine k_X9_162 (pc := 13) (fx_X9_findUnlike _ rfl) rfl (c_140 _) (by decide) (Nat.le_refl _) (Nat.le_refl _) (Nat.le_of_ble_eq_true rfl) dX9_count_13 (fun w2 h => ?_)
    subst h
    refine R_aload_n (pc := 16) dX9_count_16 rfl rfl ?_
    refine R_aload_n (pc := 17) dX9_count_17 rfl rfl ?_
    refine g_X9_54 (pc := 18) (v := .ref 152) rfl dX9_count_18 (c_140 _) rfl ?_
    refine R_iconst (pc := 21) (v := 0) dX9_count_21 (by decide) ?_
    refine R_iconst (pc := 22) (v := (-1)) dX9_count_22 (by decide) ?_
    refine k_X9_165 (pc := 23) (fx_X9_findChains _ _ _ _ rfl) rfl (c_140 _) (by decide) (Nat.le_refl _) (Nat.le_refl _) (Nat.le_of_ble_eq_true rfl) dX9_count_23 (fun w2 h => ?_)
    subst h
    refine R_aload_n (pc := 26) dX9_count_26 rfl rfl ?_
    refine R_aload_n (pc := 27) dX9_count_27 rfl rfl ?_
    refine g_X9_57 (pc := 28) (v := .ref 153) rfl dX9_count_28 (c_140 _) rfl ?_
    refine R_iconst (pc := 31) (v := 1) dX9_count_31 (by decide) ?_
    refine R_iconst (pc := 32) (v := (-1)) dX9_count_32 (by decide) ?_
    refine k_X9_165 (pc := 33) (fx_X9_findChains _ _ _ _ rfl) rfl (c_140 _) (by decide) (Nat.le_refl _) (Nat.le_refl _) (Nat.le_of_ble_eq_true rfl) dX9_count_33 (fun w2 h => ?_)
    subst h
    refine R_iconst (pc := 36) (v := 0) dX9_count_36 (by decide) ?_
    refine st_4_3_i_i (pc := 37) dX9_count_37 ?_
    refine R_iload_n (pc := 38) dX9_count_38 rfl rfl ?_
    refine R_aload_n (pc := 39) dX9_count_39 rfl rfl ?_
    refine k_X9_120 (pc := 40) (fx_X9_thereMany _ rfl) rfl (c_140 _) (by decide) (Nat.le_refl _) (Nat.le_refl _) (Nat.le_of_ble_eq_true rfl) dX9_count_40 (fun x w2 h => ?_)
    obtain ⟨rfl, rfl⟩ := h
    refine R_icge (pc := 43) 84 dX9_count_43 (by decide) (fun _ => ?_) (fun h => absurd (by decide) h)
    refine R_iload_n (pc := 84) dX9_count_84 rfl rfl ?_
    exact R_iret (pc := 85) dX9_count_85 rfl rfl (Nat.zero_le _) (Nat.zero_le _) ⟨_, rfl, (by first | (simp only [an_count, inB_t (show inR 3 0 7 from ⟨by decide, by decide⟩), cond_true, cond_false, Bool.and_true, Bool.true_and, Bool.and_false, Bool.false_and]; done) | (simp only [an_count, inB_t (show inR 3 0 7 from ⟨by decide, by decide⟩), cond_true, cond_false, Bool.and_true, Bool.true_and, Bool.and_false, Bool.false_and, if_true, if_true, if_false, ite_self]; done) | (simp only [an_count, inB_t (show inR 3 0 7 from ⟨by decide, by decide⟩), cond_true, cond_false, Bool.and_true, Bool.true_and, Bool.and_false, Bool.false_and] <;> simp []; done) | (simp only [an_count, inB_t (show inR 3 0 7 from ⟨by decide, by decide⟩), cond_true, cond_false, Bool.and_true, Bool.true_and, Bool.and_false, Bool.false_and] <;> decide))⟩
  · skip
    refine R_iconst (pc := 0) (v := 0) dX9_count_0 (by decide) ?_
    refine st_4_2_i_i (pc := 1) dX9_count_1 ?_
    refine R_iload_n (pc := 2) dX9_count_2 rfl rfl ?_
    refine R_iconst (pc := 3) (v := 2) dX9_count_3 (by decide) ?_
    refine R_iceq (pc := 4) 12 dX9_count_4 (by decide) (fun h => absurd h (by decide)) (fun _ => ?_)
    refine R_iload_n (pc := 7) dX9_count_7 rfl rfl ?_
    refine R_iconst (pc := 8) (v := 3) dX9_count_8 (by decide) ?_
    refine R_icne (pc := 9) 86 dX9_count_9 (by decide) (fun _ => ?_) (fun h => absurd h (by decide))
    refine R_iload_n (pc := 86) dX9_count_86 rfl rfl ?_
    refine R_tin (pc := 87) 142 dX9_count_87 (by decide) (by decide) rfl (by decide) ?_
    refine R_aload_n (pc := 142) dX9_count_142 rfl rfl ?_
    refine g_X9_132 (pc := 143) (v := .int 0) rfl dX9_count_143 (c_140 _) rfl ?_
    exact R_iret (pc := 146) dX9_count_146 rfl rfl (Nat.zero_le _) (Nat.zero_le _) ⟨_, rfl, (by first | (simp only [an_count, inB_t (show inR 4 0 7 from ⟨by decide, by decide⟩), cond_true, cond_false, Bool.and_true, Bool.true_and, Bool.and_false, Bool.false_and]; done) | (simp only [an_count, inB_t (show inR 4 0 7 from ⟨by decide, by decide⟩), cond_true, cond_false, Bool.and_true, Bool.true_and, Bool.and_false, Bool.false_and, if_true, if_true, if_false, ite_self]; done) | (simp only [an_count, inB_t (show inR 4 0 7 from ⟨by decide, by decide⟩), cond_true, cond_false, Bool.and_true, Bool.true_and, Bool.and_false, Bool.false_and] <;> simp []; done) | (simp only [an_count, inB_t (show inR 4 0 7 from ⟨by decide, by decide⟩), cond_true, cond_false, Bool.and_true, Bool.true_and, Bool.and_false, Bool.false_and] <;> decide))⟩
  · skip
    refine R_iconst (pc := 0) (v := 0) dX9_count_0 (by decide) ?_
    refine st_4_2_i_i (pc := 1) dX9_count_1 ?_
    refine R_iload_n (pc := 2) dX9_count_2 rfl rfl ?_
    refine R_iconst (pc := 3) (v := 2) dX9_count_3 (by decide) ?_
    refine R_iceq (pc := 4) 12 dX9_count_4 (by decide) (fun h => absurd h (by decide)) (fun _ => ?_)
    refine R_iload_n (pc := 7) dX9_count_7 rfl rfl ?_
    refine R_iconst (pc := 8) (v := 3) dX9_count_8 (by decide) ?_
    refine R_icne (pc := 9) 86 dX9_count_9 (by decide) (fun _ => ?_) (fun h => absurd h (by decide))
    refine R_iload_n (pc := 86) dX9_count_86 rfl rfl ?_
    refine R_tin (pc := 87) 147 dX9_count_87 (by decide) (by decide) rfl (by decide) ?_
    refine R_aload_n (pc := 147) dX9_count_147 rfl rfl ?_
    refine g_X9_254 (pc := 148) (v := .int 0) rfl dX9_count_148 (c_140 _) rfl ?_
    exact R_iret (pc := 151) dX9_count_151 rfl rfl (Nat.zero_le _) (Nat.zero_le _) ⟨_, rfl, (by first | (simp only [an_count, inB_t (show inR 5 0 7 from ⟨by decide, by decide⟩), cond_true, cond_false, Bool.and_true, Bool.true_and, Bool.and_false, Bool.false_and]; done) | (simp only [an_count, inB_t (show inR 5 0 7 from ⟨by decide, by decide⟩), cond_true, cond_false, Bool.and_true, Bool.true_and, Bool.and_false, Bool.false_and, if_true, if_true, if_false, ite_self]; done) | (simp only [an_count, inB_t (show inR 5 0 7 from ⟨by decide, by decide⟩), cond_true, cond_false, Bool.and_true, Bool.true_and, Bool.and_false, Bool.false_and] <;> simp []; done) | (simp only [an_count, inB_t (show inR 5 0 7 from ⟨by decide, by decide⟩), cond_true, cond_false, Bool.and_true, Bool.true_and, Bool.and_false, Bool.false_and] <;> decide))⟩
  · skip
    refine R_iconst (pc := 0) (v := 0) dX9_count_0 (by decide) ?_
    refine st_4_2_i_i (pc := 1) dX9_count_1 ?_
    refine R_iload_n (pc := 2) dX9_count_2 rfl rfl ?_
    refine R_iconst (pc := 3) (v := 2) dX9_count_3 (by decide) ?_
    refine R_iceq (pc := 4) 12 dX9_count_4 (by decide) (fun h => absurd h (by decide)) (fun _ => ?_)
    refine R_iload_n (pc := 7) dX9_count_7 rfl rfl ?_
    refine R_iconst (pc := 8) (v := 3) dX9_count_8 (by decide) ?_
    refine R_icne (pc := 9) 86 dX9_count_9 (by decide) (fun _ => ?_) (fun h => absurd h (by decide))
    refine R_iload_n (pc := 86) dX9_count_86 rfl rfl ?_
    refine R_tin (pc := 87) 152 dX9_count_87 (by decide) (by decide) rfl (by decide) ?_
    refine R_aload_n (pc := 152) dX9_count_152 rfl rfl ?_
    refine g_X9_215 (pc := 153) (v := .int 0) rfl dX9_count_153 (c_140 _) rfl ?_
    exact R_iret (pc := 156) dX9_count_156 rfl rfl (Nat.zero_le _) (Nat.zero_le _) ⟨_, rfl, (by first | (simp only [an_count, inB_t (show inR 6 0 7 from ⟨by decide, by decide⟩), cond_true, cond_false, Bool.and_true, Bool.true_and, Bool.and_false, Bool.false_and]; done) | (simp only [an_count, inB_t (show inR 6 0 7 from ⟨by decide, by decide⟩), cond_true, cond_false, Bool.and_true, Bool.true_and, Bool.and_false, Bool.false_and, if_true, if_true, if_false, ite_self]; done) | (simp only [an_count, inB_t (show inR 6 0 7 from ⟨by decide, by decide⟩), cond_true, cond_false, Bool.and_true, Bool.true_and, Bool.and_false, Bool.false_and] <;> simp []; done) | (simp only [an_count, inB_t (show inR 6 0 7 from ⟨by decide, by decide⟩), cond_true, cond_false, Bool.and_true, Bool.true_and, Bool.and_false, Bool.false_and] <;> decide))⟩
  · skip
    refine R_iconst (pc := 0) (v := 0) dX9_count_0 (by decide) ?_
    refine st_4_2_i_i (pc := 1) dX9_count_1 ?_
    refine R_iload_n (pc := 2) dX9_count_2 rfl rfl ?_
    refine R_iconst (pc := 3) (v := 2) dX9_count_3 (by decide) ?_
    refine R_iceq (pc := 4) 12 dX9_count_4 (by decide) (fun h => absurd h (by decide)) (fun _ => ?_)
    refine R_iload_n (pc := 7) dX9_count_7 rfl rfl ?_
    refine R_iconst (pc := 8) (v := 3) dX9_count_8 (by decide) ?_
    refine R_icne (pc := 9) 86 dX9_count_9 (by decide) (fun _ => ?_) (fun h => absurd h (by decide))
    refine R_iload_n (pc := 86) dX9_count_86 rfl rfl ?_
    refine R_tin (pc := 87) 157 dX9_count_87 (by decide) (by decide) rfl (by decide) ?_
    refine R_aload_n (pc := 157) dX9_count_157 rfl rfl ?_
    refine g_X9_201 (pc := 158) (v := .int 0) rfl dX9_count_158 (c_140 _) rfl ?_
    exact R_iret (pc := 161) dX9_count_161 rfl rfl (Nat.zero_le _) (Nat.zero_le _) ⟨_, rfl, (by first | (simp only [an_count, inB_t (show inR 7 0 7 from ⟨by decide, by decide⟩), cond_true, cond_false, Bool.and_true, Bool.true_and, Bool.and_false, Bool.false_and]; done) | (simp only [an_count, inB_t (show inR 7 0 7 from ⟨by decide, by decide⟩), cond_true, cond_false, Bool.and_true, Bool.true_and, Bool.and_false, Bool.false_and, if_true, if_true, if_false, ite_self]; done) | (simp only [an_count, inB_t (show inR 7 0 7 from ⟨by decide, by decide⟩), cond_true, cond_false, Bool.and_true, Bool.true_and, Bool.and_false, Bool.false_and] <;> simp []; done) | (simp only [an_count, inB_t (show inR 7 0 7 from ⟨by decide, by decide⟩), cond_true, cond_false, Bool.and_true, Bool.true_and, Bool.and_false, Bool.false_and] <;> decide))⟩
  · skip
    refine R_iconst (pc := 0) (v := 0) dX9_count_0 (by decide) ?_
    refine st_4_2_i_i (pc := 1) dX9_count_1 ?_
    refine R_iload_n (pc := 2) dX9_count_2 rfl rfl ?_
    refine R_iconst (pc := 3) (v := 2) dX9_count_3 (by decide) ?_
    refine R_iceq (pc := 4) 12 dX9_count_4 (by decide) (fun h => absurd h (ne_out hsw (by decide))) (fun _ => ?_)
    refine R_iload_n (pc := 7) dX9_count_7 rfl rfl ?_
    refine R_iconst (pc := 8) (v := 3) dX9_count_8 (by decide) ?_
    refine R_icne (pc := 9) 86 dX9_count_9 (by decide) (fun _ => ?_) (fun h => absurd h (ne_out hsw (by decide)))
    refine R_iload_n (pc := 86) dX9_count_86 rfl rfl ?_
    refine R_tout (pc := 87) 162 dX9_count_87 hsw (by decide) ?_
    refine R_bipush (pc := 162) (v := (-3)) dX9_count_162 (by decide) ?_
    exact R_iret (pc := 164) dX9_count_164 rfl rfl (Nat.zero_le _) (Nat.zero_le _) ⟨_, rfl, (by first | (simp only [an_count, (sw_out (a := a) (M := 7) hsw), cond_true, cond_false, Bool.and_true, Bool.true_and, Bool.and_false, Bool.false_and]; done) | (simp only [an_count, (sw_out (a := a) (M := 7) hsw), cond_true, cond_false, Bool.and_true, Bool.true_and, Bool.and_false, Bool.false_and, (show ¬ a = 0 from ne_out hsw (by decide)), (show ¬ a = 1 from ne_out hsw (by decide)), (show ¬ a = 2 from ne_out hsw (by decide)), (show ¬ a = 3 from ne_out hsw (by decide)), (show ¬ a = 4 from ne_out hsw (by decide)), (show ¬ a = 5 from ne_out hsw (by decide)), (show ¬ a = 6 from ne_out hsw (by decide)), (show ¬ a = 7 from ne_out hsw (by decide)), if_true, if_false, ite_self]; done) | (simp only [an_count, (sw_out (a := a) (M := 7) hsw), cond_true, cond_false, Bool.and_true, Bool.true_and, Bool.and_false, Bool.false_and] <;> simp [(show ¬ a = 0 from ne_out hsw (by decide)), (show ¬ a = 1 from ne_out hsw (by decide)), (show ¬ a = 2 from ne_out hsw (by decide)), (show ¬ a = 3 from ne_out hsw (by decide)), (show ¬ a = 4 from ne_out hsw (by decide)), (show ¬ a = 5 from ne_out hsw (by decide)), (show ¬ a = 6 from ne_out hsw (by decide)), (show ¬ a = 7 from ne_out hsw (by decide))]; done) | (simp only [an_count, (sw_out (a := a) (M := 7) hsw), cond_true, cond_false, Bool.and_true, Bool.true_and, Bool.and_false, Bool.false_and] <;> decide))⟩
