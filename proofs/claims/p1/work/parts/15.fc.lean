
theorem mxI (σ : Sg) (h : WW σ = WW (mx σ)) : ∃ τ, WW σ = WW (mx τ) := ⟨σ, h⟩
def an_card (l p n b s t : Int32) : Int32 := bif inB l 0 3 && (inB p 0 4 && inB b 0 4) then (bif inB n 0 99 && (inB s 0 4 && inB t (-1) 20000) then 0 else -3) else -2
def an_days (n : Int32) : Int32 := bif inB n 1 99 then (if 0 + n ≤ 999 then 0 + n else -3) else -3
def an_set (a v : Int32) : Int32 := if a = 0 then (bif inB v 0 8 then 2 else -3) else if a = 1 then (bif inB v 0 999 then 999 else -3) else if a = 2 then (bif inB v 1 10000 then 100 else -3) else -3
def an_series (p a : Int32) : Int32 := bif inB p 0 4 then (bif inB a 0 4 then (if a = 1 then -1 else if a = 2 then -1 else 0) else -3) else -2
def an_gap (p i : Int32) : Int32 := bif inB p 0 4 then (if i < 0 then -3 else -1) else -2
def an_unseen (a : Int32) : Int32 := bif inB a 0 1 then (if a = 0 then 0 else 1) else -3
def an_overlap (a b c : Int32) : Int32 := bif inB a 0 3 && inB b 0 3 then (if a = b then -2 else bif inB c 0 2 then (if c = 0 then 0 else -1) else -3) else -2
def an_feature (f a b : Int32) : Int32 := bif inB f 0 7 then (bif inB a 0 20000 && inB b a 20000 then 1 else -3) else -2
def an_back (f a b : Int32) : Int32 := bif inB f 0 4 then (bif inB a 0 20000 && inB b a 20000 then 1 else -3) else -2
def an_landmark (a b : Int32) : Int32 := bif inB a 0 7 then (bif inB b 0 64 then 1 else -3) else -2
def an_write (n : Int32) : Int32 := bif inB n 1 8 then (if 160 < 0 + n then -5 else 0 + n) else -3
def an_count (a : Int32) : Int32 := bif inB a 0 7 then 0 else -3

theorem dX0_isThere_0 : decode cX0_isThere 0 = .ok (.iload_n 1, 1) := by decide +kernel
theorem dX0_isThere_1 : decode cX0_isThere 1 = .ok (.ifCond .lt 28, 3) := by decide +kernel
theorem dX0_isThere_4 : decode cX0_isThere 4 = .ok (.iload_n 1, 1) := by decide +kernel
theorem dX0_isThere_5 : decode cX0_isThere 5 = .ok (.aload_n 0, 1) := by decide +kernel
theorem dX0_isThere_6 : decode cX0_isThere 6 = .ok (.getfield 47, 3) := by decide +kernel
theorem dX0_isThere_9 : decode cX0_isThere 9 = .ok (.if_icmp .ge 20, 3) := by decide +kernel
theorem dX0_isThere_12 : decode cX0_isThere 12 = .ok (.aload_n 0, 1) := by decide +kernel
theorem dX0_isThere_13 : decode cX0_isThere 13 = .ok (.getfield 34, 3) := by decide +kernel
theorem dX0_isThere_16 : decode cX0_isThere 16 = .ok (.iload_n 1, 1) := by decide +kernel
theorem dX0_isThere_17 : decode cX0_isThere 17 = .ok (.iaload, 1) := by decide +kernel
theorem dX0_isThere_18 : decode cX0_isThere 18 = .ok (.aload_n 0, 1) := by decide +kernel
theorem dX0_isThere_19 : decode cX0_isThere 19 = .ok (.getfield 43, 3) := by decide +kernel
theorem dX0_isThere_22 : decode cX0_isThere 22 = .ok (.if_icmp .gt 7, 3) := by decide +kernel
theorem dX0_isThere_25 : decode cX0_isThere 25 = .ok (.iconst 1, 1) := by decide +kernel
theorem dX0_isThere_26 : decode cX0_isThere 26 = .ok (.goto 4, 3) := by decide +kernel
theorem dX0_isThere_29 : decode cX0_isThere 29 = .ok (.iconst 0, 1) := by decide +kernel
theorem dX0_isThere_30 : decode cX0_isThere 30 = .ok (.ireturn, 1) := by decide +kernel
set_option maxRecDepth 100000 in
set_option maxHeartbeats 40000000 in
theorem fx_X0_isThere {G : vG} {l : Launch} (σ : Sg) (c : Int32) (h0 : σ.1 110 = 0) : Sp G l yX0_isThere cX0_isThere 2 (some .boolean) 0 0 0 [.ref 1, .int c] (WW σ) (QI (fun x w2 => w2 = WW σ ∧ x = 0)) := by
  refine Sp_of_R [(some (.ref 1)), (some (.int c))] [] rfl (by simp) rfl (Nat.le_of_ble_eq_true rfl) ?_
  refine R_iload_n (pc := 0) dX0_isThere_0 rfl rfl ?_
  refine R_iflt (pc := 1) 29 dX0_isThere_1 (by decide) (fun b1_1 => ?_) (fun b1_1 => ?_)
  · skip
    refine R_iconst (pc := 29) (v := 0) dX0_isThere_29 (by decide) ?_
    exact R_iret (pc := 30) dX0_isThere_30 rfl rfl (Nat.zero_le _) (Nat.zero_le _) ⟨_, rfl, rfl, rfl⟩
  · skip
    refine R_iload_n (pc := 4) dX0_isThere_4 rfl rfl ?_
    refine R_aload_n (pc := 5) dX0_isThere_5 rfl rfl ?_
    refine g_X0_47 (pc := 6) (v := .int 0) rfl dX0_isThere_6 (c_1 _) (by show some (Value.int (σ.1 110)) = _; rw [h0]) ?_
    refine R_icge (pc := 9) 29 dX0_isThere_9 (by decide) (fun b9_2 => ?_) (fun b9_2 => ?_)
    · skip
      refine R_iconst (pc := 29) (v := 0) dX0_isThere_29 (by decide) ?_
      exact R_iret (pc := 30) dX0_isThere_30 rfl rfl (Nat.zero_le _) (Nat.zero_le _) ⟨_, rfl, rfl, rfl⟩
    · skip
      exact absurd (Int32.not_lt.mp b1_1) b9_2
theorem dX0_there_0 : decode cX0_there 0 = .ok (.iconst 0, 1) := by decide +kernel
theorem dX0_there_1 : decode cX0_there 1 = .ok (.istore_n 1, 1) := by decide +kernel
theorem dX0_there_2 : decode cX0_there 2 = .ok (.iconst 0, 1) := by decide +kernel
theorem dX0_there_3 : decode cX0_there 3 = .ok (.istore_n 2, 1) := by decide +kernel
theorem dX0_there_4 : decode cX0_there 4 = .ok (.iload_n 2, 1) := by decide +kernel
theorem dX0_there_5 : decode cX0_there 5 = .ok (.aload_n 0, 1) := by decide +kernel
theorem dX0_there_6 : decode cX0_there 6 = .ok (.getfield 47, 3) := by decide +kernel
theorem dX0_there_9 : decode cX0_there 9 = .ok (.if_icmp .ge 23, 3) := by decide +kernel
theorem dX0_there_12 : decode cX0_there 12 = .ok (.aload_n 0, 1) := by decide +kernel
theorem dX0_there_13 : decode cX0_there 13 = .ok (.iload_n 2, 1) := by decide +kernel
theorem dX0_there_14 : decode cX0_there 14 = .ok (.invokevirtual 53, 3) := by decide +kernel
theorem dX0_there_17 : decode cX0_there 17 = .ok (.ifCond .eq 9, 3) := by decide +kernel
theorem dX0_there_20 : decode cX0_there 20 = .ok (.iload_n 1, 1) := by decide +kernel
theorem dX0_there_21 : decode cX0_there 21 = .ok (.iconst 1, 1) := by decide +kernel
theorem dX0_there_22 : decode cX0_there 22 = .ok (.iload_n 2, 1) := by decide +kernel
theorem dX0_there_23 : decode cX0_there 23 = .ok (.ishl, 1) := by decide +kernel
theorem dX0_there_24 : decode cX0_there 24 = .ok (.ior, 1) := by decide +kernel
theorem dX0_there_25 : decode cX0_there 25 = .ok (.istore_n 1, 1) := by decide +kernel
theorem dX0_there_26 : decode cX0_there 26 = .ok (.iinc 2 1, 3) := by decide +kernel
theorem dX0_there_29 : decode cX0_there 29 = .ok (.goto (-25), 3) := by decide +kernel
theorem dX0_there_32 : decode cX0_there 32 = .ok (.iload_n 1, 1) := by decide +kernel
theorem dX0_there_33 : decode cX0_there 33 = .ok (.ireturn, 1) := by decide +kernel
set_option maxRecDepth 100000 in
set_option maxHeartbeats 40000000 in
theorem fx_X0_there {G : vG} {l : Launch} (σ : Sg) (h0 : σ.1 110 = 0) : Sp G l yX0_there cX0_there 3 (some .int) 1 0 0 [.ref 1] (WW σ) (QI (fun x w2 => w2 = WW σ ∧ x = 0)) := by
  refine Sp_of_R [(some (.ref 1)), none, none] [none, none] rfl (by simp) rfl (Nat.le_of_ble_eq_true rfl) ?_
  refine R_iconst (pc := 0) (v := 0) dX0_there_0 (by decide) ?_
  refine st_3_1_i_a (pc := 1) dX0_there_1 ?_
  refine R_iconst (pc := 2) (v := 0) dX0_there_2 (by decide) ?_
  refine st_3_2_i_i (pc := 3) dX0_there_3 ?_
  refine R_iload_n (pc := 4) dX0_there_4 rfl rfl ?_
  refine R_aload_n (pc := 5) dX0_there_5 rfl rfl ?_
  refine g_X0_47 (pc := 6) (v := .int 0) rfl dX0_there_6 (c_1 _) (by show some (Value.int (σ.1 110)) = _; rw [h0]) ?_
  refine R_icge (pc := 9) 32 dX0_there_9 (by decide) (fun _ => ?_) (fun h => absurd (by decide) h)
  refine R_iload_n (pc := 32) dX0_there_32 rfl rfl ?_
  exact R_iret (pc := 33) dX0_there_33 rfl rfl (Nat.zero_le _) (Nat.zero_le _) ⟨_, rfl, rfl, rfl⟩
theorem has0 (b : Int32) : ((0 : Int32) >>> (b &&& 31)) &&& 1 = 0 := by simp
theorem sp_has0 {G : vG} {l : Launch} (w : VW) (b : Int32) : Sp G l yX8_has cX8_has 2 (some .boolean) 0 0 0 [.int 0, .int b] w (QI (fun x w2 => w2 = w ∧ x = 0)) := by
  refine sp_up (sp_X8_has w 0 b) ?_
  rintro r w2 ⟨x, rfl, rfl, h⟩
  rw [has0] at h
  rcases h with ⟨h, -⟩ | ⟨-, rfl⟩
  · exact absurd h (by decide)
  · exact ⟨_, rfl, rfl, rfl⟩
theorem dX3_leastOfChains_0 : decode cX3_leastOfChains 0 = .ok (.iconst 0, 1) := by decide +kernel
theorem dX3_leastOfChains_1 : decode cX3_leastOfChains 1 = .ok (.istore_n 3, 1) := by decide +kernel
theorem dX3_leastOfChains_2 : decode cX3_leastOfChains 2 = .ok (.iload_n 1, 1) := by decide +kernel
theorem dX3_leastOfChains_3 : decode cX3_leastOfChains 3 = .ok (.istore 4, 2) := by decide +kernel
theorem dX3_leastOfChains_5 : decode cX3_leastOfChains 5 = .ok (.iconst 0, 1) := by decide +kernel
theorem dX3_leastOfChains_6 : decode cX3_leastOfChains 6 = .ok (.istore 5, 2) := by decide +kernel
theorem dX3_leastOfChains_8 : decode cX3_leastOfChains 8 = .ok (.iload 5, 2) := by decide +kernel
theorem dX3_leastOfChains_10 : decode cX3_leastOfChains 10 = .ok (.bipush 20, 2) := by decide +kernel
theorem dX3_leastOfChains_12 : decode cX3_leastOfChains 12 = .ok (.if_icmp .ge 42, 3) := by decide +kernel
theorem dX3_leastOfChains_15 : decode cX3_leastOfChains 15 = .ok (.iload 4, 2) := by decide +kernel
theorem dX3_leastOfChains_17 : decode cX3_leastOfChains 17 = .ok (.iload 5, 2) := by decide +kernel
theorem dX3_leastOfChains_19 : decode cX3_leastOfChains 19 = .ok (.invokestatic 106, 3) := by decide +kernel
theorem dX3_leastOfChains_22 : decode cX3_leastOfChains 22 = .ok (.ifCond .eq 26, 3) := by decide +kernel
theorem dX3_leastOfChains_25 : decode cX3_leastOfChains 25 = .ok (.iload 4, 2) := by decide +kernel
theorem dX3_leastOfChains_27 : decode cX3_leastOfChains 27 = .ok (.aload_n 0, 1) := by decide +kernel
theorem dX3_leastOfChains_28 : decode cX3_leastOfChains 28 = .ok (.iload 5, 2) := by decide +kernel
theorem dX3_leastOfChains_30 : decode cX3_leastOfChains 30 = .ok (.iload 4, 2) := by decide +kernel
theorem dX3_leastOfChains_32 : decode cX3_leastOfChains 32 = .ok (.iload_n 2, 1) := by decide +kernel
theorem dX3_leastOfChains_33 : decode cX3_leastOfChains 33 = .ok (.invokevirtual 98, 3) := by decide +kernel
theorem dX3_leastOfChains_36 : decode cX3_leastOfChains 36 = .ok (.iconst (-1), 1) := by decide +kernel
theorem dX3_leastOfChains_37 : decode cX3_leastOfChains 37 = .ok (.ixor, 1) := by decide +kernel
theorem dX3_leastOfChains_38 : decode cX3_leastOfChains 38 = .ok (.iand, 1) := by decide +kernel
theorem dX3_leastOfChains_39 : decode cX3_leastOfChains 39 = .ok (.istore 4, 2) := by decide +kernel
theorem dX3_leastOfChains_41 : decode cX3_leastOfChains 41 = .ok (.iload_n 3, 1) := by decide +kernel
theorem dX3_leastOfChains_42 : decode cX3_leastOfChains 42 = .ok (.iconst 1, 1) := by decide +kernel
theorem dX3_leastOfChains_43 : decode cX3_leastOfChains 43 = .ok (.iload 5, 2) := by decide +kernel
theorem dX3_leastOfChains_45 : decode cX3_leastOfChains 45 = .ok (.ishl, 1) := by decide +kernel
theorem dX3_leastOfChains_46 : decode cX3_leastOfChains 46 = .ok (.ior, 1) := by decide +kernel
theorem dX3_leastOfChains_47 : decode cX3_leastOfChains 47 = .ok (.istore_n 3, 1) := by decide +kernel
theorem dX3_leastOfChains_48 : decode cX3_leastOfChains 48 = .ok (.iinc 5 1, 3) := by decide +kernel
theorem dX3_leastOfChains_51 : decode cX3_leastOfChains 51 = .ok (.goto (-43), 3) := by decide +kernel
theorem dX3_leastOfChains_54 : decode cX3_leastOfChains 54 = .ok (.iload_n 3, 1) := by decide +kernel
theorem dX3_leastOfChains_55 : decode cX3_leastOfChains 55 = .ok (.ireturn, 1) := by decide +kernel
set_option maxRecDepth 100000 in
set_option maxHeartbeats 40000000 in
theorem fx_X3_leastOfChains {G : vG} {l : Launch} (w : VW) (b : Int32) : Sp G l yX3_leastOfChains cX3_leastOfChains 6 (some .int) 3 0 0 [.ref 12, .int 0, .int b] (w) (QI (fun x w2 => w2 = w ∧ x = 0)) := by
  refine Sp_of_R [(some (.ref 12)), (some (.int 0)), (some (.int b)), none, none, none] [none, none, none] rfl (by simp) rfl (Nat.le_of_ble_eq_true rfl) ?_
  refine R_iconst (pc := 0) (v := 0) dX3_leastOfChains_0 (by decide) ?_
  refine st_6_3_i_i (pc := 1) dX3_leastOfChains_1 ?_
  refine R_iload_n (pc := 2) dX3_leastOfChains_2 rfl rfl ?_
  refine st_6_4_i_i (pc := 3) dX3_leastOfChains_3 ?_
  refine R_iconst (pc := 5) (v := 0) dX3_leastOfChains_5 (by decide) ?_
  refine st_6_5_i_i (pc := 6) dX3_leastOfChains_6 ?_
  have HL8 : ∀ (q j : Nat), j + q = 20 → R G l yX3_leastOfChains cX3_leastOfChains 6 (some .int) 3 0 0 (QI (fun x w2 => w2 = w ∧ x = 0)) 8 [(some (.ref 12)), (some (.int 0)), (some (.int b)), (some (.int 0)), (some (.int 0)), (some (.int (nI j)))] [] (w) 0 0 := by
    intro q
    induction q with
    | zero =>
      intro j hj
      obtain rfl : j = 20 := by omega
      refine R_iload (pc := 8) dX3_leastOfChains_8 rfl ?_
      refine R_bipush (pc := 10) (v := 20) dX3_leastOfChains_10 (by decide) ?_
      refine R_icge (pc := 12) 54 dX3_leastOfChains_12 (by decide) (fun _ => ?_) (fun h => absurd (by decide) h)
      refine R_iload_n (pc := 54) dX3_leastOfChains_54 rfl rfl ?_
      exact R_iret (pc := 55) dX3_leastOfChains_55 rfl rfl (Nat.zero_le _) (Nat.zero_le _) ⟨_, rfl, rfl, rfl⟩
    | succ q ih =>
      intro j hj
      have hlt : j < 20 := by omega
      refine R_iload (pc := 8) dX3_leastOfChains_8 rfl ?_
      refine R_bipush (pc := 10) (v := 20) dX3_leastOfChains_10 (by decide) ?_
      refine R_icge (pc := 12) 54 dX3_leastOfChains_12 (by decide) (fun h => absurd h (nI_ge hlt (by decide))) (fun _ => ?_)
      refine R_iload (pc := 15) dX3_leastOfChains_15 rfl ?_
      refine R_iload (pc := 17) dX3_leastOfChains_17 rfl ?_
      refine k_X3_106 (pc := 19) (sp_has0 _ _) rfl (by decide) (Nat.le_refl _) (Nat.le_refl _) (by decide) dX3_leastOfChains_19 (fun x w2 h => ?_)
      obtain ⟨rfl, rfl⟩ := h
      refine R_ifeq (pc := 22) 48 dX3_leastOfChains_22 (by decide) (fun _ => ?_) (fun h => absurd (by decide) h)
      refine inc_6_5_1_i (pc := 48) dX3_leastOfChains_48 ?_
      refine R_goto (pc := 51) 8 dX3_leastOfChains_51 (by decide) ?_
      rw [nI_1]
      exact ih (j + 1) (by omega)
  exact HL8 20 0 (by omega)
theorem dX3_negatives_0 : decode cX3_negatives 0 = .ok (.aload_n 0, 1) := by decide +kernel
theorem dX3_negatives_1 : decode cX3_negatives 1 = .ok (.iload_n 1, 1) := by decide +kernel
theorem dX3_negatives_2 : decode cX3_negatives 2 = .ok (.iconst 0, 1) := by decide +kernel
theorem dX3_negatives_3 : decode cX3_negatives 3 = .ok (.invokevirtual 112, 3) := by decide +kernel
theorem dX3_negatives_6 : decode cX3_negatives 6 = .ok (.ireturn, 1) := by decide +kernel
set_option maxRecDepth 100000 in
set_option maxHeartbeats 40000000 in
theorem fx_X3_negatives {G : vG} {l : Launch} (σ : Sg) : Sp G l yX3_negatives cX3_negatives 2 (some .int) 4 0 0 [.ref 12, .int 0] (WW σ) (QI (fun x w2 => w2 = WW σ ∧ x = 0)) := by
  refine Sp_of_R [(some (.ref 12)), (some (.int 0))] [] rfl (by simp) rfl (Nat.le_of_ble_eq_true rfl) ?_
  refine R_aload_n (pc := 0) dX3_negatives_0 rfl rfl ?_
  refine R_iload_n (pc := 1) dX3_negatives_1 rfl rfl ?_
  refine R_iconst (pc := 2) (v := 0) dX3_negatives_2 (by decide) ?_
  refine k_X3_112 (pc := 3) (fx_X3_leastOfChains _ _) rfl (c_12 _) (by decide) (Nat.le_refl _) (Nat.le_refl _) (by decide) dX3_negatives_3 (fun x w2 h => ?_)
  obtain ⟨rfl, rfl⟩ := h
  exact R_iret (pc := 6) dX3_negatives_6 rfl rfl (Nat.zero_le _) (Nat.zero_le _) ⟨_, rfl, rfl, rfl⟩
theorem dX3_differentCards_0 : decode cX3_differentCards 0 = .ok (.aload_n 0, 1) := by decide +kernel
theorem dX3_differentCards_1 : decode cX3_differentCards 1 = .ok (.iload_n 1, 1) := by decide +kernel
theorem dX3_differentCards_2 : decode cX3_differentCards 2 = .ok (.iconst 1, 1) := by decide +kernel
theorem dX3_differentCards_3 : decode cX3_differentCards 3 = .ok (.invokevirtual 112, 3) := by decide +kernel
theorem dX3_differentCards_6 : decode cX3_differentCards 6 = .ok (.ireturn, 1) := by decide +kernel
set_option maxRecDepth 100000 in
set_option maxHeartbeats 40000000 in
theorem fx_X3_differentCards {G : vG} {l : Launch} (σ : Sg) : Sp G l yX3_differentCards cX3_differentCards 2 (some .int) 4 0 0 [.ref 12, .int 0] (WW σ) (QI (fun x w2 => w2 = WW σ ∧ x = 0)) := by
  refine Sp_of_R [(some (.ref 12)), (some (.int 0))] [] rfl (by simp) rfl (Nat.le_of_ble_eq_true rfl) ?_
  refine R_aload_n (pc := 0) dX3_differentCards_0 rfl rfl ?_
  refine R_iload_n (pc := 1) dX3_differentCards_1 rfl rfl ?_
  refine R_iconst (pc := 2) (v := 1) dX3_differentCards_2 (by decide) ?_
  refine k_X3_112 (pc := 3) (fx_X3_leastOfChains _ _) rfl (c_12 _) (by decide) (Nat.le_refl _) (Nat.le_refl _) (by decide) dX3_differentCards_3 (fun x w2 h => ?_)
  obtain ⟨rfl, rfl⟩ := h
  exact R_iret (pc := 6) dX3_differentCards_6 rfl rfl (Nat.zero_le _) (Nat.zero_le _) ⟨_, rfl, rfl, rfl⟩
theorem dX8_cardsSeen_0 : decode cX8_cardsSeen 0 = .ok (.iconst 0, 1) := by decide +kernel
theorem dX8_cardsSeen_1 : decode cX8_cardsSeen 1 = .ok (.istore_n 2, 1) := by decide +kernel
theorem dX8_cardsSeen_2 : decode cX8_cardsSeen 2 = .ok (.aload_n 0, 1) := by decide +kernel
theorem dX8_cardsSeen_3 : decode cX8_cardsSeen 3 = .ok (.getfield 21, 3) := by decide +kernel
theorem dX8_cardsSeen_6 : decode cX8_cardsSeen 6 = .ok (.aload_n 0, 1) := by decide +kernel
theorem dX8_cardsSeen_7 : decode cX8_cardsSeen 7 = .ok (.getfield 10, 3) := by decide +kernel
theorem dX8_cardsSeen_10 : decode cX8_cardsSeen 10 = .ok (.invokevirtual 126, 3) := by decide +kernel
theorem dX8_cardsSeen_13 : decode cX8_cardsSeen 13 = .ok (.invokevirtual 206, 3) := by decide +kernel
theorem dX8_cardsSeen_16 : decode cX8_cardsSeen 16 = .ok (.istore_n 3, 1) := by decide +kernel
theorem dX8_cardsSeen_17 : decode cX8_cardsSeen 17 = .ok (.iconst 0, 1) := by decide +kernel
theorem dX8_cardsSeen_18 : decode cX8_cardsSeen 18 = .ok (.istore 4, 2) := by decide +kernel
theorem dX8_cardsSeen_20 : decode cX8_cardsSeen 20 = .ok (.iload 4, 2) := by decide +kernel
theorem dX8_cardsSeen_22 : decode cX8_cardsSeen 22 = .ok (.bipush 20, 2) := by decide +kernel
theorem dX8_cardsSeen_24 : decode cX8_cardsSeen 24 = .ok (.if_icmp .ge 31, 3) := by decide +kernel
theorem dX8_cardsSeen_27 : decode cX8_cardsSeen 27 = .ok (.iload_n 3, 1) := by decide +kernel
theorem dX8_cardsSeen_28 : decode cX8_cardsSeen 28 = .ok (.iload 4, 2) := by decide +kernel
theorem dX8_cardsSeen_30 : decode cX8_cardsSeen 30 = .ok (.invokestatic 209, 3) := by decide +kernel
theorem dX8_cardsSeen_33 : decode cX8_cardsSeen 33 = .ok (.ifCond .eq 16, 3) := by decide +kernel
theorem dX8_cardsSeen_36 : decode cX8_cardsSeen 36 = .ok (.aload_n 0, 1) := by decide +kernel
theorem dX8_cardsSeen_37 : decode cX8_cardsSeen 37 = .ok (.iload 4, 2) := by decide +kernel
theorem dX8_cardsSeen_39 : decode cX8_cardsSeen 39 = .ok (.invokevirtual 147, 3) := by decide +kernel
theorem dX8_cardsSeen_42 : decode cX8_cardsSeen 42 = .ok (.iload_n 1, 1) := by decide +kernel
theorem dX8_cardsSeen_43 : decode cX8_cardsSeen 43 = .ok (.if_icmp .ne 6, 3) := by decide +kernel
theorem dX8_cardsSeen_46 : decode cX8_cardsSeen 46 = .ok (.iinc 2 1, 3) := by decide +kernel
theorem dX8_cardsSeen_49 : decode cX8_cardsSeen 49 = .ok (.iinc 4 1, 3) := by decide +kernel
theorem dX8_cardsSeen_52 : decode cX8_cardsSeen 52 = .ok (.goto (-32), 3) := by decide +kernel
theorem dX8_cardsSeen_55 : decode cX8_cardsSeen 55 = .ok (.iload_n 2, 1) := by decide +kernel
theorem dX8_cardsSeen_56 : decode cX8_cardsSeen 56 = .ok (.ireturn, 1) := by decide +kernel
set_option maxRecDepth 100000 in
set_option maxHeartbeats 40000000 in
theorem fx_X8_cardsSeen {G : vG} {l : Launch} (σ : Sg) (t : Int32) (h0 : σ.1 110 = 0) : Sp G l yX8_cardsSeen cX8_cardsSeen 5 (some .int) 5 0 0 [.ref 0, .int t] (WW σ) (QI (fun x w2 => w2 = WW σ ∧ x = 0)) := by
  refine Sp_of_R [(some (.ref 0)), (some (.int t)), none, none, none] [none, none, none] rfl (by simp) rfl (Nat.le_of_ble_eq_true rfl) ?_
  refine R_iconst (pc := 0) (v := 0) dX8_cardsSeen_0 (by decide) ?_
  refine st_5_2_i_i (pc := 1) dX8_cardsSeen_1 ?_
  refine R_aload_n (pc := 2) dX8_cardsSeen_2 rfl rfl ?_
  refine g_X8_21 (pc := 3) (v := .ref 12) rfl dX8_cardsSeen_3 (c_0 _) rfl ?_
  refine R_aload_n (pc := 6) dX8_cardsSeen_6 rfl rfl ?_
  refine g_X8_10 (pc := 7) (v := .ref 1) rfl dX8_cardsSeen_7 (c_0 _) rfl ?_
  refine k_X8_126 (pc := 10) (fx_X0_there _ h0) rfl (c_1 _) (by decide) (Nat.le_refl _) (Nat.le_refl _) (by decide) dX8_cardsSeen_10 (fun x w2 h => ?_)
  obtain ⟨rfl, rfl⟩ := h
  refine k_X8_206 (pc := 13) (fx_X3_differentCards _) rfl (c_12 _) (by decide) (Nat.le_refl _) (Nat.le_refl _) (by decide) dX8_cardsSeen_13 (fun x w2 h => ?_)
  obtain ⟨rfl, rfl⟩ := h
  refine st_5_3_i_i (pc := 16) dX8_cardsSeen_16 ?_
  refine R_iconst (pc := 17) (v := 0) dX8_cardsSeen_17 (by decide) ?_
  refine st_5_4_i_i (pc := 18) dX8_cardsSeen_18 ?_
  have HL20 : ∀ (q j : Nat), j + q = 20 → R G l yX8_cardsSeen cX8_cardsSeen 5 (some .int) 5 0 0 (QI (fun x w2 => w2 = WW σ ∧ x = 0)) 20 [(some (.ref 0)), (some (.int t)), (some (.int 0)), (some (.int 0)), (some (.int (nI j)))] [] (WW σ) 0 0 := by
    intro q
    induction q with
    | zero =>
      intro j hj
      obtain rfl : j = 20 := by omega
      refine R_iload (pc := 20) dX8_cardsSeen_20 rfl ?_
      refine R_bipush (pc := 22) (v := 20) dX8_cardsSeen_22 (by decide) ?_
      refine R_icge (pc := 24) 55 dX8_cardsSeen_24 (by decide) (fun _ => ?_) (fun h => absurd (by decide) h)
      refine R_iload_n (pc := 55) dX8_cardsSeen_55 rfl rfl ?_
      exact R_iret (pc := 56) dX8_cardsSeen_56 rfl rfl (Nat.zero_le _) (Nat.zero_le _) ⟨_, rfl, rfl, rfl⟩
    | succ q ih =>
      intro j hj
      have hlt : j < 20 := by omega
      refine R_iload (pc := 20) dX8_cardsSeen_20 rfl ?_
      refine R_bipush (pc := 22) (v := 20) dX8_cardsSeen_22 (by decide) ?_
      refine R_icge (pc := 24) 55 dX8_cardsSeen_24 (by decide) (fun h => absurd h (nI_ge hlt (by decide))) (fun _ => ?_)
      refine R_iload_n (pc := 27) dX8_cardsSeen_27 rfl rfl ?_
      refine R_iload (pc := 28) dX8_cardsSeen_28 rfl ?_
      refine k_X8_209 (pc := 30) (sp_has0 _ _) rfl (by decide) (Nat.le_refl _) (Nat.le_refl _) (by decide) dX8_cardsSeen_30 (fun x w2 h => ?_)
      obtain ⟨rfl, rfl⟩ := h
      refine R_ifeq (pc := 33) 49 dX8_cardsSeen_33 (by decide) (fun _ => ?_) (fun h => absurd (by decide) h)
      refine inc_5_4_1_i (pc := 49) dX8_cardsSeen_49 ?_
      refine R_goto (pc := 52) 20 dX8_cardsSeen_52 (by decide) ?_
      rw [nI_1]
      exact ih (j + 1) (by omega)
  exact HL20 20 0 (by omega)
theorem dX8_cardsInBoth_0 : decode cX8_cardsInBoth 0 = .ok (.iconst 0, 1) := by decide +kernel
theorem dX8_cardsInBoth_1 : decode cX8_cardsInBoth 1 = .ok (.istore_n 3, 1) := by decide +kernel
theorem dX8_cardsInBoth_2 : decode cX8_cardsInBoth 2 = .ok (.aload_n 0, 1) := by decide +kernel
theorem dX8_cardsInBoth_3 : decode cX8_cardsInBoth 3 = .ok (.getfield 21, 3) := by decide +kernel
theorem dX8_cardsInBoth_6 : decode cX8_cardsInBoth 6 = .ok (.aload_n 0, 1) := by decide +kernel
theorem dX8_cardsInBoth_7 : decode cX8_cardsInBoth 7 = .ok (.getfield 10, 3) := by decide +kernel
theorem dX8_cardsInBoth_10 : decode cX8_cardsInBoth 10 = .ok (.invokevirtual 126, 3) := by decide +kernel
theorem dX8_cardsInBoth_13 : decode cX8_cardsInBoth 13 = .ok (.invokevirtual 206, 3) := by decide +kernel
theorem dX8_cardsInBoth_16 : decode cX8_cardsInBoth 16 = .ok (.istore 4, 2) := by decide +kernel
theorem dX8_cardsInBoth_18 : decode cX8_cardsInBoth 18 = .ok (.iconst 0, 1) := by decide +kernel
theorem dX8_cardsInBoth_19 : decode cX8_cardsInBoth 19 = .ok (.istore 5, 2) := by decide +kernel
theorem dX8_cardsInBoth_21 : decode cX8_cardsInBoth 21 = .ok (.iload 5, 2) := by decide +kernel
theorem dX8_cardsInBoth_23 : decode cX8_cardsInBoth 23 = .ok (.bipush 20, 2) := by decide +kernel
theorem dX8_cardsInBoth_25 : decode cX8_cardsInBoth 25 = .ok (.if_icmp .ge 65, 3) := by decide +kernel
theorem dX8_cardsInBoth_28 : decode cX8_cardsInBoth 28 = .ok (.iload 4, 2) := by decide +kernel
theorem dX8_cardsInBoth_30 : decode cX8_cardsInBoth 30 = .ok (.iload 5, 2) := by decide +kernel
theorem dX8_cardsInBoth_32 : decode cX8_cardsInBoth 32 = .ok (.invokestatic 209, 3) := by decide +kernel
theorem dX8_cardsInBoth_35 : decode cX8_cardsInBoth 35 = .ok (.ifCond .eq 49, 3) := by decide +kernel
theorem dX8_cardsInBoth_38 : decode cX8_cardsInBoth 38 = .ok (.aload_n 0, 1) := by decide +kernel
theorem dX8_cardsInBoth_39 : decode cX8_cardsInBoth 39 = .ok (.getfield 10, 3) := by decide +kernel
theorem dX8_cardsInBoth_42 : decode cX8_cardsInBoth 42 = .ok (.aload_n 0, 1) := by decide +kernel
theorem dX8_cardsInBoth_43 : decode cX8_cardsInBoth 43 = .ok (.getfield 21, 3) := by decide +kernel
theorem dX8_cardsInBoth_46 : decode cX8_cardsInBoth 46 = .ok (.iload 5, 2) := by decide +kernel
theorem dX8_cardsInBoth_48 : decode cX8_cardsInBoth 48 = .ok (.aload_n 0, 1) := by decide +kernel
theorem dX8_cardsInBoth_49 : decode cX8_cardsInBoth 49 = .ok (.getfield 10, 3) := by decide +kernel
theorem dX8_cardsInBoth_52 : decode cX8_cardsInBoth 52 = .ok (.invokevirtual 126, 3) := by decide +kernel
theorem dX8_cardsInBoth_55 : decode cX8_cardsInBoth 55 = .ok (.invokevirtual 144, 3) := by decide +kernel
theorem dX8_cardsInBoth_58 : decode cX8_cardsInBoth 58 = .ok (.invokevirtual 164, 3) := by decide +kernel
theorem dX8_cardsInBoth_61 : decode cX8_cardsInBoth 61 = .ok (.istore 6, 2) := by decide +kernel
theorem dX8_cardsInBoth_63 : decode cX8_cardsInBoth 63 = .ok (.iload 6, 2) := by decide +kernel
theorem dX8_cardsInBoth_65 : decode cX8_cardsInBoth 65 = .ok (.iload_n 1, 1) := by decide +kernel
theorem dX8_cardsInBoth_66 : decode cX8_cardsInBoth 66 = .ok (.invokestatic 209, 3) := by decide +kernel
theorem dX8_cardsInBoth_69 : decode cX8_cardsInBoth 69 = .ok (.ifCond .eq 15, 3) := by decide +kernel
theorem dX8_cardsInBoth_72 : decode cX8_cardsInBoth 72 = .ok (.iload 6, 2) := by decide +kernel
theorem dX8_cardsInBoth_74 : decode cX8_cardsInBoth 74 = .ok (.iload_n 2, 1) := by decide +kernel
theorem dX8_cardsInBoth_75 : decode cX8_cardsInBoth 75 = .ok (.invokestatic 209, 3) := by decide +kernel
theorem dX8_cardsInBoth_78 : decode cX8_cardsInBoth 78 = .ok (.ifCond .eq 6, 3) := by decide +kernel
theorem dX8_cardsInBoth_81 : decode cX8_cardsInBoth 81 = .ok (.iinc 3 1, 3) := by decide +kernel
theorem dX8_cardsInBoth_84 : decode cX8_cardsInBoth 84 = .ok (.iinc 5 1, 3) := by decide +kernel
theorem dX8_cardsInBoth_87 : decode cX8_cardsInBoth 87 = .ok (.goto (-66), 3) := by decide +kernel
theorem dX8_cardsInBoth_90 : decode cX8_cardsInBoth 90 = .ok (.iload_n 3, 1) := by decide +kernel
theorem dX8_cardsInBoth_91 : decode cX8_cardsInBoth 91 = .ok (.ireturn, 1) := by decide +kernel
set_option maxRecDepth 100000 in
set_option maxHeartbeats 40000000 in
theorem fx_X8_cardsInBoth {G : vG} {l : Launch} (σ : Sg) (a b : Int32) (h0 : σ.1 110 = 0) : Sp G l yX8_cardsInBoth cX8_cardsInBoth 7 (some .int) 5 0 0 [.ref 0, .int a, .int b] (WW σ) (QI (fun x w2 => w2 = WW σ ∧ x = 0)) := by
  refine Sp_of_R [(some (.ref 0)), (some (.int a)), (some (.int b)), none, none, none, none] [none, none, none, none] rfl (by simp) rfl (Nat.le_of_ble_eq_true rfl) ?_
  refine R_iconst (pc := 0) (v := 0) dX8_cardsInBoth_0 (by decide) ?_
  refine st_7_3_i_i (pc := 1) dX8_cardsInBoth_1 ?_
  refine R_aload_n (pc := 2) dX8_cardsInBoth_2 rfl rfl ?_
  refine g_X8_21 (pc := 3) (v := .ref 12) rfl dX8_cardsInBoth_3 (c_0 _) rfl ?_
  refine R_aload_n (pc := 6) dX8_cardsInBoth_6 rfl rfl ?_
  refine g_X8_10 (pc := 7) (v := .ref 1) rfl dX8_cardsInBoth_7 (c_0 _) rfl ?_
  refine k_X8_126 (pc := 10) (fx_X0_there _ h0) rfl (c_1 _) (by decide) (Nat.le_refl _) (Nat.le_refl _) (by decide) dX8_cardsInBoth_10 (fun x w2 h => ?_)
  obtain ⟨rfl, rfl⟩ := h
  refine k_X8_206 (pc := 13) (fx_X3_differentCards _) rfl (c_12 _) (by decide) (Nat.le_refl _) (Nat.le_refl _) (by decide) dX8_cardsInBoth_13 (fun x w2 h => ?_)
  obtain ⟨rfl, rfl⟩ := h
  refine st_7_4_i_i (pc := 16) dX8_cardsInBoth_16 ?_
  refine R_iconst (pc := 18) (v := 0) dX8_cardsInBoth_18 (by decide) ?_
  refine st_7_5_i_i (pc := 19) dX8_cardsInBoth_19 ?_
  have HL21 : ∀ (q j : Nat), j + q = 20 → R G l yX8_cardsInBoth cX8_cardsInBoth 7 (some .int) 5 0 0 (QI (fun x w2 => w2 = WW σ ∧ x = 0)) 21 [(some (.ref 0)), (some (.int a)), (some (.int b)), (some (.int 0)), (some (.int 0)), (some (.int (nI j))), none] [] (WW σ) 0 0 := by
    intro q
    induction q with
    | zero =>
      intro j hj
      obtain rfl : j = 20 := by omega
      refine R_iload (pc := 21) dX8_cardsInBoth_21 rfl ?_
      refine R_bipush (pc := 23) (v := 20) dX8_cardsInBoth_23 (by decide) ?_
      refine R_icge (pc := 25) 90 dX8_cardsInBoth_25 (by decide) (fun _ => ?_) (fun h => absurd (by decide) h)
      refine R_iload_n (pc := 90) dX8_cardsInBoth_90 rfl rfl ?_
      exact R_iret (pc := 91) dX8_cardsInBoth_91 rfl rfl (Nat.zero_le _) (Nat.zero_le _) ⟨_, rfl, rfl, rfl⟩
    | succ q ih =>
      intro j hj
      have hlt : j < 20 := by omega
      refine R_iload (pc := 21) dX8_cardsInBoth_21 rfl ?_
      refine R_bipush (pc := 23) (v := 20) dX8_cardsInBoth_23 (by decide) ?_
      refine R_icge (pc := 25) 90 dX8_cardsInBoth_25 (by decide) (fun h => absurd h (nI_ge hlt (by decide))) (fun _ => ?_)
      refine R_iload (pc := 28) dX8_cardsInBoth_28 rfl ?_
      refine R_iload (pc := 30) dX8_cardsInBoth_30 rfl ?_
      refine k_X8_209 (pc := 32) (sp_has0 _ _) rfl (by decide) (Nat.le_refl _) (Nat.le_refl _) (by decide) dX8_cardsInBoth_32 (fun x w2 h => ?_)
      obtain ⟨rfl, rfl⟩ := h
      refine R_ifeq (pc := 35) 84 dX8_cardsInBoth_35 (by decide) (fun _ => ?_) (fun h => absurd (by decide) h)
      refine inc_7_5_1_i (pc := 84) dX8_cardsInBoth_84 ?_
      refine R_goto (pc := 87) 21 dX8_cardsInBoth_87 (by decide) ?_
      rw [nI_1]
      exact ih (j + 1) (by omega)
  exact HL21 20 0 (by omega)
theorem dX8_areTwoThere_0 : decode cX8_areTwoThere 0 = .ok (.iload_n 1, 1) := by decide +kernel
theorem dX8_areTwoThere_1 : decode cX8_areTwoThere 1 = .ok (.iload_n 2, 1) := by decide +kernel
theorem dX8_areTwoThere_2 : decode cX8_areTwoThere 2 = .ok (.if_icmp .eq 29, 3) := by decide +kernel
theorem dX8_areTwoThere_5 : decode cX8_areTwoThere 5 = .ok (.aload_n 0, 1) := by decide +kernel
theorem dX8_areTwoThere_6 : decode cX8_areTwoThere 6 = .ok (.getfield 10, 3) := by decide +kernel
theorem dX8_areTwoThere_9 : decode cX8_areTwoThere 9 = .ok (.iload_n 1, 1) := by decide +kernel
theorem dX8_areTwoThere_10 : decode cX8_areTwoThere 10 = .ok (.invokevirtual 90, 3) := by decide +kernel
theorem dX8_areTwoThere_13 : decode cX8_areTwoThere 13 = .ok (.ifCond .eq 18, 3) := by decide +kernel
theorem dX8_areTwoThere_16 : decode cX8_areTwoThere 16 = .ok (.aload_n 0, 1) := by decide +kernel
theorem dX8_areTwoThere_17 : decode cX8_areTwoThere 17 = .ok (.getfield 10, 3) := by decide +kernel
theorem dX8_areTwoThere_20 : decode cX8_areTwoThere 20 = .ok (.iload_n 2, 1) := by decide +kernel
theorem dX8_areTwoThere_21 : decode cX8_areTwoThere 21 = .ok (.invokevirtual 90, 3) := by decide +kernel
theorem dX8_areTwoThere_24 : decode cX8_areTwoThere 24 = .ok (.ifCond .eq 7, 3) := by decide +kernel
theorem dX8_areTwoThere_27 : decode cX8_areTwoThere 27 = .ok (.iconst 1, 1) := by decide +kernel
theorem dX8_areTwoThere_28 : decode cX8_areTwoThere 28 = .ok (.goto 4, 3) := by decide +kernel
theorem dX8_areTwoThere_31 : decode cX8_areTwoThere 31 = .ok (.iconst 0, 1) := by decide +kernel
theorem dX8_areTwoThere_32 : decode cX8_areTwoThere 32 = .ok (.ireturn, 1) := by decide +kernel
set_option maxRecDepth 100000 in
set_option maxHeartbeats 40000000 in
theorem fx_X8_areTwoThere {G : vG} {l : Launch} (σ : Sg) (a b : Int32) (h0 : σ.1 110 = 0) : Sp G l yX8_areTwoThere cX8_areTwoThere 3 (some .boolean) 1 0 0 [.ref 0, .int a, .int b] (WW σ) (QI (fun x w2 => w2 = WW σ ∧ x = 0)) := by
  refine Sp_of_R [(some (.ref 0)), (some (.int a)), (some (.int b))] [] rfl (by simp) rfl (Nat.le_of_ble_eq_true rfl) ?_
  refine R_iload_n (pc := 0) dX8_areTwoThere_0 rfl rfl ?_
  refine R_iload_n (pc := 1) dX8_areTwoThere_1 rfl rfl ?_
  refine R_iceq (pc := 2) 31 dX8_areTwoThere_2 (by decide) (fun b2_1 => ?_) (fun b2_1 => ?_)
  · skip
    refine R_iconst (pc := 31) (v := 0) dX8_areTwoThere_31 (by decide) ?_
    exact R_iret (pc := 32) dX8_areTwoThere_32 rfl rfl (Nat.zero_le _) (Nat.zero_le _) ⟨_, rfl, rfl, rfl⟩
  · skip
    refine R_aload_n (pc := 5) dX8_areTwoThere_5 rfl rfl ?_
    refine g_X8_10 (pc := 6) (v := .ref 1) rfl dX8_areTwoThere_6 (c_0 _) rfl ?_
    refine R_iload_n (pc := 9) dX8_areTwoThere_9 rfl rfl ?_
    refine k_X8_90 (pc := 10) (fx_X0_isThere _ _ h0) rfl (c_1 _) (by decide) (Nat.le_refl _) (Nat.le_refl _) (by decide) dX8_areTwoThere_10 (fun x w2 h => ?_)
    obtain ⟨rfl, rfl⟩ := h
    refine R_ifeq (pc := 13) 31 dX8_areTwoThere_13 (by decide) (fun _ => ?_) (fun h => absurd (by decide) h)
    refine R_iconst (pc := 31) (v := 0) dX8_areTwoThere_31 (by decide) ?_
    exact R_iret (pc := 32) dX8_areTwoThere_32 rfl rfl (Nat.zero_le _) (Nat.zero_le _) ⟨_, rfl, rfl, rfl⟩
theorem dX8_isSpan_0 : decode cX8_isSpan 0 = .ok (.iload_n 0, 1) := by decide +kernel
theorem dX8_isSpan_1 : decode cX8_isSpan 1 = .ok (.iconst 0, 1) := by decide +kernel
theorem dX8_isSpan_2 : decode cX8_isSpan 2 = .ok (.sipush 20000, 3) := by decide +kernel
theorem dX8_isSpan_5 : decode cX8_isSpan 5 = .ok (.invokestatic 72, 3) := by decide +kernel
theorem dX8_isSpan_8 : decode cX8_isSpan 8 = .ok (.ifCond .eq 18, 3) := by decide +kernel
theorem dX8_isSpan_11 : decode cX8_isSpan 11 = .ok (.iload_n 1, 1) := by decide +kernel
theorem dX8_isSpan_12 : decode cX8_isSpan 12 = .ok (.iload_n 0, 1) := by decide +kernel
theorem dX8_isSpan_13 : decode cX8_isSpan 13 = .ok (.sipush 20000, 3) := by decide +kernel
theorem dX8_isSpan_16 : decode cX8_isSpan 16 = .ok (.invokestatic 72, 3) := by decide +kernel
theorem dX8_isSpan_19 : decode cX8_isSpan 19 = .ok (.ifCond .eq 7, 3) := by decide +kernel
theorem dX8_isSpan_22 : decode cX8_isSpan 22 = .ok (.iconst 1, 1) := by decide +kernel
theorem dX8_isSpan_23 : decode cX8_isSpan 23 = .ok (.goto 4, 3) := by decide +kernel
theorem dX8_isSpan_26 : decode cX8_isSpan 26 = .ok (.iconst 0, 1) := by decide +kernel
theorem dX8_isSpan_27 : decode cX8_isSpan 27 = .ok (.ireturn, 1) := by decide +kernel
set_option maxRecDepth 100000 in
set_option maxHeartbeats 40000000 in
theorem fx_X8_isSpan {G : vG} {l : Launch} (w : VW) (a b : Int32) : Sp G l yX8_isSpan cX8_isSpan 2 (some .boolean) 1 0 0 [.int a, .int b] (w) (QI (fun x w2 => w2 = w ∧ ((inB a 0 20000 && inB b a 20000) = true ∧ x = 1 ∨ (inB a 0 20000 && inB b a 20000) = false ∧ x = 0))) := by
  refine Sp_of_R [(some (.int a)), (some (.int b))] [] rfl (by simp) rfl (Nat.le_of_ble_eq_true rfl) ?_
  refine R_iload_n (pc := 0) dX8_isSpan_0 rfl rfl ?_
  refine R_iconst (pc := 1) (v := 0) dX8_isSpan_1 (by decide) ?_
  refine R_sipush (pc := 2) (v := 20000) dX8_isSpan_2 (by decide) ?_
  refine k_X8_72 (pc := 5) (sp_X8_isWithin _ _ _ _) rfl (by decide) (Nat.le_refl _) (Nat.le_refl _) (by decide) dX8_isSpan_5 (fun x w2 h => ?_)
  rcases h with ⟨rfl, ⟨h1, rfl⟩ | ⟨h1, rfl⟩⟩
  · skip
    refine R_ifeq (pc := 8) 26 dX8_isSpan_8 (by decide) (fun h => absurd h (by decide)) (fun _ => ?_)
    refine R_iload_n (pc := 11) dX8_isSpan_11 rfl rfl ?_
    refine R_iload_n (pc := 12) dX8_isSpan_12 rfl rfl ?_
    refine R_sipush (pc := 13) (v := 20000) dX8_isSpan_13 (by decide) ?_
    refine k_X8_72 (pc := 16) (sp_X8_isWithin _ _ _ _) rfl (by decide) (Nat.le_refl _) (Nat.le_refl _) (by decide) dX8_isSpan_16 (fun x w2 h => ?_)
    rcases h with ⟨rfl, ⟨h3, rfl⟩ | ⟨h3, rfl⟩⟩
    · skip
      refine R_ifeq (pc := 19) 26 dX8_isSpan_19 (by decide) (fun h => absurd h (by decide)) (fun _ => ?_)
      refine R_iconst (pc := 22) (v := 1) dX8_isSpan_22 (by decide) ?_
      refine R_goto (pc := 23) 27 dX8_isSpan_23 (by decide) ?_
      exact R_iret (pc := 27) dX8_isSpan_27 rfl rfl (Nat.zero_le _) (Nat.zero_le _) ⟨_, rfl, rfl, by simp [inB_t h1, inB_t h3]⟩
    · skip
      refine R_ifeq (pc := 19) 26 dX8_isSpan_19 (by decide) (fun _ => ?_) (fun h => absurd (by decide) h)
      refine R_iconst (pc := 26) (v := 0) dX8_isSpan_26 (by decide) ?_
      exact R_iret (pc := 27) dX8_isSpan_27 rfl rfl (Nat.zero_le _) (Nat.zero_le _) ⟨_, rfl, rfl, by simp [inB_t h1, inB_f h3]⟩
  · skip
    refine R_ifeq (pc := 8) 26 dX8_isSpan_8 (by decide) (fun _ => ?_) (fun h => absurd (by decide) h)
    refine R_iconst (pc := 26) (v := 0) dX8_isSpan_26 (by decide) ?_
    exact R_iret (pc := 27) dX8_isSpan_27 rfl rfl (Nat.zero_le _) (Nat.zero_le _) ⟨_, rfl, rfl, by simp [inB_f h1]⟩
theorem dX8_commonDivisor_0 : decode cX8_commonDivisor 0 = .ok (.iload_n 0, 1) := by decide +kernel
theorem dX8_commonDivisor_1 : decode cX8_commonDivisor 1 = .ok (.istore_n 2, 1) := by decide +kernel
theorem dX8_commonDivisor_2 : decode cX8_commonDivisor 2 = .ok (.iload_n 1, 1) := by decide +kernel
theorem dX8_commonDivisor_3 : decode cX8_commonDivisor 3 = .ok (.istore_n 3, 1) := by decide +kernel
theorem dX8_commonDivisor_4 : decode cX8_commonDivisor 4 = .ok (.iconst 0, 1) := by decide +kernel
theorem dX8_commonDivisor_5 : decode cX8_commonDivisor 5 = .ok (.istore 4, 2) := by decide +kernel
theorem dX8_commonDivisor_7 : decode cX8_commonDivisor 7 = .ok (.iload 4, 2) := by decide +kernel
theorem dX8_commonDivisor_9 : decode cX8_commonDivisor 9 = .ok (.bipush 64, 2) := by decide +kernel
theorem dX8_commonDivisor_11 : decode cX8_commonDivisor 11 = .ok (.if_icmp .ge 23, 3) := by decide +kernel
theorem dX8_commonDivisor_14 : decode cX8_commonDivisor 14 = .ok (.iload_n 3, 1) := by decide +kernel
theorem dX8_commonDivisor_15 : decode cX8_commonDivisor 15 = .ok (.ifCond .eq 19, 3) := by decide +kernel
theorem dX8_commonDivisor_18 : decode cX8_commonDivisor 18 = .ok (.iload_n 2, 1) := by decide +kernel
theorem dX8_commonDivisor_19 : decode cX8_commonDivisor 19 = .ok (.iload_n 3, 1) := by decide +kernel
theorem dX8_commonDivisor_20 : decode cX8_commonDivisor 20 = .ok (.irem, 1) := by decide +kernel
theorem dX8_commonDivisor_21 : decode cX8_commonDivisor 21 = .ok (.istore 5, 2) := by decide +kernel
theorem dX8_commonDivisor_23 : decode cX8_commonDivisor 23 = .ok (.iload_n 3, 1) := by decide +kernel
theorem dX8_commonDivisor_24 : decode cX8_commonDivisor 24 = .ok (.istore_n 2, 1) := by decide +kernel
theorem dX8_commonDivisor_25 : decode cX8_commonDivisor 25 = .ok (.iload 5, 2) := by decide +kernel
theorem dX8_commonDivisor_27 : decode cX8_commonDivisor 27 = .ok (.istore_n 3, 1) := by decide +kernel
theorem dX8_commonDivisor_28 : decode cX8_commonDivisor 28 = .ok (.iinc 4 1, 3) := by decide +kernel
theorem dX8_commonDivisor_31 : decode cX8_commonDivisor 31 = .ok (.goto (-24), 3) := by decide +kernel
theorem dX8_commonDivisor_34 : decode cX8_commonDivisor 34 = .ok (.iload_n 2, 1) := by decide +kernel
theorem dX8_commonDivisor_35 : decode cX8_commonDivisor 35 = .ok (.ireturn, 1) := by decide +kernel
set_option maxRecDepth 100000 in
set_option maxHeartbeats 40000000 in
theorem fx_X8_gcd02 {G : vG} {l : Launch} (w : VW) : Sp G l yX8_commonDivisor cX8_commonDivisor 6 (some .int) 0 0 0 [.int 0, .int 2] (w) (QI (fun x w2 => w2 = w ∧ x = 2)) := by
  refine Sp_of_R [(some (.int 0)), (some (.int 2)), none, none, none, none] [none, none, none, none] rfl (by simp) rfl (Nat.le_of_ble_eq_true rfl) ?_
  refine R_iload_n (pc := 0) dX8_commonDivisor_0 rfl rfl ?_
  refine st_6_2_i_i (pc := 1) dX8_commonDivisor_1 ?_
  refine R_iload_n (pc := 2) dX8_commonDivisor_2 rfl rfl ?_
  refine st_6_3_i_i (pc := 3) dX8_commonDivisor_3 ?_
  refine R_iconst (pc := 4) (v := 0) dX8_commonDivisor_4 (by decide) ?_
  refine st_6_4_i_i (pc := 5) dX8_commonDivisor_5 ?_
  refine R_iload (pc := 7) dX8_commonDivisor_7 rfl ?_
  refine R_bipush (pc := 9) (v := 64) dX8_commonDivisor_9 (by decide) ?_
  refine R_icge (pc := 11) 34 dX8_commonDivisor_11 (by decide) (fun h => absurd h (by decide)) (fun _ => ?_)
  refine R_iload_n (pc := 14) dX8_commonDivisor_14 rfl rfl ?_
  refine R_ifeq (pc := 15) 34 dX8_commonDivisor_15 (by decide) (fun h => absurd h (by decide)) (fun _ => ?_)
  refine R_iload_n (pc := 18) dX8_commonDivisor_18 rfl rfl ?_
  refine R_iload_n (pc := 19) dX8_commonDivisor_19 rfl rfl ?_
  refine R_irem (pc := 20) dX8_commonDivisor_20 (by decide) ?_
  refine R_cv 0 (by decide) ?_
  refine st_6_5_i_i (pc := 21) dX8_commonDivisor_21 ?_
  refine R_iload_n (pc := 23) dX8_commonDivisor_23 rfl rfl ?_
  refine st_6_2_i_i (pc := 24) dX8_commonDivisor_24 ?_
  refine R_iload (pc := 25) dX8_commonDivisor_25 rfl ?_
  refine st_6_3_i_i (pc := 27) dX8_commonDivisor_27 ?_
  refine inc_6_4_1_i (pc := 28) dX8_commonDivisor_28 ?_
  refine R_goto (pc := 31) 7 dX8_commonDivisor_31 (by decide) ?_
  refine R_iload (pc := 7) dX8_commonDivisor_7 rfl ?_
  refine R_bipush (pc := 9) (v := 64) dX8_commonDivisor_9 (by decide) ?_
  refine R_icge (pc := 11) 34 dX8_commonDivisor_11 (by decide) (fun h => absurd h (by decide)) (fun _ => ?_)
  refine R_iload_n (pc := 14) dX8_commonDivisor_14 rfl rfl ?_
  refine R_ifeq (pc := 15) 34 dX8_commonDivisor_15 (by decide) (fun _ => ?_) (fun h => absurd (by decide) h)
  refine R_iload_n (pc := 34) dX8_commonDivisor_34 rfl rfl ?_
  exact R_iret (pc := 35) dX8_commonDivisor_35 rfl rfl (Nat.zero_le _) (Nat.zero_le _) ⟨_, rfl, rfl, rfl⟩
theorem dX8_negative_0 : decode cX8_negative 0 = .ok (.aload_n 0, 1) := by decide +kernel
theorem dX8_negative_1 : decode cX8_negative 1 = .ok (.getfield 10, 3) := by decide +kernel
theorem dX8_negative_4 : decode cX8_negative 4 = .ok (.iload_n 1, 1) := by decide +kernel
theorem dX8_negative_5 : decode cX8_negative 5 = .ok (.invokevirtual 90, 3) := by decide +kernel
theorem dX8_negative_8 : decode cX8_negative 8 = .ok (.ifCond .eq 24, 3) := by decide +kernel
theorem dX8_negative_11 : decode cX8_negative 11 = .ok (.aload_n 0, 1) := by decide +kernel
theorem dX8_negative_12 : decode cX8_negative 12 = .ok (.getfield 21, 3) := by decide +kernel
theorem dX8_negative_15 : decode cX8_negative 15 = .ok (.iload_n 1, 1) := by decide +kernel
theorem dX8_negative_16 : decode cX8_negative 16 = .ok (.aload_n 0, 1) := by decide +kernel
theorem dX8_negative_17 : decode cX8_negative 17 = .ok (.getfield 10, 3) := by decide +kernel
theorem dX8_negative_20 : decode cX8_negative 20 = .ok (.invokevirtual 126, 3) := by decide +kernel
theorem dX8_negative_23 : decode cX8_negative 23 = .ok (.invokevirtual 130, 3) := by decide +kernel
theorem dX8_negative_26 : decode cX8_negative 26 = .ok (.invokestatic 134, 3) := by decide +kernel
theorem dX8_negative_29 : decode cX8_negative 29 = .ok (.goto 5, 3) := by decide +kernel
theorem dX8_negative_32 : decode cX8_negative 32 = .ok (.bipush (-2), 2) := by decide +kernel
theorem dX8_negative_34 : decode cX8_negative 34 = .ok (.ireturn, 1) := by decide +kernel
set_option maxRecDepth 100000 in
set_option maxHeartbeats 40000000 in
theorem fp_negative {G : vG} {l : Launch} (c : Int32) : Sp G l yX8_negative cX8_negative 2 (some .int) 4 0 0 [.ref 0, .int c] (WW σF) (QI (fun x w2 => x = -2 ∧ ∃ τ, w2 = WW (mx τ))) := by
  refine Sp_of_R [(some (.ref 0)), (some (.int c))] [] rfl (by simp) rfl (Nat.le_of_ble_eq_true rfl) ?_
  refine R_aload_n (pc := 0) dX8_negative_0 rfl rfl ?_
  refine g_X8_10 (pc := 1) (v := .ref 1) rfl dX8_negative_1 (c_0 _) rfl ?_
  refine R_iload_n (pc := 4) dX8_negative_4 rfl rfl ?_
  refine k_X8_90 (pc := 5) (fx_X0_isThere _ _ rfl) rfl (c_1 _) (by decide) (Nat.le_refl _) (Nat.le_refl _) (by decide) dX8_negative_5 (fun x w2 h => ?_)
  obtain ⟨rfl, rfl⟩ := h
  refine R_ifeq (pc := 8) 32 dX8_negative_8 (by decide) (fun _ => ?_) (fun h => absurd (by decide) h)
  refine R_bipush (pc := 32) (v := (-2)) dX8_negative_32 (by decide) ?_
  exact R_iret (pc := 34) dX8_negative_34 rfl rfl (Nat.zero_le _) (Nat.zero_le _) ⟨_, rfl, rfl, mxI _ rfl⟩
theorem dX8_far_0 : decode cX8_far 0 = .ok (.aload_n 0, 1) := by decide +kernel
theorem dX8_far_1 : decode cX8_far 1 = .ok (.getfield 10, 3) := by decide +kernel
theorem dX8_far_4 : decode cX8_far 4 = .ok (.iload_n 1, 1) := by decide +kernel
theorem dX8_far_5 : decode cX8_far 5 = .ok (.invokevirtual 90, 3) := by decide +kernel
theorem dX8_far_8 : decode cX8_far 8 = .ok (.ifCond .eq 28, 3) := by decide +kernel
theorem dX8_far_11 : decode cX8_far 11 = .ok (.aload_n 0, 1) := by decide +kernel
theorem dX8_far_12 : decode cX8_far 12 = .ok (.getfield 10, 3) := by decide +kernel
theorem dX8_far_15 : decode cX8_far 15 = .ok (.iload_n 2, 1) := by decide +kernel
theorem dX8_far_16 : decode cX8_far 16 = .ok (.invokevirtual 90, 3) := by decide +kernel
theorem dX8_far_19 : decode cX8_far 19 = .ok (.ifCond .eq 17, 3) := by decide +kernel
theorem dX8_far_22 : decode cX8_far 22 = .ok (.aload_n 0, 1) := by decide +kernel
theorem dX8_far_23 : decode cX8_far 23 = .ok (.getfield 21, 3) := by decide +kernel
theorem dX8_far_26 : decode cX8_far 26 = .ok (.getfield 138, 3) := by decide +kernel
theorem dX8_far_29 : decode cX8_far 29 = .ok (.iload_n 1, 1) := by decide +kernel
theorem dX8_far_30 : decode cX8_far 30 = .ok (.aaload, 1) := by decide +kernel
theorem dX8_far_31 : decode cX8_far 31 = .ok (.iload_n 2, 1) := by decide +kernel
theorem dX8_far_32 : decode cX8_far 32 = .ok (.iaload, 1) := by decide +kernel
theorem dX8_far_33 : decode cX8_far 33 = .ok (.goto 5, 3) := by decide +kernel
theorem dX8_far_36 : decode cX8_far 36 = .ok (.bipush (-2), 2) := by decide +kernel
theorem dX8_far_38 : decode cX8_far 38 = .ok (.ireturn, 1) := by decide +kernel
set_option maxRecDepth 100000 in
set_option maxHeartbeats 40000000 in
theorem fp_far {G : vG} {l : Launch} (a b : Int32) : Sp G l yX8_far cX8_far 3 (some .int) 1 0 0 [.ref 0, .int a, .int b] (WW σF) (QI (fun x w2 => x = -2 ∧ ∃ τ, w2 = WW (mx τ))) := by
  refine Sp_of_R [(some (.ref 0)), (some (.int a)), (some (.int b))] [] rfl (by simp) rfl (Nat.le_of_ble_eq_true rfl) ?_
  refine R_aload_n (pc := 0) dX8_far_0 rfl rfl ?_
  refine g_X8_10 (pc := 1) (v := .ref 1) rfl dX8_far_1 (c_0 _) rfl ?_
  refine R_iload_n (pc := 4) dX8_far_4 rfl rfl ?_
  refine k_X8_90 (pc := 5) (fx_X0_isThere _ _ rfl) rfl (c_1 _) (by decide) (Nat.le_refl _) (Nat.le_refl _) (by decide) dX8_far_5 (fun x w2 h => ?_)
  obtain ⟨rfl, rfl⟩ := h
  refine R_ifeq (pc := 8) 36 dX8_far_8 (by decide) (fun _ => ?_) (fun h => absurd (by decide) h)
  refine R_bipush (pc := 36) (v := (-2)) dX8_far_36 (by decide) ?_
  exact R_iret (pc := 38) dX8_far_38 rfl rfl (Nat.zero_le _) (Nat.zero_le _) ⟨_, rfl, rfl, mxI _ rfl⟩
theorem dX8_difference_0 : decode cX8_difference 0 = .ok (.aload_n 0, 1) := by decide +kernel
theorem dX8_difference_1 : decode cX8_difference 1 = .ok (.iload_n 1, 1) := by decide +kernel
theorem dX8_difference_2 : decode cX8_difference 2 = .ok (.iload_n 2, 1) := by decide +kernel
theorem dX8_difference_3 : decode cX8_difference 3 = .ok (.invokevirtual 118, 3) := by decide +kernel
theorem dX8_difference_6 : decode cX8_difference 6 = .ok (.ifCond .eq 17, 3) := by decide +kernel
theorem dX8_difference_9 : decode cX8_difference 9 = .ok (.aload_n 0, 1) := by decide +kernel
theorem dX8_difference_10 : decode cX8_difference 10 = .ok (.getfield 21, 3) := by decide +kernel
theorem dX8_difference_13 : decode cX8_difference 13 = .ok (.getfield 122, 3) := by decide +kernel
theorem dX8_difference_16 : decode cX8_difference 16 = .ok (.iload_n 1, 1) := by decide +kernel
theorem dX8_difference_17 : decode cX8_difference 17 = .ok (.aaload, 1) := by decide +kernel
theorem dX8_difference_18 : decode cX8_difference 18 = .ok (.iload_n 2, 1) := by decide +kernel
theorem dX8_difference_19 : decode cX8_difference 19 = .ok (.iaload, 1) := by decide +kernel
theorem dX8_difference_20 : decode cX8_difference 20 = .ok (.goto 5, 3) := by decide +kernel
theorem dX8_difference_23 : decode cX8_difference 23 = .ok (.bipush (-2), 2) := by decide +kernel
theorem dX8_difference_25 : decode cX8_difference 25 = .ok (.ireturn, 1) := by decide +kernel
set_option maxRecDepth 100000 in
set_option maxHeartbeats 40000000 in
theorem fp_difference {G : vG} {l : Launch} (a b : Int32) : Sp G l yX8_difference cX8_difference 3 (some .int) 2 0 0 [.ref 0, .int a, .int b] (WW σF) (QI (fun x w2 => x = -2 ∧ ∃ τ, w2 = WW (mx τ))) := by
  refine Sp_of_R [(some (.ref 0)), (some (.int a)), (some (.int b))] [] rfl (by simp) rfl (Nat.le_of_ble_eq_true rfl) ?_
  refine R_aload_n (pc := 0) dX8_difference_0 rfl rfl ?_
  refine R_iload_n (pc := 1) dX8_difference_1 rfl rfl ?_
  refine R_iload_n (pc := 2) dX8_difference_2 rfl rfl ?_
  refine k_X8_118 (pc := 3) (fx_X8_areTwoThere _ _ _ rfl) rfl (c_0 _) (by decide) (Nat.le_refl _) (Nat.le_refl _) (by decide) dX8_difference_3 (fun x w2 h => ?_)
  obtain ⟨rfl, rfl⟩ := h
  refine R_ifeq (pc := 6) 23 dX8_difference_6 (by decide) (fun _ => ?_) (fun h => absurd (by decide) h)
  refine R_bipush (pc := 23) (v := (-2)) dX8_difference_23 (by decide) ?_
  exact R_iret (pc := 25) dX8_difference_25 rfl rfl (Nat.zero_le _) (Nat.zero_le _) ⟨_, rfl, rfl, mxI _ rfl⟩
theorem dX8_match_0 : decode cX8_match 0 = .ok (.aload_n 0, 1) := by decide +kernel
theorem dX8_match_1 : decode cX8_match 1 = .ok (.iload_n 1, 1) := by decide +kernel
theorem dX8_match_2 : decode cX8_match 2 = .ok (.iload_n 2, 1) := by decide +kernel
theorem dX8_match_3 : decode cX8_match 3 = .ok (.invokevirtual 118, 3) := by decide +kernel
theorem dX8_match_6 : decode cX8_match 6 = .ok (.ifCond .ne 6, 3) := by decide +kernel
theorem dX8_match_9 : decode cX8_match 9 = .ok (.bipush (-2), 2) := by decide +kernel
theorem dX8_match_11 : decode cX8_match 11 = .ok (.ireturn, 1) := by decide +kernel
theorem dX8_match_12 : decode cX8_match 12 = .ok (.aload_n 0, 1) := by decide +kernel
theorem dX8_match_13 : decode cX8_match 13 = .ok (.getfield 21, 3) := by decide +kernel
theorem dX8_match_16 : decode cX8_match 16 = .ok (.iload_n 1, 1) := by decide +kernel
theorem dX8_match_17 : decode cX8_match 17 = .ok (.iload_n 2, 1) := by decide +kernel
theorem dX8_match_18 : decode cX8_match 18 = .ok (.invokevirtual 141, 3) := by decide +kernel
theorem dX8_match_21 : decode cX8_match 21 = .ok (.ifCond .eq 7, 3) := by decide +kernel
theorem dX8_match_24 : decode cX8_match 24 = .ok (.iconst 1, 1) := by decide +kernel
theorem dX8_match_25 : decode cX8_match 25 = .ok (.goto 4, 3) := by decide +kernel
theorem dX8_match_28 : decode cX8_match 28 = .ok (.iconst 0, 1) := by decide +kernel
theorem dX8_match_29 : decode cX8_match 29 = .ok (.ireturn, 1) := by decide +kernel
set_option maxRecDepth 100000 in
set_option maxHeartbeats 40000000 in
theorem fp_match {G : vG} {l : Launch} (a b : Int32) : Sp G l yX8_match cX8_match 3 (some .int) 2 0 0 [.ref 0, .int a, .int b] (WW σF) (QI (fun x w2 => x = -2 ∧ ∃ τ, w2 = WW (mx τ))) := by
  refine Sp_of_R [(some (.ref 0)), (some (.int a)), (some (.int b))] [] rfl (by simp) rfl (Nat.le_of_ble_eq_true rfl) ?_
  refine R_aload_n (pc := 0) dX8_match_0 rfl rfl ?_
  refine R_iload_n (pc := 1) dX8_match_1 rfl rfl ?_
  refine R_iload_n (pc := 2) dX8_match_2 rfl rfl ?_
  refine k_X8_118 (pc := 3) (fx_X8_areTwoThere _ _ _ rfl) rfl (c_0 _) (by decide) (Nat.le_refl _) (Nat.le_refl _) (by decide) dX8_match_3 (fun x w2 h => ?_)
  obtain ⟨rfl, rfl⟩ := h
  refine R_ifne (pc := 6) 12 dX8_match_6 (by decide) (fun h => absurd (by decide) h) (fun _ => ?_)
  refine R_bipush (pc := 9) (v := (-2)) dX8_match_9 (by decide) ?_
  exact R_iret (pc := 11) dX8_match_11 rfl rfl (Nat.zero_le _) (Nat.zero_le _) ⟨_, rfl, rfl, mxI _ rfl⟩
theorem dX8_of_0 : decode cX8_of 0 = .ok (.aload_n 0, 1) := by decide +kernel
theorem dX8_of_1 : decode cX8_of 1 = .ok (.getfield 10, 3) := by decide +kernel
theorem dX8_of_4 : decode cX8_of 4 = .ok (.iload_n 1, 1) := by decide +kernel
theorem dX8_of_5 : decode cX8_of 5 = .ok (.invokevirtual 90, 3) := by decide +kernel
theorem dX8_of_8 : decode cX8_of 8 = .ok (.ifCond .ne 6, 3) := by decide +kernel
theorem dX8_of_11 : decode cX8_of 11 = .ok (.bipush (-2), 2) := by decide +kernel
theorem dX8_of_13 : decode cX8_of 13 = .ok (.ireturn, 1) := by decide +kernel
theorem dX8_of_14 : decode cX8_of 14 = .ok (.iload_n 2, 1) := by decide +kernel
theorem dX8_of_15 : decode cX8_of 15 = .ok (.tableswitch 106 0 4 #[33, 52, 58, 74, 80], 33) := by decide +kernel
theorem dX8_of_48 : decode cX8_of 48 = .ok (.aload_n 0, 1) := by decide +kernel
theorem dX8_of_49 : decode cX8_of 49 = .ok (.getfield 21, 3) := by decide +kernel
theorem dX8_of_52 : decode cX8_of 52 = .ok (.iload_n 1, 1) := by decide +kernel
theorem dX8_of_53 : decode cX8_of 53 = .ok (.aload_n 0, 1) := by decide +kernel
theorem dX8_of_54 : decode cX8_of 54 = .ok (.getfield 10, 3) := by decide +kernel
theorem dX8_of_57 : decode cX8_of 57 = .ok (.invokevirtual 126, 3) := by decide +kernel
theorem dX8_of_60 : decode cX8_of 60 = .ok (.invokevirtual 144, 3) := by decide +kernel
theorem dX8_of_63 : decode cX8_of 63 = .ok (.invokestatic 134, 3) := by decide +kernel
theorem dX8_of_66 : decode cX8_of 66 = .ok (.ireturn, 1) := by decide +kernel
theorem dX8_of_67 : decode cX8_of 67 = .ok (.aload_n 0, 1) := by decide +kernel
theorem dX8_of_68 : decode cX8_of 68 = .ok (.iload_n 1, 1) := by decide +kernel
theorem dX8_of_69 : decode cX8_of 69 = .ok (.invokevirtual 147, 3) := by decide +kernel
theorem dX8_of_72 : decode cX8_of 72 = .ok (.ireturn, 1) := by decide +kernel
theorem dX8_of_73 : decode cX8_of 73 = .ok (.aload_n 0, 1) := by decide +kernel
theorem dX8_of_74 : decode cX8_of 74 = .ok (.getfield 21, 3) := by decide +kernel
theorem dX8_of_77 : decode cX8_of 77 = .ok (.iload_n 1, 1) := by decide +kernel
theorem dX8_of_78 : decode cX8_of 78 = .ok (.aload_n 0, 1) := by decide +kernel
theorem dX8_of_79 : decode cX8_of 79 = .ok (.getfield 10, 3) := by decide +kernel
theorem dX8_of_82 : decode cX8_of 82 = .ok (.invokevirtual 126, 3) := by decide +kernel
theorem dX8_of_85 : decode cX8_of 85 = .ok (.invokevirtual 150, 3) := by decide +kernel
theorem dX8_of_88 : decode cX8_of 88 = .ok (.ireturn, 1) := by decide +kernel
theorem dX8_of_89 : decode cX8_of 89 = .ok (.aload_n 0, 1) := by decide +kernel
theorem dX8_of_90 : decode cX8_of 90 = .ok (.iload_n 1, 1) := by decide +kernel
theorem dX8_of_91 : decode cX8_of 91 = .ok (.invokevirtual 153, 3) := by decide +kernel
theorem dX8_of_94 : decode cX8_of 94 = .ok (.ireturn, 1) := by decide +kernel
theorem dX8_of_95 : decode cX8_of 95 = .ok (.aload_n 0, 1) := by decide +kernel
theorem dX8_of_96 : decode cX8_of 96 = .ok (.getfield 10, 3) := by decide +kernel
theorem dX8_of_99 : decode cX8_of 99 = .ok (.aload_n 0, 1) := by decide +kernel
theorem dX8_of_100 : decode cX8_of 100 = .ok (.getfield 21, 3) := by decide +kernel
theorem dX8_of_103 : decode cX8_of 103 = .ok (.iload_n 1, 1) := by decide +kernel
theorem dX8_of_104 : decode cX8_of 104 = .ok (.aload_n 0, 1) := by decide +kernel
theorem dX8_of_105 : decode cX8_of 105 = .ok (.getfield 10, 3) := by decide +kernel
theorem dX8_of_108 : decode cX8_of 108 = .ok (.invokevirtual 126, 3) := by decide +kernel
theorem dX8_of_111 : decode cX8_of 111 = .ok (.invokevirtual 130, 3) := by decide +kernel
theorem dX8_of_114 : decode cX8_of 114 = .ok (.invokevirtual 156, 3) := by decide +kernel
theorem dX8_of_117 : decode cX8_of 117 = .ok (.invokestatic 159, 3) := by decide +kernel
theorem dX8_of_120 : decode cX8_of 120 = .ok (.ireturn, 1) := by decide +kernel
theorem dX8_of_121 : decode cX8_of 121 = .ok (.bipush (-3), 2) := by decide +kernel
theorem dX8_of_123 : decode cX8_of 123 = .ok (.ireturn, 1) := by decide +kernel
set_option maxRecDepth 100000 in
set_option maxHeartbeats 40000000 in
theorem fp_of {G : vG} {l : Launch} (a b : Int32) : Sp G l yX8_of cX8_of 3 (some .int) 6 0 0 [.ref 0, .int a, .int b] (WW σF) (QI (fun x w2 => x = -2 ∧ ∃ τ, w2 = WW (mx τ))) := by
  refine Sp_of_R [(some (.ref 0)), (some (.int a)), (some (.int b))] [] rfl (by simp) rfl (Nat.le_of_ble_eq_true rfl) ?_
  refine R_aload_n (pc := 0) dX8_of_0 rfl rfl ?_
  refine g_X8_10 (pc := 1) (v := .ref 1) rfl dX8_of_1 (c_0 _) rfl ?_
  refine R_iload_n (pc := 4) dX8_of_4 rfl rfl ?_
  refine k_X8_90 (pc := 5) (fx_X0_isThere _ _ rfl) rfl (c_1 _) (by decide) (Nat.le_refl _) (Nat.le_refl _) (by decide) dX8_of_5 (fun x w2 h => ?_)
  obtain ⟨rfl, rfl⟩ := h
  refine R_ifne (pc := 8) 14 dX8_of_8 (by decide) (fun h => absurd (by decide) h) (fun _ => ?_)
  refine R_bipush (pc := 11) (v := (-2)) dX8_of_11 (by decide) ?_
  exact R_iret (pc := 13) dX8_of_13 rfl rfl (Nat.zero_le _) (Nat.zero_le _) ⟨_, rfl, rfl, mxI _ rfl⟩
theorem dX8_shows_0 : decode cX8_shows 0 = .ok (.aload_n 0, 1) := by decide +kernel
theorem dX8_shows_1 : decode cX8_shows 1 = .ok (.getfield 10, 3) := by decide +kernel
theorem dX8_shows_4 : decode cX8_shows 4 = .ok (.iload_n 1, 1) := by decide +kernel
theorem dX8_shows_5 : decode cX8_shows 5 = .ok (.invokevirtual 90, 3) := by decide +kernel
theorem dX8_shows_8 : decode cX8_shows 8 = .ok (.ifCond .eq 13, 3) := by decide +kernel
theorem dX8_shows_11 : decode cX8_shows 11 = .ok (.iload_n 2, 1) := by decide +kernel
theorem dX8_shows_12 : decode cX8_shows 12 = .ok (.iconst 0, 1) := by decide +kernel
theorem dX8_shows_13 : decode cX8_shows 13 = .ok (.bipush 7, 2) := by decide +kernel
theorem dX8_shows_15 : decode cX8_shows 15 = .ok (.invokestatic 72, 3) := by decide +kernel
theorem dX8_shows_18 : decode cX8_shows 18 = .ok (.ifCond .ne 6, 3) := by decide +kernel
theorem dX8_shows_21 : decode cX8_shows 21 = .ok (.bipush (-2), 2) := by decide +kernel
theorem dX8_shows_23 : decode cX8_shows 23 = .ok (.ireturn, 1) := by decide +kernel
theorem dX8_shows_24 : decode cX8_shows 24 = .ok (.iload_n 3, 1) := by decide +kernel
theorem dX8_shows_25 : decode cX8_shows 25 = .ok (.ifCond .eq 16, 3) := by decide +kernel
theorem dX8_shows_28 : decode cX8_shows 28 = .ok (.iload_n 3, 1) := by decide +kernel
theorem dX8_shows_29 : decode cX8_shows 29 = .ok (.iconst 1, 1) := by decide +kernel
theorem dX8_shows_30 : decode cX8_shows 30 = .ok (.if_icmp .eq 11, 3) := by decide +kernel
theorem dX8_shows_33 : decode cX8_shows 33 = .ok (.iload_n 3, 1) := by decide +kernel
theorem dX8_shows_34 : decode cX8_shows 34 = .ok (.iconst 2, 1) := by decide +kernel
theorem dX8_shows_35 : decode cX8_shows 35 = .ok (.if_icmp .eq 6, 3) := by decide +kernel
theorem dX8_shows_38 : decode cX8_shows 38 = .ok (.bipush (-3), 2) := by decide +kernel
theorem dX8_shows_40 : decode cX8_shows 40 = .ok (.ireturn, 1) := by decide +kernel
theorem dX8_shows_41 : decode cX8_shows 41 = .ok (.aload_n 0, 1) := by decide +kernel
theorem dX8_shows_42 : decode cX8_shows 42 = .ok (.getfield 37, 3) := by decide +kernel
theorem dX8_shows_45 : decode cX8_shows 45 = .ok (.getfield 224, 3) := by decide +kernel
theorem dX8_shows_48 : decode cX8_shows 48 = .ok (.iload_n 1, 1) := by decide +kernel
theorem dX8_shows_49 : decode cX8_shows 49 = .ok (.aaload, 1) := by decide +kernel
theorem dX8_shows_50 : decode cX8_shows 50 = .ok (.iload_n 2, 1) := by decide +kernel
theorem dX8_shows_51 : decode cX8_shows 51 = .ok (.iaload, 1) := by decide +kernel
theorem dX8_shows_52 : decode cX8_shows 52 = .ok (.istore 4, 2) := by decide +kernel
theorem dX8_shows_54 : decode cX8_shows 54 = .ok (.aload_n 0, 1) := by decide +kernel
theorem dX8_shows_55 : decode cX8_shows 55 = .ok (.getfield 37, 3) := by decide +kernel
theorem dX8_shows_58 : decode cX8_shows 58 = .ok (.getfield 224, 3) := by decide +kernel
theorem dX8_shows_61 : decode cX8_shows 61 = .ok (.iload_n 1, 1) := by decide +kernel
theorem dX8_shows_62 : decode cX8_shows 62 = .ok (.aaload, 1) := by decide +kernel
theorem dX8_shows_63 : decode cX8_shows 63 = .ok (.iload_n 2, 1) := by decide +kernel
theorem dX8_shows_64 : decode cX8_shows 64 = .ok (.iload_n 3, 1) := by decide +kernel
theorem dX8_shows_65 : decode cX8_shows 65 = .ok (.iastore, 1) := by decide +kernel
theorem dX8_shows_66 : decode cX8_shows 66 = .ok (.iload 4, 2) := by decide +kernel
theorem dX8_shows_68 : decode cX8_shows 68 = .ok (.ireturn, 1) := by decide +kernel
set_option maxRecDepth 100000 in
set_option maxHeartbeats 40000000 in
theorem fp_shows {G : vG} {l : Launch} (a b c : Int32) : Sp G l yX8_shows cX8_shows 5 (some .int) 1 0 0 [.ref 0, .int a, .int b, .int c] (WW σF) (QI (fun x w2 => x = -2 ∧ ∃ τ, w2 = WW (mx τ))) := by
  refine Sp_of_R [(some (.ref 0)), (some (.int a)), (some (.int b)), (some (.int c)), none] [none] rfl (by simp) rfl (Nat.le_of_ble_eq_true rfl) ?_
  refine R_aload_n (pc := 0) dX8_shows_0 rfl rfl ?_
  refine g_X8_10 (pc := 1) (v := .ref 1) rfl dX8_shows_1 (c_0 _) rfl ?_
  refine R_iload_n (pc := 4) dX8_shows_4 rfl rfl ?_
  refine k_X8_90 (pc := 5) (fx_X0_isThere _ _ rfl) rfl (c_1 _) (by decide) (Nat.le_refl _) (Nat.le_refl _) (by decide) dX8_shows_5 (fun x w2 h => ?_)
  obtain ⟨rfl, rfl⟩ := h
  refine R_ifeq (pc := 8) 21 dX8_shows_8 (by decide) (fun _ => ?_) (fun h => absurd (by decide) h)
  refine R_bipush (pc := 21) (v := (-2)) dX8_shows_21 (by decide) ?_
  exact R_iret (pc := 23) dX8_shows_23 rfl rfl (Nat.zero_le _) (Nat.zero_le _) ⟨_, rfl, rfl, mxI _ rfl⟩
theorem dX8_later_0 : decode cX8_later 0 = .ok (.aload_n 0, 1) := by decide +kernel
theorem dX8_later_1 : decode cX8_later 1 = .ok (.iload_n 1, 1) := by decide +kernel
theorem dX8_later_2 : decode cX8_later 2 = .ok (.iload_n 2, 1) := by decide +kernel
theorem dX8_later_3 : decode cX8_later 3 = .ok (.invokevirtual 118, 3) := by decide +kernel
theorem dX8_later_6 : decode cX8_later 6 = .ok (.ifCond .ne 6, 3) := by decide +kernel
theorem dX8_later_9 : decode cX8_later 9 = .ok (.bipush (-2), 2) := by decide +kernel
theorem dX8_later_11 : decode cX8_later 11 = .ok (.ireturn, 1) := by decide +kernel
theorem dX8_later_12 : decode cX8_later 12 = .ok (.aload_n 0, 1) := by decide +kernel
theorem dX8_later_13 : decode cX8_later 13 = .ok (.getfield 37, 3) := by decide +kernel
theorem dX8_later_16 : decode cX8_later 16 = .ok (.getfield 233, 3) := by decide +kernel
theorem dX8_later_19 : decode cX8_later 19 = .ok (.bipush 12, 2) := by decide +kernel
theorem dX8_later_21 : decode cX8_later 21 = .ok (.if_icmp .lt 6, 3) := by decide +kernel
theorem dX8_later_24 : decode cX8_later 24 = .ok (.bipush (-5), 2) := by decide +kernel
theorem dX8_later_26 : decode cX8_later 26 = .ok (.ireturn, 1) := by decide +kernel
theorem dX8_later_27 : decode cX8_later 27 = .ok (.aload_n 0, 1) := by decide +kernel
theorem dX8_later_28 : decode cX8_later 28 = .ok (.getfield 37, 3) := by decide +kernel
theorem dX8_later_31 : decode cX8_later 31 = .ok (.getfield 236, 3) := by decide +kernel
theorem dX8_later_34 : decode cX8_later 34 = .ok (.aload_n 0, 1) := by decide +kernel
theorem dX8_later_35 : decode cX8_later 35 = .ok (.getfield 37, 3) := by decide +kernel
theorem dX8_later_38 : decode cX8_later 38 = .ok (.getfield 233, 3) := by decide +kernel
theorem dX8_later_41 : decode cX8_later 41 = .ok (.iload_n 1, 1) := by decide +kernel
theorem dX8_later_42 : decode cX8_later 42 = .ok (.iastore, 1) := by decide +kernel
theorem dX8_later_43 : decode cX8_later 43 = .ok (.aload_n 0, 1) := by decide +kernel
theorem dX8_later_44 : decode cX8_later 44 = .ok (.getfield 37, 3) := by decide +kernel
theorem dX8_later_47 : decode cX8_later 47 = .ok (.getfield 239, 3) := by decide +kernel
theorem dX8_later_50 : decode cX8_later 50 = .ok (.aload_n 0, 1) := by decide +kernel
theorem dX8_later_51 : decode cX8_later 51 = .ok (.getfield 37, 3) := by decide +kernel
theorem dX8_later_54 : decode cX8_later 54 = .ok (.getfield 233, 3) := by decide +kernel
theorem dX8_later_57 : decode cX8_later 57 = .ok (.iload_n 2, 1) := by decide +kernel
theorem dX8_later_58 : decode cX8_later 58 = .ok (.iastore, 1) := by decide +kernel
theorem dX8_later_59 : decode cX8_later 59 = .ok (.aload_n 0, 1) := by decide +kernel
theorem dX8_later_60 : decode cX8_later 60 = .ok (.getfield 37, 3) := by decide +kernel
theorem dX8_later_63 : decode cX8_later 63 = .ok (.dup, 1) := by decide +kernel
theorem dX8_later_64 : decode cX8_later 64 = .ok (.getfield 233, 3) := by decide +kernel
theorem dX8_later_67 : decode cX8_later 67 = .ok (.iconst 1, 1) := by decide +kernel
theorem dX8_later_68 : decode cX8_later 68 = .ok (.iadd, 1) := by decide +kernel
theorem dX8_later_69 : decode cX8_later 69 = .ok (.putfield 233, 3) := by decide +kernel
theorem dX8_later_72 : decode cX8_later 72 = .ok (.aload_n 0, 1) := by decide +kernel
theorem dX8_later_73 : decode cX8_later 73 = .ok (.getfield 37, 3) := by decide +kernel
theorem dX8_later_76 : decode cX8_later 76 = .ok (.getfield 233, 3) := by decide +kernel
theorem dX8_later_79 : decode cX8_later 79 = .ok (.ireturn, 1) := by decide +kernel
set_option maxRecDepth 100000 in
set_option maxHeartbeats 40000000 in
theorem fp_later {G : vG} {l : Launch} (a b : Int32) : Sp G l yX8_later cX8_later 3 (some .int) 2 0 0 [.ref 0, .int a, .int b] (WW σF) (QI (fun x w2 => x = -2 ∧ ∃ τ, w2 = WW (mx τ))) := by
  refine Sp_of_R [(some (.ref 0)), (some (.int a)), (some (.int b))] [] rfl (by simp) rfl (Nat.le_of_ble_eq_true rfl) ?_
  refine R_aload_n (pc := 0) dX8_later_0 rfl rfl ?_
  refine R_iload_n (pc := 1) dX8_later_1 rfl rfl ?_
  refine R_iload_n (pc := 2) dX8_later_2 rfl rfl ?_
  refine k_X8_118 (pc := 3) (fx_X8_areTwoThere _ _ _ rfl) rfl (c_0 _) (by decide) (Nat.le_refl _) (Nat.le_refl _) (by decide) dX8_later_3 (fun x w2 h => ?_)
  obtain ⟨rfl, rfl⟩ := h
  refine R_ifne (pc := 6) 12 dX8_later_6 (by decide) (fun h => absurd (by decide) h) (fun _ => ?_)
  refine R_bipush (pc := 9) (v := (-2)) dX8_later_9 (by decide) ?_
  exact R_iret (pc := 11) dX8_later_11 rfl rfl (Nat.zero_le _) (Nat.zero_le _) ⟨_, rfl, rfl, mxI _ rfl⟩
theorem dX8_span_0 : decode cX8_span 0 = .ok (.aload_n 0, 1) := by decide +kernel
theorem dX8_span_1 : decode cX8_span 1 = .ok (.getfield 10, 3) := by decide +kernel
theorem dX8_span_4 : decode cX8_span 4 = .ok (.iload_n 1, 1) := by decide +kernel
theorem dX8_span_5 : decode cX8_span 5 = .ok (.invokevirtual 90, 3) := by decide +kernel
theorem dX8_span_8 : decode cX8_span 8 = .ok (.ifCond .ne 6, 3) := by decide +kernel
theorem dX8_span_11 : decode cX8_span 11 = .ok (.bipush (-2), 2) := by decide +kernel
theorem dX8_span_13 : decode cX8_span 13 = .ok (.ireturn, 1) := by decide +kernel
theorem dX8_span_14 : decode cX8_span 14 = .ok (.iload_n 2, 1) := by decide +kernel
theorem dX8_span_15 : decode cX8_span 15 = .ok (.iconst 0, 1) := by decide +kernel
theorem dX8_span_16 : decode cX8_span 16 = .ok (.iconst 1, 1) := by decide +kernel
theorem dX8_span_17 : decode cX8_span 17 = .ok (.invokestatic 72, 3) := by decide +kernel
theorem dX8_span_20 : decode cX8_span 20 = .ok (.ifCond .eq 12, 3) := by decide +kernel
theorem dX8_span_23 : decode cX8_span 23 = .ok (.iload_n 3, 1) := by decide +kernel
theorem dX8_span_24 : decode cX8_span 24 = .ok (.iconst 0, 1) := by decide +kernel
theorem dX8_span_25 : decode cX8_span 25 = .ok (.iconst 1, 1) := by decide +kernel
theorem dX8_span_26 : decode cX8_span 26 = .ok (.invokestatic 72, 3) := by decide +kernel
theorem dX8_span_29 : decode cX8_span 29 = .ok (.ifCond .ne 6, 3) := by decide +kernel
theorem dX8_span_32 : decode cX8_span 32 = .ok (.bipush (-3), 2) := by decide +kernel
theorem dX8_span_34 : decode cX8_span 34 = .ok (.ireturn, 1) := by decide +kernel
theorem dX8_span_35 : decode cX8_span 35 = .ok (.aload_n 0, 1) := by decide +kernel
theorem dX8_span_36 : decode cX8_span 36 = .ok (.getfield 37, 3) := by decide +kernel
theorem dX8_span_39 : decode cX8_span 39 = .ok (.aload_n 0, 1) := by decide +kernel
theorem dX8_span_40 : decode cX8_span 40 = .ok (.getfield 10, 3) := by decide +kernel
theorem dX8_span_43 : decode cX8_span 43 = .ok (.invokevirtual 126, 3) := by decide +kernel
theorem dX8_span_46 : decode cX8_span 46 = .ok (.aload_n 0, 1) := by decide +kernel
theorem dX8_span_47 : decode cX8_span 47 = .ok (.getfield 62, 3) := by decide +kernel
theorem dX8_span_50 : decode cX8_span 50 = .ok (.invokevirtual 242, 3) := by decide +kernel
theorem dX8_span_53 : decode cX8_span 53 = .ok (.ifCond .ne 5, 3) := by decide +kernel
theorem dX8_span_56 : decode cX8_span 56 = .ok (.iconst (-1), 1) := by decide +kernel
theorem dX8_span_57 : decode cX8_span 57 = .ok (.ireturn, 1) := by decide +kernel
theorem dX8_span_58 : decode cX8_span 58 = .ok (.iload_n 2, 1) := by decide +kernel
theorem dX8_span_59 : decode cX8_span 59 = .ok (.ifCond .ne 48, 3) := by decide +kernel
theorem dX8_span_62 : decode cX8_span 62 = .ok (.aload_n 0, 1) := by decide +kernel
theorem dX8_span_63 : decode cX8_span 63 = .ok (.getfield 37, 3) := by decide +kernel
theorem dX8_span_66 : decode cX8_span 66 = .ok (.getfield 246, 3) := by decide +kernel
theorem dX8_span_69 : decode cX8_span 69 = .ok (.iload_n 1, 1) := by decide +kernel
theorem dX8_span_70 : decode cX8_span 70 = .ok (.iaload, 1) := by decide +kernel
theorem dX8_span_71 : decode cX8_span 71 = .ok (.istore 4, 2) := by decide +kernel
theorem dX8_span_73 : decode cX8_span 73 = .ok (.iload_n 3, 1) := by decide +kernel
theorem dX8_span_74 : decode cX8_span 74 = .ok (.ifCond .ne 19, 3) := by decide +kernel
theorem dX8_span_77 : decode cX8_span 77 = .ok (.aload_n 0, 1) := by decide +kernel
theorem dX8_span_78 : decode cX8_span 78 = .ok (.getfield 37, 3) := by decide +kernel
theorem dX8_span_81 : decode cX8_span 81 = .ok (.getfield 249, 3) := by decide +kernel
theorem dX8_span_84 : decode cX8_span 84 = .ok (.getfield 253, 3) := by decide +kernel
theorem dX8_span_87 : decode cX8_span 87 = .ok (.iload 4, 2) := by decide +kernel
theorem dX8_span_89 : decode cX8_span 89 = .ok (.iaload, 1) := by decide +kernel
theorem dX8_span_90 : decode cX8_span 90 = .ok (.goto 16, 3) := by decide +kernel
theorem dX8_span_93 : decode cX8_span 93 = .ok (.aload_n 0, 1) := by decide +kernel
theorem dX8_span_94 : decode cX8_span 94 = .ok (.getfield 37, 3) := by decide +kernel
theorem dX8_span_97 : decode cX8_span 97 = .ok (.getfield 249, 3) := by decide +kernel
theorem dX8_span_100 : decode cX8_span 100 = .ok (.getfield 258, 3) := by decide +kernel
theorem dX8_span_103 : decode cX8_span 103 = .ok (.iload 4, 2) := by decide +kernel
theorem dX8_span_105 : decode cX8_span 105 = .ok (.iaload, 1) := by decide +kernel
theorem dX8_span_106 : decode cX8_span 106 = .ok (.ireturn, 1) := by decide +kernel
theorem dX8_span_107 : decode cX8_span 107 = .ok (.iload_n 3, 1) := by decide +kernel
theorem dX8_span_108 : decode cX8_span 108 = .ok (.ifCond .ne 18, 3) := by decide +kernel
theorem dX8_span_111 : decode cX8_span 111 = .ok (.aload_n 0, 1) := by decide +kernel
theorem dX8_span_112 : decode cX8_span 112 = .ok (.getfield 37, 3) := by decide +kernel
theorem dX8_span_115 : decode cX8_span 115 = .ok (.getfield 261, 3) := by decide +kernel
theorem dX8_span_118 : decode cX8_span 118 = .ok (.getfield 253, 3) := by decide +kernel
theorem dX8_span_121 : decode cX8_span 121 = .ok (.iload_n 1, 1) := by decide +kernel
theorem dX8_span_122 : decode cX8_span 122 = .ok (.iaload, 1) := by decide +kernel
theorem dX8_span_123 : decode cX8_span 123 = .ok (.goto 15, 3) := by decide +kernel
theorem dX8_span_126 : decode cX8_span 126 = .ok (.aload_n 0, 1) := by decide +kernel
theorem dX8_span_127 : decode cX8_span 127 = .ok (.getfield 37, 3) := by decide +kernel
theorem dX8_span_130 : decode cX8_span 130 = .ok (.getfield 261, 3) := by decide +kernel
theorem dX8_span_133 : decode cX8_span 133 = .ok (.getfield 258, 3) := by decide +kernel
theorem dX8_span_136 : decode cX8_span 136 = .ok (.iload_n 1, 1) := by decide +kernel
theorem dX8_span_137 : decode cX8_span 137 = .ok (.iaload, 1) := by decide +kernel
theorem dX8_span_138 : decode cX8_span 138 = .ok (.ireturn, 1) := by decide +kernel
set_option maxRecDepth 100000 in
set_option maxHeartbeats 40000000 in
theorem fp_span {G : vG} {l : Launch} (a b c : Int32) : Sp G l yX8_span cX8_span 5 (some .int) 6 0 0 [.ref 0, .int a, .int b, .int c] (WW σF) (QI (fun x w2 => x = -2 ∧ ∃ τ, w2 = WW (mx τ))) := by
  refine Sp_of_R [(some (.ref 0)), (some (.int a)), (some (.int b)), (some (.int c)), none] [none] rfl (by simp) rfl (Nat.le_of_ble_eq_true rfl) ?_
  refine R_aload_n (pc := 0) dX8_span_0 rfl rfl ?_
  refine g_X8_10 (pc := 1) (v := .ref 1) rfl dX8_span_1 (c_0 _) rfl ?_
  refine R_iload_n (pc := 4) dX8_span_4 rfl rfl ?_
  refine k_X8_90 (pc := 5) (fx_X0_isThere _ _ rfl) rfl (c_1 _) (by decide) (Nat.le_refl _) (Nat.le_refl _) (by decide) dX8_span_5 (fun x w2 h => ?_)
  obtain ⟨rfl, rfl⟩ := h
  refine R_ifne (pc := 8) 14 dX8_span_8 (by decide) (fun h => absurd (by decide) h) (fun _ => ?_)
  refine R_bipush (pc := 11) (v := (-2)) dX8_span_11 (by decide) ?_
  exact R_iret (pc := 13) dX8_span_13 rfl rfl (Nat.zero_le _) (Nat.zero_le _) ⟨_, rfl, rfl, mxI _ rfl⟩
theorem dX8_view_0 : decode cX8_view 0 = .ok (.aload_n 0, 1) := by decide +kernel
theorem dX8_view_1 : decode cX8_view 1 = .ok (.getfield 10, 3) := by decide +kernel
theorem dX8_view_4 : decode cX8_view 4 = .ok (.iload_n 1, 1) := by decide +kernel
theorem dX8_view_5 : decode cX8_view 5 = .ok (.invokevirtual 90, 3) := by decide +kernel
theorem dX8_view_8 : decode cX8_view 8 = .ok (.ifCond .eq 13, 3) := by decide +kernel
theorem dX8_view_11 : decode cX8_view 11 = .ok (.iload_n 2, 1) := by decide +kernel
theorem dX8_view_12 : decode cX8_view 12 = .ok (.iconst 0, 1) := by decide +kernel
theorem dX8_view_13 : decode cX8_view 13 = .ok (.bipush 7, 2) := by decide +kernel
theorem dX8_view_15 : decode cX8_view 15 = .ok (.invokestatic 72, 3) := by decide +kernel
theorem dX8_view_18 : decode cX8_view 18 = .ok (.ifCond .ne 6, 3) := by decide +kernel
theorem dX8_view_21 : decode cX8_view 21 = .ok (.bipush (-2), 2) := by decide +kernel
theorem dX8_view_23 : decode cX8_view 23 = .ok (.ireturn, 1) := by decide +kernel
theorem dX8_view_24 : decode cX8_view 24 = .ok (.aload_n 0, 1) := by decide +kernel
theorem dX8_view_25 : decode cX8_view 25 = .ok (.getfield 44, 3) := by decide +kernel
theorem dX8_view_28 : decode cX8_view 28 = .ok (.iload_n 1, 1) := by decide +kernel
theorem dX8_view_29 : decode cX8_view 29 = .ok (.iload_n 2, 1) := by decide +kernel
theorem dX8_view_30 : decode cX8_view 30 = .ok (.invokevirtual 271, 3) := by decide +kernel
theorem dX8_view_33 : decode cX8_view 33 = .ok (.ifCond .eq 6, 3) := by decide +kernel
theorem dX8_view_36 : decode cX8_view 36 = .ok (.bipush (-4), 2) := by decide +kernel
theorem dX8_view_38 : decode cX8_view 38 = .ok (.ireturn, 1) := by decide +kernel
theorem dX8_view_39 : decode cX8_view 39 = .ok (.aload_n 0, 1) := by decide +kernel
theorem dX8_view_40 : decode cX8_view 40 = .ok (.getfield 44, 3) := by decide +kernel
theorem dX8_view_43 : decode cX8_view 43 = .ok (.getfield 274, 3) := by decide +kernel
theorem dX8_view_46 : decode cX8_view 46 = .ok (.iload_n 1, 1) := by decide +kernel
theorem dX8_view_47 : decode cX8_view 47 = .ok (.iaload, 1) := by decide +kernel
theorem dX8_view_48 : decode cX8_view 48 = .ok (.iconst 5, 1) := by decide +kernel
theorem dX8_view_49 : decode cX8_view 49 = .ok (.if_icmp .lt 6, 3) := by decide +kernel
theorem dX8_view_52 : decode cX8_view 52 = .ok (.bipush (-5), 2) := by decide +kernel
theorem dX8_view_54 : decode cX8_view 54 = .ok (.ireturn, 1) := by decide +kernel
theorem dX8_view_55 : decode cX8_view 55 = .ok (.aload_n 0, 1) := by decide +kernel
theorem dX8_view_56 : decode cX8_view 56 = .ok (.getfield 44, 3) := by decide +kernel
theorem dX8_view_59 : decode cX8_view 59 = .ok (.getfield 277, 3) := by decide +kernel
theorem dX8_view_62 : decode cX8_view 62 = .ok (.iload_n 1, 1) := by decide +kernel
theorem dX8_view_63 : decode cX8_view 63 = .ok (.aaload, 1) := by decide +kernel
theorem dX8_view_64 : decode cX8_view 64 = .ok (.aload_n 0, 1) := by decide +kernel
theorem dX8_view_65 : decode cX8_view 65 = .ok (.getfield 44, 3) := by decide +kernel
theorem dX8_view_68 : decode cX8_view 68 = .ok (.getfield 274, 3) := by decide +kernel
theorem dX8_view_71 : decode cX8_view 71 = .ok (.iload_n 1, 1) := by decide +kernel
theorem dX8_view_72 : decode cX8_view 72 = .ok (.iaload, 1) := by decide +kernel
theorem dX8_view_73 : decode cX8_view 73 = .ok (.iload_n 2, 1) := by decide +kernel
theorem dX8_view_74 : decode cX8_view 74 = .ok (.iastore, 1) := by decide +kernel
theorem dX8_view_75 : decode cX8_view 75 = .ok (.aload_n 0, 1) := by decide +kernel
theorem dX8_view_76 : decode cX8_view 76 = .ok (.getfield 44, 3) := by decide +kernel
theorem dX8_view_79 : decode cX8_view 79 = .ok (.getfield 274, 3) := by decide +kernel
theorem dX8_view_82 : decode cX8_view 82 = .ok (.iload_n 1, 1) := by decide +kernel
theorem dX8_view_83 : decode cX8_view 83 = .ok (.dup2, 1) := by decide +kernel
theorem dX8_view_84 : decode cX8_view 84 = .ok (.iaload, 1) := by decide +kernel
theorem dX8_view_85 : decode cX8_view 85 = .ok (.iconst 1, 1) := by decide +kernel
theorem dX8_view_86 : decode cX8_view 86 = .ok (.iadd, 1) := by decide +kernel
theorem dX8_view_87 : decode cX8_view 87 = .ok (.iastore, 1) := by decide +kernel
theorem dX8_view_88 : decode cX8_view 88 = .ok (.aload_n 0, 1) := by decide +kernel
theorem dX8_view_89 : decode cX8_view 89 = .ok (.getfield 44, 3) := by decide +kernel
theorem dX8_view_92 : decode cX8_view 92 = .ok (.getfield 274, 3) := by decide +kernel
theorem dX8_view_95 : decode cX8_view 95 = .ok (.iload_n 1, 1) := by decide +kernel
theorem dX8_view_96 : decode cX8_view 96 = .ok (.iaload, 1) := by decide +kernel
theorem dX8_view_97 : decode cX8_view 97 = .ok (.ireturn, 1) := by decide +kernel
set_option maxRecDepth 100000 in
set_option maxHeartbeats 40000000 in
theorem fp_view {G : vG} {l : Launch} (a b : Int32) : Sp G l yX8_view cX8_view 3 (some .int) 1 0 0 [.ref 0, .int a, .int b] (WW σF) (QI (fun x w2 => x = -2 ∧ ∃ τ, w2 = WW (mx τ))) := by
  refine Sp_of_R [(some (.ref 0)), (some (.int a)), (some (.int b))] [] rfl (by simp) rfl (Nat.le_of_ble_eq_true rfl) ?_
  refine R_aload_n (pc := 0) dX8_view_0 rfl rfl ?_
  refine g_X8_10 (pc := 1) (v := .ref 1) rfl dX8_view_1 (c_0 _) rfl ?_
  refine R_iload_n (pc := 4) dX8_view_4 rfl rfl ?_
  refine k_X8_90 (pc := 5) (fx_X0_isThere _ _ rfl) rfl (c_1 _) (by decide) (Nat.le_refl _) (Nat.le_refl _) (by decide) dX8_view_5 (fun x w2 h => ?_)
  obtain ⟨rfl, rfl⟩ := h
  refine R_ifeq (pc := 8) 21 dX8_view_8 (by decide) (fun _ => ?_) (fun h => absurd (by decide) h)
  refine R_bipush (pc := 21) (v := (-2)) dX8_view_21 (by decide) ?_
  exact R_iret (pc := 23) dX8_view_23 rfl rfl (Nat.zero_le _) (Nat.zero_le _) ⟨_, rfl, rfl, mxI _ rfl⟩
theorem dX8_unview_0 : decode cX8_unview 0 = .ok (.aload_n 0, 1) := by decide +kernel
theorem dX8_unview_1 : decode cX8_unview 1 = .ok (.getfield 10, 3) := by decide +kernel
theorem dX8_unview_4 : decode cX8_unview 4 = .ok (.iload_n 1, 1) := by decide +kernel
theorem dX8_unview_5 : decode cX8_unview 5 = .ok (.invokevirtual 90, 3) := by decide +kernel
theorem dX8_unview_8 : decode cX8_unview 8 = .ok (.ifCond .ne 6, 3) := by decide +kernel
theorem dX8_unview_11 : decode cX8_unview 11 = .ok (.bipush (-2), 2) := by decide +kernel
theorem dX8_unview_13 : decode cX8_unview 13 = .ok (.ireturn, 1) := by decide +kernel
theorem dX8_unview_14 : decode cX8_unview 14 = .ok (.aload_n 0, 1) := by decide +kernel
theorem dX8_unview_15 : decode cX8_unview 15 = .ok (.getfield 44, 3) := by decide +kernel
theorem dX8_unview_18 : decode cX8_unview 18 = .ok (.getfield 274, 3) := by decide +kernel
theorem dX8_unview_21 : decode cX8_unview 21 = .ok (.iload_n 1, 1) := by decide +kernel
theorem dX8_unview_22 : decode cX8_unview 22 = .ok (.iaload, 1) := by decide +kernel
theorem dX8_unview_23 : decode cX8_unview 23 = .ok (.istore_n 2, 1) := by decide +kernel
theorem dX8_unview_24 : decode cX8_unview 24 = .ok (.aload_n 0, 1) := by decide +kernel
theorem dX8_unview_25 : decode cX8_unview 25 = .ok (.getfield 44, 3) := by decide +kernel
theorem dX8_unview_28 : decode cX8_unview 28 = .ok (.getfield 274, 3) := by decide +kernel
theorem dX8_unview_31 : decode cX8_unview 31 = .ok (.iload_n 1, 1) := by decide +kernel
theorem dX8_unview_32 : decode cX8_unview 32 = .ok (.iconst 0, 1) := by decide +kernel
theorem dX8_unview_33 : decode cX8_unview 33 = .ok (.iastore, 1) := by decide +kernel
theorem dX8_unview_34 : decode cX8_unview 34 = .ok (.iload_n 2, 1) := by decide +kernel
theorem dX8_unview_35 : decode cX8_unview 35 = .ok (.ireturn, 1) := by decide +kernel
set_option maxRecDepth 100000 in
set_option maxHeartbeats 40000000 in
theorem fp_unview {G : vG} {l : Launch} (a : Int32) : Sp G l yX8_unview cX8_unview 3 (some .int) 1 0 0 [.ref 0, .int a] (WW σF) (QI (fun x w2 => x = -2 ∧ ∃ τ, w2 = WW (mx τ))) := by
  refine Sp_of_R [(some (.ref 0)), (some (.int a)), none] [none] rfl (by simp) rfl (Nat.le_of_ble_eq_true rfl) ?_
  refine R_aload_n (pc := 0) dX8_unview_0 rfl rfl ?_
  refine g_X8_10 (pc := 1) (v := .ref 1) rfl dX8_unview_1 (c_0 _) rfl ?_
  refine R_iload_n (pc := 4) dX8_unview_4 rfl rfl ?_
  refine k_X8_90 (pc := 5) (fx_X0_isThere _ _ rfl) rfl (c_1 _) (by decide) (Nat.le_refl _) (Nat.le_refl _) (by decide) dX8_unview_5 (fun x w2 h => ?_)
  obtain ⟨rfl, rfl⟩ := h
  refine R_ifne (pc := 8) 14 dX8_unview_8 (by decide) (fun h => absurd (by decide) h) (fun _ => ?_)
  refine R_bipush (pc := 11) (v := (-2)) dX8_unview_11 (by decide) ?_
  exact R_iret (pc := 13) dX8_unview_13 rfl rfl (Nat.zero_le _) (Nat.zero_le _) ⟨_, rfl, rfl, mxI _ rfl⟩
theorem dX8_together_0 : decode cX8_together 0 = .ok (.aload_n 0, 1) := by decide +kernel
theorem dX8_together_1 : decode cX8_together 1 = .ok (.getfield 10, 3) := by decide +kernel
theorem dX8_together_4 : decode cX8_together 4 = .ok (.iload_n 1, 1) := by decide +kernel
theorem dX8_together_5 : decode cX8_together 5 = .ok (.invokevirtual 90, 3) := by decide +kernel
theorem dX8_together_8 : decode cX8_together 8 = .ok (.ifCond .ne 6, 3) := by decide +kernel
theorem dX8_together_11 : decode cX8_together 11 = .ok (.bipush (-2), 2) := by decide +kernel
theorem dX8_together_13 : decode cX8_together 13 = .ok (.ireturn, 1) := by decide +kernel
theorem dX8_together_14 : decode cX8_together 14 = .ok (.aload_n 0, 1) := by decide +kernel
theorem dX8_together_15 : decode cX8_together 15 = .ok (.getfield 21, 3) := by decide +kernel
theorem dX8_together_18 : decode cX8_together 18 = .ok (.iload_n 1, 1) := by decide +kernel
theorem dX8_together_19 : decode cX8_together 19 = .ok (.aload_n 0, 1) := by decide +kernel
theorem dX8_together_20 : decode cX8_together 20 = .ok (.getfield 10, 3) := by decide +kernel
theorem dX8_together_23 : decode cX8_together 23 = .ok (.invokevirtual 126, 3) := by decide +kernel
theorem dX8_together_26 : decode cX8_together 26 = .ok (.invokevirtual 130, 3) := by decide +kernel
theorem dX8_together_29 : decode cX8_together 29 = .ok (.istore_n 2, 1) := by decide +kernel
theorem dX8_together_30 : decode cX8_together 30 = .ok (.ldc2_w 284, 3) := by decide +kernel
theorem dX8_together_33 : decode cX8_together 33 = .ok (.lstore_n 3, 1) := by decide +kernel
theorem dX8_together_34 : decode cX8_together 34 = .ok (.iconst 0, 1) := by decide +kernel
theorem dX8_together_35 : decode cX8_together 35 = .ok (.istore 5, 2) := by decide +kernel
theorem dX8_together_37 : decode cX8_together 37 = .ok (.iload 5, 2) := by decide +kernel
theorem dX8_together_39 : decode cX8_together 39 = .ok (.bipush 20, 2) := by decide +kernel
theorem dX8_together_41 : decode cX8_together 41 = .ok (.if_icmp .ge 43, 3) := by decide +kernel
theorem dX8_together_44 : decode cX8_together 44 = .ok (.iload_n 2, 1) := by decide +kernel
theorem dX8_together_45 : decode cX8_together 45 = .ok (.iload 5, 2) := by decide +kernel
theorem dX8_together_47 : decode cX8_together 47 = .ok (.invokestatic 209, 3) := by decide +kernel
theorem dX8_together_50 : decode cX8_together 50 = .ok (.ifCond .eq 28, 3) := by decide +kernel
theorem dX8_together_53 : decode cX8_together 53 = .ok (.aload_n 0, 1) := by decide +kernel
theorem dX8_together_54 : decode cX8_together 54 = .ok (.getfield 44, 3) := by decide +kernel
theorem dX8_together_57 : decode cX8_together 57 = .ok (.getfield 274, 3) := by decide +kernel
theorem dX8_together_60 : decode cX8_together 60 = .ok (.iload 5, 2) := by decide +kernel
theorem dX8_together_62 : decode cX8_together 62 = .ok (.iaload, 1) := by decide +kernel
theorem dX8_together_63 : decode cX8_together 63 = .ok (.ifCond .le 15, 3) := by decide +kernel
theorem dX8_together_66 : decode cX8_together 66 = .ok (.lload_n 3, 1) := by decide +kernel
theorem dX8_together_67 : decode cX8_together 67 = .ok (.aload_n 0, 1) := by decide +kernel
theorem dX8_together_68 : decode cX8_together 68 = .ok (.getfield 44, 3) := by decide +kernel
theorem dX8_together_71 : decode cX8_together 71 = .ok (.iload 5, 2) := by decide +kernel
theorem dX8_together_73 : decode cX8_together 73 = .ok (.invokevirtual 280, 3) := by decide +kernel
theorem dX8_together_76 : decode cX8_together 76 = .ok (.land, 1) := by decide +kernel
theorem dX8_together_77 : decode cX8_together 77 = .ok (.lstore_n 3, 1) := by decide +kernel
theorem dX8_together_78 : decode cX8_together 78 = .ok (.iinc 5 1, 3) := by decide +kernel
theorem dX8_together_81 : decode cX8_together 81 = .ok (.goto (-44), 3) := by decide +kernel
theorem dX8_together_84 : decode cX8_together 84 = .ok (.lload_n 3, 1) := by decide +kernel
theorem dX8_together_85 : decode cX8_together 85 = .ok (.invokestatic 286, 3) := by decide +kernel
theorem dX8_together_88 : decode cX8_together 88 = .ok (.ireturn, 1) := by decide +kernel
set_option maxRecDepth 100000 in
set_option maxHeartbeats 40000000 in
theorem fp_together {G : vG} {l : Launch} (a : Int32) : Sp G l yX8_together cX8_together 6 (some .int) 4 0 0 [.ref 0, .int a] (WW σF) (QI (fun x w2 => x = -2 ∧ ∃ τ, w2 = WW (mx τ))) := by
  refine Sp_of_R [(some (.ref 0)), (some (.int a)), none, none, none, none] [none, none, none, none] rfl (by simp) rfl (Nat.le_of_ble_eq_true rfl) ?_
  refine R_aload_n (pc := 0) dX8_together_0 rfl rfl ?_
  refine g_X8_10 (pc := 1) (v := .ref 1) rfl dX8_together_1 (c_0 _) rfl ?_
  refine R_iload_n (pc := 4) dX8_together_4 rfl rfl ?_
  refine k_X8_90 (pc := 5) (fx_X0_isThere _ _ rfl) rfl (c_1 _) (by decide) (Nat.le_refl _) (Nat.le_refl _) (by decide) dX8_together_5 (fun x w2 h => ?_)
  obtain ⟨rfl, rfl⟩ := h
  refine R_ifne (pc := 8) 14 dX8_together_8 (by decide) (fun h => absurd (by decide) h) (fun _ => ?_)
  refine R_bipush (pc := 11) (v := (-2)) dX8_together_11 (by decide) ?_
  exact R_iret (pc := 13) dX8_together_13 rfl rfl (Nat.zero_le _) (Nat.zero_le _) ⟨_, rfl, rfl, mxI _ rfl⟩
theorem dX8_caption_0 : decode cX8_caption 0 = .ok (.aload_n 0, 1) := by decide +kernel
theorem dX8_caption_1 : decode cX8_caption 1 = .ok (.getfield 10, 3) := by decide +kernel
theorem dX8_caption_4 : decode cX8_caption 4 = .ok (.iload_n 1, 1) := by decide +kernel
theorem dX8_caption_5 : decode cX8_caption 5 = .ok (.invokevirtual 90, 3) := by decide +kernel
theorem dX8_caption_8 : decode cX8_caption 8 = .ok (.ifCond .ne 6, 3) := by decide +kernel
theorem dX8_caption_11 : decode cX8_caption 11 = .ok (.bipush (-2), 2) := by decide +kernel
theorem dX8_caption_13 : decode cX8_caption 13 = .ok (.ireturn, 1) := by decide +kernel
theorem dX8_caption_14 : decode cX8_caption 14 = .ok (.iload 4, 2) := by decide +kernel
theorem dX8_caption_16 : decode cX8_caption 16 = .ok (.iconst 0, 1) := by decide +kernel
theorem dX8_caption_17 : decode cX8_caption 17 = .ok (.bipush 8, 2) := by decide +kernel
theorem dX8_caption_19 : decode cX8_caption 19 = .ok (.invokestatic 72, 3) := by decide +kernel
theorem dX8_caption_22 : decode cX8_caption 22 = .ok (.ifCond .ne 6, 3) := by decide +kernel
theorem dX8_caption_25 : decode cX8_caption 25 = .ok (.bipush (-3), 2) := by decide +kernel
theorem dX8_caption_27 : decode cX8_caption 27 = .ok (.ireturn, 1) := by decide +kernel
theorem dX8_caption_28 : decode cX8_caption 28 = .ok (.iconst 0, 1) := by decide +kernel
theorem dX8_caption_29 : decode cX8_caption 29 = .ok (.istore 5, 2) := by decide +kernel
theorem dX8_caption_31 : decode cX8_caption 31 = .ok (.iload 5, 2) := by decide +kernel
theorem dX8_caption_33 : decode cX8_caption 33 = .ok (.iload 4, 2) := by decide +kernel
theorem dX8_caption_35 : decode cX8_caption 35 = .ok (.if_icmp .ge 24, 3) := by decide +kernel
theorem dX8_caption_38 : decode cX8_caption 38 = .ok (.lload_n 2, 1) := by decide +kernel
theorem dX8_caption_39 : decode cX8_caption 39 = .ok (.iload 5, 2) := by decide +kernel
theorem dX8_caption_41 : decode cX8_caption 41 = .ok (.invokestatic 94, 3) := by decide +kernel
theorem dX8_caption_44 : decode cX8_caption 44 = .ok (.invokestatic 98, 3) := by decide +kernel
theorem dX8_caption_47 : decode cX8_caption 47 = .ok (.ifCond .ne 6, 3) := by decide +kernel
theorem dX8_caption_50 : decode cX8_caption 50 = .ok (.bipush (-3), 2) := by decide +kernel
theorem dX8_caption_52 : decode cX8_caption 52 = .ok (.ireturn, 1) := by decide +kernel
theorem dX8_caption_53 : decode cX8_caption 53 = .ok (.iinc 5 1, 3) := by decide +kernel
theorem dX8_caption_56 : decode cX8_caption 56 = .ok (.goto (-25), 3) := by decide +kernel
theorem dX8_caption_59 : decode cX8_caption 59 = .ok (.aload_n 0, 1) := by decide +kernel
theorem dX8_caption_60 : decode cX8_caption 60 = .ok (.getfield 10, 3) := by decide +kernel
theorem dX8_caption_63 : decode cX8_caption 63 = .ok (.getfield 101, 3) := by decide +kernel
theorem dX8_caption_66 : decode cX8_caption 66 = .ok (.iload_n 1, 1) := by decide +kernel
theorem dX8_caption_67 : decode cX8_caption 67 = .ok (.lload_n 2, 1) := by decide +kernel
theorem dX8_caption_68 : decode cX8_caption 68 = .ok (.lastore, 1) := by decide +kernel
theorem dX8_caption_69 : decode cX8_caption 69 = .ok (.aload_n 0, 1) := by decide +kernel
theorem dX8_caption_70 : decode cX8_caption 70 = .ok (.getfield 10, 3) := by decide +kernel
theorem dX8_caption_73 : decode cX8_caption 73 = .ok (.getfield 105, 3) := by decide +kernel
theorem dX8_caption_76 : decode cX8_caption 76 = .ok (.iload_n 1, 1) := by decide +kernel
theorem dX8_caption_77 : decode cX8_caption 77 = .ok (.iload 4, 2) := by decide +kernel
theorem dX8_caption_79 : decode cX8_caption 79 = .ok (.iastore, 1) := by decide +kernel
theorem dX8_caption_80 : decode cX8_caption 80 = .ok (.aload_n 0, 1) := by decide +kernel
theorem dX8_caption_81 : decode cX8_caption 81 = .ok (.getfield 21, 3) := by decide +kernel
theorem dX8_caption_84 : decode cX8_caption 84 = .ok (.iload_n 1, 1) := by decide +kernel
theorem dX8_caption_85 : decode cX8_caption 85 = .ok (.invokevirtual 87, 3) := by decide +kernel
theorem dX8_caption_88 : decode cX8_caption 88 = .ok (.iconst 1, 1) := by decide +kernel
theorem dX8_caption_89 : decode cX8_caption 89 = .ok (.ireturn, 1) := by decide +kernel
set_option maxRecDepth 100000 in
set_option maxHeartbeats 40000000 in
theorem fp_caption {G : vG} {l : Launch} (a : Int32) (b : Int64) (c : Int32) : Sp G l yX8_caption cX8_caption 6 (some .int) 3 0 0 [.ref 0, .int a, .long b, .int c] (WW σF) (QI (fun x w2 => x = -2 ∧ ∃ τ, w2 = WW (mx τ))) := by
  refine Sp_of_R [(some (.ref 0)), (some (.int a)), (some (.long b)), none, (some (.int c)), none] [none] rfl (by simp) rfl (Nat.le_of_ble_eq_true rfl) ?_
  refine R_aload_n (pc := 0) dX8_caption_0 rfl rfl ?_
  refine g_X8_10 (pc := 1) (v := .ref 1) rfl dX8_caption_1 (c_0 _) rfl ?_
  refine R_iload_n (pc := 4) dX8_caption_4 rfl rfl ?_
  refine k_X8_90 (pc := 5) (fx_X0_isThere _ _ rfl) rfl (c_1 _) (by decide) (Nat.le_refl _) (Nat.le_refl _) (by decide) dX8_caption_5 (fun x w2 h => ?_)
  obtain ⟨rfl, rfl⟩ := h
  refine R_ifne (pc := 8) 14 dX8_caption_8 (by decide) (fun h => absurd (by decide) h) (fun _ => ?_)
  refine R_bipush (pc := 11) (v := (-2)) dX8_caption_11 (by decide) ?_
  exact R_iret (pc := 13) dX8_caption_13 rfl rfl (Nat.zero_le _) (Nat.zero_le _) ⟨_, rfl, rfl, mxI _ rfl⟩
theorem dX8_breaks_0 : decode cX8_breaks 0 = .ok (.iload_n 1, 1) := by decide +kernel
theorem dX8_breaks_1 : decode cX8_breaks 1 = .ok (.iconst 0, 1) := by decide +kernel
theorem dX8_breaks_2 : decode cX8_breaks 2 = .ok (.aload_n 0, 1) := by decide +kernel
theorem dX8_breaks_3 : decode cX8_breaks 3 = .ok (.getfield 62, 3) := by decide +kernel
theorem dX8_breaks_6 : decode cX8_breaks 6 = .ok (.getfield 299, 3) := by decide +kernel
theorem dX8_breaks_9 : decode cX8_breaks 9 = .ok (.iconst 1, 1) := by decide +kernel
theorem dX8_breaks_10 : decode cX8_breaks 10 = .ok (.isub, 1) := by decide +kernel
theorem dX8_breaks_11 : decode cX8_breaks 11 = .ok (.invokestatic 72, 3) := by decide +kernel
theorem dX8_breaks_14 : decode cX8_breaks 14 = .ok (.ifCond .ne 6, 3) := by decide +kernel
theorem dX8_breaks_17 : decode cX8_breaks 17 = .ok (.bipush (-2), 2) := by decide +kernel
theorem dX8_breaks_19 : decode cX8_breaks 19 = .ok (.ireturn, 1) := by decide +kernel
theorem dX8_breaks_20 : decode cX8_breaks 20 = .ok (.aload_n 0, 1) := by decide +kernel
theorem dX8_breaks_21 : decode cX8_breaks 21 = .ok (.getfield 10, 3) := by decide +kernel
theorem dX8_breaks_24 : decode cX8_breaks 24 = .ok (.invokevirtual 126, 3) := by decide +kernel
theorem dX8_breaks_27 : decode cX8_breaks 27 = .ok (.istore_n 2, 1) := by decide +kernel
theorem dX8_breaks_28 : decode cX8_breaks 28 = .ok (.aload_n 0, 1) := by decide +kernel
theorem dX8_breaks_29 : decode cX8_breaks 29 = .ok (.getfield 62, 3) := by decide +kernel
theorem dX8_breaks_32 : decode cX8_breaks 32 = .ok (.getfield 300, 3) := by decide +kernel
theorem dX8_breaks_35 : decode cX8_breaks 35 = .ok (.iload_n 1, 1) := by decide +kernel
theorem dX8_breaks_36 : decode cX8_breaks 36 = .ok (.baload, 1) := by decide +kernel
theorem dX8_breaks_37 : decode cX8_breaks 37 = .ok (.istore_n 3, 1) := by decide +kernel
theorem dX8_breaks_38 : decode cX8_breaks 38 = .ok (.iload_n 3, 1) := by decide +kernel
theorem dX8_breaks_39 : decode cX8_breaks 39 = .ok (.ifCond .eq 21, 3) := by decide +kernel
theorem dX8_breaks_42 : decode cX8_breaks 42 = .ok (.aload_n 0, 1) := by decide +kernel
theorem dX8_breaks_43 : decode cX8_breaks 43 = .ok (.getfield 37, 3) := by decide +kernel
theorem dX8_breaks_46 : decode cX8_breaks 46 = .ok (.iload_n 2, 1) := by decide +kernel
theorem dX8_breaks_47 : decode cX8_breaks 47 = .ok (.aload_n 0, 1) := by decide +kernel
theorem dX8_breaks_48 : decode cX8_breaks 48 = .ok (.getfield 58, 3) := by decide +kernel
theorem dX8_breaks_51 : decode cX8_breaks 51 = .ok (.invokevirtual 242, 3) := by decide +kernel
theorem dX8_breaks_54 : decode cX8_breaks 54 = .ok (.ifCond .ne 6, 3) := by decide +kernel
theorem dX8_breaks_57 : decode cX8_breaks 57 = .ok (.bipush (-4), 2) := by decide +kernel
theorem dX8_breaks_59 : decode cX8_breaks 59 = .ok (.ireturn, 1) := by decide +kernel
theorem dX8_breaks_60 : decode cX8_breaks 60 = .ok (.iconst 0, 1) := by decide +kernel
theorem dX8_breaks_61 : decode cX8_breaks 61 = .ok (.istore 4, 2) := by decide +kernel
theorem dX8_breaks_63 : decode cX8_breaks 63 = .ok (.iconst 0, 1) := by decide +kernel
theorem dX8_breaks_64 : decode cX8_breaks 64 = .ok (.istore 5, 2) := by decide +kernel
theorem dX8_breaks_66 : decode cX8_breaks 66 = .ok (.iload 5, 2) := by decide +kernel
theorem dX8_breaks_68 : decode cX8_breaks 68 = .ok (.bipush 20, 2) := by decide +kernel
theorem dX8_breaks_70 : decode cX8_breaks 70 = .ok (.if_icmp .ge 126, 3) := by decide +kernel
theorem dX8_breaks_73 : decode cX8_breaks 73 = .ok (.iload_n 2, 1) := by decide +kernel
theorem dX8_breaks_74 : decode cX8_breaks 74 = .ok (.iload 5, 2) := by decide +kernel
theorem dX8_breaks_76 : decode cX8_breaks 76 = .ok (.invokestatic 209, 3) := by decide +kernel
theorem dX8_breaks_79 : decode cX8_breaks 79 = .ok (.ifCond .eq 111, 3) := by decide +kernel
theorem dX8_breaks_82 : decode cX8_breaks 82 = .ok (.aload_n 0, 1) := by decide +kernel
theorem dX8_breaks_83 : decode cX8_breaks 83 = .ok (.getfield 62, 3) := by decide +kernel
theorem dX8_breaks_86 : decode cX8_breaks 86 = .ok (.iload_n 1, 1) := by decide +kernel
theorem dX8_breaks_87 : decode cX8_breaks 87 = .ok (.aload_n 0, 1) := by decide +kernel
theorem dX8_breaks_88 : decode cX8_breaks 88 = .ok (.getfield 10, 3) := by decide +kernel
theorem dX8_breaks_91 : decode cX8_breaks 91 = .ok (.getfield 172, 3) := by decide +kernel
theorem dX8_breaks_94 : decode cX8_breaks 94 = .ok (.iload 5, 2) := by decide +kernel
theorem dX8_breaks_96 : decode cX8_breaks 96 = .ok (.iaload, 1) := by decide +kernel
theorem dX8_breaks_97 : decode cX8_breaks 97 = .ok (.aload_n 0, 1) := by decide +kernel
theorem dX8_breaks_98 : decode cX8_breaks 98 = .ok (.getfield 10, 3) := by decide +kernel
theorem dX8_breaks_101 : decode cX8_breaks 101 = .ok (.getfield 178, 3) := by decide +kernel
theorem dX8_breaks_104 : decode cX8_breaks 104 = .ok (.iload 5, 2) := by decide +kernel
theorem dX8_breaks_106 : decode cX8_breaks 106 = .ok (.iaload, 1) := by decide +kernel
theorem dX8_breaks_107 : decode cX8_breaks 107 = .ok (.invokevirtual 304, 3) := by decide +kernel
theorem dX8_breaks_110 : decode cX8_breaks 110 = .ok (.ifCond .eq 80, 3) := by decide +kernel
theorem dX8_breaks_113 : decode cX8_breaks 113 = .ok (.iload_n 3, 1) := by decide +kernel
theorem dX8_breaks_114 : decode cX8_breaks 114 = .ok (.ifCond .eq 33, 3) := by decide +kernel
theorem dX8_breaks_117 : decode cX8_breaks 117 = .ok (.aload_n 0, 1) := by decide +kernel
theorem dX8_breaks_118 : decode cX8_breaks 118 = .ok (.getfield 37, 3) := by decide +kernel
theorem dX8_breaks_121 : decode cX8_breaks 121 = .ok (.iload 5, 2) := by decide +kernel
theorem dX8_breaks_123 : decode cX8_breaks 123 = .ok (.aload_n 0, 1) := by decide +kernel
theorem dX8_breaks_124 : decode cX8_breaks 124 = .ok (.getfield 62, 3) := by decide +kernel
theorem dX8_breaks_127 : decode cX8_breaks 127 = .ok (.getfield 307, 3) := by decide +kernel
theorem dX8_breaks_130 : decode cX8_breaks 130 = .ok (.iload_n 1, 1) := by decide +kernel
theorem dX8_breaks_131 : decode cX8_breaks 131 = .ok (.iaload, 1) := by decide +kernel
theorem dX8_breaks_132 : decode cX8_breaks 132 = .ok (.aload_n 0, 1) := by decide +kernel
theorem dX8_breaks_133 : decode cX8_breaks 133 = .ok (.getfield 62, 3) := by decide +kernel
theorem dX8_breaks_136 : decode cX8_breaks 136 = .ok (.getfield 310, 3) := by decide +kernel
theorem dX8_breaks_139 : decode cX8_breaks 139 = .ok (.iload_n 1, 1) := by decide +kernel
theorem dX8_breaks_140 : decode cX8_breaks 140 = .ok (.iaload, 1) := by decide +kernel
theorem dX8_breaks_141 : decode cX8_breaks 141 = .ok (.invokevirtual 313, 3) := by decide +kernel
theorem dX8_breaks_144 : decode cX8_breaks 144 = .ok (.goto 30, 3) := by decide +kernel
theorem dX8_breaks_147 : decode cX8_breaks 147 = .ok (.aload_n 0, 1) := by decide +kernel
theorem dX8_breaks_148 : decode cX8_breaks 148 = .ok (.getfield 10, 3) := by decide +kernel
theorem dX8_breaks_151 : decode cX8_breaks 151 = .ok (.getfield 316, 3) := by decide +kernel
theorem dX8_breaks_154 : decode cX8_breaks 154 = .ok (.iload 5, 2) := by decide +kernel
theorem dX8_breaks_156 : decode cX8_breaks 156 = .ok (.iaload, 1) := by decide +kernel
theorem dX8_breaks_157 : decode cX8_breaks 157 = .ok (.aload_n 0, 1) := by decide +kernel
theorem dX8_breaks_158 : decode cX8_breaks 158 = .ok (.getfield 62, 3) := by decide +kernel
theorem dX8_breaks_161 : decode cX8_breaks 161 = .ok (.getfield 307, 3) := by decide +kernel
theorem dX8_breaks_164 : decode cX8_breaks 164 = .ok (.iload_n 1, 1) := by decide +kernel
theorem dX8_breaks_165 : decode cX8_breaks 165 = .ok (.iaload, 1) := by decide +kernel
theorem dX8_breaks_166 : decode cX8_breaks 166 = .ok (.if_icmp .ne 7, 3) := by decide +kernel
theorem dX8_breaks_169 : decode cX8_breaks 169 = .ok (.iconst 1, 1) := by decide +kernel
theorem dX8_breaks_170 : decode cX8_breaks 170 = .ok (.goto 4, 3) := by decide +kernel
theorem dX8_breaks_173 : decode cX8_breaks 173 = .ok (.iconst 0, 1) := by decide +kernel
theorem dX8_breaks_174 : decode cX8_breaks 174 = .ok (.istore 6, 2) := by decide +kernel
theorem dX8_breaks_176 : decode cX8_breaks 176 = .ok (.iload 6, 2) := by decide +kernel
theorem dX8_breaks_178 : decode cX8_breaks 178 = .ok (.ifCond .ne 12, 3) := by decide +kernel
theorem dX8_breaks_181 : decode cX8_breaks 181 = .ok (.iload 4, 2) := by decide +kernel
theorem dX8_breaks_183 : decode cX8_breaks 183 = .ok (.iconst 1, 1) := by decide +kernel
theorem dX8_breaks_184 : decode cX8_breaks 184 = .ok (.iload 5, 2) := by decide +kernel
theorem dX8_breaks_186 : decode cX8_breaks 186 = .ok (.ishl, 1) := by decide +kernel
theorem dX8_breaks_187 : decode cX8_breaks 187 = .ok (.ior, 1) := by decide +kernel
theorem dX8_breaks_188 : decode cX8_breaks 188 = .ok (.istore 4, 2) := by decide +kernel
theorem dX8_breaks_190 : decode cX8_breaks 190 = .ok (.iinc 5 1, 3) := by decide +kernel
theorem dX8_breaks_193 : decode cX8_breaks 193 = .ok (.goto (-127), 3) := by decide +kernel
theorem dX8_breaks_196 : decode cX8_breaks 196 = .ok (.iload 4, 2) := by decide +kernel
theorem dX8_breaks_198 : decode cX8_breaks 198 = .ok (.ireturn, 1) := by decide +kernel
set_option maxRecDepth 100000 in
set_option maxHeartbeats 40000000 in
theorem fp_breaks {G : vG} {l : Launch} (i : Int32) : Sp G l yX8_breaks cX8_breaks 7 (some .int) 6 0 0 [.ref 0, .int i] (WW σF) (QI (fun x w2 => x = -2 ∧ ∃ τ, w2 = WW (mx τ))) := by
  refine Sp_of_R [(some (.ref 0)), (some (.int i)), none, none, none, none, none] [none, none, none, none, none] rfl (by simp) rfl (Nat.le_of_ble_eq_true rfl) ?_
  refine R_iload_n (pc := 0) dX8_breaks_0 rfl rfl ?_
  refine R_iconst (pc := 1) (v := 0) dX8_breaks_1 (by decide) ?_
  refine R_aload_n (pc := 2) dX8_breaks_2 rfl rfl ?_
  refine g_X8_62 (pc := 3) (v := .ref 126) rfl dX8_breaks_3 (c_0 _) rfl ?_
  refine g_X8_299 (pc := 6) (v := .int 0) rfl dX8_breaks_6 (c_126 _) rfl ?_
  refine R_iconst (pc := 9) (v := 1) dX8_breaks_9 (by decide) ?_
  refine R_isub (pc := 10) dX8_breaks_10 ?_
  refine R_cv (-1) (by decide) ?_
  refine k_X8_72 (pc := 11) (sp_X8_isWithin _ _ _ _) rfl (by decide) (Nat.le_refl _) (Nat.le_refl _) (by decide) dX8_breaks_11 (fun x w2 h => ?_)
  obtain ⟨rfl, h⟩ := h
  rcases h with ⟨h, -⟩ | ⟨-, rfl⟩
  · exact absurd h (inR_no _)
  refine R_ifne (pc := 14) 20 dX8_breaks_14 (by decide) (fun h => absurd (by decide) h) (fun _ => ?_)
  refine R_bipush (pc := 17) (v := (-2)) dX8_breaks_17 (by decide) ?_
  exact R_iret (pc := 19) dX8_breaks_19 rfl rfl (Nat.zero_le _) (Nat.zero_le _) ⟨_, rfl, rfl, mxI _ rfl⟩
theorem dX8_stood_0 : decode cX8_stood 0 = .ok (.aload_n 0, 1) := by decide +kernel
theorem dX8_stood_1 : decode cX8_stood 1 = .ok (.getfield 10, 3) := by decide +kernel
theorem dX8_stood_4 : decode cX8_stood 4 = .ok (.iload_n 1, 1) := by decide +kernel
theorem dX8_stood_5 : decode cX8_stood 5 = .ok (.invokevirtual 90, 3) := by decide +kernel
theorem dX8_stood_8 : decode cX8_stood 8 = .ok (.ifCond .eq 14, 3) := by decide +kernel
theorem dX8_stood_11 : decode cX8_stood 11 = .ok (.aload_n 0, 1) := by decide +kernel
theorem dX8_stood_12 : decode cX8_stood 12 = .ok (.getfield 44, 3) := by decide +kernel
theorem dX8_stood_15 : decode cX8_stood 15 = .ok (.iload_n 1, 1) := by decide +kernel
theorem dX8_stood_16 : decode cX8_stood 16 = .ok (.invokevirtual 280, 3) := by decide +kernel
theorem dX8_stood_19 : decode cX8_stood 19 = .ok (.goto 4, 3) := by decide +kernel
theorem dX8_stood_22 : decode cX8_stood 22 = .ok (.lconst 0, 1) := by decide +kernel
theorem dX8_stood_23 : decode cX8_stood 23 = .ok (.lreturn, 1) := by decide +kernel
set_option maxRecDepth 100000 in
set_option maxHeartbeats 40000000 in
theorem fp_stood {G : vG} {l : Launch} (a : Int32) : Sp G l yX8_stood cX8_stood 2 (some .long) 4 0 0 [.ref 0, .int a] (WW σF) (QL (fun x w2 => x = 0 ∧ ∃ τ, w2 = WW (mx τ))) := by
  refine Sp_of_R [(some (.ref 0)), (some (.int a))] [] rfl (by simp) rfl (Nat.le_of_ble_eq_true rfl) ?_
  refine R_aload_n (pc := 0) dX8_stood_0 rfl rfl ?_
  refine g_X8_10 (pc := 1) (v := .ref 1) rfl dX8_stood_1 (c_0 _) rfl ?_
  refine R_iload_n (pc := 4) dX8_stood_4 rfl rfl ?_
  refine k_X8_90 (pc := 5) (fx_X0_isThere _ _ rfl) rfl (c_1 _) (by decide) (Nat.le_refl _) (Nat.le_refl _) (by decide) dX8_stood_5 (fun x w2 h => ?_)
  obtain ⟨rfl, rfl⟩ := h
  refine R_ifeq (pc := 8) 22 dX8_stood_8 (by decide) (fun _ => ?_) (fun h => absurd (by decide) h)
  refine R_lconst (pc := 22) (v := 0) dX8_stood_22 (by decide) ?_
  exact R_lret (pc := 23) dX8_stood_23 rfl (Nat.zero_le _) (Nat.zero_le _) ⟨_, rfl, rfl, mxI _ rfl⟩
theorem dX8_erase_0 : decode cX8_erase 0 = .ok (.aload_n 0, 1) := by decide +kernel
theorem dX8_erase_1 : decode cX8_erase 1 = .ok (.getfield 51, 3) := by decide +kernel
theorem dX8_erase_4 : decode cX8_erase 4 = .ok (.getfield 291, 3) := by decide +kernel
theorem dX8_erase_7 : decode cX8_erase 7 = .ok (.istore_n 1, 1) := by decide +kernel
theorem dX8_erase_8 : decode cX8_erase 8 = .ok (.aload_n 0, 1) := by decide +kernel
theorem dX8_erase_9 : decode cX8_erase 9 = .ok (.getfield 51, 3) := by decide +kernel
theorem dX8_erase_12 : decode cX8_erase 12 = .ok (.iconst 0, 1) := by decide +kernel
theorem dX8_erase_13 : decode cX8_erase 13 = .ok (.putfield 291, 3) := by decide +kernel
theorem dX8_erase_16 : decode cX8_erase 16 = .ok (.iload_n 1, 1) := by decide +kernel
theorem dX8_erase_17 : decode cX8_erase 17 = .ok (.ireturn, 1) := by decide +kernel
set_option maxRecDepth 100000 in
set_option maxHeartbeats 40000000 in
theorem fp_erase {G : vG} {l : Launch}  : Sp G l yX8_erase cX8_erase 2 (some .int) 0 0 0 [.ref 0] (WW σF) (QI (fun x w2 => x = 0 ∧ ∃ τ, w2 = WW (mx τ))) := by
  refine Sp_of_R [(some (.ref 0)), none] [none] rfl (by simp) rfl (Nat.le_of_ble_eq_true rfl) ?_
  refine R_aload_n (pc := 0) dX8_erase_0 rfl rfl ?_
  refine g_X8_51 (pc := 1) (v := .ref 117) rfl dX8_erase_1 (c_0 _) rfl ?_
  refine g_X8_291 (pc := 4) (v := .int 0) rfl dX8_erase_4 (c_117 _) rfl ?_
  refine st_2_1_i_a (pc := 7) dX8_erase_7 ?_
  refine R_aload_n (pc := 8) dX8_erase_8 rfl rfl ?_
  refine g_X8_51 (pc := 9) (v := .ref 117) rfl dX8_erase_9 (c_0 _) rfl ?_
  refine R_iconst (pc := 12) (v := 0) dX8_erase_12 (by decide) ?_
  refine p_X8_291 (pc := 13) rfl dX8_erase_13 (c_117 _) (by decide) rfl rfl (s_117_1 _ _) ?_
  refine R_iload_n (pc := 16) dX8_erase_16 rfl rfl ?_
  exact R_iret (pc := 17) dX8_erase_17 rfl rfl (Nat.zero_le _) (Nat.zero_le _) ⟨_, rfl, rfl, mxI _ rfl⟩
theorem dX8_days_0 : decode cX8_days 0 = .ok (.iload_n 1, 1) := by decide +kernel
theorem dX8_days_1 : decode cX8_days 1 = .ok (.iconst 1, 1) := by decide +kernel
theorem dX8_days_2 : decode cX8_days 2 = .ok (.bipush 99, 2) := by decide +kernel
theorem dX8_days_4 : decode cX8_days 4 = .ok (.invokestatic 72, 3) := by decide +kernel
theorem dX8_days_7 : decode cX8_days 7 = .ok (.ifCond .eq 18, 3) := by decide +kernel
theorem dX8_days_10 : decode cX8_days 10 = .ok (.aload_n 0, 1) := by decide +kernel
theorem dX8_days_11 : decode cX8_days 11 = .ok (.getfield 10, 3) := by decide +kernel
theorem dX8_days_14 : decode cX8_days 14 = .ok (.getfield 109, 3) := by decide +kernel
theorem dX8_days_17 : decode cX8_days 17 = .ok (.iload_n 1, 1) := by decide +kernel
theorem dX8_days_18 : decode cX8_days 18 = .ok (.iadd, 1) := by decide +kernel
theorem dX8_days_19 : decode cX8_days 19 = .ok (.sipush 999, 3) := by decide +kernel
theorem dX8_days_22 : decode cX8_days 22 = .ok (.if_icmp .le 6, 3) := by decide +kernel
theorem dX8_days_25 : decode cX8_days 25 = .ok (.bipush (-3), 2) := by decide +kernel
theorem dX8_days_27 : decode cX8_days 27 = .ok (.ireturn, 1) := by decide +kernel
theorem dX8_days_28 : decode cX8_days 28 = .ok (.aload_n 0, 1) := by decide +kernel
theorem dX8_days_29 : decode cX8_days 29 = .ok (.getfield 10, 3) := by decide +kernel
theorem dX8_days_32 : decode cX8_days 32 = .ok (.dup, 1) := by decide +kernel
theorem dX8_days_33 : decode cX8_days 33 = .ok (.getfield 109, 3) := by decide +kernel
theorem dX8_days_36 : decode cX8_days 36 = .ok (.iload_n 1, 1) := by decide +kernel
theorem dX8_days_37 : decode cX8_days 37 = .ok (.iadd, 1) := by decide +kernel
theorem dX8_days_38 : decode cX8_days 38 = .ok (.putfield 109, 3) := by decide +kernel
theorem dX8_days_41 : decode cX8_days 41 = .ok (.aload_n 0, 1) := by decide +kernel
theorem dX8_days_42 : decode cX8_days 42 = .ok (.getfield 10, 3) := by decide +kernel
theorem dX8_days_45 : decode cX8_days 45 = .ok (.getfield 109, 3) := by decide +kernel
theorem dX8_days_48 : decode cX8_days 48 = .ok (.ireturn, 1) := by decide +kernel
set_option maxRecDepth 100000 in
set_option maxHeartbeats 40000000 in
theorem fp_days {G : vG} {l : Launch} (n : Int32) : Sp G l yX8_days cX8_days 2 (some .int) 1 0 0 [.ref 0, .int n] (WW σF) (QI (fun x w2 => x = an_days n ∧ ∃ τ, w2 = WW (mx τ))) := by
  refine Sp_of_R [(some (.ref 0)), (some (.int n))] [] rfl (by simp) rfl (Nat.le_of_ble_eq_true rfl) ?_
  refine R_iload_n (pc := 0) dX8_days_0 rfl rfl ?_
  refine R_iconst (pc := 1) (v := 1) dX8_days_1 (by decide) ?_
  refine R_bipush (pc := 2) (v := 99) dX8_days_2 (by decide) ?_
  refine k_X8_72 (pc := 4) (sp_X8_isWithin _ _ _ _) rfl (by decide) (Nat.le_refl _) (Nat.le_refl _) (by decide) dX8_days_4 (fun x w2 h => ?_)
  rcases h with ⟨rfl, ⟨h1, rfl⟩ | ⟨h1, rfl⟩⟩
  · skip
    refine R_ifeq (pc := 7) 25 dX8_days_7 (by decide) (fun h => absurd h (by decide)) (fun _ => ?_)
    refine R_aload_n (pc := 10) dX8_days_10 rfl rfl ?_
    refine g_X8_10 (pc := 11) (v := .ref 1) rfl dX8_days_11 (c_0 _) rfl ?_
    refine g_X8_109 (pc := 14) (v := .int 0) rfl dX8_days_14 (c_1 _) rfl ?_
    refine R_iload_n (pc := 17) dX8_days_17 rfl rfl ?_
    refine R_iadd (pc := 18) dX8_days_18 ?_
    refine R_sipush (pc := 19) (v := 999) dX8_days_19 (by decide) ?_
    refine R_icle (pc := 22) 28 dX8_days_22 (by decide) (fun b22_3 => ?_) (fun b22_3 => ?_)
    · skip
      refine R_aload_n (pc := 28) dX8_days_28 rfl rfl ?_
      refine g_X8_10 (pc := 29) (v := .ref 1) rfl dX8_days_29 (c_0 _) rfl ?_
      refine R_dup (pc := 32) dX8_days_32 rfl ?_
      refine g_X8_109 (pc := 33) (v := .int 0) rfl dX8_days_33 (c_1 _) rfl ?_
      refine R_iload_n (pc := 36) dX8_days_36 rfl rfl ?_
      refine R_iadd (pc := 37) dX8_days_37 ?_
      refine p_X8_109 (pc := 38) rfl dX8_days_38 (c_1 _) (by decide) rfl rfl (s_1_11 _ _) ?_
      refine R_aload_n (pc := 41) dX8_days_41 rfl rfl ?_
      refine g_X8_10 (pc := 42) (v := .ref 1) rfl dX8_days_42 (c_0 _) rfl ?_
      refine g_X8_109 (pc := 45) (v := .int (0 + n)) rfl dX8_days_45 (c_1 _) rfl ?_
      exact R_iret (pc := 48) dX8_days_48 rfl rfl (Nat.zero_le _) (Nat.zero_le _) ⟨_, rfl, (by first | (simp only [an_days, inB_t h1, cond_true, cond_false, Bool.and_true, Bool.true_and, Bool.and_false, Bool.false_and]; done) | (simp only [an_days, inB_t h1, cond_true, cond_false, Bool.and_true, Bool.true_and, Bool.and_false, Bool.false_and, b22_3, if_true, if_false, ite_self]; done) | (simp only [an_days, inB_t h1, cond_true, cond_false, Bool.and_true, Bool.true_and, Bool.and_false, Bool.false_and] <;> simp [b22_3]; done) | (simp only [an_days, inB_t h1, cond_true, cond_false, Bool.and_true, Bool.true_and, Bool.and_false, Bool.false_and] <;> decide)), mxI _ rfl⟩
    · skip
      refine R_bipush (pc := 25) (v := (-3)) dX8_days_25 (by decide) ?_
      exact R_iret (pc := 27) dX8_days_27 rfl rfl (Nat.zero_le _) (Nat.zero_le _) ⟨_, rfl, (by first | (simp only [an_days, inB_t h1, cond_true, cond_false, Bool.and_true, Bool.true_and, Bool.and_false, Bool.false_and]; done) | (simp only [an_days, inB_t h1, cond_true, cond_false, Bool.and_true, Bool.true_and, Bool.and_false, Bool.false_and, b22_3, if_true, if_false, ite_self]; done) | (simp only [an_days, inB_t h1, cond_true, cond_false, Bool.and_true, Bool.true_and, Bool.and_false, Bool.false_and] <;> simp [b22_3]; done) | (simp only [an_days, inB_t h1, cond_true, cond_false, Bool.and_true, Bool.true_and, Bool.and_false, Bool.false_and] <;> decide)), mxI _ rfl⟩
  · skip
    refine R_ifeq (pc := 7) 25 dX8_days_7 (by decide) (fun _ => ?_) (fun h => absurd (by decide) h)
    refine R_bipush (pc := 25) (v := (-3)) dX8_days_25 (by decide) ?_
    exact R_iret (pc := 27) dX8_days_27 rfl rfl (Nat.zero_le _) (Nat.zero_le _) ⟨_, rfl, (by first | (simp only [an_days, inB_f h1, cond_true, cond_false, Bool.and_true, Bool.true_and, Bool.and_false, Bool.false_and]; done) | (simp only [an_days, inB_f h1, cond_true, cond_false, Bool.and_true, Bool.true_and, Bool.and_false, Bool.false_and, if_true, if_true, if_false, ite_self]; done) | (simp only [an_days, inB_f h1, cond_true, cond_false, Bool.and_true, Bool.true_and, Bool.and_false, Bool.false_and] <;> simp []; done) | (simp only [an_days, inB_f h1, cond_true, cond_false, Bool.and_true, Bool.true_and, Bool.and_false, Bool.false_and] <;> decide)), mxI _ rfl⟩
theorem dX8_unseen_0 : decode cX8_unseen 0 = .ok (.iload_n 1, 1) := by decide +kernel
theorem dX8_unseen_1 : decode cX8_unseen 1 = .ok (.iconst 0, 1) := by decide +kernel
theorem dX8_unseen_2 : decode cX8_unseen 2 = .ok (.iconst 1, 1) := by decide +kernel
theorem dX8_unseen_3 : decode cX8_unseen 3 = .ok (.invokestatic 72, 3) := by decide +kernel
theorem dX8_unseen_6 : decode cX8_unseen 6 = .ok (.ifCond .ne 6, 3) := by decide +kernel
theorem dX8_unseen_9 : decode cX8_unseen 9 = .ok (.bipush (-3), 2) := by decide +kernel
theorem dX8_unseen_11 : decode cX8_unseen 11 = .ok (.ireturn, 1) := by decide +kernel
theorem dX8_unseen_12 : decode cX8_unseen 12 = .ok (.aload_n 0, 1) := by decide +kernel
theorem dX8_unseen_13 : decode cX8_unseen 13 = .ok (.iconst 1, 1) := by decide +kernel
theorem dX8_unseen_14 : decode cX8_unseen 14 = .ok (.invokevirtual 200, 3) := by decide +kernel
theorem dX8_unseen_17 : decode cX8_unseen 17 = .ok (.istore_n 2, 1) := by decide +kernel
theorem dX8_unseen_18 : decode cX8_unseen 18 = .ok (.aload_n 0, 1) := by decide +kernel
theorem dX8_unseen_19 : decode cX8_unseen 19 = .ok (.iconst 2, 1) := by decide +kernel
theorem dX8_unseen_20 : decode cX8_unseen 20 = .ok (.invokevirtual 200, 3) := by decide +kernel
theorem dX8_unseen_23 : decode cX8_unseen 23 = .ok (.istore_n 3, 1) := by decide +kernel
theorem dX8_unseen_24 : decode cX8_unseen 24 = .ok (.iload_n 3, 1) := by decide +kernel
theorem dX8_unseen_25 : decode cX8_unseen 25 = .ok (.ifCond .le 9, 3) := by decide +kernel
theorem dX8_unseen_28 : decode cX8_unseen 28 = .ok (.iload_n 2, 1) := by decide +kernel
theorem dX8_unseen_29 : decode cX8_unseen 29 = .ok (.iload_n 2, 1) := by decide +kernel
theorem dX8_unseen_30 : decode cX8_unseen 30 = .ok (.imul, 1) := by decide +kernel
theorem dX8_unseen_31 : decode cX8_unseen 31 = .ok (.goto 8, 3) := by decide +kernel
theorem dX8_unseen_34 : decode cX8_unseen 34 = .ok (.iload_n 2, 1) := by decide +kernel
theorem dX8_unseen_35 : decode cX8_unseen 35 = .ok (.iload_n 2, 1) := by decide +kernel
theorem dX8_unseen_36 : decode cX8_unseen 36 = .ok (.iconst 1, 1) := by decide +kernel
theorem dX8_unseen_37 : decode cX8_unseen 37 = .ok (.isub, 1) := by decide +kernel
theorem dX8_unseen_38 : decode cX8_unseen 38 = .ok (.imul, 1) := by decide +kernel
theorem dX8_unseen_39 : decode cX8_unseen 39 = .ok (.istore 4, 2) := by decide +kernel
theorem dX8_unseen_41 : decode cX8_unseen 41 = .ok (.iload_n 3, 1) := by decide +kernel
theorem dX8_unseen_42 : decode cX8_unseen 42 = .ok (.ifCond .le 9, 3) := by decide +kernel
theorem dX8_unseen_45 : decode cX8_unseen 45 = .ok (.iconst 2, 1) := by decide +kernel
theorem dX8_unseen_46 : decode cX8_unseen 46 = .ok (.iload_n 3, 1) := by decide +kernel
theorem dX8_unseen_47 : decode cX8_unseen 47 = .ok (.imul, 1) := by decide +kernel
theorem dX8_unseen_48 : decode cX8_unseen 48 = .ok (.goto 4, 3) := by decide +kernel
theorem dX8_unseen_51 : decode cX8_unseen 51 = .ok (.iconst 2, 1) := by decide +kernel
theorem dX8_unseen_52 : decode cX8_unseen 52 = .ok (.istore 5, 2) := by decide +kernel
theorem dX8_unseen_54 : decode cX8_unseen 54 = .ok (.iconst 1, 1) := by decide +kernel
theorem dX8_unseen_55 : decode cX8_unseen 55 = .ok (.iload 4, 2) := by decide +kernel
theorem dX8_unseen_57 : decode cX8_unseen 57 = .ok (.iload 5, 2) := by decide +kernel
theorem dX8_unseen_59 : decode cX8_unseen 59 = .ok (.invokestatic 203, 3) := by decide +kernel
theorem dX8_unseen_62 : decode cX8_unseen 62 = .ok (.invokestatic 167, 3) := by decide +kernel
theorem dX8_unseen_65 : decode cX8_unseen 65 = .ok (.istore 6, 2) := by decide +kernel
theorem dX8_unseen_67 : decode cX8_unseen 67 = .ok (.iload_n 1, 1) := by decide +kernel
theorem dX8_unseen_68 : decode cX8_unseen 68 = .ok (.ifCond .ne 8, 3) := by decide +kernel
theorem dX8_unseen_71 : decode cX8_unseen 71 = .ok (.iload 4, 2) := by decide +kernel
theorem dX8_unseen_73 : decode cX8_unseen 73 = .ok (.goto 5, 3) := by decide +kernel
theorem dX8_unseen_76 : decode cX8_unseen 76 = .ok (.iload 5, 2) := by decide +kernel
theorem dX8_unseen_78 : decode cX8_unseen 78 = .ok (.iload 6, 2) := by decide +kernel
theorem dX8_unseen_80 : decode cX8_unseen 80 = .ok (.idiv, 1) := by decide +kernel
theorem dX8_unseen_81 : decode cX8_unseen 81 = .ok (.ireturn, 1) := by decide +kernel
set_option maxRecDepth 100000 in
set_option maxHeartbeats 40000000 in
theorem fp_unseen {G : vG} {l : Launch} (a : Int32) : Sp G l yX8_unseen cX8_unseen 7 (some .int) 6 0 0 [.ref 0, .int a] (WW σF) (QI (fun x w2 => x = an_unseen a ∧ ∃ τ, w2 = WW (mx τ))) := by
  refine Sp_of_R [(some (.ref 0)), (some (.int a)), none, none, none, none, none] [none, none, none, none, none] rfl (by simp) rfl (Nat.le_of_ble_eq_true rfl) ?_
  refine R_iload_n (pc := 0) dX8_unseen_0 rfl rfl ?_
  refine R_iconst (pc := 1) (v := 0) dX8_unseen_1 (by decide) ?_
  refine R_iconst (pc := 2) (v := 1) dX8_unseen_2 (by decide) ?_
  refine k_X8_72 (pc := 3) (sp_X8_isWithin _ _ _ _) rfl (by decide) (Nat.le_refl _) (Nat.le_refl _) (by decide) dX8_unseen_3 (fun x w2 h => ?_)
  rcases h with ⟨rfl, ⟨h1, rfl⟩ | ⟨h1, rfl⟩⟩
  · skip
    refine R_ifne (pc := 6) 12 dX8_unseen_6 (by decide) (fun _ => ?_) (fun h => absurd h (by decide))
    refine R_aload_n (pc := 12) dX8_unseen_12 rfl rfl ?_
    refine R_iconst (pc := 13) (v := 1) dX8_unseen_13 (by decide) ?_
    refine k_X8_200 (pc := 14) (fx_X8_cardsSeen _ _ rfl) rfl (c_0 _) (by decide) (Nat.le_refl _) (Nat.le_refl _) (by decide) dX8_unseen_14 (fun x w2 h => ?_)
    obtain ⟨rfl, rfl⟩ := h
    refine st_7_2_i_i (pc := 17) dX8_unseen_17 ?_
    refine R_aload_n (pc := 18) dX8_unseen_18 rfl rfl ?_
    refine R_iconst (pc := 19) (v := 2) dX8_unseen_19 (by decide) ?_
    refine k_X8_200 (pc := 20) (fx_X8_cardsSeen _ _ rfl) rfl (c_0 _) (by decide) (Nat.le_refl _) (Nat.le_refl _) (by decide) dX8_unseen_20 (fun x w2 h => ?_)
    obtain ⟨rfl, rfl⟩ := h
    refine st_7_3_i_i (pc := 23) dX8_unseen_23 ?_
    refine R_iload_n (pc := 24) dX8_unseen_24 rfl rfl ?_
    refine R_ifle (pc := 25) 34 dX8_unseen_25 (by decide) (fun _ => ?_) (fun h => absurd (by decide) h)
    refine R_iload_n (pc := 34) dX8_unseen_34 rfl rfl ?_
    refine R_iload_n (pc := 35) dX8_unseen_35 rfl rfl ?_
    refine R_iconst (pc := 36) (v := 1) dX8_unseen_36 (by decide) ?_
    refine R_isub (pc := 37) dX8_unseen_37 ?_
    refine R_cv (-1) (by decide) ?_
    refine R_imul (pc := 38) dX8_unseen_38 ?_
    refine R_cv 0 (by decide) ?_
    refine st_7_4_i_i (pc := 39) dX8_unseen_39 ?_
    refine R_iload_n (pc := 41) dX8_unseen_41 rfl rfl ?_
    refine R_ifle (pc := 42) 51 dX8_unseen_42 (by decide) (fun _ => ?_) (fun h => absurd (by decide) h)
    refine R_iconst (pc := 51) (v := 2) dX8_unseen_51 (by decide) ?_
    refine st_7_5_i_i (pc := 52) dX8_unseen_52 ?_
    refine R_iconst (pc := 54) (v := 1) dX8_unseen_54 (by decide) ?_
    refine R_iload (pc := 55) dX8_unseen_55 rfl ?_
    refine R_iload (pc := 57) dX8_unseen_57 rfl ?_
    refine k_X8_203 (pc := 59) (fx_X8_gcd02 _) rfl (by decide) (Nat.le_refl _) (Nat.le_refl _) (by decide) dX8_unseen_59 (fun x w2 h => ?_)
    obtain ⟨rfl, rfl⟩ := h
    refine R_mmax (pc := 62) wm_504 dX8_unseen_62 (by decide) (by decide) (Nat.zero_le _) (Nat.zero_le _) ?_
    refine R_cv 2 (by decide) ?_
    refine st_7_6_i_i (pc := 65) dX8_unseen_65 ?_
    refine R_iload_n (pc := 67) dX8_unseen_67 rfl rfl ?_
    refine R_ifne (pc := 68) 76 dX8_unseen_68 (by decide) (fun b68_5 => ?_) (fun b68_5 => ?_)
    · skip
      refine R_iload (pc := 76) dX8_unseen_76 rfl ?_
      refine R_iload (pc := 78) dX8_unseen_78 rfl ?_
      refine R_idiv (pc := 80) dX8_unseen_80 (by decide) ?_
      refine R_cv 1 (by decide) ?_
      exact R_iret (pc := 81) dX8_unseen_81 rfl rfl (Nat.zero_le _) (Nat.zero_le _) ⟨_, rfl, (by first | (simp only [an_unseen, inB_t h1, cond_true, cond_false, Bool.and_true, Bool.true_and, Bool.and_false, Bool.false_and]; done) | (simp only [an_unseen, inB_t h1, cond_true, cond_false, Bool.and_true, Bool.true_and, Bool.and_false, Bool.false_and, b68_5, if_true, if_false, ite_self]; done) | (simp only [an_unseen, inB_t h1, cond_true, cond_false, Bool.and_true, Bool.true_and, Bool.and_false, Bool.false_and] <;> simp [b68_5]; done) | (simp only [an_unseen, inB_t h1, cond_true, cond_false, Bool.and_true, Bool.true_and, Bool.and_false, Bool.false_and] <;> decide)), mxI _ rfl⟩
    · skip
      refine R_iload (pc := 71) dX8_unseen_71 rfl ?_
      refine R_goto (pc := 73) 78 dX8_unseen_73 (by decide) ?_
      refine R_iload (pc := 78) dX8_unseen_78 rfl ?_
      refine R_idiv (pc := 80) dX8_unseen_80 (by decide) ?_
      refine R_cv 0 (by decide) ?_
      exact R_iret (pc := 81) dX8_unseen_81 rfl rfl (Nat.zero_le _) (Nat.zero_le _) ⟨_, rfl, (by first | (simp only [an_unseen, inB_t h1, cond_true, cond_false, Bool.and_true, Bool.true_and, Bool.and_false, Bool.false_and]; done) | (simp only [an_unseen, inB_t h1, cond_true, cond_false, Bool.and_true, Bool.true_and, Bool.and_false, Bool.false_and, b68_5, if_true, if_false, ite_self]; done) | (simp only [an_unseen, inB_t h1, cond_true, cond_false, Bool.and_true, Bool.true_and, Bool.and_false, Bool.false_and] <;> simp [b68_5]; done) | (simp only [an_unseen, inB_t h1, cond_true, cond_false, Bool.and_true, Bool.true_and, Bool.and_false, Bool.false_and] <;> decide)), mxI _ rfl⟩
  · skip
    refine R_ifne (pc := 6) 12 dX8_unseen_6 (by decide) (fun h => absurd (by decide) h) (fun _ => ?_)
    refine R_bipush (pc := 9) (v := (-3)) dX8_unseen_9 (by decide) ?_
    exact R_iret (pc := 11) dX8_unseen_11 rfl rfl (Nat.zero_le _) (Nat.zero_le _) ⟨_, rfl, (by first | (simp only [an_unseen, inB_f h1, cond_true, cond_false, Bool.and_true, Bool.true_and, Bool.and_false, Bool.false_and]; done) | (simp only [an_unseen, inB_f h1, cond_true, cond_false, Bool.and_true, Bool.true_and, Bool.and_false, Bool.false_and, if_true, if_true, if_false, ite_self]; done) | (simp only [an_unseen, inB_f h1, cond_true, cond_false, Bool.and_true, Bool.true_and, Bool.and_false, Bool.false_and] <;> simp []; done) | (simp only [an_unseen, inB_f h1, cond_true, cond_false, Bool.and_true, Bool.true_and, Bool.and_false, Bool.false_and] <;> decide)), mxI _ rfl⟩
theorem dX8_overlap_0 : decode cX8_overlap 0 = .ok (.iload_n 1, 1) := by decide +kernel
theorem dX8_overlap_1 : decode cX8_overlap 1 = .ok (.iconst 0, 1) := by decide +kernel
theorem dX8_overlap_2 : decode cX8_overlap 2 = .ok (.iconst 3, 1) := by decide +kernel
theorem dX8_overlap_3 : decode cX8_overlap 3 = .ok (.invokestatic 72, 3) := by decide +kernel
theorem dX8_overlap_6 : decode cX8_overlap 6 = .ok (.ifCond .eq 17, 3) := by decide +kernel
theorem dX8_overlap_9 : decode cX8_overlap 9 = .ok (.iload_n 2, 1) := by decide +kernel
theorem dX8_overlap_10 : decode cX8_overlap 10 = .ok (.iconst 0, 1) := by decide +kernel
theorem dX8_overlap_11 : decode cX8_overlap 11 = .ok (.iconst 3, 1) := by decide +kernel
theorem dX8_overlap_12 : decode cX8_overlap 12 = .ok (.invokestatic 72, 3) := by decide +kernel
theorem dX8_overlap_15 : decode cX8_overlap 15 = .ok (.ifCond .eq 8, 3) := by decide +kernel
theorem dX8_overlap_18 : decode cX8_overlap 18 = .ok (.iload_n 1, 1) := by decide +kernel
theorem dX8_overlap_19 : decode cX8_overlap 19 = .ok (.iload_n 2, 1) := by decide +kernel
theorem dX8_overlap_20 : decode cX8_overlap 20 = .ok (.if_icmp .ne 6, 3) := by decide +kernel
theorem dX8_overlap_23 : decode cX8_overlap 23 = .ok (.bipush (-2), 2) := by decide +kernel
theorem dX8_overlap_25 : decode cX8_overlap 25 = .ok (.ireturn, 1) := by decide +kernel
theorem dX8_overlap_26 : decode cX8_overlap 26 = .ok (.iload_n 3, 1) := by decide +kernel
theorem dX8_overlap_27 : decode cX8_overlap 27 = .ok (.iconst 0, 1) := by decide +kernel
theorem dX8_overlap_28 : decode cX8_overlap 28 = .ok (.iconst 2, 1) := by decide +kernel
theorem dX8_overlap_29 : decode cX8_overlap 29 = .ok (.invokestatic 72, 3) := by decide +kernel
theorem dX8_overlap_32 : decode cX8_overlap 32 = .ok (.ifCond .ne 6, 3) := by decide +kernel
theorem dX8_overlap_35 : decode cX8_overlap 35 = .ok (.bipush (-3), 2) := by decide +kernel
theorem dX8_overlap_37 : decode cX8_overlap 37 = .ok (.ireturn, 1) := by decide +kernel
theorem dX8_overlap_38 : decode cX8_overlap 38 = .ok (.aload_n 0, 1) := by decide +kernel
theorem dX8_overlap_39 : decode cX8_overlap 39 = .ok (.iload_n 1, 1) := by decide +kernel
theorem dX8_overlap_40 : decode cX8_overlap 40 = .ok (.iload_n 2, 1) := by decide +kernel
theorem dX8_overlap_41 : decode cX8_overlap 41 = .ok (.invokevirtual 212, 3) := by decide +kernel
theorem dX8_overlap_44 : decode cX8_overlap 44 = .ok (.istore 4, 2) := by decide +kernel
theorem dX8_overlap_46 : decode cX8_overlap 46 = .ok (.iload_n 3, 1) := by decide +kernel
theorem dX8_overlap_47 : decode cX8_overlap 47 = .ok (.ifCond .ne 6, 3) := by decide +kernel
theorem dX8_overlap_50 : decode cX8_overlap 50 = .ok (.iload 4, 2) := by decide +kernel
theorem dX8_overlap_52 : decode cX8_overlap 52 = .ok (.ireturn, 1) := by decide +kernel
theorem dX8_overlap_53 : decode cX8_overlap 53 = .ok (.iload 4, 2) := by decide +kernel
theorem dX8_overlap_55 : decode cX8_overlap 55 = .ok (.ifCond .ne 5, 3) := by decide +kernel
theorem dX8_overlap_58 : decode cX8_overlap 58 = .ok (.iconst (-1), 1) := by decide +kernel
theorem dX8_overlap_59 : decode cX8_overlap 59 = .ok (.ireturn, 1) := by decide +kernel
theorem dX8_overlap_60 : decode cX8_overlap 60 = .ok (.iload_n 3, 1) := by decide +kernel
theorem dX8_overlap_61 : decode cX8_overlap 61 = .ok (.iconst 1, 1) := by decide +kernel
theorem dX8_overlap_62 : decode cX8_overlap 62 = .ok (.if_icmp .ne 19, 3) := by decide +kernel
theorem dX8_overlap_65 : decode cX8_overlap 65 = .ok (.aload_n 0, 1) := by decide +kernel
theorem dX8_overlap_66 : decode cX8_overlap 66 = .ok (.iload_n 1, 1) := by decide +kernel
theorem dX8_overlap_67 : decode cX8_overlap 67 = .ok (.iload_n 1, 1) := by decide +kernel
theorem dX8_overlap_68 : decode cX8_overlap 68 = .ok (.invokevirtual 212, 3) := by decide +kernel
theorem dX8_overlap_71 : decode cX8_overlap 71 = .ok (.aload_n 0, 1) := by decide +kernel
theorem dX8_overlap_72 : decode cX8_overlap 72 = .ok (.iload_n 2, 1) := by decide +kernel
theorem dX8_overlap_73 : decode cX8_overlap 73 = .ok (.iload_n 2, 1) := by decide +kernel
theorem dX8_overlap_74 : decode cX8_overlap 74 = .ok (.invokevirtual 212, 3) := by decide +kernel
theorem dX8_overlap_77 : decode cX8_overlap 77 = .ok (.imul, 1) := by decide +kernel
theorem dX8_overlap_78 : decode cX8_overlap 78 = .ok (.goto 5, 3) := by decide +kernel
theorem dX8_overlap_81 : decode cX8_overlap 81 = .ok (.iload 4, 2) := by decide +kernel
theorem dX8_overlap_83 : decode cX8_overlap 83 = .ok (.ireturn, 1) := by decide +kernel
set_option maxRecDepth 100000 in
set_option maxHeartbeats 40000000 in
theorem fp_overlap {G : vG} {l : Launch} (a b c : Int32) : Sp G l yX8_overlap cX8_overlap 5 (some .int) 6 0 0 [.ref 0, .int a, .int b, .int c] (WW σF) (QI (fun x w2 => x = an_overlap a b c ∧ ∃ τ, w2 = WW (mx τ))) := by
  refine Sp_of_R [(some (.ref 0)), (some (.int a)), (some (.int b)), (some (.int c)), none] [none] rfl (by simp) rfl (Nat.le_of_ble_eq_true rfl) ?_
  refine R_iload_n (pc := 0) dX8_overlap_0 rfl rfl ?_
  refine R_iconst (pc := 1) (v := 0) dX8_overlap_1 (by decide) ?_
  refine R_iconst (pc := 2) (v := 3) dX8_overlap_2 (by decide) ?_
  refine k_X8_72 (pc := 3) (sp_X8_isWithin _ _ _ _) rfl (by decide) (Nat.le_refl _) (Nat.le_refl _) (by decide) dX8_overlap_3 (fun x w2 h => ?_)
  rcases h with ⟨rfl, ⟨h1, rfl⟩ | ⟨h1, rfl⟩⟩
  · skip
    refine R_ifeq (pc := 6) 23 dX8_overlap_6 (by decide) (fun h => absurd h (by decide)) (fun _ => ?_)
    refine R_iload_n (pc := 9) dX8_overlap_9 rfl rfl ?_
    refine R_iconst (pc := 10) (v := 0) dX8_overlap_10 (by decide) ?_
    refine R_iconst (pc := 11) (v := 3) dX8_overlap_11 (by decide) ?_
    refine k_X8_72 (pc := 12) (sp_X8_isWithin _ _ _ _) rfl (by decide) (Nat.le_refl _) (Nat.le_refl _) (by decide) dX8_overlap_12 (fun x w2 h => ?_)
    rcases h with ⟨rfl, ⟨h3, rfl⟩ | ⟨h3, rfl⟩⟩
    · skip
      refine R_ifeq (pc := 15) 23 dX8_overlap_15 (by decide) (fun h => absurd h (by decide)) (fun _ => ?_)
      refine R_iload_n (pc := 18) dX8_overlap_18 rfl rfl ?_
      refine R_iload_n (pc := 19) dX8_overlap_19 rfl rfl ?_
      refine R_icne (pc := 20) 26 dX8_overlap_20 (by decide) (fun b20_5 => ?_) (fun b20_5 => ?_)
      · skip
        refine R_iload_n (pc := 26) dX8_overlap_26 rfl rfl ?_
        refine R_iconst (pc := 27) (v := 0) dX8_overlap_27 (by decide) ?_
        refine R_iconst (pc := 28) (v := 2) dX8_overlap_28 (by decide) ?_
        refine k_X8_72 (pc := 29) (sp_X8_isWithin _ _ _ _) rfl (by decide) (Nat.le_refl _) (Nat.le_refl _) (by decide) dX8_overlap_29 (fun x w2 h => ?_)
        rcases h with ⟨rfl, ⟨h6, rfl⟩ | ⟨h6, rfl⟩⟩
        · skip
          refine R_ifne (pc := 32) 38 dX8_overlap_32 (by decide) (fun _ => ?_) (fun h => absurd h (by decide))
          refine R_aload_n (pc := 38) dX8_overlap_38 rfl rfl ?_
          refine R_iload_n (pc := 39) dX8_overlap_39 rfl rfl ?_
          refine R_iload_n (pc := 40) dX8_overlap_40 rfl rfl ?_
          refine k_X8_212 (pc := 41) (fx_X8_cardsInBoth _ _ _ rfl) rfl (c_0 _) (by decide) (Nat.le_refl _) (Nat.le_refl _) (by decide) dX8_overlap_41 (fun x w2 h => ?_)
          obtain ⟨rfl, rfl⟩ := h
          refine st_5_4_i_i (pc := 44) dX8_overlap_44 ?_
          refine R_iload_n (pc := 46) dX8_overlap_46 rfl rfl ?_
          refine R_ifne (pc := 47) 53 dX8_overlap_47 (by decide) (fun b47_8 => ?_) (fun b47_8 => ?_)
          · skip
            refine R_iload (pc := 53) dX8_overlap_53 rfl ?_
            refine R_ifne (pc := 55) 60 dX8_overlap_55 (by decide) (fun h => absurd (by decide) h) (fun _ => ?_)
            refine R_iconst (pc := 58) (v := (-1)) dX8_overlap_58 (by decide) ?_
            exact R_iret (pc := 59) dX8_overlap_59 rfl rfl (Nat.zero_le _) (Nat.zero_le _) ⟨_, rfl, (by first | (simp only [an_overlap, inB_t h1, inB_t h3, inB_t h6, cond_true, cond_false, Bool.and_true, Bool.true_and, Bool.and_false, Bool.false_and]; done) | (simp only [an_overlap, inB_t h1, inB_t h3, inB_t h6, cond_true, cond_false, Bool.and_true, Bool.true_and, Bool.and_false, Bool.false_and, b20_5, b47_8, if_true, if_false, ite_self]; done) | (simp only [an_overlap, inB_t h1, inB_t h3, inB_t h6, cond_true, cond_false, Bool.and_true, Bool.true_and, Bool.and_false, Bool.false_and] <;> simp [b20_5, b47_8]; done) | (simp only [an_overlap, inB_t h1, inB_t h3, inB_t h6, cond_true, cond_false, Bool.and_true, Bool.true_and, Bool.and_false, Bool.false_and] <;> decide)), mxI _ rfl⟩
          · skip
            refine R_iload (pc := 50) dX8_overlap_50 rfl ?_
            exact R_iret (pc := 52) dX8_overlap_52 rfl rfl (Nat.zero_le _) (Nat.zero_le _) ⟨_, rfl, (by first | (simp only [an_overlap, inB_t h1, inB_t h3, inB_t h6, cond_true, cond_false, Bool.and_true, Bool.true_and, Bool.and_false, Bool.false_and]; done) | (simp only [an_overlap, inB_t h1, inB_t h3, inB_t h6, cond_true, cond_false, Bool.and_true, Bool.true_and, Bool.and_false, Bool.false_and, b20_5, b47_8, if_true, if_false, ite_self]; done) | (simp only [an_overlap, inB_t h1, inB_t h3, inB_t h6, cond_true, cond_false, Bool.and_true, Bool.true_and, Bool.and_false, Bool.false_and] <;> simp [b20_5, b47_8]; done) | (simp only [an_overlap, inB_t h1, inB_t h3, inB_t h6, cond_true, cond_false, Bool.and_true, Bool.true_and, Bool.and_false, Bool.false_and] <;> decide)), mxI _ rfl⟩
        · skip
          refine R_ifne (pc := 32) 38 dX8_overlap_32 (by decide) (fun h => absurd (by decide) h) (fun _ => ?_)
          refine R_bipush (pc := 35) (v := (-3)) dX8_overlap_35 (by decide) ?_
          exact R_iret (pc := 37) dX8_overlap_37 rfl rfl (Nat.zero_le _) (Nat.zero_le _) ⟨_, rfl, (by first | (simp only [an_overlap, inB_t h1, inB_t h3, inB_f h6, cond_true, cond_false, Bool.and_true, Bool.true_and, Bool.and_false, Bool.false_and]; done) | (simp only [an_overlap, inB_t h1, inB_t h3, inB_f h6, cond_true, cond_false, Bool.and_true, Bool.true_and, Bool.and_false, Bool.false_and, b20_5, if_true, if_false, ite_self]; done) | (simp only [an_overlap, inB_t h1, inB_t h3, inB_f h6, cond_true, cond_false, Bool.and_true, Bool.true_and, Bool.and_false, Bool.false_and] <;> simp [b20_5]; done) | (simp only [an_overlap, inB_t h1, inB_t h3, inB_f h6, cond_true, cond_false, Bool.and_true, Bool.true_and, Bool.and_false, Bool.false_and] <;> decide)), mxI _ rfl⟩
      · skip
        refine R_bipush (pc := 23) (v := (-2)) dX8_overlap_23 (by decide) ?_
        exact R_iret (pc := 25) dX8_overlap_25 rfl rfl (Nat.zero_le _) (Nat.zero_le _) ⟨_, rfl, (by first | (simp only [an_overlap, inB_t h1, inB_t h3, cond_true, cond_false, Bool.and_true, Bool.true_and, Bool.and_false, Bool.false_and]; done) | (simp only [an_overlap, inB_t h1, inB_t h3, cond_true, cond_false, Bool.and_true, Bool.true_and, Bool.and_false, Bool.false_and, b20_5, if_true, if_false, ite_self]; done) | (simp only [an_overlap, inB_t h1, inB_t h3, cond_true, cond_false, Bool.and_true, Bool.true_and, Bool.and_false, Bool.false_and] <;> simp [b20_5]; done) | (simp only [an_overlap, inB_t h1, inB_t h3, cond_true, cond_false, Bool.and_true, Bool.true_and, Bool.and_false, Bool.false_and] <;> decide)), mxI _ rfl⟩
    · skip
      refine R_ifeq (pc := 15) 23 dX8_overlap_15 (by decide) (fun _ => ?_) (fun h => absurd (by decide) h)
      refine R_bipush (pc := 23) (v := (-2)) dX8_overlap_23 (by decide) ?_
      exact R_iret (pc := 25) dX8_overlap_25 rfl rfl (Nat.zero_le _) (Nat.zero_le _) ⟨_, rfl, (by first | (simp only [an_overlap, inB_t h1, inB_f h3, cond_true, cond_false, Bool.and_true, Bool.true_and, Bool.and_false, Bool.false_and]; done) | (simp only [an_overlap, inB_t h1, inB_f h3, cond_true, cond_false, Bool.and_true, Bool.true_and, Bool.and_false, Bool.false_and, if_true, if_true, if_false, ite_self]; done) | (simp only [an_overlap, inB_t h1, inB_f h3, cond_true, cond_false, Bool.and_true, Bool.true_and, Bool.and_false, Bool.false_and] <;> simp []; done) | (simp only [an_overlap, inB_t h1, inB_f h3, cond_true, cond_false, Bool.and_true, Bool.true_and, Bool.and_false, Bool.false_and] <;> decide)), mxI _ rfl⟩
  · skip
    refine R_ifeq (pc := 6) 23 dX8_overlap_6 (by decide) (fun _ => ?_) (fun h => absurd (by decide) h)
    refine R_bipush (pc := 23) (v := (-2)) dX8_overlap_23 (by decide) ?_
    exact R_iret (pc := 25) dX8_overlap_25 rfl rfl (Nat.zero_le _) (Nat.zero_le _) ⟨_, rfl, (by first | (simp only [an_overlap, inB_f h1, cond_true, cond_false, Bool.and_true, Bool.true_and, Bool.and_false, Bool.false_and]; done) | (simp only [an_overlap, inB_f h1, cond_true, cond_false, Bool.and_true, Bool.true_and, Bool.and_false, Bool.false_and, if_true, if_true, if_false, ite_self]; done) | (simp only [an_overlap, inB_f h1, cond_true, cond_false, Bool.and_true, Bool.true_and, Bool.and_false, Bool.false_and] <;> simp []; done) | (simp only [an_overlap, inB_f h1, cond_true, cond_false, Bool.and_true, Bool.true_and, Bool.and_false, Bool.false_and] <;> decide)), mxI _ rfl⟩
theorem dX8_walls_0 : decode cX8_walls 0 = .ok (.aload_n 0, 1) := by decide +kernel
theorem dX8_walls_1 : decode cX8_walls 1 = .ok (.getfield 44, 3) := by decide +kernel
theorem dX8_walls_4 : decode cX8_walls 4 = .ok (.lload_n 1, 1) := by decide +kernel
theorem dX8_walls_5 : decode cX8_walls 5 = .ok (.putfield 267, 3) := by decide +kernel
theorem dX8_walls_8 : decode cX8_walls 8 = .ok (.iconst 1, 1) := by decide +kernel
theorem dX8_walls_9 : decode cX8_walls 9 = .ok (.ireturn, 1) := by decide +kernel
set_option maxRecDepth 100000 in
set_option maxHeartbeats 40000000 in
theorem fp_walls {G : vG} {l : Launch} (a : Int64) : Sp G l yX8_walls cX8_walls 3 (some .int) 0 0 0 [.ref 0, .long a] (WW σF) (QI (fun x w2 => x = 1 ∧ ∃ τ, w2 = WW (mx τ))) := by
  refine Sp_of_R [(some (.ref 0)), (some (.long a)), none] [] rfl (by simp) rfl (Nat.le_of_ble_eq_true rfl) ?_
  refine R_aload_n (pc := 0) dX8_walls_0 rfl rfl ?_
  refine g_X8_44 (pc := 1) (v := .ref 93) rfl dX8_walls_1 (c_0 _) rfl ?_
  refine R_lload_n (pc := 4) dX8_walls_4 rfl rfl ?_
  refine p_X8_267 (pc := 5) rfl dX8_walls_5 (c_93 _) (by decide) rfl rfl (s_93_1 _ _) ?_
  refine R_iconst (pc := 8) (v := 1) dX8_walls_8 (by decide) ?_
  exact R_iret (pc := 9) dX8_walls_9 rfl rfl (Nat.zero_le _) (Nat.zero_le _) ⟨_, rfl, rfl, mxI _ rfl⟩
