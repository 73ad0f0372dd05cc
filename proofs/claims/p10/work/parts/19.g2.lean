/-! methods on any state that keeps the invariant -/
theorem dX0_there_0 : decode cX0_there 0 = .ok (.iconst 0, 1) := by decide +kernel
theorem dX0_there_1 : decode cX0_there 1 = .ok (.istore_n 1, 1) := by decide +kernel
theorem dX0_there_2 : decode cX0_there 2 = .ok (.iconst 0, 1) := by decide +kernel
theorem dX0_there_3 : decode cX0_there 3 = .ok (.istore_n 2, 1) := by decide +kernel
theorem dX0_there_4 : decode cX0_there 4 = .ok (.iload_n 2, 1) := by decide +kernel
theorem dX0_there_5 : decode cX0_there 5 = .ok (.aload_n 0, 1) := by decide +kernel
theorem dX0_there_6 : decode cX0_there 6 = .ok (.getfield 47, 3) := by decide +kernel
theorem dX0_there_9 : decode cX0_there 9 = .ok (.if_icmp .ge 23, 3) := by decide +kernel
theorem dX0_there_12 : decode cX0_there 12 = .ok (.aload_n 0, 1) := by decide +kernel
theorem dX0_there_13 : decode cX0_there 13 = .ok (.iload_n 2, 1) := by decide +kernel
theorem dX0_there_14 : decode cX0_there 14 = .ok (.invokevirtual 53, 3) := by decide +kernel
theorem dX0_there_17 : decode cX0_there 17 = .ok (.ifCond .eq 9, 3) := by decide +kernel
theorem dX0_there_20 : decode cX0_there 20 = .ok (.iload_n 1, 1) := by decide +kernel
theorem dX0_there_21 : decode cX0_there 21 = .ok (.iconst 1, 1) := by decide +kernel
theorem dX0_there_22 : decode cX0_there 22 = .ok (.iload_n 2, 1) := by decide +kernel
theorem dX0_there_23 : decode cX0_there 23 = .ok (.ishl, 1) := by decide +kernel
theorem dX0_there_24 : decode cX0_there 24 = .ok (.ior, 1) := by decide +kernel
theorem dX0_there_25 : decode cX0_there 25 = .ok (.istore_n 1, 1) := by decide +kernel
theorem dX0_there_26 : decode cX0_there 26 = .ok (.iinc 2 1, 3) := by decide +kernel
theorem dX0_there_29 : decode cX0_there 29 = .ok (.goto (-25), 3) := by decide +kernel
theorem dX0_there_32 : decode cX0_there 32 = .ok (.iload_n 1, 1) := by decide +kernel
theorem dX0_there_33 : decode cX0_there 33 = .ok (.ireturn, 1) := by decide +kernel
set_option maxRecDepth 100000 in
set_option maxHeartbeats 40000000 in
theorem gx_X0_there {G : vG} {l : Launch} (σ : Sg)  (hI : Inv σ) : Sp G l yX0_there cX0_there 3 (some .int) 1 0 0 [.ref 1] (WW σ) (QI (fun x w2 => w2 = WW σ)) := by
  refine Sp_of_R [(some (.ref 1)), none, none] [none, none] rfl (by simp) rfl (Nat.le_of_ble_eq_true rfl) ?_
  refine R_iconst (pc := 0) (v := 0) dX0_there_0 (by decide) ?_
  refine st_3_1_i_a (pc := 1) dX0_there_1 ?_
  refine R_iconst (pc := 2) (v := 0) dX0_there_2 (by decide) ?_
  refine st_3_2_i_i (pc := 3) dX0_there_3 ?_
  have HL4 : ∀ (q j4 : Nat) (g1_4 : Int32), j4 + q = 20 → 0 ≤ j4 → R G l yX0_there cX0_there 3 (some .int) 1 0 0 (QI (fun x w2 => w2 = WW σ)) 4 [(some (.ref 1)), (some (.int g1_4)), (some (.int (nI j4)))] [] (WW σ) 0 0 := by
    intro q
    induction q with
    | zero =>
      intro j4 g1_4 hj hs4
      obtain rfl : j4 = 20 := by omega
      refine R_iload_n (pc := 4) dX0_there_4 rfl rfl ?_
      refine R_aload_n (pc := 5) dX0_there_5 rfl rfl ?_
      refine g_X0_47 (pc := 6) (v := .int (σ.1 110)) rfl dX0_there_6 (c_1 _) rfl ?_
      refine R_icge (pc := 9) 32 dX0_there_9 (by decide) (fun _ => ?_) (fun h => absurd (Int32.not_lt.mp (inR_up (iv_110 hI) (Int32.le_refl _) (by decide)).2) h)
      refine R_iload_n (pc := 32) dX0_there_32 rfl rfl ?_
      exact R_iret (pc := 33) dX0_there_33 rfl rfl (Nat.zero_le _) (Nat.zero_le _) ⟨_, rfl, rfl⟩
    | succ q ih4 =>
      intro j4 g1_4 hj hs4
      have hrg4 : inR (nI j4) 0 19 := inR_ix hs4 (show j4 < 20 by omega) (by decide) (by decide) (by decide)
      have hlt4 : j4 < 20 := by omega
      refine R_iload_n (pc := 4) dX0_there_4 rfl rfl ?_
      refine R_aload_n (pc := 5) dX0_there_5 rfl rfl ?_
      refine g_X0_47 (pc := 6) (v := .int (σ.1 110)) rfl dX0_there_6 (c_1 _) rfl ?_
      refine R_icge (pc := 9) 32 dX0_there_9 (by decide) (fun b9_2 => ?_) (fun b9_2 => ?_)
      · skip
        refine R_iload_n (pc := 32) dX0_there_32 rfl rfl ?_
        exact R_iret (pc := 33) dX0_there_33 rfl rfl (Nat.zero_le _) (Nat.zero_le _) ⟨_, rfl, rfl⟩
      · skip
        refine R_aload_n (pc := 12) dX0_there_12 rfl rfl ?_
        refine R_iload_n (pc := 13) dX0_there_13 rfl rfl ?_
        refine k_X0_53 (pc := 14) (gx_X0_isThere _ _ hI) rfl (c_1 _) (by decide) (Nat.le_refl _) (Nat.le_refl _) (Nat.le_of_ble_eq_true rfl) dX0_there_14 (fun x w2 h => ?_)
        rcases h with ⟨rfl, ⟨h3, rfl⟩ | rfl⟩
        · skip
          refine R_ifeq (pc := 17) 26 dX0_there_17 (by decide) (fun h => absurd h (by decide)) (fun _ => ?_)
          refine R_iload_n (pc := 20) dX0_there_20 rfl rfl ?_
          refine R_iconst (pc := 21) (v := 1) dX0_there_21 (by decide) ?_
          refine R_iload_n (pc := 22) dX0_there_22 rfl rfl ?_
          refine R_ishl (pc := 23) dX0_there_23 ?_
          have r5 : inR (1 <<< ((nI j4) &&& 31)) 0 1048575 := shl20 h3
          refine R_ior (pc := 24) dX0_there_24 ?_
          refine st_3_1_i_a (pc := 25) dX0_there_25 ?_
          refine inc_3_2_1_i (pc := 26) dX0_there_26 ?_
          have r6 : inR ((nI j4) + 1) 1 20 := inR_add (show inR (nI j4) 0 19 from h3) (show inR 1 1 1 from (inR_self _)) (by decide) (by decide)
          have e7 := ti_add (l := 1) (h := 20) (show inR (nI j4) 0 19 from h3) (show inR 1 1 1 from (inR_self _)) (by decide) (by decide)
          refine R_goto (pc := 29) 4 dX0_there_29 (by decide) ?_
          rw [nI_1]
          exact ih4 (j4 + 1) _ (by omega) (by omega)
        · skip
          refine R_ifeq (pc := 17) 26 dX0_there_17 (by decide) (fun _ => ?_) (fun h => absurd (by decide) h)
          refine inc_3_2_1_i (pc := 26) dX0_there_26 ?_
          have r9 : inR ((nI j4) + 1) 1 20 := inR_add (show inR (nI j4) 0 19 from hrg4) (show inR 1 1 1 from (inR_self _)) (by decide) (by decide)
          have e10 := ti_add (l := 1) (h := 20) (show inR (nI j4) 0 19 from hrg4) (show inR 1 1 1 from (inR_self _)) (by decide) (by decide)
          refine R_goto (pc := 29) 4 dX0_there_29 (by decide) ?_
          rw [nI_1]
          exact ih4 (j4 + 1) _ (by omega) (by omega)
  exact HL4 20 0 _ (by omega) (by omega)
theorem dX0_valuesOf_0 : decode cX0_valuesOf 0 = .ok (.iconst 0, 1) := by decide +kernel
theorem dX0_valuesOf_1 : decode cX0_valuesOf 1 = .ok (.istore_n 2, 1) := by decide +kernel
theorem dX0_valuesOf_2 : decode cX0_valuesOf 2 = .ok (.iconst 0, 1) := by decide +kernel
theorem dX0_valuesOf_3 : decode cX0_valuesOf 3 = .ok (.istore_n 3, 1) := by decide +kernel
theorem dX0_valuesOf_4 : decode cX0_valuesOf 4 = .ok (.iload_n 3, 1) := by decide +kernel
theorem dX0_valuesOf_5 : decode cX0_valuesOf 5 = .ok (.bipush 20, 2) := by decide +kernel
theorem dX0_valuesOf_7 : decode cX0_valuesOf 7 = .ok (.if_icmp .ge 25, 3) := by decide +kernel
theorem dX0_valuesOf_10 : decode cX0_valuesOf 10 = .ok (.iload_n 0, 1) := by decide +kernel
theorem dX0_valuesOf_11 : decode cX0_valuesOf 11 = .ok (.iload_n 3, 1) := by decide +kernel
theorem dX0_valuesOf_12 : decode cX0_valuesOf 12 = .ok (.invokestatic 61, 3) := by decide +kernel
theorem dX0_valuesOf_15 : decode cX0_valuesOf 15 = .ok (.ifCond .eq 11, 3) := by decide +kernel
theorem dX0_valuesOf_18 : decode cX0_valuesOf 18 = .ok (.iload_n 2, 1) := by decide +kernel
theorem dX0_valuesOf_19 : decode cX0_valuesOf 19 = .ok (.iconst 1, 1) := by decide +kernel
theorem dX0_valuesOf_20 : decode cX0_valuesOf 20 = .ok (.aload_n 1, 1) := by decide +kernel
theorem dX0_valuesOf_21 : decode cX0_valuesOf 21 = .ok (.iload_n 3, 1) := by decide +kernel
theorem dX0_valuesOf_22 : decode cX0_valuesOf 22 = .ok (.iaload, 1) := by decide +kernel
theorem dX0_valuesOf_23 : decode cX0_valuesOf 23 = .ok (.ishl, 1) := by decide +kernel
theorem dX0_valuesOf_24 : decode cX0_valuesOf 24 = .ok (.ior, 1) := by decide +kernel
theorem dX0_valuesOf_25 : decode cX0_valuesOf 25 = .ok (.istore_n 2, 1) := by decide +kernel
theorem dX0_valuesOf_26 : decode cX0_valuesOf 26 = .ok (.iinc 3 1, 3) := by decide +kernel
theorem dX0_valuesOf_29 : decode cX0_valuesOf 29 = .ok (.goto (-25), 3) := by decide +kernel
theorem dX0_valuesOf_32 : decode cX0_valuesOf 32 = .ok (.iload_n 2, 1) := by decide +kernel
theorem dX0_valuesOf_33 : decode cX0_valuesOf 33 = .ok (.ireturn, 1) := by decide +kernel
set_option maxRecDepth 100000 in
set_option maxHeartbeats 40000000 in
theorem gx_X0_valuesOf_2 {G : vG} {l : Launch} (σ : Sg) (c : Int32) (hI : Inv σ) : Sp G l yX0_valuesOf cX0_valuesOf 4 (some .int) 1 0 0 [.int c, .ref 2] (WW σ) (QI (fun x w2 => w2 = WW σ)) := by
  refine Sp_of_R [(some (.int c)), (some (.ref 2)), none, none] [none, none] rfl (by simp) rfl (Nat.le_of_ble_eq_true rfl) ?_
  refine R_iconst (pc := 0) (v := 0) dX0_valuesOf_0 (by decide) ?_
  refine st_4_2_i_a (pc := 1) dX0_valuesOf_1 ?_
  refine R_iconst (pc := 2) (v := 0) dX0_valuesOf_2 (by decide) ?_
  refine st_4_3_i_i (pc := 3) dX0_valuesOf_3 ?_
  have HL4 : ∀ (q j4 : Nat) (g2_4 : Int32), j4 + q = 20 → 0 ≤ j4 → R G l yX0_valuesOf cX0_valuesOf 4 (some .int) 1 0 0 (QI (fun x w2 => w2 = WW σ)) 4 [(some (.int c)), (some (.ref 2)), (some (.int g2_4)), (some (.int (nI j4)))] [] (WW σ) 0 0 := by
    intro q
    induction q with
    | zero =>
      intro j4 g2_4 hj hs4
      obtain rfl : j4 = 20 := by omega
      refine R_iload_n (pc := 4) dX0_valuesOf_4 rfl rfl ?_
      refine R_bipush (pc := 5) (v := 20) dX0_valuesOf_5 (by decide) ?_
      refine R_icge (pc := 7) 32 dX0_valuesOf_7 (by decide) (fun _ => ?_) (fun h => absurd (by decide) h)
      refine R_iload_n (pc := 32) dX0_valuesOf_32 rfl rfl ?_
      exact R_iret (pc := 33) dX0_valuesOf_33 rfl rfl (Nat.zero_le _) (Nat.zero_le _) ⟨_, rfl, rfl⟩
    | succ q ih4 =>
      intro j4 g2_4 hj hs4
      have hrg4 : inR (nI j4) 0 19 := inR_ix hs4 (show j4 < 20 by omega) (by decide) (by decide) (by decide)
      have hlt4 : j4 < 20 := by omega
      refine R_iload_n (pc := 4) dX0_valuesOf_4 rfl rfl ?_
      refine R_bipush (pc := 5) (v := 20) dX0_valuesOf_5 (by decide) ?_
      refine R_icge (pc := 7) 32 dX0_valuesOf_7 (by decide) (fun h => False.elim (by have q1 := ti_le h; have q2 := ti_in (show inR (nI j4) 0 19 from hrg4); have q3 := ti_in (show inR 20 20 20 from (inR_self _)); have z0 : (0 : Int32).toInt = 0 := (by decide);  have z1 : (19 : Int32).toInt = 19 := (by decide);  have z2 : (20 : Int32).toInt = 20 := (by decide); omega)) (fun _ => ?_)
      refine R_iload_n (pc := 10) dX0_valuesOf_10 rfl rfl ?_
      refine R_iload_n (pc := 11) dX0_valuesOf_11 rfl rfl ?_
      refine k_X0_61 (pc := 12) (sp_X8_has _ _ _) rfl (by decide) (Nat.le_refl _) (Nat.le_refl _) (Nat.le_of_ble_eq_true rfl) dX0_valuesOf_12 (fun x w2 h => ?_)
      rcases h with ⟨rfl, ⟨-, rfl⟩ | ⟨-, rfl⟩⟩
      · skip
        refine R_ifeq (pc := 15) 26 dX0_valuesOf_15 (by decide) (fun h => absurd h (by decide)) (fun _ => ?_)
        refine R_iload_n (pc := 18) dX0_valuesOf_18 rfl rfl ?_
        refine R_iconst (pc := 19) (v := 1) dX0_valuesOf_19 (by decide) ?_
        refine R_aload_n (pc := 20) dX0_valuesOf_20 rfl rfl ?_
        refine R_iload_n (pc := 21) dX0_valuesOf_21 rfl rfl ?_
        have hx4 : vp_in (nI j4) 20 := (vp_in_nI (by omega) (by decide))
        refine R_iaload (pc := 22) dX0_valuesOf_22 (c_2 _) hx4 ?_
        refine R_ishl (pc := 23) dX0_valuesOf_23 ?_
        refine R_ior (pc := 24) dX0_valuesOf_24 ?_
        refine st_4_2_i_a (pc := 25) dX0_valuesOf_25 ?_
        refine inc_4_3_1_i (pc := 26) dX0_valuesOf_26 ?_
        have r5 : inR ((nI j4) + 1) 1 20 := inR_add (show inR (nI j4) 0 19 from hrg4) (show inR 1 1 1 from (inR_self _)) (by decide) (by decide)
        have e6 := ti_add (l := 1) (h := 20) (show inR (nI j4) 0 19 from hrg4) (show inR 1 1 1 from (inR_self _)) (by decide) (by decide)
        refine R_goto (pc := 29) 4 dX0_valuesOf_29 (by decide) ?_
        rw [nI_1]
        exact ih4 (j4 + 1) _ (by omega) (by omega)
      · skip
        refine R_ifeq (pc := 15) 26 dX0_valuesOf_15 (by decide) (fun _ => ?_) (fun h => absurd (by decide) h)
        refine inc_4_3_1_i (pc := 26) dX0_valuesOf_26 ?_
        have r8 : inR ((nI j4) + 1) 1 20 := inR_add (show inR (nI j4) 0 19 from hrg4) (show inR 1 1 1 from (inR_self _)) (by decide) (by decide)
        have e9 := ti_add (l := 1) (h := 20) (show inR (nI j4) 0 19 from hrg4) (show inR 1 1 1 from (inR_self _)) (by decide) (by decide)
        refine R_goto (pc := 29) 4 dX0_valuesOf_29 (by decide) ?_
        rw [nI_1]
        exact ih4 (j4 + 1) _ (by omega) (by omega)
  exact HL4 20 0 _ (by omega) (by omega)
theorem dX0_listsOf_0 : decode cX0_listsOf 0 = .ok (.iload_n 1, 1) := by decide +kernel
theorem dX0_listsOf_1 : decode cX0_listsOf 1 = .ok (.aload_n 0, 1) := by decide +kernel
theorem dX0_listsOf_2 : decode cX0_listsOf 2 = .ok (.getfield 9, 3) := by decide +kernel
theorem dX0_listsOf_5 : decode cX0_listsOf 5 = .ok (.invokestatic 57, 3) := by decide +kernel
theorem dX0_listsOf_8 : decode cX0_listsOf 8 = .ok (.ireturn, 1) := by decide +kernel
set_option maxRecDepth 100000 in
set_option maxHeartbeats 40000000 in
theorem gx_X0_listsOf {G : vG} {l : Launch} (σ : Sg) (c : Int32) (hI : Inv σ) : Sp G l yX0_listsOf cX0_listsOf 2 (some .int) 2 0 0 [.ref 1, .int c] (WW σ) (QI (fun x w2 => w2 = WW σ)) := by
  refine Sp_of_R [(some (.ref 1)), (some (.int c))] [] rfl (by simp) rfl (Nat.le_of_ble_eq_true rfl) ?_
  refine R_iload_n (pc := 0) dX0_listsOf_0 rfl rfl ?_
  refine R_aload_n (pc := 1) dX0_listsOf_1 rfl rfl ?_
  refine g_X0_9 (pc := 2) (v := .ref 2) rfl dX0_listsOf_2 (c_1 _) rfl ?_
  refine k_X0_57 (pc := 5) (gx_X0_valuesOf_2 _ _ hI) rfl (by decide) (Nat.le_refl _) (Nat.le_refl _) (Nat.le_of_ble_eq_true rfl) dX0_listsOf_5 (fun y1 w2 h => ?_)
  subst h
  exact R_iret (pc := 8) dX0_listsOf_8 rfl rfl (Nat.zero_le _) (Nat.zero_le _) ⟨_, rfl, rfl⟩
theorem dX0_publishersOf_0 : decode cX0_publishersOf 0 = .ok (.iload_n 1, 1) := by decide +kernel
theorem dX0_publishersOf_1 : decode cX0_publishersOf 1 = .ok (.aload_n 0, 1) := by decide +kernel
theorem dX0_publishersOf_2 : decode cX0_publishersOf 2 = .ok (.getfield 15, 3) := by decide +kernel
theorem dX0_publishersOf_5 : decode cX0_publishersOf 5 = .ok (.invokestatic 57, 3) := by decide +kernel
theorem dX0_publishersOf_8 : decode cX0_publishersOf 8 = .ok (.ireturn, 1) := by decide +kernel
theorem dX0_tell_0 : decode cX0_tell 0 = .ok (.aload_n 0, 1) := by decide +kernel
theorem dX0_tell_1 : decode cX0_tell 1 = .ok (.getfield 9, 3) := by decide +kernel
theorem dX0_tell_4 : decode cX0_tell 4 = .ok (.aload_n 0, 1) := by decide +kernel
theorem dX0_tell_5 : decode cX0_tell 5 = .ok (.getfield 47, 3) := by decide +kernel
theorem dX0_tell_8 : decode cX0_tell 8 = .ok (.iload_n 1, 1) := by decide +kernel
theorem dX0_tell_9 : decode cX0_tell 9 = .ok (.iastore, 1) := by decide +kernel
theorem dX0_tell_10 : decode cX0_tell 10 = .ok (.aload_n 0, 1) := by decide +kernel
theorem dX0_tell_11 : decode cX0_tell 11 = .ok (.getfield 15, 3) := by decide +kernel
theorem dX0_tell_14 : decode cX0_tell 14 = .ok (.aload_n 0, 1) := by decide +kernel
theorem dX0_tell_15 : decode cX0_tell 15 = .ok (.getfield 47, 3) := by decide +kernel
theorem dX0_tell_18 : decode cX0_tell 18 = .ok (.iload_n 2, 1) := by decide +kernel
theorem dX0_tell_19 : decode cX0_tell 19 = .ok (.iastore, 1) := by decide +kernel
theorem dX0_tell_20 : decode cX0_tell 20 = .ok (.aload_n 0, 1) := by decide +kernel
theorem dX0_tell_21 : decode cX0_tell 21 = .ok (.getfield 18, 3) := by decide +kernel
theorem dX0_tell_24 : decode cX0_tell 24 = .ok (.aload_n 0, 1) := by decide +kernel
theorem dX0_tell_25 : decode cX0_tell 25 = .ok (.getfield 47, 3) := by decide +kernel
theorem dX0_tell_28 : decode cX0_tell 28 = .ok (.iload_n 3, 1) := by decide +kernel
theorem dX0_tell_29 : decode cX0_tell 29 = .ok (.iastore, 1) := by decide +kernel
theorem dX0_tell_30 : decode cX0_tell 30 = .ok (.aload_n 0, 1) := by decide +kernel
theorem dX0_tell_31 : decode cX0_tell 31 = .ok (.getfield 21, 3) := by decide +kernel
theorem dX0_tell_34 : decode cX0_tell 34 = .ok (.aload_n 0, 1) := by decide +kernel
theorem dX0_tell_35 : decode cX0_tell 35 = .ok (.getfield 47, 3) := by decide +kernel
theorem dX0_tell_38 : decode cX0_tell 38 = .ok (.iload 4, 2) := by decide +kernel
theorem dX0_tell_40 : decode cX0_tell 40 = .ok (.iastore, 1) := by decide +kernel
theorem dX0_tell_41 : decode cX0_tell 41 = .ok (.aload_n 0, 1) := by decide +kernel
theorem dX0_tell_42 : decode cX0_tell 42 = .ok (.getfield 24, 3) := by decide +kernel
theorem dX0_tell_45 : decode cX0_tell 45 = .ok (.aload_n 0, 1) := by decide +kernel
theorem dX0_tell_46 : decode cX0_tell 46 = .ok (.getfield 47, 3) := by decide +kernel
theorem dX0_tell_49 : decode cX0_tell 49 = .ok (.lload 5, 2) := by decide +kernel
theorem dX0_tell_51 : decode cX0_tell 51 = .ok (.lastore, 1) := by decide +kernel
theorem dX0_tell_52 : decode cX0_tell 52 = .ok (.aload_n 0, 1) := by decide +kernel
theorem dX0_tell_53 : decode cX0_tell 53 = .ok (.getfield 28, 3) := by decide +kernel
theorem dX0_tell_56 : decode cX0_tell 56 = .ok (.aload_n 0, 1) := by decide +kernel
theorem dX0_tell_57 : decode cX0_tell 57 = .ok (.getfield 47, 3) := by decide +kernel
theorem dX0_tell_60 : decode cX0_tell 60 = .ok (.iload 7, 2) := by decide +kernel
theorem dX0_tell_62 : decode cX0_tell 62 = .ok (.iastore, 1) := by decide +kernel
theorem dX0_tell_63 : decode cX0_tell 63 = .ok (.aload_n 0, 1) := by decide +kernel
theorem dX0_tell_64 : decode cX0_tell 64 = .ok (.getfield 31, 3) := by decide +kernel
theorem dX0_tell_67 : decode cX0_tell 67 = .ok (.aload_n 0, 1) := by decide +kernel
theorem dX0_tell_68 : decode cX0_tell 68 = .ok (.getfield 47, 3) := by decide +kernel
theorem dX0_tell_71 : decode cX0_tell 71 = .ok (.iload 8, 2) := by decide +kernel
theorem dX0_tell_73 : decode cX0_tell 73 = .ok (.iastore, 1) := by decide +kernel
theorem dX0_tell_74 : decode cX0_tell 74 = .ok (.aload_n 0, 1) := by decide +kernel
theorem dX0_tell_75 : decode cX0_tell 75 = .ok (.getfield 34, 3) := by decide +kernel
theorem dX0_tell_78 : decode cX0_tell 78 = .ok (.aload_n 0, 1) := by decide +kernel
theorem dX0_tell_79 : decode cX0_tell 79 = .ok (.getfield 47, 3) := by decide +kernel
theorem dX0_tell_82 : decode cX0_tell 82 = .ok (.aload_n 0, 1) := by decide +kernel
theorem dX0_tell_83 : decode cX0_tell 83 = .ok (.getfield 50, 3) := by decide +kernel
theorem dX0_tell_86 : decode cX0_tell 86 = .ok (.iastore, 1) := by decide +kernel
theorem dX0_tell_87 : decode cX0_tell 87 = .ok (.aload_n 0, 1) := by decide +kernel
theorem dX0_tell_88 : decode cX0_tell 88 = .ok (.dup, 1) := by decide +kernel
theorem dX0_tell_89 : decode cX0_tell 89 = .ok (.getfield 47, 3) := by decide +kernel
theorem dX0_tell_92 : decode cX0_tell 92 = .ok (.iconst 1, 1) := by decide +kernel
theorem dX0_tell_93 : decode cX0_tell 93 = .ok (.iadd, 1) := by decide +kernel
theorem dX0_tell_94 : decode cX0_tell 94 = .ok (.putfield 47, 3) := by decide +kernel
theorem dX0_tell_97 : decode cX0_tell 97 = .ok (.return_, 1) := by decide +kernel
