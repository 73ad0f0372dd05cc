/-! methods on any state that keeps the invariant -/
set_option maxRecDepth 100000 in
set_option maxHeartbeats 40000000 in
theorem ge_X9_bits {G : vG} {l : Launch} (w : VW) (a : Int32) : Sp G l yX9_bits cX9_bits 3 (some .int) 0 0 0 [.int a] (w) (QI (fun x w2 => w2 = w ∧ x = nI (cb a 20))) := by
  refine Sp_of_R [(some (.int a)), none, none] [none, none] rfl (by simp) rfl (Nat.le_of_ble_eq_true rfl) ?_
  refine R_iconst (pc := 0) (v := 0) dX9_bits_0 (by decide) ?_
  refine st_3_1_i_i (pc := 1) dX9_bits_1 ?_
  refine R_iconst (pc := 2) (v := 0) dX9_bits_2 (by decide) ?_
  refine st_3_2_i_i (pc := 3) dX9_bits_3 ?_
  have HL4 : ∀ (q j4 : Nat) (g1_4 : Int32), j4 + q = 20 → 0 ≤ j4 → g1_4 = nI (cb a j4) → R G l yX9_bits cX9_bits 3 (some .int) 0 0 0 (QI (fun x w2 => w2 = w ∧ x = nI (cb a 20))) 4 [(some (.int a)), (some (.int g1_4)), (some (.int (nI j4)))] [] (w) 0 0 := by
    intro q
    induction q with
    | zero =>
      intro j4 g1_4 hj hs4 hX4_0
      obtain rfl : j4 = 20 := by omega
      refine R_iload_n (pc := 4) dX9_bits_4 rfl rfl ?_
      refine R_bipush (pc := 5) (v := 20) dX9_bits_5 (by decide) ?_
      refine R_icge (pc := 7) 24 dX9_bits_7 (by decide) (fun _ => ?_) (fun h => absurd (by decide) h)
      refine R_iload_n (pc := 24) dX9_bits_24 rfl rfl ?_
      exact R_iret (pc := 25) dX9_bits_25 rfl rfl (Nat.zero_le _) (Nat.zero_le _) ⟨_, rfl, rfl, hX4_0⟩
    | succ q ih4 =>
      intro j4 g1_4 hj hs4 hX4_0
      have hrg4 : inR (nI j4) 0 19 := inR_ix hs4 (show j4 < 20 by omega) (by decide) (by decide) (by decide)
      have hlt4 : j4 < 20 := by omega
      refine R_iload_n (pc := 4) dX9_bits_4 rfl rfl ?_
      refine R_bipush (pc := 5) (v := 20) dX9_bits_5 (by decide) ?_
      refine R_icge (pc := 7) 24 dX9_bits_7 (by decide) (fun h => False.elim (by have q1 := ti_le h; have q2 := ti_in (show inR (nI j4) 0 19 from hrg4); have q3 := ti_in (show inR 20 20 20 from (inR_self _)); have z0 : (0 : Int32).toInt = 0 := (by decide);  have z1 : (19 : Int32).toInt = 19 := (by decide);  have z2 : (20 : Int32).toInt = 20 := (by decide); omega)) (fun _ => ?_)
      refine R_iload_n (pc := 10) dX9_bits_10 rfl rfl ?_
      refine R_iload_n (pc := 11) dX9_bits_11 rfl rfl ?_
      refine R_iload_n (pc := 12) dX9_bits_12 rfl rfl ?_
      refine R_ishr (pc := 13) dX9_bits_13 ?_
      refine R_iconst (pc := 14) (v := 1) dX9_bits_14 (by decide) ?_
      refine R_iand (pc := 15) dX9_bits_15 ?_
      refine R_iadd (pc := 16) dX9_bits_16 ?_
      refine st_3_1_i_i (pc := 17) dX9_bits_17 ?_
      refine inc_3_2_1_i (pc := 18) dX9_bits_18 ?_
      have r3 : inR ((nI j4) + 1) 1 20 := inR_add (show inR (nI j4) 0 19 from hrg4) (show inR 1 1 1 from (inR_self _)) (by decide) (by decide)
      have e4 := ti_add (l := 1) (h := 20) (show inR (nI j4) 0 19 from hrg4) (show inR 1 1 1 from (inR_self _)) (by decide) (by decide)
      refine R_goto (pc := 21) 4 dX9_bits_21 (by decide) ?_
      rw [nI_1]
      exact ih4 (j4 + 1) _ (by omega) (by omega) (cb_step hX4_0 (by omega))
  exact HL4 20 0 _ (by omega) (by omega) (show (0 : Int32) = nI (cb a 0) from rfl)
set_option maxRecDepth 100000 in
set_option maxHeartbeats 40000000 in
theorem ge_X9_listsOf {G : vG} {l : Launch} (σ : Sg) (a : Int32) (hI : Inv σ) : Sp G l yX9_listsOf cX9_listsOf 4 (some .int) 1 0 0 [.ref 140, .int a] (WW σ) (QI (fun x w2 => w2 = WW σ ∧ x = lsR (σ.2.2.1 153) (σ.2.2.1 141) a (tm (σ.1 14000) (σ.1 14013) (σ.2.2.1 148)))) := by
  refine Sp_of_R [(some (.ref 140)), (some (.int a)), none, none] [none, none] rfl (by simp) rfl (Nat.le_of_ble_eq_true rfl) ?_
  refine R_iconst (pc := 0) (v := 0) dX9_listsOf_0 (by decide) ?_
  refine st_4_2_i_i (pc := 1) dX9_listsOf_1 ?_
  refine R_iconst (pc := 2) (v := 0) dX9_listsOf_2 (by decide) ?_
  refine st_4_3_i_i (pc := 3) dX9_listsOf_3 ?_
  have HL4 : ∀ (q j4 : Nat) (g2_4 : Int32), j4 + q = 20 → 0 ≤ j4 → g2_4 = lsR (σ.2.2.1 153) (σ.2.2.1 141) a j4 → j4 ≤ (tm (σ.1 14000) (σ.1 14013) (σ.2.2.1 148)) → R G l yX9_listsOf cX9_listsOf 4 (some .int) 1 0 0 (QI (fun x w2 => w2 = WW σ ∧ x = lsR (σ.2.2.1 153) (σ.2.2.1 141) a (tm (σ.1 14000) (σ.1 14013) (σ.2.2.1 148)))) 4 [(some (.ref 140)), (some (.int a)), (some (.int g2_4)), (some (.int (nI j4)))] [] (WW σ) 0 0 := by
    intro q
    induction q with
    | zero =>
      intro j4 g2_4 hj hs4 hX4_0 hX4_1
      obtain rfl : j4 = 20 := by omega
      refine R_iload_n (pc := 4) dX9_listsOf_4 rfl rfl ?_
      refine R_aload_n (pc := 5) dX9_listsOf_5 rfl rfl ?_
      refine k_X9_120 (pc := 6) (ge_X9_thereMany _ hI) rfl (c_140 _) (by decide) (Nat.le_refl _) (Nat.le_refl _) (Nat.le_of_ble_eq_true rfl) dX9_listsOf_6 (fun x w2 h => ?_)
      obtain ⟨rfl, rfl⟩ := h
      refine R_icge (pc := 9) 43 dX9_listsOf_9 (by decide) (fun _ => ?_) (fun h => absurd (Int32.not_lt.mp (inR_up (tm_in (σ.1 14000) (σ.1 14013) (σ.2.2.1 148)) (Int32.le_refl _) (by decide)).2) h)
      refine R_iload_n (pc := 43) dX9_listsOf_43 rfl rfl ?_
      exact R_iret (pc := 44) dX9_listsOf_44 rfl rfl (Nat.zero_le _) (Nat.zero_le _) ⟨_, rfl, rfl, (hX4_0.trans (congrArg (lsR (σ.2.2.1 153) (σ.2.2.1 141) a) (by first | exact tm_ex20 hX4_1 | exact tm_exit (by omega) hX4_1 (by assumption))))⟩
    | succ q ih4 =>
      intro j4 g2_4 hj hs4 hX4_0 hX4_1
      have hrg4 : inR (nI j4) 0 19 := inR_ix hs4 (show j4 < 20 by omega) (by decide) (by decide) (by decide)
      have hlt4 : j4 < 20 := by omega
      refine R_iload_n (pc := 4) dX9_listsOf_4 rfl rfl ?_
      refine R_aload_n (pc := 5) dX9_listsOf_5 rfl rfl ?_
      refine k_X9_120 (pc := 6) (ge_X9_thereMany _ hI) rfl (c_140 _) (by decide) (Nat.le_refl _) (Nat.le_refl _) (Nat.le_of_ble_eq_true rfl) dX9_listsOf_6 (fun x w2 h => ?_)
      obtain ⟨rfl, rfl⟩ := h
      refine R_icge (pc := 9) 43 dX9_listsOf_9 (by decide) (fun b9_2 => ?_) (fun b9_2 => ?_)
      · skip
        refine R_iload_n (pc := 43) dX9_listsOf_43 rfl rfl ?_
        exact R_iret (pc := 44) dX9_listsOf_44 rfl rfl (Nat.zero_le _) (Nat.zero_le _) ⟨_, rfl, rfl, (hX4_0.trans (congrArg (lsR (σ.2.2.1 153) (σ.2.2.1 141) a) (by first | exact tm_ex20 hX4_1 | exact tm_exit (by omega) hX4_1 (by assumption))))⟩
      · skip
        refine R_iload_n (pc := 12) dX9_listsOf_12 rfl rfl ?_
        refine R_aload_n (pc := 13) dX9_listsOf_13 rfl rfl ?_
        refine g_X9_57 (pc := 14) (v := .ref 153) rfl dX9_listsOf_14 (c_140 _) rfl ?_
        refine R_iload_n (pc := 17) dX9_listsOf_17 rfl rfl ?_
        have hx3 : vp_in (nI j4) 20 := (vp_in_nI (by omega) (by decide))
        refine R_iaload (pc := 18) dX9_listsOf_18 (c_153 _) hx3 ?_
        refine R_iload_n (pc := 19) dX9_listsOf_19 rfl rfl ?_
        refine R_icne (pc := 20) 34 dX9_listsOf_20 (by decide) (fun b20_4 => ?_) (fun b20_4 => ?_)
        · skip
          refine R_iconst (pc := 34) (v := 0) dX9_listsOf_34 (by decide) ?_
          refine R_ior (pc := 35) dX9_listsOf_35 ?_
          refine st_4_2_i_i (pc := 36) dX9_listsOf_36 ?_
          refine inc_4_3_1_i (pc := 37) dX9_listsOf_37 ?_
          have r5 : inR ((nI j4) + 1) 1 20 := inR_add (show inR (nI j4) 0 19 from hrg4) (show inR 1 1 1 from (inR_self _)) (by decide) (by decide)
          have e6 := ti_add (l := 1) (h := 20) (show inR (nI j4) 0 19 from hrg4) (show inR 1 1 1 from (inR_self _)) (by decide) (by decide)
          refine R_goto (pc := 40) 4 dX9_listsOf_40 (by decide) ?_
          rw [nI_1]
          exact ih4 (j4 + 1) _ (by omega) (by omega) (ls_s2 hX4_0 (by omega) b20_4) (tm_next (by omega) b9_2)
        · skip
          refine R_iconst (pc := 23) (v := 1) dX9_listsOf_23 (by decide) ?_
          refine R_aload_n (pc := 24) dX9_listsOf_24 rfl rfl ?_
          refine g_X9_7 (pc := 25) (v := .ref 141) rfl dX9_listsOf_25 (c_140 _) rfl ?_
          refine R_iload_n (pc := 28) dX9_listsOf_28 rfl rfl ?_
          have hx7 : vp_in (nI j4) 20 := (vp_in_nI (by omega) (by decide))
          refine R_iaload (pc := 29) dX9_listsOf_29 (c_141 _) hx7 ?_
          refine R_ishl (pc := 30) dX9_listsOf_30 ?_
          have r8 : inR (1 <<< ((σ.2.2.1 141 (Int32.toNatClampNeg (nI j4))) &&& 31)) 0 1048575 := shl20 (inR_up (iva_141 hI _ (lt_of_vp hx7)) (by decide) (by decide))
          refine R_goto (pc := 31) 35 dX9_listsOf_31 (by decide) ?_
          refine R_ior (pc := 35) dX9_listsOf_35 ?_
          refine st_4_2_i_i (pc := 36) dX9_listsOf_36 ?_
          refine inc_4_3_1_i (pc := 37) dX9_listsOf_37 ?_
          have r9 : inR ((nI j4) + 1) 1 20 := inR_add (show inR (nI j4) 0 19 from hrg4) (show inR 1 1 1 from (inR_self _)) (by decide) (by decide)
          have e10 := ti_add (l := 1) (h := 20) (show inR (nI j4) 0 19 from hrg4) (show inR 1 1 1 from (inR_self _)) (by decide) (by decide)
          refine R_goto (pc := 40) 4 dX9_listsOf_40 (by decide) ?_
          rw [nI_1]
          exact ih4 (j4 + 1) _ (by omega) (by omega) (ls_s1 hX4_0 (by omega) b20_4) (tm_next (by omega) b9_2)
  exact HL4 20 0 _ (by omega) (by omega) rfl (Nat.zero_le _)
theorem dX9_priceOf_0 : decode cX9_priceOf 0 = .ok (.aload_n 0, 1) := by decide +kernel
theorem dX9_priceOf_1 : decode cX9_priceOf 1 = .ok (.getfield 48, 3) := by decide +kernel
theorem dX9_priceOf_4 : decode cX9_priceOf 4 = .ok (.aload_n 0, 1) := by decide +kernel
theorem dX9_priceOf_5 : decode cX9_priceOf 5 = .ok (.aload_n 0, 1) := by decide +kernel
theorem dX9_priceOf_6 : decode cX9_priceOf 6 = .ok (.getfield 57, 3) := by decide +kernel
theorem dX9_priceOf_9 : decode cX9_priceOf 9 = .ok (.iload_n 1, 1) := by decide +kernel
theorem dX9_priceOf_10 : decode cX9_priceOf 10 = .ok (.iaload, 1) := by decide +kernel
theorem dX9_priceOf_11 : decode cX9_priceOf 11 = .ok (.invokevirtual 169, 3) := by decide +kernel
theorem dX9_priceOf_14 : decode cX9_priceOf 14 = .ok (.invokestatic 173, 3) := by decide +kernel
theorem dX9_priceOf_17 : decode cX9_priceOf 17 = .ok (.idiv, 1) := by decide +kernel
theorem dX9_priceOf_18 : decode cX9_priceOf 18 = .ok (.istore_n 2, 1) := by decide +kernel
theorem dX9_priceOf_19 : decode cX9_priceOf 19 = .ok (.aload_n 0, 1) := by decide +kernel
theorem dX9_priceOf_20 : decode cX9_priceOf 20 = .ok (.getfield 16, 3) := by decide +kernel
theorem dX9_priceOf_23 : decode cX9_priceOf 23 = .ok (.iload_n 1, 1) := by decide +kernel
theorem dX9_priceOf_24 : decode cX9_priceOf 24 = .ok (.iaload, 1) := by decide +kernel
theorem dX9_priceOf_25 : decode cX9_priceOf 25 = .ok (.istore_n 3, 1) := by decide +kernel
theorem dX9_priceOf_26 : decode cX9_priceOf 26 = .ok (.iload_n 3, 1) := by decide +kernel
theorem dX9_priceOf_27 : decode cX9_priceOf 27 = .ok (.ifCond .le 39, 3) := by decide +kernel
theorem dX9_priceOf_30 : decode cX9_priceOf 30 = .ok (.aload_n 0, 1) := by decide +kernel
theorem dX9_priceOf_31 : decode cX9_priceOf 31 = .ok (.aload_n 0, 1) := by decide +kernel
theorem dX9_priceOf_32 : decode cX9_priceOf 32 = .ok (.getfield 13, 3) := by decide +kernel
theorem dX9_priceOf_35 : decode cX9_priceOf 35 = .ok (.iload_n 1, 1) := by decide +kernel
theorem dX9_priceOf_36 : decode cX9_priceOf 36 = .ok (.iaload, 1) := by decide +kernel
theorem dX9_priceOf_37 : decode cX9_priceOf 37 = .ok (.iload_n 3, 1) := by decide +kernel
theorem dX9_priceOf_38 : decode cX9_priceOf 38 = .ok (.iconst 1, 1) := by decide +kernel
theorem dX9_priceOf_39 : decode cX9_priceOf 39 = .ok (.isub, 1) := by decide +kernel
theorem dX9_priceOf_40 : decode cX9_priceOf 40 = .ok (.invokevirtual 176, 3) := by decide +kernel
theorem dX9_priceOf_43 : decode cX9_priceOf 43 = .ok (.ifCond .ne 19, 3) := by decide +kernel
theorem dX9_priceOf_46 : decode cX9_priceOf 46 = .ok (.aload_n 0, 1) := by decide +kernel
theorem dX9_priceOf_47 : decode cX9_priceOf 47 = .ok (.aload_n 0, 1) := by decide +kernel
theorem dX9_priceOf_48 : decode cX9_priceOf 48 = .ok (.getfield 13, 3) := by decide +kernel
theorem dX9_priceOf_51 : decode cX9_priceOf 51 = .ok (.iload_n 1, 1) := by decide +kernel
theorem dX9_priceOf_52 : decode cX9_priceOf 52 = .ok (.iaload, 1) := by decide +kernel
theorem dX9_priceOf_53 : decode cX9_priceOf 53 = .ok (.iload_n 3, 1) := by decide +kernel
theorem dX9_priceOf_54 : decode cX9_priceOf 54 = .ok (.iconst 1, 1) := by decide +kernel
theorem dX9_priceOf_55 : decode cX9_priceOf 55 = .ok (.iadd, 1) := by decide +kernel
theorem dX9_priceOf_56 : decode cX9_priceOf 56 = .ok (.invokevirtual 176, 3) := by decide +kernel
theorem dX9_priceOf_59 : decode cX9_priceOf 59 = .ok (.ifCond .eq 7, 3) := by decide +kernel
theorem dX9_priceOf_62 : decode cX9_priceOf 62 = .ok (.iconst 1, 1) := by decide +kernel
theorem dX9_priceOf_63 : decode cX9_priceOf 63 = .ok (.goto 4, 3) := by decide +kernel
theorem dX9_priceOf_66 : decode cX9_priceOf 66 = .ok (.iconst 0, 1) := by decide +kernel
theorem dX9_priceOf_67 : decode cX9_priceOf 67 = .ok (.istore 4, 2) := by decide +kernel
theorem dX9_priceOf_69 : decode cX9_priceOf 69 = .ok (.iload 4, 2) := by decide +kernel
theorem dX9_priceOf_71 : decode cX9_priceOf 71 = .ok (.ifCond .eq 11, 3) := by decide +kernel
theorem dX9_priceOf_74 : decode cX9_priceOf 74 = .ok (.iload_n 2, 1) := by decide +kernel
theorem dX9_priceOf_75 : decode cX9_priceOf 75 = .ok (.iload_n 2, 1) := by decide +kernel
theorem dX9_priceOf_76 : decode cX9_priceOf 76 = .ok (.iconst 2, 1) := by decide +kernel
theorem dX9_priceOf_77 : decode cX9_priceOf 77 = .ok (.idiv, 1) := by decide +kernel
theorem dX9_priceOf_78 : decode cX9_priceOf 78 = .ok (.iadd, 1) := by decide +kernel
theorem dX9_priceOf_79 : decode cX9_priceOf 79 = .ok (.goto 4, 3) := by decide +kernel
theorem dX9_priceOf_82 : decode cX9_priceOf 82 = .ok (.iload_n 2, 1) := by decide +kernel
theorem dX9_priceOf_83 : decode cX9_priceOf 83 = .ok (.istore_n 2, 1) := by decide +kernel
theorem dX9_priceOf_84 : decode cX9_priceOf 84 = .ok (.aload_n 0, 1) := by decide +kernel
theorem dX9_priceOf_85 : decode cX9_priceOf 85 = .ok (.iload_n 1, 1) := by decide +kernel
theorem dX9_priceOf_86 : decode cX9_priceOf 86 = .ok (.invokevirtual 179, 3) := by decide +kernel
theorem dX9_priceOf_89 : decode cX9_priceOf 89 = .ok (.ifCond .le 11, 3) := by decide +kernel
theorem dX9_priceOf_92 : decode cX9_priceOf 92 = .ok (.iload_n 2, 1) := by decide +kernel
theorem dX9_priceOf_93 : decode cX9_priceOf 93 = .ok (.iload_n 2, 1) := by decide +kernel
theorem dX9_priceOf_94 : decode cX9_priceOf 94 = .ok (.iconst 4, 1) := by decide +kernel
theorem dX9_priceOf_95 : decode cX9_priceOf 95 = .ok (.idiv, 1) := by decide +kernel
theorem dX9_priceOf_96 : decode cX9_priceOf 96 = .ok (.isub, 1) := by decide +kernel
theorem dX9_priceOf_97 : decode cX9_priceOf 97 = .ok (.goto 4, 3) := by decide +kernel
theorem dX9_priceOf_100 : decode cX9_priceOf 100 = .ok (.iload_n 2, 1) := by decide +kernel
theorem dX9_priceOf_101 : decode cX9_priceOf 101 = .ok (.ireturn, 1) := by decide +kernel
theorem dX9_of_0 : decode cX9_of 0 = .ok (.aload_n 0, 1) := by decide +kernel
theorem dX9_of_1 : decode cX9_of 1 = .ok (.iload_n 1, 1) := by decide +kernel
theorem dX9_of_2 : decode cX9_of 2 = .ok (.invokevirtual 135, 3) := by decide +kernel
theorem dX9_of_5 : decode cX9_of 5 = .ok (.ifCond .ne 6, 3) := by decide +kernel
theorem dX9_of_8 : decode cX9_of 8 = .ok (.bipush (-2), 2) := by decide +kernel
theorem dX9_of_10 : decode cX9_of 10 = .ok (.ireturn, 1) := by decide +kernel
theorem dX9_of_11 : decode cX9_of 11 = .ok (.iload_n 2, 1) := by decide +kernel
theorem dX9_of_12 : decode cX9_of 12 = .ok (.iconst 0, 1) := by decide +kernel
theorem dX9_of_13 : decode cX9_of 13 = .ok (.iconst 4, 1) := by decide +kernel
theorem dX9_of_14 : decode cX9_of 14 = .ok (.invokestatic 124, 3) := by decide +kernel
theorem dX9_of_17 : decode cX9_of 17 = .ok (.ifCond .ne 6, 3) := by decide +kernel
theorem dX9_of_20 : decode cX9_of 20 = .ok (.bipush (-3), 2) := by decide +kernel
theorem dX9_of_22 : decode cX9_of 22 = .ok (.ireturn, 1) := by decide +kernel
theorem dX9_of_23 : decode cX9_of 23 = .ok (.aload_n 0, 1) := by decide +kernel
theorem dX9_of_24 : decode cX9_of 24 = .ok (.invokevirtual 162, 3) := by decide +kernel
theorem dX9_of_27 : decode cX9_of 27 = .ok (.aload_n 0, 1) := by decide +kernel
theorem dX9_of_28 : decode cX9_of 28 = .ok (.aload_n 0, 1) := by decide +kernel
theorem dX9_of_29 : decode cX9_of 29 = .ok (.getfield 57, 3) := by decide +kernel
theorem dX9_of_32 : decode cX9_of 32 = .ok (.iconst 1, 1) := by decide +kernel
theorem dX9_of_33 : decode cX9_of 33 = .ok (.iconst (-1), 1) := by decide +kernel
theorem dX9_of_34 : decode cX9_of 34 = .ok (.invokevirtual 165, 3) := by decide +kernel
theorem dX9_of_37 : decode cX9_of 37 = .ok (.aload_n 0, 1) := by decide +kernel
theorem dX9_of_38 : decode cX9_of 38 = .ok (.aload_n 0, 1) := by decide +kernel
theorem dX9_of_39 : decode cX9_of 39 = .ok (.getfield 54, 3) := by decide +kernel
theorem dX9_of_42 : decode cX9_of 42 = .ok (.iconst 0, 1) := by decide +kernel
theorem dX9_of_43 : decode cX9_of 43 = .ok (.iconst (-1), 1) := by decide +kernel
theorem dX9_of_44 : decode cX9_of 44 = .ok (.invokevirtual 165, 3) := by decide +kernel
theorem dX9_of_47 : decode cX9_of 47 = .ok (.iload_n 2, 1) := by decide +kernel
theorem dX9_of_48 : decode cX9_of 48 = .ok (.iconst 4, 1) := by decide +kernel
theorem dX9_of_49 : decode cX9_of 49 = .ok (.if_icmp .ne 60, 3) := by decide +kernel
theorem dX9_of_52 : decode cX9_of 52 = .ok (.iconst 0, 1) := by decide +kernel
theorem dX9_of_53 : decode cX9_of 53 = .ok (.istore_n 3, 1) := by decide +kernel
theorem dX9_of_54 : decode cX9_of 54 = .ok (.iconst 0, 1) := by decide +kernel
theorem dX9_of_55 : decode cX9_of 55 = .ok (.istore 4, 2) := by decide +kernel
theorem dX9_of_57 : decode cX9_of 57 = .ok (.iload 4, 2) := by decide +kernel
theorem dX9_of_59 : decode cX9_of 59 = .ok (.aload_n 0, 1) := by decide +kernel
theorem dX9_of_60 : decode cX9_of 60 = .ok (.invokevirtual 120, 3) := by decide +kernel
theorem dX9_of_63 : decode cX9_of 63 = .ok (.if_icmp .ge 41, 3) := by decide +kernel
theorem dX9_of_66 : decode cX9_of 66 = .ok (.iload_n 3, 1) := by decide +kernel
theorem dX9_of_67 : decode cX9_of 67 = .ok (.aload_n 0, 1) := by decide +kernel
theorem dX9_of_68 : decode cX9_of 68 = .ok (.getfield 54, 3) := by decide +kernel
theorem dX9_of_71 : decode cX9_of 71 = .ok (.iload 4, 2) := by decide +kernel
theorem dX9_of_73 : decode cX9_of 73 = .ok (.iaload, 1) := by decide +kernel
theorem dX9_of_74 : decode cX9_of 74 = .ok (.aload_n 0, 1) := by decide +kernel
theorem dX9_of_75 : decode cX9_of 75 = .ok (.getfield 54, 3) := by decide +kernel
theorem dX9_of_78 : decode cX9_of 78 = .ok (.iload_n 1, 1) := by decide +kernel
theorem dX9_of_79 : decode cX9_of 79 = .ok (.iaload, 1) := by decide +kernel
theorem dX9_of_80 : decode cX9_of 80 = .ok (.if_icmp .ne 15, 3) := by decide +kernel
theorem dX9_of_83 : decode cX9_of 83 = .ok (.iconst 1, 1) := by decide +kernel
theorem dX9_of_84 : decode cX9_of 84 = .ok (.aload_n 0, 1) := by decide +kernel
theorem dX9_of_85 : decode cX9_of 85 = .ok (.getfield 13, 3) := by decide +kernel
theorem dX9_of_88 : decode cX9_of 88 = .ok (.iload 4, 2) := by decide +kernel
theorem dX9_of_90 : decode cX9_of 90 = .ok (.iaload, 1) := by decide +kernel
theorem dX9_of_91 : decode cX9_of 91 = .ok (.ishl, 1) := by decide +kernel
theorem dX9_of_92 : decode cX9_of 92 = .ok (.goto 4, 3) := by decide +kernel
theorem dX9_of_95 : decode cX9_of 95 = .ok (.iconst 0, 1) := by decide +kernel
theorem dX9_of_96 : decode cX9_of 96 = .ok (.ior, 1) := by decide +kernel
theorem dX9_of_97 : decode cX9_of 97 = .ok (.istore_n 3, 1) := by decide +kernel
theorem dX9_of_98 : decode cX9_of 98 = .ok (.iinc 4 1, 3) := by decide +kernel
theorem dX9_of_101 : decode cX9_of 101 = .ok (.goto (-44), 3) := by decide +kernel
theorem dX9_of_104 : decode cX9_of 104 = .ok (.iload_n 3, 1) := by decide +kernel
theorem dX9_of_105 : decode cX9_of 105 = .ok (.invokestatic 173, 3) := by decide +kernel
theorem dX9_of_108 : decode cX9_of 108 = .ok (.ireturn, 1) := by decide +kernel
theorem dX9_of_109 : decode cX9_of 109 = .ok (.iload_n 2, 1) := by decide +kernel
theorem dX9_of_110 : decode cX9_of 110 = .ok (.ifCond .ne 12, 3) := by decide +kernel
theorem dX9_of_113 : decode cX9_of 113 = .ok (.aload_n 0, 1) := by decide +kernel
theorem dX9_of_114 : decode cX9_of 114 = .ok (.getfield 57, 3) := by decide +kernel
theorem dX9_of_117 : decode cX9_of 117 = .ok (.iload_n 1, 1) := by decide +kernel
theorem dX9_of_118 : decode cX9_of 118 = .ok (.iaload, 1) := by decide +kernel
theorem dX9_of_119 : decode cX9_of 119 = .ok (.goto 42, 3) := by decide +kernel
theorem dX9_of_122 : decode cX9_of 122 = .ok (.iload_n 2, 1) := by decide +kernel
theorem dX9_of_123 : decode cX9_of 123 = .ok (.iconst 1, 1) := by decide +kernel
theorem dX9_of_124 : decode cX9_of 124 = .ok (.if_icmp .ne 19, 3) := by decide +kernel
theorem dX9_of_127 : decode cX9_of 127 = .ok (.aload_n 0, 1) := by decide +kernel
theorem dX9_of_128 : decode cX9_of 128 = .ok (.aload_n 0, 1) := by decide +kernel
theorem dX9_of_129 : decode cX9_of 129 = .ok (.getfield 57, 3) := by decide +kernel
theorem dX9_of_132 : decode cX9_of 132 = .ok (.iload_n 1, 1) := by decide +kernel
theorem dX9_of_133 : decode cX9_of 133 = .ok (.iaload, 1) := by decide +kernel
theorem dX9_of_134 : decode cX9_of 134 = .ok (.invokevirtual 169, 3) := by decide +kernel
theorem dX9_of_137 : decode cX9_of 137 = .ok (.invokestatic 173, 3) := by decide +kernel
theorem dX9_of_140 : decode cX9_of 140 = .ok (.goto 21, 3) := by decide +kernel
theorem dX9_of_143 : decode cX9_of 143 = .ok (.iload_n 2, 1) := by decide +kernel
theorem dX9_of_144 : decode cX9_of 144 = .ok (.iconst 2, 1) := by decide +kernel
theorem dX9_of_145 : decode cX9_of 145 = .ok (.if_icmp .ne 11, 3) := by decide +kernel
theorem dX9_of_148 : decode cX9_of 148 = .ok (.aload_n 0, 1) := by decide +kernel
theorem dX9_of_149 : decode cX9_of 149 = .ok (.iload_n 1, 1) := by decide +kernel
theorem dX9_of_150 : decode cX9_of 150 = .ok (.invokevirtual 179, 3) := by decide +kernel
theorem dX9_of_153 : decode cX9_of 153 = .ok (.goto 8, 3) := by decide +kernel
theorem dX9_of_156 : decode cX9_of 156 = .ok (.aload_n 0, 1) := by decide +kernel
theorem dX9_of_157 : decode cX9_of 157 = .ok (.iload_n 1, 1) := by decide +kernel
theorem dX9_of_158 : decode cX9_of 158 = .ok (.invokevirtual 182, 3) := by decide +kernel
theorem dX9_of_161 : decode cX9_of 161 = .ok (.ireturn, 1) := by decide +kernel
