/-! methods on any state that keeps the invariant -/
theorem dX8_commonDivisor_0 : decode cX8_commonDivisor 0 = .ok (.iload_n 0, 1) := by decide +kernel
theorem dX8_commonDivisor_1 : decode cX8_commonDivisor 1 = .ok (.istore_n 2, 1) := by decide +kernel
theorem dX8_commonDivisor_2 : decode cX8_commonDivisor 2 = .ok (.iload_n 1, 1) := by decide +kernel
theorem dX8_commonDivisor_3 : decode cX8_commonDivisor 3 = .ok (.istore_n 3, 1) := by decide +kernel
theorem dX8_commonDivisor_4 : decode cX8_commonDivisor 4 = .ok (.iconst 0, 1) := by decide +kernel
theorem dX8_commonDivisor_5 : decode cX8_commonDivisor 5 = .ok (.istore 4, 2) := by decide +kernel
theorem dX8_commonDivisor_7 : decode cX8_commonDivisor 7 = .ok (.iload 4, 2) := by decide +kernel
theorem dX8_commonDivisor_9 : decode cX8_commonDivisor 9 = .ok (.bipush 64, 2) := by decide +kernel
theorem dX8_commonDivisor_11 : decode cX8_commonDivisor 11 = .ok (.if_icmp .ge 23, 3) := by decide +kernel
theorem dX8_commonDivisor_14 : decode cX8_commonDivisor 14 = .ok (.iload_n 3, 1) := by decide +kernel
theorem dX8_commonDivisor_15 : decode cX8_commonDivisor 15 = .ok (.ifCond .eq 19, 3) := by decide +kernel
theorem dX8_commonDivisor_18 : decode cX8_commonDivisor 18 = .ok (.iload_n 2, 1) := by decide +kernel
theorem dX8_commonDivisor_19 : decode cX8_commonDivisor 19 = .ok (.iload_n 3, 1) := by decide +kernel
theorem dX8_commonDivisor_20 : decode cX8_commonDivisor 20 = .ok (.irem, 1) := by decide +kernel
theorem dX8_commonDivisor_21 : decode cX8_commonDivisor 21 = .ok (.istore 5, 2) := by decide +kernel
theorem dX8_commonDivisor_23 : decode cX8_commonDivisor 23 = .ok (.iload_n 3, 1) := by decide +kernel
theorem dX8_commonDivisor_24 : decode cX8_commonDivisor 24 = .ok (.istore_n 2, 1) := by decide +kernel
theorem dX8_commonDivisor_25 : decode cX8_commonDivisor 25 = .ok (.iload 5, 2) := by decide +kernel
theorem dX8_commonDivisor_27 : decode cX8_commonDivisor 27 = .ok (.istore_n 3, 1) := by decide +kernel
theorem dX8_commonDivisor_28 : decode cX8_commonDivisor 28 = .ok (.iinc 4 1, 3) := by decide +kernel
theorem dX8_commonDivisor_31 : decode cX8_commonDivisor 31 = .ok (.goto (-24), 3) := by decide +kernel
theorem dX8_commonDivisor_34 : decode cX8_commonDivisor 34 = .ok (.iload_n 2, 1) := by decide +kernel
theorem dX8_commonDivisor_35 : decode cX8_commonDivisor 35 = .ok (.ireturn, 1) := by decide +kernel
set_option maxRecDepth 100000 in
set_option maxHeartbeats 40000000 in
theorem gx_X8_commonDivisor {G : vG} {l : Launch} (w : VW) (a b : Int32) : Sp G l yX8_commonDivisor cX8_commonDivisor 6 (some .int) 0 0 0 [.int a, .int b] (w) (QI (fun _ w2 => w2 = w)) := by
  refine Sp_of_R [(some (.int a)), (some (.int b)), none, none, none, none] [none, none, none, none] rfl (by simp) rfl (Nat.le_of_ble_eq_true rfl) ?_
  refine R_iload_n (pc := 0) dX8_commonDivisor_0 rfl rfl ?_
  refine st_6_2_i_i (pc := 1) dX8_commonDivisor_1 ?_
  refine R_iload_n (pc := 2) dX8_commonDivisor_2 rfl rfl ?_
  refine st_6_3_i_i (pc := 3) dX8_commonDivisor_3 ?_
  refine R_iconst (pc := 4) (v := 0) dX8_commonDivisor_4 (by decide) ?_
  refine st_6_4_i_i (pc := 5) dX8_commonDivisor_5 ?_
  have HL7 : ∀ (q j7 : Nat) (g2_7 : Int32) (g3_7 : Int32) (g5_7 : Option Value), j7 + q = 64 → 0 ≤ j7 → R G l yX8_commonDivisor cX8_commonDivisor 6 (some .int) 0 0 0 (QI (fun _ w2 => w2 = w)) 7 [(some (.int a)), (some (.int b)), (some (.int g2_7)), (some (.int g3_7)), (some (.int (nI j7))), g5_7] [] (w) 0 0 := by
    intro q
    induction q with
    | zero =>
      intro j7 g2_7 g3_7 g5_7 hj hs7
      obtain rfl : j7 = 64 := by omega
      refine R_iload (pc := 7) dX8_commonDivisor_7 rfl ?_
      refine R_bipush (pc := 9) (v := 64) dX8_commonDivisor_9 (by decide) ?_
      refine R_icge (pc := 11) 34 dX8_commonDivisor_11 (by decide) (fun _ => ?_) (fun h => absurd (by decide) h)
      refine R_iload_n (pc := 34) dX8_commonDivisor_34 rfl rfl ?_
      exact R_iret (pc := 35) dX8_commonDivisor_35 rfl rfl (Nat.zero_le _) (Nat.zero_le _) ⟨_, rfl, rfl⟩
    | succ q ih7 =>
      intro j7 g2_7 g3_7 g5_7 hj hs7
      have hrg7 : inR (nI j7) 0 63 := inR_ix hs7 (show j7 < 64 by omega) (by decide) (by decide) (by decide)
      have hlt7 : j7 < 64 := by omega
      refine R_iload (pc := 7) dX8_commonDivisor_7 rfl ?_
      refine R_bipush (pc := 9) (v := 64) dX8_commonDivisor_9 (by decide) ?_
      refine R_icge (pc := 11) 34 dX8_commonDivisor_11 (by decide) (fun h => False.elim (by have q1 := ti_le h; have q2 := ti_in (show inR (nI j7) 0 63 from hrg7); have q3 := ti_in (show inR 64 64 64 from (inR_self _)); have z0 : (0 : Int32).toInt = 0 := (by decide);  have z1 : (63 : Int32).toInt = 63 := (by decide);  have z2 : (64 : Int32).toInt = 64 := (by decide); omega)) (fun _ => ?_)
      refine R_iload_n (pc := 14) dX8_commonDivisor_14 rfl rfl ?_
      refine R_ifeq (pc := 15) 34 dX8_commonDivisor_15 (by decide) (fun b15_3 => ?_) (fun b15_3 => ?_)
      · skip
        refine R_iload_n (pc := 34) dX8_commonDivisor_34 rfl rfl ?_
        exact R_iret (pc := 35) dX8_commonDivisor_35 rfl rfl (Nat.zero_le _) (Nat.zero_le _) ⟨_, rfl, rfl⟩
      · skip
        refine R_iload_n (pc := 18) dX8_commonDivisor_18 rfl rfl ?_
        refine R_iload_n (pc := 19) dX8_commonDivisor_19 rfl rfl ?_
        refine R_irem (pc := 20) dX8_commonDivisor_20 b15_3 ?_
        refine st_6_5_i_i (pc := 21) dX8_commonDivisor_21 ?_
        refine R_iload_n (pc := 23) dX8_commonDivisor_23 rfl rfl ?_
        refine st_6_2_i_i (pc := 24) dX8_commonDivisor_24 ?_
        refine R_iload (pc := 25) dX8_commonDivisor_25 rfl ?_
        refine st_6_3_i_i (pc := 27) dX8_commonDivisor_27 ?_
        refine inc_6_4_1_i (pc := 28) dX8_commonDivisor_28 ?_
        have r4 : inR ((nI j7) + 1) 1 64 := inR_add (show inR (nI j7) 0 63 from hrg7) (show inR 1 1 1 from (inR_self _)) (by decide) (by decide)
        have e5 := ti_add (l := 1) (h := 64) (show inR (nI j7) 0 63 from hrg7) (show inR 1 1 1 from (inR_self _)) (by decide) (by decide)
        refine R_goto (pc := 31) 7 dX8_commonDivisor_31 (by decide) ?_
        rw [nI_1]
        exact ih7 (j7 + 1) _ _ _ (by omega) (by omega)
  exact HL7 64 0 _ _ _ (by omega) (by omega)
theorem dX2_isLeftOf_0 : decode cX2_isLeftOf 0 = .ok (.iload_n 1, 1) := by decide +kernel
theorem dX2_isLeftOf_1 : decode cX2_isLeftOf 1 = .ok (.bipush 8, 2) := by decide +kernel
theorem dX2_isLeftOf_3 : decode cX2_isLeftOf 3 = .ok (.irem, 1) := by decide +kernel
theorem dX2_isLeftOf_4 : decode cX2_isLeftOf 4 = .ok (.iload_n 0, 1) := by decide +kernel
theorem dX2_isLeftOf_5 : decode cX2_isLeftOf 5 = .ok (.bipush 8, 2) := by decide +kernel
theorem dX2_isLeftOf_7 : decode cX2_isLeftOf 7 = .ok (.irem, 1) := by decide +kernel
theorem dX2_isLeftOf_8 : decode cX2_isLeftOf 8 = .ok (.isub, 1) := by decide +kernel
theorem dX2_isLeftOf_9 : decode cX2_isLeftOf 9 = .ok (.istore_n 3, 1) := by decide +kernel
theorem dX2_isLeftOf_10 : decode cX2_isLeftOf 10 = .ok (.iload_n 1, 1) := by decide +kernel
theorem dX2_isLeftOf_11 : decode cX2_isLeftOf 11 = .ok (.bipush 8, 2) := by decide +kernel
theorem dX2_isLeftOf_13 : decode cX2_isLeftOf 13 = .ok (.idiv, 1) := by decide +kernel
theorem dX2_isLeftOf_14 : decode cX2_isLeftOf 14 = .ok (.iload_n 0, 1) := by decide +kernel
theorem dX2_isLeftOf_15 : decode cX2_isLeftOf 15 = .ok (.bipush 8, 2) := by decide +kernel
theorem dX2_isLeftOf_17 : decode cX2_isLeftOf 17 = .ok (.idiv, 1) := by decide +kernel
theorem dX2_isLeftOf_18 : decode cX2_isLeftOf 18 = .ok (.isub, 1) := by decide +kernel
theorem dX2_isLeftOf_19 : decode cX2_isLeftOf 19 = .ok (.istore 4, 2) := by decide +kernel
theorem dX2_isLeftOf_21 : decode cX2_isLeftOf 21 = .ok (.iload_n 2, 1) := by decide +kernel
theorem dX2_isLeftOf_22 : decode cX2_isLeftOf 22 = .ok (.bipush 8, 2) := by decide +kernel
theorem dX2_isLeftOf_24 : decode cX2_isLeftOf 24 = .ok (.irem, 1) := by decide +kernel
theorem dX2_isLeftOf_25 : decode cX2_isLeftOf 25 = .ok (.iload_n 0, 1) := by decide +kernel
theorem dX2_isLeftOf_26 : decode cX2_isLeftOf 26 = .ok (.bipush 8, 2) := by decide +kernel
theorem dX2_isLeftOf_28 : decode cX2_isLeftOf 28 = .ok (.irem, 1) := by decide +kernel
theorem dX2_isLeftOf_29 : decode cX2_isLeftOf 29 = .ok (.isub, 1) := by decide +kernel
theorem dX2_isLeftOf_30 : decode cX2_isLeftOf 30 = .ok (.istore 5, 2) := by decide +kernel
theorem dX2_isLeftOf_32 : decode cX2_isLeftOf 32 = .ok (.iload_n 2, 1) := by decide +kernel
theorem dX2_isLeftOf_33 : decode cX2_isLeftOf 33 = .ok (.bipush 8, 2) := by decide +kernel
theorem dX2_isLeftOf_35 : decode cX2_isLeftOf 35 = .ok (.idiv, 1) := by decide +kernel
theorem dX2_isLeftOf_36 : decode cX2_isLeftOf 36 = .ok (.iload_n 0, 1) := by decide +kernel
theorem dX2_isLeftOf_37 : decode cX2_isLeftOf 37 = .ok (.bipush 8, 2) := by decide +kernel
theorem dX2_isLeftOf_39 : decode cX2_isLeftOf 39 = .ok (.idiv, 1) := by decide +kernel
theorem dX2_isLeftOf_40 : decode cX2_isLeftOf 40 = .ok (.isub, 1) := by decide +kernel
theorem dX2_isLeftOf_41 : decode cX2_isLeftOf 41 = .ok (.istore 6, 2) := by decide +kernel
theorem dX2_isLeftOf_43 : decode cX2_isLeftOf 43 = .ok (.iload_n 3, 1) := by decide +kernel
theorem dX2_isLeftOf_44 : decode cX2_isLeftOf 44 = .ok (.iload 6, 2) := by decide +kernel
theorem dX2_isLeftOf_46 : decode cX2_isLeftOf 46 = .ok (.imul, 1) := by decide +kernel
theorem dX2_isLeftOf_47 : decode cX2_isLeftOf 47 = .ok (.iload 4, 2) := by decide +kernel
theorem dX2_isLeftOf_49 : decode cX2_isLeftOf 49 = .ok (.iload 5, 2) := by decide +kernel
theorem dX2_isLeftOf_51 : decode cX2_isLeftOf 51 = .ok (.imul, 1) := by decide +kernel
theorem dX2_isLeftOf_52 : decode cX2_isLeftOf 52 = .ok (.isub, 1) := by decide +kernel
theorem dX2_isLeftOf_53 : decode cX2_isLeftOf 53 = .ok (.ifCond .le 7, 3) := by decide +kernel
theorem dX2_isLeftOf_56 : decode cX2_isLeftOf 56 = .ok (.iconst 1, 1) := by decide +kernel
theorem dX2_isLeftOf_57 : decode cX2_isLeftOf 57 = .ok (.goto 4, 3) := by decide +kernel
theorem dX2_isLeftOf_60 : decode cX2_isLeftOf 60 = .ok (.iconst 0, 1) := by decide +kernel
theorem dX2_isLeftOf_61 : decode cX2_isLeftOf 61 = .ok (.ireturn, 1) := by decide +kernel
set_option maxRecDepth 100000 in
set_option maxHeartbeats 40000000 in
theorem gx_X2_isLeftOf {G : vG} {l : Launch} (w : VW) (a b c : Int32) : Sp G l yX2_isLeftOf cX2_isLeftOf 7 (some .boolean) 0 0 0 [.int a, .int b, .int c] (w) (QI (fun x w2 => w2 = w ∧ (x = 1 ∨ x = 0))) := by
  refine Sp_of_R [(some (.int a)), (some (.int b)), (some (.int c)), none, none, none, none] [none, none, none, none] rfl (by simp) rfl (Nat.le_of_ble_eq_true rfl) ?_
  refine R_iload_n (pc := 0) dX2_isLeftOf_0 rfl rfl ?_
  refine R_bipush (pc := 1) (v := 8) dX2_isLeftOf_1 (by decide) ?_
  refine R_irem (pc := 3) dX2_isLeftOf_3 (by decide) ?_
  refine R_iload_n (pc := 4) dX2_isLeftOf_4 rfl rfl ?_
  refine R_bipush (pc := 5) (v := 8) dX2_isLeftOf_5 (by decide) ?_
  refine R_irem (pc := 7) dX2_isLeftOf_7 (by decide) ?_
  refine R_isub (pc := 8) dX2_isLeftOf_8 ?_
  refine st_7_3_i_i (pc := 9) dX2_isLeftOf_9 ?_
  refine R_iload_n (pc := 10) dX2_isLeftOf_10 rfl rfl ?_
  refine R_bipush (pc := 11) (v := 8) dX2_isLeftOf_11 (by decide) ?_
  refine R_idiv (pc := 13) dX2_isLeftOf_13 (by decide) ?_
  refine R_iload_n (pc := 14) dX2_isLeftOf_14 rfl rfl ?_
  refine R_bipush (pc := 15) (v := 8) dX2_isLeftOf_15 (by decide) ?_
  refine R_idiv (pc := 17) dX2_isLeftOf_17 (by decide) ?_
  refine R_isub (pc := 18) dX2_isLeftOf_18 ?_
  refine st_7_4_i_i (pc := 19) dX2_isLeftOf_19 ?_
  refine R_iload_n (pc := 21) dX2_isLeftOf_21 rfl rfl ?_
  refine R_bipush (pc := 22) (v := 8) dX2_isLeftOf_22 (by decide) ?_
  refine R_irem (pc := 24) dX2_isLeftOf_24 (by decide) ?_
  refine R_iload_n (pc := 25) dX2_isLeftOf_25 rfl rfl ?_
  refine R_bipush (pc := 26) (v := 8) dX2_isLeftOf_26 (by decide) ?_
  refine R_irem (pc := 28) dX2_isLeftOf_28 (by decide) ?_
  refine R_isub (pc := 29) dX2_isLeftOf_29 ?_
  refine st_7_5_i_i (pc := 30) dX2_isLeftOf_30 ?_
  refine R_iload_n (pc := 32) dX2_isLeftOf_32 rfl rfl ?_
  refine R_bipush (pc := 33) (v := 8) dX2_isLeftOf_33 (by decide) ?_
  refine R_idiv (pc := 35) dX2_isLeftOf_35 (by decide) ?_
  refine R_iload_n (pc := 36) dX2_isLeftOf_36 rfl rfl ?_
  refine R_bipush (pc := 37) (v := 8) dX2_isLeftOf_37 (by decide) ?_
  refine R_idiv (pc := 39) dX2_isLeftOf_39 (by decide) ?_
  refine R_isub (pc := 40) dX2_isLeftOf_40 ?_
  refine st_7_6_i_i (pc := 41) dX2_isLeftOf_41 ?_
  refine R_iload_n (pc := 43) dX2_isLeftOf_43 rfl rfl ?_
  refine R_iload (pc := 44) dX2_isLeftOf_44 rfl ?_
  refine R_imul (pc := 46) dX2_isLeftOf_46 ?_
  refine R_iload (pc := 47) dX2_isLeftOf_47 rfl ?_
  refine R_iload (pc := 49) dX2_isLeftOf_49 rfl ?_
  refine R_imul (pc := 51) dX2_isLeftOf_51 ?_
  refine R_isub (pc := 52) dX2_isLeftOf_52 ?_
  refine R_ifle (pc := 53) 60 dX2_isLeftOf_53 (by decide) (fun b53_1 => ?_) (fun b53_1 => ?_)
  · skip
    refine R_iconst (pc := 60) (v := 0) dX2_isLeftOf_60 (by decide) ?_
    exact R_iret (pc := 61) dX2_isLeftOf_61 rfl rfl (Nat.zero_le _) (Nat.zero_le _) ⟨_, rfl, rfl, Or.inr rfl⟩
  · skip
    refine R_iconst (pc := 56) (v := 1) dX2_isLeftOf_56 (by decide) ?_
    refine R_goto (pc := 57) 61 dX2_isLeftOf_57 (by decide) ?_
    exact R_iret (pc := 61) dX2_isLeftOf_61 rfl rfl (Nat.zero_le _) (Nat.zero_le _) ⟨_, rfl, rfl, Or.inl rfl⟩
theorem dX2_sees_0 : decode cX2_sees 0 = .ok (.iload_n 2, 1) := by decide +kernel
theorem dX2_sees_1 : decode cX2_sees 1 = .ok (.bipush 8, 2) := by decide +kernel
theorem dX2_sees_3 : decode cX2_sees 3 = .ok (.irem, 1) := by decide +kernel
theorem dX2_sees_4 : decode cX2_sees 4 = .ok (.iload_n 1, 1) := by decide +kernel
theorem dX2_sees_5 : decode cX2_sees 5 = .ok (.bipush 8, 2) := by decide +kernel
theorem dX2_sees_7 : decode cX2_sees 7 = .ok (.irem, 1) := by decide +kernel
theorem dX2_sees_8 : decode cX2_sees 8 = .ok (.isub, 1) := by decide +kernel
theorem dX2_sees_9 : decode cX2_sees 9 = .ok (.istore_n 3, 1) := by decide +kernel
theorem dX2_sees_10 : decode cX2_sees 10 = .ok (.iload_n 2, 1) := by decide +kernel
theorem dX2_sees_11 : decode cX2_sees 11 = .ok (.bipush 8, 2) := by decide +kernel
theorem dX2_sees_13 : decode cX2_sees 13 = .ok (.idiv, 1) := by decide +kernel
theorem dX2_sees_14 : decode cX2_sees 14 = .ok (.iload_n 1, 1) := by decide +kernel
theorem dX2_sees_15 : decode cX2_sees 15 = .ok (.bipush 8, 2) := by decide +kernel
theorem dX2_sees_17 : decode cX2_sees 17 = .ok (.idiv, 1) := by decide +kernel
theorem dX2_sees_18 : decode cX2_sees 18 = .ok (.isub, 1) := by decide +kernel
theorem dX2_sees_19 : decode cX2_sees 19 = .ok (.istore 4, 2) := by decide +kernel
theorem dX2_sees_21 : decode cX2_sees 21 = .ok (.iload_n 3, 1) := by decide +kernel
theorem dX2_sees_22 : decode cX2_sees 22 = .ok (.invokestatic 43, 3) := by decide +kernel
theorem dX2_sees_25 : decode cX2_sees 25 = .ok (.iload 4, 2) := by decide +kernel
theorem dX2_sees_27 : decode cX2_sees 27 = .ok (.invokestatic 43, 3) := by decide +kernel
theorem dX2_sees_30 : decode cX2_sees 30 = .ok (.invokestatic 49, 3) := by decide +kernel
theorem dX2_sees_33 : decode cX2_sees 33 = .ok (.istore 5, 2) := by decide +kernel
theorem dX2_sees_35 : decode cX2_sees 35 = .ok (.iload 5, 2) := by decide +kernel
theorem dX2_sees_37 : decode cX2_sees 37 = .ok (.ifCond .ne 5, 3) := by decide +kernel
theorem dX2_sees_40 : decode cX2_sees 40 = .ok (.iconst 1, 1) := by decide +kernel
theorem dX2_sees_41 : decode cX2_sees 41 = .ok (.ireturn, 1) := by decide +kernel
theorem dX2_sees_42 : decode cX2_sees 42 = .ok (.bipush 8, 2) := by decide +kernel
theorem dX2_sees_44 : decode cX2_sees 44 = .ok (.iload 4, 2) := by decide +kernel
theorem dX2_sees_46 : decode cX2_sees 46 = .ok (.iload 5, 2) := by decide +kernel
theorem dX2_sees_48 : decode cX2_sees 48 = .ok (.idiv, 1) := by decide +kernel
theorem dX2_sees_49 : decode cX2_sees 49 = .ok (.imul, 1) := by decide +kernel
theorem dX2_sees_50 : decode cX2_sees 50 = .ok (.iload_n 3, 1) := by decide +kernel
theorem dX2_sees_51 : decode cX2_sees 51 = .ok (.iload 5, 2) := by decide +kernel
theorem dX2_sees_53 : decode cX2_sees 53 = .ok (.idiv, 1) := by decide +kernel
theorem dX2_sees_54 : decode cX2_sees 54 = .ok (.iadd, 1) := by decide +kernel
theorem dX2_sees_55 : decode cX2_sees 55 = .ok (.istore 6, 2) := by decide +kernel
theorem dX2_sees_57 : decode cX2_sees 57 = .ok (.iconst 1, 1) := by decide +kernel
theorem dX2_sees_58 : decode cX2_sees 58 = .ok (.istore 7, 2) := by decide +kernel
theorem dX2_sees_60 : decode cX2_sees 60 = .ok (.iload 7, 2) := by decide +kernel
theorem dX2_sees_62 : decode cX2_sees 62 = .ok (.iload 5, 2) := by decide +kernel
theorem dX2_sees_64 : decode cX2_sees 64 = .ok (.if_icmp .ge 30, 3) := by decide +kernel
theorem dX2_sees_67 : decode cX2_sees 67 = .ok (.aload_n 0, 1) := by decide +kernel
theorem dX2_sees_68 : decode cX2_sees 68 = .ok (.getfield 23, 3) := by decide +kernel
theorem dX2_sees_71 : decode cX2_sees 71 = .ok (.iload_n 1, 1) := by decide +kernel
theorem dX2_sees_72 : decode cX2_sees 72 = .ok (.iload 7, 2) := by decide +kernel
theorem dX2_sees_74 : decode cX2_sees 74 = .ok (.iload 6, 2) := by decide +kernel
theorem dX2_sees_76 : decode cX2_sees 76 = .ok (.imul, 1) := by decide +kernel
theorem dX2_sees_77 : decode cX2_sees 77 = .ok (.iadd, 1) := by decide +kernel
theorem dX2_sees_78 : decode cX2_sees 78 = .ok (.lshr, 1) := by decide +kernel
theorem dX2_sees_79 : decode cX2_sees 79 = .ok (.lconst 1, 1) := by decide +kernel
theorem dX2_sees_80 : decode cX2_sees 80 = .ok (.land, 1) := by decide +kernel
theorem dX2_sees_81 : decode cX2_sees 81 = .ok (.lconst 1, 1) := by decide +kernel
theorem dX2_sees_82 : decode cX2_sees 82 = .ok (.lcmp, 1) := by decide +kernel
theorem dX2_sees_83 : decode cX2_sees 83 = .ok (.ifCond .ne 5, 3) := by decide +kernel
theorem dX2_sees_86 : decode cX2_sees 86 = .ok (.iconst 0, 1) := by decide +kernel
theorem dX2_sees_87 : decode cX2_sees 87 = .ok (.ireturn, 1) := by decide +kernel
theorem dX2_sees_88 : decode cX2_sees 88 = .ok (.iinc 7 1, 3) := by decide +kernel
theorem dX2_sees_91 : decode cX2_sees 91 = .ok (.goto (-31), 3) := by decide +kernel
theorem dX2_sees_94 : decode cX2_sees 94 = .ok (.iconst 1, 1) := by decide +kernel
theorem dX2_sees_95 : decode cX2_sees 95 = .ok (.ireturn, 1) := by decide +kernel
set_option maxRecDepth 100000 in
set_option maxHeartbeats 40000000 in
theorem gx_X2_sees {G : vG} {l : Launch} (σ : Sg) (a b : Int32) (hI : Inv σ) : Sp G l yX2_sees cX2_sees 8 (some .boolean) 1 0 0 [.ref 93, .int a, .int b] (WW σ) (QI (fun x w2 => w2 = WW σ ∧ (x = 1 ∨ x = 0))) := by
  refine Sp_of_R [(some (.ref 93)), (some (.int a)), (some (.int b)), none, none, none, none, none] [none, none, none, none, none] rfl (by simp) rfl (Nat.le_of_ble_eq_true rfl) ?_
  refine R_iload_n (pc := 0) dX2_sees_0 rfl rfl ?_
  refine R_bipush (pc := 1) (v := 8) dX2_sees_1 (by decide) ?_
  refine R_irem (pc := 3) dX2_sees_3 (by decide) ?_
  refine R_iload_n (pc := 4) dX2_sees_4 rfl rfl ?_
  refine R_bipush (pc := 5) (v := 8) dX2_sees_5 (by decide) ?_
  refine R_irem (pc := 7) dX2_sees_7 (by decide) ?_
  refine R_isub (pc := 8) dX2_sees_8 ?_
  refine st_8_3_i_i (pc := 9) dX2_sees_9 ?_
  refine R_iload_n (pc := 10) dX2_sees_10 rfl rfl ?_
  refine R_bipush (pc := 11) (v := 8) dX2_sees_11 (by decide) ?_
  refine R_idiv (pc := 13) dX2_sees_13 (by decide) ?_
  refine R_iload_n (pc := 14) dX2_sees_14 rfl rfl ?_
  refine R_bipush (pc := 15) (v := 8) dX2_sees_15 (by decide) ?_
  refine R_idiv (pc := 17) dX2_sees_17 (by decide) ?_
  refine R_isub (pc := 18) dX2_sees_18 ?_
  refine st_8_4_i_i (pc := 19) dX2_sees_19 ?_
  refine R_iload_n (pc := 21) dX2_sees_21 rfl rfl ?_
  refine R_mabs (pc := 22) wm_689 dX2_sees_22 (by decide) (Nat.le_of_ble_eq_true rfl) (Nat.zero_le _) (Nat.zero_le _) ?_
  refine R_iload (pc := 25) dX2_sees_25 rfl ?_
  refine R_mabs (pc := 27) wm_689 dX2_sees_27 (by decide) (Nat.le_of_ble_eq_true rfl) (Nat.zero_le _) (Nat.zero_le _) ?_
  refine k_X2_49 (pc := 30) (gx_X8_commonDivisor _ _ _) rfl (by decide) (Nat.le_refl _) (Nat.le_refl _) (Nat.le_of_ble_eq_true rfl) dX2_sees_30 (fun y1 w2 h => ?_)
  subst h
  refine st_8_5_i_i (pc := 33) dX2_sees_33 ?_
  refine R_iload (pc := 35) dX2_sees_35 rfl ?_
  refine R_ifne (pc := 37) 42 dX2_sees_37 (by decide) (fun b37_2 => ?_) (fun b37_2 => ?_)
  · skip
    refine R_bipush (pc := 42) (v := 8) dX2_sees_42 (by decide) ?_
    refine R_iload (pc := 44) dX2_sees_44 rfl ?_
    refine R_iload (pc := 46) dX2_sees_46 rfl ?_
    refine R_idiv (pc := 48) dX2_sees_48 b37_2 ?_
    refine R_imul (pc := 49) dX2_sees_49 ?_
    refine R_iload_n (pc := 50) dX2_sees_50 rfl rfl ?_
    refine R_iload (pc := 51) dX2_sees_51 rfl ?_
    refine R_idiv (pc := 53) dX2_sees_53 b37_2 ?_
    refine R_iadd (pc := 54) dX2_sees_54 ?_
    refine st_8_6_i_i (pc := 55) dX2_sees_55 ?_
    refine R_iconst (pc := 57) (v := 1) dX2_sees_57 (by decide) ?_
    refine st_8_7_i_i (pc := 58) dX2_sees_58 ?_
    have HL60 : ∀ (q : Nat) (i60 : Int32), i60.toInt + (q : Int) = 2147483647 → inR i60 1 2147483647 → R G l yX2_sees cX2_sees 8 (some .boolean) 1 0 0 (QI (fun x w2 => w2 = WW σ ∧ (x = 1 ∨ x = 0))) 60 [(some (.ref 93)), (some (.int a)), (some (.int b)), (some (.int ((b - b / 8 * 8) - (a - a / 8 * 8)))), (some (.int ((b / 8) - (a / 8)))), (some (.int y1)), (some (.int ((8 * (((b / 8) - (a / 8)) / y1)) + (((b - b / 8 * 8) - (a - a / 8 * 8)) / y1)))), (some (.int i60))] [] (WW σ) 0 0 := by
      intro q
      induction q with
      | zero =>
        intro i60 hj60 hrg60
        have hM60_ : inR i60 2147483647 2147483647 := of_ti (by have z : (2147483647 : Int32).toInt = 2147483647 := (by decide); omega) (by have z : (2147483647 : Int32).toInt = 2147483647 := (by decide); omega)
        refine R_iload (pc := 60) dX2_sees_60 rfl ?_
        refine R_iload (pc := 62) dX2_sees_62 rfl ?_
        refine R_icge (pc := 64) 94 dX2_sees_64 (by decide) (fun _ => ?_) (fun h => False.elim (by have q1 := ti_nle h; have q2 := ti_in (show inR i60 2147483647 2147483647 from hM60_); have q3 := ti_in (show inR y1 (-2147483648) 2147483647 from (inR_any y1)); have z0 : (-2147483648 : Int32).toInt = (-2147483648) := (by decide);  have z1 : (2147483647 : Int32).toInt = 2147483647 := (by decide); omega))
        refine R_iconst (pc := 94) (v := 1) dX2_sees_94 (by decide) ?_
        exact R_iret (pc := 95) dX2_sees_95 rfl rfl (Nat.zero_le _) (Nat.zero_le _) ⟨_, rfl, rfl, Or.inl rfl⟩
      | succ q ih60 =>
        intro i60 hj60 hrg60
        have hM60_ : inR i60 1 2147483646 := of_ti (ti_in hrg60).1 (by have z : (2147483646 : Int32).toInt = 2147483646 := (by decide); omega)
        refine R_iload (pc := 60) dX2_sees_60 rfl ?_
        refine R_iload (pc := 62) dX2_sees_62 rfl ?_
        refine R_icge (pc := 64) 94 dX2_sees_64 (by decide) (fun b64_4 => ?_) (fun b64_4 => ?_)
        · skip
          refine R_iconst (pc := 94) (v := 1) dX2_sees_94 (by decide) ?_
          exact R_iret (pc := 95) dX2_sees_95 rfl rfl (Nat.zero_le _) (Nat.zero_le _) ⟨_, rfl, rfl, Or.inl rfl⟩
        · skip
          refine R_aload_n (pc := 67) dX2_sees_67 rfl rfl ?_
          refine g_X2_23 (pc := 68) (v := .long (σ.2.1 9301)) rfl dX2_sees_68 (c_93 _) rfl ?_
          refine R_iload_n (pc := 71) dX2_sees_71 rfl rfl ?_
          refine R_iload (pc := 72) dX2_sees_72 rfl ?_
          refine R_iload (pc := 74) dX2_sees_74 rfl ?_
          refine R_imul (pc := 76) dX2_sees_76 ?_
          refine R_iadd (pc := 77) dX2_sees_77 ?_
          refine R_lshr (pc := 78) dX2_sees_78 ?_
          refine R_lconst (pc := 79) (v := 1) dX2_sees_79 (by decide) ?_
          refine R_land (pc := 80) dX2_sees_80 ?_
          refine R_lconst (pc := 81) (v := 1) dX2_sees_81 (by decide) ?_
          refine R_lcmp (pc := 82) dX2_sees_82 ?_
          refine R_ifne (pc := 83) 88 dX2_sees_83 (by decide) (fun b83_5 => ?_) (fun b83_5 => ?_)
          · skip
            refine inc_8_7_1_i (pc := 88) dX2_sees_88 ?_
            have r6 : inR (i60 + 1) 2 2147483647 := inR_add (show inR i60 1 2147483646 from hM60_) (show inR 1 1 1 from (inR_self _)) (by decide) (by decide)
            have e7 := ti_add (l := 2) (h := 2147483647) (show inR i60 1 2147483646 from hM60_) (show inR 1 1 1 from (inR_self _)) (by decide) (by decide)
            refine R_goto (pc := 91) 60 dX2_sees_91 (by decide) ?_
            exact ih60 (i60 + 1) (by have q0 := e7; have q1 := ti_ne b37_2; have q2 := ti_nle b64_4; have q3 := ti_ne b83_5; have q4 := ti_in (inR_any y1); have q5 := ti_in hM60_; have q6 := ti_in r6; have q7 := hj60; have z0 : (-2147483648 : Int32).toInt = -2147483648 := (by decide); have z1 : (0 : Int32).toInt = 0 := (by decide); have z2 : (1 : Int32).toInt = 1 := (by decide); have z3 : (2 : Int32).toInt = 2 := (by decide); have z4 : (2147483646 : Int32).toInt = 2147483646 := (by decide); have z5 : (2147483647 : Int32).toInt = 2147483647 := (by decide); have z6 : (63 : Int32).toInt = 63 := (by decide); have z7 : (8 : Int32).toInt = 8 := (by decide); have z8 : (9301 : Int32).toInt = 9301 := (by decide); omega) (inR_up r6 (by decide) (by decide))
          · skip
            refine R_iconst (pc := 86) (v := 0) dX2_sees_86 (by decide) ?_
            exact R_iret (pc := 87) dX2_sees_87 rfl rfl (Nat.zero_le _) (Nat.zero_le _) ⟨_, rfl, rfl, Or.inr rfl⟩
    exact HL60 2147483646 1 (by decide) (show inR 1 1 2147483647 from ⟨by decide, by decide⟩)
  · skip
    refine R_iconst (pc := 40) (v := 1) dX2_sees_40 (by decide) ?_
    exact R_iret (pc := 41) dX2_sees_41 rfl rfl (Nat.zero_le _) (Nat.zero_le _) ⟨_, rfl, rfl, Or.inl rfl⟩
theorem dX2_isOrdered_0 : decode cX2_isOrdered 0 = .ok (.aload_n 0, 1) := by decide +kernel
theorem dX2_isOrdered_1 : decode cX2_isOrdered 1 = .ok (.getfield 20, 3) := by decide +kernel
theorem dX2_isOrdered_4 : decode cX2_isOrdered 4 = .ok (.iload_n 1, 1) := by decide +kernel
theorem dX2_isOrdered_5 : decode cX2_isOrdered 5 = .ok (.iaload, 1) := by decide +kernel
theorem dX2_isOrdered_6 : decode cX2_isOrdered 6 = .ok (.iconst 1, 1) := by decide +kernel
theorem dX2_isOrdered_7 : decode cX2_isOrdered 7 = .ok (.isub, 1) := by decide +kernel
theorem dX2_isOrdered_8 : decode cX2_isOrdered 8 = .ok (.istore_n 3, 1) := by decide +kernel
theorem dX2_isOrdered_9 : decode cX2_isOrdered 9 = .ok (.iconst 0, 1) := by decide +kernel
theorem dX2_isOrdered_10 : decode cX2_isOrdered 10 = .ok (.istore 4, 2) := by decide +kernel
theorem dX2_isOrdered_12 : decode cX2_isOrdered 12 = .ok (.iload 4, 2) := by decide +kernel
theorem dX2_isOrdered_14 : decode cX2_isOrdered 14 = .ok (.iload_n 3, 1) := by decide +kernel
theorem dX2_isOrdered_15 : decode cX2_isOrdered 15 = .ok (.if_icmp .ge 48, 3) := by decide +kernel
theorem dX2_isOrdered_18 : decode cX2_isOrdered 18 = .ok (.iload_n 2, 1) := by decide +kernel
theorem dX2_isOrdered_19 : decode cX2_isOrdered 19 = .ok (.aload_n 0, 1) := by decide +kernel
theorem dX2_isOrdered_20 : decode cX2_isOrdered 20 = .ok (.getfield 9, 3) := by decide +kernel
theorem dX2_isOrdered_23 : decode cX2_isOrdered 23 = .ok (.aload_n 0, 1) := by decide +kernel
theorem dX2_isOrdered_24 : decode cX2_isOrdered 24 = .ok (.getfield 17, 3) := by decide +kernel
theorem dX2_isOrdered_27 : decode cX2_isOrdered 27 = .ok (.iload_n 1, 1) := by decide +kernel
theorem dX2_isOrdered_28 : decode cX2_isOrdered 28 = .ok (.aaload, 1) := by decide +kernel
theorem dX2_isOrdered_29 : decode cX2_isOrdered 29 = .ok (.iload 4, 2) := by decide +kernel
theorem dX2_isOrdered_31 : decode cX2_isOrdered 31 = .ok (.iaload, 1) := by decide +kernel
theorem dX2_isOrdered_32 : decode cX2_isOrdered 32 = .ok (.iaload, 1) := by decide +kernel
theorem dX2_isOrdered_33 : decode cX2_isOrdered 33 = .ok (.aload_n 0, 1) := by decide +kernel
theorem dX2_isOrdered_34 : decode cX2_isOrdered 34 = .ok (.getfield 9, 3) := by decide +kernel
theorem dX2_isOrdered_37 : decode cX2_isOrdered 37 = .ok (.aload_n 0, 1) := by decide +kernel
theorem dX2_isOrdered_38 : decode cX2_isOrdered 38 = .ok (.getfield 17, 3) := by decide +kernel
theorem dX2_isOrdered_41 : decode cX2_isOrdered 41 = .ok (.iload_n 1, 1) := by decide +kernel
theorem dX2_isOrdered_42 : decode cX2_isOrdered 42 = .ok (.aaload, 1) := by decide +kernel
theorem dX2_isOrdered_43 : decode cX2_isOrdered 43 = .ok (.iload 4, 2) := by decide +kernel
theorem dX2_isOrdered_45 : decode cX2_isOrdered 45 = .ok (.iconst 1, 1) := by decide +kernel
theorem dX2_isOrdered_46 : decode cX2_isOrdered 46 = .ok (.iadd, 1) := by decide +kernel
theorem dX2_isOrdered_47 : decode cX2_isOrdered 47 = .ok (.iaload, 1) := by decide +kernel
theorem dX2_isOrdered_48 : decode cX2_isOrdered 48 = .ok (.iaload, 1) := by decide +kernel
theorem dX2_isOrdered_49 : decode cX2_isOrdered 49 = .ok (.invokestatic 36, 3) := by decide +kernel
theorem dX2_isOrdered_52 : decode cX2_isOrdered 52 = .ok (.ifCond .ne 5, 3) := by decide +kernel
theorem dX2_isOrdered_55 : decode cX2_isOrdered 55 = .ok (.iconst 0, 1) := by decide +kernel
theorem dX2_isOrdered_56 : decode cX2_isOrdered 56 = .ok (.ireturn, 1) := by decide +kernel
theorem dX2_isOrdered_57 : decode cX2_isOrdered 57 = .ok (.iinc 4 1, 3) := by decide +kernel
theorem dX2_isOrdered_60 : decode cX2_isOrdered 60 = .ok (.goto (-48), 3) := by decide +kernel
theorem dX2_isOrdered_63 : decode cX2_isOrdered 63 = .ok (.iload_n 3, 1) := by decide +kernel
theorem dX2_isOrdered_64 : decode cX2_isOrdered 64 = .ok (.iconst 1, 1) := by decide +kernel
theorem dX2_isOrdered_65 : decode cX2_isOrdered 65 = .ok (.if_icmp .lt 36, 3) := by decide +kernel
theorem dX2_isOrdered_68 : decode cX2_isOrdered 68 = .ok (.iload_n 2, 1) := by decide +kernel
theorem dX2_isOrdered_69 : decode cX2_isOrdered 69 = .ok (.aload_n 0, 1) := by decide +kernel
theorem dX2_isOrdered_70 : decode cX2_isOrdered 70 = .ok (.getfield 9, 3) := by decide +kernel
theorem dX2_isOrdered_73 : decode cX2_isOrdered 73 = .ok (.aload_n 0, 1) := by decide +kernel
theorem dX2_isOrdered_74 : decode cX2_isOrdered 74 = .ok (.getfield 17, 3) := by decide +kernel
theorem dX2_isOrdered_77 : decode cX2_isOrdered 77 = .ok (.iload_n 1, 1) := by decide +kernel
theorem dX2_isOrdered_78 : decode cX2_isOrdered 78 = .ok (.aaload, 1) := by decide +kernel
theorem dX2_isOrdered_79 : decode cX2_isOrdered 79 = .ok (.iconst 0, 1) := by decide +kernel
theorem dX2_isOrdered_80 : decode cX2_isOrdered 80 = .ok (.iaload, 1) := by decide +kernel
theorem dX2_isOrdered_81 : decode cX2_isOrdered 81 = .ok (.iaload, 1) := by decide +kernel
theorem dX2_isOrdered_82 : decode cX2_isOrdered 82 = .ok (.aload_n 0, 1) := by decide +kernel
theorem dX2_isOrdered_83 : decode cX2_isOrdered 83 = .ok (.getfield 9, 3) := by decide +kernel
theorem dX2_isOrdered_86 : decode cX2_isOrdered 86 = .ok (.aload_n 0, 1) := by decide +kernel
theorem dX2_isOrdered_87 : decode cX2_isOrdered 87 = .ok (.getfield 17, 3) := by decide +kernel
theorem dX2_isOrdered_90 : decode cX2_isOrdered 90 = .ok (.iload_n 1, 1) := by decide +kernel
theorem dX2_isOrdered_91 : decode cX2_isOrdered 91 = .ok (.aaload, 1) := by decide +kernel
theorem dX2_isOrdered_92 : decode cX2_isOrdered 92 = .ok (.iload_n 3, 1) := by decide +kernel
theorem dX2_isOrdered_93 : decode cX2_isOrdered 93 = .ok (.iaload, 1) := by decide +kernel
theorem dX2_isOrdered_94 : decode cX2_isOrdered 94 = .ok (.iaload, 1) := by decide +kernel
theorem dX2_isOrdered_95 : decode cX2_isOrdered 95 = .ok (.invokestatic 36, 3) := by decide +kernel
theorem dX2_isOrdered_98 : decode cX2_isOrdered 98 = .ok (.ifCond .eq 7, 3) := by decide +kernel
theorem dX2_isOrdered_101 : decode cX2_isOrdered 101 = .ok (.iconst 1, 1) := by decide +kernel
theorem dX2_isOrdered_102 : decode cX2_isOrdered 102 = .ok (.goto 4, 3) := by decide +kernel
theorem dX2_isOrdered_105 : decode cX2_isOrdered 105 = .ok (.iconst 0, 1) := by decide +kernel
theorem dX2_isOrdered_106 : decode cX2_isOrdered 106 = .ok (.ireturn, 1) := by decide +kernel
set_option maxRecDepth 100000 in
set_option maxHeartbeats 40000000 in
theorem gx_X2_isOrdered {G : vG} {l : Launch} (σ : Sg) (c k : Int32) (hI : Inv σ) (hc : inR c 0 19) : Sp G l yX2_isOrdered cX2_isOrdered 5 (some .boolean) 1 0 0 [.ref 93, .int c, .int k] (WW σ) (QI (fun x w2 => w2 = WW σ ∧ (x = 1 ∨ x = 0))) := by
  refine Sp_of_R [(some (.ref 93)), (some (.int c)), (some (.int k)), none, none] [none, none] rfl (by simp) rfl (Nat.le_of_ble_eq_true rfl) ?_
  refine R_aload_n (pc := 0) dX2_isOrdered_0 rfl rfl ?_
  refine g_X2_20 (pc := 1) (v := .ref 116) rfl dX2_isOrdered_1 (c_93 _) rfl ?_
  refine R_iload_n (pc := 4) dX2_isOrdered_4 rfl rfl ?_
  have hx1 : vp_in c 20 := (vp_of_inR hc (by decide))
  refine R_iaload (pc := 5) dX2_isOrdered_5 (c_116 _) hx1 ?_
  refine R_iconst (pc := 6) (v := 1) dX2_isOrdered_6 (by decide) ?_
  refine R_isub (pc := 7) dX2_isOrdered_7 ?_
  have r2 : inR ((σ.2.2.1 116 (Int32.toNatClampNeg c)) - 1) (-1) 4 := inR_sub (show inR (σ.2.2.1 116 (Int32.toNatClampNeg c)) 0 5 from (iva_116 hI _ (lt_of_vp hx1))) (show inR 1 1 1 from (inR_self _)) (by decide) (by decide)
  have e3 := ti_sub (l := (-1)) (h := 4) (show inR (σ.2.2.1 116 (Int32.toNatClampNeg c)) 0 5 from (iva_116 hI _ (lt_of_vp hx1))) (show inR 1 1 1 from (inR_self _)) (by decide) (by decide)
  refine st_5_3_i_i (pc := 8) dX2_isOrdered_8 ?_
  refine R_iconst (pc := 9) (v := 0) dX2_isOrdered_9 (by decide) ?_
  refine st_5_4_i_i (pc := 10) dX2_isOrdered_10 ?_
  have HL12 : ∀ (q j12 : Nat), j12 + q = 5 → 0 ≤ j12 → R G l yX2_isOrdered cX2_isOrdered 5 (some .boolean) 1 0 0 (QI (fun x w2 => w2 = WW σ ∧ (x = 1 ∨ x = 0))) 12 [(some (.ref 93)), (some (.int c)), (some (.int k)), (some (.int ((σ.2.2.1 116 (Int32.toNatClampNeg c)) - 1))), (some (.int (nI j12)))] [] (WW σ) 0 0 := by
    intro q
    induction q with
    | zero =>
      intro j12 hj hs12
      obtain rfl : j12 = 5 := by omega
      refine R_iload (pc := 12) dX2_isOrdered_12 rfl ?_
      refine R_iload_n (pc := 14) dX2_isOrdered_14 rfl rfl ?_
      refine R_icge (pc := 15) 63 dX2_isOrdered_15 (by decide) (fun _ => ?_) (fun h => absurd (Int32.not_lt.mp (inR_up r2 (Int32.le_refl _) (by decide)).2) h)
      refine R_iload_n (pc := 63) dX2_isOrdered_63 rfl rfl ?_
      refine R_iconst (pc := 64) (v := 1) dX2_isOrdered_64 (by decide) ?_
      refine R_iclt (pc := 65) 101 dX2_isOrdered_65 (by decide) (fun b65_5 => ?_) (fun b65_5 => ?_)
      · skip
        refine R_iconst (pc := 101) (v := 1) dX2_isOrdered_101 (by decide) ?_
        refine R_goto (pc := 102) 106 dX2_isOrdered_102 (by decide) ?_
        exact R_iret (pc := 106) dX2_isOrdered_106 rfl rfl (Nat.zero_le _) (Nat.zero_le _) ⟨_, rfl, rfl, Or.inl rfl⟩
      · skip
        refine R_iload_n (pc := 68) dX2_isOrdered_68 rfl rfl ?_
        refine R_aload_n (pc := 69) dX2_isOrdered_69 rfl rfl ?_
        refine g_X2_9 (pc := 70) (v := .ref 94) rfl dX2_isOrdered_70 (c_93 _) rfl ?_
        refine R_aload_n (pc := 73) dX2_isOrdered_73 rfl rfl ?_
        refine g_X2_17 (pc := 74) (v := .ref 95) rfl dX2_isOrdered_74 (c_93 _) rfl ?_
        refine R_iload_n (pc := 77) dX2_isOrdered_77 rfl rfl ?_
        have hx6 : vp_in c 20 := (vp_of_inR hc (by decide))
        refine R_aaload (pc := 78) (b := 96 + (Int32.toNatClampNeg c)) dX2_isOrdered_78 (c_95 _) hx6 (if_pos (lt_of_vp hx6)) ?_
        refine R_iconst (pc := 79) (v := 0) dX2_isOrdered_79 (by decide) ?_
        have hx7 : vp_in 0 5 := (by unfold vp_in; decide)
        refine R_iaload (pc := 80) dX2_isOrdered_80 (r_95 _ _ (lt_of_vp hx6)) hx7 ?_
        have hx8 : vp_in (σ.2.2.1 (96 + (Int32.toNatClampNeg c)) (Int32.toNatClampNeg 0)) 8 := (vp_of_inR (ivr_96 hI _ _ (lt_of_vp hx6) (lt_of_vp hx7)) (by decide))
        refine R_iaload (pc := 81) dX2_isOrdered_81 (c_94 _) hx8 ?_
        refine R_aload_n (pc := 82) dX2_isOrdered_82 rfl rfl ?_
        refine g_X2_9 (pc := 83) (v := .ref 94) rfl dX2_isOrdered_83 (c_93 _) rfl ?_
        refine R_aload_n (pc := 86) dX2_isOrdered_86 rfl rfl ?_
        refine g_X2_17 (pc := 87) (v := .ref 95) rfl dX2_isOrdered_87 (c_93 _) rfl ?_
        refine R_iload_n (pc := 90) dX2_isOrdered_90 rfl rfl ?_
        have hx9 : vp_in c 20 := (vp_of_inR hc (by decide))
        refine R_aaload (pc := 91) (b := 96 + (Int32.toNatClampNeg c)) dX2_isOrdered_91 (c_95 _) hx9 (if_pos (lt_of_vp hx9)) ?_
        refine R_iload_n (pc := 92) dX2_isOrdered_92 rfl rfl ?_
        have hx10 : vp_in ((σ.2.2.1 116 (Int32.toNatClampNeg c)) - 1) 5 := (vp_ti (by have q0 := e3; have q1 := ti_nlt b65_5; have q2 := ti_in hc; have q3 := ti_in (iva_116 hI _ (lt_of_vp hx1)); have q4 := ti_in r2; have q5 := ti_in (ivr_96 hI _ _ (lt_of_vp hx6) (lt_of_vp hx7)); have z0 : (-1 : Int32).toInt = -1 := (by decide); have z1 : (0 : Int32).toInt = 0 := (by decide); have z2 : (1 : Int32).toInt = 1 := (by decide); have z3 : (116 : Int32).toInt = 116 := (by decide); have z4 : (19 : Int32).toInt = 19 := (by decide); have z5 : (4 : Int32).toInt = 4 := (by decide); have z6 : (5 : Int32).toInt = 5 := (by decide); have z7 : (7 : Int32).toInt = 7 := (by decide); omega) (by have q0 := e3; have q1 := ti_nlt b65_5; have q2 := ti_in hc; have q3 := ti_in (iva_116 hI _ (lt_of_vp hx1)); have q4 := ti_in r2; have q5 := ti_in (ivr_96 hI _ _ (lt_of_vp hx6) (lt_of_vp hx7)); have z0 : (-1 : Int32).toInt = -1 := (by decide); have z1 : (0 : Int32).toInt = 0 := (by decide); have z2 : (1 : Int32).toInt = 1 := (by decide); have z3 : (116 : Int32).toInt = 116 := (by decide); have z4 : (19 : Int32).toInt = 19 := (by decide); have z5 : (4 : Int32).toInt = 4 := (by decide); have z6 : (5 : Int32).toInt = 5 := (by decide); have z7 : (7 : Int32).toInt = 7 := (by decide); omega))
        refine R_iaload (pc := 93) dX2_isOrdered_93 (r_95 _ _ (lt_of_vp hx9)) hx10 ?_
        have hx11 : vp_in (σ.2.2.1 (96 + (Int32.toNatClampNeg c)) (Int32.toNatClampNeg ((σ.2.2.1 116 (Int32.toNatClampNeg c)) - 1))) 8 := (vp_of_inR (ivr_96 hI _ _ (lt_of_vp hx9) (lt_of_vp hx10)) (by decide))
        refine R_iaload (pc := 94) dX2_isOrdered_94 (c_94 _) hx11 ?_
        refine k_X2_36 (pc := 95) (gx_X2_isLeftOf _ _ _ _) rfl (by decide) (Nat.le_refl _) (Nat.le_refl _) (Nat.le_of_ble_eq_true rfl) dX2_isOrdered_95 (fun x w2 h => ?_)
        rcases h with ⟨rfl, rfl | rfl⟩
        · skip
          refine R_ifeq (pc := 98) 105 dX2_isOrdered_98 (by decide) (fun h => absurd h (by decide)) (fun _ => ?_)
          refine R_iconst (pc := 101) (v := 1) dX2_isOrdered_101 (by decide) ?_
          refine R_goto (pc := 102) 106 dX2_isOrdered_102 (by decide) ?_
          exact R_iret (pc := 106) dX2_isOrdered_106 rfl rfl (Nat.zero_le _) (Nat.zero_le _) ⟨_, rfl, rfl, Or.inl rfl⟩
        · skip
          refine R_ifeq (pc := 98) 105 dX2_isOrdered_98 (by decide) (fun _ => ?_) (fun h => absurd (by decide) h)
          refine R_iconst (pc := 105) (v := 0) dX2_isOrdered_105 (by decide) ?_
          exact R_iret (pc := 106) dX2_isOrdered_106 rfl rfl (Nat.zero_le _) (Nat.zero_le _) ⟨_, rfl, rfl, Or.inr rfl⟩
    | succ q ih12 =>
      intro j12 hj hs12
      have hrg12 : inR (nI j12) 0 4 := inR_ix hs12 (show j12 < 5 by omega) (by decide) (by decide) (by decide)
      have hlt12 : j12 < 5 := by omega
      refine R_iload (pc := 12) dX2_isOrdered_12 rfl ?_
      refine R_iload_n (pc := 14) dX2_isOrdered_14 rfl rfl ?_
      refine R_icge (pc := 15) 63 dX2_isOrdered_15 (by decide) (fun b15_15 => ?_) (fun b15_15 => ?_)
      · skip
        refine R_iload_n (pc := 63) dX2_isOrdered_63 rfl rfl ?_
        refine R_iconst (pc := 64) (v := 1) dX2_isOrdered_64 (by decide) ?_
        refine R_iclt (pc := 65) 101 dX2_isOrdered_65 (by decide) (fun b65_16 => ?_) (fun b65_16 => ?_)
        · skip
          refine R_iconst (pc := 101) (v := 1) dX2_isOrdered_101 (by decide) ?_
          refine R_goto (pc := 102) 106 dX2_isOrdered_102 (by decide) ?_
          exact R_iret (pc := 106) dX2_isOrdered_106 rfl rfl (Nat.zero_le _) (Nat.zero_le _) ⟨_, rfl, rfl, Or.inl rfl⟩
        · skip
          refine R_iload_n (pc := 68) dX2_isOrdered_68 rfl rfl ?_
          refine R_aload_n (pc := 69) dX2_isOrdered_69 rfl rfl ?_
          refine g_X2_9 (pc := 70) (v := .ref 94) rfl dX2_isOrdered_70 (c_93 _) rfl ?_
          refine R_aload_n (pc := 73) dX2_isOrdered_73 rfl rfl ?_
          refine g_X2_17 (pc := 74) (v := .ref 95) rfl dX2_isOrdered_74 (c_93 _) rfl ?_
          refine R_iload_n (pc := 77) dX2_isOrdered_77 rfl rfl ?_
          have hx17 : vp_in c 20 := (vp_of_inR hc (by decide))
          refine R_aaload (pc := 78) (b := 96 + (Int32.toNatClampNeg c)) dX2_isOrdered_78 (c_95 _) hx17 (if_pos (lt_of_vp hx17)) ?_
          refine R_iconst (pc := 79) (v := 0) dX2_isOrdered_79 (by decide) ?_
          have hx18 : vp_in 0 5 := (by unfold vp_in; decide)
          refine R_iaload (pc := 80) dX2_isOrdered_80 (r_95 _ _ (lt_of_vp hx17)) hx18 ?_
          have hx19 : vp_in (σ.2.2.1 (96 + (Int32.toNatClampNeg c)) (Int32.toNatClampNeg 0)) 8 := (vp_of_inR (ivr_96 hI _ _ (lt_of_vp hx17) (lt_of_vp hx18)) (by decide))
          refine R_iaload (pc := 81) dX2_isOrdered_81 (c_94 _) hx19 ?_
          refine R_aload_n (pc := 82) dX2_isOrdered_82 rfl rfl ?_
          refine g_X2_9 (pc := 83) (v := .ref 94) rfl dX2_isOrdered_83 (c_93 _) rfl ?_
          refine R_aload_n (pc := 86) dX2_isOrdered_86 rfl rfl ?_
          refine g_X2_17 (pc := 87) (v := .ref 95) rfl dX2_isOrdered_87 (c_93 _) rfl ?_
          refine R_iload_n (pc := 90) dX2_isOrdered_90 rfl rfl ?_
          have hx20 : vp_in c 20 := (vp_of_inR hc (by decide))
          refine R_aaload (pc := 91) (b := 96 + (Int32.toNatClampNeg c)) dX2_isOrdered_91 (c_95 _) hx20 (if_pos (lt_of_vp hx20)) ?_
          refine R_iload_n (pc := 92) dX2_isOrdered_92 rfl rfl ?_
          have hx21 : vp_in ((σ.2.2.1 116 (Int32.toNatClampNeg c)) - 1) 5 := (vp_ti (by have q0 := e3; have q1 := ti_le b15_15; have q2 := ti_nlt b65_16; have q3 := ti_in hc; have q4 := ti_in (iva_116 hI _ (lt_of_vp hx1)); have q5 := ti_in r2; have q6 := ti_in hrg12; have q7 := ti_in (ivr_96 hI _ _ (lt_of_vp hx17) (lt_of_vp hx18)); have z0 : (-1 : Int32).toInt = -1 := (by decide); have z1 : (0 : Int32).toInt = 0 := (by decide); have z2 : (1 : Int32).toInt = 1 := (by decide); have z3 : (116 : Int32).toInt = 116 := (by decide); have z4 : (19 : Int32).toInt = 19 := (by decide); have z5 : (4 : Int32).toInt = 4 := (by decide); have z6 : (5 : Int32).toInt = 5 := (by decide); have z7 : (7 : Int32).toInt = 7 := (by decide); omega) (by have q0 := e3; have q1 := ti_le b15_15; have q2 := ti_nlt b65_16; have q3 := ti_in hc; have q4 := ti_in (iva_116 hI _ (lt_of_vp hx1)); have q5 := ti_in r2; have q6 := ti_in hrg12; have q7 := ti_in (ivr_96 hI _ _ (lt_of_vp hx17) (lt_of_vp hx18)); have z0 : (-1 : Int32).toInt = -1 := (by decide); have z1 : (0 : Int32).toInt = 0 := (by decide); have z2 : (1 : Int32).toInt = 1 := (by decide); have z3 : (116 : Int32).toInt = 116 := (by decide); have z4 : (19 : Int32).toInt = 19 := (by decide); have z5 : (4 : Int32).toInt = 4 := (by decide); have z6 : (5 : Int32).toInt = 5 := (by decide); have z7 : (7 : Int32).toInt = 7 := (by decide); omega))
          refine R_iaload (pc := 93) dX2_isOrdered_93 (r_95 _ _ (lt_of_vp hx20)) hx21 ?_
          have hx22 : vp_in (σ.2.2.1 (96 + (Int32.toNatClampNeg c)) (Int32.toNatClampNeg ((σ.2.2.1 116 (Int32.toNatClampNeg c)) - 1))) 8 := (vp_of_inR (ivr_96 hI _ _ (lt_of_vp hx20) (lt_of_vp hx21)) (by decide))
          refine R_iaload (pc := 94) dX2_isOrdered_94 (c_94 _) hx22 ?_
          refine k_X2_36 (pc := 95) (gx_X2_isLeftOf _ _ _ _) rfl (by decide) (Nat.le_refl _) (Nat.le_refl _) (Nat.le_of_ble_eq_true rfl) dX2_isOrdered_95 (fun x w2 h => ?_)
          rcases h with ⟨rfl, rfl | rfl⟩
          · skip
            refine R_ifeq (pc := 98) 105 dX2_isOrdered_98 (by decide) (fun h => absurd h (by decide)) (fun _ => ?_)
            refine R_iconst (pc := 101) (v := 1) dX2_isOrdered_101 (by decide) ?_
            refine R_goto (pc := 102) 106 dX2_isOrdered_102 (by decide) ?_
            exact R_iret (pc := 106) dX2_isOrdered_106 rfl rfl (Nat.zero_le _) (Nat.zero_le _) ⟨_, rfl, rfl, Or.inl rfl⟩
          · skip
            refine R_ifeq (pc := 98) 105 dX2_isOrdered_98 (by decide) (fun _ => ?_) (fun h => absurd (by decide) h)
            refine R_iconst (pc := 105) (v := 0) dX2_isOrdered_105 (by decide) ?_
            exact R_iret (pc := 106) dX2_isOrdered_106 rfl rfl (Nat.zero_le _) (Nat.zero_le _) ⟨_, rfl, rfl, Or.inr rfl⟩
      · skip
        refine R_iload_n (pc := 18) dX2_isOrdered_18 rfl rfl ?_
        refine R_aload_n (pc := 19) dX2_isOrdered_19 rfl rfl ?_
        refine g_X2_9 (pc := 20) (v := .ref 94) rfl dX2_isOrdered_20 (c_93 _) rfl ?_
        refine R_aload_n (pc := 23) dX2_isOrdered_23 rfl rfl ?_
        refine g_X2_17 (pc := 24) (v := .ref 95) rfl dX2_isOrdered_24 (c_93 _) rfl ?_
        refine R_iload_n (pc := 27) dX2_isOrdered_27 rfl rfl ?_
        have hx26 : vp_in c 20 := (vp_of_inR hc (by decide))
        refine R_aaload (pc := 28) (b := 96 + (Int32.toNatClampNeg c)) dX2_isOrdered_28 (c_95 _) hx26 (if_pos (lt_of_vp hx26)) ?_
        refine R_iload (pc := 29) dX2_isOrdered_29 rfl ?_
        have hx27 : vp_in (nI j12) 5 := (vp_in_nI (by omega) (by decide))
        refine R_iaload (pc := 31) dX2_isOrdered_31 (r_95 _ _ (lt_of_vp hx26)) hx27 ?_
        have hx28 : vp_in (σ.2.2.1 (96 + (Int32.toNatClampNeg c)) (Int32.toNatClampNeg (nI j12))) 8 := (vp_of_inR (ivr_96 hI _ _ (lt_of_vp hx26) (lt_of_vp hx27)) (by decide))
        refine R_iaload (pc := 32) dX2_isOrdered_32 (c_94 _) hx28 ?_
        refine R_aload_n (pc := 33) dX2_isOrdered_33 rfl rfl ?_
        refine g_X2_9 (pc := 34) (v := .ref 94) rfl dX2_isOrdered_34 (c_93 _) rfl ?_
        refine R_aload_n (pc := 37) dX2_isOrdered_37 rfl rfl ?_
        refine g_X2_17 (pc := 38) (v := .ref 95) rfl dX2_isOrdered_38 (c_93 _) rfl ?_
        refine R_iload_n (pc := 41) dX2_isOrdered_41 rfl rfl ?_
        have hx29 : vp_in c 20 := (vp_of_inR hc (by decide))
        refine R_aaload (pc := 42) (b := 96 + (Int32.toNatClampNeg c)) dX2_isOrdered_42 (c_95 _) hx29 (if_pos (lt_of_vp hx29)) ?_
        refine R_iload (pc := 43) dX2_isOrdered_43 rfl ?_
        refine R_iconst (pc := 45) (v := 1) dX2_isOrdered_45 (by decide) ?_
        refine R_iadd (pc := 46) dX2_isOrdered_46 ?_
        have r30 : inR ((nI j12) + 1) 1 5 := inR_add (show inR (nI j12) 0 4 from hrg12) (show inR 1 1 1 from (inR_self _)) (by decide) (by decide)
        have e31 := ti_add (l := 1) (h := 5) (show inR (nI j12) 0 4 from hrg12) (show inR 1 1 1 from (inR_self _)) (by decide) (by decide)
        have hx32 : vp_in ((nI j12) + 1) 5 := (vp_ti (by have q0 := e3; have q1 := e31; have q2 := ti_nle b15_15; have q3 := ti_in hc; have q4 := ti_in (iva_116 hI _ (lt_of_vp hx1)); have q5 := ti_in r2; have q6 := ti_in hrg12; have q7 := ti_in (ivr_96 hI _ _ (lt_of_vp hx26) (lt_of_vp hx27)); have q8 := ti_in r30; have z0 : (-1 : Int32).toInt = -1 := (by decide); have z1 : (0 : Int32).toInt = 0 := (by decide); have z2 : (1 : Int32).toInt = 1 := (by decide); have z3 : (116 : Int32).toInt = 116 := (by decide); have z4 : (19 : Int32).toInt = 19 := (by decide); have z5 : (4 : Int32).toInt = 4 := (by decide); have z6 : (5 : Int32).toInt = 5 := (by decide); have z7 : (7 : Int32).toInt = 7 := (by decide); omega) (by have q0 := e3; have q1 := e31; have q2 := ti_nle b15_15; have q3 := ti_in hc; have q4 := ti_in (iva_116 hI _ (lt_of_vp hx1)); have q5 := ti_in r2; have q6 := ti_in hrg12; have q7 := ti_in (ivr_96 hI _ _ (lt_of_vp hx26) (lt_of_vp hx27)); have q8 := ti_in r30; have z0 : (-1 : Int32).toInt = -1 := (by decide); have z1 : (0 : Int32).toInt = 0 := (by decide); have z2 : (1 : Int32).toInt = 1 := (by decide); have z3 : (116 : Int32).toInt = 116 := (by decide); have z4 : (19 : Int32).toInt = 19 := (by decide); have z5 : (4 : Int32).toInt = 4 := (by decide); have z6 : (5 : Int32).toInt = 5 := (by decide); have z7 : (7 : Int32).toInt = 7 := (by decide); omega))
        refine R_iaload (pc := 47) dX2_isOrdered_47 (r_95 _ _ (lt_of_vp hx29)) hx32 ?_
        have hx33 : vp_in (σ.2.2.1 (96 + (Int32.toNatClampNeg c)) (Int32.toNatClampNeg ((nI j12) + 1))) 8 := (vp_of_inR (ivr_96 hI _ _ (lt_of_vp hx29) (lt_of_vp hx32)) (by decide))
        refine R_iaload (pc := 48) dX2_isOrdered_48 (c_94 _) hx33 ?_
        refine k_X2_36 (pc := 49) (gx_X2_isLeftOf _ _ _ _) rfl (by decide) (Nat.le_refl _) (Nat.le_refl _) (Nat.le_of_ble_eq_true rfl) dX2_isOrdered_49 (fun x w2 h => ?_)
        rcases h with ⟨rfl, rfl | rfl⟩
        · skip
          refine R_ifne (pc := 52) 57 dX2_isOrdered_52 (by decide) (fun _ => ?_) (fun h => absurd h (by decide))
          refine inc_5_4_1_i (pc := 57) dX2_isOrdered_57 ?_
          have r36 : inR ((nI j12) + 1) 1 5 := inR_add (show inR (nI j12) 0 4 from hrg12) (show inR 1 1 1 from (inR_self _)) (by decide) (by decide)
          have e37 := ti_add (l := 1) (h := 5) (show inR (nI j12) 0 4 from hrg12) (show inR 1 1 1 from (inR_self _)) (by decide) (by decide)
          refine R_goto (pc := 60) 12 dX2_isOrdered_60 (by decide) ?_
          rw [nI_1]
          exact ih12 (j12 + 1) (by omega) (by omega)
        · skip
          refine R_ifne (pc := 52) 57 dX2_isOrdered_52 (by decide) (fun h => absurd (by decide) h) (fun _ => ?_)
          refine R_iconst (pc := 55) (v := 0) dX2_isOrdered_55 (by decide) ?_
          exact R_iret (pc := 56) dX2_isOrdered_56 rfl rfl (Nat.zero_le _) (Nat.zero_le _) ⟨_, rfl, rfl, Or.inr rfl⟩
  exact HL12 5 0 (by omega) (by omega)
theorem dX2_seesAll_0 : decode cX2_seesAll 0 = .ok (.iconst 0, 1) := by decide +kernel
theorem dX2_seesAll_1 : decode cX2_seesAll 1 = .ok (.istore_n 3, 1) := by decide +kernel
theorem dX2_seesAll_2 : decode cX2_seesAll 2 = .ok (.iload_n 3, 1) := by decide +kernel
theorem dX2_seesAll_3 : decode cX2_seesAll 3 = .ok (.aload_n 0, 1) := by decide +kernel
theorem dX2_seesAll_4 : decode cX2_seesAll 4 = .ok (.getfield 20, 3) := by decide +kernel
theorem dX2_seesAll_7 : decode cX2_seesAll 7 = .ok (.iload_n 1, 1) := by decide +kernel
theorem dX2_seesAll_8 : decode cX2_seesAll 8 = .ok (.iaload, 1) := by decide +kernel
theorem dX2_seesAll_9 : decode cX2_seesAll 9 = .ok (.if_icmp .ge 32, 3) := by decide +kernel
theorem dX2_seesAll_12 : decode cX2_seesAll 12 = .ok (.aload_n 0, 1) := by decide +kernel
theorem dX2_seesAll_13 : decode cX2_seesAll 13 = .ok (.iload_n 2, 1) := by decide +kernel
theorem dX2_seesAll_14 : decode cX2_seesAll 14 = .ok (.aload_n 0, 1) := by decide +kernel
theorem dX2_seesAll_15 : decode cX2_seesAll 15 = .ok (.getfield 9, 3) := by decide +kernel
theorem dX2_seesAll_18 : decode cX2_seesAll 18 = .ok (.aload_n 0, 1) := by decide +kernel
theorem dX2_seesAll_19 : decode cX2_seesAll 19 = .ok (.getfield 17, 3) := by decide +kernel
theorem dX2_seesAll_22 : decode cX2_seesAll 22 = .ok (.iload_n 1, 1) := by decide +kernel
theorem dX2_seesAll_23 : decode cX2_seesAll 23 = .ok (.aaload, 1) := by decide +kernel
theorem dX2_seesAll_24 : decode cX2_seesAll 24 = .ok (.iload_n 3, 1) := by decide +kernel
theorem dX2_seesAll_25 : decode cX2_seesAll 25 = .ok (.iaload, 1) := by decide +kernel
theorem dX2_seesAll_26 : decode cX2_seesAll 26 = .ok (.iaload, 1) := by decide +kernel
theorem dX2_seesAll_27 : decode cX2_seesAll 27 = .ok (.invokevirtual 40, 3) := by decide +kernel
theorem dX2_seesAll_30 : decode cX2_seesAll 30 = .ok (.ifCond .ne 5, 3) := by decide +kernel
theorem dX2_seesAll_33 : decode cX2_seesAll 33 = .ok (.iconst 0, 1) := by decide +kernel
theorem dX2_seesAll_34 : decode cX2_seesAll 34 = .ok (.ireturn, 1) := by decide +kernel
theorem dX2_seesAll_35 : decode cX2_seesAll 35 = .ok (.iinc 3 1, 3) := by decide +kernel
theorem dX2_seesAll_38 : decode cX2_seesAll 38 = .ok (.goto (-36), 3) := by decide +kernel
theorem dX2_seesAll_41 : decode cX2_seesAll 41 = .ok (.iconst 1, 1) := by decide +kernel
theorem dX2_seesAll_42 : decode cX2_seesAll 42 = .ok (.ireturn, 1) := by decide +kernel
set_option maxRecDepth 100000 in
set_option maxHeartbeats 40000000 in
theorem gx_X2_seesAll {G : vG} {l : Launch} (σ : Sg) (c k : Int32) (hI : Inv σ) (hc : inR c 0 19) : Sp G l yX2_seesAll cX2_seesAll 4 (some .boolean) 2 0 0 [.ref 93, .int c, .int k] (WW σ) (QI (fun x w2 => w2 = WW σ ∧ (x = 1 ∨ x = 0))) := by
  refine Sp_of_R [(some (.ref 93)), (some (.int c)), (some (.int k)), none] [none] rfl (by simp) rfl (Nat.le_of_ble_eq_true rfl) ?_
  refine R_iconst (pc := 0) (v := 0) dX2_seesAll_0 (by decide) ?_
  refine st_4_3_i_i (pc := 1) dX2_seesAll_1 ?_
  have HL2 : ∀ (q j2 : Nat), j2 + q = 5 → 0 ≤ j2 → R G l yX2_seesAll cX2_seesAll 4 (some .boolean) 2 0 0 (QI (fun x w2 => w2 = WW σ ∧ (x = 1 ∨ x = 0))) 2 [(some (.ref 93)), (some (.int c)), (some (.int k)), (some (.int (nI j2)))] [] (WW σ) 0 0 := by
    intro q
    induction q with
    | zero =>
      intro j2 hj hs2
      obtain rfl : j2 = 5 := by omega
      refine R_iload_n (pc := 2) dX2_seesAll_2 rfl rfl ?_
      refine R_aload_n (pc := 3) dX2_seesAll_3 rfl rfl ?_
      refine g_X2_20 (pc := 4) (v := .ref 116) rfl dX2_seesAll_4 (c_93 _) rfl ?_
      refine R_iload_n (pc := 7) dX2_seesAll_7 rfl rfl ?_
      have hx1 : vp_in c 20 := (vp_of_inR hc (by decide))
      refine R_iaload (pc := 8) dX2_seesAll_8 (c_116 _) hx1 ?_
      refine R_icge (pc := 9) 41 dX2_seesAll_9 (by decide) (fun _ => ?_) (fun h => absurd (Int32.not_lt.mp (inR_up (iva_116 hI _ (lt_of_vp hx1)) (Int32.le_refl _) (by decide)).2) h)
      refine R_iconst (pc := 41) (v := 1) dX2_seesAll_41 (by decide) ?_
      exact R_iret (pc := 42) dX2_seesAll_42 rfl rfl (Nat.zero_le _) (Nat.zero_le _) ⟨_, rfl, rfl, Or.inl rfl⟩
    | succ q ih2 =>
      intro j2 hj hs2
      have hrg2 : inR (nI j2) 0 4 := inR_ix hs2 (show j2 < 5 by omega) (by decide) (by decide) (by decide)
      have hlt2 : j2 < 5 := by omega
      refine R_iload_n (pc := 2) dX2_seesAll_2 rfl rfl ?_
      refine R_aload_n (pc := 3) dX2_seesAll_3 rfl rfl ?_
      refine g_X2_20 (pc := 4) (v := .ref 116) rfl dX2_seesAll_4 (c_93 _) rfl ?_
      refine R_iload_n (pc := 7) dX2_seesAll_7 rfl rfl ?_
      have hx3 : vp_in c 20 := (vp_of_inR hc (by decide))
      refine R_iaload (pc := 8) dX2_seesAll_8 (c_116 _) hx3 ?_
      refine R_icge (pc := 9) 41 dX2_seesAll_9 (by decide) (fun b9_4 => ?_) (fun b9_4 => ?_)
      · skip
        refine R_iconst (pc := 41) (v := 1) dX2_seesAll_41 (by decide) ?_
        exact R_iret (pc := 42) dX2_seesAll_42 rfl rfl (Nat.zero_le _) (Nat.zero_le _) ⟨_, rfl, rfl, Or.inl rfl⟩
      · skip
        refine R_aload_n (pc := 12) dX2_seesAll_12 rfl rfl ?_
        refine R_iload_n (pc := 13) dX2_seesAll_13 rfl rfl ?_
        refine R_aload_n (pc := 14) dX2_seesAll_14 rfl rfl ?_
        refine g_X2_9 (pc := 15) (v := .ref 94) rfl dX2_seesAll_15 (c_93 _) rfl ?_
        refine R_aload_n (pc := 18) dX2_seesAll_18 rfl rfl ?_
        refine g_X2_17 (pc := 19) (v := .ref 95) rfl dX2_seesAll_19 (c_93 _) rfl ?_
        refine R_iload_n (pc := 22) dX2_seesAll_22 rfl rfl ?_
        have hx5 : vp_in c 20 := (vp_of_inR hc (by decide))
        refine R_aaload (pc := 23) (b := 96 + (Int32.toNatClampNeg c)) dX2_seesAll_23 (c_95 _) hx5 (if_pos (lt_of_vp hx5)) ?_
        refine R_iload_n (pc := 24) dX2_seesAll_24 rfl rfl ?_
        have hx6 : vp_in (nI j2) 5 := (vp_in_nI (by omega) (by decide))
        refine R_iaload (pc := 25) dX2_seesAll_25 (r_95 _ _ (lt_of_vp hx5)) hx6 ?_
        have hx7 : vp_in (σ.2.2.1 (96 + (Int32.toNatClampNeg c)) (Int32.toNatClampNeg (nI j2))) 8 := (vp_of_inR (ivr_96 hI _ _ (lt_of_vp hx5) (lt_of_vp hx6)) (by decide))
        refine R_iaload (pc := 26) dX2_seesAll_26 (c_94 _) hx7 ?_
        refine k_X2_40 (pc := 27) (gx_X2_sees _ _ _ hI) rfl (c_93 _) (by decide) (Nat.le_refl _) (Nat.le_refl _) (Nat.le_of_ble_eq_true rfl) dX2_seesAll_27 (fun x w2 h => ?_)
        rcases h with ⟨rfl, rfl | rfl⟩
        · skip
          refine R_ifne (pc := 30) 35 dX2_seesAll_30 (by decide) (fun _ => ?_) (fun h => absurd h (by decide))
          refine inc_4_3_1_i (pc := 35) dX2_seesAll_35 ?_
          have r10 : inR ((nI j2) + 1) 1 5 := inR_add (show inR (nI j2) 0 4 from hrg2) (show inR 1 1 1 from (inR_self _)) (by decide) (by decide)
          have e11 := ti_add (l := 1) (h := 5) (show inR (nI j2) 0 4 from hrg2) (show inR 1 1 1 from (inR_self _)) (by decide) (by decide)
          refine R_goto (pc := 38) 2 dX2_seesAll_38 (by decide) ?_
          rw [nI_1]
          exact ih2 (j2 + 1) (by omega) (by omega)
        · skip
          refine R_ifne (pc := 30) 35 dX2_seesAll_30 (by decide) (fun h => absurd (by decide) h) (fun _ => ?_)
          refine R_iconst (pc := 33) (v := 0) dX2_seesAll_33 (by decide) ?_
          exact R_iret (pc := 34) dX2_seesAll_34 rfl rfl (Nat.zero_le _) (Nat.zero_le _) ⟨_, rfl, rfl, Or.inr rfl⟩
  exact HL2 5 0 (by omega) (by omega)
theorem dX2_standing_0 : decode cX2_standing 0 = .ok (.aload_n 0, 1) := by decide +kernel
theorem dX2_standing_1 : decode cX2_standing 1 = .ok (.getfield 23, 3) := by decide +kernel
theorem dX2_standing_4 : decode cX2_standing 4 = .ok (.ldc2_w 27, 3) := by decide +kernel
theorem dX2_standing_7 : decode cX2_standing 7 = .ok (.lxor, 1) := by decide +kernel
theorem dX2_standing_8 : decode cX2_standing 8 = .ok (.lstore_n 2, 1) := by decide +kernel
theorem dX2_standing_9 : decode cX2_standing 9 = .ok (.iconst 0, 1) := by decide +kernel
theorem dX2_standing_10 : decode cX2_standing 10 = .ok (.istore 4, 2) := by decide +kernel
theorem dX2_standing_12 : decode cX2_standing 12 = .ok (.iload 4, 2) := by decide +kernel
theorem dX2_standing_14 : decode cX2_standing 14 = .ok (.aload_n 0, 1) := by decide +kernel
theorem dX2_standing_15 : decode cX2_standing 15 = .ok (.getfield 20, 3) := by decide +kernel
theorem dX2_standing_18 : decode cX2_standing 18 = .ok (.iload_n 1, 1) := by decide +kernel
theorem dX2_standing_19 : decode cX2_standing 19 = .ok (.iaload, 1) := by decide +kernel
theorem dX2_standing_20 : decode cX2_standing 20 = .ok (.if_icmp .ge 45, 3) := by decide +kernel
theorem dX2_standing_23 : decode cX2_standing 23 = .ok (.aload_n 0, 1) := by decide +kernel
theorem dX2_standing_24 : decode cX2_standing 24 = .ok (.getfield 9, 3) := by decide +kernel
theorem dX2_standing_27 : decode cX2_standing 27 = .ok (.aload_n 0, 1) := by decide +kernel
theorem dX2_standing_28 : decode cX2_standing 28 = .ok (.getfield 17, 3) := by decide +kernel
theorem dX2_standing_31 : decode cX2_standing 31 = .ok (.iload_n 1, 1) := by decide +kernel
theorem dX2_standing_32 : decode cX2_standing 32 = .ok (.aaload, 1) := by decide +kernel
theorem dX2_standing_33 : decode cX2_standing 33 = .ok (.iload 4, 2) := by decide +kernel
theorem dX2_standing_35 : decode cX2_standing 35 = .ok (.iaload, 1) := by decide +kernel
theorem dX2_standing_36 : decode cX2_standing 36 = .ok (.iaload, 1) := by decide +kernel
theorem dX2_standing_37 : decode cX2_standing 37 = .ok (.istore 5, 2) := by decide +kernel
theorem dX2_standing_39 : decode cX2_standing 39 = .ok (.iload 5, 2) := by decide +kernel
theorem dX2_standing_41 : decode cX2_standing 41 = .ok (.bipush 64, 2) := by decide +kernel
theorem dX2_standing_43 : decode cX2_standing 43 = .ok (.if_icmp .ne 5, 3) := by decide +kernel
theorem dX2_standing_46 : decode cX2_standing 46 = .ok (.lconst 0, 1) := by decide +kernel
theorem dX2_standing_47 : decode cX2_standing 47 = .ok (.lreturn, 1) := by decide +kernel
theorem dX2_standing_48 : decode cX2_standing 48 = .ok (.lload_n 2, 1) := by decide +kernel
theorem dX2_standing_49 : decode cX2_standing 49 = .ok (.lconst 1, 1) := by decide +kernel
theorem dX2_standing_50 : decode cX2_standing 50 = .ok (.iload 5, 2) := by decide +kernel
theorem dX2_standing_52 : decode cX2_standing 52 = .ok (.lshl, 1) := by decide +kernel
theorem dX2_standing_53 : decode cX2_standing 53 = .ok (.ldc2_w 27, 3) := by decide +kernel
theorem dX2_standing_56 : decode cX2_standing 56 = .ok (.lxor, 1) := by decide +kernel
theorem dX2_standing_57 : decode cX2_standing 57 = .ok (.land, 1) := by decide +kernel
theorem dX2_standing_58 : decode cX2_standing 58 = .ok (.lstore_n 2, 1) := by decide +kernel
theorem dX2_standing_59 : decode cX2_standing 59 = .ok (.iinc 4 1, 3) := by decide +kernel
theorem dX2_standing_62 : decode cX2_standing 62 = .ok (.goto (-50), 3) := by decide +kernel
theorem dX2_standing_65 : decode cX2_standing 65 = .ok (.lconst 0, 1) := by decide +kernel
theorem dX2_standing_66 : decode cX2_standing 66 = .ok (.lstore 4, 2) := by decide +kernel
theorem dX2_standing_68 : decode cX2_standing 68 = .ok (.iconst 0, 1) := by decide +kernel
theorem dX2_standing_69 : decode cX2_standing 69 = .ok (.istore 6, 2) := by decide +kernel
theorem dX2_standing_71 : decode cX2_standing 71 = .ok (.iload 6, 2) := by decide +kernel
theorem dX2_standing_73 : decode cX2_standing 73 = .ok (.bipush 64, 2) := by decide +kernel
theorem dX2_standing_75 : decode cX2_standing 75 = .ok (.if_icmp .ge 49, 3) := by decide +kernel
theorem dX2_standing_78 : decode cX2_standing 78 = .ok (.lload_n 2, 1) := by decide +kernel
theorem dX2_standing_79 : decode cX2_standing 79 = .ok (.iload 6, 2) := by decide +kernel
theorem dX2_standing_81 : decode cX2_standing 81 = .ok (.lshr, 1) := by decide +kernel
theorem dX2_standing_82 : decode cX2_standing 82 = .ok (.lconst 1, 1) := by decide +kernel
theorem dX2_standing_83 : decode cX2_standing 83 = .ok (.land, 1) := by decide +kernel
theorem dX2_standing_84 : decode cX2_standing 84 = .ok (.lconst 1, 1) := by decide +kernel
theorem dX2_standing_85 : decode cX2_standing 85 = .ok (.lcmp, 1) := by decide +kernel
theorem dX2_standing_86 : decode cX2_standing 86 = .ok (.ifCond .ne 32, 3) := by decide +kernel
theorem dX2_standing_89 : decode cX2_standing 89 = .ok (.aload_n 0, 1) := by decide +kernel
theorem dX2_standing_90 : decode cX2_standing 90 = .ok (.iload_n 1, 1) := by decide +kernel
theorem dX2_standing_91 : decode cX2_standing 91 = .ok (.iload 6, 2) := by decide +kernel
theorem dX2_standing_93 : decode cX2_standing 93 = .ok (.invokevirtual 29, 3) := by decide +kernel
theorem dX2_standing_96 : decode cX2_standing 96 = .ok (.ifCond .eq 22, 3) := by decide +kernel
theorem dX2_standing_99 : decode cX2_standing 99 = .ok (.aload_n 0, 1) := by decide +kernel
theorem dX2_standing_100 : decode cX2_standing 100 = .ok (.iload_n 1, 1) := by decide +kernel
theorem dX2_standing_101 : decode cX2_standing 101 = .ok (.iload 6, 2) := by decide +kernel
theorem dX2_standing_103 : decode cX2_standing 103 = .ok (.invokevirtual 33, 3) := by decide +kernel
theorem dX2_standing_106 : decode cX2_standing 106 = .ok (.ifCond .eq 12, 3) := by decide +kernel
theorem dX2_standing_109 : decode cX2_standing 109 = .ok (.lload 4, 2) := by decide +kernel
theorem dX2_standing_111 : decode cX2_standing 111 = .ok (.lconst 1, 1) := by decide +kernel
theorem dX2_standing_112 : decode cX2_standing 112 = .ok (.iload 6, 2) := by decide +kernel
theorem dX2_standing_114 : decode cX2_standing 114 = .ok (.lshl, 1) := by decide +kernel
theorem dX2_standing_115 : decode cX2_standing 115 = .ok (.lor, 1) := by decide +kernel
theorem dX2_standing_116 : decode cX2_standing 116 = .ok (.lstore 4, 2) := by decide +kernel
theorem dX2_standing_118 : decode cX2_standing 118 = .ok (.iinc 6 1, 3) := by decide +kernel
theorem dX2_standing_121 : decode cX2_standing 121 = .ok (.goto (-50), 3) := by decide +kernel
theorem dX2_standing_124 : decode cX2_standing 124 = .ok (.lload 4, 2) := by decide +kernel
theorem dX2_standing_126 : decode cX2_standing 126 = .ok (.lreturn, 1) := by decide +kernel
set_option maxRecDepth 100000 in
set_option maxHeartbeats 40000000 in
theorem gx_X2_standing {G : vG} {l : Launch} (σ : Sg) (c : Int32) (hI : Inv σ) (hc : inR c 0 19) : Sp G l yX2_standing cX2_standing 7 (some .long) 3 0 0 [.ref 93, .int c] (WW σ) (QL (fun x w2 => w2 = WW σ)) := by
  refine Sp_of_R [(some (.ref 93)), (some (.int c)), none, none, none, none, none] [none, none, none, none, none] rfl (by simp) rfl (Nat.le_of_ble_eq_true rfl) ?_
  refine R_aload_n (pc := 0) dX2_standing_0 rfl rfl ?_
  refine g_X2_23 (pc := 1) (v := .long (σ.2.1 9301)) rfl dX2_standing_1 (c_93 _) rfl ?_
  refine R_ldc2 (pc := 4) w_673c dX2_standing_4 ?_
  refine R_lxor (pc := 7) dX2_standing_7 ?_
  refine st_7_2_l_i (pc := 8) dX2_standing_8 ?_
  refine R_iconst (pc := 9) (v := 0) dX2_standing_9 (by decide) ?_
  refine st_7_4_i_n (pc := 10) dX2_standing_10 ?_
  have HL12 : ∀ (q j12 : Nat) (g2_12 : Int64) (g5_12 : Option Value), j12 + q = 5 → 0 ≤ j12 → R G l yX2_standing cX2_standing 7 (some .long) 3 0 0 (QL (fun x w2 => w2 = WW σ)) 12 [(some (.ref 93)), (some (.int c)), (some (.long g2_12)), none, (some (.int (nI j12))), g5_12, none] [] (WW σ) 0 0 := by
    intro q
    induction q with
    | zero =>
      intro j12 g2_12 g5_12 hj hs12
      obtain rfl : j12 = 5 := by omega
      refine R_iload (pc := 12) dX2_standing_12 rfl ?_
      refine R_aload_n (pc := 14) dX2_standing_14 rfl rfl ?_
      refine g_X2_20 (pc := 15) (v := .ref 116) rfl dX2_standing_15 (c_93 _) rfl ?_
      refine R_iload_n (pc := 18) dX2_standing_18 rfl rfl ?_
      have hx1 : vp_in c 20 := (vp_of_inR hc (by decide))
      refine R_iaload (pc := 19) dX2_standing_19 (c_116 _) hx1 ?_
      refine R_icge (pc := 20) 65 dX2_standing_20 (by decide) (fun _ => ?_) (fun h => absurd (Int32.not_lt.mp (inR_up (iva_116 hI _ (lt_of_vp hx1)) (Int32.le_refl _) (by decide)).2) h)
      refine R_lconst (pc := 65) (v := 0) dX2_standing_65 (by decide) ?_
      refine st_7_4_l_n (pc := 66) dX2_standing_66 ?_
      refine R_iconst (pc := 68) (v := 0) dX2_standing_68 (by decide) ?_
      refine st_7_6_i_n (pc := 69) dX2_standing_69 ?_
      have HL71 : ∀ (q j71 : Nat) (g4_71 : Int64), j71 + q = 64 → 0 ≤ j71 → R G l yX2_standing cX2_standing 7 (some .long) 3 0 0 (QL (fun x w2 => w2 = WW σ)) 71 [(some (.ref 93)), (some (.int c)), (some (.long g2_12)), none, (some (.long g4_71)), none, (some (.int (nI j71)))] [] (WW σ) 0 0 := by
        intro q
        induction q with
        | zero =>
          intro j71 g4_71 hj hs71
          obtain rfl : j71 = 64 := by omega
          refine R_iload (pc := 71) dX2_standing_71 rfl ?_
          refine R_bipush (pc := 73) (v := 64) dX2_standing_73 (by decide) ?_
          refine R_icge (pc := 75) 124 dX2_standing_75 (by decide) (fun _ => ?_) (fun h => absurd (by decide) h)
          refine R_lload (pc := 124) dX2_standing_124 rfl ?_
          exact R_lret (pc := 126) dX2_standing_126 rfl (Nat.zero_le _) (Nat.zero_le _) ⟨_, rfl, rfl⟩
        | succ q ih71 =>
          intro j71 g4_71 hj hs71
          have hrg71 : inR (nI j71) 0 63 := inR_ix hs71 (show j71 < 64 by omega) (by decide) (by decide) (by decide)
          have hlt71 : j71 < 64 := by omega
          refine R_iload (pc := 71) dX2_standing_71 rfl ?_
          refine R_bipush (pc := 73) (v := 64) dX2_standing_73 (by decide) ?_
          refine R_icge (pc := 75) 124 dX2_standing_75 (by decide) (fun h => False.elim (by have q1 := ti_le h; have q2 := ti_in (show inR (nI j71) 0 63 from hrg71); have q3 := ti_in (show inR 64 64 64 from (inR_self _)); have z0 : (0 : Int32).toInt = 0 := (by decide);  have z1 : (63 : Int32).toInt = 63 := (by decide);  have z2 : (64 : Int32).toInt = 64 := (by decide); omega)) (fun _ => ?_)
          refine R_lload_n (pc := 78) dX2_standing_78 rfl rfl ?_
          refine R_iload (pc := 79) dX2_standing_79 rfl ?_
          refine R_lshr (pc := 81) dX2_standing_81 ?_
          refine R_lconst (pc := 82) (v := 1) dX2_standing_82 (by decide) ?_
          refine R_land (pc := 83) dX2_standing_83 ?_
          refine R_lconst (pc := 84) (v := 1) dX2_standing_84 (by decide) ?_
          refine R_lcmp (pc := 85) dX2_standing_85 ?_
          refine R_ifne (pc := 86) 118 dX2_standing_86 (by decide) (fun b86_5 => ?_) (fun b86_5 => ?_)
          · skip
            refine inc_7_6_1_n (pc := 118) dX2_standing_118 ?_
            have r6 : inR ((nI j71) + 1) 1 64 := inR_add (show inR (nI j71) 0 63 from hrg71) (show inR 1 1 1 from (inR_self _)) (by decide) (by decide)
            have e7 := ti_add (l := 1) (h := 64) (show inR (nI j71) 0 63 from hrg71) (show inR 1 1 1 from (inR_self _)) (by decide) (by decide)
            refine R_goto (pc := 121) 71 dX2_standing_121 (by decide) ?_
            rw [nI_1]
            exact ih71 (j71 + 1) _ (by omega) (by omega)
          · skip
            refine R_aload_n (pc := 89) dX2_standing_89 rfl rfl ?_
            refine R_iload_n (pc := 90) dX2_standing_90 rfl rfl ?_
            refine R_iload (pc := 91) dX2_standing_91 rfl ?_
            refine k_X2_29 (pc := 93) (gx_X2_isOrdered _ _ _ hI hc) rfl (c_93 _) (by decide) (Nat.le_refl _) (Nat.le_refl _) (Nat.le_of_ble_eq_true rfl) dX2_standing_93 (fun x w2 h => ?_)
            rcases h with ⟨rfl, rfl | rfl⟩
            · skip
              refine R_ifeq (pc := 96) 118 dX2_standing_96 (by decide) (fun h => absurd h (by decide)) (fun _ => ?_)
              refine R_aload_n (pc := 99) dX2_standing_99 rfl rfl ?_
              refine R_iload_n (pc := 100) dX2_standing_100 rfl rfl ?_
              refine R_iload (pc := 101) dX2_standing_101 rfl ?_
              refine k_X2_33 (pc := 103) (gx_X2_seesAll _ _ _ hI hc) rfl (c_93 _) (by decide) (Nat.le_refl _) (Nat.le_refl _) (Nat.le_of_ble_eq_true rfl) dX2_standing_103 (fun x w2 h => ?_)
              rcases h with ⟨rfl, rfl | rfl⟩
              · skip
                refine R_ifeq (pc := 106) 118 dX2_standing_106 (by decide) (fun h => absurd h (by decide)) (fun _ => ?_)
                refine R_lload (pc := 109) dX2_standing_109 rfl ?_
                refine R_lconst (pc := 111) (v := 1) dX2_standing_111 (by decide) ?_
                refine R_iload (pc := 112) dX2_standing_112 rfl ?_
                refine R_lshl (pc := 114) dX2_standing_114 ?_
                refine R_lor (pc := 115) dX2_standing_115 ?_
                refine st_7_4_l_n (pc := 116) dX2_standing_116 ?_
                refine inc_7_6_1_n (pc := 118) dX2_standing_118 ?_
                have r12 : inR ((nI j71) + 1) 1 64 := inR_add (show inR (nI j71) 0 63 from hrg71) (show inR 1 1 1 from (inR_self _)) (by decide) (by decide)
                have e13 := ti_add (l := 1) (h := 64) (show inR (nI j71) 0 63 from hrg71) (show inR 1 1 1 from (inR_self _)) (by decide) (by decide)
                refine R_goto (pc := 121) 71 dX2_standing_121 (by decide) ?_
                rw [nI_1]
                exact ih71 (j71 + 1) _ (by omega) (by omega)
              · skip
                refine R_ifeq (pc := 106) 118 dX2_standing_106 (by decide) (fun _ => ?_) (fun h => absurd (by decide) h)
                refine inc_7_6_1_n (pc := 118) dX2_standing_118 ?_
                have r15 : inR ((nI j71) + 1) 1 64 := inR_add (show inR (nI j71) 0 63 from hrg71) (show inR 1 1 1 from (inR_self _)) (by decide) (by decide)
                have e16 := ti_add (l := 1) (h := 64) (show inR (nI j71) 0 63 from hrg71) (show inR 1 1 1 from (inR_self _)) (by decide) (by decide)
                refine R_goto (pc := 121) 71 dX2_standing_121 (by decide) ?_
                rw [nI_1]
                exact ih71 (j71 + 1) _ (by omega) (by omega)
            · skip
              refine R_ifeq (pc := 96) 118 dX2_standing_96 (by decide) (fun _ => ?_) (fun h => absurd (by decide) h)
              refine inc_7_6_1_n (pc := 118) dX2_standing_118 ?_
              have r18 : inR ((nI j71) + 1) 1 64 := inR_add (show inR (nI j71) 0 63 from hrg71) (show inR 1 1 1 from (inR_self _)) (by decide) (by decide)
              have e19 := ti_add (l := 1) (h := 64) (show inR (nI j71) 0 63 from hrg71) (show inR 1 1 1 from (inR_self _)) (by decide) (by decide)
              refine R_goto (pc := 121) 71 dX2_standing_121 (by decide) ?_
              rw [nI_1]
              exact ih71 (j71 + 1) _ (by omega) (by omega)
      exact HL71 64 0 _ (by omega) (by omega)
    | succ q ih12 =>
      intro j12 g2_12 g5_12 hj hs12
      have hrg12 : inR (nI j12) 0 4 := inR_ix hs12 (show j12 < 5 by omega) (by decide) (by decide) (by decide)
      have hlt12 : j12 < 5 := by omega
      refine R_iload (pc := 12) dX2_standing_12 rfl ?_
      refine R_aload_n (pc := 14) dX2_standing_14 rfl rfl ?_
      refine g_X2_20 (pc := 15) (v := .ref 116) rfl dX2_standing_15 (c_93 _) rfl ?_
      refine R_iload_n (pc := 18) dX2_standing_18 rfl rfl ?_
      have hx20 : vp_in c 20 := (vp_of_inR hc (by decide))
      refine R_iaload (pc := 19) dX2_standing_19 (c_116 _) hx20 ?_
      refine R_icge (pc := 20) 65 dX2_standing_20 (by decide) (fun b20_21 => ?_) (fun b20_21 => ?_)
      · skip
        refine R_lconst (pc := 65) (v := 0) dX2_standing_65 (by decide) ?_
        refine st_7_4_l_n (pc := 66) dX2_standing_66 ?_
        refine R_iconst (pc := 68) (v := 0) dX2_standing_68 (by decide) ?_
        refine st_7_6_i_n (pc := 69) dX2_standing_69 ?_
        have HL71 : ∀ (q j71 : Nat) (g4_71 : Int64), j71 + q = 64 → 0 ≤ j71 → R G l yX2_standing cX2_standing 7 (some .long) 3 0 0 (QL (fun x w2 => w2 = WW σ)) 71 [(some (.ref 93)), (some (.int c)), (some (.long g2_12)), none, (some (.long g4_71)), none, (some (.int (nI j71)))] [] (WW σ) 0 0 := by
          intro q
          induction q with
          | zero =>
            intro j71 g4_71 hj hs71
            obtain rfl : j71 = 64 := by omega
            refine R_iload (pc := 71) dX2_standing_71 rfl ?_
            refine R_bipush (pc := 73) (v := 64) dX2_standing_73 (by decide) ?_
            refine R_icge (pc := 75) 124 dX2_standing_75 (by decide) (fun _ => ?_) (fun h => absurd (by decide) h)
            refine R_lload (pc := 124) dX2_standing_124 rfl ?_
            exact R_lret (pc := 126) dX2_standing_126 rfl (Nat.zero_le _) (Nat.zero_le _) ⟨_, rfl, rfl⟩
          | succ q ih71 =>
            intro j71 g4_71 hj hs71
            have hrg71 : inR (nI j71) 0 63 := inR_ix hs71 (show j71 < 64 by omega) (by decide) (by decide) (by decide)
            have hlt71 : j71 < 64 := by omega
            refine R_iload (pc := 71) dX2_standing_71 rfl ?_
            refine R_bipush (pc := 73) (v := 64) dX2_standing_73 (by decide) ?_
            refine R_icge (pc := 75) 124 dX2_standing_75 (by decide) (fun h => False.elim (by have q1 := ti_le h; have q2 := ti_in (show inR (nI j71) 0 63 from hrg71); have q3 := ti_in (show inR 64 64 64 from (inR_self _)); have z0 : (0 : Int32).toInt = 0 := (by decide);  have z1 : (63 : Int32).toInt = 63 := (by decide);  have z2 : (64 : Int32).toInt = 64 := (by decide); omega)) (fun _ => ?_)
            refine R_lload_n (pc := 78) dX2_standing_78 rfl rfl ?_
            refine R_iload (pc := 79) dX2_standing_79 rfl ?_
            refine R_lshr (pc := 81) dX2_standing_81 ?_
            refine R_lconst (pc := 82) (v := 1) dX2_standing_82 (by decide) ?_
            refine R_land (pc := 83) dX2_standing_83 ?_
            refine R_lconst (pc := 84) (v := 1) dX2_standing_84 (by decide) ?_
            refine R_lcmp (pc := 85) dX2_standing_85 ?_
            refine R_ifne (pc := 86) 118 dX2_standing_86 (by decide) (fun b86_24 => ?_) (fun b86_24 => ?_)
            · skip
              refine inc_7_6_1_n (pc := 118) dX2_standing_118 ?_
              have r25 : inR ((nI j71) + 1) 1 64 := inR_add (show inR (nI j71) 0 63 from hrg71) (show inR 1 1 1 from (inR_self _)) (by decide) (by decide)
              have e26 := ti_add (l := 1) (h := 64) (show inR (nI j71) 0 63 from hrg71) (show inR 1 1 1 from (inR_self _)) (by decide) (by decide)
              refine R_goto (pc := 121) 71 dX2_standing_121 (by decide) ?_
              rw [nI_1]
              exact ih71 (j71 + 1) _ (by omega) (by omega)
            · skip
              refine R_aload_n (pc := 89) dX2_standing_89 rfl rfl ?_
              refine R_iload_n (pc := 90) dX2_standing_90 rfl rfl ?_
              refine R_iload (pc := 91) dX2_standing_91 rfl ?_
              refine k_X2_29 (pc := 93) (gx_X2_isOrdered _ _ _ hI hc) rfl (c_93 _) (by decide) (Nat.le_refl _) (Nat.le_refl _) (Nat.le_of_ble_eq_true rfl) dX2_standing_93 (fun x w2 h => ?_)
              rcases h with ⟨rfl, rfl | rfl⟩
              · skip
                refine R_ifeq (pc := 96) 118 dX2_standing_96 (by decide) (fun h => absurd h (by decide)) (fun _ => ?_)
                refine R_aload_n (pc := 99) dX2_standing_99 rfl rfl ?_
                refine R_iload_n (pc := 100) dX2_standing_100 rfl rfl ?_
                refine R_iload (pc := 101) dX2_standing_101 rfl ?_
                refine k_X2_33 (pc := 103) (gx_X2_seesAll _ _ _ hI hc) rfl (c_93 _) (by decide) (Nat.le_refl _) (Nat.le_refl _) (Nat.le_of_ble_eq_true rfl) dX2_standing_103 (fun x w2 h => ?_)
                rcases h with ⟨rfl, rfl | rfl⟩
                · skip
                  refine R_ifeq (pc := 106) 118 dX2_standing_106 (by decide) (fun h => absurd h (by decide)) (fun _ => ?_)
                  refine R_lload (pc := 109) dX2_standing_109 rfl ?_
                  refine R_lconst (pc := 111) (v := 1) dX2_standing_111 (by decide) ?_
                  refine R_iload (pc := 112) dX2_standing_112 rfl ?_
                  refine R_lshl (pc := 114) dX2_standing_114 ?_
                  refine R_lor (pc := 115) dX2_standing_115 ?_
                  refine st_7_4_l_n (pc := 116) dX2_standing_116 ?_
                  refine inc_7_6_1_n (pc := 118) dX2_standing_118 ?_
                  have r31 : inR ((nI j71) + 1) 1 64 := inR_add (show inR (nI j71) 0 63 from hrg71) (show inR 1 1 1 from (inR_self _)) (by decide) (by decide)
                  have e32 := ti_add (l := 1) (h := 64) (show inR (nI j71) 0 63 from hrg71) (show inR 1 1 1 from (inR_self _)) (by decide) (by decide)
                  refine R_goto (pc := 121) 71 dX2_standing_121 (by decide) ?_
                  rw [nI_1]
                  exact ih71 (j71 + 1) _ (by omega) (by omega)
                · skip
                  refine R_ifeq (pc := 106) 118 dX2_standing_106 (by decide) (fun _ => ?_) (fun h => absurd (by decide) h)
                  refine inc_7_6_1_n (pc := 118) dX2_standing_118 ?_
                  have r34 : inR ((nI j71) + 1) 1 64 := inR_add (show inR (nI j71) 0 63 from hrg71) (show inR 1 1 1 from (inR_self _)) (by decide) (by decide)
                  have e35 := ti_add (l := 1) (h := 64) (show inR (nI j71) 0 63 from hrg71) (show inR 1 1 1 from (inR_self _)) (by decide) (by decide)
                  refine R_goto (pc := 121) 71 dX2_standing_121 (by decide) ?_
                  rw [nI_1]
                  exact ih71 (j71 + 1) _ (by omega) (by omega)
              · skip
                refine R_ifeq (pc := 96) 118 dX2_standing_96 (by decide) (fun _ => ?_) (fun h => absurd (by decide) h)
                refine inc_7_6_1_n (pc := 118) dX2_standing_118 ?_
                have r37 : inR ((nI j71) + 1) 1 64 := inR_add (show inR (nI j71) 0 63 from hrg71) (show inR 1 1 1 from (inR_self _)) (by decide) (by decide)
                have e38 := ti_add (l := 1) (h := 64) (show inR (nI j71) 0 63 from hrg71) (show inR 1 1 1 from (inR_self _)) (by decide) (by decide)
                refine R_goto (pc := 121) 71 dX2_standing_121 (by decide) ?_
                rw [nI_1]
                exact ih71 (j71 + 1) _ (by omega) (by omega)
        exact HL71 64 0 _ (by omega) (by omega)
      · skip
        refine R_aload_n (pc := 23) dX2_standing_23 rfl rfl ?_
        refine g_X2_9 (pc := 24) (v := .ref 94) rfl dX2_standing_24 (c_93 _) rfl ?_
        refine R_aload_n (pc := 27) dX2_standing_27 rfl rfl ?_
        refine g_X2_17 (pc := 28) (v := .ref 95) rfl dX2_standing_28 (c_93 _) rfl ?_
        refine R_iload_n (pc := 31) dX2_standing_31 rfl rfl ?_
        have hx39 : vp_in c 20 := (vp_of_inR hc (by decide))
        refine R_aaload (pc := 32) (b := 96 + (Int32.toNatClampNeg c)) dX2_standing_32 (c_95 _) hx39 (if_pos (lt_of_vp hx39)) ?_
        refine R_iload (pc := 33) dX2_standing_33 rfl ?_
        have hx40 : vp_in (nI j12) 5 := (vp_in_nI (by omega) (by decide))
        refine R_iaload (pc := 35) dX2_standing_35 (r_95 _ _ (lt_of_vp hx39)) hx40 ?_
        have hx41 : vp_in (σ.2.2.1 (96 + (Int32.toNatClampNeg c)) (Int32.toNatClampNeg (nI j12))) 8 := (vp_of_inR (ivr_96 hI _ _ (lt_of_vp hx39) (lt_of_vp hx40)) (by decide))
        refine R_iaload (pc := 36) dX2_standing_36 (c_94 _) hx41 ?_
        refine st_7_5_i_i (pc := 37) dX2_standing_37 ?_
        refine R_iload (pc := 39) dX2_standing_39 rfl ?_
        refine R_bipush (pc := 41) (v := 64) dX2_standing_41 (by decide) ?_
        refine R_icne (pc := 43) 48 dX2_standing_43 (by decide) (fun b43_42 => ?_) (fun b43_42 => ?_)
        · skip
          refine R_lload_n (pc := 48) dX2_standing_48 rfl rfl ?_
          refine R_lconst (pc := 49) (v := 1) dX2_standing_49 (by decide) ?_
          refine R_iload (pc := 50) dX2_standing_50 rfl ?_
          refine R_lshl (pc := 52) dX2_standing_52 ?_
          refine R_ldc2 (pc := 53) w_673c dX2_standing_53 ?_
          refine R_lxor (pc := 56) dX2_standing_56 ?_
          refine R_land (pc := 57) dX2_standing_57 ?_
          refine st_7_2_l_i (pc := 58) dX2_standing_58 ?_
          refine inc_7_4_1_n (pc := 59) dX2_standing_59 ?_
          have r43 : inR ((nI j12) + 1) 1 5 := inR_add (show inR (nI j12) 0 4 from hrg12) (show inR 1 1 1 from (inR_self _)) (by decide) (by decide)
          have e44 := ti_add (l := 1) (h := 5) (show inR (nI j12) 0 4 from hrg12) (show inR 1 1 1 from (inR_self _)) (by decide) (by decide)
          refine R_goto (pc := 62) 12 dX2_standing_62 (by decide) ?_
          rw [nI_1]
          exact ih12 (j12 + 1) _ _ (by omega) (by omega)
        · skip
          refine R_lconst (pc := 46) (v := 0) dX2_standing_46 (by decide) ?_
          exact R_lret (pc := 47) dX2_standing_47 rfl (Nat.zero_le _) (Nat.zero_le _) ⟨_, rfl, rfl⟩
  exact HL12 5 0 _ _ (by omega) (by omega)
