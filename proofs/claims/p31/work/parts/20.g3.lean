/-! methods on any state that keeps the invariant -/
theorem dX8_lowest_0 : decode cX8_lowest 0 = .ok (.iload_n 0, 1) := by decide +kernel
theorem dX8_lowest_1 : decode cX8_lowest 1 = .ok (.iload_n 0, 1) := by decide +kernel
theorem dX8_lowest_2 : decode cX8_lowest 2 = .ok (.ineg, 1) := by decide +kernel
theorem dX8_lowest_3 : decode cX8_lowest 3 = .ok (.iand, 1) := by decide +kernel
theorem dX8_lowest_4 : decode cX8_lowest 4 = .ok (.iconst 1, 1) := by decide +kernel
theorem dX8_lowest_5 : decode cX8_lowest 5 = .ok (.isub, 1) := by decide +kernel
theorem dX8_lowest_6 : decode cX8_lowest 6 = .ok (.invokestatic 159, 3) := by decide +kernel
theorem dX8_lowest_9 : decode cX8_lowest 9 = .ok (.ireturn, 1) := by decide +kernel
set_option maxRecDepth 100000 in
set_option maxHeartbeats 40000000 in
theorem gx_X8_lowest {G : vG} {l : Launch} (w : VW) (a : Int32) : Sp G l yX8_lowest cX8_lowest 1 (some .int) 1 0 0 [.int a] (w) (QI (fun x w2 => w2 = w ∧ x = pcI ((a &&& -a) - 1))) := by
  refine Sp_of_R [(some (.int a))] [] rfl (by simp) rfl (Nat.le_of_ble_eq_true rfl) ?_
  refine R_iload_n (pc := 0) dX8_lowest_0 rfl rfl ?_
  refine R_iload_n (pc := 1) dX8_lowest_1 rfl rfl ?_
  refine R_ineg (pc := 2) dX8_lowest_2 ?_
  refine R_iand (pc := 3) dX8_lowest_3 ?_
  refine R_iconst (pc := 4) (v := 1) dX8_lowest_4 (by decide) ?_
  refine R_isub (pc := 5) dX8_lowest_5 ?_
  refine k_X8_159 (pc := 6) (sp_J6_bitCount_0f7a4 _ _) rfl (by decide) (Nat.le_refl _) (Nat.le_refl _) (Nat.le_of_ble_eq_true rfl) dX8_lowest_6 (fun x w2 h => ?_)
  obtain ⟨rfl, rfl⟩ := h
  exact R_iret (pc := 9) dX8_lowest_9 rfl rfl (Nat.zero_le _) (Nat.zero_le _) ⟨_, rfl, rfl, rfl⟩
theorem dX3_cellsInBoth_0 : decode cX3_cellsInBoth 0 = .ok (.sipush 255, 3) := by decide +kernel
theorem dX3_cellsInBoth_3 : decode cX3_cellsInBoth 3 = .ok (.iconst 0, 1) := by decide +kernel
theorem dX3_cellsInBoth_4 : decode cX3_cellsInBoth 4 = .ok (.iload_n 2, 1) := by decide +kernel
theorem dX3_cellsInBoth_5 : decode cX3_cellsInBoth 5 = .ok (.ineg, 1) := by decide +kernel
theorem dX3_cellsInBoth_6 : decode cX3_cellsInBoth 6 = .ok (.invokestatic 66, 3) := by decide +kernel
theorem dX3_cellsInBoth_9 : decode cX3_cellsInBoth 9 = .ok (.ishl, 1) := by decide +kernel
theorem dX3_cellsInBoth_10 : decode cX3_cellsInBoth 10 = .ok (.sipush 255, 3) := by decide +kernel
theorem dX3_cellsInBoth_13 : decode cX3_cellsInBoth 13 = .ok (.iconst 0, 1) := by decide +kernel
theorem dX3_cellsInBoth_14 : decode cX3_cellsInBoth 14 = .ok (.iload_n 2, 1) := by decide +kernel
theorem dX3_cellsInBoth_15 : decode cX3_cellsInBoth 15 = .ok (.invokestatic 66, 3) := by decide +kernel
theorem dX3_cellsInBoth_18 : decode cX3_cellsInBoth 18 = .ok (.ishr, 1) := by decide +kernel
theorem dX3_cellsInBoth_19 : decode cX3_cellsInBoth 19 = .ok (.iand, 1) := by decide +kernel
theorem dX3_cellsInBoth_20 : decode cX3_cellsInBoth 20 = .ok (.i2l, 1) := by decide +kernel
theorem dX3_cellsInBoth_21 : decode cX3_cellsInBoth 21 = .ok (.lstore 4, 2) := by decide +kernel
theorem dX3_cellsInBoth_23 : decode cX3_cellsInBoth 23 = .ok (.iload_n 0, 1) := by decide +kernel
theorem dX3_cellsInBoth_24 : decode cX3_cellsInBoth 24 = .ok (.iload_n 1, 1) := by decide +kernel
theorem dX3_cellsInBoth_25 : decode cX3_cellsInBoth 25 = .ok (.iload_n 3, 1) := by decide +kernel
theorem dX3_cellsInBoth_26 : decode cX3_cellsInBoth 26 = .ok (.isub, 1) := by decide +kernel
theorem dX3_cellsInBoth_27 : decode cX3_cellsInBoth 27 = .ok (.invokestatic 66, 3) := by decide +kernel
theorem dX3_cellsInBoth_30 : decode cX3_cellsInBoth 30 = .ok (.istore 6, 2) := by decide +kernel
theorem dX3_cellsInBoth_32 : decode cX3_cellsInBoth 32 = .ok (.bipush 7, 2) := by decide +kernel
theorem dX3_cellsInBoth_34 : decode cX3_cellsInBoth 34 = .ok (.bipush 7, 2) := by decide +kernel
theorem dX3_cellsInBoth_36 : decode cX3_cellsInBoth 36 = .ok (.iload_n 3, 1) := by decide +kernel
theorem dX3_cellsInBoth_37 : decode cX3_cellsInBoth 37 = .ok (.isub, 1) := by decide +kernel
theorem dX3_cellsInBoth_38 : decode cX3_cellsInBoth 38 = .ok (.invokestatic 61, 3) := by decide +kernel
theorem dX3_cellsInBoth_41 : decode cX3_cellsInBoth 41 = .ok (.istore 7, 2) := by decide +kernel
theorem dX3_cellsInBoth_43 : decode cX3_cellsInBoth 43 = .ok (.lconst 0, 1) := by decide +kernel
theorem dX3_cellsInBoth_44 : decode cX3_cellsInBoth 44 = .ok (.lstore 8, 2) := by decide +kernel
theorem dX3_cellsInBoth_46 : decode cX3_cellsInBoth 46 = .ok (.iload 6, 2) := by decide +kernel
theorem dX3_cellsInBoth_48 : decode cX3_cellsInBoth 48 = .ok (.istore 10, 2) := by decide +kernel
theorem dX3_cellsInBoth_50 : decode cX3_cellsInBoth 50 = .ok (.iload 10, 2) := by decide +kernel
theorem dX3_cellsInBoth_52 : decode cX3_cellsInBoth 52 = .ok (.iload 7, 2) := by decide +kernel
theorem dX3_cellsInBoth_54 : decode cX3_cellsInBoth 54 = .ok (.if_icmp .gt 22, 3) := by decide +kernel
theorem dX3_cellsInBoth_57 : decode cX3_cellsInBoth 57 = .ok (.lload 8, 2) := by decide +kernel
theorem dX3_cellsInBoth_59 : decode cX3_cellsInBoth 59 = .ok (.lload 4, 2) := by decide +kernel
theorem dX3_cellsInBoth_61 : decode cX3_cellsInBoth 61 = .ok (.bipush 8, 2) := by decide +kernel
theorem dX3_cellsInBoth_63 : decode cX3_cellsInBoth 63 = .ok (.iload 10, 2) := by decide +kernel
theorem dX3_cellsInBoth_65 : decode cX3_cellsInBoth 65 = .ok (.imul, 1) := by decide +kernel
theorem dX3_cellsInBoth_66 : decode cX3_cellsInBoth 66 = .ok (.lshl, 1) := by decide +kernel
theorem dX3_cellsInBoth_67 : decode cX3_cellsInBoth 67 = .ok (.lor, 1) := by decide +kernel
theorem dX3_cellsInBoth_68 : decode cX3_cellsInBoth 68 = .ok (.lstore 8, 2) := by decide +kernel
theorem dX3_cellsInBoth_70 : decode cX3_cellsInBoth 70 = .ok (.iinc 10 1, 3) := by decide +kernel
theorem dX3_cellsInBoth_73 : decode cX3_cellsInBoth 73 = .ok (.goto (-23), 3) := by decide +kernel
theorem dX3_cellsInBoth_76 : decode cX3_cellsInBoth 76 = .ok (.lload 8, 2) := by decide +kernel
theorem dX3_cellsInBoth_78 : decode cX3_cellsInBoth 78 = .ok (.lreturn, 1) := by decide +kernel
set_option maxRecDepth 100000 in
set_option maxHeartbeats 40000000 in
theorem gx_X3_cellsInBoth {G : vG} {l : Launch} (w : VW) (s t a b : Int32) (hs : inR s 0 4) (ht : inR t 0 4) (ha : inR a (-2) 2) (hb : inR b (-2) 2) : Sp G l yX3_cellsInBoth cX3_cellsInBoth 11 (some .long) 1 0 0 [.int s, .int t, .int a, .int b] (w) (QL (fun _ w2 => w2 = w)) := by
  refine Sp_of_R [(some (.int s)), (some (.int t)), (some (.int a)), (some (.int b)), none, none, none, none, none, none, none] [none, none, none, none, none, none, none] rfl (by simp) rfl (Nat.le_of_ble_eq_true rfl) ?_
  refine R_sipush (pc := 0) (v := 255) dX3_cellsInBoth_0 (by decide) ?_
  refine R_iconst (pc := 3) (v := 0) dX3_cellsInBoth_3 (by decide) ?_
  refine R_iload_n (pc := 4) dX3_cellsInBoth_4 rfl rfl ?_
  refine R_ineg (pc := 5) dX3_cellsInBoth_5 ?_
  refine R_mmax (pc := 6) wm_373 dX3_cellsInBoth_6 (by decide) (Nat.le_of_ble_eq_true rfl) (Nat.zero_le _) (Nat.zero_le _) ?_
  refine R_ishl (pc := 9) dX3_cellsInBoth_9 ?_
  refine R_sipush (pc := 10) (v := 255) dX3_cellsInBoth_10 (by decide) ?_
  refine R_iconst (pc := 13) (v := 0) dX3_cellsInBoth_13 (by decide) ?_
  refine R_iload_n (pc := 14) dX3_cellsInBoth_14 rfl rfl ?_
  refine R_mmax (pc := 15) wm_373 dX3_cellsInBoth_15 (by decide) (Nat.le_of_ble_eq_true rfl) (Nat.zero_le _) (Nat.zero_le _) ?_
  have r1 : inR (if 0 < a then a else 0) 0 2 := inR_max (show inR 0 0 0 from (inR_self _)) (show inR a (-2) 2 from ha) (by decide) (by decide) (by decide)
  refine R_ishr (pc := 18) dX3_cellsInBoth_18 ?_
  refine R_iand (pc := 19) dX3_cellsInBoth_19 ?_
  refine R_i2l (pc := 20) dX3_cellsInBoth_20 ?_
  refine st_11_4_l_i (pc := 21) dX3_cellsInBoth_21 ?_
  refine R_iload_n (pc := 23) dX3_cellsInBoth_23 rfl rfl ?_
  refine R_iload_n (pc := 24) dX3_cellsInBoth_24 rfl rfl ?_
  refine R_iload_n (pc := 25) dX3_cellsInBoth_25 rfl rfl ?_
  refine R_isub (pc := 26) dX3_cellsInBoth_26 ?_
  have r2 : inR (t - b) (-2) 6 := inR_sub (show inR t 0 4 from ht) (show inR b (-2) 2 from hb) (by decide) (by decide)
  have e3 := ti_sub (l := (-2)) (h := 6) (show inR t 0 4 from ht) (show inR b (-2) 2 from hb) (by decide) (by decide)
  refine R_mmax (pc := 27) wm_373 dX3_cellsInBoth_27 (by decide) (Nat.le_of_ble_eq_true rfl) (Nat.zero_le _) (Nat.zero_le _) ?_
  have r4 : inR (if s < (t - b) then (t - b) else s) 0 6 := inR_max (show inR s 0 4 from hs) (show inR (t - b) (-2) 6 from r2) (by decide) (by decide) (by decide)
  refine st_11_6_i_n (pc := 30) dX3_cellsInBoth_30 ?_
  refine R_bipush (pc := 32) (v := 7) dX3_cellsInBoth_32 (by decide) ?_
  refine R_bipush (pc := 34) (v := 7) dX3_cellsInBoth_34 (by decide) ?_
  refine R_iload_n (pc := 36) dX3_cellsInBoth_36 rfl rfl ?_
  refine R_isub (pc := 37) dX3_cellsInBoth_37 ?_
  have r5 : inR (7 - b) 5 9 := inR_sub (show inR 7 7 7 from (inR_self _)) (show inR b (-2) 2 from hb) (by decide) (by decide)
  have e6 := ti_sub (l := 5) (h := 9) (show inR 7 7 7 from (inR_self _)) (show inR b (-2) 2 from hb) (by decide) (by decide)
  refine R_mmin (pc := 38) wm_376 dX3_cellsInBoth_38 (by decide) (Nat.le_of_ble_eq_true rfl) (Nat.zero_le _) (Nat.zero_le _) ?_
  have r7 : inR (if (7 - b) < 7 then (7 - b) else 7) 5 7 := inR_min (show inR 7 7 7 from (inR_self _)) (show inR (7 - b) 5 9 from r5) (by decide) (by decide) (by decide)
  refine st_11_7_i_i (pc := 41) dX3_cellsInBoth_41 ?_
  refine R_lconst (pc := 43) (v := 0) dX3_cellsInBoth_43 (by decide) ?_
  refine st_11_8_l_i (pc := 44) dX3_cellsInBoth_44 ?_
  refine R_iload (pc := 46) dX3_cellsInBoth_46 rfl ?_
  refine st_11_10_i_n (pc := 48) dX3_cellsInBoth_48 ?_
  have HL50 : ∀ (q : Nat) (i50 : Int32) (g8_50 : Int64), i50.toInt + (q : Int) = 8 → inR i50 0 8 → R G l yX3_cellsInBoth cX3_cellsInBoth 11 (some .long) 1 0 0 (QL (fun _ w2 => w2 = w)) 50 [(some (.int s)), (some (.int t)), (some (.int a)), (some (.int b)), (some (.long (Int32.toInt64 ((255 <<< ((if 0 < (-a) then (-a) else 0) &&& 31)) &&& (255 >>> ((if 0 < a then a else 0) &&& 31)))))), none, (some (.int (if s < (t - b) then (t - b) else s))), (some (.int (if (7 - b) < 7 then (7 - b) else 7))), (some (.long g8_50)), none, (some (.int i50))] [] (w) 0 0 := by
    intro q
    induction q with
    | zero =>
      intro i50 g8_50 hj50 hrg50
      have hM50_ : inR i50 8 8 := of_ti (by have z : (8 : Int32).toInt = 8 := (by decide); omega) (by have z : (8 : Int32).toInt = 8 := (by decide); omega)
      refine R_iload (pc := 50) dX3_cellsInBoth_50 rfl ?_
      refine R_iload (pc := 52) dX3_cellsInBoth_52 rfl ?_
      refine R_icgt (pc := 54) 76 dX3_cellsInBoth_54 (by decide) (fun _ => ?_) (fun h => False.elim (by have q1 := ti_nlt h; have q2 := ti_in (show inR i50 8 8 from hM50_); have q3 := ti_in (show inR (if (7 - b) < 7 then (7 - b) else 7) 5 7 from r7); have z0 : (5 : Int32).toInt = 5 := (by decide);  have z1 : (7 : Int32).toInt = 7 := (by decide);  have z2 : (8 : Int32).toInt = 8 := (by decide); omega))
      refine R_lload (pc := 76) dX3_cellsInBoth_76 rfl ?_
      exact R_lret (pc := 78) dX3_cellsInBoth_78 rfl (Nat.zero_le _) (Nat.zero_le _) ⟨_, rfl, rfl⟩
    | succ q ih50 =>
      intro i50 g8_50 hj50 hrg50
      have hM50_ : inR i50 0 7 := of_ti (ti_in hrg50).1 (by have z : (7 : Int32).toInt = 7 := (by decide); omega)
      refine R_iload (pc := 50) dX3_cellsInBoth_50 rfl ?_
      refine R_iload (pc := 52) dX3_cellsInBoth_52 rfl ?_
      refine R_icgt (pc := 54) 76 dX3_cellsInBoth_54 (by decide) (fun b54_9 => ?_) (fun b54_9 => ?_)
      · skip
        refine R_lload (pc := 76) dX3_cellsInBoth_76 rfl ?_
        exact R_lret (pc := 78) dX3_cellsInBoth_78 rfl (Nat.zero_le _) (Nat.zero_le _) ⟨_, rfl, rfl⟩
      · skip
        refine R_lload (pc := 57) dX3_cellsInBoth_57 rfl ?_
        refine R_lload (pc := 59) dX3_cellsInBoth_59 rfl ?_
        refine R_bipush (pc := 61) (v := 8) dX3_cellsInBoth_61 (by decide) ?_
        refine R_iload (pc := 63) dX3_cellsInBoth_63 rfl ?_
        refine R_imul (pc := 65) dX3_cellsInBoth_65 ?_
        refine R_lshl (pc := 66) dX3_cellsInBoth_66 ?_
        refine R_lor (pc := 67) dX3_cellsInBoth_67 ?_
        refine st_11_8_l_i (pc := 68) dX3_cellsInBoth_68 ?_
        refine inc_11_10_1_n (pc := 70) dX3_cellsInBoth_70 ?_
        have r10 : inR (i50 + 1) 1 8 := inR_add (show inR i50 0 7 from hM50_) (show inR 1 1 1 from (inR_self _)) (by decide) (by decide)
        have e11 := ti_add (l := 1) (h := 8) (show inR i50 0 7 from hM50_) (show inR 1 1 1 from (inR_self _)) (by decide) (by decide)
        refine R_goto (pc := 73) 50 dX3_cellsInBoth_73 (by decide) ?_
        exact ih50 (i50 + 1) _ (by have q0 := e3; have q1 := e6; have q2 := e11; have q3 := ti_nlt b54_9; have q4 := ti_in hs; have q5 := ti_in ht; have q6 := ti_in ha; have q7 := ti_in hb; have q8 := ti_in r1; have q9 := ti_in r2; have q10 := ti_in r4; have q11 := ti_in r5; have q12 := ti_in r7; have q13 := ti_in hM50_; have q14 := ti_in r10; have q15 := hj50; have z0 : (-2 : Int32).toInt = -2 := (by decide); have z1 : (0 : Int32).toInt = 0 := (by decide); have z2 : (1 : Int32).toInt = 1 := (by decide); have z3 : (2 : Int32).toInt = 2 := (by decide); have z4 : (4 : Int32).toInt = 4 := (by decide); have z5 : (5 : Int32).toInt = 5 := (by decide); have z6 : (6 : Int32).toInt = 6 := (by decide); have z7 : (7 : Int32).toInt = 7 := (by decide); have z8 : (8 : Int32).toInt = 8 := (by decide); have z9 : (9 : Int32).toInt = 9 := (by decide); omega) (inR_up r10 (by decide) (by decide))
  exact HL50 ((8 : Int) - (if s < (t - b) then (t - b) else s).toInt).toNat (if s < (t - b) then (t - b) else s) _ (by have q0 := e3; have q1 := e6; have q2 := ti_in hs; have q3 := ti_in ht; have q4 := ti_in ha; have q5 := ti_in hb; have q6 := ti_in r1; have q7 := ti_in r2; have q8 := ti_in r4; have q9 := ti_in r5; have q10 := ti_in r7; have z0 : (-2 : Int32).toInt = -2 := (by decide); have z1 : (0 : Int32).toInt = 0 := (by decide); have z2 : (1 : Int32).toInt = 1 := (by decide); have z3 : (2 : Int32).toInt = 2 := (by decide); have z4 : (4 : Int32).toInt = 4 := (by decide); have z5 : (5 : Int32).toInt = 5 := (by decide); have z6 : (6 : Int32).toInt = 6 := (by decide); have z7 : (7 : Int32).toInt = 7 := (by decide); have z8 : (9 : Int32).toInt = 9 := (by decide); omega) (inR_up r4 (by decide) (by decide))
theorem dX3_fewestOtherwise_0 : decode cX3_fewestOtherwise 0 = .ok (.iconst (-1), 1) := by decide +kernel
theorem dX3_fewestOtherwise_1 : decode cX3_fewestOtherwise 1 = .ok (.istore_n 3, 1) := by decide +kernel
theorem dX3_fewestOtherwise_2 : decode cX3_fewestOtherwise 2 = .ok (.bipush (-2), 2) := by decide +kernel
theorem dX3_fewestOtherwise_4 : decode cX3_fewestOtherwise 4 = .ok (.istore 4, 2) := by decide +kernel
theorem dX3_fewestOtherwise_6 : decode cX3_fewestOtherwise 6 = .ok (.iload 4, 2) := by decide +kernel
theorem dX3_fewestOtherwise_8 : decode cX3_fewestOtherwise 8 = .ok (.iconst 2, 1) := by decide +kernel
theorem dX3_fewestOtherwise_9 : decode cX3_fewestOtherwise 9 = .ok (.if_icmp .gt 121, 3) := by decide +kernel
theorem dX3_fewestOtherwise_12 : decode cX3_fewestOtherwise 12 = .ok (.bipush (-2), 2) := by decide +kernel
theorem dX3_fewestOtherwise_14 : decode cX3_fewestOtherwise 14 = .ok (.istore 5, 2) := by decide +kernel
theorem dX3_fewestOtherwise_16 : decode cX3_fewestOtherwise 16 = .ok (.iload 5, 2) := by decide +kernel
theorem dX3_fewestOtherwise_18 : decode cX3_fewestOtherwise 18 = .ok (.iconst 2, 1) := by decide +kernel
theorem dX3_fewestOtherwise_19 : decode cX3_fewestOtherwise 19 = .ok (.if_icmp .gt 105, 3) := by decide +kernel
theorem dX3_fewestOtherwise_22 : decode cX3_fewestOtherwise 22 = .ok (.aload_n 0, 1) := by decide +kernel
theorem dX3_fewestOtherwise_23 : decode cX3_fewestOtherwise 23 = .ok (.getfield 27, 3) := by decide +kernel
theorem dX3_fewestOtherwise_26 : decode cX3_fewestOtherwise 26 = .ok (.getfield 40, 3) := by decide +kernel
theorem dX3_fewestOtherwise_29 : decode cX3_fewestOtherwise 29 = .ok (.iload_n 1, 1) := by decide +kernel
theorem dX3_fewestOtherwise_30 : decode cX3_fewestOtherwise 30 = .ok (.iaload, 1) := by decide +kernel
theorem dX3_fewestOtherwise_31 : decode cX3_fewestOtherwise 31 = .ok (.aload_n 0, 1) := by decide +kernel
theorem dX3_fewestOtherwise_32 : decode cX3_fewestOtherwise 32 = .ok (.getfield 27, 3) := by decide +kernel
theorem dX3_fewestOtherwise_35 : decode cX3_fewestOtherwise 35 = .ok (.getfield 40, 3) := by decide +kernel
theorem dX3_fewestOtherwise_38 : decode cX3_fewestOtherwise 38 = .ok (.iload_n 2, 1) := by decide +kernel
theorem dX3_fewestOtherwise_39 : decode cX3_fewestOtherwise 39 = .ok (.iaload, 1) := by decide +kernel
theorem dX3_fewestOtherwise_40 : decode cX3_fewestOtherwise 40 = .ok (.iload 5, 2) := by decide +kernel
theorem dX3_fewestOtherwise_42 : decode cX3_fewestOtherwise 42 = .ok (.iload 4, 2) := by decide +kernel
theorem dX3_fewestOtherwise_44 : decode cX3_fewestOtherwise 44 = .ok (.invokestatic 43, 3) := by decide +kernel
theorem dX3_fewestOtherwise_47 : decode cX3_fewestOtherwise 47 = .ok (.lstore 6, 2) := by decide +kernel
theorem dX3_fewestOtherwise_49 : decode cX3_fewestOtherwise 49 = .ok (.lload 6, 2) := by decide +kernel
theorem dX3_fewestOtherwise_51 : decode cX3_fewestOtherwise 51 = .ok (.invokestatic 47, 3) := by decide +kernel
theorem dX3_fewestOtherwise_54 : decode cX3_fewestOtherwise 54 = .ok (.bipush 24, 2) := by decide +kernel
theorem dX3_fewestOtherwise_56 : decode cX3_fewestOtherwise 56 = .ok (.if_icmp .lt 62, 3) := by decide +kernel
theorem dX3_fewestOtherwise_59 : decode cX3_fewestOtherwise 59 = .ok (.aload_n 0, 1) := by decide +kernel
theorem dX3_fewestOtherwise_60 : decode cX3_fewestOtherwise 60 = .ok (.getfield 27, 3) := by decide +kernel
theorem dX3_fewestOtherwise_63 : decode cX3_fewestOtherwise 63 = .ok (.getfield 53, 3) := by decide +kernel
theorem dX3_fewestOtherwise_66 : decode cX3_fewestOtherwise 66 = .ok (.iload_n 2, 1) := by decide +kernel
theorem dX3_fewestOtherwise_67 : decode cX3_fewestOtherwise 67 = .ok (.laload, 1) := by decide +kernel
theorem dX3_fewestOtherwise_68 : decode cX3_fewestOtherwise 68 = .ok (.bipush 8, 2) := by decide +kernel
theorem dX3_fewestOtherwise_70 : decode cX3_fewestOtherwise 70 = .ok (.iload 4, 2) := by decide +kernel
theorem dX3_fewestOtherwise_72 : decode cX3_fewestOtherwise 72 = .ok (.imul, 1) := by decide +kernel
theorem dX3_fewestOtherwise_73 : decode cX3_fewestOtherwise 73 = .ok (.iload 5, 2) := by decide +kernel
theorem dX3_fewestOtherwise_75 : decode cX3_fewestOtherwise 75 = .ok (.iadd, 1) := by decide +kernel
theorem dX3_fewestOtherwise_76 : decode cX3_fewestOtherwise 76 = .ok (.invokestatic 57, 3) := by decide +kernel
theorem dX3_fewestOtherwise_79 : decode cX3_fewestOtherwise 79 = .ok (.lstore 8, 2) := by decide +kernel
theorem dX3_fewestOtherwise_81 : decode cX3_fewestOtherwise 81 = .ok (.aload_n 0, 1) := by decide +kernel
theorem dX3_fewestOtherwise_82 : decode cX3_fewestOtherwise 82 = .ok (.getfield 27, 3) := by decide +kernel
theorem dX3_fewestOtherwise_85 : decode cX3_fewestOtherwise 85 = .ok (.getfield 53, 3) := by decide +kernel
theorem dX3_fewestOtherwise_88 : decode cX3_fewestOtherwise 88 = .ok (.iload_n 1, 1) := by decide +kernel
theorem dX3_fewestOtherwise_89 : decode cX3_fewestOtherwise 89 = .ok (.laload, 1) := by decide +kernel
theorem dX3_fewestOtherwise_90 : decode cX3_fewestOtherwise 90 = .ok (.lload 8, 2) := by decide +kernel
theorem dX3_fewestOtherwise_92 : decode cX3_fewestOtherwise 92 = .ok (.lxor, 1) := by decide +kernel
theorem dX3_fewestOtherwise_93 : decode cX3_fewestOtherwise 93 = .ok (.lload 6, 2) := by decide +kernel
theorem dX3_fewestOtherwise_95 : decode cX3_fewestOtherwise 95 = .ok (.land, 1) := by decide +kernel
theorem dX3_fewestOtherwise_96 : decode cX3_fewestOtherwise 96 = .ok (.invokestatic 47, 3) := by decide +kernel
theorem dX3_fewestOtherwise_99 : decode cX3_fewestOtherwise 99 = .ok (.istore 10, 2) := by decide +kernel
theorem dX3_fewestOtherwise_101 : decode cX3_fewestOtherwise 101 = .ok (.iload_n 3, 1) := by decide +kernel
theorem dX3_fewestOtherwise_102 : decode cX3_fewestOtherwise 102 = .ok (.iconst (-1), 1) := by decide +kernel
theorem dX3_fewestOtherwise_103 : decode cX3_fewestOtherwise 103 = .ok (.if_icmp .ne 8, 3) := by decide +kernel
theorem dX3_fewestOtherwise_106 : decode cX3_fewestOtherwise 106 = .ok (.iload 10, 2) := by decide +kernel
theorem dX3_fewestOtherwise_108 : decode cX3_fewestOtherwise 108 = .ok (.goto 9, 3) := by decide +kernel
theorem dX3_fewestOtherwise_111 : decode cX3_fewestOtherwise 111 = .ok (.iload_n 3, 1) := by decide +kernel
theorem dX3_fewestOtherwise_112 : decode cX3_fewestOtherwise 112 = .ok (.iload 10, 2) := by decide +kernel
theorem dX3_fewestOtherwise_114 : decode cX3_fewestOtherwise 114 = .ok (.invokestatic 61, 3) := by decide +kernel
theorem dX3_fewestOtherwise_117 : decode cX3_fewestOtherwise 117 = .ok (.istore_n 3, 1) := by decide +kernel
theorem dX3_fewestOtherwise_118 : decode cX3_fewestOtherwise 118 = .ok (.iinc 5 1, 3) := by decide +kernel
theorem dX3_fewestOtherwise_121 : decode cX3_fewestOtherwise 121 = .ok (.goto (-105), 3) := by decide +kernel
theorem dX3_fewestOtherwise_124 : decode cX3_fewestOtherwise 124 = .ok (.iinc 4 1, 3) := by decide +kernel
theorem dX3_fewestOtherwise_127 : decode cX3_fewestOtherwise 127 = .ok (.goto (-121), 3) := by decide +kernel
theorem dX3_fewestOtherwise_130 : decode cX3_fewestOtherwise 130 = .ok (.iload_n 3, 1) := by decide +kernel
theorem dX3_fewestOtherwise_131 : decode cX3_fewestOtherwise 131 = .ok (.ireturn, 1) := by decide +kernel
set_option maxRecDepth 100000 in
set_option maxHeartbeats 40000000 in
theorem gx_X3_fewestOtherwise {G : vG} {l : Launch} (σ : Sg) (a b : Int32) (hI : Inv σ) (ha : inR a 0 19) (hb : inR b 0 19) : Sp G l yX3_fewestOtherwise cX3_fewestOtherwise 11 (some .int) 2 0 0 [.ref 12, .int a, .int b] (WW σ) (QI (fun x w2 => w2 = WW σ)) := by
  refine Sp_of_R [(some (.ref 12)), (some (.int a)), (some (.int b)), none, none, none, none, none, none, none, none] [none, none, none, none, none, none, none, none] rfl (by simp) rfl (Nat.le_of_ble_eq_true rfl) ?_
  refine R_iconst (pc := 0) (v := (-1)) dX3_fewestOtherwise_0 (by decide) ?_
  refine st_11_3_i_i (pc := 1) dX3_fewestOtherwise_1 ?_
  refine R_bipush (pc := 2) (v := (-2)) dX3_fewestOtherwise_2 (by decide) ?_
  refine st_11_4_i_i (pc := 4) dX3_fewestOtherwise_4 ?_
  have HL6 : ∀ (q : Nat) (i6 : Int32) (g3_6 : Int32) (g5_6 : Option Value) (g6_6 : Option Value) (g8_6 : Option Value) (g10_6 : Option Value), i6.toInt + (q : Int) = 3 → inR i6 (-2) 3 → R G l yX3_fewestOtherwise cX3_fewestOtherwise 11 (some .int) 2 0 0 (QI (fun x w2 => w2 = WW σ)) 6 [(some (.ref 12)), (some (.int a)), (some (.int b)), (some (.int g3_6)), (some (.int i6)), g5_6, g6_6, none, g8_6, none, g10_6] [] (WW σ) 0 0 := by
    intro q
    induction q with
    | zero =>
      intro i6 g3_6 g5_6 g6_6 g8_6 g10_6 hj6 hrg6
      have hM6_ : inR i6 3 3 := of_ti (by have z : (3 : Int32).toInt = 3 := (by decide); omega) (by have z : (3 : Int32).toInt = 3 := (by decide); omega)
      refine R_iload (pc := 6) dX3_fewestOtherwise_6 rfl ?_
      refine R_iconst (pc := 8) (v := 2) dX3_fewestOtherwise_8 (by decide) ?_
      refine R_icgt (pc := 9) 130 dX3_fewestOtherwise_9 (by decide) (fun _ => ?_) (fun h => False.elim (by have q1 := ti_nlt h; have q2 := ti_in (show inR i6 3 3 from hM6_); have q3 := ti_in (show inR 2 2 2 from (inR_self _)); have z0 : (2 : Int32).toInt = 2 := (by decide);  have z1 : (3 : Int32).toInt = 3 := (by decide); omega))
      refine R_iload_n (pc := 130) dX3_fewestOtherwise_130 rfl rfl ?_
      exact R_iret (pc := 131) dX3_fewestOtherwise_131 rfl rfl (Nat.zero_le _) (Nat.zero_le _) ⟨_, rfl, rfl⟩
    | succ q ih6 =>
      intro i6 g3_6 g5_6 g6_6 g8_6 g10_6 hj6 hrg6
      have hM6_ : inR i6 (-2) 2 := of_ti (ti_in hrg6).1 (by have z : (2 : Int32).toInt = 2 := (by decide); omega)
      refine R_iload (pc := 6) dX3_fewestOtherwise_6 rfl ?_
      refine R_iconst (pc := 8) (v := 2) dX3_fewestOtherwise_8 (by decide) ?_
      refine R_icgt (pc := 9) 130 dX3_fewestOtherwise_9 (by decide) (fun h => False.elim (by have q1 := ti_lt h; have q2 := ti_in (show inR i6 (-2) 2 from hM6_); have q3 := ti_in (show inR 2 2 2 from (inR_self _)); have z0 : (-2 : Int32).toInt = (-2) := (by decide);  have z1 : (2 : Int32).toInt = 2 := (by decide); omega)) (fun _ => ?_)
      refine R_bipush (pc := 12) (v := (-2)) dX3_fewestOtherwise_12 (by decide) ?_
      refine st_11_5_i_i (pc := 14) dX3_fewestOtherwise_14 ?_
      have HL16 : ∀ (q : Nat) (i16 : Int32) (g3_16 : Int32) (g6_16 : Option Value) (g8_16 : Option Value) (g10_16 : Option Value), i16.toInt + (q : Int) = 3 → inR i16 (-2) 3 → R G l yX3_fewestOtherwise cX3_fewestOtherwise 11 (some .int) 2 0 0 (QI (fun x w2 => w2 = WW σ)) 16 [(some (.ref 12)), (some (.int a)), (some (.int b)), (some (.int g3_16)), (some (.int i6)), (some (.int i16)), g6_16, none, g8_16, none, g10_16] [] (WW σ) 0 0 := by
        intro q
        induction q with
        | zero =>
          intro i16 g3_16 g6_16 g8_16 g10_16 hj16 hrg16
          have hM16_ : inR i16 3 3 := of_ti (by have z : (3 : Int32).toInt = 3 := (by decide); omega) (by have z : (3 : Int32).toInt = 3 := (by decide); omega)
          refine R_iload (pc := 16) dX3_fewestOtherwise_16 rfl ?_
          refine R_iconst (pc := 18) (v := 2) dX3_fewestOtherwise_18 (by decide) ?_
          refine R_icgt (pc := 19) 124 dX3_fewestOtherwise_19 (by decide) (fun _ => ?_) (fun h => False.elim (by have q1 := ti_nlt h; have q2 := ti_in (show inR i16 3 3 from hM16_); have q3 := ti_in (show inR 2 2 2 from (inR_self _)); have z0 : (2 : Int32).toInt = 2 := (by decide);  have z1 : (3 : Int32).toInt = 3 := (by decide); omega))
          refine inc_11_4_1_i (pc := 124) dX3_fewestOtherwise_124 ?_
          have r4 : inR (i6 + 1) (-1) 3 := inR_add (show inR i6 (-2) 2 from hM6_) (show inR 1 1 1 from (inR_self _)) (by decide) (by decide)
          have e5 := ti_add (l := (-1)) (h := 3) (show inR i6 (-2) 2 from hM6_) (show inR 1 1 1 from (inR_self _)) (by decide) (by decide)
          refine R_goto (pc := 127) 6 dX3_fewestOtherwise_127 (by decide) ?_
          exact ih6 (i6 + 1) _ _ _ _ _ (by have q0 := e5; have q1 := ti_in ha; have q2 := ti_in hb; have q3 := ti_in hM6_; have q4 := ti_in hM16_; have q5 := ti_in r4; have q6 := hj6; have z0 : (-1 : Int32).toInt = -1 := (by decide); have z1 : (-2 : Int32).toInt = -2 := (by decide); have z2 : (0 : Int32).toInt = 0 := (by decide); have z3 : (1 : Int32).toInt = 1 := (by decide); have z4 : (19 : Int32).toInt = 19 := (by decide); have z5 : (2 : Int32).toInt = 2 := (by decide); have z6 : (3 : Int32).toInt = 3 := (by decide); omega) (inR_up r4 (by decide) (by decide))
        | succ q ih16 =>
          intro i16 g3_16 g6_16 g8_16 g10_16 hj16 hrg16
          have hM16_ : inR i16 (-2) 2 := of_ti (ti_in hrg16).1 (by have z : (2 : Int32).toInt = 2 := (by decide); omega)
          refine R_iload (pc := 16) dX3_fewestOtherwise_16 rfl ?_
          refine R_iconst (pc := 18) (v := 2) dX3_fewestOtherwise_18 (by decide) ?_
          refine R_icgt (pc := 19) 124 dX3_fewestOtherwise_19 (by decide) (fun h => False.elim (by have q1 := ti_lt h; have q2 := ti_in (show inR i16 (-2) 2 from hM16_); have q3 := ti_in (show inR 2 2 2 from (inR_self _)); have z0 : (-2 : Int32).toInt = (-2) := (by decide);  have z1 : (2 : Int32).toInt = 2 := (by decide); omega)) (fun _ => ?_)
          refine R_aload_n (pc := 22) dX3_fewestOtherwise_22 rfl rfl ?_
          refine g_X3_27 (pc := 23) (v := .ref 1) rfl dX3_fewestOtherwise_23 (c_12 _) rfl ?_
          refine g_X3_40 (pc := 26) (v := .ref 7) rfl dX3_fewestOtherwise_26 (c_1 _) rfl ?_
          refine R_iload_n (pc := 29) dX3_fewestOtherwise_29 rfl rfl ?_
          have hx7 : vp_in a 20 := (vp_of_inR ha (by decide))
          refine R_iaload (pc := 30) dX3_fewestOtherwise_30 (c_7 _) hx7 ?_
          refine R_aload_n (pc := 31) dX3_fewestOtherwise_31 rfl rfl ?_
          refine g_X3_27 (pc := 32) (v := .ref 1) rfl dX3_fewestOtherwise_32 (c_12 _) rfl ?_
          refine g_X3_40 (pc := 35) (v := .ref 7) rfl dX3_fewestOtherwise_35 (c_1 _) rfl ?_
          refine R_iload_n (pc := 38) dX3_fewestOtherwise_38 rfl rfl ?_
          have hx8 : vp_in b 20 := (vp_of_inR hb (by decide))
          refine R_iaload (pc := 39) dX3_fewestOtherwise_39 (c_7 _) hx8 ?_
          refine R_iload (pc := 40) dX3_fewestOtherwise_40 rfl ?_
          refine R_iload (pc := 42) dX3_fewestOtherwise_42 rfl ?_
          refine k_X3_43 (pc := 44) (gx_X3_cellsInBoth _ _ _ _ _ (iva_7 hI _ (lt_of_vp hx7)) (iva_7 hI _ (lt_of_vp hx8)) hM16_ hM6_) rfl (by decide) (Nat.le_refl _) (Nat.le_refl _) (Nat.le_of_ble_eq_true rfl) dX3_fewestOtherwise_44 (fun y9 w2 h => ?_)
          subst h
          refine st_11_6_l_i (pc := 47) dX3_fewestOtherwise_47 ?_
          refine R_lload (pc := 49) dX3_fewestOtherwise_49 rfl ?_
          refine k_X3_47 (pc := 51) (sp_J13_bitCount_95d88 _ _) rfl (by decide) (Nat.le_refl _) (Nat.le_refl _) (Nat.le_of_ble_eq_true rfl) dX3_fewestOtherwise_51 (fun y10 w2 h => ?_)
          subst h
          refine R_bipush (pc := 54) (v := 24) dX3_fewestOtherwise_54 (by decide) ?_
          refine R_iclt (pc := 56) 118 dX3_fewestOtherwise_56 (by decide) (fun b56_11 => ?_) (fun b56_11 => ?_)
          · skip
            refine inc_11_5_1_i (pc := 118) dX3_fewestOtherwise_118 ?_
            have r12 : inR (i16 + 1) (-1) 3 := inR_add (show inR i16 (-2) 2 from hM16_) (show inR 1 1 1 from (inR_self _)) (by decide) (by decide)
            have e13 := ti_add (l := (-1)) (h := 3) (show inR i16 (-2) 2 from hM16_) (show inR 1 1 1 from (inR_self _)) (by decide) (by decide)
            refine R_goto (pc := 121) 16 dX3_fewestOtherwise_121 (by decide) ?_
            exact ih16 (i16 + 1) _ _ _ _ (by have q0 := e13; have q1 := ti_lt b56_11; have q2 := ti_in ha; have q3 := ti_in hb; have q4 := ti_in hM6_; have q5 := ti_in hM16_; have q6 := ti_in (iva_7 hI _ (lt_of_vp hx7)); have q7 := ti_in (iva_7 hI _ (lt_of_vp hx8)); have q8 := ti_in r12; have q9 := hj16; have z0 : (-1 : Int32).toInt = -1 := (by decide); have z1 : (-2 : Int32).toInt = -2 := (by decide); have z2 : (0 : Int32).toInt = 0 := (by decide); have z3 : (1 : Int32).toInt = 1 := (by decide); have z4 : (19 : Int32).toInt = 19 := (by decide); have z5 : (2 : Int32).toInt = 2 := (by decide); have z6 : (24 : Int32).toInt = 24 := (by decide); have z7 : (3 : Int32).toInt = 3 := (by decide); have z8 : (4 : Int32).toInt = 4 := (by decide); omega) (inR_up r12 (by decide) (by decide))
          · skip
            refine R_aload_n (pc := 59) dX3_fewestOtherwise_59 rfl rfl ?_
            refine g_X3_27 (pc := 60) (v := .ref 1) rfl dX3_fewestOtherwise_60 (c_12 _) rfl ?_
            refine g_X3_53 (pc := 63) (v := .ref 6) rfl dX3_fewestOtherwise_63 (c_1 _) rfl ?_
            refine R_iload_n (pc := 66) dX3_fewestOtherwise_66 rfl rfl ?_
            have hx14 : vp_in b 20 := (vp_of_inR hb (by decide))
            refine R_laload (pc := 67) dX3_fewestOtherwise_67 (c_6 _) hx14 ?_
            refine R_bipush (pc := 68) (v := 8) dX3_fewestOtherwise_68 (by decide) ?_
            refine R_iload (pc := 70) dX3_fewestOtherwise_70 rfl ?_
            refine R_imul (pc := 72) dX3_fewestOtherwise_72 ?_
            refine R_iload (pc := 73) dX3_fewestOtherwise_73 rfl ?_
            refine R_iadd (pc := 75) dX3_fewestOtherwise_75 ?_
            refine k_X3_57 (pc := 76) (sp_X3_moved _ _ _) rfl (by decide) (Nat.le_refl _) (Nat.le_refl _) (Nat.le_of_ble_eq_true rfl) dX3_fewestOtherwise_76 (fun y15 w2 h => ?_)
            subst h
            refine st_11_8_l_n (pc := 79) dX3_fewestOtherwise_79 ?_
            refine R_aload_n (pc := 81) dX3_fewestOtherwise_81 rfl rfl ?_
            refine g_X3_27 (pc := 82) (v := .ref 1) rfl dX3_fewestOtherwise_82 (c_12 _) rfl ?_
            refine g_X3_53 (pc := 85) (v := .ref 6) rfl dX3_fewestOtherwise_85 (c_1 _) rfl ?_
            refine R_iload_n (pc := 88) dX3_fewestOtherwise_88 rfl rfl ?_
            have hx16 : vp_in a 20 := (vp_of_inR ha (by decide))
            refine R_laload (pc := 89) dX3_fewestOtherwise_89 (c_6 _) hx16 ?_
            refine R_lload (pc := 90) dX3_fewestOtherwise_90 rfl ?_
            refine R_lxor (pc := 92) dX3_fewestOtherwise_92 ?_
            refine R_lload (pc := 93) dX3_fewestOtherwise_93 rfl ?_
            refine R_land (pc := 95) dX3_fewestOtherwise_95 ?_
            refine k_X3_47 (pc := 96) (sp_J13_bitCount_95d88 _ _) rfl (by decide) (Nat.le_refl _) (Nat.le_refl _) (Nat.le_of_ble_eq_true rfl) dX3_fewestOtherwise_96 (fun y17 w2 h => ?_)
            subst h
            refine st_11_10_i_n (pc := 99) dX3_fewestOtherwise_99 ?_
            refine R_iload_n (pc := 101) dX3_fewestOtherwise_101 rfl rfl ?_
            refine R_iconst (pc := 102) (v := (-1)) dX3_fewestOtherwise_102 (by decide) ?_
            refine R_icne (pc := 103) 111 dX3_fewestOtherwise_103 (by decide) (fun b103_18 => ?_) (fun b103_18 => ?_)
            · skip
              refine R_iload_n (pc := 111) dX3_fewestOtherwise_111 rfl rfl ?_
              refine R_iload (pc := 112) dX3_fewestOtherwise_112 rfl ?_
              refine R_mmin (pc := 114) wm_376 dX3_fewestOtherwise_114 (by decide) (Nat.le_of_ble_eq_true rfl) (Nat.zero_le _) (Nat.zero_le _) ?_
              refine st_11_3_i_i (pc := 117) dX3_fewestOtherwise_117 ?_
              refine inc_11_5_1_i (pc := 118) dX3_fewestOtherwise_118 ?_
              have r19 : inR (i16 + 1) (-1) 3 := inR_add (show inR i16 (-2) 2 from hM16_) (show inR 1 1 1 from (inR_self _)) (by decide) (by decide)
              have e20 := ti_add (l := (-1)) (h := 3) (show inR i16 (-2) 2 from hM16_) (show inR 1 1 1 from (inR_self _)) (by decide) (by decide)
              refine R_goto (pc := 121) 16 dX3_fewestOtherwise_121 (by decide) ?_
              exact ih16 (i16 + 1) _ _ _ _ (by have q0 := e20; have q1 := ti_nlt b56_11; have q2 := ti_ne b103_18; have q3 := ti_in ha; have q4 := ti_in hb; have q5 := ti_in hM6_; have q6 := ti_in hM16_; have q7 := ti_in (iva_7 hI _ (lt_of_vp hx7)); have q8 := ti_in (iva_7 hI _ (lt_of_vp hx8)); have q9 := ti_in r19; have q10 := hj16; have z0 : (-1 : Int32).toInt = -1 := (by decide); have z1 : (-2 : Int32).toInt = -2 := (by decide); have z2 : (0 : Int32).toInt = 0 := (by decide); have z3 : (1 : Int32).toInt = 1 := (by decide); have z4 : (19 : Int32).toInt = 19 := (by decide); have z5 : (2 : Int32).toInt = 2 := (by decide); have z6 : (24 : Int32).toInt = 24 := (by decide); have z7 : (3 : Int32).toInt = 3 := (by decide); have z8 : (4 : Int32).toInt = 4 := (by decide); omega) (inR_up r19 (by decide) (by decide))
            · skip
              refine R_iload (pc := 106) dX3_fewestOtherwise_106 rfl ?_
              refine R_goto (pc := 108) 117 dX3_fewestOtherwise_108 (by decide) ?_
              refine st_11_3_i_i (pc := 117) dX3_fewestOtherwise_117 ?_
              refine inc_11_5_1_i (pc := 118) dX3_fewestOtherwise_118 ?_
              have r21 : inR (i16 + 1) (-1) 3 := inR_add (show inR i16 (-2) 2 from hM16_) (show inR 1 1 1 from (inR_self _)) (by decide) (by decide)
              have e22 := ti_add (l := (-1)) (h := 3) (show inR i16 (-2) 2 from hM16_) (show inR 1 1 1 from (inR_self _)) (by decide) (by decide)
              refine R_goto (pc := 121) 16 dX3_fewestOtherwise_121 (by decide) ?_
              exact ih16 (i16 + 1) _ _ _ _ (by have q0 := e22; have q1 := ti_nlt b56_11; have q2 := ti_eq b103_18; have q3 := ti_in ha; have q4 := ti_in hb; have q5 := ti_in hM6_; have q6 := ti_in hM16_; have q7 := ti_in (iva_7 hI _ (lt_of_vp hx7)); have q8 := ti_in (iva_7 hI _ (lt_of_vp hx8)); have q9 := ti_in r21; have q10 := hj16; have z0 : (-1 : Int32).toInt = -1 := (by decide); have z1 : (-2 : Int32).toInt = -2 := (by decide); have z2 : (0 : Int32).toInt = 0 := (by decide); have z3 : (1 : Int32).toInt = 1 := (by decide); have z4 : (19 : Int32).toInt = 19 := (by decide); have z5 : (2 : Int32).toInt = 2 := (by decide); have z6 : (24 : Int32).toInt = 24 := (by decide); have z7 : (3 : Int32).toInt = 3 := (by decide); have z8 : (4 : Int32).toInt = 4 := (by decide); omega) (inR_up r21 (by decide) (by decide))
      exact HL16 5 (-2) _ _ _ _ (by decide) (show inR (-2) (-2) 3 from ⟨by decide, by decide⟩)
  exact HL6 5 (-2) _ _ _ _ _ (by decide) (show inR (-2) (-2) 3 from ⟨by decide, by decide⟩)
theorem dX3_comparePicture_0 : decode cX3_comparePicture 0 = .ok (.iconst 0, 1) := by decide +kernel
theorem dX3_comparePicture_1 : decode cX3_comparePicture 1 = .ok (.istore_n 2, 1) := by decide +kernel
theorem dX3_comparePicture_2 : decode cX3_comparePicture 2 = .ok (.iload_n 2, 1) := by decide +kernel
theorem dX3_comparePicture_3 : decode cX3_comparePicture 3 = .ok (.aload_n 0, 1) := by decide +kernel
theorem dX3_comparePicture_4 : decode cX3_comparePicture 4 = .ok (.getfield 27, 3) := by decide +kernel
theorem dX3_comparePicture_7 : decode cX3_comparePicture 7 = .ok (.getfield 31, 3) := by decide +kernel
theorem dX3_comparePicture_10 : decode cX3_comparePicture 10 = .ok (.if_icmp .ge 34, 3) := by decide +kernel
theorem dX3_comparePicture_13 : decode cX3_comparePicture 13 = .ok (.aload_n 0, 1) := by decide +kernel
theorem dX3_comparePicture_14 : decode cX3_comparePicture 14 = .ok (.iload_n 1, 1) := by decide +kernel
theorem dX3_comparePicture_15 : decode cX3_comparePicture 15 = .ok (.iload_n 2, 1) := by decide +kernel
theorem dX3_comparePicture_16 : decode cX3_comparePicture 16 = .ok (.invokevirtual 36, 3) := by decide +kernel
theorem dX3_comparePicture_19 : decode cX3_comparePicture 19 = .ok (.istore_n 3, 1) := by decide +kernel
theorem dX3_comparePicture_20 : decode cX3_comparePicture 20 = .ok (.aload_n 0, 1) := by decide +kernel
theorem dX3_comparePicture_21 : decode cX3_comparePicture 21 = .ok (.getfield 11, 3) := by decide +kernel
theorem dX3_comparePicture_24 : decode cX3_comparePicture 24 = .ok (.iload_n 1, 1) := by decide +kernel
theorem dX3_comparePicture_25 : decode cX3_comparePicture 25 = .ok (.aaload, 1) := by decide +kernel
theorem dX3_comparePicture_26 : decode cX3_comparePicture 26 = .ok (.iload_n 2, 1) := by decide +kernel
theorem dX3_comparePicture_27 : decode cX3_comparePicture 27 = .ok (.iload_n 3, 1) := by decide +kernel
theorem dX3_comparePicture_28 : decode cX3_comparePicture 28 = .ok (.iastore, 1) := by decide +kernel
theorem dX3_comparePicture_29 : decode cX3_comparePicture 29 = .ok (.aload_n 0, 1) := by decide +kernel
theorem dX3_comparePicture_30 : decode cX3_comparePicture 30 = .ok (.getfield 11, 3) := by decide +kernel
theorem dX3_comparePicture_33 : decode cX3_comparePicture 33 = .ok (.iload_n 2, 1) := by decide +kernel
theorem dX3_comparePicture_34 : decode cX3_comparePicture 34 = .ok (.aaload, 1) := by decide +kernel
theorem dX3_comparePicture_35 : decode cX3_comparePicture 35 = .ok (.iload_n 1, 1) := by decide +kernel
theorem dX3_comparePicture_36 : decode cX3_comparePicture 36 = .ok (.iload_n 3, 1) := by decide +kernel
theorem dX3_comparePicture_37 : decode cX3_comparePicture 37 = .ok (.iastore, 1) := by decide +kernel
theorem dX3_comparePicture_38 : decode cX3_comparePicture 38 = .ok (.iinc 2 1, 3) := by decide +kernel
theorem dX3_comparePicture_41 : decode cX3_comparePicture 41 = .ok (.goto (-39), 3) := by decide +kernel
theorem dX3_comparePicture_44 : decode cX3_comparePicture 44 = .ok (.return_, 1) := by decide +kernel
set_option maxRecDepth 100000 in
set_option maxHeartbeats 40000000 in
theorem gx_X3_comparePicture {G : vG} {l : Launch} (σ : Sg) (c : Int32) (hI : Inv σ) (hc : inR c 0 19) : Sp G l yX3_comparePicture cX3_comparePicture 4 none 3 0 0 [.ref 12, .int c] (WW σ) (QV (fun w2 => ∃ σ2, w2 = WW σ2 ∧ Inv σ2 ∧ CoK σ σ2)) := by
  refine Sp_of_R [(some (.ref 12)), (some (.int c)), none, none] [none, none] rfl (by simp) rfl (Nat.le_of_ble_eq_true rfl) ?_
  refine R_iconst (pc := 0) (v := 0) dX3_comparePicture_0 (by decide) ?_
  refine st_4_2_i_i (pc := 1) dX3_comparePicture_1 ?_
  have HL2 : ∀ (q j2 : Nat) (σ2 : Sg) (g3_2 : Option Value), j2 + q = 20 → 0 ≤ j2 → Inv σ2 → CoK σ σ2 → R G l yX3_comparePicture cX3_comparePicture 4 none 3 0 0 (QV (fun w2 => ∃ σ2, w2 = WW σ2 ∧ Inv σ2 ∧ CoK σ σ2)) 2 [(some (.ref 12)), (some (.int c)), (some (.int (nI j2))), g3_2] [] (WW σ2) 0 0 := by
    intro q
    induction q with
    | zero =>
      intro j2 σ2 g3_2 hj hs2 hI2 hC2
      obtain rfl : j2 = 20 := by omega
      refine R_iload_n (pc := 2) dX3_comparePicture_2 rfl rfl ?_
      refine R_aload_n (pc := 3) dX3_comparePicture_3 rfl rfl ?_
      refine g_X3_27 (pc := 4) (v := .ref 1) rfl dX3_comparePicture_4 (c_12 _) rfl ?_
      refine g_X3_31 (pc := 7) (v := .int (σ2.1 110)) rfl dX3_comparePicture_7 (c_1 _) rfl ?_
      refine R_icge (pc := 10) 44 dX3_comparePicture_10 (by decide) (fun _ => ?_) (fun h => absurd (Int32.not_lt.mp (inR_up (iv_110 hI2) (Int32.le_refl _) (by decide)).2) h)
      exact R_vret (pc := 44) dX3_comparePicture_44 rfl (Nat.zero_le _) (Nat.zero_le _) ⟨rfl, _, rfl, hI2, hC2⟩
    | succ q ih2 =>
      intro j2 σ2 g3_2 hj hs2 hI2 hC2
      have hrg2 : inR (nI j2) 0 19 := inR_ix hs2 (show j2 < 20 by omega) (by decide) (by decide) (by decide)
      have hlt2 : j2 < 20 := by omega
      refine R_iload_n (pc := 2) dX3_comparePicture_2 rfl rfl ?_
      refine R_aload_n (pc := 3) dX3_comparePicture_3 rfl rfl ?_
      refine g_X3_27 (pc := 4) (v := .ref 1) rfl dX3_comparePicture_4 (c_12 _) rfl ?_
      refine g_X3_31 (pc := 7) (v := .int (σ2.1 110)) rfl dX3_comparePicture_7 (c_1 _) rfl ?_
      refine R_icge (pc := 10) 44 dX3_comparePicture_10 (by decide) (fun b10_2 => ?_) (fun b10_2 => ?_)
      · skip
        exact R_vret (pc := 44) dX3_comparePicture_44 rfl (Nat.zero_le _) (Nat.zero_le _) ⟨rfl, _, rfl, hI2, hC2⟩
      · skip
        refine R_aload_n (pc := 13) dX3_comparePicture_13 rfl rfl ?_
        refine R_iload_n (pc := 14) dX3_comparePicture_14 rfl rfl ?_
        refine R_iload_n (pc := 15) dX3_comparePicture_15 rfl rfl ?_
        refine k_X3_36 (pc := 16) (gx_X3_fewestOtherwise _ _ _ hI2 hc hrg2) rfl (c_12 _) (by decide) (Nat.le_refl _) (Nat.le_refl _) (Nat.le_of_ble_eq_true rfl) dX3_comparePicture_16 (fun y3 w2 h => ?_)
        subst h
        refine st_4_3_i_i (pc := 19) dX3_comparePicture_19 ?_
        refine R_aload_n (pc := 20) dX3_comparePicture_20 rfl rfl ?_
        refine g_X3_11 (pc := 21) (v := .ref 13) rfl dX3_comparePicture_21 (c_12 _) rfl ?_
        refine R_iload_n (pc := 24) dX3_comparePicture_24 rfl rfl ?_
        have hx4 : vp_in c 20 := (vp_of_inR hc (by decide))
        refine R_aaload (pc := 25) (b := 14 + (Int32.toNatClampNeg c)) dX3_comparePicture_25 (c_13 _) hx4 (if_pos (lt_of_vp hx4)) ?_
        refine R_iload_n (pc := 26) dX3_comparePicture_26 rfl rfl ?_
        refine R_iload_n (pc := 27) dX3_comparePicture_27 rfl rfl ?_
        have hx5 : vp_in (nI j2) 20 := (vp_in_nI (by omega) (by decide))
        refine W_iastore (pc := 28) dX3_comparePicture_28 (r_13 _ _ (lt_of_vp hx4)) hx5 (ra_13 _ _ _ (lt_of_vp hx4)) ?_
        have hV6 := sr_14 hI2 (upd (σ2.2.2.1 (14 + (Int32.toNatClampNeg c))) (Int32.toNatClampNeg (nI j2)) y3) _ (lt_of_vp hx4)
        have hW7 := cor_sa (14 + (Int32.toNatClampNeg c)) (upd (σ2.2.2.1 (14 + (Int32.toNatClampNeg c))) (Int32.toNatClampNeg (nI j2)) y3) hC2 (skA_14 (lt_of_vp hx4))
        refine R_aload_n (pc := 29) dX3_comparePicture_29 rfl rfl ?_
        refine g_X3_11 (pc := 30) (v := .ref 13) rfl dX3_comparePicture_30 (c_12 _) rfl ?_
        refine R_iload_n (pc := 33) dX3_comparePicture_33 rfl rfl ?_
        have hx8 : vp_in (nI j2) 20 := (vp_in_nI (by omega) (by decide))
        refine R_aaload (pc := 34) (b := 14 + (Int32.toNatClampNeg (nI j2))) dX3_comparePicture_34 (c_13 _) hx8 (if_pos (lt_of_vp hx8)) ?_
        refine R_iload_n (pc := 35) dX3_comparePicture_35 rfl rfl ?_
        refine R_iload_n (pc := 36) dX3_comparePicture_36 rfl rfl ?_
        have hx9 : vp_in c 20 := (vp_of_inR hc (by decide))
        refine W_iastore (pc := 37) dX3_comparePicture_37 (r_13 _ _ (lt_of_vp hx8)) hx9 (ra_13 _ _ _ (lt_of_vp hx8)) ?_
        have hV10 := sr_14 hV6 (upd ((uA σ2 (14 + (Int32.toNatClampNeg c)) (upd (σ2.2.2.1 (14 + (Int32.toNatClampNeg c))) (Int32.toNatClampNeg (nI j2)) y3)).2.2.1 (14 + (Int32.toNatClampNeg (nI j2)))) (Int32.toNatClampNeg c) y3) _ (lt_of_vp hx8)
        have hW11 := cor_sa (14 + (Int32.toNatClampNeg (nI j2))) (upd ((uA σ2 (14 + (Int32.toNatClampNeg c)) (upd (σ2.2.2.1 (14 + (Int32.toNatClampNeg c))) (Int32.toNatClampNeg (nI j2)) y3)).2.2.1 (14 + (Int32.toNatClampNeg (nI j2)))) (Int32.toNatClampNeg c) y3) hW7 (skA_14 (lt_of_vp hx8))
        refine inc_4_2_1_i (pc := 38) dX3_comparePicture_38 ?_
        have r12 : inR ((nI j2) + 1) 1 20 := inR_add (show inR (nI j2) 0 19 from hrg2) (show inR 1 1 1 from (inR_self _)) (by decide) (by decide)
        have e13 := ti_add (l := 1) (h := 20) (show inR (nI j2) 0 19 from hrg2) (show inR 1 1 1 from (inR_self _)) (by decide) (by decide)
        refine R_goto (pc := 41) 2 dX3_comparePicture_41 (by decide) ?_
        rw [nI_1]
        exact ih2 (j2 + 1) _ _ (by omega) (by omega) hV10 hW11
  exact HL2 20 0 _ _ (by omega) (by omega) hI (show CoK σ σ from Cor.rfl' σ)
