def σT (l p n b : Int32) (t : Int64) (s u : Int32) : Sg := uI (uA (uA (uA (uB (uA (uA (uA (uA σF 2 (upd (fun _ => 0) 0 l)) 3 (upd (fun _ => 0) 0 p)) 4 (upd (fun _ => 0) 0 n)) 5 (upd (fun _ => 0) 0 b)) 6 (vp_updL (fun _ => 0) 0 t)) 7 (upd (fun _ => 0) 0 s)) 8 (upd (fun _ => 0) 0 u)) 9 (upd (fun _ => 0) 0 0)) 110 1

theorem meas (a b : Int32) (h : ¬ b < a) (hb : b.toInt ≤ 7) : (b.toInt - (a + 1).toInt + 1).toNat < (b.toInt - a.toInt + 1).toNat := by
  have h1 := Int32.le_iff_toInt_le.mp (Int32.not_lt.mp h)
  have h2 : (a + 1).toInt = a.toInt + 1 := by
    have l1 := Int32.le_toInt a
    rw [Int32.toInt_add, show (1 : Int32).toInt = 1 from by decide]
    apply Int.bmod_eq_of_le <;> omega
  rw [h2]
  omega
theorem min7 (x : Int32) : (if x < 7 then x else 7 : Int32).toInt ≤ 7 := by
  have e : (7 : Int32).toInt = 7 := by decide
  split
  · rename_i h
    have := Int32.lt_iff_toInt_lt.mp h
    omega
  · omega

theorem dX3_cellsInBoth_0 : decode cX3_cellsInBoth 0 = .ok (.sipush 255, 3) := by decide +kernel
theorem dX3_cellsInBoth_3 : decode cX3_cellsInBoth 3 = .ok (.iconst 0, 1) := by decide +kernel
theorem dX3_cellsInBoth_4 : decode cX3_cellsInBoth 4 = .ok (.iload_n 2, 1) := by decide +kernel
theorem dX3_cellsInBoth_5 : decode cX3_cellsInBoth 5 = .ok (.ineg, 1) := by decide +kernel
theorem dX3_cellsInBoth_6 : decode cX3_cellsInBoth 6 = .ok (.invokestatic 66, 3) := by decide +kernel
theorem dX3_cellsInBoth_9 : decode cX3_cellsInBoth 9 = .ok (.ishl, 1) := by decide +kernel
theorem dX3_cellsInBoth_10 : decode cX3_cellsInBoth 10 = .ok (.sipush 255, 3) := by decide +kernel
theorem dX3_cellsInBoth_13 : decode cX3_cellsInBoth 13 = .ok (.iconst 0, 1) := by decide +kernel
theorem dX3_cellsInBoth_14 : decode cX3_cellsInBoth 14 = .ok (.iload_n 2, 1) := by decide +kernel
theorem dX3_cellsInBoth_15 : decode cX3_cellsInBoth 15 = .ok (.invokestatic 66, 3) := by decide +kernel
theorem dX3_cellsInBoth_18 : decode cX3_cellsInBoth 18 = .ok (.ishr, 1) := by decide +kernel
theorem dX3_cellsInBoth_19 : decode cX3_cellsInBoth 19 = .ok (.iand, 1) := by decide +kernel
theorem dX3_cellsInBoth_20 : decode cX3_cellsInBoth 20 = .ok (.i2l, 1) := by decide +kernel
theorem dX3_cellsInBoth_21 : decode cX3_cellsInBoth 21 = .ok (.lstore 4, 2) := by decide +kernel
theorem dX3_cellsInBoth_23 : decode cX3_cellsInBoth 23 = .ok (.iload_n 0, 1) := by decide +kernel
theorem dX3_cellsInBoth_24 : decode cX3_cellsInBoth 24 = .ok (.iload_n 1, 1) := by decide +kernel
theorem dX3_cellsInBoth_25 : decode cX3_cellsInBoth 25 = .ok (.iload_n 3, 1) := by decide +kernel
theorem dX3_cellsInBoth_26 : decode cX3_cellsInBoth 26 = .ok (.isub, 1) := by decide +kernel
theorem dX3_cellsInBoth_27 : decode cX3_cellsInBoth 27 = .ok (.invokestatic 66, 3) := by decide +kernel
theorem dX3_cellsInBoth_30 : decode cX3_cellsInBoth 30 = .ok (.istore 6, 2) := by decide +kernel
theorem dX3_cellsInBoth_32 : decode cX3_cellsInBoth 32 = .ok (.bipush 7, 2) := by decide +kernel
theorem dX3_cellsInBoth_34 : decode cX3_cellsInBoth 34 = .ok (.bipush 7, 2) := by decide +kernel
theorem dX3_cellsInBoth_36 : decode cX3_cellsInBoth 36 = .ok (.iload_n 3, 1) := by decide +kernel
theorem dX3_cellsInBoth_37 : decode cX3_cellsInBoth 37 = .ok (.isub, 1) := by decide +kernel
theorem dX3_cellsInBoth_38 : decode cX3_cellsInBoth 38 = .ok (.invokestatic 61, 3) := by decide +kernel
theorem dX3_cellsInBoth_41 : decode cX3_cellsInBoth 41 = .ok (.istore 7, 2) := by decide +kernel
theorem dX3_cellsInBoth_43 : decode cX3_cellsInBoth 43 = .ok (.lconst 0, 1) := by decide +kernel
theorem dX3_cellsInBoth_44 : decode cX3_cellsInBoth 44 = .ok (.lstore 8, 2) := by decide +kernel
theorem dX3_cellsInBoth_46 : decode cX3_cellsInBoth 46 = .ok (.iload 6, 2) := by decide +kernel
theorem dX3_cellsInBoth_48 : decode cX3_cellsInBoth 48 = .ok (.istore 10, 2) := by decide +kernel
theorem dX3_cellsInBoth_50 : decode cX3_cellsInBoth 50 = .ok (.iload 10, 2) := by decide +kernel
theorem dX3_cellsInBoth_52 : decode cX3_cellsInBoth 52 = .ok (.iload 7, 2) := by decide +kernel
theorem dX3_cellsInBoth_54 : decode cX3_cellsInBoth 54 = .ok (.if_icmp .gt 22, 3) := by decide +kernel
theorem dX3_cellsInBoth_57 : decode cX3_cellsInBoth 57 = .ok (.lload 8, 2) := by decide +kernel
theorem dX3_cellsInBoth_59 : decode cX3_cellsInBoth 59 = .ok (.lload 4, 2) := by decide +kernel
theorem dX3_cellsInBoth_61 : decode cX3_cellsInBoth 61 = .ok (.bipush 8, 2) := by decide +kernel
theorem dX3_cellsInBoth_63 : decode cX3_cellsInBoth 63 = .ok (.iload 10, 2) := by decide +kernel
theorem dX3_cellsInBoth_65 : decode cX3_cellsInBoth 65 = .ok (.imul, 1) := by decide +kernel
theorem dX3_cellsInBoth_66 : decode cX3_cellsInBoth 66 = .ok (.lshl, 1) := by decide +kernel
theorem dX3_cellsInBoth_67 : decode cX3_cellsInBoth 67 = .ok (.lor, 1) := by decide +kernel
theorem dX3_cellsInBoth_68 : decode cX3_cellsInBoth 68 = .ok (.lstore 8, 2) := by decide +kernel
theorem dX3_cellsInBoth_70 : decode cX3_cellsInBoth 70 = .ok (.iinc 10 1, 3) := by decide +kernel
theorem dX3_cellsInBoth_73 : decode cX3_cellsInBoth 73 = .ok (.goto (-23), 3) := by decide +kernel
theorem dX3_cellsInBoth_76 : decode cX3_cellsInBoth 76 = .ok (.lload 8, 2) := by decide +kernel
theorem dX3_cellsInBoth_78 : decode cX3_cellsInBoth 78 = .ok (.lreturn, 1) := by decide +kernel
set_option maxRecDepth 100000 in
set_option maxHeartbeats 40000000 in
theorem sp_X3_cellsInBoth {G : vG} {l : Launch} (w : VW) (a b c d : Int32) : Sp G l yX3_cellsInBoth cX3_cellsInBoth 11 (some .long) 1 0 0 [.int a, .int b, .int c, .int d] (w) (QL (fun _ w2 => w2 = w)) := by
  refine Sp_of_R [(some (.int a)), (some (.int b)), (some (.int c)), (some (.int d)), none, none, none, none, none, none, none] [none, none, none, none, none, none, none] rfl (by simp) rfl (Nat.le_of_ble_eq_true rfl) ?_
  refine R_sipush (pc := 0) (v := 255) dX3_cellsInBoth_0 (by decide) ?_
  refine R_iconst (pc := 3) (v := 0) dX3_cellsInBoth_3 (by decide) ?_
  refine R_iload_n (pc := 4) dX3_cellsInBoth_4 rfl rfl ?_
  refine R_ineg (pc := 5) dX3_cellsInBoth_5 ?_
  refine R_mmax (pc := 6) wm_373 dX3_cellsInBoth_6 (by decide) (Nat.le_of_ble_eq_true rfl) (Nat.zero_le _) (Nat.zero_le _) ?_
  refine R_ishl (pc := 9) dX3_cellsInBoth_9 ?_
  refine R_sipush (pc := 10) (v := 255) dX3_cellsInBoth_10 (by decide) ?_
  refine R_iconst (pc := 13) (v := 0) dX3_cellsInBoth_13 (by decide) ?_
  refine R_iload_n (pc := 14) dX3_cellsInBoth_14 rfl rfl ?_
  refine R_mmax (pc := 15) wm_373 dX3_cellsInBoth_15 (by decide) (Nat.le_of_ble_eq_true rfl) (Nat.zero_le _) (Nat.zero_le _) ?_
  refine R_ishr (pc := 18) dX3_cellsInBoth_18 ?_
  refine R_iand (pc := 19) dX3_cellsInBoth_19 ?_
  refine R_i2l (pc := 20) dX3_cellsInBoth_20 ?_
  refine st_11_4_l_i (pc := 21) dX3_cellsInBoth_21 ?_
  refine R_iload_n (pc := 23) dX3_cellsInBoth_23 rfl rfl ?_
  refine R_iload_n (pc := 24) dX3_cellsInBoth_24 rfl rfl ?_
  refine R_iload_n (pc := 25) dX3_cellsInBoth_25 rfl rfl ?_
  refine R_isub (pc := 26) dX3_cellsInBoth_26 ?_
  refine R_mmax (pc := 27) wm_373 dX3_cellsInBoth_27 (by decide) (Nat.le_of_ble_eq_true rfl) (Nat.zero_le _) (Nat.zero_le _) ?_
  refine st_11_6_i_n (pc := 30) dX3_cellsInBoth_30 ?_
  refine R_bipush (pc := 32) (v := 7) dX3_cellsInBoth_32 (by decide) ?_
  refine R_bipush (pc := 34) (v := 7) dX3_cellsInBoth_34 (by decide) ?_
  refine R_iload_n (pc := 36) dX3_cellsInBoth_36 rfl rfl ?_
  refine R_isub (pc := 37) dX3_cellsInBoth_37 ?_
  refine R_mmin (pc := 38) wm_376 dX3_cellsInBoth_38 (by decide) (Nat.le_of_ble_eq_true rfl) (Nat.zero_le _) (Nat.zero_le _) ?_
  refine st_11_7_i_i (pc := 41) dX3_cellsInBoth_41 ?_
  refine R_lconst (pc := 43) (v := 0) dX3_cellsInBoth_43 (by decide) ?_
  refine st_11_8_l_i (pc := 44) dX3_cellsInBoth_44 ?_
  refine R_iload (pc := 46) dX3_cellsInBoth_46 rfl ?_
  refine st_11_10_i_n (pc := 48) dX3_cellsInBoth_48 ?_
  generalize hb7 : (if (7 - d) < 7 then (7 - d) else 7) = b7
  have hb8 : b7.toInt ≤ 7 := by rw [← hb7]; exact min7 _
  have HL : ∀ (q : Nat) (a7 : Int32) (z c7 : Int64) (o6 : Option Value), (b7.toInt - a7.toInt + 1).toNat = q → R G l yX3_cellsInBoth cX3_cellsInBoth 11 (some .long) 1 0 0 (QL (fun _ w2 => w2 = w)) 50 [(some (.int a)), (some (.int b)), (some (.int c)), (some (.int d)), (some (.long c7)), none, o6, (some (.int b7)), (some (.long z)), none, (some (.int a7))] [] (w) 0 0 := by
    intro q
    induction q using Nat.strongRecOn with
    | _ q ih =>
      intro a7 z c7 o6 hq
      refine R_iload (pc := 50) dX3_cellsInBoth_50 rfl ?_
      refine R_iload (pc := 52) dX3_cellsInBoth_52 rfl ?_
      refine R_icgt (pc := 54) 76 dX3_cellsInBoth_54 (by decide) (fun b54_1 => ?_) (fun b54_1 => ?_)
      · skip
        refine R_lload (pc := 76) dX3_cellsInBoth_76 rfl ?_
        exact R_lret (pc := 78) dX3_cellsInBoth_78 rfl (Nat.zero_le _) (Nat.zero_le _) ⟨_, rfl, rfl⟩
      · skip
        refine R_lload (pc := 57) dX3_cellsInBoth_57 rfl ?_
        refine R_lload (pc := 59) dX3_cellsInBoth_59 rfl ?_
        refine R_bipush (pc := 61) (v := 8) dX3_cellsInBoth_61 (by decide) ?_
        refine R_iload (pc := 63) dX3_cellsInBoth_63 rfl ?_
        refine R_imul (pc := 65) dX3_cellsInBoth_65 ?_
        refine R_lshl (pc := 66) dX3_cellsInBoth_66 ?_
        refine R_lor (pc := 67) dX3_cellsInBoth_67 ?_
        refine st_11_8_l_i (pc := 68) dX3_cellsInBoth_68 ?_
        refine inc_11_10_1_n (pc := 70) dX3_cellsInBoth_70 ?_
        refine R_goto (pc := 73) 50 dX3_cellsInBoth_73 (by decide) ?_
        exact ih _ (by rw [← hq]; exact meas _ _ b54_1 hb8) _ _ _ _ rfl
  exact HL _ _ _ _ _ rfl
theorem dX3_fewestOtherwise_0 : decode cX3_fewestOtherwise 0 = .ok (.iconst (-1), 1) := by decide +kernel
theorem dX3_fewestOtherwise_1 : decode cX3_fewestOtherwise 1 = .ok (.istore_n 3, 1) := by decide +kernel
theorem dX3_fewestOtherwise_2 : decode cX3_fewestOtherwise 2 = .ok (.bipush (-2), 2) := by decide +kernel
theorem dX3_fewestOtherwise_4 : decode cX3_fewestOtherwise 4 = .ok (.istore 4, 2) := by decide +kernel
theorem dX3_fewestOtherwise_6 : decode cX3_fewestOtherwise 6 = .ok (.iload 4, 2) := by decide +kernel
theorem dX3_fewestOtherwise_8 : decode cX3_fewestOtherwise 8 = .ok (.iconst 2, 1) := by decide +kernel
theorem dX3_fewestOtherwise_9 : decode cX3_fewestOtherwise 9 = .ok (.if_icmp .gt 121, 3) := by decide +kernel
theorem dX3_fewestOtherwise_12 : decode cX3_fewestOtherwise 12 = .ok (.bipush (-2), 2) := by decide +kernel
theorem dX3_fewestOtherwise_14 : decode cX3_fewestOtherwise 14 = .ok (.istore 5, 2) := by decide +kernel
theorem dX3_fewestOtherwise_16 : decode cX3_fewestOtherwise 16 = .ok (.iload 5, 2) := by decide +kernel
theorem dX3_fewestOtherwise_18 : decode cX3_fewestOtherwise 18 = .ok (.iconst 2, 1) := by decide +kernel
theorem dX3_fewestOtherwise_19 : decode cX3_fewestOtherwise 19 = .ok (.if_icmp .gt 105, 3) := by decide +kernel
theorem dX3_fewestOtherwise_22 : decode cX3_fewestOtherwise 22 = .ok (.aload_n 0, 1) := by decide +kernel
theorem dX3_fewestOtherwise_23 : decode cX3_fewestOtherwise 23 = .ok (.getfield 27, 3) := by decide +kernel
theorem dX3_fewestOtherwise_26 : decode cX3_fewestOtherwise 26 = .ok (.getfield 40, 3) := by decide +kernel
theorem dX3_fewestOtherwise_29 : decode cX3_fewestOtherwise 29 = .ok (.iload_n 1, 1) := by decide +kernel
theorem dX3_fewestOtherwise_30 : decode cX3_fewestOtherwise 30 = .ok (.iaload, 1) := by decide +kernel
theorem dX3_fewestOtherwise_31 : decode cX3_fewestOtherwise 31 = .ok (.aload_n 0, 1) := by decide +kernel
theorem dX3_fewestOtherwise_32 : decode cX3_fewestOtherwise 32 = .ok (.getfield 27, 3) := by decide +kernel
theorem dX3_fewestOtherwise_35 : decode cX3_fewestOtherwise 35 = .ok (.getfield 40, 3) := by decide +kernel
theorem dX3_fewestOtherwise_38 : decode cX3_fewestOtherwise 38 = .ok (.iload_n 2, 1) := by decide +kernel
theorem dX3_fewestOtherwise_39 : decode cX3_fewestOtherwise 39 = .ok (.iaload, 1) := by decide +kernel
theorem dX3_fewestOtherwise_40 : decode cX3_fewestOtherwise 40 = .ok (.iload 5, 2) := by decide +kernel
theorem dX3_fewestOtherwise_42 : decode cX3_fewestOtherwise 42 = .ok (.iload 4, 2) := by decide +kernel
theorem dX3_fewestOtherwise_44 : decode cX3_fewestOtherwise 44 = .ok (.invokestatic 43, 3) := by decide +kernel
theorem dX3_fewestOtherwise_47 : decode cX3_fewestOtherwise 47 = .ok (.lstore 6, 2) := by decide +kernel
theorem dX3_fewestOtherwise_49 : decode cX3_fewestOtherwise 49 = .ok (.lload 6, 2) := by decide +kernel
theorem dX3_fewestOtherwise_51 : decode cX3_fewestOtherwise 51 = .ok (.invokestatic 47, 3) := by decide +kernel
theorem dX3_fewestOtherwise_54 : decode cX3_fewestOtherwise 54 = .ok (.bipush 24, 2) := by decide +kernel
theorem dX3_fewestOtherwise_56 : decode cX3_fewestOtherwise 56 = .ok (.if_icmp .lt 62, 3) := by decide +kernel
theorem dX3_fewestOtherwise_59 : decode cX3_fewestOtherwise 59 = .ok (.aload_n 0, 1) := by decide +kernel
theorem dX3_fewestOtherwise_60 : decode cX3_fewestOtherwise 60 = .ok (.getfield 27, 3) := by decide +kernel
theorem dX3_fewestOtherwise_63 : decode cX3_fewestOtherwise 63 = .ok (.getfield 53, 3) := by decide +kernel
theorem dX3_fewestOtherwise_66 : decode cX3_fewestOtherwise 66 = .ok (.iload_n 2, 1) := by decide +kernel
theorem dX3_fewestOtherwise_67 : decode cX3_fewestOtherwise 67 = .ok (.laload, 1) := by decide +kernel
theorem dX3_fewestOtherwise_68 : decode cX3_fewestOtherwise 68 = .ok (.bipush 8, 2) := by decide +kernel
theorem dX3_fewestOtherwise_70 : decode cX3_fewestOtherwise 70 = .ok (.iload 4, 2) := by decide +kernel
theorem dX3_fewestOtherwise_72 : decode cX3_fewestOtherwise 72 = .ok (.imul, 1) := by decide +kernel
theorem dX3_fewestOtherwise_73 : decode cX3_fewestOtherwise 73 = .ok (.iload 5, 2) := by decide +kernel
theorem dX3_fewestOtherwise_75 : decode cX3_fewestOtherwise 75 = .ok (.iadd, 1) := by decide +kernel
theorem dX3_fewestOtherwise_76 : decode cX3_fewestOtherwise 76 = .ok (.invokestatic 57, 3) := by decide +kernel
theorem dX3_fewestOtherwise_79 : decode cX3_fewestOtherwise 79 = .ok (.lstore 8, 2) := by decide +kernel
theorem dX3_fewestOtherwise_81 : decode cX3_fewestOtherwise 81 = .ok (.aload_n 0, 1) := by decide +kernel
theorem dX3_fewestOtherwise_82 : decode cX3_fewestOtherwise 82 = .ok (.getfield 27, 3) := by decide +kernel
theorem dX3_fewestOtherwise_85 : decode cX3_fewestOtherwise 85 = .ok (.getfield 53, 3) := by decide +kernel
theorem dX3_fewestOtherwise_88 : decode cX3_fewestOtherwise 88 = .ok (.iload_n 1, 1) := by decide +kernel
theorem dX3_fewestOtherwise_89 : decode cX3_fewestOtherwise 89 = .ok (.laload, 1) := by decide +kernel
theorem dX3_fewestOtherwise_90 : decode cX3_fewestOtherwise 90 = .ok (.lload 8, 2) := by decide +kernel
theorem dX3_fewestOtherwise_92 : decode cX3_fewestOtherwise 92 = .ok (.lxor, 1) := by decide +kernel
theorem dX3_fewestOtherwise_93 : decode cX3_fewestOtherwise 93 = .ok (.lload 6, 2) := by decide +kernel
theorem dX3_fewestOtherwise_95 : decode cX3_fewestOtherwise 95 = .ok (.land, 1) := by decide +kernel
theorem dX3_fewestOtherwise_96 : decode cX3_fewestOtherwise 96 = .ok (.invokestatic 47, 3) := by decide +kernel
theorem dX3_fewestOtherwise_99 : decode cX3_fewestOtherwise 99 = .ok (.istore 10, 2) := by decide +kernel
theorem dX3_fewestOtherwise_101 : decode cX3_fewestOtherwise 101 = .ok (.iload_n 3, 1) := by decide +kernel
theorem dX3_fewestOtherwise_102 : decode cX3_fewestOtherwise 102 = .ok (.iconst (-1), 1) := by decide +kernel
theorem dX3_fewestOtherwise_103 : decode cX3_fewestOtherwise 103 = .ok (.if_icmp .ne 8, 3) := by decide +kernel
theorem dX3_fewestOtherwise_106 : decode cX3_fewestOtherwise 106 = .ok (.iload 10, 2) := by decide +kernel
theorem dX3_fewestOtherwise_108 : decode cX3_fewestOtherwise 108 = .ok (.goto 9, 3) := by decide +kernel
theorem dX3_fewestOtherwise_111 : decode cX3_fewestOtherwise 111 = .ok (.iload_n 3, 1) := by decide +kernel
theorem dX3_fewestOtherwise_112 : decode cX3_fewestOtherwise 112 = .ok (.iload 10, 2) := by decide +kernel
theorem dX3_fewestOtherwise_114 : decode cX3_fewestOtherwise 114 = .ok (.invokestatic 61, 3) := by decide +kernel
theorem dX3_fewestOtherwise_117 : decode cX3_fewestOtherwise 117 = .ok (.istore_n 3, 1) := by decide +kernel
theorem dX3_fewestOtherwise_118 : decode cX3_fewestOtherwise 118 = .ok (.iinc 5 1, 3) := by decide +kernel
theorem dX3_fewestOtherwise_121 : decode cX3_fewestOtherwise 121 = .ok (.goto (-105), 3) := by decide +kernel
theorem dX3_fewestOtherwise_124 : decode cX3_fewestOtherwise 124 = .ok (.iinc 4 1, 3) := by decide +kernel
theorem dX3_fewestOtherwise_127 : decode cX3_fewestOtherwise 127 = .ok (.goto (-121), 3) := by decide +kernel
theorem dX3_fewestOtherwise_130 : decode cX3_fewestOtherwise 130 = .ok (.iload_n 3, 1) := by decide +kernel
theorem dX3_fewestOtherwise_131 : decode cX3_fewestOtherwise 131 = .ok (.ireturn, 1) := by decide +kernel
set_option maxRecDepth 100000 in
set_option maxHeartbeats 40000000 in
theorem fx_X3_fewestOtherwise {G : vG} {l : Launch} (σ : Sg) : Sp G l yX3_fewestOtherwise cX3_fewestOtherwise 11 (some .int) 2 0 0 [.ref 12, .int 0, .int 0] (WW σ) (QI (fun _ w2 => w2 = WW σ)) := by
  refine Sp_of_R [(some (.ref 12)), (some (.int 0)), (some (.int 0)), none, none, none, none, none, none, none, none] [none, none, none, none, none, none, none, none] rfl (by simp) rfl (Nat.le_of_ble_eq_true rfl) ?_
  have HI : ∀ (dy : Int32), (∀ (fw : Int32) (o5 o6 o7 o8 o9 o10 : Option Value), R G l yX3_fewestOtherwise cX3_fewestOtherwise 11 (some .int) 2 0 0 (QI (fun _ w2 => w2 = WW σ)) 124 [(some (.ref 12)), (some (.int 0)), (some (.int 0)), (some (.int fw)), (some (.int dy)), o5, o6, o7, o8, o9, o10] [] (WW σ) 0 0) → ∀ (fw : Int32) (o6 o7 o8 o9 o10 : Option Value), R G l yX3_fewestOtherwise cX3_fewestOtherwise 11 (some .int) 2 0 0 (QI (fun _ w2 => w2 = WW σ)) 16 [(some (.ref 12)), (some (.int 0)), (some (.int 0)), (some (.int fw)), (some (.int dy)), (some (.int (-2))), o6, o7, o8, o9, o10] [] (WW σ) 0 0 := by
    intro dy hout
    have H3 : ∀ (fw : Int32) (o6 o7 o8 o9 o10 : Option Value), R G l yX3_fewestOtherwise cX3_fewestOtherwise 11 (some .int) 2 0 0 (QI (fun _ w2 => w2 = WW σ)) 16 [(some (.ref 12)), (some (.int 0)), (some (.int 0)), (some (.int fw)), (some (.int dy)), (some (.int 3)), o6, o7, o8, o9, o10] [] (WW σ) 0 0 := by
      intro fw o6 o7 o8 o9 o10
      refine R_iload (pc := 16) dX3_fewestOtherwise_16 rfl ?_
      refine R_iconst (pc := 18) (v := 2) dX3_fewestOtherwise_18 (by decide) ?_
      refine R_icgt (pc := 19) 124 dX3_fewestOtherwise_19 (by decide) (fun _ => ?_) (fun h => absurd (by decide) h)
      exact hout _ _ _ _ _ _ _
    have H2 : ∀ (fw : Int32) (o6 o7 o8 o9 o10 : Option Value), R G l yX3_fewestOtherwise cX3_fewestOtherwise 11 (some .int) 2 0 0 (QI (fun _ w2 => w2 = WW σ)) 16 [(some (.ref 12)), (some (.int 0)), (some (.int 0)), (some (.int fw)), (some (.int dy)), (some (.int 2)), o6, o7, o8, o9, o10] [] (WW σ) 0 0 := by
      intro fw o6 o7 o8 o9 o10
      refine R_iload (pc := 16) dX3_fewestOtherwise_16 rfl ?_
      refine R_iconst (pc := 18) (v := 2) dX3_fewestOtherwise_18 (by decide) ?_
      refine R_icgt (pc := 19) 124 dX3_fewestOtherwise_19 (by decide) (fun h => absurd h (by decide)) (fun _ => ?_)
      refine R_aload_n (pc := 22) dX3_fewestOtherwise_22 rfl rfl ?_
      refine g_X3_27 (pc := 23) (v := .ref 1) rfl dX3_fewestOtherwise_23 (c_12 _) rfl ?_
      refine g_X3_40 (pc := 26) (v := .ref 7) rfl dX3_fewestOtherwise_26 (c_1 _) rfl ?_
      refine R_iload_n (pc := 29) dX3_fewestOtherwise_29 rfl rfl ?_
      refine R_iaload (pc := 30) dX3_fewestOtherwise_30 (c_7 _) (by unfold vp_in; decide) ?_
      refine R_aload_n (pc := 31) dX3_fewestOtherwise_31 rfl rfl ?_
      refine g_X3_27 (pc := 32) (v := .ref 1) rfl dX3_fewestOtherwise_32 (c_12 _) rfl ?_
      refine g_X3_40 (pc := 35) (v := .ref 7) rfl dX3_fewestOtherwise_35 (c_1 _) rfl ?_
      refine R_iload_n (pc := 38) dX3_fewestOtherwise_38 rfl rfl ?_
      refine R_iaload (pc := 39) dX3_fewestOtherwise_39 (c_7 _) (by unfold vp_in; decide) ?_
      refine R_iload (pc := 40) dX3_fewestOtherwise_40 rfl ?_
      refine R_iload (pc := 42) dX3_fewestOtherwise_42 rfl ?_
      refine k_X3_43 (pc := 44) (sp_X3_cellsInBoth _ _ _ _ _) rfl (by decide) (Nat.le_refl _) (Nat.le_refl _) (Nat.le_of_ble_eq_true rfl) dX3_fewestOtherwise_44 (fun cl3 w2 h => ?_)
      subst h
      refine st_11_6_l_i (pc := 47) dX3_fewestOtherwise_47 ?_
      refine R_lload (pc := 49) dX3_fewestOtherwise_49 rfl ?_
      refine k_X3_47 (pc := 51) (sp_J13_bitCount_95d88 _ _) rfl (by decide) (Nat.le_refl _) (Nat.le_refl _) (Nat.le_of_ble_eq_true rfl) dX3_fewestOtherwise_51 (fun bc4 w2 h => ?_)
      subst h
      refine R_bipush (pc := 54) (v := 24) dX3_fewestOtherwise_54 (by decide) ?_
      refine R_iclt (pc := 56) 118 dX3_fewestOtherwise_56 (by decide) (fun b56_5 => ?_) (fun b56_5 => ?_)
      · skip
        refine inc_11_5_1_i (pc := 118) dX3_fewestOtherwise_118 ?_
        refine R_goto (pc := 121) 16 dX3_fewestOtherwise_121 (by decide) ?_
        exact H3 _ _ _ _ _ _
      · skip
        refine R_aload_n (pc := 59) dX3_fewestOtherwise_59 rfl rfl ?_
        refine g_X3_27 (pc := 60) (v := .ref 1) rfl dX3_fewestOtherwise_60 (c_12 _) rfl ?_
        refine g_X3_53 (pc := 63) (v := .ref 6) rfl dX3_fewestOtherwise_63 (c_1 _) rfl ?_
        refine R_iload_n (pc := 66) dX3_fewestOtherwise_66 rfl rfl ?_
        refine R_laload (pc := 67) dX3_fewestOtherwise_67 (c_6 _) (by unfold vp_in; decide) ?_
        refine R_bipush (pc := 68) (v := 8) dX3_fewestOtherwise_68 (by decide) ?_
        refine R_iload (pc := 70) dX3_fewestOtherwise_70 rfl ?_
        refine R_imul (pc := 72) dX3_fewestOtherwise_72 ?_
        refine R_iload (pc := 73) dX3_fewestOtherwise_73 rfl ?_
        refine R_iadd (pc := 75) dX3_fewestOtherwise_75 ?_
        refine k_X3_57 (pc := 76) (sp_X3_moved _ _ _) rfl (by decide) (Nat.le_refl _) (Nat.le_refl _) (Nat.le_of_ble_eq_true rfl) dX3_fewestOtherwise_76 (fun mv6 w2 h => ?_)
        subst h
        refine st_11_8_l_n (pc := 79) dX3_fewestOtherwise_79 ?_
        refine R_aload_n (pc := 81) dX3_fewestOtherwise_81 rfl rfl ?_
        refine g_X3_27 (pc := 82) (v := .ref 1) rfl dX3_fewestOtherwise_82 (c_12 _) rfl ?_
        refine g_X3_53 (pc := 85) (v := .ref 6) rfl dX3_fewestOtherwise_85 (c_1 _) rfl ?_
        refine R_iload_n (pc := 88) dX3_fewestOtherwise_88 rfl rfl ?_
        refine R_laload (pc := 89) dX3_fewestOtherwise_89 (c_6 _) (by unfold vp_in; decide) ?_
        refine R_lload (pc := 90) dX3_fewestOtherwise_90 rfl ?_
        refine R_lxor (pc := 92) dX3_fewestOtherwise_92 ?_
        refine R_lload (pc := 93) dX3_fewestOtherwise_93 rfl ?_
        refine R_land (pc := 95) dX3_fewestOtherwise_95 ?_
        refine k_X3_47 (pc := 96) (sp_J13_bitCount_95d88 _ _) rfl (by decide) (Nat.le_refl _) (Nat.le_refl _) (Nat.le_of_ble_eq_true rfl) dX3_fewestOtherwise_96 (fun bc7 w2 h => ?_)
        subst h
        refine st_11_10_i_n (pc := 99) dX3_fewestOtherwise_99 ?_
        refine R_iload_n (pc := 101) dX3_fewestOtherwise_101 rfl rfl ?_
        refine R_iconst (pc := 102) (v := (-1)) dX3_fewestOtherwise_102 (by decide) ?_
        refine R_icne (pc := 103) 111 dX3_fewestOtherwise_103 (by decide) (fun b103_8 => ?_) (fun b103_8 => ?_)
        · skip
          refine R_iload_n (pc := 111) dX3_fewestOtherwise_111 rfl rfl ?_
          refine R_iload (pc := 112) dX3_fewestOtherwise_112 rfl ?_
          refine R_mmin (pc := 114) wm_376 dX3_fewestOtherwise_114 (by decide) (Nat.le_of_ble_eq_true rfl) (Nat.zero_le _) (Nat.zero_le _) ?_
          refine st_11_3_i_i (pc := 117) dX3_fewestOtherwise_117 ?_
          refine inc_11_5_1_i (pc := 118) dX3_fewestOtherwise_118 ?_
          refine R_goto (pc := 121) 16 dX3_fewestOtherwise_121 (by decide) ?_
          exact H3 _ _ _ _ _ _
        · skip
          refine R_iload (pc := 106) dX3_fewestOtherwise_106 rfl ?_
          refine R_goto (pc := 108) 117 dX3_fewestOtherwise_108 (by decide) ?_
          refine st_11_3_i_i (pc := 117) dX3_fewestOtherwise_117 ?_
          refine inc_11_5_1_i (pc := 118) dX3_fewestOtherwise_118 ?_
          refine R_goto (pc := 121) 16 dX3_fewestOtherwise_121 (by decide) ?_
          exact H3 _ _ _ _ _ _
    have H1 : ∀ (fw : Int32) (o6 o7 o8 o9 o10 : Option Value), R G l yX3_fewestOtherwise cX3_fewestOtherwise 11 (some .int) 2 0 0 (QI (fun _ w2 => w2 = WW σ)) 16 [(some (.ref 12)), (some (.int 0)), (some (.int 0)), (some (.int fw)), (some (.int dy)), (some (.int 1)), o6, o7, o8, o9, o10] [] (WW σ) 0 0 := by
      intro fw o6 o7 o8 o9 o10
      refine R_iload (pc := 16) dX3_fewestOtherwise_16 rfl ?_
      refine R_iconst (pc := 18) (v := 2) dX3_fewestOtherwise_18 (by decide) ?_
      refine R_icgt (pc := 19) 124 dX3_fewestOtherwise_19 (by decide) (fun h => absurd h (by decide)) (fun _ => ?_)
      refine R_aload_n (pc := 22) dX3_fewestOtherwise_22 rfl rfl ?_
      refine g_X3_27 (pc := 23) (v := .ref 1) rfl dX3_fewestOtherwise_23 (c_12 _) rfl ?_
      refine g_X3_40 (pc := 26) (v := .ref 7) rfl dX3_fewestOtherwise_26 (c_1 _) rfl ?_
      refine R_iload_n (pc := 29) dX3_fewestOtherwise_29 rfl rfl ?_
      refine R_iaload (pc := 30) dX3_fewestOtherwise_30 (c_7 _) (by unfold vp_in; decide) ?_
      refine R_aload_n (pc := 31) dX3_fewestOtherwise_31 rfl rfl ?_
      refine g_X3_27 (pc := 32) (v := .ref 1) rfl dX3_fewestOtherwise_32 (c_12 _) rfl ?_
      refine g_X3_40 (pc := 35) (v := .ref 7) rfl dX3_fewestOtherwise_35 (c_1 _) rfl ?_
      refine R_iload_n (pc := 38) dX3_fewestOtherwise_38 rfl rfl ?_
      refine R_iaload (pc := 39) dX3_fewestOtherwise_39 (c_7 _) (by unfold vp_in; decide) ?_
      refine R_iload (pc := 40) dX3_fewestOtherwise_40 rfl ?_
      refine R_iload (pc := 42) dX3_fewestOtherwise_42 rfl ?_
      refine k_X3_43 (pc := 44) (sp_X3_cellsInBoth _ _ _ _ _) rfl (by decide) (Nat.le_refl _) (Nat.le_refl _) (Nat.le_of_ble_eq_true rfl) dX3_fewestOtherwise_44 (fun cl10 w2 h => ?_)
      subst h
      refine st_11_6_l_i (pc := 47) dX3_fewestOtherwise_47 ?_
      refine R_lload (pc := 49) dX3_fewestOtherwise_49 rfl ?_
      refine k_X3_47 (pc := 51) (sp_J13_bitCount_95d88 _ _) rfl (by decide) (Nat.le_refl _) (Nat.le_refl _) (Nat.le_of_ble_eq_true rfl) dX3_fewestOtherwise_51 (fun bc11 w2 h => ?_)
      subst h
      refine R_bipush (pc := 54) (v := 24) dX3_fewestOtherwise_54 (by decide) ?_
      refine R_iclt (pc := 56) 118 dX3_fewestOtherwise_56 (by decide) (fun b56_12 => ?_) (fun b56_12 => ?_)
      · skip
        refine inc_11_5_1_i (pc := 118) dX3_fewestOtherwise_118 ?_
        refine R_goto (pc := 121) 16 dX3_fewestOtherwise_121 (by decide) ?_
        exact H2 _ _ _ _ _ _
      · skip
        refine R_aload_n (pc := 59) dX3_fewestOtherwise_59 rfl rfl ?_
        refine g_X3_27 (pc := 60) (v := .ref 1) rfl dX3_fewestOtherwise_60 (c_12 _) rfl ?_
        refine g_X3_53 (pc := 63) (v := .ref 6) rfl dX3_fewestOtherwise_63 (c_1 _) rfl ?_
        refine R_iload_n (pc := 66) dX3_fewestOtherwise_66 rfl rfl ?_
        refine R_laload (pc := 67) dX3_fewestOtherwise_67 (c_6 _) (by unfold vp_in; decide) ?_
        refine R_bipush (pc := 68) (v := 8) dX3_fewestOtherwise_68 (by decide) ?_
        refine R_iload (pc := 70) dX3_fewestOtherwise_70 rfl ?_
        refine R_imul (pc := 72) dX3_fewestOtherwise_72 ?_
        refine R_iload (pc := 73) dX3_fewestOtherwise_73 rfl ?_
        refine R_iadd (pc := 75) dX3_fewestOtherwise_75 ?_
        refine k_X3_57 (pc := 76) (sp_X3_moved _ _ _) rfl (by decide) (Nat.le_refl _) (Nat.le_refl _) (Nat.le_of_ble_eq_true rfl) dX3_fewestOtherwise_76 (fun mv13 w2 h => ?_)
        subst h
        refine st_11_8_l_n (pc := 79) dX3_fewestOtherwise_79 ?_
        refine R_aload_n (pc := 81) dX3_fewestOtherwise_81 rfl rfl ?_
        refine g_X3_27 (pc := 82) (v := .ref 1) rfl dX3_fewestOtherwise_82 (c_12 _) rfl ?_
        refine g_X3_53 (pc := 85) (v := .ref 6) rfl dX3_fewestOtherwise_85 (c_1 _) rfl ?_
        refine R_iload_n (pc := 88) dX3_fewestOtherwise_88 rfl rfl ?_
        refine R_laload (pc := 89) dX3_fewestOtherwise_89 (c_6 _) (by unfold vp_in; decide) ?_
        refine R_lload (pc := 90) dX3_fewestOtherwise_90 rfl ?_
        refine R_lxor (pc := 92) dX3_fewestOtherwise_92 ?_
        refine R_lload (pc := 93) dX3_fewestOtherwise_93 rfl ?_
        refine R_land (pc := 95) dX3_fewestOtherwise_95 ?_
        refine k_X3_47 (pc := 96) (sp_J13_bitCount_95d88 _ _) rfl (by decide) (Nat.le_refl _) (Nat.le_refl _) (Nat.le_of_ble_eq_true rfl) dX3_fewestOtherwise_96 (fun bc14 w2 h => ?_)
        subst h
        refine st_11_10_i_n (pc := 99) dX3_fewestOtherwise_99 ?_
        refine R_iload_n (pc := 101) dX3_fewestOtherwise_101 rfl rfl ?_
        refine R_iconst (pc := 102) (v := (-1)) dX3_fewestOtherwise_102 (by decide) ?_
        refine R_icne (pc := 103) 111 dX3_fewestOtherwise_103 (by decide) (fun b103_15 => ?_) (fun b103_15 => ?_)
        · skip
          refine R_iload_n (pc := 111) dX3_fewestOtherwise_111 rfl rfl ?_
          refine R_iload (pc := 112) dX3_fewestOtherwise_112 rfl ?_
          refine R_mmin (pc := 114) wm_376 dX3_fewestOtherwise_114 (by decide) (Nat.le_of_ble_eq_true rfl) (Nat.zero_le _) (Nat.zero_le _) ?_
          refine st_11_3_i_i (pc := 117) dX3_fewestOtherwise_117 ?_
          refine inc_11_5_1_i (pc := 118) dX3_fewestOtherwise_118 ?_
          refine R_goto (pc := 121) 16 dX3_fewestOtherwise_121 (by decide) ?_
          exact H2 _ _ _ _ _ _
        · skip
          refine R_iload (pc := 106) dX3_fewestOtherwise_106 rfl ?_
          refine R_goto (pc := 108) 117 dX3_fewestOtherwise_108 (by decide) ?_
          refine st_11_3_i_i (pc := 117) dX3_fewestOtherwise_117 ?_
          refine inc_11_5_1_i (pc := 118) dX3_fewestOtherwise_118 ?_
          refine R_goto (pc := 121) 16 dX3_fewestOtherwise_121 (by decide) ?_
          exact H2 _ _ _ _ _ _
    have H0 : ∀ (fw : Int32) (o6 o7 o8 o9 o10 : Option Value), R G l yX3_fewestOtherwise cX3_fewestOtherwise 11 (some .int) 2 0 0 (QI (fun _ w2 => w2 = WW σ)) 16 [(some (.ref 12)), (some (.int 0)), (some (.int 0)), (some (.int fw)), (some (.int dy)), (some (.int 0)), o6, o7, o8, o9, o10] [] (WW σ) 0 0 := by
      intro fw o6 o7 o8 o9 o10
      refine R_iload (pc := 16) dX3_fewestOtherwise_16 rfl ?_
      refine R_iconst (pc := 18) (v := 2) dX3_fewestOtherwise_18 (by decide) ?_
      refine R_icgt (pc := 19) 124 dX3_fewestOtherwise_19 (by decide) (fun h => absurd h (by decide)) (fun _ => ?_)
      refine R_aload_n (pc := 22) dX3_fewestOtherwise_22 rfl rfl ?_
      refine g_X3_27 (pc := 23) (v := .ref 1) rfl dX3_fewestOtherwise_23 (c_12 _) rfl ?_
      refine g_X3_40 (pc := 26) (v := .ref 7) rfl dX3_fewestOtherwise_26 (c_1 _) rfl ?_
      refine R_iload_n (pc := 29) dX3_fewestOtherwise_29 rfl rfl ?_
      refine R_iaload (pc := 30) dX3_fewestOtherwise_30 (c_7 _) (by unfold vp_in; decide) ?_
      refine R_aload_n (pc := 31) dX3_fewestOtherwise_31 rfl rfl ?_
      refine g_X3_27 (pc := 32) (v := .ref 1) rfl dX3_fewestOtherwise_32 (c_12 _) rfl ?_
      refine g_X3_40 (pc := 35) (v := .ref 7) rfl dX3_fewestOtherwise_35 (c_1 _) rfl ?_
      refine R_iload_n (pc := 38) dX3_fewestOtherwise_38 rfl rfl ?_
      refine R_iaload (pc := 39) dX3_fewestOtherwise_39 (c_7 _) (by unfold vp_in; decide) ?_
      refine R_iload (pc := 40) dX3_fewestOtherwise_40 rfl ?_
      refine R_iload (pc := 42) dX3_fewestOtherwise_42 rfl ?_
      refine k_X3_43 (pc := 44) (sp_X3_cellsInBoth _ _ _ _ _) rfl (by decide) (Nat.le_refl _) (Nat.le_refl _) (Nat.le_of_ble_eq_true rfl) dX3_fewestOtherwise_44 (fun cl17 w2 h => ?_)
      subst h
      refine st_11_6_l_i (pc := 47) dX3_fewestOtherwise_47 ?_
      refine R_lload (pc := 49) dX3_fewestOtherwise_49 rfl ?_
      refine k_X3_47 (pc := 51) (sp_J13_bitCount_95d88 _ _) rfl (by decide) (Nat.le_refl _) (Nat.le_refl _) (Nat.le_of_ble_eq_true rfl) dX3_fewestOtherwise_51 (fun bc18 w2 h => ?_)
      subst h
      refine R_bipush (pc := 54) (v := 24) dX3_fewestOtherwise_54 (by decide) ?_
      refine R_iclt (pc := 56) 118 dX3_fewestOtherwise_56 (by decide) (fun b56_19 => ?_) (fun b56_19 => ?_)
      · skip
        refine inc_11_5_1_i (pc := 118) dX3_fewestOtherwise_118 ?_
        refine R_goto (pc := 121) 16 dX3_fewestOtherwise_121 (by decide) ?_
        exact H1 _ _ _ _ _ _
      · skip
        refine R_aload_n (pc := 59) dX3_fewestOtherwise_59 rfl rfl ?_
        refine g_X3_27 (pc := 60) (v := .ref 1) rfl dX3_fewestOtherwise_60 (c_12 _) rfl ?_
        refine g_X3_53 (pc := 63) (v := .ref 6) rfl dX3_fewestOtherwise_63 (c_1 _) rfl ?_
        refine R_iload_n (pc := 66) dX3_fewestOtherwise_66 rfl rfl ?_
        refine R_laload (pc := 67) dX3_fewestOtherwise_67 (c_6 _) (by unfold vp_in; decide) ?_
        refine R_bipush (pc := 68) (v := 8) dX3_fewestOtherwise_68 (by decide) ?_
        refine R_iload (pc := 70) dX3_fewestOtherwise_70 rfl ?_
        refine R_imul (pc := 72) dX3_fewestOtherwise_72 ?_
        refine R_iload (pc := 73) dX3_fewestOtherwise_73 rfl ?_
        refine R_iadd (pc := 75) dX3_fewestOtherwise_75 ?_
        refine k_X3_57 (pc := 76) (sp_X3_moved _ _ _) rfl (by decide) (Nat.le_refl _) (Nat.le_refl _) (Nat.le_of_ble_eq_true rfl) dX3_fewestOtherwise_76 (fun mv20 w2 h => ?_)
        subst h
        refine st_11_8_l_n (pc := 79) dX3_fewestOtherwise_79 ?_
        refine R_aload_n (pc := 81) dX3_fewestOtherwise_81 rfl rfl ?_
        refine g_X3_27 (pc := 82) (v := .ref 1) rfl dX3_fewestOtherwise_82 (c_12 _) rfl ?_
        refine g_X3_53 (pc := 85) (v := .ref 6) rfl dX3_fewestOtherwise_85 (c_1 _) rfl ?_
        refine R_iload_n (pc := 88) dX3_fewestOtherwise_88 rfl rfl ?_
        refine R_laload (pc := 89) dX3_fewestOtherwise_89 (c_6 _) (by unfold vp_in; decide) ?_
        refine R_lload (pc := 90) dX3_fewestOtherwise_90 rfl ?_
        refine R_lxor (pc := 92) dX3_fewestOtherwise_92 ?_
        refine R_lload (pc := 93) dX3_fewestOtherwise_93 rfl ?_
        refine R_land (pc := 95) dX3_fewestOtherwise_95 ?_
        refine k_X3_47 (pc := 96) (sp_J13_bitCount_95d88 _ _) rfl (by decide) (Nat.le_refl _) (Nat.le_refl _) (Nat.le_of_ble_eq_true rfl) dX3_fewestOtherwise_96 (fun bc21 w2 h => ?_)
        subst h
        refine st_11_10_i_n (pc := 99) dX3_fewestOtherwise_99 ?_
        refine R_iload_n (pc := 101) dX3_fewestOtherwise_101 rfl rfl ?_
        refine R_iconst (pc := 102) (v := (-1)) dX3_fewestOtherwise_102 (by decide) ?_
        refine R_icne (pc := 103) 111 dX3_fewestOtherwise_103 (by decide) (fun b103_22 => ?_) (fun b103_22 => ?_)
        · skip
          refine R_iload_n (pc := 111) dX3_fewestOtherwise_111 rfl rfl ?_
          refine R_iload (pc := 112) dX3_fewestOtherwise_112 rfl ?_
          refine R_mmin (pc := 114) wm_376 dX3_fewestOtherwise_114 (by decide) (Nat.le_of_ble_eq_true rfl) (Nat.zero_le _) (Nat.zero_le _) ?_
          refine st_11_3_i_i (pc := 117) dX3_fewestOtherwise_117 ?_
          refine inc_11_5_1_i (pc := 118) dX3_fewestOtherwise_118 ?_
          refine R_goto (pc := 121) 16 dX3_fewestOtherwise_121 (by decide) ?_
          exact H1 _ _ _ _ _ _
        · skip
          refine R_iload (pc := 106) dX3_fewestOtherwise_106 rfl ?_
          refine R_goto (pc := 108) 117 dX3_fewestOtherwise_108 (by decide) ?_
          refine st_11_3_i_i (pc := 117) dX3_fewestOtherwise_117 ?_
          refine inc_11_5_1_i (pc := 118) dX3_fewestOtherwise_118 ?_
          refine R_goto (pc := 121) 16 dX3_fewestOtherwise_121 (by decide) ?_
          exact H1 _ _ _ _ _ _
    have Hm1 : ∀ (fw : Int32) (o6 o7 o8 o9 o10 : Option Value), R G l yX3_fewestOtherwise cX3_fewestOtherwise 11 (some .int) 2 0 0 (QI (fun _ w2 => w2 = WW σ)) 16 [(some (.ref 12)), (some (.int 0)), (some (.int 0)), (some (.int fw)), (some (.int dy)), (some (.int (-1))), o6, o7, o8, o9, o10] [] (WW σ) 0 0 := by
      intro fw o6 o7 o8 o9 o10
      refine R_iload (pc := 16) dX3_fewestOtherwise_16 rfl ?_
      refine R_iconst (pc := 18) (v := 2) dX3_fewestOtherwise_18 (by decide) ?_
      refine R_icgt (pc := 19) 124 dX3_fewestOtherwise_19 (by decide) (fun h => absurd h (by decide)) (fun _ => ?_)
      refine R_aload_n (pc := 22) dX3_fewestOtherwise_22 rfl rfl ?_
      refine g_X3_27 (pc := 23) (v := .ref 1) rfl dX3_fewestOtherwise_23 (c_12 _) rfl ?_
      refine g_X3_40 (pc := 26) (v := .ref 7) rfl dX3_fewestOtherwise_26 (c_1 _) rfl ?_
      refine R_iload_n (pc := 29) dX3_fewestOtherwise_29 rfl rfl ?_
      refine R_iaload (pc := 30) dX3_fewestOtherwise_30 (c_7 _) (by unfold vp_in; decide) ?_
      refine R_aload_n (pc := 31) dX3_fewestOtherwise_31 rfl rfl ?_
      refine g_X3_27 (pc := 32) (v := .ref 1) rfl dX3_fewestOtherwise_32 (c_12 _) rfl ?_
      refine g_X3_40 (pc := 35) (v := .ref 7) rfl dX3_fewestOtherwise_35 (c_1 _) rfl ?_
      refine R_iload_n (pc := 38) dX3_fewestOtherwise_38 rfl rfl ?_
      refine R_iaload (pc := 39) dX3_fewestOtherwise_39 (c_7 _) (by unfold vp_in; decide) ?_
      refine R_iload (pc := 40) dX3_fewestOtherwise_40 rfl ?_
      refine R_iload (pc := 42) dX3_fewestOtherwise_42 rfl ?_
      refine k_X3_43 (pc := 44) (sp_X3_cellsInBoth _ _ _ _ _) rfl (by decide) (Nat.le_refl _) (Nat.le_refl _) (Nat.le_of_ble_eq_true rfl) dX3_fewestOtherwise_44 (fun cl24 w2 h => ?_)
      subst h
      refine st_11_6_l_i (pc := 47) dX3_fewestOtherwise_47 ?_
      refine R_lload (pc := 49) dX3_fewestOtherwise_49 rfl ?_
      refine k_X3_47 (pc := 51) (sp_J13_bitCount_95d88 _ _) rfl (by decide) (Nat.le_refl _) (Nat.le_refl _) (Nat.le_of_ble_eq_true rfl) dX3_fewestOtherwise_51 (fun bc25 w2 h => ?_)
      subst h
      refine R_bipush (pc := 54) (v := 24) dX3_fewestOtherwise_54 (by decide) ?_
      refine R_iclt (pc := 56) 118 dX3_fewestOtherwise_56 (by decide) (fun b56_26 => ?_) (fun b56_26 => ?_)
      · skip
        refine inc_11_5_1_i (pc := 118) dX3_fewestOtherwise_118 ?_
        refine R_goto (pc := 121) 16 dX3_fewestOtherwise_121 (by decide) ?_
        exact H0 _ _ _ _ _ _
      · skip
        refine R_aload_n (pc := 59) dX3_fewestOtherwise_59 rfl rfl ?_
        refine g_X3_27 (pc := 60) (v := .ref 1) rfl dX3_fewestOtherwise_60 (c_12 _) rfl ?_
        refine g_X3_53 (pc := 63) (v := .ref 6) rfl dX3_fewestOtherwise_63 (c_1 _) rfl ?_
        refine R_iload_n (pc := 66) dX3_fewestOtherwise_66 rfl rfl ?_
        refine R_laload (pc := 67) dX3_fewestOtherwise_67 (c_6 _) (by unfold vp_in; decide) ?_
        refine R_bipush (pc := 68) (v := 8) dX3_fewestOtherwise_68 (by decide) ?_
        refine R_iload (pc := 70) dX3_fewestOtherwise_70 rfl ?_
        refine R_imul (pc := 72) dX3_fewestOtherwise_72 ?_
        refine R_iload (pc := 73) dX3_fewestOtherwise_73 rfl ?_
        refine R_iadd (pc := 75) dX3_fewestOtherwise_75 ?_
        refine k_X3_57 (pc := 76) (sp_X3_moved _ _ _) rfl (by decide) (Nat.le_refl _) (Nat.le_refl _) (Nat.le_of_ble_eq_true rfl) dX3_fewestOtherwise_76 (fun mv27 w2 h => ?_)
        subst h
        refine st_11_8_l_n (pc := 79) dX3_fewestOtherwise_79 ?_
        refine R_aload_n (pc := 81) dX3_fewestOtherwise_81 rfl rfl ?_
        refine g_X3_27 (pc := 82) (v := .ref 1) rfl dX3_fewestOtherwise_82 (c_12 _) rfl ?_
        refine g_X3_53 (pc := 85) (v := .ref 6) rfl dX3_fewestOtherwise_85 (c_1 _) rfl ?_
        refine R_iload_n (pc := 88) dX3_fewestOtherwise_88 rfl rfl ?_
        refine R_laload (pc := 89) dX3_fewestOtherwise_89 (c_6 _) (by unfold vp_in; decide) ?_
        refine R_lload (pc := 90) dX3_fewestOtherwise_90 rfl ?_
        refine R_lxor (pc := 92) dX3_fewestOtherwise_92 ?_
        refine R_lload (pc := 93) dX3_fewestOtherwise_93 rfl ?_
        refine R_land (pc := 95) dX3_fewestOtherwise_95 ?_
        refine k_X3_47 (pc := 96) (sp_J13_bitCount_95d88 _ _) rfl (by decide) (Nat.le_refl _) (Nat.le_refl _) (Nat.le_of_ble_eq_true rfl) dX3_fewestOtherwise_96 (fun bc28 w2 h => ?_)
        subst h
        refine st_11_10_i_n (pc := 99) dX3_fewestOtherwise_99 ?_
        refine R_iload_n (pc := 101) dX3_fewestOtherwise_101 rfl rfl ?_
        refine R_iconst (pc := 102) (v := (-1)) dX3_fewestOtherwise_102 (by decide) ?_
        refine R_icne (pc := 103) 111 dX3_fewestOtherwise_103 (by decide) (fun b103_29 => ?_) (fun b103_29 => ?_)
        · skip
          refine R_iload_n (pc := 111) dX3_fewestOtherwise_111 rfl rfl ?_
          refine R_iload (pc := 112) dX3_fewestOtherwise_112 rfl ?_
          refine R_mmin (pc := 114) wm_376 dX3_fewestOtherwise_114 (by decide) (Nat.le_of_ble_eq_true rfl) (Nat.zero_le _) (Nat.zero_le _) ?_
          refine st_11_3_i_i (pc := 117) dX3_fewestOtherwise_117 ?_
          refine inc_11_5_1_i (pc := 118) dX3_fewestOtherwise_118 ?_
          refine R_goto (pc := 121) 16 dX3_fewestOtherwise_121 (by decide) ?_
          exact H0 _ _ _ _ _ _
        · skip
          refine R_iload (pc := 106) dX3_fewestOtherwise_106 rfl ?_
          refine R_goto (pc := 108) 117 dX3_fewestOtherwise_108 (by decide) ?_
          refine st_11_3_i_i (pc := 117) dX3_fewestOtherwise_117 ?_
          refine inc_11_5_1_i (pc := 118) dX3_fewestOtherwise_118 ?_
          refine R_goto (pc := 121) 16 dX3_fewestOtherwise_121 (by decide) ?_
          exact H0 _ _ _ _ _ _
    have Hm2 : ∀ (fw : Int32) (o6 o7 o8 o9 o10 : Option Value), R G l yX3_fewestOtherwise cX3_fewestOtherwise 11 (some .int) 2 0 0 (QI (fun _ w2 => w2 = WW σ)) 16 [(some (.ref 12)), (some (.int 0)), (some (.int 0)), (some (.int fw)), (some (.int dy)), (some (.int (-2))), o6, o7, o8, o9, o10] [] (WW σ) 0 0 := by
      intro fw o6 o7 o8 o9 o10
      refine R_iload (pc := 16) dX3_fewestOtherwise_16 rfl ?_
      refine R_iconst (pc := 18) (v := 2) dX3_fewestOtherwise_18 (by decide) ?_
      refine R_icgt (pc := 19) 124 dX3_fewestOtherwise_19 (by decide) (fun h => absurd h (by decide)) (fun _ => ?_)
      refine R_aload_n (pc := 22) dX3_fewestOtherwise_22 rfl rfl ?_
      refine g_X3_27 (pc := 23) (v := .ref 1) rfl dX3_fewestOtherwise_23 (c_12 _) rfl ?_
      refine g_X3_40 (pc := 26) (v := .ref 7) rfl dX3_fewestOtherwise_26 (c_1 _) rfl ?_
      refine R_iload_n (pc := 29) dX3_fewestOtherwise_29 rfl rfl ?_
      refine R_iaload (pc := 30) dX3_fewestOtherwise_30 (c_7 _) (by unfold vp_in; decide) ?_
      refine R_aload_n (pc := 31) dX3_fewestOtherwise_31 rfl rfl ?_
      refine g_X3_27 (pc := 32) (v := .ref 1) rfl dX3_fewestOtherwise_32 (c_12 _) rfl ?_
      refine g_X3_40 (pc := 35) (v := .ref 7) rfl dX3_fewestOtherwise_35 (c_1 _) rfl ?_
      refine R_iload_n (pc := 38) dX3_fewestOtherwise_38 rfl rfl ?_
      refine R_iaload (pc := 39) dX3_fewestOtherwise_39 (c_7 _) (by unfold vp_in; decide) ?_
      refine R_iload (pc := 40) dX3_fewestOtherwise_40 rfl ?_
      refine R_iload (pc := 42) dX3_fewestOtherwise_42 rfl ?_
      refine k_X3_43 (pc := 44) (sp_X3_cellsInBoth _ _ _ _ _) rfl (by decide) (Nat.le_refl _) (Nat.le_refl _) (Nat.le_of_ble_eq_true rfl) dX3_fewestOtherwise_44 (fun cl31 w2 h => ?_)
      subst h
      refine st_11_6_l_i (pc := 47) dX3_fewestOtherwise_47 ?_
      refine R_lload (pc := 49) dX3_fewestOtherwise_49 rfl ?_
      refine k_X3_47 (pc := 51) (sp_J13_bitCount_95d88 _ _) rfl (by decide) (Nat.le_refl _) (Nat.le_refl _) (Nat.le_of_ble_eq_true rfl) dX3_fewestOtherwise_51 (fun bc32 w2 h => ?_)
      subst h
      refine R_bipush (pc := 54) (v := 24) dX3_fewestOtherwise_54 (by decide) ?_
      refine R_iclt (pc := 56) 118 dX3_fewestOtherwise_56 (by decide) (fun b56_33 => ?_) (fun b56_33 => ?_)
      · skip
        refine inc_11_5_1_i (pc := 118) dX3_fewestOtherwise_118 ?_
        refine R_goto (pc := 121) 16 dX3_fewestOtherwise_121 (by decide) ?_
        exact Hm1 _ _ _ _ _ _
      · skip
        refine R_aload_n (pc := 59) dX3_fewestOtherwise_59 rfl rfl ?_
        refine g_X3_27 (pc := 60) (v := .ref 1) rfl dX3_fewestOtherwise_60 (c_12 _) rfl ?_
        refine g_X3_53 (pc := 63) (v := .ref 6) rfl dX3_fewestOtherwise_63 (c_1 _) rfl ?_
        refine R_iload_n (pc := 66) dX3_fewestOtherwise_66 rfl rfl ?_
        refine R_laload (pc := 67) dX3_fewestOtherwise_67 (c_6 _) (by unfold vp_in; decide) ?_
        refine R_bipush (pc := 68) (v := 8) dX3_fewestOtherwise_68 (by decide) ?_
        refine R_iload (pc := 70) dX3_fewestOtherwise_70 rfl ?_
        refine R_imul (pc := 72) dX3_fewestOtherwise_72 ?_
        refine R_iload (pc := 73) dX3_fewestOtherwise_73 rfl ?_
        refine R_iadd (pc := 75) dX3_fewestOtherwise_75 ?_
        refine k_X3_57 (pc := 76) (sp_X3_moved _ _ _) rfl (by decide) (Nat.le_refl _) (Nat.le_refl _) (Nat.le_of_ble_eq_true rfl) dX3_fewestOtherwise_76 (fun mv34 w2 h => ?_)
        subst h
        refine st_11_8_l_n (pc := 79) dX3_fewestOtherwise_79 ?_
        refine R_aload_n (pc := 81) dX3_fewestOtherwise_81 rfl rfl ?_
        refine g_X3_27 (pc := 82) (v := .ref 1) rfl dX3_fewestOtherwise_82 (c_12 _) rfl ?_
        refine g_X3_53 (pc := 85) (v := .ref 6) rfl dX3_fewestOtherwise_85 (c_1 _) rfl ?_
        refine R_iload_n (pc := 88) dX3_fewestOtherwise_88 rfl rfl ?_
        refine R_laload (pc := 89) dX3_fewestOtherwise_89 (c_6 _) (by unfold vp_in; decide) ?_
        refine R_lload (pc := 90) dX3_fewestOtherwise_90 rfl ?_
        refine R_lxor (pc := 92) dX3_fewestOtherwise_92 ?_
        refine R_lload (pc := 93) dX3_fewestOtherwise_93 rfl ?_
        refine R_land (pc := 95) dX3_fewestOtherwise_95 ?_
        refine k_X3_47 (pc := 96) (sp_J13_bitCount_95d88 _ _) rfl (by decide) (Nat.le_refl _) (Nat.le_refl _) (Nat.le_of_ble_eq_true rfl) dX3_fewestOtherwise_96 (fun bc35 w2 h => ?_)
        subst h
        refine st_11_10_i_n (pc := 99) dX3_fewestOtherwise_99 ?_
        refine R_iload_n (pc := 101) dX3_fewestOtherwise_101 rfl rfl ?_
        refine R_iconst (pc := 102) (v := (-1)) dX3_fewestOtherwise_102 (by decide) ?_
        refine R_icne (pc := 103) 111 dX3_fewestOtherwise_103 (by decide) (fun b103_36 => ?_) (fun b103_36 => ?_)
        · skip
          refine R_iload_n (pc := 111) dX3_fewestOtherwise_111 rfl rfl ?_
          refine R_iload (pc := 112) dX3_fewestOtherwise_112 rfl ?_
          refine R_mmin (pc := 114) wm_376 dX3_fewestOtherwise_114 (by decide) (Nat.le_of_ble_eq_true rfl) (Nat.zero_le _) (Nat.zero_le _) ?_
          refine st_11_3_i_i (pc := 117) dX3_fewestOtherwise_117 ?_
          refine inc_11_5_1_i (pc := 118) dX3_fewestOtherwise_118 ?_
          refine R_goto (pc := 121) 16 dX3_fewestOtherwise_121 (by decide) ?_
          exact Hm1 _ _ _ _ _ _
        · skip
          refine R_iload (pc := 106) dX3_fewestOtherwise_106 rfl ?_
          refine R_goto (pc := 108) 117 dX3_fewestOtherwise_108 (by decide) ?_
          refine st_11_3_i_i (pc := 117) dX3_fewestOtherwise_117 ?_
          refine inc_11_5_1_i (pc := 118) dX3_fewestOtherwise_118 ?_
          refine R_goto (pc := 121) 16 dX3_fewestOtherwise_121 (by decide) ?_
          exact Hm1 _ _ _ _ _ _
    exact Hm2
  have O3 : ∀ (fw : Int32) (o5 o6 o7 o8 o9 o10 : Option Value), R G l yX3_fewestOtherwise cX3_fewestOtherwise 11 (some .int) 2 0 0 (QI (fun _ w2 => w2 = WW σ)) 6 [(some (.ref 12)), (some (.int 0)), (some (.int 0)), (some (.int fw)), (some (.int 3)), o5, o6, o7, o8, o9, o10] [] (WW σ) 0 0 := by
    intro fw o5 o6 o7 o8 o9 o10
    refine R_iload (pc := 6) dX3_fewestOtherwise_6 rfl ?_
    refine R_iconst (pc := 8) (v := 2) dX3_fewestOtherwise_8 (by decide) ?_
    refine R_icgt (pc := 9) 130 dX3_fewestOtherwise_9 (by decide) (fun _ => ?_) (fun h => absurd (by decide) h)
    refine R_iload_n (pc := 130) dX3_fewestOtherwise_130 rfl rfl ?_
    exact R_iret (pc := 131) dX3_fewestOtherwise_131 rfl rfl (Nat.zero_le _) (Nat.zero_le _) ⟨_, rfl, rfl⟩
  have O2 : ∀ (fw : Int32) (o5 o6 o7 o8 o9 o10 : Option Value), R G l yX3_fewestOtherwise cX3_fewestOtherwise 11 (some .int) 2 0 0 (QI (fun _ w2 => w2 = WW σ)) 6 [(some (.ref 12)), (some (.int 0)), (some (.int 0)), (some (.int fw)), (some (.int 2)), o5, o6, o7, o8, o9, o10] [] (WW σ) 0 0 := by
    intro fw o5 o6 o7 o8 o9 o10
    refine R_iload (pc := 6) dX3_fewestOtherwise_6 rfl ?_
    refine R_iconst (pc := 8) (v := 2) dX3_fewestOtherwise_8 (by decide) ?_
    refine R_icgt (pc := 9) 130 dX3_fewestOtherwise_9 (by decide) (fun h => absurd h (by decide)) (fun _ => ?_)
    refine R_bipush (pc := 12) (v := (-2)) dX3_fewestOtherwise_12 (by decide) ?_
    refine st_11_5_i_i (pc := 14) dX3_fewestOtherwise_14 ?_
    refine HI 2 ?_ _ _ _ _ _ _
    intro fw o5 o6 o7 o8 o9 o10
    refine inc_11_4_1_i (pc := 124) dX3_fewestOtherwise_124 ?_
    refine R_goto (pc := 127) 6 dX3_fewestOtherwise_127 (by decide) ?_
    exact O3 _ _ _ _ _ _ _
  have O1 : ∀ (fw : Int32) (o5 o6 o7 o8 o9 o10 : Option Value), R G l yX3_fewestOtherwise cX3_fewestOtherwise 11 (some .int) 2 0 0 (QI (fun _ w2 => w2 = WW σ)) 6 [(some (.ref 12)), (some (.int 0)), (some (.int 0)), (some (.int fw)), (some (.int 1)), o5, o6, o7, o8, o9, o10] [] (WW σ) 0 0 := by
    intro fw o5 o6 o7 o8 o9 o10
    refine R_iload (pc := 6) dX3_fewestOtherwise_6 rfl ?_
    refine R_iconst (pc := 8) (v := 2) dX3_fewestOtherwise_8 (by decide) ?_
    refine R_icgt (pc := 9) 130 dX3_fewestOtherwise_9 (by decide) (fun h => absurd h (by decide)) (fun _ => ?_)
    refine R_bipush (pc := 12) (v := (-2)) dX3_fewestOtherwise_12 (by decide) ?_
    refine st_11_5_i_i (pc := 14) dX3_fewestOtherwise_14 ?_
    refine HI 1 ?_ _ _ _ _ _ _
    intro fw o5 o6 o7 o8 o9 o10
    refine inc_11_4_1_i (pc := 124) dX3_fewestOtherwise_124 ?_
    refine R_goto (pc := 127) 6 dX3_fewestOtherwise_127 (by decide) ?_
    exact O2 _ _ _ _ _ _ _
  have O0 : ∀ (fw : Int32) (o5 o6 o7 o8 o9 o10 : Option Value), R G l yX3_fewestOtherwise cX3_fewestOtherwise 11 (some .int) 2 0 0 (QI (fun _ w2 => w2 = WW σ)) 6 [(some (.ref 12)), (some (.int 0)), (some (.int 0)), (some (.int fw)), (some (.int 0)), o5, o6, o7, o8, o9, o10] [] (WW σ) 0 0 := by
    intro fw o5 o6 o7 o8 o9 o10
    refine R_iload (pc := 6) dX3_fewestOtherwise_6 rfl ?_
    refine R_iconst (pc := 8) (v := 2) dX3_fewestOtherwise_8 (by decide) ?_
    refine R_icgt (pc := 9) 130 dX3_fewestOtherwise_9 (by decide) (fun h => absurd h (by decide)) (fun _ => ?_)
    refine R_bipush (pc := 12) (v := (-2)) dX3_fewestOtherwise_12 (by decide) ?_
    refine st_11_5_i_i (pc := 14) dX3_fewestOtherwise_14 ?_
    refine HI 0 ?_ _ _ _ _ _ _
    intro fw o5 o6 o7 o8 o9 o10
    refine inc_11_4_1_i (pc := 124) dX3_fewestOtherwise_124 ?_
    refine R_goto (pc := 127) 6 dX3_fewestOtherwise_127 (by decide) ?_
    exact O1 _ _ _ _ _ _ _
  have Om1 : ∀ (fw : Int32) (o5 o6 o7 o8 o9 o10 : Option Value), R G l yX3_fewestOtherwise cX3_fewestOtherwise 11 (some .int) 2 0 0 (QI (fun _ w2 => w2 = WW σ)) 6 [(some (.ref 12)), (some (.int 0)), (some (.int 0)), (some (.int fw)), (some (.int (-1))), o5, o6, o7, o8, o9, o10] [] (WW σ) 0 0 := by
    intro fw o5 o6 o7 o8 o9 o10
    refine R_iload (pc := 6) dX3_fewestOtherwise_6 rfl ?_
    refine R_iconst (pc := 8) (v := 2) dX3_fewestOtherwise_8 (by decide) ?_
    refine R_icgt (pc := 9) 130 dX3_fewestOtherwise_9 (by decide) (fun h => absurd h (by decide)) (fun _ => ?_)
    refine R_bipush (pc := 12) (v := (-2)) dX3_fewestOtherwise_12 (by decide) ?_
    refine st_11_5_i_i (pc := 14) dX3_fewestOtherwise_14 ?_
    refine HI (-1) ?_ _ _ _ _ _ _
    intro fw o5 o6 o7 o8 o9 o10
    refine inc_11_4_1_i (pc := 124) dX3_fewestOtherwise_124 ?_
    refine R_goto (pc := 127) 6 dX3_fewestOtherwise_127 (by decide) ?_
    exact O0 _ _ _ _ _ _ _
  have Om2 : ∀ (fw : Int32) (o5 o6 o7 o8 o9 o10 : Option Value), R G l yX3_fewestOtherwise cX3_fewestOtherwise 11 (some .int) 2 0 0 (QI (fun _ w2 => w2 = WW σ)) 6 [(some (.ref 12)), (some (.int 0)), (some (.int 0)), (some (.int fw)), (some (.int (-2))), o5, o6, o7, o8, o9, o10] [] (WW σ) 0 0 := by
    intro fw o5 o6 o7 o8 o9 o10
    refine R_iload (pc := 6) dX3_fewestOtherwise_6 rfl ?_
    refine R_iconst (pc := 8) (v := 2) dX3_fewestOtherwise_8 (by decide) ?_
    refine R_icgt (pc := 9) 130 dX3_fewestOtherwise_9 (by decide) (fun h => absurd h (by decide)) (fun _ => ?_)
    refine R_bipush (pc := 12) (v := (-2)) dX3_fewestOtherwise_12 (by decide) ?_
    refine st_11_5_i_i (pc := 14) dX3_fewestOtherwise_14 ?_
    refine HI (-2) ?_ _ _ _ _ _ _
    intro fw o5 o6 o7 o8 o9 o10
    refine inc_11_4_1_i (pc := 124) dX3_fewestOtherwise_124 ?_
    refine R_goto (pc := 127) 6 dX3_fewestOtherwise_127 (by decide) ?_
    exact Om1 _ _ _ _ _ _ _
  refine R_iconst (pc := 0) (v := (-1)) dX3_fewestOtherwise_0 (by decide) ?_
  refine st_11_3_i_i (pc := 1) dX3_fewestOtherwise_1 ?_
  refine R_bipush (pc := 2) (v := (-2)) dX3_fewestOtherwise_2 (by decide) ?_
  refine st_11_4_i_i (pc := 4) dX3_fewestOtherwise_4 ?_
  exact Om2 _ _ _ _ _ _ _
theorem dX0_tell_0 : decode cX0_tell 0 = .ok (.aload_n 0, 1) := by decide +kernel
theorem dX0_tell_1 : decode cX0_tell 1 = .ok (.getfield 9, 3) := by decide +kernel
theorem dX0_tell_4 : decode cX0_tell 4 = .ok (.aload_n 0, 1) := by decide +kernel
theorem dX0_tell_5 : decode cX0_tell 5 = .ok (.getfield 47, 3) := by decide +kernel
theorem dX0_tell_8 : decode cX0_tell 8 = .ok (.iload_n 1, 1) := by decide +kernel
theorem dX0_tell_9 : decode cX0_tell 9 = .ok (.iastore, 1) := by decide +kernel
theorem dX0_tell_10 : decode cX0_tell 10 = .ok (.aload_n 0, 1) := by decide +kernel
theorem dX0_tell_11 : decode cX0_tell 11 = .ok (.getfield 15, 3) := by decide +kernel
theorem dX0_tell_14 : decode cX0_tell 14 = .ok (.aload_n 0, 1) := by decide +kernel
theorem dX0_tell_15 : decode cX0_tell 15 = .ok (.getfield 47, 3) := by decide +kernel
theorem dX0_tell_18 : decode cX0_tell 18 = .ok (.iload_n 2, 1) := by decide +kernel
theorem dX0_tell_19 : decode cX0_tell 19 = .ok (.iastore, 1) := by decide +kernel
theorem dX0_tell_20 : decode cX0_tell 20 = .ok (.aload_n 0, 1) := by decide +kernel
theorem dX0_tell_21 : decode cX0_tell 21 = .ok (.getfield 18, 3) := by decide +kernel
theorem dX0_tell_24 : decode cX0_tell 24 = .ok (.aload_n 0, 1) := by decide +kernel
theorem dX0_tell_25 : decode cX0_tell 25 = .ok (.getfield 47, 3) := by decide +kernel
theorem dX0_tell_28 : decode cX0_tell 28 = .ok (.iload_n 3, 1) := by decide +kernel
theorem dX0_tell_29 : decode cX0_tell 29 = .ok (.iastore, 1) := by decide +kernel
theorem dX0_tell_30 : decode cX0_tell 30 = .ok (.aload_n 0, 1) := by decide +kernel
theorem dX0_tell_31 : decode cX0_tell 31 = .ok (.getfield 21, 3) := by decide +kernel
theorem dX0_tell_34 : decode cX0_tell 34 = .ok (.aload_n 0, 1) := by decide +kernel
theorem dX0_tell_35 : decode cX0_tell 35 = .ok (.getfield 47, 3) := by decide +kernel
theorem dX0_tell_38 : decode cX0_tell 38 = .ok (.iload 4, 2) := by decide +kernel
theorem dX0_tell_40 : decode cX0_tell 40 = .ok (.iastore, 1) := by decide +kernel
theorem dX0_tell_41 : decode cX0_tell 41 = .ok (.aload_n 0, 1) := by decide +kernel
theorem dX0_tell_42 : decode cX0_tell 42 = .ok (.getfield 24, 3) := by decide +kernel
theorem dX0_tell_45 : decode cX0_tell 45 = .ok (.aload_n 0, 1) := by decide +kernel
theorem dX0_tell_46 : decode cX0_tell 46 = .ok (.getfield 47, 3) := by decide +kernel
theorem dX0_tell_49 : decode cX0_tell 49 = .ok (.lload 5, 2) := by decide +kernel
theorem dX0_tell_51 : decode cX0_tell 51 = .ok (.lastore, 1) := by decide +kernel
theorem dX0_tell_52 : decode cX0_tell 52 = .ok (.aload_n 0, 1) := by decide +kernel
theorem dX0_tell_53 : decode cX0_tell 53 = .ok (.getfield 28, 3) := by decide +kernel
theorem dX0_tell_56 : decode cX0_tell 56 = .ok (.aload_n 0, 1) := by decide +kernel
theorem dX0_tell_57 : decode cX0_tell 57 = .ok (.getfield 47, 3) := by decide +kernel
theorem dX0_tell_60 : decode cX0_tell 60 = .ok (.iload 7, 2) := by decide +kernel
theorem dX0_tell_62 : decode cX0_tell 62 = .ok (.iastore, 1) := by decide +kernel
theorem dX0_tell_63 : decode cX0_tell 63 = .ok (.aload_n 0, 1) := by decide +kernel
theorem dX0_tell_64 : decode cX0_tell 64 = .ok (.getfield 31, 3) := by decide +kernel
theorem dX0_tell_67 : decode cX0_tell 67 = .ok (.aload_n 0, 1) := by decide +kernel
theorem dX0_tell_68 : decode cX0_tell 68 = .ok (.getfield 47, 3) := by decide +kernel
theorem dX0_tell_71 : decode cX0_tell 71 = .ok (.iload 8, 2) := by decide +kernel
theorem dX0_tell_73 : decode cX0_tell 73 = .ok (.iastore, 1) := by decide +kernel
theorem dX0_tell_74 : decode cX0_tell 74 = .ok (.aload_n 0, 1) := by decide +kernel
theorem dX0_tell_75 : decode cX0_tell 75 = .ok (.getfield 34, 3) := by decide +kernel
theorem dX0_tell_78 : decode cX0_tell 78 = .ok (.aload_n 0, 1) := by decide +kernel
theorem dX0_tell_79 : decode cX0_tell 79 = .ok (.getfield 47, 3) := by decide +kernel
theorem dX0_tell_82 : decode cX0_tell 82 = .ok (.aload_n 0, 1) := by decide +kernel
theorem dX0_tell_83 : decode cX0_tell 83 = .ok (.getfield 50, 3) := by decide +kernel
theorem dX0_tell_86 : decode cX0_tell 86 = .ok (.iastore, 1) := by decide +kernel
theorem dX0_tell_87 : decode cX0_tell 87 = .ok (.aload_n 0, 1) := by decide +kernel
theorem dX0_tell_88 : decode cX0_tell 88 = .ok (.dup, 1) := by decide +kernel
theorem dX0_tell_89 : decode cX0_tell 89 = .ok (.getfield 47, 3) := by decide +kernel
theorem dX0_tell_92 : decode cX0_tell 92 = .ok (.iconst 1, 1) := by decide +kernel
theorem dX0_tell_93 : decode cX0_tell 93 = .ok (.iadd, 1) := by decide +kernel
theorem dX0_tell_94 : decode cX0_tell 94 = .ok (.putfield 47, 3) := by decide +kernel
theorem dX0_tell_97 : decode cX0_tell 97 = .ok (.return_, 1) := by decide +kernel
set_option maxRecDepth 100000 in
set_option maxHeartbeats 40000000 in
theorem fx_X0_tell {G : vG} {l : Launch} (l9 p n b : Int32) (t : Int64) (s u : Int32) : Sp G l yX0_tell cX0_tell 9 none 0 0 0 [.ref 1, .int l9, .int p, .int n, .int b, .long t, .int s, .int u] (WW σF) (QV (fun w2 => w2 = WW (σT l9 p n b t s u))) := by
  refine Sp_of_R [(some (.ref 1)), (some (.int l9)), (some (.int p)), (some (.int n)), (some (.int b)), (some (.long t)), none, (some (.int s)), (some (.int u))] [] rfl (by simp) rfl (Nat.le_of_ble_eq_true rfl) ?_
  refine R_aload_n (pc := 0) dX0_tell_0 rfl rfl ?_
  refine g_X0_9 (pc := 1) (v := .ref 2) rfl dX0_tell_1 (c_1 _) rfl ?_
  refine R_aload_n (pc := 4) dX0_tell_4 rfl rfl ?_
  refine g_X0_47 (pc := 5) (v := .int 0) rfl dX0_tell_5 (c_1 _) rfl ?_
  refine R_iload_n (pc := 8) dX0_tell_8 rfl rfl ?_
  refine W_iastore (pc := 9) dX0_tell_9 (c_2 _) (by unfold vp_in; decide) (a_2 _ _) ?_
  refine R_aload_n (pc := 10) dX0_tell_10 rfl rfl ?_
  refine g_X0_15 (pc := 11) (v := .ref 3) rfl dX0_tell_11 (c_1 _) rfl ?_
  refine R_aload_n (pc := 14) dX0_tell_14 rfl rfl ?_
  refine g_X0_47 (pc := 15) (v := .int 0) rfl dX0_tell_15 (c_1 _) rfl ?_
  refine R_iload_n (pc := 18) dX0_tell_18 rfl rfl ?_
  refine W_iastore (pc := 19) dX0_tell_19 (c_3 _) (by unfold vp_in; decide) (a_3 _ _) ?_
  refine R_aload_n (pc := 20) dX0_tell_20 rfl rfl ?_
  refine g_X0_18 (pc := 21) (v := .ref 4) rfl dX0_tell_21 (c_1 _) rfl ?_
  refine R_aload_n (pc := 24) dX0_tell_24 rfl rfl ?_
  refine g_X0_47 (pc := 25) (v := .int 0) rfl dX0_tell_25 (c_1 _) rfl ?_
  refine R_iload_n (pc := 28) dX0_tell_28 rfl rfl ?_
  refine W_iastore (pc := 29) dX0_tell_29 (c_4 _) (by unfold vp_in; decide) (a_4 _ _) ?_
  refine R_aload_n (pc := 30) dX0_tell_30 rfl rfl ?_
  refine g_X0_21 (pc := 31) (v := .ref 5) rfl dX0_tell_31 (c_1 _) rfl ?_
  refine R_aload_n (pc := 34) dX0_tell_34 rfl rfl ?_
  refine g_X0_47 (pc := 35) (v := .int 0) rfl dX0_tell_35 (c_1 _) rfl ?_
  refine R_iload (pc := 38) dX0_tell_38 rfl ?_
  refine W_iastore (pc := 40) dX0_tell_40 (c_5 _) (by unfold vp_in; decide) (a_5 _ _) ?_
  refine R_aload_n (pc := 41) dX0_tell_41 rfl rfl ?_
  refine g_X0_24 (pc := 42) (v := .ref 6) rfl dX0_tell_42 (c_1 _) rfl ?_
  refine R_aload_n (pc := 45) dX0_tell_45 rfl rfl ?_
  refine g_X0_47 (pc := 46) (v := .int 0) rfl dX0_tell_46 (c_1 _) rfl ?_
  refine R_lload (pc := 49) dX0_tell_49 rfl ?_
  refine W_lastore (pc := 51) dX0_tell_51 (c_6 _) (by unfold vp_in; decide) (a_6 _ _) ?_
  refine R_aload_n (pc := 52) dX0_tell_52 rfl rfl ?_
  refine g_X0_28 (pc := 53) (v := .ref 7) rfl dX0_tell_53 (c_1 _) rfl ?_
  refine R_aload_n (pc := 56) dX0_tell_56 rfl rfl ?_
  refine g_X0_47 (pc := 57) (v := .int 0) rfl dX0_tell_57 (c_1 _) rfl ?_
  refine R_iload (pc := 60) dX0_tell_60 rfl ?_
  refine W_iastore (pc := 62) dX0_tell_62 (c_7 _) (by unfold vp_in; decide) (a_7 _ _) ?_
  refine R_aload_n (pc := 63) dX0_tell_63 rfl rfl ?_
  refine g_X0_31 (pc := 64) (v := .ref 8) rfl dX0_tell_64 (c_1 _) rfl ?_
  refine R_aload_n (pc := 67) dX0_tell_67 rfl rfl ?_
  refine g_X0_47 (pc := 68) (v := .int 0) rfl dX0_tell_68 (c_1 _) rfl ?_
  refine R_iload (pc := 71) dX0_tell_71 rfl ?_
  refine W_iastore (pc := 73) dX0_tell_73 (c_8 _) (by unfold vp_in; decide) (a_8 _ _) ?_
  refine R_aload_n (pc := 74) dX0_tell_74 rfl rfl ?_
  refine g_X0_34 (pc := 75) (v := .ref 9) rfl dX0_tell_75 (c_1 _) rfl ?_
  refine R_aload_n (pc := 78) dX0_tell_78 rfl rfl ?_
  refine g_X0_47 (pc := 79) (v := .int 0) rfl dX0_tell_79 (c_1 _) rfl ?_
  refine R_aload_n (pc := 82) dX0_tell_82 rfl rfl ?_
  refine g_X0_50 (pc := 83) (v := .int 0) rfl dX0_tell_83 (c_1 _) rfl ?_
  refine W_iastore (pc := 86) dX0_tell_86 (c_9 _) (by unfold vp_in; decide) (a_9 _ _) ?_
  refine R_aload_n (pc := 87) dX0_tell_87 rfl rfl ?_
  refine R_dup (pc := 88) dX0_tell_88 rfl ?_
  refine g_X0_47 (pc := 89) (v := .int 0) rfl dX0_tell_89 (c_1 _) rfl ?_
  refine R_iconst (pc := 92) (v := 1) dX0_tell_92 (by decide) ?_
  refine R_iadd (pc := 93) dX0_tell_93 ?_
  refine R_cv 1 (by decide) ?_
  refine p_X0_47 (pc := 94) rfl dX0_tell_94 (c_1 _) (Nat.le_of_ble_eq_true rfl) rfl rfl (s_1_10 _ _) ?_
  exact R_vret (pc := 97) dX0_tell_97 rfl (Nat.zero_le _) (Nat.zero_le _) ⟨rfl, rfl⟩
theorem dX3_comparePicture_0 : decode cX3_comparePicture 0 = .ok (.iconst 0, 1) := by decide +kernel
theorem dX3_comparePicture_1 : decode cX3_comparePicture 1 = .ok (.istore_n 2, 1) := by decide +kernel
theorem dX3_comparePicture_2 : decode cX3_comparePicture 2 = .ok (.iload_n 2, 1) := by decide +kernel
theorem dX3_comparePicture_3 : decode cX3_comparePicture 3 = .ok (.aload_n 0, 1) := by decide +kernel
theorem dX3_comparePicture_4 : decode cX3_comparePicture 4 = .ok (.getfield 27, 3) := by decide +kernel
theorem dX3_comparePicture_7 : decode cX3_comparePicture 7 = .ok (.getfield 31, 3) := by decide +kernel
theorem dX3_comparePicture_10 : decode cX3_comparePicture 10 = .ok (.if_icmp .ge 34, 3) := by decide +kernel
theorem dX3_comparePicture_13 : decode cX3_comparePicture 13 = .ok (.aload_n 0, 1) := by decide +kernel
theorem dX3_comparePicture_14 : decode cX3_comparePicture 14 = .ok (.iload_n 1, 1) := by decide +kernel
theorem dX3_comparePicture_15 : decode cX3_comparePicture 15 = .ok (.iload_n 2, 1) := by decide +kernel
theorem dX3_comparePicture_16 : decode cX3_comparePicture 16 = .ok (.invokevirtual 36, 3) := by decide +kernel
theorem dX3_comparePicture_19 : decode cX3_comparePicture 19 = .ok (.istore_n 3, 1) := by decide +kernel
theorem dX3_comparePicture_20 : decode cX3_comparePicture 20 = .ok (.aload_n 0, 1) := by decide +kernel
theorem dX3_comparePicture_21 : decode cX3_comparePicture 21 = .ok (.getfield 11, 3) := by decide +kernel
theorem dX3_comparePicture_24 : decode cX3_comparePicture 24 = .ok (.iload_n 1, 1) := by decide +kernel
theorem dX3_comparePicture_25 : decode cX3_comparePicture 25 = .ok (.aaload, 1) := by decide +kernel
theorem dX3_comparePicture_26 : decode cX3_comparePicture 26 = .ok (.iload_n 2, 1) := by decide +kernel
theorem dX3_comparePicture_27 : decode cX3_comparePicture 27 = .ok (.iload_n 3, 1) := by decide +kernel
theorem dX3_comparePicture_28 : decode cX3_comparePicture 28 = .ok (.iastore, 1) := by decide +kernel
theorem dX3_comparePicture_29 : decode cX3_comparePicture 29 = .ok (.aload_n 0, 1) := by decide +kernel
theorem dX3_comparePicture_30 : decode cX3_comparePicture 30 = .ok (.getfield 11, 3) := by decide +kernel
theorem dX3_comparePicture_33 : decode cX3_comparePicture 33 = .ok (.iload_n 2, 1) := by decide +kernel
theorem dX3_comparePicture_34 : decode cX3_comparePicture 34 = .ok (.aaload, 1) := by decide +kernel
theorem dX3_comparePicture_35 : decode cX3_comparePicture 35 = .ok (.iload_n 1, 1) := by decide +kernel
theorem dX3_comparePicture_36 : decode cX3_comparePicture 36 = .ok (.iload_n 3, 1) := by decide +kernel
theorem dX3_comparePicture_37 : decode cX3_comparePicture 37 = .ok (.iastore, 1) := by decide +kernel
theorem dX3_comparePicture_38 : decode cX3_comparePicture 38 = .ok (.iinc 2 1, 3) := by decide +kernel
theorem dX3_comparePicture_41 : decode cX3_comparePicture 41 = .ok (.goto (-39), 3) := by decide +kernel
theorem dX3_comparePicture_44 : decode cX3_comparePicture 44 = .ok (.return_, 1) := by decide +kernel
set_option maxRecDepth 100000 in
set_option maxHeartbeats 40000000 in
theorem fx_X3_comparePicture {G : vG} {l : Launch} (l9 p n b : Int32) (t : Int64) (s u : Int32) : Sp G l yX3_comparePicture cX3_comparePicture 4 none 3 0 0 [.ref 12, .int 0] (WW (σT l9 p n b t s u)) (QV (fun w2 => ∃ f, w2 = WW (uA (σT l9 p n b t s u) 14 f))) := by
  refine Sp_of_R [(some (.ref 12)), (some (.int 0)), none, none] [none, none] rfl (by simp) rfl (Nat.le_of_ble_eq_true rfl) ?_
  refine R_iconst (pc := 0) (v := 0) dX3_comparePicture_0 (by decide) ?_
  refine st_4_2_i_i (pc := 1) dX3_comparePicture_1 ?_
  refine R_iload_n (pc := 2) dX3_comparePicture_2 rfl rfl ?_
  refine R_aload_n (pc := 3) dX3_comparePicture_3 rfl rfl ?_
  refine g_X3_27 (pc := 4) (v := .ref 1) rfl dX3_comparePicture_4 (c_12 _) rfl ?_
  refine g_X3_31 (pc := 7) (v := .int 1) rfl dX3_comparePicture_7 (c_1 _) rfl ?_
  refine R_icge (pc := 10) 44 dX3_comparePicture_10 (by decide) (fun h => absurd h (by decide)) (fun _ => ?_)
  refine R_aload_n (pc := 13) dX3_comparePicture_13 rfl rfl ?_
  refine R_iload_n (pc := 14) dX3_comparePicture_14 rfl rfl ?_
  refine R_iload_n (pc := 15) dX3_comparePicture_15 rfl rfl ?_
  refine k_X3_36 (pc := 16) (fx_X3_fewestOtherwise _) rfl (c_12 _) (by decide) (Nat.le_refl _) (Nat.le_refl _) (Nat.le_of_ble_eq_true rfl) dX3_comparePicture_16 (fun fo2 w2 h => ?_)
  subst h
  refine st_4_3_i_i (pc := 19) dX3_comparePicture_19 ?_
  refine R_aload_n (pc := 20) dX3_comparePicture_20 rfl rfl ?_
  refine g_X3_11 (pc := 21) (v := .ref 13) rfl dX3_comparePicture_21 (c_12 _) rfl ?_
  refine R_iload_n (pc := 24) dX3_comparePicture_24 rfl rfl ?_
  refine R_aaload (pc := 25) (b := 14) dX3_comparePicture_25 (c_13 _) (by unfold vp_in; decide) rfl ?_
  refine R_iload_n (pc := 26) dX3_comparePicture_26 rfl rfl ?_
  refine R_iload_n (pc := 27) dX3_comparePicture_27 rfl rfl ?_
  refine W_iastore (pc := 28) dX3_comparePicture_28 (c_14 _) (by unfold vp_in; decide) (a_14 _ _) ?_
  refine R_aload_n (pc := 29) dX3_comparePicture_29 rfl rfl ?_
  refine g_X3_11 (pc := 30) (v := .ref 13) rfl dX3_comparePicture_30 (c_12 _) rfl ?_
  refine R_iload_n (pc := 33) dX3_comparePicture_33 rfl rfl ?_
  refine R_aaload (pc := 34) (b := 14) dX3_comparePicture_34 (c_13 _) (by unfold vp_in; decide) rfl ?_
  refine R_iload_n (pc := 35) dX3_comparePicture_35 rfl rfl ?_
  refine R_iload_n (pc := 36) dX3_comparePicture_36 rfl rfl ?_
  refine W_iastore (pc := 37) dX3_comparePicture_37 (c_14 _) (by unfold vp_in; decide) (a_14 _ _) ?_
  refine inc_4_2_1_i (pc := 38) dX3_comparePicture_38 ?_
  refine R_goto (pc := 41) 2 dX3_comparePicture_41 (by decide) ?_
  refine R_iload_n (pc := 2) dX3_comparePicture_2 rfl rfl ?_
  refine R_aload_n (pc := 3) dX3_comparePicture_3 rfl rfl ?_
  refine g_X3_27 (pc := 4) (v := .ref 1) rfl dX3_comparePicture_4 (c_12 _) rfl ?_
  refine g_X3_31 (pc := 7) (v := .int 1) rfl dX3_comparePicture_7 (c_1 _) rfl ?_
  refine R_icge (pc := 10) 44 dX3_comparePicture_10 (by decide) (fun _ => ?_) (fun h => absurd (by decide) h)
  exact R_vret (pc := 44) dX3_comparePicture_44 rfl (Nat.zero_le _) (Nat.zero_le _) ⟨rfl, _, rfl⟩
theorem dX3_fewestChanges_0 : decode cX3_fewestChanges 0 = .ok (.aload_n 0, 1) := by decide +kernel
theorem dX3_fewestChanges_1 : decode cX3_fewestChanges 1 = .ok (.getfield 27, 3) := by decide +kernel
theorem dX3_fewestChanges_4 : decode cX3_fewestChanges 4 = .ok (.getfield 72, 3) := by decide +kernel
theorem dX3_fewestChanges_7 : decode cX3_fewestChanges 7 = .ok (.iload_n 1, 1) := by decide +kernel
theorem dX3_fewestChanges_8 : decode cX3_fewestChanges 8 = .ok (.iaload, 1) := by decide +kernel
theorem dX3_fewestChanges_9 : decode cX3_fewestChanges 9 = .ok (.istore_n 3, 1) := by decide +kernel
theorem dX3_fewestChanges_10 : decode cX3_fewestChanges 10 = .ok (.aload_n 0, 1) := by decide +kernel
theorem dX3_fewestChanges_11 : decode cX3_fewestChanges 11 = .ok (.getfield 27, 3) := by decide +kernel
theorem dX3_fewestChanges_14 : decode cX3_fewestChanges 14 = .ok (.getfield 72, 3) := by decide +kernel
theorem dX3_fewestChanges_17 : decode cX3_fewestChanges 17 = .ok (.iload_n 2, 1) := by decide +kernel
theorem dX3_fewestChanges_18 : decode cX3_fewestChanges 18 = .ok (.iaload, 1) := by decide +kernel
theorem dX3_fewestChanges_19 : decode cX3_fewestChanges 19 = .ok (.istore 4, 2) := by decide +kernel
theorem dX3_fewestChanges_21 : decode cX3_fewestChanges 21 = .ok (.iconst 0, 1) := by decide +kernel
theorem dX3_fewestChanges_22 : decode cX3_fewestChanges 22 = .ok (.istore 5, 2) := by decide +kernel
theorem dX3_fewestChanges_24 : decode cX3_fewestChanges 24 = .ok (.iload 5, 2) := by decide +kernel
theorem dX3_fewestChanges_26 : decode cX3_fewestChanges 26 = .ok (.iload 4, 2) := by decide +kernel
theorem dX3_fewestChanges_28 : decode cX3_fewestChanges 28 = .ok (.if_icmp .gt 18, 3) := by decide +kernel
theorem dX3_fewestChanges_31 : decode cX3_fewestChanges 31 = .ok (.aload_n 0, 1) := by decide +kernel
theorem dX3_fewestChanges_32 : decode cX3_fewestChanges 32 = .ok (.getfield 19, 3) := by decide +kernel
theorem dX3_fewestChanges_35 : decode cX3_fewestChanges 35 = .ok (.iload 5, 2) := by decide +kernel
theorem dX3_fewestChanges_37 : decode cX3_fewestChanges 37 = .ok (.iload 5, 2) := by decide +kernel
theorem dX3_fewestChanges_39 : decode cX3_fewestChanges 39 = .ok (.iastore, 1) := by decide +kernel
theorem dX3_fewestChanges_40 : decode cX3_fewestChanges 40 = .ok (.iinc 5 1, 3) := by decide +kernel
theorem dX3_fewestChanges_43 : decode cX3_fewestChanges 43 = .ok (.goto (-19), 3) := by decide +kernel
theorem dX3_fewestChanges_46 : decode cX3_fewestChanges 46 = .ok (.iconst 1, 1) := by decide +kernel
theorem dX3_fewestChanges_47 : decode cX3_fewestChanges 47 = .ok (.istore 5, 2) := by decide +kernel
theorem dX3_fewestChanges_49 : decode cX3_fewestChanges 49 = .ok (.iload 5, 2) := by decide +kernel
theorem dX3_fewestChanges_51 : decode cX3_fewestChanges 51 = .ok (.iload_n 3, 1) := by decide +kernel
theorem dX3_fewestChanges_52 : decode cX3_fewestChanges 52 = .ok (.if_icmp .gt 141, 3) := by decide +kernel
theorem dX3_fewestChanges_55 : decode cX3_fewestChanges 55 = .ok (.aload_n 0, 1) := by decide +kernel
theorem dX3_fewestChanges_56 : decode cX3_fewestChanges 56 = .ok (.getfield 19, 3) := by decide +kernel
theorem dX3_fewestChanges_59 : decode cX3_fewestChanges 59 = .ok (.iconst 0, 1) := by decide +kernel
theorem dX3_fewestChanges_60 : decode cX3_fewestChanges 60 = .ok (.iaload, 1) := by decide +kernel
theorem dX3_fewestChanges_61 : decode cX3_fewestChanges 61 = .ok (.istore 6, 2) := by decide +kernel
theorem dX3_fewestChanges_63 : decode cX3_fewestChanges 63 = .ok (.aload_n 0, 1) := by decide +kernel
theorem dX3_fewestChanges_64 : decode cX3_fewestChanges 64 = .ok (.getfield 19, 3) := by decide +kernel
theorem dX3_fewestChanges_67 : decode cX3_fewestChanges 67 = .ok (.iconst 0, 1) := by decide +kernel
theorem dX3_fewestChanges_68 : decode cX3_fewestChanges 68 = .ok (.iload 5, 2) := by decide +kernel
theorem dX3_fewestChanges_70 : decode cX3_fewestChanges 70 = .ok (.iastore, 1) := by decide +kernel
theorem dX3_fewestChanges_71 : decode cX3_fewestChanges 71 = .ok (.iconst 1, 1) := by decide +kernel
theorem dX3_fewestChanges_72 : decode cX3_fewestChanges 72 = .ok (.istore 7, 2) := by decide +kernel
theorem dX3_fewestChanges_74 : decode cX3_fewestChanges 74 = .ok (.iload 7, 2) := by decide +kernel
theorem dX3_fewestChanges_76 : decode cX3_fewestChanges 76 = .ok (.iload 4, 2) := by decide +kernel
theorem dX3_fewestChanges_78 : decode cX3_fewestChanges 78 = .ok (.if_icmp .gt 109, 3) := by decide +kernel
theorem dX3_fewestChanges_81 : decode cX3_fewestChanges 81 = .ok (.aload_n 0, 1) := by decide +kernel
theorem dX3_fewestChanges_82 : decode cX3_fewestChanges 82 = .ok (.getfield 27, 3) := by decide +kernel
theorem dX3_fewestChanges_85 : decode cX3_fewestChanges 85 = .ok (.getfield 75, 3) := by decide +kernel
theorem dX3_fewestChanges_88 : decode cX3_fewestChanges 88 = .ok (.iload_n 1, 1) := by decide +kernel
theorem dX3_fewestChanges_89 : decode cX3_fewestChanges 89 = .ok (.laload, 1) := by decide +kernel
theorem dX3_fewestChanges_90 : decode cX3_fewestChanges 90 = .ok (.iload 5, 2) := by decide +kernel
theorem dX3_fewestChanges_92 : decode cX3_fewestChanges 92 = .ok (.iconst 1, 1) := by decide +kernel
theorem dX3_fewestChanges_93 : decode cX3_fewestChanges 93 = .ok (.isub, 1) := by decide +kernel
theorem dX3_fewestChanges_94 : decode cX3_fewestChanges 94 = .ok (.invokestatic 78, 3) := by decide +kernel
theorem dX3_fewestChanges_97 : decode cX3_fewestChanges 97 = .ok (.aload_n 0, 1) := by decide +kernel
theorem dX3_fewestChanges_98 : decode cX3_fewestChanges 98 = .ok (.getfield 27, 3) := by decide +kernel
theorem dX3_fewestChanges_101 : decode cX3_fewestChanges 101 = .ok (.getfield 75, 3) := by decide +kernel
theorem dX3_fewestChanges_104 : decode cX3_fewestChanges 104 = .ok (.iload_n 2, 1) := by decide +kernel
theorem dX3_fewestChanges_105 : decode cX3_fewestChanges 105 = .ok (.laload, 1) := by decide +kernel
theorem dX3_fewestChanges_106 : decode cX3_fewestChanges 106 = .ok (.iload 7, 2) := by decide +kernel
theorem dX3_fewestChanges_108 : decode cX3_fewestChanges 108 = .ok (.iconst 1, 1) := by decide +kernel
theorem dX3_fewestChanges_109 : decode cX3_fewestChanges 109 = .ok (.isub, 1) := by decide +kernel
theorem dX3_fewestChanges_110 : decode cX3_fewestChanges 110 = .ok (.invokestatic 78, 3) := by decide +kernel
theorem dX3_fewestChanges_113 : decode cX3_fewestChanges 113 = .ok (.if_icmp .ne 7, 3) := by decide +kernel
theorem dX3_fewestChanges_116 : decode cX3_fewestChanges 116 = .ok (.iconst 1, 1) := by decide +kernel
theorem dX3_fewestChanges_117 : decode cX3_fewestChanges 117 = .ok (.goto 4, 3) := by decide +kernel
theorem dX3_fewestChanges_120 : decode cX3_fewestChanges 120 = .ok (.iconst 0, 1) := by decide +kernel
theorem dX3_fewestChanges_121 : decode cX3_fewestChanges 121 = .ok (.istore 8, 2) := by decide +kernel
theorem dX3_fewestChanges_123 : decode cX3_fewestChanges 123 = .ok (.iload 8, 2) := by decide +kernel
theorem dX3_fewestChanges_125 : decode cX3_fewestChanges 125 = .ok (.ifCond .eq 8, 3) := by decide +kernel
theorem dX3_fewestChanges_128 : decode cX3_fewestChanges 128 = .ok (.iload 6, 2) := by decide +kernel
theorem dX3_fewestChanges_130 : decode cX3_fewestChanges 130 = .ok (.goto 7, 3) := by decide +kernel
theorem dX3_fewestChanges_133 : decode cX3_fewestChanges 133 = .ok (.iload 6, 2) := by decide +kernel
theorem dX3_fewestChanges_135 : decode cX3_fewestChanges 135 = .ok (.iconst 1, 1) := by decide +kernel
theorem dX3_fewestChanges_136 : decode cX3_fewestChanges 136 = .ok (.iadd, 1) := by decide +kernel
theorem dX3_fewestChanges_137 : decode cX3_fewestChanges 137 = .ok (.istore 9, 2) := by decide +kernel
theorem dX3_fewestChanges_139 : decode cX3_fewestChanges 139 = .ok (.aload_n 0, 1) := by decide +kernel
theorem dX3_fewestChanges_140 : decode cX3_fewestChanges 140 = .ok (.getfield 19, 3) := by decide +kernel
theorem dX3_fewestChanges_143 : decode cX3_fewestChanges 143 = .ok (.iload 7, 2) := by decide +kernel
theorem dX3_fewestChanges_145 : decode cX3_fewestChanges 145 = .ok (.iaload, 1) := by decide +kernel
theorem dX3_fewestChanges_146 : decode cX3_fewestChanges 146 = .ok (.istore 6, 2) := by decide +kernel
theorem dX3_fewestChanges_148 : decode cX3_fewestChanges 148 = .ok (.aload_n 0, 1) := by decide +kernel
theorem dX3_fewestChanges_149 : decode cX3_fewestChanges 149 = .ok (.getfield 19, 3) := by decide +kernel
theorem dX3_fewestChanges_152 : decode cX3_fewestChanges 152 = .ok (.iload 7, 2) := by decide +kernel
theorem dX3_fewestChanges_154 : decode cX3_fewestChanges 154 = .ok (.iload 9, 2) := by decide +kernel
theorem dX3_fewestChanges_156 : decode cX3_fewestChanges 156 = .ok (.aload_n 0, 1) := by decide +kernel
theorem dX3_fewestChanges_157 : decode cX3_fewestChanges 157 = .ok (.getfield 19, 3) := by decide +kernel
theorem dX3_fewestChanges_160 : decode cX3_fewestChanges 160 = .ok (.iload 7, 2) := by decide +kernel
theorem dX3_fewestChanges_162 : decode cX3_fewestChanges 162 = .ok (.iaload, 1) := by decide +kernel
theorem dX3_fewestChanges_163 : decode cX3_fewestChanges 163 = .ok (.aload_n 0, 1) := by decide +kernel
theorem dX3_fewestChanges_164 : decode cX3_fewestChanges 164 = .ok (.getfield 19, 3) := by decide +kernel
theorem dX3_fewestChanges_167 : decode cX3_fewestChanges 167 = .ok (.iload 7, 2) := by decide +kernel
theorem dX3_fewestChanges_169 : decode cX3_fewestChanges 169 = .ok (.iconst 1, 1) := by decide +kernel
theorem dX3_fewestChanges_170 : decode cX3_fewestChanges 170 = .ok (.isub, 1) := by decide +kernel
theorem dX3_fewestChanges_171 : decode cX3_fewestChanges 171 = .ok (.iaload, 1) := by decide +kernel
theorem dX3_fewestChanges_172 : decode cX3_fewestChanges 172 = .ok (.invokestatic 61, 3) := by decide +kernel
theorem dX3_fewestChanges_175 : decode cX3_fewestChanges 175 = .ok (.iconst 1, 1) := by decide +kernel
theorem dX3_fewestChanges_176 : decode cX3_fewestChanges 176 = .ok (.iadd, 1) := by decide +kernel
theorem dX3_fewestChanges_177 : decode cX3_fewestChanges 177 = .ok (.invokestatic 61, 3) := by decide +kernel
theorem dX3_fewestChanges_180 : decode cX3_fewestChanges 180 = .ok (.iastore, 1) := by decide +kernel
theorem dX3_fewestChanges_181 : decode cX3_fewestChanges 181 = .ok (.iinc 7 1, 3) := by decide +kernel
theorem dX3_fewestChanges_184 : decode cX3_fewestChanges 184 = .ok (.goto (-110), 3) := by decide +kernel
theorem dX3_fewestChanges_187 : decode cX3_fewestChanges 187 = .ok (.iinc 5 1, 3) := by decide +kernel
theorem dX3_fewestChanges_190 : decode cX3_fewestChanges 190 = .ok (.goto (-141), 3) := by decide +kernel
theorem dX3_fewestChanges_193 : decode cX3_fewestChanges 193 = .ok (.aload_n 0, 1) := by decide +kernel
theorem dX3_fewestChanges_194 : decode cX3_fewestChanges 194 = .ok (.getfield 19, 3) := by decide +kernel
theorem dX3_fewestChanges_197 : decode cX3_fewestChanges 197 = .ok (.iload 4, 2) := by decide +kernel
theorem dX3_fewestChanges_199 : decode cX3_fewestChanges 199 = .ok (.iaload, 1) := by decide +kernel
theorem dX3_fewestChanges_200 : decode cX3_fewestChanges 200 = .ok (.ireturn, 1) := by decide +kernel
set_option maxRecDepth 100000 in
set_option maxHeartbeats 40000000 in
theorem fx_X3_fewestChanges {G : vG} {l : Launch} (l9 p n b : Int32) (t : Int64) (s u : Int32) (f : Nat → Int32) : Sp G l yX3_fewestChanges cX3_fewestChanges 10 (some .int) 1 0 0 [.ref 12, .int 0, .int 0] (WW (uA (σT l9 p n b t s u) 14 f)) (QI (fun x w2 => ∃ g, w2 = WW (uA (uA (σT l9 p n b t s u) 14 f) 55 g))) := by
  refine Sp_of_R [(some (.ref 12)), (some (.int 0)), (some (.int 0)), none, none, none, none, none, none, none] [none, none, none, none, none, none, none] rfl (by simp) rfl (Nat.le_of_ble_eq_true rfl) ?_
  refine R_aload_n (pc := 0) dX3_fewestChanges_0 rfl rfl ?_
  refine g_X3_27 (pc := 1) (v := .ref 1) rfl dX3_fewestChanges_1 (c_12 _) rfl ?_
  refine g_X3_72 (pc := 4) (v := .ref 11) rfl dX3_fewestChanges_4 (c_1 _) rfl ?_
  refine R_iload_n (pc := 7) dX3_fewestChanges_7 rfl rfl ?_
  refine W_iaload (pc := 8) 0 dX3_fewestChanges_8 (c_11 _) (by unfold vp_in; decide) rfl ?_
  refine st_10_3_i_i (pc := 9) dX3_fewestChanges_9 ?_
  refine R_aload_n (pc := 10) dX3_fewestChanges_10 rfl rfl ?_
  refine g_X3_27 (pc := 11) (v := .ref 1) rfl dX3_fewestChanges_11 (c_12 _) rfl ?_
  refine g_X3_72 (pc := 14) (v := .ref 11) rfl dX3_fewestChanges_14 (c_1 _) rfl ?_
  refine R_iload_n (pc := 17) dX3_fewestChanges_17 rfl rfl ?_
  refine W_iaload (pc := 18) 0 dX3_fewestChanges_18 (c_11 _) (by unfold vp_in; decide) rfl ?_
  refine st_10_4_i_i (pc := 19) dX3_fewestChanges_19 ?_
  refine R_iconst (pc := 21) (v := 0) dX3_fewestChanges_21 (by decide) ?_
  refine st_10_5_i_i (pc := 22) dX3_fewestChanges_22 ?_
  refine R_iload (pc := 24) dX3_fewestChanges_24 rfl ?_
  refine R_iload (pc := 26) dX3_fewestChanges_26 rfl ?_
  refine R_icgt (pc := 28) 46 dX3_fewestChanges_28 (by decide) (fun h => absurd h (by decide)) (fun _ => ?_)
  refine R_aload_n (pc := 31) dX3_fewestChanges_31 rfl rfl ?_
  refine g_X3_19 (pc := 32) (v := .ref 55) rfl dX3_fewestChanges_32 (c_12 _) rfl ?_
  refine R_iload (pc := 35) dX3_fewestChanges_35 rfl ?_
  refine R_iload (pc := 37) dX3_fewestChanges_37 rfl ?_
  refine W_iastore (pc := 39) dX3_fewestChanges_39 (c_55 _) (by unfold vp_in; decide) (a_55 _ _) ?_
  refine inc_10_5_1_i (pc := 40) dX3_fewestChanges_40 ?_
  refine R_goto (pc := 43) 24 dX3_fewestChanges_43 (by decide) ?_
  refine R_iload (pc := 24) dX3_fewestChanges_24 rfl ?_
  refine R_iload (pc := 26) dX3_fewestChanges_26 rfl ?_
  refine R_icgt (pc := 28) 46 dX3_fewestChanges_28 (by decide) (fun _ => ?_) (fun h => absurd (by decide) h)
  refine R_iconst (pc := 46) (v := 1) dX3_fewestChanges_46 (by decide) ?_
  refine st_10_5_i_i (pc := 47) dX3_fewestChanges_47 ?_
  refine R_iload (pc := 49) dX3_fewestChanges_49 rfl ?_
  refine R_iload_n (pc := 51) dX3_fewestChanges_51 rfl rfl ?_
  refine R_icgt (pc := 52) 193 dX3_fewestChanges_52 (by decide) (fun _ => ?_) (fun h => absurd (by decide) h)
  refine R_aload_n (pc := 193) dX3_fewestChanges_193 rfl rfl ?_
  refine g_X3_19 (pc := 194) (v := .ref 55) rfl dX3_fewestChanges_194 (c_12 _) rfl ?_
  refine R_iload (pc := 197) dX3_fewestChanges_197 rfl ?_
  refine W_iaload (pc := 199) 0 dX3_fewestChanges_199 (c_55 _) (by unfold vp_in; decide) rfl ?_
  exact R_iret (pc := 200) dX3_fewestChanges_200 rfl rfl (Nat.zero_le _) (Nat.zero_le _) ⟨_, rfl, _, rfl⟩
theorem dX3_compareWord_0 : decode cX3_compareWord 0 = .ok (.iconst 0, 1) := by decide +kernel
theorem dX3_compareWord_1 : decode cX3_compareWord 1 = .ok (.istore_n 2, 1) := by decide +kernel
theorem dX3_compareWord_2 : decode cX3_compareWord 2 = .ok (.iload_n 2, 1) := by decide +kernel
theorem dX3_compareWord_3 : decode cX3_compareWord 3 = .ok (.aload_n 0, 1) := by decide +kernel
theorem dX3_compareWord_4 : decode cX3_compareWord 4 = .ok (.getfield 27, 3) := by decide +kernel
theorem dX3_compareWord_7 : decode cX3_compareWord 7 = .ok (.getfield 31, 3) := by decide +kernel
theorem dX3_compareWord_10 : decode cX3_compareWord 10 = .ok (.if_icmp .ge 34, 3) := by decide +kernel
theorem dX3_compareWord_13 : decode cX3_compareWord 13 = .ok (.aload_n 0, 1) := by decide +kernel
theorem dX3_compareWord_14 : decode cX3_compareWord 14 = .ok (.iload_n 1, 1) := by decide +kernel
theorem dX3_compareWord_15 : decode cX3_compareWord 15 = .ok (.iload_n 2, 1) := by decide +kernel
theorem dX3_compareWord_16 : decode cX3_compareWord 16 = .ok (.invokevirtual 69, 3) := by decide +kernel
theorem dX3_compareWord_19 : decode cX3_compareWord 19 = .ok (.istore_n 3, 1) := by decide +kernel
theorem dX3_compareWord_20 : decode cX3_compareWord 20 = .ok (.aload_n 0, 1) := by decide +kernel
theorem dX3_compareWord_21 : decode cX3_compareWord 21 = .ok (.getfield 16, 3) := by decide +kernel
theorem dX3_compareWord_24 : decode cX3_compareWord 24 = .ok (.iload_n 1, 1) := by decide +kernel
theorem dX3_compareWord_25 : decode cX3_compareWord 25 = .ok (.aaload, 1) := by decide +kernel
theorem dX3_compareWord_26 : decode cX3_compareWord 26 = .ok (.iload_n 2, 1) := by decide +kernel
theorem dX3_compareWord_27 : decode cX3_compareWord 27 = .ok (.iload_n 3, 1) := by decide +kernel
theorem dX3_compareWord_28 : decode cX3_compareWord 28 = .ok (.iastore, 1) := by decide +kernel
theorem dX3_compareWord_29 : decode cX3_compareWord 29 = .ok (.aload_n 0, 1) := by decide +kernel
theorem dX3_compareWord_30 : decode cX3_compareWord 30 = .ok (.getfield 16, 3) := by decide +kernel
theorem dX3_compareWord_33 : decode cX3_compareWord 33 = .ok (.iload_n 2, 1) := by decide +kernel
theorem dX3_compareWord_34 : decode cX3_compareWord 34 = .ok (.aaload, 1) := by decide +kernel
theorem dX3_compareWord_35 : decode cX3_compareWord 35 = .ok (.iload_n 1, 1) := by decide +kernel
theorem dX3_compareWord_36 : decode cX3_compareWord 36 = .ok (.iload_n 3, 1) := by decide +kernel
theorem dX3_compareWord_37 : decode cX3_compareWord 37 = .ok (.iastore, 1) := by decide +kernel
theorem dX3_compareWord_38 : decode cX3_compareWord 38 = .ok (.iinc 2 1, 3) := by decide +kernel
theorem dX3_compareWord_41 : decode cX3_compareWord 41 = .ok (.goto (-39), 3) := by decide +kernel
theorem dX3_compareWord_44 : decode cX3_compareWord 44 = .ok (.return_, 1) := by decide +kernel
set_option maxRecDepth 100000 in
set_option maxHeartbeats 40000000 in
theorem fx_X3_compareWord {G : vG} {l : Launch} (l9 p n b : Int32) (t : Int64) (s u : Int32) (f : Nat → Int32) : Sp G l yX3_compareWord cX3_compareWord 4 none 2 0 0 [.ref 12, .int 0] (WW (uA (σT l9 p n b t s u) 14 f)) (QV (fun w2 => ∃ g h, w2 = WW (uA (uA (uA (σT l9 p n b t s u) 14 f) 55 g) 35 h))) := by
  refine Sp_of_R [(some (.ref 12)), (some (.int 0)), none, none] [none, none] rfl (by simp) rfl (Nat.le_of_ble_eq_true rfl) ?_
  refine R_iconst (pc := 0) (v := 0) dX3_compareWord_0 (by decide) ?_
  refine st_4_2_i_i (pc := 1) dX3_compareWord_1 ?_
  refine R_iload_n (pc := 2) dX3_compareWord_2 rfl rfl ?_
  refine R_aload_n (pc := 3) dX3_compareWord_3 rfl rfl ?_
  refine g_X3_27 (pc := 4) (v := .ref 1) rfl dX3_compareWord_4 (c_12 _) rfl ?_
  refine g_X3_31 (pc := 7) (v := .int 1) rfl dX3_compareWord_7 (c_1 _) rfl ?_
  refine R_icge (pc := 10) 44 dX3_compareWord_10 (by decide) (fun h => absurd h (by decide)) (fun _ => ?_)
  refine R_aload_n (pc := 13) dX3_compareWord_13 rfl rfl ?_
  refine R_iload_n (pc := 14) dX3_compareWord_14 rfl rfl ?_
  refine R_iload_n (pc := 15) dX3_compareWord_15 rfl rfl ?_
  refine k_X3_69 (pc := 16) (fx_X3_fewestChanges _ _ _ _ _ _ _ _) rfl (c_12 _) (by decide) (Nat.le_refl _) (Nat.le_refl _) (Nat.le_of_ble_eq_true rfl) dX3_compareWord_16 (fun fc2 w2 h => ?_)
  obtain ⟨g, rfl⟩ := h
  refine st_4_3_i_i (pc := 19) dX3_compareWord_19 ?_
  refine R_aload_n (pc := 20) dX3_compareWord_20 rfl rfl ?_
  refine g_X3_16 (pc := 21) (v := .ref 34) rfl dX3_compareWord_21 (c_12 _) rfl ?_
  refine R_iload_n (pc := 24) dX3_compareWord_24 rfl rfl ?_
  refine R_aaload (pc := 25) (b := 35) dX3_compareWord_25 (c_34 _) (by unfold vp_in; decide) rfl ?_
  refine R_iload_n (pc := 26) dX3_compareWord_26 rfl rfl ?_
  refine R_iload_n (pc := 27) dX3_compareWord_27 rfl rfl ?_
  refine W_iastore (pc := 28) dX3_compareWord_28 (c_35 _) (by unfold vp_in; decide) (a_35 _ _) ?_
  refine R_aload_n (pc := 29) dX3_compareWord_29 rfl rfl ?_
  refine g_X3_16 (pc := 30) (v := .ref 34) rfl dX3_compareWord_30 (c_12 _) rfl ?_
  refine R_iload_n (pc := 33) dX3_compareWord_33 rfl rfl ?_
  refine R_aaload (pc := 34) (b := 35) dX3_compareWord_34 (c_34 _) (by unfold vp_in; decide) rfl ?_
  refine R_iload_n (pc := 35) dX3_compareWord_35 rfl rfl ?_
  refine R_iload_n (pc := 36) dX3_compareWord_36 rfl rfl ?_
  refine W_iastore (pc := 37) dX3_compareWord_37 (c_35 _) (by unfold vp_in; decide) (a_35 _ _) ?_
  refine inc_4_2_1_i (pc := 38) dX3_compareWord_38 ?_
  refine R_goto (pc := 41) 2 dX3_compareWord_41 (by decide) ?_
  refine R_iload_n (pc := 2) dX3_compareWord_2 rfl rfl ?_
  refine R_aload_n (pc := 3) dX3_compareWord_3 rfl rfl ?_
  refine g_X3_27 (pc := 4) (v := .ref 1) rfl dX3_compareWord_4 (c_12 _) rfl ?_
  refine g_X3_31 (pc := 7) (v := .int 1) rfl dX3_compareWord_7 (c_1 _) rfl ?_
  refine R_icge (pc := 10) 44 dX3_compareWord_10 (by decide) (fun _ => ?_) (fun h => absurd (by decide) h)
  exact R_vret (pc := 44) dX3_compareWord_44 rfl (Nat.zero_le _) (Nat.zero_le _) ⟨rfl, _, _, rfl⟩
theorem dX8_card_0 : decode cX8_card 0 = .ok (.iload_n 1, 1) := by decide +kernel
theorem dX8_card_1 : decode cX8_card 1 = .ok (.iconst 0, 1) := by decide +kernel
theorem dX8_card_2 : decode cX8_card 2 = .ok (.iconst 3, 1) := by decide +kernel
theorem dX8_card_3 : decode cX8_card 3 = .ok (.invokestatic 72, 3) := by decide +kernel
theorem dX8_card_6 : decode cX8_card 6 = .ok (.ifCond .eq 22, 3) := by decide +kernel
theorem dX8_card_9 : decode cX8_card 9 = .ok (.iload_n 2, 1) := by decide +kernel
theorem dX8_card_10 : decode cX8_card 10 = .ok (.iconst 0, 1) := by decide +kernel
theorem dX8_card_11 : decode cX8_card 11 = .ok (.iconst 4, 1) := by decide +kernel
theorem dX8_card_12 : decode cX8_card 12 = .ok (.invokestatic 72, 3) := by decide +kernel
theorem dX8_card_15 : decode cX8_card 15 = .ok (.ifCond .eq 13, 3) := by decide +kernel
theorem dX8_card_18 : decode cX8_card 18 = .ok (.iload 4, 2) := by decide +kernel
theorem dX8_card_20 : decode cX8_card 20 = .ok (.iconst 0, 1) := by decide +kernel
theorem dX8_card_21 : decode cX8_card 21 = .ok (.iconst 4, 1) := by decide +kernel
theorem dX8_card_22 : decode cX8_card 22 = .ok (.invokestatic 72, 3) := by decide +kernel
theorem dX8_card_25 : decode cX8_card 25 = .ok (.ifCond .ne 6, 3) := by decide +kernel
theorem dX8_card_28 : decode cX8_card 28 = .ok (.bipush (-2), 2) := by decide +kernel
theorem dX8_card_30 : decode cX8_card 30 = .ok (.ireturn, 1) := by decide +kernel
theorem dX8_card_31 : decode cX8_card 31 = .ok (.iload_n 3, 1) := by decide +kernel
theorem dX8_card_32 : decode cX8_card 32 = .ok (.iconst 0, 1) := by decide +kernel
theorem dX8_card_33 : decode cX8_card 33 = .ok (.bipush 99, 2) := by decide +kernel
theorem dX8_card_35 : decode cX8_card 35 = .ok (.invokestatic 72, 3) := by decide +kernel
theorem dX8_card_38 : decode cX8_card 38 = .ok (.ifCond .eq 25, 3) := by decide +kernel
theorem dX8_card_41 : decode cX8_card 41 = .ok (.iload 7, 2) := by decide +kernel
theorem dX8_card_43 : decode cX8_card 43 = .ok (.iconst 0, 1) := by decide +kernel
theorem dX8_card_44 : decode cX8_card 44 = .ok (.iconst 4, 1) := by decide +kernel
theorem dX8_card_45 : decode cX8_card 45 = .ok (.invokestatic 72, 3) := by decide +kernel
theorem dX8_card_48 : decode cX8_card 48 = .ok (.ifCond .eq 15, 3) := by decide +kernel
theorem dX8_card_51 : decode cX8_card 51 = .ok (.iload 8, 2) := by decide +kernel
theorem dX8_card_53 : decode cX8_card 53 = .ok (.iconst (-1), 1) := by decide +kernel
theorem dX8_card_54 : decode cX8_card 54 = .ok (.sipush 20000, 3) := by decide +kernel
theorem dX8_card_57 : decode cX8_card 57 = .ok (.invokestatic 72, 3) := by decide +kernel
theorem dX8_card_60 : decode cX8_card 60 = .ok (.ifCond .ne 6, 3) := by decide +kernel
theorem dX8_card_63 : decode cX8_card 63 = .ok (.bipush (-3), 2) := by decide +kernel
theorem dX8_card_65 : decode cX8_card 65 = .ok (.ireturn, 1) := by decide +kernel
theorem dX8_card_66 : decode cX8_card 66 = .ok (.aload_n 0, 1) := by decide +kernel
theorem dX8_card_67 : decode cX8_card 67 = .ok (.getfield 10, 3) := by decide +kernel
theorem dX8_card_70 : decode cX8_card 70 = .ok (.getfield 76, 3) := by decide +kernel
theorem dX8_card_73 : decode cX8_card 73 = .ok (.bipush 20, 2) := by decide +kernel
theorem dX8_card_75 : decode cX8_card 75 = .ok (.if_icmp .lt 6, 3) := by decide +kernel
theorem dX8_card_78 : decode cX8_card 78 = .ok (.bipush (-5), 2) := by decide +kernel
theorem dX8_card_80 : decode cX8_card 80 = .ok (.ireturn, 1) := by decide +kernel
theorem dX8_card_81 : decode cX8_card 81 = .ok (.aload_n 0, 1) := by decide +kernel
theorem dX8_card_82 : decode cX8_card 82 = .ok (.getfield 10, 3) := by decide +kernel
theorem dX8_card_85 : decode cX8_card 85 = .ok (.getfield 76, 3) := by decide +kernel
theorem dX8_card_88 : decode cX8_card 88 = .ok (.istore 9, 2) := by decide +kernel
theorem dX8_card_90 : decode cX8_card 90 = .ok (.aload_n 0, 1) := by decide +kernel
theorem dX8_card_91 : decode cX8_card 91 = .ok (.getfield 10, 3) := by decide +kernel
theorem dX8_card_94 : decode cX8_card 94 = .ok (.iload_n 1, 1) := by decide +kernel
theorem dX8_card_95 : decode cX8_card 95 = .ok (.iload_n 2, 1) := by decide +kernel
theorem dX8_card_96 : decode cX8_card 96 = .ok (.iload_n 3, 1) := by decide +kernel
theorem dX8_card_97 : decode cX8_card 97 = .ok (.iload 4, 2) := by decide +kernel
theorem dX8_card_99 : decode cX8_card 99 = .ok (.lload 5, 2) := by decide +kernel
theorem dX8_card_101 : decode cX8_card 101 = .ok (.iload 7, 2) := by decide +kernel
theorem dX8_card_103 : decode cX8_card 103 = .ok (.iload 8, 2) := by decide +kernel
theorem dX8_card_105 : decode cX8_card 105 = .ok (.invokevirtual 79, 3) := by decide +kernel
theorem dX8_card_108 : decode cX8_card 108 = .ok (.aload_n 0, 1) := by decide +kernel
theorem dX8_card_109 : decode cX8_card 109 = .ok (.getfield 21, 3) := by decide +kernel
theorem dX8_card_112 : decode cX8_card 112 = .ok (.iload 9, 2) := by decide +kernel
theorem dX8_card_114 : decode cX8_card 114 = .ok (.invokevirtual 83, 3) := by decide +kernel
theorem dX8_card_117 : decode cX8_card 117 = .ok (.aload_n 0, 1) := by decide +kernel
theorem dX8_card_118 : decode cX8_card 118 = .ok (.getfield 21, 3) := by decide +kernel
theorem dX8_card_121 : decode cX8_card 121 = .ok (.iload 9, 2) := by decide +kernel
theorem dX8_card_123 : decode cX8_card 123 = .ok (.invokevirtual 87, 3) := by decide +kernel
theorem dX8_card_126 : decode cX8_card 126 = .ok (.iload 9, 2) := by decide +kernel
theorem dX8_card_128 : decode cX8_card 128 = .ok (.ireturn, 1) := by decide +kernel
set_option maxRecDepth 100000 in
set_option maxHeartbeats 40000000 in
theorem fp_card {G : vG} {l : Launch} (l9 p n b : Int32) (t : Int64) (s u : Int32) : Sp G l yX8_card cX8_card 10 (some .int) 4 0 0 [.ref 0, .int l9, .int p, .int n, .int b, .long t, .int s, .int u] (WW σF) (QI (fun x w2 => x = an_card l9 p n b s u ∧ ∃ τ, w2 = WW (mx τ))) := by
  refine Sp_of_R [(some (.ref 0)), (some (.int l9)), (some (.int p)), (some (.int n)), (some (.int b)), (some (.long t)), none, (some (.int s)), (some (.int u)), none] [none] rfl (by simp) rfl (Nat.le_of_ble_eq_true rfl) ?_
  refine R_iload_n (pc := 0) dX8_card_0 rfl rfl ?_
  refine R_iconst (pc := 1) (v := 0) dX8_card_1 (by decide) ?_
  refine R_iconst (pc := 2) (v := 3) dX8_card_2 (by decide) ?_
  refine k_X8_72 (pc := 3) (sp_X8_isWithin _ _ _ _) rfl (by decide) (Nat.le_refl _) (Nat.le_refl _) (Nat.le_of_ble_eq_true rfl) dX8_card_3 (fun x w2 h => ?_)
  rcases h with ⟨rfl, ⟨h1, rfl⟩ | ⟨h1, rfl⟩⟩
  · skip
    refine R_ifeq (pc := 6) 28 dX8_card_6 (by decide) (fun h => absurd h (by decide)) (fun _ => ?_)
    refine R_iload_n (pc := 9) dX8_card_9 rfl rfl ?_
    refine R_iconst (pc := 10) (v := 0) dX8_card_10 (by decide) ?_
    refine R_iconst (pc := 11) (v := 4) dX8_card_11 (by decide) ?_
    refine k_X8_72 (pc := 12) (sp_X8_isWithin _ _ _ _) rfl (by decide) (Nat.le_refl _) (Nat.le_refl _) (Nat.le_of_ble_eq_true rfl) dX8_card_12 (fun x w2 h => ?_)
    rcases h with ⟨rfl, ⟨h3, rfl⟩ | ⟨h3, rfl⟩⟩
    · skip
      refine R_ifeq (pc := 15) 28 dX8_card_15 (by decide) (fun h => absurd h (by decide)) (fun _ => ?_)
      refine R_iload (pc := 18) dX8_card_18 rfl ?_
      refine R_iconst (pc := 20) (v := 0) dX8_card_20 (by decide) ?_
      refine R_iconst (pc := 21) (v := 4) dX8_card_21 (by decide) ?_
      refine k_X8_72 (pc := 22) (sp_X8_isWithin _ _ _ _) rfl (by decide) (Nat.le_refl _) (Nat.le_refl _) (Nat.le_of_ble_eq_true rfl) dX8_card_22 (fun x w2 h => ?_)
      rcases h with ⟨rfl, ⟨h5, rfl⟩ | ⟨h5, rfl⟩⟩
      · skip
        refine R_ifne (pc := 25) 31 dX8_card_25 (by decide) (fun _ => ?_) (fun h => absurd h (by decide))
        refine R_iload_n (pc := 31) dX8_card_31 rfl rfl ?_
        refine R_iconst (pc := 32) (v := 0) dX8_card_32 (by decide) ?_
        refine R_bipush (pc := 33) (v := 99) dX8_card_33 (by decide) ?_
        refine k_X8_72 (pc := 35) (sp_X8_isWithin _ _ _ _) rfl (by decide) (Nat.le_refl _) (Nat.le_refl _) (Nat.le_of_ble_eq_true rfl) dX8_card_35 (fun x w2 h => ?_)
        rcases h with ⟨rfl, ⟨h7, rfl⟩ | ⟨h7, rfl⟩⟩
        · skip
          refine R_ifeq (pc := 38) 63 dX8_card_38 (by decide) (fun h => absurd h (by decide)) (fun _ => ?_)
          refine R_iload (pc := 41) dX8_card_41 rfl ?_
          refine R_iconst (pc := 43) (v := 0) dX8_card_43 (by decide) ?_
          refine R_iconst (pc := 44) (v := 4) dX8_card_44 (by decide) ?_
          refine k_X8_72 (pc := 45) (sp_X8_isWithin _ _ _ _) rfl (by decide) (Nat.le_refl _) (Nat.le_refl _) (Nat.le_of_ble_eq_true rfl) dX8_card_45 (fun x w2 h => ?_)
          rcases h with ⟨rfl, ⟨h9, rfl⟩ | ⟨h9, rfl⟩⟩
          · skip
            refine R_ifeq (pc := 48) 63 dX8_card_48 (by decide) (fun h => absurd h (by decide)) (fun _ => ?_)
            refine R_iload (pc := 51) dX8_card_51 rfl ?_
            refine R_iconst (pc := 53) (v := (-1)) dX8_card_53 (by decide) ?_
            refine R_sipush (pc := 54) (v := 20000) dX8_card_54 (by decide) ?_
            refine k_X8_72 (pc := 57) (sp_X8_isWithin _ _ _ _) rfl (by decide) (Nat.le_refl _) (Nat.le_refl _) (Nat.le_of_ble_eq_true rfl) dX8_card_57 (fun x w2 h => ?_)
            rcases h with ⟨rfl, ⟨h11, rfl⟩ | ⟨h11, rfl⟩⟩
            · skip
              refine R_ifne (pc := 60) 66 dX8_card_60 (by decide) (fun _ => ?_) (fun h => absurd h (by decide))
              refine R_aload_n (pc := 66) dX8_card_66 rfl rfl ?_
              refine g_X8_10 (pc := 67) (v := .ref 1) rfl dX8_card_67 (c_0 _) rfl ?_
              refine g_X8_76 (pc := 70) (v := .int 0) rfl dX8_card_70 (c_1 _) rfl ?_
              refine R_bipush (pc := 73) (v := 20) dX8_card_73 (by decide) ?_
              refine R_iclt (pc := 75) 81 dX8_card_75 (by decide) (fun _ => ?_) (fun h => absurd (by decide) h)
              refine R_aload_n (pc := 81) dX8_card_81 rfl rfl ?_
              refine g_X8_10 (pc := 82) (v := .ref 1) rfl dX8_card_82 (c_0 _) rfl ?_
              refine g_X8_76 (pc := 85) (v := .int 0) rfl dX8_card_85 (c_1 _) rfl ?_
              refine st_10_9_i_i (pc := 88) dX8_card_88 ?_
              refine R_aload_n (pc := 90) dX8_card_90 rfl rfl ?_
              refine g_X8_10 (pc := 91) (v := .ref 1) rfl dX8_card_91 (c_0 _) rfl ?_
              refine R_iload_n (pc := 94) dX8_card_94 rfl rfl ?_
              refine R_iload_n (pc := 95) dX8_card_95 rfl rfl ?_
              refine R_iload_n (pc := 96) dX8_card_96 rfl rfl ?_
              refine R_iload (pc := 97) dX8_card_97 rfl ?_
              refine R_lload (pc := 99) dX8_card_99 rfl ?_
              refine R_iload (pc := 101) dX8_card_101 rfl ?_
              refine R_iload (pc := 103) dX8_card_103 rfl ?_
              refine k_X8_79 (pc := 105) (fx_X0_tell _ _ _ _ _ _ _) rfl (c_1 _) (by decide) (Nat.le_refl _) (Nat.le_refl _) (Nat.le_of_ble_eq_true rfl) dX8_card_105 (fun w2 h => ?_)
              subst h
              refine R_aload_n (pc := 108) dX8_card_108 rfl rfl ?_
              refine g_X8_21 (pc := 109) (v := .ref 12) rfl dX8_card_109 (c_0 _) rfl ?_
              refine R_iload (pc := 112) dX8_card_112 rfl ?_
              refine k_X8_83 (pc := 114) (fx_X3_comparePicture _ _ _ _ _ _ _) rfl (c_12 _) (by decide) (Nat.le_refl _) (Nat.le_refl _) (Nat.le_of_ble_eq_true rfl) dX8_card_114 (fun w2 h => ?_)
              obtain ⟨f, rfl⟩ := h
              refine R_aload_n (pc := 117) dX8_card_117 rfl rfl ?_
              refine g_X8_21 (pc := 118) (v := .ref 12) rfl dX8_card_118 (c_0 _) rfl ?_
              refine R_iload (pc := 121) dX8_card_121 rfl ?_
              refine k_X8_87 (pc := 123) (fx_X3_compareWord _ _ _ _ _ _ _ _) rfl (c_12 _) (by decide) (Nat.le_refl _) (Nat.le_refl _) (Nat.le_of_ble_eq_true rfl) dX8_card_123 (fun w2 h => ?_)
              obtain ⟨g, f9, rfl⟩ := h
              refine R_iload (pc := 126) dX8_card_126 rfl ?_
              exact R_iret (pc := 128) dX8_card_128 rfl rfl (Nat.zero_le _) (Nat.zero_le _) ⟨_, rfl, (by first | (simp only [an_card, inB_t h1, inB_t h3, inB_t h5, inB_t h7, inB_t h9, inB_t h11, cond_true, cond_false, Bool.and_true, Bool.true_and, Bool.and_false, Bool.false_and]; done) | (simp only [an_card, inB_t h1, inB_t h3, inB_t h5, inB_t h7, inB_t h9, inB_t h11, cond_true, cond_false, Bool.and_true, Bool.true_and, Bool.and_false, Bool.false_and, if_true, if_true, if_false, ite_self]; done) | (simp only [an_card, inB_t h1, inB_t h3, inB_t h5, inB_t h7, inB_t h9, inB_t h11, cond_true, cond_false, Bool.and_true, Bool.true_and, Bool.and_false, Bool.false_and] <;> simp []; done) | (simp only [an_card, inB_t h1, inB_t h3, inB_t h5, inB_t h7, inB_t h9, inB_t h11, cond_true, cond_false, Bool.and_true, Bool.true_and, Bool.and_false, Bool.false_and] <;> decide)), mxI _ rfl⟩
            · skip
              refine R_ifne (pc := 60) 66 dX8_card_60 (by decide) (fun h => absurd (by decide) h) (fun _ => ?_)
              refine R_bipush (pc := 63) (v := (-3)) dX8_card_63 (by decide) ?_
              exact R_iret (pc := 65) dX8_card_65 rfl rfl (Nat.zero_le _) (Nat.zero_le _) ⟨_, rfl, (by first | (simp only [an_card, inB_t h1, inB_t h3, inB_t h5, inB_t h7, inB_t h9, inB_f h11, cond_true, cond_false, Bool.and_true, Bool.true_and, Bool.and_false, Bool.false_and]; done) | (simp only [an_card, inB_t h1, inB_t h3, inB_t h5, inB_t h7, inB_t h9, inB_f h11, cond_true, cond_false, Bool.and_true, Bool.true_and, Bool.and_false, Bool.false_and, if_true, if_true, if_false, ite_self]; done) | (simp only [an_card, inB_t h1, inB_t h3, inB_t h5, inB_t h7, inB_t h9, inB_f h11, cond_true, cond_false, Bool.and_true, Bool.true_and, Bool.and_false, Bool.false_and] <;> simp []; done) | (simp only [an_card, inB_t h1, inB_t h3, inB_t h5, inB_t h7, inB_t h9, inB_f h11, cond_true, cond_false, Bool.and_true, Bool.true_and, Bool.and_false, Bool.false_and] <;> decide)), mxI _ rfl⟩
          · skip
            refine R_ifeq (pc := 48) 63 dX8_card_48 (by decide) (fun _ => ?_) (fun h => absurd (by decide) h)
            refine R_bipush (pc := 63) (v := (-3)) dX8_card_63 (by decide) ?_
            exact R_iret (pc := 65) dX8_card_65 rfl rfl (Nat.zero_le _) (Nat.zero_le _) ⟨_, rfl, (by first | (simp only [an_card, inB_t h1, inB_t h3, inB_t h5, inB_t h7, inB_f h9, cond_true, cond_false, Bool.and_true, Bool.true_and, Bool.and_false, Bool.false_and]; done) | (simp only [an_card, inB_t h1, inB_t h3, inB_t h5, inB_t h7, inB_f h9, cond_true, cond_false, Bool.and_true, Bool.true_and, Bool.and_false, Bool.false_and, if_true, if_true, if_false, ite_self]; done) | (simp only [an_card, inB_t h1, inB_t h3, inB_t h5, inB_t h7, inB_f h9, cond_true, cond_false, Bool.and_true, Bool.true_and, Bool.and_false, Bool.false_and] <;> simp []; done) | (simp only [an_card, inB_t h1, inB_t h3, inB_t h5, inB_t h7, inB_f h9, cond_true, cond_false, Bool.and_true, Bool.true_and, Bool.and_false, Bool.false_and] <;> decide)), mxI _ rfl⟩
        · skip
          refine R_ifeq (pc := 38) 63 dX8_card_38 (by decide) (fun _ => ?_) (fun h => absurd (by decide) h)
          refine R_bipush (pc := 63) (v := (-3)) dX8_card_63 (by decide) ?_
          exact R_iret (pc := 65) dX8_card_65 rfl rfl (Nat.zero_le _) (Nat.zero_le _) ⟨_, rfl, (by first | (simp only [an_card, inB_t h1, inB_t h3, inB_t h5, inB_f h7, cond_true, cond_false, Bool.and_true, Bool.true_and, Bool.and_false, Bool.false_and]; done) | (simp only [an_card, inB_t h1, inB_t h3, inB_t h5, inB_f h7, cond_true, cond_false, Bool.and_true, Bool.true_and, Bool.and_false, Bool.false_and, if_true, if_true, if_false, ite_self]; done) | (simp only [an_card, inB_t h1, inB_t h3, inB_t h5, inB_f h7, cond_true, cond_false, Bool.and_true, Bool.true_and, Bool.and_false, Bool.false_and] <;> simp []; done) | (simp only [an_card, inB_t h1, inB_t h3, inB_t h5, inB_f h7, cond_true, cond_false, Bool.and_true, Bool.true_and, Bool.and_false, Bool.false_and] <;> decide)), mxI _ rfl⟩
      · skip
        refine R_ifne (pc := 25) 31 dX8_card_25 (by decide) (fun h => absurd (by decide) h) (fun _ => ?_)
        refine R_bipush (pc := 28) (v := (-2)) dX8_card_28 (by decide) ?_
        exact R_iret (pc := 30) dX8_card_30 rfl rfl (Nat.zero_le _) (Nat.zero_le _) ⟨_, rfl, (by first | (simp only [an_card, inB_t h1, inB_t h3, inB_f h5, cond_true, cond_false, Bool.and_true, Bool.true_and, Bool.and_false, Bool.false_and]; done) | (simp only [an_card, inB_t h1, inB_t h3, inB_f h5, cond_true, cond_false, Bool.and_true, Bool.true_and, Bool.and_false, Bool.false_and, if_true, if_true, if_false, ite_self]; done) | (simp only [an_card, inB_t h1, inB_t h3, inB_f h5, cond_true, cond_false, Bool.and_true, Bool.true_and, Bool.and_false, Bool.false_and] <;> simp []; done) | (simp only [an_card, inB_t h1, inB_t h3, inB_f h5, cond_true, cond_false, Bool.and_true, Bool.true_and, Bool.and_false, Bool.false_and] <;> decide)), mxI _ rfl⟩
    · skip
      refine R_ifeq (pc := 15) 28 dX8_card_15 (by decide) (fun _ => ?_) (fun h => absurd (by decide) h)
      refine R_bipush (pc := 28) (v := (-2)) dX8_card_28 (by decide) ?_
      exact R_iret (pc := 30) dX8_card_30 rfl rfl (Nat.zero_le _) (Nat.zero_le _) ⟨_, rfl, (by first | (simp only [an_card, inB_t h1, inB_f h3, cond_true, cond_false, Bool.and_true, Bool.true_and, Bool.and_false, Bool.false_and]; done) | (simp only [an_card, inB_t h1, inB_f h3, cond_true, cond_false, Bool.and_true, Bool.true_and, Bool.and_false, Bool.false_and, if_true, if_true, if_false, ite_self]; done) | (simp only [an_card, inB_t h1, inB_f h3, cond_true, cond_false, Bool.and_true, Bool.true_and, Bool.and_false, Bool.false_and] <;> simp []; done) | (simp only [an_card, inB_t h1, inB_f h3, cond_true, cond_false, Bool.and_true, Bool.true_and, Bool.and_false, Bool.false_and] <;> decide)), mxI _ rfl⟩
  · skip
    refine R_ifeq (pc := 6) 28 dX8_card_6 (by decide) (fun _ => ?_) (fun h => absurd (by decide) h)
    refine R_bipush (pc := 28) (v := (-2)) dX8_card_28 (by decide) ?_
    exact R_iret (pc := 30) dX8_card_30 rfl rfl (Nat.zero_le _) (Nat.zero_le _) ⟨_, rfl, (by first | (simp only [an_card, inB_f h1, cond_true, cond_false, Bool.and_true, Bool.true_and, Bool.and_false, Bool.false_and]; done) | (simp only [an_card, inB_f h1, cond_true, cond_false, Bool.and_true, Bool.true_and, Bool.and_false, Bool.false_and, if_true, if_true, if_false, ite_self]; done) | (simp only [an_card, inB_f h1, cond_true, cond_false, Bool.and_true, Bool.true_and, Bool.and_false, Bool.false_and] <;> simp []; done) | (simp only [an_card, inB_f h1, cond_true, cond_false, Bool.and_true, Bool.true_and, Bool.and_false, Bool.false_and] <;> decide)), mxI _ rfl⟩
