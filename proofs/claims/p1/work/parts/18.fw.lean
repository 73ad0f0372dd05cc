
def an_wr (n : Int32) : Int32 := bif inB n 1 8 then (if 0 + n ≤ 160 then 0 + n else -5) else -3
theorem wr_n {n : Int32} (h : inR n 1 8) : ∃ m : Nat, m ≤ 8 ∧ n = nI m := by
  obtain ⟨h1, h2⟩ := h
  have b1 := Int32.le_iff_toInt_le.mp (Int32.not_lt.mp h1)
  have b2 := Int32.le_iff_toInt_le.mp (Int32.not_lt.mp h2)
  have e1 : (1 : Int32).toInt = 1 := by decide
  have e2 : (8 : Int32).toInt = 8 := by decide
  refine ⟨n.toInt.toNat, by omega, ?_⟩
  apply Int32.toInt_inj.mp
  rw [nI_toInt (by omega)]
  omega
set_option maxRecDepth 100000 in
theorem a118F (f g : Nat → Int32) : (WW (uA σF 118 f)).set 118 (.inl (0, 160, .inl g)) = WW (uA σF 118 g) := rfl
set_option maxRecDepth 100000 in
theorem a170F (τ : Sg) (f g : Nat → Int32) : (WW (uA (mx τ) 170 f)).set 170 (.inl (0, 160, .inl g)) = WW (uA (mx τ) 170 g) := rfl

theorem dX8_write_0 : decode cX8_write 0 = .ok (.iload_n 3, 1) := by decide +kernel
theorem dX8_write_1 : decode cX8_write 1 = .ok (.iconst 1, 1) := by decide +kernel
theorem dX8_write_2 : decode cX8_write 2 = .ok (.bipush 8, 2) := by decide +kernel
theorem dX8_write_4 : decode cX8_write 4 = .ok (.invokestatic 72, 3) := by decide +kernel
theorem dX8_write_7 : decode cX8_write 7 = .ok (.ifCond .ne 6, 3) := by decide +kernel
theorem dX8_write_10 : decode cX8_write 10 = .ok (.bipush (-3), 2) := by decide +kernel
theorem dX8_write_12 : decode cX8_write 12 = .ok (.ireturn, 1) := by decide +kernel
theorem dX8_write_13 : decode cX8_write 13 = .ok (.aload_n 0, 1) := by decide +kernel
theorem dX8_write_14 : decode cX8_write 14 = .ok (.getfield 51, 3) := by decide +kernel
theorem dX8_write_17 : decode cX8_write 17 = .ok (.getfield 291, 3) := by decide +kernel
theorem dX8_write_20 : decode cX8_write 20 = .ok (.iload_n 3, 1) := by decide +kernel
theorem dX8_write_21 : decode cX8_write 21 = .ok (.iadd, 1) := by decide +kernel
theorem dX8_write_22 : decode cX8_write 22 = .ok (.sipush 160, 3) := by decide +kernel
theorem dX8_write_25 : decode cX8_write 25 = .ok (.if_icmp .le 6, 3) := by decide +kernel
theorem dX8_write_28 : decode cX8_write 28 = .ok (.bipush (-5), 2) := by decide +kernel
theorem dX8_write_30 : decode cX8_write 30 = .ok (.ireturn, 1) := by decide +kernel
theorem dX8_write_31 : decode cX8_write 31 = .ok (.iconst 0, 1) := by decide +kernel
theorem dX8_write_32 : decode cX8_write 32 = .ok (.istore 4, 2) := by decide +kernel
theorem dX8_write_34 : decode cX8_write 34 = .ok (.iload 4, 2) := by decide +kernel
theorem dX8_write_36 : decode cX8_write 36 = .ok (.iload_n 3, 1) := by decide +kernel
theorem dX8_write_37 : decode cX8_write 37 = .ok (.if_icmp .ge 33, 3) := by decide +kernel
theorem dX8_write_40 : decode cX8_write 40 = .ok (.aload_n 0, 1) := by decide +kernel
theorem dX8_write_41 : decode cX8_write 41 = .ok (.getfield 51, 3) := by decide +kernel
theorem dX8_write_44 : decode cX8_write 44 = .ok (.getfield 292, 3) := by decide +kernel
theorem dX8_write_47 : decode cX8_write 47 = .ok (.aload_n 0, 1) := by decide +kernel
theorem dX8_write_48 : decode cX8_write 48 = .ok (.getfield 51, 3) := by decide +kernel
theorem dX8_write_51 : decode cX8_write 51 = .ok (.getfield 291, 3) := by decide +kernel
theorem dX8_write_54 : decode cX8_write 54 = .ok (.iload 4, 2) := by decide +kernel
theorem dX8_write_56 : decode cX8_write 56 = .ok (.iadd, 1) := by decide +kernel
theorem dX8_write_57 : decode cX8_write 57 = .ok (.lload_n 1, 1) := by decide +kernel
theorem dX8_write_58 : decode cX8_write 58 = .ok (.iload 4, 2) := by decide +kernel
theorem dX8_write_60 : decode cX8_write 60 = .ok (.invokestatic 94, 3) := by decide +kernel
theorem dX8_write_63 : decode cX8_write 63 = .ok (.iastore, 1) := by decide +kernel
theorem dX8_write_64 : decode cX8_write 64 = .ok (.iinc 4 1, 3) := by decide +kernel
theorem dX8_write_67 : decode cX8_write 67 = .ok (.goto (-33), 3) := by decide +kernel
theorem dX8_write_70 : decode cX8_write 70 = .ok (.aload_n 0, 1) := by decide +kernel
theorem dX8_write_71 : decode cX8_write 71 = .ok (.getfield 51, 3) := by decide +kernel
theorem dX8_write_74 : decode cX8_write 74 = .ok (.dup, 1) := by decide +kernel
theorem dX8_write_75 : decode cX8_write 75 = .ok (.getfield 291, 3) := by decide +kernel
theorem dX8_write_78 : decode cX8_write 78 = .ok (.iload_n 3, 1) := by decide +kernel
theorem dX8_write_79 : decode cX8_write 79 = .ok (.iadd, 1) := by decide +kernel
theorem dX8_write_80 : decode cX8_write 80 = .ok (.putfield 291, 3) := by decide +kernel
theorem dX8_write_83 : decode cX8_write 83 = .ok (.aload_n 0, 1) := by decide +kernel
theorem dX8_write_84 : decode cX8_write 84 = .ok (.getfield 51, 3) := by decide +kernel
theorem dX8_write_87 : decode cX8_write 87 = .ok (.getfield 291, 3) := by decide +kernel
theorem dX8_write_90 : decode cX8_write 90 = .ok (.ireturn, 1) := by decide +kernel
set_option maxRecDepth 100000 in
set_option maxHeartbeats 40000000 in
theorem fp_write {G : vG} {l : Launch} (a : Int64) (n : Int32) : Sp G l yX8_write cX8_write 5 (some .int) 1 0 0 [.ref 0, .long a, .int n] (WW σF) (QI (fun x w2 => x = an_wr n ∧ ∃ τ, w2 = WW (mx τ))) := by
  refine Sp_of_R [(some (.ref 0)), (some (.long a)), none, (some (.int n)), none] [none] rfl (by simp) rfl (Nat.le_of_ble_eq_true rfl) ?_
  refine R_iload_n (pc := 0) dX8_write_0 rfl rfl ?_
  refine R_iconst (pc := 1) (v := 1) dX8_write_1 (by decide) ?_
  refine R_bipush (pc := 2) (v := 8) dX8_write_2 (by decide) ?_
  refine k_X8_72 (pc := 4) (sp_X8_isWithin _ _ _ _) rfl (by decide) (Nat.le_refl _) (Nat.le_refl _) (Nat.le_of_ble_eq_true rfl) dX8_write_4 (fun x w2 h => ?_)
  rcases h with ⟨rfl, ⟨h1, rfl⟩ | ⟨h1, rfl⟩⟩
  · skip
    refine R_ifne (pc := 7) 13 dX8_write_7 (by decide) (fun _ => ?_) (fun h => absurd h (by decide))
    refine R_aload_n (pc := 13) dX8_write_13 rfl rfl ?_
    refine g_X8_51 (pc := 14) (v := .ref 117) rfl dX8_write_14 (c_0 _) rfl ?_
    refine g_X8_291 (pc := 17) (v := .int 0) rfl dX8_write_17 (c_117 _) rfl ?_
    refine R_iload_n (pc := 20) dX8_write_20 rfl rfl ?_
    refine R_iadd (pc := 21) dX8_write_21 ?_
    refine R_sipush (pc := 22) (v := 160) dX8_write_22 (by decide) ?_
    refine R_icle (pc := 25) 31 dX8_write_25 (by decide) (fun b25_3 => ?_) (fun b25_3 => ?_)
    · skip
      refine R_iconst (pc := 31) (v := 0) dX8_write_31 (by decide) ?_
      refine st_5_4_i_i (pc := 32) dX8_write_32 ?_
      obtain ⟨m, hm, rfl⟩ := wr_n h1
      have HL : ∀ (q j : Nat) (f : Nat → Int32), j + q = m → R G l yX8_write cX8_write 5 (some .int) 1 0 0 (QI (fun x w2 => x = an_wr (nI m) ∧ ∃ τ, w2 = WW (mx τ))) 34 [(some (.ref 0)), (some (.long a)), none, (some (.int (nI m))), (some (.int (nI j)))] [] (WW (uA σF 118 f)) 0 0 := by
        intro q
        induction q with
        | zero =>
          intro j f hj
          obtain rfl : j = m := by omega
          refine R_iload (pc := 34) dX8_write_34 rfl ?_
          refine R_iload_n (pc := 36) dX8_write_36 rfl rfl ?_
          refine R_icge (pc := 37) 70 dX8_write_37 (by decide) (fun _ => ?_) (fun h => absurd (Int32.le_refl _) h)
          refine R_aload_n (pc := 70) dX8_write_70 rfl rfl ?_
          refine g_X8_51 (pc := 71) (v := .ref 117) rfl dX8_write_71 (c_0 _) rfl ?_
          refine R_dup (pc := 74) dX8_write_74 rfl ?_
          refine g_X8_291 (pc := 75) (v := .int 0) rfl dX8_write_75 (c_117 _) rfl ?_
          refine R_iload_n (pc := 78) dX8_write_78 rfl rfl ?_
          refine R_iadd (pc := 79) dX8_write_79 ?_
          refine p_X8_291 (pc := 80) rfl dX8_write_80 (c_117 _) (Nat.le_of_ble_eq_true rfl) rfl rfl (s_117_1 _ _) ?_
          refine R_aload_n (pc := 83) dX8_write_83 rfl rfl ?_
          refine g_X8_51 (pc := 84) (v := .ref 117) rfl dX8_write_84 (c_0 _) rfl ?_
          refine g_X8_291 (pc := 87) (v := .int (0 + (nI j))) rfl dX8_write_87 (c_117 _) rfl ?_
          exact R_iret (pc := 90) dX8_write_90 rfl rfl (Nat.zero_le _) (Nat.zero_le _) ⟨_, rfl, (by first | (simp only [an_wr, inB_t h1, cond_true, cond_false, Bool.and_true, Bool.true_and, Bool.and_false, Bool.false_and]; done) | (simp only [an_wr, inB_t h1, cond_true, cond_false, Bool.and_true, Bool.true_and, Bool.and_false, Bool.false_and, b25_3, if_true, if_false, ite_self]; done) | (simp only [an_wr, inB_t h1, cond_true, cond_false, Bool.and_true, Bool.true_and, Bool.and_false, Bool.false_and] <;> simp [b25_3]; done) | (simp only [an_wr, inB_t h1, cond_true, cond_false, Bool.and_true, Bool.true_and, Bool.and_false, Bool.false_and] <;> decide)), mxI _ rfl⟩
        | succ q ih =>
          intro j f hj
          have hlt : j < m := by omega
          refine R_iload (pc := 34) dX8_write_34 rfl ?_
          refine R_iload_n (pc := 36) dX8_write_36 rfl rfl ?_
          refine R_icge (pc := 37) 70 dX8_write_37 (by decide) (fun h => absurd h (nI_ge hlt (by omega))) (fun _ => ?_)
          refine R_aload_n (pc := 40) dX8_write_40 rfl rfl ?_
          refine g_X8_51 (pc := 41) (v := .ref 117) rfl dX8_write_41 (c_0 _) rfl ?_
          refine g_X8_292 (pc := 44) (v := .ref 118) rfl dX8_write_44 (c_117 _) rfl ?_
          refine R_aload_n (pc := 47) dX8_write_47 rfl rfl ?_
          refine g_X8_51 (pc := 48) (v := .ref 117) rfl dX8_write_48 (c_0 _) rfl ?_
          refine g_X8_291 (pc := 51) (v := .int 0) rfl dX8_write_51 (c_117 _) rfl ?_
          refine R_iload (pc := 54) dX8_write_54 rfl ?_
          refine R_iadd (pc := 56) dX8_write_56 ?_
          refine R_lload_n (pc := 57) dX8_write_57 rfl rfl ?_
          refine R_iload (pc := 58) dX8_write_58 rfl ?_
          refine k_X8_94 (pc := 60) (sp_X8_byteOf _ _ _) rfl (by decide) (Nat.le_refl _) (Nat.le_refl _) (Nat.le_of_ble_eq_true rfl) dX8_write_60 (fun y6 w2 h => ?_)
          obtain ⟨rfl, -⟩ := h
          refine W_iastore (pc := 63) dX8_write_63 (c_118 _) (by rw [nI_z]; exact vp_in_nI (by omega) (by decide)) (a118F _ _) ?_
          refine inc_5_4_1_i (pc := 64) dX8_write_64 ?_
          refine R_goto (pc := 67) 34 dX8_write_67 (by decide) ?_
          rw [nI_1]
          exact ih (j + 1) _ (by omega)
      exact HL m 0 _ (by omega)
    · skip
      refine R_bipush (pc := 28) (v := (-5)) dX8_write_28 (by decide) ?_
      exact R_iret (pc := 30) dX8_write_30 rfl rfl (Nat.zero_le _) (Nat.zero_le _) ⟨_, rfl, (by first | (simp only [an_wr, inB_t h1, cond_true, cond_false, Bool.and_true, Bool.true_and, Bool.and_false, Bool.false_and]; done) | (simp only [an_wr, inB_t h1, cond_true, cond_false, Bool.and_true, Bool.true_and, Bool.and_false, Bool.false_and, b25_3, if_true, if_false, ite_self]; done) | (simp only [an_wr, inB_t h1, cond_true, cond_false, Bool.and_true, Bool.true_and, Bool.and_false, Bool.false_and] <;> simp [b25_3]; done) | (simp only [an_wr, inB_t h1, cond_true, cond_false, Bool.and_true, Bool.true_and, Bool.and_false, Bool.false_and] <;> decide)), mxI _ rfl⟩
  · skip
    refine R_ifne (pc := 7) 13 dX8_write_7 (by decide) (fun h => absurd (by decide) h) (fun _ => ?_)
    refine R_bipush (pc := 10) (v := (-3)) dX8_write_10 (by decide) ?_
    exact R_iret (pc := 12) dX8_write_12 rfl rfl (Nat.zero_le _) (Nat.zero_le _) ⟨_, rfl, (by first | (simp only [an_wr, inB_f h1, cond_true, cond_false, Bool.and_true, Bool.true_and, Bool.and_false, Bool.false_and]; done) | (simp only [an_wr, inB_f h1, cond_true, cond_false, Bool.and_true, Bool.true_and, Bool.and_false, Bool.false_and, if_true, if_true, if_false, ite_self]; done) | (simp only [an_wr, inB_f h1, cond_true, cond_false, Bool.and_true, Bool.true_and, Bool.and_false, Bool.false_and] <;> simp []; done) | (simp only [an_wr, inB_f h1, cond_true, cond_false, Bool.and_true, Bool.true_and, Bool.and_false, Bool.false_and] <;> decide)), mxI _ rfl⟩
theorem dX9_write_0 : decode cX9_write 0 = .ok (.iload_n 3, 1) := by decide +kernel
theorem dX9_write_1 : decode cX9_write 1 = .ok (.iconst 1, 1) := by decide +kernel
theorem dX9_write_2 : decode cX9_write 2 = .ok (.bipush 8, 2) := by decide +kernel
theorem dX9_write_4 : decode cX9_write 4 = .ok (.invokestatic 124, 3) := by decide +kernel
theorem dX9_write_7 : decode cX9_write 7 = .ok (.ifCond .ne 6, 3) := by decide +kernel
theorem dX9_write_10 : decode cX9_write 10 = .ok (.bipush (-3), 2) := by decide +kernel
theorem dX9_write_12 : decode cX9_write 12 = .ok (.ireturn, 1) := by decide +kernel
theorem dX9_write_13 : decode cX9_write 13 = .ok (.aload_n 0, 1) := by decide +kernel
theorem dX9_write_14 : decode cX9_write 14 = .ok (.getfield 254, 3) := by decide +kernel
theorem dX9_write_17 : decode cX9_write 17 = .ok (.iload_n 3, 1) := by decide +kernel
theorem dX9_write_18 : decode cX9_write 18 = .ok (.iadd, 1) := by decide +kernel
theorem dX9_write_19 : decode cX9_write 19 = .ok (.sipush 160, 3) := by decide +kernel
theorem dX9_write_22 : decode cX9_write 22 = .ok (.if_icmp .le 6, 3) := by decide +kernel
theorem dX9_write_25 : decode cX9_write 25 = .ok (.bipush (-5), 2) := by decide +kernel
theorem dX9_write_27 : decode cX9_write 27 = .ok (.ireturn, 1) := by decide +kernel
theorem dX9_write_28 : decode cX9_write 28 = .ok (.iconst 0, 1) := by decide +kernel
theorem dX9_write_29 : decode cX9_write 29 = .ok (.istore 4, 2) := by decide +kernel
theorem dX9_write_31 : decode cX9_write 31 = .ok (.iload 4, 2) := by decide +kernel
theorem dX9_write_33 : decode cX9_write 33 = .ok (.iload_n 3, 1) := by decide +kernel
theorem dX9_write_34 : decode cX9_write 34 = .ok (.if_icmp .ge 33, 3) := by decide +kernel
theorem dX9_write_37 : decode cX9_write 37 = .ok (.aload_n 0, 1) := by decide +kernel
theorem dX9_write_38 : decode cX9_write 38 = .ok (.getfield 108, 3) := by decide +kernel
theorem dX9_write_41 : decode cX9_write 41 = .ok (.aload_n 0, 1) := by decide +kernel
theorem dX9_write_42 : decode cX9_write 42 = .ok (.getfield 254, 3) := by decide +kernel
theorem dX9_write_45 : decode cX9_write 45 = .ok (.iload 4, 2) := by decide +kernel
theorem dX9_write_47 : decode cX9_write 47 = .ok (.iadd, 1) := by decide +kernel
theorem dX9_write_48 : decode cX9_write 48 = .ok (.lload_n 1, 1) := by decide +kernel
theorem dX9_write_49 : decode cX9_write 49 = .ok (.bipush 8, 2) := by decide +kernel
theorem dX9_write_51 : decode cX9_write 51 = .ok (.iload 4, 2) := by decide +kernel
theorem dX9_write_53 : decode cX9_write 53 = .ok (.imul, 1) := by decide +kernel
theorem dX9_write_54 : decode cX9_write 54 = .ok (.lshr, 1) := by decide +kernel
theorem dX9_write_55 : decode cX9_write 55 = .ok (.ldc2_w 138, 3) := by decide +kernel
theorem dX9_write_58 : decode cX9_write 58 = .ok (.land, 1) := by decide +kernel
theorem dX9_write_59 : decode cX9_write 59 = .ok (.l2i, 1) := by decide +kernel
theorem dX9_write_60 : decode cX9_write 60 = .ok (.iastore, 1) := by decide +kernel
theorem dX9_write_61 : decode cX9_write 61 = .ok (.iinc 4 1, 3) := by decide +kernel
theorem dX9_write_64 : decode cX9_write 64 = .ok (.goto (-33), 3) := by decide +kernel
theorem dX9_write_67 : decode cX9_write 67 = .ok (.aload_n 0, 1) := by decide +kernel
theorem dX9_write_68 : decode cX9_write 68 = .ok (.dup, 1) := by decide +kernel
theorem dX9_write_69 : decode cX9_write 69 = .ok (.getfield 254, 3) := by decide +kernel
theorem dX9_write_72 : decode cX9_write 72 = .ok (.iload_n 3, 1) := by decide +kernel
theorem dX9_write_73 : decode cX9_write 73 = .ok (.iadd, 1) := by decide +kernel
theorem dX9_write_74 : decode cX9_write 74 = .ok (.putfield 254, 3) := by decide +kernel
theorem dX9_write_77 : decode cX9_write 77 = .ok (.aload_n 0, 1) := by decide +kernel
theorem dX9_write_78 : decode cX9_write 78 = .ok (.getfield 254, 3) := by decide +kernel
theorem dX9_write_81 : decode cX9_write 81 = .ok (.ireturn, 1) := by decide +kernel
set_option maxRecDepth 100000 in
set_option maxHeartbeats 40000000 in
theorem fm_write {G : vG} {l : Launch} (τ : Sg) (a : Int64) (n : Int32) : Sp G l yX9_write cX9_write 5 (some .int) 1 0 0 [.ref 140, .long a, .int n] (WW (mx τ)) (QI (fun x _ => x = an_wr n)) := by
  refine Sp_of_R [(some (.ref 140)), (some (.long a)), none, (some (.int n)), none] [none] rfl (by simp) rfl (Nat.le_of_ble_eq_true rfl) ?_
  refine R_iload_n (pc := 0) dX9_write_0 rfl rfl ?_
  refine R_iconst (pc := 1) (v := 1) dX9_write_1 (by decide) ?_
  refine R_bipush (pc := 2) (v := 8) dX9_write_2 (by decide) ?_
  refine k_X9_124 (pc := 4) (sp_X9_in _ _ _ _) rfl (by decide) (Nat.le_refl _) (Nat.le_refl _) (Nat.le_of_ble_eq_true rfl) dX9_write_4 (fun x w2 h => ?_)
  rcases h with ⟨rfl, ⟨h1, rfl⟩ | ⟨h1, rfl⟩⟩
  · skip
    refine R_ifne (pc := 7) 13 dX9_write_7 (by decide) (fun _ => ?_) (fun h => absurd h (by decide))
    refine R_aload_n (pc := 13) dX9_write_13 rfl rfl ?_
    refine g_X9_254 (pc := 14) (v := .int 0) rfl dX9_write_14 (c_140 _) rfl ?_
    refine R_iload_n (pc := 17) dX9_write_17 rfl rfl ?_
    refine R_iadd (pc := 18) dX9_write_18 ?_
    refine R_sipush (pc := 19) (v := 160) dX9_write_19 (by decide) ?_
    refine R_icle (pc := 22) 28 dX9_write_22 (by decide) (fun b22_3 => ?_) (fun b22_3 => ?_)
    · skip
      refine R_iconst (pc := 28) (v := 0) dX9_write_28 (by decide) ?_
      refine st_5_4_i_i (pc := 29) dX9_write_29 ?_
      obtain ⟨m, hm, rfl⟩ := wr_n h1
      have HL : ∀ (q j : Nat) (f : Nat → Int32), j + q = m → R G l yX9_write cX9_write 5 (some .int) 1 0 0 (QI (fun x _ => x = an_wr (nI m))) 31 [(some (.ref 140)), (some (.long a)), none, (some (.int (nI m))), (some (.int (nI j)))] [] (WW (uA (mx τ) 170 f)) 0 0 := by
        intro q
        induction q with
        | zero =>
          intro j f hj
          obtain rfl : j = m := by omega
          refine R_iload (pc := 31) dX9_write_31 rfl ?_
          refine R_iload_n (pc := 33) dX9_write_33 rfl rfl ?_
          refine R_icge (pc := 34) 67 dX9_write_34 (by decide) (fun _ => ?_) (fun h => absurd (Int32.le_refl _) h)
          refine R_aload_n (pc := 67) dX9_write_67 rfl rfl ?_
          refine R_dup (pc := 68) dX9_write_68 rfl ?_
          refine g_X9_254 (pc := 69) (v := .int 0) rfl dX9_write_69 (c_140 _) rfl ?_
          refine R_iload_n (pc := 72) dX9_write_72 rfl rfl ?_
          refine R_iadd (pc := 73) dX9_write_73 ?_
          refine p_X9_254 (pc := 74) rfl dX9_write_74 (c_140 _) (Nat.le_of_ble_eq_true rfl) rfl rfl (s_140_37 _ _) ?_
          refine R_aload_n (pc := 77) dX9_write_77 rfl rfl ?_
          refine g_X9_254 (pc := 78) (v := .int (0 + (nI j))) rfl dX9_write_78 (c_140 _) rfl ?_
          exact R_iret (pc := 81) dX9_write_81 rfl rfl (Nat.zero_le _) (Nat.zero_le _) ⟨_, rfl, (by first | (simp only [an_wr, inB_t h1, cond_true, cond_false, Bool.and_true, Bool.true_and, Bool.and_false, Bool.false_and]; done) | (simp only [an_wr, inB_t h1, cond_true, cond_false, Bool.and_true, Bool.true_and, Bool.and_false, Bool.false_and, b22_3, if_true, if_false, ite_self]; done) | (simp only [an_wr, inB_t h1, cond_true, cond_false, Bool.and_true, Bool.true_and, Bool.and_false, Bool.false_and] <;> simp [b22_3]; done) | (simp only [an_wr, inB_t h1, cond_true, cond_false, Bool.and_true, Bool.true_and, Bool.and_false, Bool.false_and] <;> decide))⟩
        | succ q ih =>
          intro j f hj
          have hlt : j < m := by omega
          refine R_iload (pc := 31) dX9_write_31 rfl ?_
          refine R_iload_n (pc := 33) dX9_write_33 rfl rfl ?_
          refine R_icge (pc := 34) 67 dX9_write_34 (by decide) (fun h => absurd h (nI_ge hlt (by omega))) (fun _ => ?_)
          refine R_aload_n (pc := 37) dX9_write_37 rfl rfl ?_
          refine g_X9_108 (pc := 38) (v := .ref 170) rfl dX9_write_38 (c_140 _) rfl ?_
          refine R_aload_n (pc := 41) dX9_write_41 rfl rfl ?_
          refine g_X9_254 (pc := 42) (v := .int 0) rfl dX9_write_42 (c_140 _) rfl ?_
          refine R_iload (pc := 45) dX9_write_45 rfl ?_
          refine R_iadd (pc := 47) dX9_write_47 ?_
          refine R_lload_n (pc := 48) dX9_write_48 rfl rfl ?_
          refine R_bipush (pc := 49) (v := 8) dX9_write_49 (by decide) ?_
          refine R_iload (pc := 51) dX9_write_51 rfl ?_
          refine R_imul (pc := 53) dX9_write_53 ?_
          refine R_lshr (pc := 54) dX9_write_54 ?_
          refine R_ldc2 (pc := 55) w_1004c dX9_write_55 ?_
          refine R_land (pc := 58) dX9_write_58 ?_
          refine R_l2i (pc := 59) dX9_write_59 ?_
          refine W_iastore (pc := 60) dX9_write_60 (c_170 _) (by rw [nI_z]; exact vp_in_nI (by omega) (by decide)) (a170F _ _ _) ?_
          refine inc_5_4_1_i (pc := 61) dX9_write_61 ?_
          refine R_goto (pc := 64) 31 dX9_write_64 (by decide) ?_
          rw [nI_1]
          exact ih (j + 1) _ (by omega)
      exact HL m 0 _ (by omega)
    · skip
      refine R_bipush (pc := 25) (v := (-5)) dX9_write_25 (by decide) ?_
      exact R_iret (pc := 27) dX9_write_27 rfl rfl (Nat.zero_le _) (Nat.zero_le _) ⟨_, rfl, (by first | (simp only [an_wr, inB_t h1, cond_true, cond_false, Bool.and_true, Bool.true_and, Bool.and_false, Bool.false_and]; done) | (simp only [an_wr, inB_t h1, cond_true, cond_false, Bool.and_true, Bool.true_and, Bool.and_false, Bool.false_and, b22_3, if_true, if_false, ite_self]; done) | (simp only [an_wr, inB_t h1, cond_true, cond_false, Bool.and_true, Bool.true_and, Bool.and_false, Bool.false_and] <;> simp [b22_3]; done) | (simp only [an_wr, inB_t h1, cond_true, cond_false, Bool.and_true, Bool.true_and, Bool.and_false, Bool.false_and] <;> decide))⟩
  · skip
    refine R_ifne (pc := 7) 13 dX9_write_7 (by decide) (fun h => absurd (by decide) h) (fun _ => ?_)
    refine R_bipush (pc := 10) (v := (-3)) dX9_write_10 (by decide) ?_
    exact R_iret (pc := 12) dX9_write_12 rfl rfl (Nat.zero_le _) (Nat.zero_le _) ⟨_, rfl, (by first | (simp only [an_wr, inB_f h1, cond_true, cond_false, Bool.and_true, Bool.true_and, Bool.and_false, Bool.false_and]; done) | (simp only [an_wr, inB_f h1, cond_true, cond_false, Bool.and_true, Bool.true_and, Bool.and_false, Bool.false_and, if_true, if_true, if_false, ite_self]; done) | (simp only [an_wr, inB_f h1, cond_true, cond_false, Bool.and_true, Bool.true_and, Bool.and_false, Bool.false_and] <;> simp []; done) | (simp only [an_wr, inB_f h1, cond_true, cond_false, Bool.and_true, Bool.true_and, Bool.and_false, Bool.false_and] <;> decide))⟩
theorem dX9_set_0 : decode cX9_set 0 = .ok (.iload_n 1, 1) := by decide +kernel
theorem dX9_set_1 : decode cX9_set 1 = .ok (.iconst 0, 1) := by decide +kernel
theorem dX9_set_2 : decode cX9_set 2 = .ok (.iconst 2, 1) := by decide +kernel
theorem dX9_set_3 : decode cX9_set 3 = .ok (.invokestatic 124, 3) := by decide +kernel
theorem dX9_set_6 : decode cX9_set 6 = .ok (.ifCond .eq 43, 3) := by decide +kernel
theorem dX9_set_9 : decode cX9_set 9 = .ok (.iload_n 2, 1) := by decide +kernel
theorem dX9_set_10 : decode cX9_set 10 = .ok (.iload_n 1, 1) := by decide +kernel
theorem dX9_set_11 : decode cX9_set 11 = .ok (.iconst 2, 1) := by decide +kernel
theorem dX9_set_12 : decode cX9_set 12 = .ok (.if_icmp .ne 7, 3) := by decide +kernel
theorem dX9_set_15 : decode cX9_set 15 = .ok (.iconst 1, 1) := by decide +kernel
theorem dX9_set_16 : decode cX9_set 16 = .ok (.goto 4, 3) := by decide +kernel
theorem dX9_set_19 : decode cX9_set 19 = .ok (.iconst 0, 1) := by decide +kernel
theorem dX9_set_20 : decode cX9_set 20 = .ok (.iload_n 1, 1) := by decide +kernel
theorem dX9_set_21 : decode cX9_set 21 = .ok (.ifCond .ne 8, 3) := by decide +kernel
theorem dX9_set_24 : decode cX9_set 24 = .ok (.bipush 8, 2) := by decide +kernel
theorem dX9_set_26 : decode cX9_set 26 = .ok (.goto 17, 3) := by decide +kernel
theorem dX9_set_29 : decode cX9_set 29 = .ok (.iload_n 1, 1) := by decide +kernel
theorem dX9_set_30 : decode cX9_set 30 = .ok (.iconst 1, 1) := by decide +kernel
theorem dX9_set_31 : decode cX9_set 31 = .ok (.if_icmp .ne 9, 3) := by decide +kernel
theorem dX9_set_34 : decode cX9_set 34 = .ok (.sipush 999, 3) := by decide +kernel
theorem dX9_set_37 : decode cX9_set 37 = .ok (.goto 6, 3) := by decide +kernel
theorem dX9_set_40 : decode cX9_set 40 = .ok (.sipush 10000, 3) := by decide +kernel
theorem dX9_set_43 : decode cX9_set 43 = .ok (.invokestatic 124, 3) := by decide +kernel
theorem dX9_set_46 : decode cX9_set 46 = .ok (.ifCond .ne 6, 3) := by decide +kernel
theorem dX9_set_49 : decode cX9_set 49 = .ok (.bipush (-3), 2) := by decide +kernel
theorem dX9_set_51 : decode cX9_set 51 = .ok (.ireturn, 1) := by decide +kernel
theorem dX9_set_52 : decode cX9_set 52 = .ok (.iload_n 1, 1) := by decide +kernel
theorem dX9_set_53 : decode cX9_set 53 = .ok (.ifCond .ne 10, 3) := by decide +kernel
theorem dX9_set_56 : decode cX9_set 56 = .ok (.aload_n 0, 1) := by decide +kernel
theorem dX9_set_57 : decode cX9_set 57 = .ok (.getfield 41, 3) := by decide +kernel
theorem dX9_set_60 : decode cX9_set 60 = .ok (.goto 19, 3) := by decide +kernel
theorem dX9_set_63 : decode cX9_set 63 = .ok (.iload_n 1, 1) := by decide +kernel
theorem dX9_set_64 : decode cX9_set 64 = .ok (.iconst 1, 1) := by decide +kernel
theorem dX9_set_65 : decode cX9_set 65 = .ok (.if_icmp .ne 10, 3) := by decide +kernel
theorem dX9_set_68 : decode cX9_set 68 = .ok (.aload_n 0, 1) := by decide +kernel
theorem dX9_set_69 : decode cX9_set 69 = .ok (.getfield 45, 3) := by decide +kernel
theorem dX9_set_72 : decode cX9_set 72 = .ok (.goto 7, 3) := by decide +kernel
theorem dX9_set_75 : decode cX9_set 75 = .ok (.aload_n 0, 1) := by decide +kernel
theorem dX9_set_76 : decode cX9_set 76 = .ok (.getfield 48, 3) := by decide +kernel
theorem dX9_set_79 : decode cX9_set 79 = .ok (.istore_n 3, 1) := by decide +kernel
theorem dX9_set_80 : decode cX9_set 80 = .ok (.aload_n 0, 1) := by decide +kernel
theorem dX9_set_81 : decode cX9_set 81 = .ok (.iload_n 1, 1) := by decide +kernel
theorem dX9_set_82 : decode cX9_set 82 = .ok (.ifCond .ne 7, 3) := by decide +kernel
theorem dX9_set_85 : decode cX9_set 85 = .ok (.iload_n 2, 1) := by decide +kernel
theorem dX9_set_86 : decode cX9_set 86 = .ok (.goto 7, 3) := by decide +kernel
theorem dX9_set_89 : decode cX9_set 89 = .ok (.aload_n 0, 1) := by decide +kernel
theorem dX9_set_90 : decode cX9_set 90 = .ok (.getfield 41, 3) := by decide +kernel
theorem dX9_set_93 : decode cX9_set 93 = .ok (.putfield 41, 3) := by decide +kernel
theorem dX9_set_96 : decode cX9_set 96 = .ok (.aload_n 0, 1) := by decide +kernel
theorem dX9_set_97 : decode cX9_set 97 = .ok (.iload_n 1, 1) := by decide +kernel
theorem dX9_set_98 : decode cX9_set 98 = .ok (.iconst 1, 1) := by decide +kernel
theorem dX9_set_99 : decode cX9_set 99 = .ok (.if_icmp .ne 7, 3) := by decide +kernel
theorem dX9_set_102 : decode cX9_set 102 = .ok (.iload_n 2, 1) := by decide +kernel
theorem dX9_set_103 : decode cX9_set 103 = .ok (.goto 7, 3) := by decide +kernel
theorem dX9_set_106 : decode cX9_set 106 = .ok (.aload_n 0, 1) := by decide +kernel
theorem dX9_set_107 : decode cX9_set 107 = .ok (.getfield 45, 3) := by decide +kernel
theorem dX9_set_110 : decode cX9_set 110 = .ok (.putfield 45, 3) := by decide +kernel
theorem dX9_set_113 : decode cX9_set 113 = .ok (.aload_n 0, 1) := by decide +kernel
theorem dX9_set_114 : decode cX9_set 114 = .ok (.iload_n 1, 1) := by decide +kernel
theorem dX9_set_115 : decode cX9_set 115 = .ok (.iconst 2, 1) := by decide +kernel
theorem dX9_set_116 : decode cX9_set 116 = .ok (.if_icmp .ne 7, 3) := by decide +kernel
theorem dX9_set_119 : decode cX9_set 119 = .ok (.iload_n 2, 1) := by decide +kernel
theorem dX9_set_120 : decode cX9_set 120 = .ok (.goto 7, 3) := by decide +kernel
theorem dX9_set_123 : decode cX9_set 123 = .ok (.aload_n 0, 1) := by decide +kernel
theorem dX9_set_124 : decode cX9_set 124 = .ok (.getfield 48, 3) := by decide +kernel
theorem dX9_set_127 : decode cX9_set 127 = .ok (.putfield 48, 3) := by decide +kernel
theorem dX9_set_130 : decode cX9_set 130 = .ok (.iload_n 3, 1) := by decide +kernel
theorem dX9_set_131 : decode cX9_set 131 = .ok (.ireturn, 1) := by decide +kernel
set_option maxRecDepth 100000 in
set_option maxHeartbeats 40000000 in
theorem fm_set {G : vG} {l : Launch} (τ : Sg) (a v : Int32) : Sp G l yX9_set cX9_set 4 (some .int) 1 0 0 [.ref 140, .int a, .int v] (WW (mx τ)) (QI (fun x _ => x = an_set a v)) := by
  refine Sp_of_R [(some (.ref 140)), (some (.int a)), (some (.int v)), none] [none] rfl (by simp) rfl (Nat.le_of_ble_eq_true rfl) ?_
  rcases sw2 a with rfl | rfl | rfl | hsw
  · skip
    refine R_iload_n (pc := 0) dX9_set_0 rfl rfl ?_
    refine R_iconst (pc := 1) (v := 0) dX9_set_1 (by decide) ?_
    refine R_iconst (pc := 2) (v := 2) dX9_set_2 (by decide) ?_
    refine k_X9_124 (pc := 3) (sp_X9_in _ _ _ _) rfl (by decide) (Nat.le_refl _) (Nat.le_refl _) (Nat.le_of_ble_eq_true rfl) dX9_set_3 (fun x w2 h => ?_)
    obtain ⟨rfl, h⟩ := h
    rcases h.symm with ⟨h, -⟩ | ⟨-, rfl⟩
    · exact absurd ⟨by decide, by decide⟩ h
    refine R_ifeq (pc := 6) 49 dX9_set_6 (by decide) (fun h => absurd h (by decide)) (fun _ => ?_)
    refine R_iload_n (pc := 9) dX9_set_9 rfl rfl ?_
    refine R_iload_n (pc := 10) dX9_set_10 rfl rfl ?_
    refine R_iconst (pc := 11) (v := 2) dX9_set_11 (by decide) ?_
    refine R_icne (pc := 12) 19 dX9_set_12 (by decide) (fun _ => ?_) (fun h => absurd h (by decide))
    refine R_iconst (pc := 19) (v := 0) dX9_set_19 (by decide) ?_
    refine R_iload_n (pc := 20) dX9_set_20 rfl rfl ?_
    refine R_ifne (pc := 21) 29 dX9_set_21 (by decide) (fun h => absurd (by decide) h) (fun _ => ?_)
    refine R_bipush (pc := 24) (v := 8) dX9_set_24 (by decide) ?_
    refine R_goto (pc := 26) 43 dX9_set_26 (by decide) ?_
    refine k_X9_124 (pc := 43) (sp_X9_in _ _ _ _) rfl (by decide) (Nat.le_refl _) (Nat.le_refl _) (Nat.le_of_ble_eq_true rfl) dX9_set_43 (fun x w2 h => ?_)
    rcases h with ⟨rfl, ⟨h4, rfl⟩ | ⟨h4, rfl⟩⟩
    · skip
      refine R_ifne (pc := 46) 52 dX9_set_46 (by decide) (fun _ => ?_) (fun h => absurd h (by decide))
      refine R_iload_n (pc := 52) dX9_set_52 rfl rfl ?_
      refine R_ifne (pc := 53) 63 dX9_set_53 (by decide) (fun h => absurd (by decide) h) (fun _ => ?_)
      refine R_aload_n (pc := 56) dX9_set_56 rfl rfl ?_
      refine g_X9_41 (pc := 57) (v := .int 2) rfl dX9_set_57 (c_140 _) rfl ?_
      refine R_goto (pc := 60) 79 dX9_set_60 (by decide) ?_
      refine st_4_3_i_i (pc := 79) dX9_set_79 ?_
      refine R_aload_n (pc := 80) dX9_set_80 rfl rfl ?_
      refine R_iload_n (pc := 81) dX9_set_81 rfl rfl ?_
      refine R_ifne (pc := 82) 89 dX9_set_82 (by decide) (fun h => absurd (by decide) h) (fun _ => ?_)
      refine R_iload_n (pc := 85) dX9_set_85 rfl rfl ?_
      refine R_goto (pc := 86) 93 dX9_set_86 (by decide) ?_
      refine p_X9_41 (pc := 93) rfl dX9_set_93 (c_140 _) (Nat.le_of_ble_eq_true rfl) rfl rfl (s_140_12 _ _) ?_
      refine R_aload_n (pc := 96) dX9_set_96 rfl rfl ?_
      refine R_iload_n (pc := 97) dX9_set_97 rfl rfl ?_
      refine R_iconst (pc := 98) (v := 1) dX9_set_98 (by decide) ?_
      refine R_icne (pc := 99) 106 dX9_set_99 (by decide) (fun _ => ?_) (fun h => absurd h (by decide))
      refine R_aload_n (pc := 106) dX9_set_106 rfl rfl ?_
      refine g_X9_45 (pc := 107) (v := .int 999) rfl dX9_set_107 (c_140 _) rfl ?_
      refine p_X9_45 (pc := 110) rfl dX9_set_110 (c_140 _) (Nat.le_of_ble_eq_true rfl) rfl rfl (s_140_13 _ _) ?_
      refine R_aload_n (pc := 113) dX9_set_113 rfl rfl ?_
      refine R_iload_n (pc := 114) dX9_set_114 rfl rfl ?_
      refine R_iconst (pc := 115) (v := 2) dX9_set_115 (by decide) ?_
      refine R_icne (pc := 116) 123 dX9_set_116 (by decide) (fun _ => ?_) (fun h => absurd h (by decide))
      refine R_aload_n (pc := 123) dX9_set_123 rfl rfl ?_
      refine g_X9_48 (pc := 124) (v := .int 100) rfl dX9_set_124 (c_140 _) rfl ?_
      refine p_X9_48 (pc := 127) rfl dX9_set_127 (c_140 _) (Nat.le_of_ble_eq_true rfl) rfl rfl (s_140_14 _ _) ?_
      refine R_iload_n (pc := 130) dX9_set_130 rfl rfl ?_
      exact R_iret (pc := 131) dX9_set_131 rfl rfl (Nat.zero_le _) (Nat.zero_le _) ⟨_, rfl, (by first | (simp only [an_set, inB_t (show inR 0 0 2 from ⟨by decide, by decide⟩), inB_t h4, cond_true, cond_false, Bool.and_true, Bool.true_and, Bool.and_false, Bool.false_and]; done) | (simp only [an_set, inB_t (show inR 0 0 2 from ⟨by decide, by decide⟩), inB_t h4, cond_true, cond_false, Bool.and_true, Bool.true_and, Bool.and_false, Bool.false_and, if_true, if_true, if_false, ite_self]; done) | (simp only [an_set, inB_t (show inR 0 0 2 from ⟨by decide, by decide⟩), inB_t h4, cond_true, cond_false, Bool.and_true, Bool.true_and, Bool.and_false, Bool.false_and] <;> simp []; done) | (simp only [an_set, inB_t (show inR 0 0 2 from ⟨by decide, by decide⟩), inB_t h4, cond_true, cond_false, Bool.and_true, Bool.true_and, Bool.and_false, Bool.false_and] <;> decide))⟩
    · skip
      refine R_ifne (pc := 46) 52 dX9_set_46 (by decide) (fun h => absurd (by decide) h) (fun _ => ?_)
      refine R_bipush (pc := 49) (v := (-3)) dX9_set_49 (by decide) ?_
      exact R_iret (pc := 51) dX9_set_51 rfl rfl (Nat.zero_le _) (Nat.zero_le _) ⟨_, rfl, (by first | (simp only [an_set, inB_t (show inR 0 0 2 from ⟨by decide, by decide⟩), inB_f h4, cond_true, cond_false, Bool.and_true, Bool.true_and, Bool.and_false, Bool.false_and]; done) | (simp only [an_set, inB_t (show inR 0 0 2 from ⟨by decide, by decide⟩), inB_f h4, cond_true, cond_false, Bool.and_true, Bool.true_and, Bool.and_false, Bool.false_and, if_true, if_true, if_false, ite_self]; done) | (simp only [an_set, inB_t (show inR 0 0 2 from ⟨by decide, by decide⟩), inB_f h4, cond_true, cond_false, Bool.and_true, Bool.true_and, Bool.and_false, Bool.false_and] <;> simp []; done) | (simp only [an_set, inB_t (show inR 0 0 2 from ⟨by decide, by decide⟩), inB_f h4, cond_true, cond_false, Bool.and_true, Bool.true_and, Bool.and_false, Bool.false_and] <;> decide))⟩
  · skip
    refine R_iload_n (pc := 0) dX9_set_0 rfl rfl ?_
    refine R_iconst (pc := 1) (v := 0) dX9_set_1 (by decide) ?_
    refine R_iconst (pc := 2) (v := 2) dX9_set_2 (by decide) ?_
    refine k_X9_124 (pc := 3) (sp_X9_in _ _ _ _) rfl (by decide) (Nat.le_refl _) (Nat.le_refl _) (Nat.le_of_ble_eq_true rfl) dX9_set_3 (fun x w2 h => ?_)
    obtain ⟨rfl, h⟩ := h
    rcases h.symm with ⟨h, -⟩ | ⟨-, rfl⟩
    · exact absurd ⟨by decide, by decide⟩ h
    refine R_ifeq (pc := 6) 49 dX9_set_6 (by decide) (fun h => absurd h (by decide)) (fun _ => ?_)
    refine R_iload_n (pc := 9) dX9_set_9 rfl rfl ?_
    refine R_iload_n (pc := 10) dX9_set_10 rfl rfl ?_
    refine R_iconst (pc := 11) (v := 2) dX9_set_11 (by decide) ?_
    refine R_icne (pc := 12) 19 dX9_set_12 (by decide) (fun _ => ?_) (fun h => absurd h (by decide))
    refine R_iconst (pc := 19) (v := 0) dX9_set_19 (by decide) ?_
    refine R_iload_n (pc := 20) dX9_set_20 rfl rfl ?_
    refine R_ifne (pc := 21) 29 dX9_set_21 (by decide) (fun _ => ?_) (fun h => absurd h (by decide))
    refine R_iload_n (pc := 29) dX9_set_29 rfl rfl ?_
    refine R_iconst (pc := 30) (v := 1) dX9_set_30 (by decide) ?_
    refine R_icne (pc := 31) 40 dX9_set_31 (by decide) (fun h => absurd (by decide) h) (fun _ => ?_)
    refine R_sipush (pc := 34) (v := 999) dX9_set_34 (by decide) ?_
    refine R_goto (pc := 37) 43 dX9_set_37 (by decide) ?_
    refine k_X9_124 (pc := 43) (sp_X9_in _ _ _ _) rfl (by decide) (Nat.le_refl _) (Nat.le_refl _) (Nat.le_of_ble_eq_true rfl) dX9_set_43 (fun x w2 h => ?_)
    rcases h with ⟨rfl, ⟨h15, rfl⟩ | ⟨h15, rfl⟩⟩
    · skip
      refine R_ifne (pc := 46) 52 dX9_set_46 (by decide) (fun _ => ?_) (fun h => absurd h (by decide))
      refine R_iload_n (pc := 52) dX9_set_52 rfl rfl ?_
      refine R_ifne (pc := 53) 63 dX9_set_53 (by decide) (fun _ => ?_) (fun h => absurd h (by decide))
      refine R_iload_n (pc := 63) dX9_set_63 rfl rfl ?_
      refine R_iconst (pc := 64) (v := 1) dX9_set_64 (by decide) ?_
      refine R_icne (pc := 65) 75 dX9_set_65 (by decide) (fun h => absurd (by decide) h) (fun _ => ?_)
      refine R_aload_n (pc := 68) dX9_set_68 rfl rfl ?_
      refine g_X9_45 (pc := 69) (v := .int 999) rfl dX9_set_69 (c_140 _) rfl ?_
      refine R_goto (pc := 72) 79 dX9_set_72 (by decide) ?_
      refine st_4_3_i_i (pc := 79) dX9_set_79 ?_
      refine R_aload_n (pc := 80) dX9_set_80 rfl rfl ?_
      refine R_iload_n (pc := 81) dX9_set_81 rfl rfl ?_
      refine R_ifne (pc := 82) 89 dX9_set_82 (by decide) (fun _ => ?_) (fun h => absurd h (by decide))
      refine R_aload_n (pc := 89) dX9_set_89 rfl rfl ?_
      refine g_X9_41 (pc := 90) (v := .int 2) rfl dX9_set_90 (c_140 _) rfl ?_
      refine p_X9_41 (pc := 93) rfl dX9_set_93 (c_140 _) (Nat.le_of_ble_eq_true rfl) rfl rfl (s_140_12 _ _) ?_
      refine R_aload_n (pc := 96) dX9_set_96 rfl rfl ?_
      refine R_iload_n (pc := 97) dX9_set_97 rfl rfl ?_
      refine R_iconst (pc := 98) (v := 1) dX9_set_98 (by decide) ?_
      refine R_icne (pc := 99) 106 dX9_set_99 (by decide) (fun h => absurd (by decide) h) (fun _ => ?_)
      refine R_iload_n (pc := 102) dX9_set_102 rfl rfl ?_
      refine R_goto (pc := 103) 110 dX9_set_103 (by decide) ?_
      refine p_X9_45 (pc := 110) rfl dX9_set_110 (c_140 _) (Nat.le_of_ble_eq_true rfl) rfl rfl (s_140_13 _ _) ?_
      refine R_aload_n (pc := 113) dX9_set_113 rfl rfl ?_
      refine R_iload_n (pc := 114) dX9_set_114 rfl rfl ?_
      refine R_iconst (pc := 115) (v := 2) dX9_set_115 (by decide) ?_
      refine R_icne (pc := 116) 123 dX9_set_116 (by decide) (fun _ => ?_) (fun h => absurd h (by decide))
      refine R_aload_n (pc := 123) dX9_set_123 rfl rfl ?_
      refine g_X9_48 (pc := 124) (v := .int 100) rfl dX9_set_124 (c_140 _) rfl ?_
      refine p_X9_48 (pc := 127) rfl dX9_set_127 (c_140 _) (Nat.le_of_ble_eq_true rfl) rfl rfl (s_140_14 _ _) ?_
      refine R_iload_n (pc := 130) dX9_set_130 rfl rfl ?_
      exact R_iret (pc := 131) dX9_set_131 rfl rfl (Nat.zero_le _) (Nat.zero_le _) ⟨_, rfl, (by first | (simp only [an_set, inB_t (show inR 1 0 2 from ⟨by decide, by decide⟩), inB_t h15, cond_true, cond_false, Bool.and_true, Bool.true_and, Bool.and_false, Bool.false_and]; done) | (simp only [an_set, inB_t (show inR 1 0 2 from ⟨by decide, by decide⟩), inB_t h15, cond_true, cond_false, Bool.and_true, Bool.true_and, Bool.and_false, Bool.false_and, if_true, if_true, if_false, ite_self]; done) | (simp only [an_set, inB_t (show inR 1 0 2 from ⟨by decide, by decide⟩), inB_t h15, cond_true, cond_false, Bool.and_true, Bool.true_and, Bool.and_false, Bool.false_and] <;> simp []; done) | (simp only [an_set, inB_t (show inR 1 0 2 from ⟨by decide, by decide⟩), inB_t h15, cond_true, cond_false, Bool.and_true, Bool.true_and, Bool.and_false, Bool.false_and] <;> decide))⟩
    · skip
      refine R_ifne (pc := 46) 52 dX9_set_46 (by decide) (fun h => absurd (by decide) h) (fun _ => ?_)
      refine R_bipush (pc := 49) (v := (-3)) dX9_set_49 (by decide) ?_
      exact R_iret (pc := 51) dX9_set_51 rfl rfl (Nat.zero_le _) (Nat.zero_le _) ⟨_, rfl, (by first | (simp only [an_set, inB_t (show inR 1 0 2 from ⟨by decide, by decide⟩), inB_f h15, cond_true, cond_false, Bool.and_true, Bool.true_and, Bool.and_false, Bool.false_and]; done) | (simp only [an_set, inB_t (show inR 1 0 2 from ⟨by decide, by decide⟩), inB_f h15, cond_true, cond_false, Bool.and_true, Bool.true_and, Bool.and_false, Bool.false_and, if_true, if_true, if_false, ite_self]; done) | (simp only [an_set, inB_t (show inR 1 0 2 from ⟨by decide, by decide⟩), inB_f h15, cond_true, cond_false, Bool.and_true, Bool.true_and, Bool.and_false, Bool.false_and] <;> simp []; done) | (simp only [an_set, inB_t (show inR 1 0 2 from ⟨by decide, by decide⟩), inB_f h15, cond_true, cond_false, Bool.and_true, Bool.true_and, Bool.and_false, Bool.false_and] <;> decide))⟩
  · skip
    refine R_iload_n (pc := 0) dX9_set_0 rfl rfl ?_
    refine R_iconst (pc := 1) (v := 0) dX9_set_1 (by decide) ?_
    refine R_iconst (pc := 2) (v := 2) dX9_set_2 (by decide) ?_
    refine k_X9_124 (pc := 3) (sp_X9_in _ _ _ _) rfl (by decide) (Nat.le_refl _) (Nat.le_refl _) (Nat.le_of_ble_eq_true rfl) dX9_set_3 (fun x w2 h => ?_)
    obtain ⟨rfl, h⟩ := h
    rcases h.symm with ⟨h, -⟩ | ⟨-, rfl⟩
    · exact absurd ⟨by decide, by decide⟩ h
    refine R_ifeq (pc := 6) 49 dX9_set_6 (by decide) (fun h => absurd h (by decide)) (fun _ => ?_)
    refine R_iload_n (pc := 9) dX9_set_9 rfl rfl ?_
    refine R_iload_n (pc := 10) dX9_set_10 rfl rfl ?_
    refine R_iconst (pc := 11) (v := 2) dX9_set_11 (by decide) ?_
    refine R_icne (pc := 12) 19 dX9_set_12 (by decide) (fun h => absurd (by decide) h) (fun _ => ?_)
    refine R_iconst (pc := 15) (v := 1) dX9_set_15 (by decide) ?_
    refine R_goto (pc := 16) 20 dX9_set_16 (by decide) ?_
    refine R_iload_n (pc := 20) dX9_set_20 rfl rfl ?_
    refine R_ifne (pc := 21) 29 dX9_set_21 (by decide) (fun _ => ?_) (fun h => absurd h (by decide))
    refine R_iload_n (pc := 29) dX9_set_29 rfl rfl ?_
    refine R_iconst (pc := 30) (v := 1) dX9_set_30 (by decide) ?_
    refine R_icne (pc := 31) 40 dX9_set_31 (by decide) (fun _ => ?_) (fun h => absurd h (by decide))
    refine R_sipush (pc := 40) (v := 10000) dX9_set_40 (by decide) ?_
    refine k_X9_124 (pc := 43) (sp_X9_in _ _ _ _) rfl (by decide) (Nat.le_refl _) (Nat.le_refl _) (Nat.le_of_ble_eq_true rfl) dX9_set_43 (fun x w2 h => ?_)
    rcases h with ⟨rfl, ⟨h27, rfl⟩ | ⟨h27, rfl⟩⟩
    · skip
      refine R_ifne (pc := 46) 52 dX9_set_46 (by decide) (fun _ => ?_) (fun h => absurd h (by decide))
      refine R_iload_n (pc := 52) dX9_set_52 rfl rfl ?_
      refine R_ifne (pc := 53) 63 dX9_set_53 (by decide) (fun _ => ?_) (fun h => absurd h (by decide))
      refine R_iload_n (pc := 63) dX9_set_63 rfl rfl ?_
      refine R_iconst (pc := 64) (v := 1) dX9_set_64 (by decide) ?_
      refine R_icne (pc := 65) 75 dX9_set_65 (by decide) (fun _ => ?_) (fun h => absurd h (by decide))
      refine R_aload_n (pc := 75) dX9_set_75 rfl rfl ?_
      refine g_X9_48 (pc := 76) (v := .int 100) rfl dX9_set_76 (c_140 _) rfl ?_
      refine st_4_3_i_i (pc := 79) dX9_set_79 ?_
      refine R_aload_n (pc := 80) dX9_set_80 rfl rfl ?_
      refine R_iload_n (pc := 81) dX9_set_81 rfl rfl ?_
      refine R_ifne (pc := 82) 89 dX9_set_82 (by decide) (fun _ => ?_) (fun h => absurd h (by decide))
      refine R_aload_n (pc := 89) dX9_set_89 rfl rfl ?_
      refine g_X9_41 (pc := 90) (v := .int 2) rfl dX9_set_90 (c_140 _) rfl ?_
      refine p_X9_41 (pc := 93) rfl dX9_set_93 (c_140 _) (Nat.le_of_ble_eq_true rfl) rfl rfl (s_140_12 _ _) ?_
      refine R_aload_n (pc := 96) dX9_set_96 rfl rfl ?_
      refine R_iload_n (pc := 97) dX9_set_97 rfl rfl ?_
      refine R_iconst (pc := 98) (v := 1) dX9_set_98 (by decide) ?_
      refine R_icne (pc := 99) 106 dX9_set_99 (by decide) (fun _ => ?_) (fun h => absurd h (by decide))
      refine R_aload_n (pc := 106) dX9_set_106 rfl rfl ?_
      refine g_X9_45 (pc := 107) (v := .int 999) rfl dX9_set_107 (c_140 _) rfl ?_
      refine p_X9_45 (pc := 110) rfl dX9_set_110 (c_140 _) (Nat.le_of_ble_eq_true rfl) rfl rfl (s_140_13 _ _) ?_
      refine R_aload_n (pc := 113) dX9_set_113 rfl rfl ?_
      refine R_iload_n (pc := 114) dX9_set_114 rfl rfl ?_
      refine R_iconst (pc := 115) (v := 2) dX9_set_115 (by decide) ?_
      refine R_icne (pc := 116) 123 dX9_set_116 (by decide) (fun h => absurd (by decide) h) (fun _ => ?_)
      refine R_iload_n (pc := 119) dX9_set_119 rfl rfl ?_
      refine R_goto (pc := 120) 127 dX9_set_120 (by decide) ?_
      refine p_X9_48 (pc := 127) rfl dX9_set_127 (c_140 _) (Nat.le_of_ble_eq_true rfl) rfl rfl (s_140_14 _ _) ?_
      refine R_iload_n (pc := 130) dX9_set_130 rfl rfl ?_
      exact R_iret (pc := 131) dX9_set_131 rfl rfl (Nat.zero_le _) (Nat.zero_le _) ⟨_, rfl, (by first | (simp only [an_set, inB_t (show inR 2 0 2 from ⟨by decide, by decide⟩), inB_t h27, cond_true, cond_false, Bool.and_true, Bool.true_and, Bool.and_false, Bool.false_and]; done) | (simp only [an_set, inB_t (show inR 2 0 2 from ⟨by decide, by decide⟩), inB_t h27, cond_true, cond_false, Bool.and_true, Bool.true_and, Bool.and_false, Bool.false_and, if_true, if_true, if_false, ite_self]; done) | (simp only [an_set, inB_t (show inR 2 0 2 from ⟨by decide, by decide⟩), inB_t h27, cond_true, cond_false, Bool.and_true, Bool.true_and, Bool.and_false, Bool.false_and] <;> simp []; done) | (simp only [an_set, inB_t (show inR 2 0 2 from ⟨by decide, by decide⟩), inB_t h27, cond_true, cond_false, Bool.and_true, Bool.true_and, Bool.and_false, Bool.false_and] <;> decide))⟩
    · skip
      refine R_ifne (pc := 46) 52 dX9_set_46 (by decide) (fun h => absurd (by decide) h) (fun _ => ?_)
      refine R_bipush (pc := 49) (v := (-3)) dX9_set_49 (by decide) ?_
      exact R_iret (pc := 51) dX9_set_51 rfl rfl (Nat.zero_le _) (Nat.zero_le _) ⟨_, rfl, (by first | (simp only [an_set, inB_t (show inR 2 0 2 from ⟨by decide, by decide⟩), inB_f h27, cond_true, cond_false, Bool.and_true, Bool.true_and, Bool.and_false, Bool.false_and]; done) | (simp only [an_set, inB_t (show inR 2 0 2 from ⟨by decide, by decide⟩), inB_f h27, cond_true, cond_false, Bool.and_true, Bool.true_and, Bool.and_false, Bool.false_and, if_true, if_true, if_false, ite_self]; done) | (simp only [an_set, inB_t (show inR 2 0 2 from ⟨by decide, by decide⟩), inB_f h27, cond_true, cond_false, Bool.and_true, Bool.true_and, Bool.and_false, Bool.false_and] <;> simp []; done) | (simp only [an_set, inB_t (show inR 2 0 2 from ⟨by decide, by decide⟩), inB_f h27, cond_true, cond_false, Bool.and_true, Bool.true_and, Bool.and_false, Bool.false_and] <;> decide))⟩
  · skip
    refine R_iload_n (pc := 0) dX9_set_0 rfl rfl ?_
    refine R_iconst (pc := 1) (v := 0) dX9_set_1 (by decide) ?_
    refine R_iconst (pc := 2) (v := 2) dX9_set_2 (by decide) ?_
    refine k_X9_124 (pc := 3) (sp_X9_in _ _ _ _) rfl (by decide) (Nat.le_refl _) (Nat.le_refl _) (Nat.le_of_ble_eq_true rfl) dX9_set_3 (fun x w2 h => ?_)
    rcases h with ⟨rfl, ⟨h, -⟩ | ⟨-, rfl⟩⟩
    · exact absurd h (inB_no (sw_out (a := a) (M := 2) hsw))
    refine R_ifeq (pc := 6) 49 dX9_set_6 (by decide) (fun _ => ?_) (fun h => absurd (by decide) h)
    refine R_bipush (pc := 49) (v := (-3)) dX9_set_49 (by decide) ?_
    exact R_iret (pc := 51) dX9_set_51 rfl rfl (Nat.zero_le _) (Nat.zero_le _) ⟨_, rfl, (by first | (simp only [an_set, (sw_out (a := a) (M := 2) hsw), cond_true, cond_false, Bool.and_true, Bool.true_and, Bool.and_false, Bool.false_and]; done) | (simp only [an_set, (sw_out (a := a) (M := 2) hsw), cond_true, cond_false, Bool.and_true, Bool.true_and, Bool.and_false, Bool.false_and, (show ¬ a = 0 from ne_out hsw (by decide)), (show ¬ a = 1 from ne_out hsw (by decide)), (show ¬ a = 2 from ne_out hsw (by decide)), if_true, if_false, ite_self]; done) | (simp only [an_set, (sw_out (a := a) (M := 2) hsw), cond_true, cond_false, Bool.and_true, Bool.true_and, Bool.and_false, Bool.false_and] <;> simp [(show ¬ a = 0 from ne_out hsw (by decide)), (show ¬ a = 1 from ne_out hsw (by decide)), (show ¬ a = 2 from ne_out hsw (by decide))]; done) | (simp only [an_set, (sw_out (a := a) (M := 2) hsw), cond_true, cond_false, Bool.and_true, Bool.true_and, Bool.and_false, Bool.false_and] <;> decide))⟩
theorem dX9_card_0 : decode cX9_card 0 = .ok (.iload_n 1, 1) := by decide +kernel
theorem dX9_card_1 : decode cX9_card 1 = .ok (.iconst 0, 1) := by decide +kernel
theorem dX9_card_2 : decode cX9_card 2 = .ok (.iconst 3, 1) := by decide +kernel
theorem dX9_card_3 : decode cX9_card 3 = .ok (.invokestatic 124, 3) := by decide +kernel
theorem dX9_card_6 : decode cX9_card 6 = .ok (.ifCond .eq 20, 3) := by decide +kernel
theorem dX9_card_9 : decode cX9_card 9 = .ok (.iload_n 2, 1) := by decide +kernel
theorem dX9_card_10 : decode cX9_card 10 = .ok (.invokestatic 128, 3) := by decide +kernel
theorem dX9_card_13 : decode cX9_card 13 = .ok (.ifCond .eq 13, 3) := by decide +kernel
theorem dX9_card_16 : decode cX9_card 16 = .ok (.iload 4, 2) := by decide +kernel
theorem dX9_card_18 : decode cX9_card 18 = .ok (.iconst 0, 1) := by decide +kernel
theorem dX9_card_19 : decode cX9_card 19 = .ok (.iconst 4, 1) := by decide +kernel
theorem dX9_card_20 : decode cX9_card 20 = .ok (.invokestatic 124, 3) := by decide +kernel
theorem dX9_card_23 : decode cX9_card 23 = .ok (.ifCond .ne 6, 3) := by decide +kernel
theorem dX9_card_26 : decode cX9_card 26 = .ok (.bipush (-2), 2) := by decide +kernel
theorem dX9_card_28 : decode cX9_card 28 = .ok (.ireturn, 1) := by decide +kernel
theorem dX9_card_29 : decode cX9_card 29 = .ok (.iload_n 3, 1) := by decide +kernel
theorem dX9_card_30 : decode cX9_card 30 = .ok (.iconst 0, 1) := by decide +kernel
theorem dX9_card_31 : decode cX9_card 31 = .ok (.bipush 99, 2) := by decide +kernel
theorem dX9_card_33 : decode cX9_card 33 = .ok (.invokestatic 124, 3) := by decide +kernel
theorem dX9_card_36 : decode cX9_card 36 = .ok (.ifCond .eq 25, 3) := by decide +kernel
theorem dX9_card_39 : decode cX9_card 39 = .ok (.iload 7, 2) := by decide +kernel
theorem dX9_card_41 : decode cX9_card 41 = .ok (.iconst 0, 1) := by decide +kernel
theorem dX9_card_42 : decode cX9_card 42 = .ok (.iconst 4, 1) := by decide +kernel
theorem dX9_card_43 : decode cX9_card 43 = .ok (.invokestatic 124, 3) := by decide +kernel
theorem dX9_card_46 : decode cX9_card 46 = .ok (.ifCond .eq 15, 3) := by decide +kernel
theorem dX9_card_49 : decode cX9_card 49 = .ok (.iload 8, 2) := by decide +kernel
theorem dX9_card_51 : decode cX9_card 51 = .ok (.iconst (-1), 1) := by decide +kernel
theorem dX9_card_52 : decode cX9_card 52 = .ok (.sipush 20000, 3) := by decide +kernel
theorem dX9_card_55 : decode cX9_card 55 = .ok (.invokestatic 124, 3) := by decide +kernel
theorem dX9_card_58 : decode cX9_card 58 = .ok (.ifCond .ne 6, 3) := by decide +kernel
theorem dX9_card_61 : decode cX9_card 61 = .ok (.bipush (-3), 2) := by decide +kernel
theorem dX9_card_63 : decode cX9_card 63 = .ok (.ireturn, 1) := by decide +kernel
theorem dX9_card_64 : decode cX9_card 64 = .ok (.aload_n 0, 1) := by decide +kernel
theorem dX9_card_65 : decode cX9_card 65 = .ok (.getfield 117, 3) := by decide +kernel
theorem dX9_card_68 : decode cX9_card 68 = .ok (.bipush 20, 2) := by decide +kernel
theorem dX9_card_70 : decode cX9_card 70 = .ok (.if_icmp .ne 6, 3) := by decide +kernel
theorem dX9_card_73 : decode cX9_card 73 = .ok (.bipush (-5), 2) := by decide +kernel
theorem dX9_card_75 : decode cX9_card 75 = .ok (.ireturn, 1) := by decide +kernel
theorem dX9_card_76 : decode cX9_card 76 = .ok (.aload_n 0, 1) := by decide +kernel
theorem dX9_card_77 : decode cX9_card 77 = .ok (.getfield 117, 3) := by decide +kernel
theorem dX9_card_80 : decode cX9_card 80 = .ok (.istore 9, 2) := by decide +kernel
theorem dX9_card_82 : decode cX9_card 82 = .ok (.aload_n 0, 1) := by decide +kernel
theorem dX9_card_83 : decode cX9_card 83 = .ok (.getfield 7, 3) := by decide +kernel
theorem dX9_card_86 : decode cX9_card 86 = .ok (.iload 9, 2) := by decide +kernel
theorem dX9_card_88 : decode cX9_card 88 = .ok (.iload_n 1, 1) := by decide +kernel
theorem dX9_card_89 : decode cX9_card 89 = .ok (.iastore, 1) := by decide +kernel
theorem dX9_card_90 : decode cX9_card 90 = .ok (.aload_n 0, 1) := by decide +kernel
theorem dX9_card_91 : decode cX9_card 91 = .ok (.getfield 13, 3) := by decide +kernel
theorem dX9_card_94 : decode cX9_card 94 = .ok (.iload 9, 2) := by decide +kernel
theorem dX9_card_96 : decode cX9_card 96 = .ok (.iload_n 2, 1) := by decide +kernel
theorem dX9_card_97 : decode cX9_card 97 = .ok (.iastore, 1) := by decide +kernel
theorem dX9_card_98 : decode cX9_card 98 = .ok (.aload_n 0, 1) := by decide +kernel
theorem dX9_card_99 : decode cX9_card 99 = .ok (.getfield 16, 3) := by decide +kernel
theorem dX9_card_102 : decode cX9_card 102 = .ok (.iload 9, 2) := by decide +kernel
theorem dX9_card_104 : decode cX9_card 104 = .ok (.iload_n 3, 1) := by decide +kernel
theorem dX9_card_105 : decode cX9_card 105 = .ok (.iastore, 1) := by decide +kernel
theorem dX9_card_106 : decode cX9_card 106 = .ok (.aload_n 0, 1) := by decide +kernel
theorem dX9_card_107 : decode cX9_card 107 = .ok (.getfield 19, 3) := by decide +kernel
theorem dX9_card_110 : decode cX9_card 110 = .ok (.iload 9, 2) := by decide +kernel
theorem dX9_card_112 : decode cX9_card 112 = .ok (.iload 4, 2) := by decide +kernel
theorem dX9_card_114 : decode cX9_card 114 = .ok (.iastore, 1) := by decide +kernel
theorem dX9_card_115 : decode cX9_card 115 = .ok (.aload_n 0, 1) := by decide +kernel
theorem dX9_card_116 : decode cX9_card 116 = .ok (.getfield 22, 3) := by decide +kernel
theorem dX9_card_119 : decode cX9_card 119 = .ok (.iload 9, 2) := by decide +kernel
theorem dX9_card_121 : decode cX9_card 121 = .ok (.lload 5, 2) := by decide +kernel
theorem dX9_card_123 : decode cX9_card 123 = .ok (.lastore, 1) := by decide +kernel
theorem dX9_card_124 : decode cX9_card 124 = .ok (.aload_n 0, 1) := by decide +kernel
theorem dX9_card_125 : decode cX9_card 125 = .ok (.getfield 26, 3) := by decide +kernel
theorem dX9_card_128 : decode cX9_card 128 = .ok (.iload 9, 2) := by decide +kernel
theorem dX9_card_130 : decode cX9_card 130 = .ok (.iload 7, 2) := by decide +kernel
theorem dX9_card_132 : decode cX9_card 132 = .ok (.iastore, 1) := by decide +kernel
theorem dX9_card_133 : decode cX9_card 133 = .ok (.aload_n 0, 1) := by decide +kernel
theorem dX9_card_134 : decode cX9_card 134 = .ok (.getfield 29, 3) := by decide +kernel
theorem dX9_card_137 : decode cX9_card 137 = .ok (.iload 9, 2) := by decide +kernel
theorem dX9_card_139 : decode cX9_card 139 = .ok (.iload 8, 2) := by decide +kernel
theorem dX9_card_141 : decode cX9_card 141 = .ok (.iastore, 1) := by decide +kernel
theorem dX9_card_142 : decode cX9_card 142 = .ok (.aload_n 0, 1) := by decide +kernel
theorem dX9_card_143 : decode cX9_card 143 = .ok (.getfield 32, 3) := by decide +kernel
theorem dX9_card_146 : decode cX9_card 146 = .ok (.iload 9, 2) := by decide +kernel
theorem dX9_card_148 : decode cX9_card 148 = .ok (.aload_n 0, 1) := by decide +kernel
theorem dX9_card_149 : decode cX9_card 149 = .ok (.getfield 132, 3) := by decide +kernel
theorem dX9_card_152 : decode cX9_card 152 = .ok (.iastore, 1) := by decide +kernel
theorem dX9_card_153 : decode cX9_card 153 = .ok (.iconst 0, 1) := by decide +kernel
theorem dX9_card_154 : decode cX9_card 154 = .ok (.istore 10, 2) := by decide +kernel
theorem dX9_card_156 : decode cX9_card 156 = .ok (.iload 10, 2) := by decide +kernel
theorem dX9_card_158 : decode cX9_card 158 = .ok (.bipush 8, 2) := by decide +kernel
theorem dX9_card_160 : decode cX9_card 160 = .ok (.if_icmp .ge 23, 3) := by decide +kernel
theorem dX9_card_163 : decode cX9_card 163 = .ok (.aload_n 0, 1) := by decide +kernel
theorem dX9_card_164 : decode cX9_card 164 = .ok (.getfield 72, 3) := by decide +kernel
theorem dX9_card_167 : decode cX9_card 167 = .ok (.bipush 8, 2) := by decide +kernel
theorem dX9_card_169 : decode cX9_card 169 = .ok (.iload 9, 2) := by decide +kernel
theorem dX9_card_171 : decode cX9_card 171 = .ok (.imul, 1) := by decide +kernel
theorem dX9_card_172 : decode cX9_card 172 = .ok (.iload 10, 2) := by decide +kernel
theorem dX9_card_174 : decode cX9_card 174 = .ok (.iadd, 1) := by decide +kernel
theorem dX9_card_175 : decode cX9_card 175 = .ok (.iconst 2, 1) := by decide +kernel
theorem dX9_card_176 : decode cX9_card 176 = .ok (.iastore, 1) := by decide +kernel
theorem dX9_card_177 : decode cX9_card 177 = .ok (.iinc 10 1, 3) := by decide +kernel
theorem dX9_card_180 : decode cX9_card 180 = .ok (.goto (-24), 3) := by decide +kernel
theorem dX9_card_183 : decode cX9_card 183 = .ok (.aload_n 0, 1) := by decide +kernel
theorem dX9_card_184 : decode cX9_card 184 = .ok (.dup, 1) := by decide +kernel
theorem dX9_card_185 : decode cX9_card 185 = .ok (.getfield 117, 3) := by decide +kernel
theorem dX9_card_188 : decode cX9_card 188 = .ok (.iconst 1, 1) := by decide +kernel
theorem dX9_card_189 : decode cX9_card 189 = .ok (.iadd, 1) := by decide +kernel
theorem dX9_card_190 : decode cX9_card 190 = .ok (.putfield 117, 3) := by decide +kernel
theorem dX9_card_193 : decode cX9_card 193 = .ok (.iload 9, 2) := by decide +kernel
theorem dX9_card_195 : decode cX9_card 195 = .ok (.ireturn, 1) := by decide +kernel
set_option maxRecDepth 100000 in
set_option maxHeartbeats 40000000 in
theorem fm_card {G : vG} {l : Launch} (τ : Sg) (l9 p n b : Int32) (t : Int64) (s u : Int32) : Sp G l yX9_card cX9_card 11 (some .int) 2 0 0 [.ref 140, .int l9, .int p, .int n, .int b, .long t, .int s, .int u] (WW (mx τ)) (QI (fun x _ => x = an_card l9 p n b s u)) := by
  refine Sp_of_R [(some (.ref 140)), (some (.int l9)), (some (.int p)), (some (.int n)), (some (.int b)), (some (.long t)), none, (some (.int s)), (some (.int u)), none, none] [none, none] rfl (by simp) rfl (Nat.le_of_ble_eq_true rfl) ?_
  refine R_iload_n (pc := 0) dX9_card_0 rfl rfl ?_
  refine R_iconst (pc := 1) (v := 0) dX9_card_1 (by decide) ?_
  refine R_iconst (pc := 2) (v := 3) dX9_card_2 (by decide) ?_
  refine k_X9_124 (pc := 3) (sp_X9_in _ _ _ _) rfl (by decide) (Nat.le_refl _) (Nat.le_refl _) (Nat.le_of_ble_eq_true rfl) dX9_card_3 (fun x w2 h => ?_)
  rcases h with ⟨rfl, ⟨h1, rfl⟩ | ⟨h1, rfl⟩⟩
  · skip
    refine R_ifeq (pc := 6) 26 dX9_card_6 (by decide) (fun h => absurd h (by decide)) (fun _ => ?_)
    refine R_iload_n (pc := 9) dX9_card_9 rfl rfl ?_
    refine k_X9_128 (pc := 10) (sp_X9_isPublisher _ _) rfl (by decide) (Nat.le_refl _) (Nat.le_refl _) (Nat.le_of_ble_eq_true rfl) dX9_card_10 (fun x w2 h => ?_)
    rcases h with ⟨rfl, ⟨h3, rfl⟩ | ⟨h3, rfl⟩⟩
    · skip
      refine R_ifeq (pc := 13) 26 dX9_card_13 (by decide) (fun h => absurd h (by decide)) (fun _ => ?_)
      refine R_iload (pc := 16) dX9_card_16 rfl ?_
      refine R_iconst (pc := 18) (v := 0) dX9_card_18 (by decide) ?_
      refine R_iconst (pc := 19) (v := 4) dX9_card_19 (by decide) ?_
      refine k_X9_124 (pc := 20) (sp_X9_in _ _ _ _) rfl (by decide) (Nat.le_refl _) (Nat.le_refl _) (Nat.le_of_ble_eq_true rfl) dX9_card_20 (fun x w2 h => ?_)
      rcases h with ⟨rfl, ⟨h5, rfl⟩ | ⟨h5, rfl⟩⟩
      · skip
        refine R_ifne (pc := 23) 29 dX9_card_23 (by decide) (fun _ => ?_) (fun h => absurd h (by decide))
        refine R_iload_n (pc := 29) dX9_card_29 rfl rfl ?_
        refine R_iconst (pc := 30) (v := 0) dX9_card_30 (by decide) ?_
        refine R_bipush (pc := 31) (v := 99) dX9_card_31 (by decide) ?_
        refine k_X9_124 (pc := 33) (sp_X9_in _ _ _ _) rfl (by decide) (Nat.le_refl _) (Nat.le_refl _) (Nat.le_of_ble_eq_true rfl) dX9_card_33 (fun x w2 h => ?_)
        rcases h with ⟨rfl, ⟨h7, rfl⟩ | ⟨h7, rfl⟩⟩
        · skip
          refine R_ifeq (pc := 36) 61 dX9_card_36 (by decide) (fun h => absurd h (by decide)) (fun _ => ?_)
          refine R_iload (pc := 39) dX9_card_39 rfl ?_
          refine R_iconst (pc := 41) (v := 0) dX9_card_41 (by decide) ?_
          refine R_iconst (pc := 42) (v := 4) dX9_card_42 (by decide) ?_
          refine k_X9_124 (pc := 43) (sp_X9_in _ _ _ _) rfl (by decide) (Nat.le_refl _) (Nat.le_refl _) (Nat.le_of_ble_eq_true rfl) dX9_card_43 (fun x w2 h => ?_)
          rcases h with ⟨rfl, ⟨h9, rfl⟩ | ⟨h9, rfl⟩⟩
          · skip
            refine R_ifeq (pc := 46) 61 dX9_card_46 (by decide) (fun h => absurd h (by decide)) (fun _ => ?_)
            refine R_iload (pc := 49) dX9_card_49 rfl ?_
            refine R_iconst (pc := 51) (v := (-1)) dX9_card_51 (by decide) ?_
            refine R_sipush (pc := 52) (v := 20000) dX9_card_52 (by decide) ?_
            refine k_X9_124 (pc := 55) (sp_X9_in _ _ _ _) rfl (by decide) (Nat.le_refl _) (Nat.le_refl _) (Nat.le_of_ble_eq_true rfl) dX9_card_55 (fun x w2 h => ?_)
            rcases h with ⟨rfl, ⟨h11, rfl⟩ | ⟨h11, rfl⟩⟩
            · skip
              refine R_ifne (pc := 58) 64 dX9_card_58 (by decide) (fun _ => ?_) (fun h => absurd h (by decide))
              refine R_aload_n (pc := 64) dX9_card_64 rfl rfl ?_
              refine g_X9_117 (pc := 65) (v := .int 0) rfl dX9_card_65 (c_140 _) rfl ?_
              refine R_bipush (pc := 68) (v := 20) dX9_card_68 (by decide) ?_
              refine R_icne (pc := 70) 76 dX9_card_70 (by decide) (fun _ => ?_) (fun h => absurd h (by decide))
              refine R_aload_n (pc := 76) dX9_card_76 rfl rfl ?_
              refine g_X9_117 (pc := 77) (v := .int 0) rfl dX9_card_77 (c_140 _) rfl ?_
              refine st_11_9_i_i (pc := 80) dX9_card_80 ?_
              refine R_aload_n (pc := 82) dX9_card_82 rfl rfl ?_
              refine g_X9_7 (pc := 83) (v := .ref 141) rfl dX9_card_83 (c_140 _) rfl ?_
              refine R_iload (pc := 86) dX9_card_86 rfl ?_
              refine R_iload_n (pc := 88) dX9_card_88 rfl rfl ?_
              refine W_iastore (pc := 89) dX9_card_89 (c_141 _) (by unfold vp_in; decide) (a_141 _ _) ?_
              refine R_aload_n (pc := 90) dX9_card_90 rfl rfl ?_
              refine g_X9_13 (pc := 91) (v := .ref 142) rfl dX9_card_91 (c_140 _) rfl ?_
              refine R_iload (pc := 94) dX9_card_94 rfl ?_
              refine R_iload_n (pc := 96) dX9_card_96 rfl rfl ?_
              refine W_iastore (pc := 97) dX9_card_97 (c_142 _) (by unfold vp_in; decide) (a_142 _ _) ?_
              refine R_aload_n (pc := 98) dX9_card_98 rfl rfl ?_
              refine g_X9_16 (pc := 99) (v := .ref 143) rfl dX9_card_99 (c_140 _) rfl ?_
              refine R_iload (pc := 102) dX9_card_102 rfl ?_
              refine R_iload_n (pc := 104) dX9_card_104 rfl rfl ?_
              refine W_iastore (pc := 105) dX9_card_105 (c_143 _) (by unfold vp_in; decide) (a_143 _ _) ?_
              refine R_aload_n (pc := 106) dX9_card_106 rfl rfl ?_
              refine g_X9_19 (pc := 107) (v := .ref 144) rfl dX9_card_107 (c_140 _) rfl ?_
              refine R_iload (pc := 110) dX9_card_110 rfl ?_
              refine R_iload (pc := 112) dX9_card_112 rfl ?_
              refine W_iastore (pc := 114) dX9_card_114 (c_144 _) (by unfold vp_in; decide) (a_144 _ _) ?_
              refine R_aload_n (pc := 115) dX9_card_115 rfl rfl ?_
              refine g_X9_22 (pc := 116) (v := .ref 145) rfl dX9_card_116 (c_140 _) rfl ?_
              refine R_iload (pc := 119) dX9_card_119 rfl ?_
              refine R_lload (pc := 121) dX9_card_121 rfl ?_
              refine W_lastore (pc := 123) dX9_card_123 (c_145 _) (by unfold vp_in; decide) (a_145 _ _) ?_
              refine R_aload_n (pc := 124) dX9_card_124 rfl rfl ?_
              refine g_X9_26 (pc := 125) (v := .ref 146) rfl dX9_card_125 (c_140 _) rfl ?_
              refine R_iload (pc := 128) dX9_card_128 rfl ?_
              refine R_iload (pc := 130) dX9_card_130 rfl ?_
              refine W_iastore (pc := 132) dX9_card_132 (c_146 _) (by unfold vp_in; decide) (a_146 _ _) ?_
              refine R_aload_n (pc := 133) dX9_card_133 rfl rfl ?_
              refine g_X9_29 (pc := 134) (v := .ref 147) rfl dX9_card_134 (c_140 _) rfl ?_
              refine R_iload (pc := 137) dX9_card_137 rfl ?_
              refine R_iload (pc := 139) dX9_card_139 rfl ?_
              refine W_iastore (pc := 141) dX9_card_141 (c_147 _) (by unfold vp_in; decide) (a_147 _ _) ?_
              refine R_aload_n (pc := 142) dX9_card_142 rfl rfl ?_
              refine g_X9_32 (pc := 143) (v := .ref 148) rfl dX9_card_143 (c_140 _) rfl ?_
              refine R_iload (pc := 146) dX9_card_146 rfl ?_
              refine R_aload_n (pc := 148) dX9_card_148 rfl rfl ?_
              refine g_X9_132 (pc := 149) (v := .int 0) rfl dX9_card_149 (c_140 _) rfl ?_
              refine W_iastore (pc := 152) dX9_card_152 (c_148 _) (by unfold vp_in; decide) (a_148 _ _) ?_
              refine R_iconst (pc := 153) (v := 0) dX9_card_153 (by decide) ?_
              refine st_11_10_i_i (pc := 154) dX9_card_154 ?_
              have HL156 : ∀ (q j : Nat) (σ : Sg), j + q = 8 → σ.1 14000 = 0 → R G l yX9_card cX9_card 11 (some .int) 2 0 0 (QI (fun x _ => x = an_card l9 p n b s u)) 156 [(some (.ref 140)), (some (.int l9)), (some (.int p)), (some (.int n)), (some (.int b)), (some (.long t)), none, (some (.int s)), (some (.int u)), (some (.int 0)), (some (.int (nI j)))] [] (WW σ) 0 0 := by
                intro q
                induction q with
                | zero =>
                  intro j σ hj h0
                  obtain rfl : j = 8 := by omega
                  refine R_iload (pc := 156) dX9_card_156 rfl ?_
                  refine R_bipush (pc := 158) (v := 8) dX9_card_158 (by decide) ?_
                  refine R_icge (pc := 160) 183 dX9_card_160 (by decide) (fun _ => ?_) (fun h => absurd (by decide) h)
                  refine R_aload_n (pc := 183) dX9_card_183 rfl rfl ?_
                  refine R_dup (pc := 184) dX9_card_184 rfl ?_
                  refine g_X9_117 (pc := 185) (v := .int 0) rfl dX9_card_185 (c_140 _) (by show some (Value.int (σ.1 14000)) = _; rw [h0]) ?_
                  refine R_iconst (pc := 188) (v := 1) dX9_card_188 (by decide) ?_
                  refine R_iadd (pc := 189) dX9_card_189 ?_
                  refine R_cv 1 (by decide) ?_
                  refine p_X9_117 (pc := 190) rfl dX9_card_190 (c_140 _) (Nat.le_of_ble_eq_true rfl) rfl rfl (s_140_0 _ _) ?_
                  refine R_iload (pc := 193) dX9_card_193 rfl ?_
                  exact R_iret (pc := 195) dX9_card_195 rfl rfl (Nat.zero_le _) (Nat.zero_le _) ⟨_, rfl, (by first | (simp only [an_card, inB_t h1, inB_t h3, inB_t h5, inB_t h7, inB_t h9, inB_t h11, cond_true, cond_false, Bool.and_true, Bool.true_and, Bool.and_false, Bool.false_and]; done) | (simp only [an_card, inB_t h1, inB_t h3, inB_t h5, inB_t h7, inB_t h9, inB_t h11, cond_true, cond_false, Bool.and_true, Bool.true_and, Bool.and_false, Bool.false_and, if_true, if_true, if_false, ite_self]; done) | (simp only [an_card, inB_t h1, inB_t h3, inB_t h5, inB_t h7, inB_t h9, inB_t h11, cond_true, cond_false, Bool.and_true, Bool.true_and, Bool.and_false, Bool.false_and] <;> simp []; done) | (simp only [an_card, inB_t h1, inB_t h3, inB_t h5, inB_t h7, inB_t h9, inB_t h11, cond_true, cond_false, Bool.and_true, Bool.true_and, Bool.and_false, Bool.false_and] <;> decide))⟩
                | succ q ih =>
                  intro j σ hj h0
                  have hlt : j < 8 := by omega
                  refine R_iload (pc := 156) dX9_card_156 rfl ?_
                  refine R_bipush (pc := 158) (v := 8) dX9_card_158 (by decide) ?_
                  refine R_icge (pc := 160) 183 dX9_card_160 (by decide) (fun h => absurd h (nI_ge hlt (by decide))) (fun _ => ?_)
                  refine R_aload_n (pc := 163) dX9_card_163 rfl rfl ?_
                  refine g_X9_72 (pc := 164) (v := .ref 158) rfl dX9_card_164 (c_140 _) rfl ?_
                  refine R_bipush (pc := 167) (v := 8) dX9_card_167 (by decide) ?_
                  refine R_iload (pc := 169) dX9_card_169 rfl ?_
                  refine R_imul (pc := 171) dX9_card_171 ?_
                  refine R_cv 0 (by decide) ?_
                  refine R_iload (pc := 172) dX9_card_172 rfl ?_
                  refine R_iadd (pc := 174) dX9_card_174 ?_
                  refine R_iconst (pc := 175) (v := 2) dX9_card_175 (by decide) ?_
                  refine W_iastore (pc := 176) dX9_card_176 (c_158 _) (by rw [nI_z]; exact vp_in_nI (by omega) (by decide)) (a_158 _ _) ?_
                  refine inc_11_10_1_i (pc := 177) dX9_card_177 ?_
                  refine R_goto (pc := 180) 156 dX9_card_180 (by decide) ?_
                  rw [nI_1]
                  exact ih (j + 1) _ (by omega) h0
              exact HL156 8 0 _ (by omega) rfl
            · skip
              refine R_ifne (pc := 58) 64 dX9_card_58 (by decide) (fun h => absurd (by decide) h) (fun _ => ?_)
              refine R_bipush (pc := 61) (v := (-3)) dX9_card_61 (by decide) ?_
              exact R_iret (pc := 63) dX9_card_63 rfl rfl (Nat.zero_le _) (Nat.zero_le _) ⟨_, rfl, (by first | (simp only [an_card, inB_t h1, inB_t h3, inB_t h5, inB_t h7, inB_t h9, inB_f h11, cond_true, cond_false, Bool.and_true, Bool.true_and, Bool.and_false, Bool.false_and]; done) | (simp only [an_card, inB_t h1, inB_t h3, inB_t h5, inB_t h7, inB_t h9, inB_f h11, cond_true, cond_false, Bool.and_true, Bool.true_and, Bool.and_false, Bool.false_and, if_true, if_true, if_false, ite_self]; done) | (simp only [an_card, inB_t h1, inB_t h3, inB_t h5, inB_t h7, inB_t h9, inB_f h11, cond_true, cond_false, Bool.and_true, Bool.true_and, Bool.and_false, Bool.false_and] <;> simp []; done) | (simp only [an_card, inB_t h1, inB_t h3, inB_t h5, inB_t h7, inB_t h9, inB_f h11, cond_true, cond_false, Bool.and_true, Bool.true_and, Bool.and_false, Bool.false_and] <;> decide))⟩
          · skip
            refine R_ifeq (pc := 46) 61 dX9_card_46 (by decide) (fun _ => ?_) (fun h => absurd (by decide) h)
            refine R_bipush (pc := 61) (v := (-3)) dX9_card_61 (by decide) ?_
            exact R_iret (pc := 63) dX9_card_63 rfl rfl (Nat.zero_le _) (Nat.zero_le _) ⟨_, rfl, (by first | (simp only [an_card, inB_t h1, inB_t h3, inB_t h5, inB_t h7, inB_f h9, cond_true, cond_false, Bool.and_true, Bool.true_and, Bool.and_false, Bool.false_and]; done) | (simp only [an_card, inB_t h1, inB_t h3, inB_t h5, inB_t h7, inB_f h9, cond_true, cond_false, Bool.and_true, Bool.true_and, Bool.and_false, Bool.false_and, if_true, if_true, if_false, ite_self]; done) | (simp only [an_card, inB_t h1, inB_t h3, inB_t h5, inB_t h7, inB_f h9, cond_true, cond_false, Bool.and_true, Bool.true_and, Bool.and_false, Bool.false_and] <;> simp []; done) | (simp only [an_card, inB_t h1, inB_t h3, inB_t h5, inB_t h7, inB_f h9, cond_true, cond_false, Bool.and_true, Bool.true_and, Bool.and_false, Bool.false_and] <;> decide))⟩
        · skip
          refine R_ifeq (pc := 36) 61 dX9_card_36 (by decide) (fun _ => ?_) (fun h => absurd (by decide) h)
          refine R_bipush (pc := 61) (v := (-3)) dX9_card_61 (by decide) ?_
          exact R_iret (pc := 63) dX9_card_63 rfl rfl (Nat.zero_le _) (Nat.zero_le _) ⟨_, rfl, (by first | (simp only [an_card, inB_t h1, inB_t h3, inB_t h5, inB_f h7, cond_true, cond_false, Bool.and_true, Bool.true_and, Bool.and_false, Bool.false_and]; done) | (simp only [an_card, inB_t h1, inB_t h3, inB_t h5, inB_f h7, cond_true, cond_false, Bool.and_true, Bool.true_and, Bool.and_false, Bool.false_and, if_true, if_true, if_false, ite_self]; done) | (simp only [an_card, inB_t h1, inB_t h3, inB_t h5, inB_f h7, cond_true, cond_false, Bool.and_true, Bool.true_and, Bool.and_false, Bool.false_and] <;> simp []; done) | (simp only [an_card, inB_t h1, inB_t h3, inB_t h5, inB_f h7, cond_true, cond_false, Bool.and_true, Bool.true_and, Bool.and_false, Bool.false_and] <;> decide))⟩
      · skip
        refine R_ifne (pc := 23) 29 dX9_card_23 (by decide) (fun h => absurd (by decide) h) (fun _ => ?_)
        refine R_bipush (pc := 26) (v := (-2)) dX9_card_26 (by decide) ?_
        exact R_iret (pc := 28) dX9_card_28 rfl rfl (Nat.zero_le _) (Nat.zero_le _) ⟨_, rfl, (by first | (simp only [an_card, inB_t h1, inB_t h3, inB_f h5, cond_true, cond_false, Bool.and_true, Bool.true_and, Bool.and_false, Bool.false_and]; done) | (simp only [an_card, inB_t h1, inB_t h3, inB_f h5, cond_true, cond_false, Bool.and_true, Bool.true_and, Bool.and_false, Bool.false_and, if_true, if_true, if_false, ite_self]; done) | (simp only [an_card, inB_t h1, inB_t h3, inB_f h5, cond_true, cond_false, Bool.and_true, Bool.true_and, Bool.and_false, Bool.false_and] <;> simp []; done) | (simp only [an_card, inB_t h1, inB_t h3, inB_f h5, cond_true, cond_false, Bool.and_true, Bool.true_and, Bool.and_false, Bool.false_and] <;> decide))⟩
    · skip
      refine R_ifeq (pc := 13) 26 dX9_card_13 (by decide) (fun _ => ?_) (fun h => absurd (by decide) h)
      refine R_bipush (pc := 26) (v := (-2)) dX9_card_26 (by decide) ?_
      exact R_iret (pc := 28) dX9_card_28 rfl rfl (Nat.zero_le _) (Nat.zero_le _) ⟨_, rfl, (by first | (simp only [an_card, inB_t h1, inB_f h3, cond_true, cond_false, Bool.and_true, Bool.true_and, Bool.and_false, Bool.false_and]; done) | (simp only [an_card, inB_t h1, inB_f h3, cond_true, cond_false, Bool.and_true, Bool.true_and, Bool.and_false, Bool.false_and, if_true, if_true, if_false, ite_self]; done) | (simp only [an_card, inB_t h1, inB_f h3, cond_true, cond_false, Bool.and_true, Bool.true_and, Bool.and_false, Bool.false_and] <;> simp []; done) | (simp only [an_card, inB_t h1, inB_f h3, cond_true, cond_false, Bool.and_true, Bool.true_and, Bool.and_false, Bool.false_and] <;> decide))⟩
  · skip
    refine R_ifeq (pc := 6) 26 dX9_card_6 (by decide) (fun _ => ?_) (fun h => absurd (by decide) h)
    refine R_bipush (pc := 26) (v := (-2)) dX9_card_26 (by decide) ?_
    exact R_iret (pc := 28) dX9_card_28 rfl rfl (Nat.zero_le _) (Nat.zero_le _) ⟨_, rfl, (by first | (simp only [an_card, inB_f h1, cond_true, cond_false, Bool.and_true, Bool.true_and, Bool.and_false, Bool.false_and]; done) | (simp only [an_card, inB_f h1, cond_true, cond_false, Bool.and_true, Bool.true_and, Bool.and_false, Bool.false_and, if_true, if_true, if_false, ite_self]; done) | (simp only [an_card, inB_f h1, cond_true, cond_false, Bool.and_true, Bool.true_and, Bool.and_false, Bool.false_and] <;> simp []; done) | (simp only [an_card, inB_f h1, cond_true, cond_false, Bool.and_true, Bool.true_and, Bool.and_false, Bool.false_and] <;> decide))⟩
