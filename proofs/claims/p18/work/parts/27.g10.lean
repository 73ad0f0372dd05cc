/-! methods on any state that keeps the invariant -/
theorem dX8_write_0 : decode cX8_write 0 = .ok (.iload_n 3, 1) := by decide +kernel
theorem dX8_write_1 : decode cX8_write 1 = .ok (.iconst 1, 1) := by decide +kernel
theorem dX8_write_2 : decode cX8_write 2 = .ok (.bipush 8, 2) := by decide +kernel
theorem dX8_write_4 : decode cX8_write 4 = .ok (.invokestatic 72, 3) := by decide +kernel
theorem dX8_write_7 : decode cX8_write 7 = .ok (.ifCond .ne 6, 3) := by decide +kernel
theorem dX8_write_10 : decode cX8_write 10 = .ok (.bipush (-3), 2) := by decide +kernel
theorem dX8_write_12 : decode cX8_write 12 = .ok (.ireturn, 1) := by decide +kernel
theorem dX8_write_13 : decode cX8_write 13 = .ok (.aload_n 0, 1) := by decide +kernel
theorem dX8_write_14 : decode cX8_write 14 = .ok (.getfield 51, 3) := by decide +kernel
theorem dX8_write_17 : decode cX8_write 17 = .ok (.getfield 291, 3) := by decide +kernel
theorem dX8_write_20 : decode cX8_write 20 = .ok (.iload_n 3, 1) := by decide +kernel
theorem dX8_write_21 : decode cX8_write 21 = .ok (.iadd, 1) := by decide +kernel
theorem dX8_write_22 : decode cX8_write 22 = .ok (.sipush 160, 3) := by decide +kernel
theorem dX8_write_25 : decode cX8_write 25 = .ok (.if_icmp .le 6, 3) := by decide +kernel
theorem dX8_write_28 : decode cX8_write 28 = .ok (.bipush (-5), 2) := by decide +kernel
theorem dX8_write_30 : decode cX8_write 30 = .ok (.ireturn, 1) := by decide +kernel
theorem dX8_write_31 : decode cX8_write 31 = .ok (.iconst 0, 1) := by decide +kernel
theorem dX8_write_32 : decode cX8_write 32 = .ok (.istore 4, 2) := by decide +kernel
theorem dX8_write_34 : decode cX8_write 34 = .ok (.iload 4, 2) := by decide +kernel
theorem dX8_write_36 : decode cX8_write 36 = .ok (.iload_n 3, 1) := by decide +kernel
theorem dX8_write_37 : decode cX8_write 37 = .ok (.if_icmp .ge 33, 3) := by decide +kernel
theorem dX8_write_40 : decode cX8_write 40 = .ok (.aload_n 0, 1) := by decide +kernel
theorem dX8_write_41 : decode cX8_write 41 = .ok (.getfield 51, 3) := by decide +kernel
theorem dX8_write_44 : decode cX8_write 44 = .ok (.getfield 292, 3) := by decide +kernel
theorem dX8_write_47 : decode cX8_write 47 = .ok (.aload_n 0, 1) := by decide +kernel
theorem dX8_write_48 : decode cX8_write 48 = .ok (.getfield 51, 3) := by decide +kernel
theorem dX8_write_51 : decode cX8_write 51 = .ok (.getfield 291, 3) := by decide +kernel
theorem dX8_write_54 : decode cX8_write 54 = .ok (.iload 4, 2) := by decide +kernel
theorem dX8_write_56 : decode cX8_write 56 = .ok (.iadd, 1) := by decide +kernel
theorem dX8_write_57 : decode cX8_write 57 = .ok (.lload_n 1, 1) := by decide +kernel
theorem dX8_write_58 : decode cX8_write 58 = .ok (.iload 4, 2) := by decide +kernel
theorem dX8_write_60 : decode cX8_write 60 = .ok (.invokestatic 94, 3) := by decide +kernel
theorem dX8_write_63 : decode cX8_write 63 = .ok (.iastore, 1) := by decide +kernel
theorem dX8_write_64 : decode cX8_write 64 = .ok (.iinc 4 1, 3) := by decide +kernel
theorem dX8_write_67 : decode cX8_write 67 = .ok (.goto (-33), 3) := by decide +kernel
theorem dX8_write_70 : decode cX8_write 70 = .ok (.aload_n 0, 1) := by decide +kernel
theorem dX8_write_71 : decode cX8_write 71 = .ok (.getfield 51, 3) := by decide +kernel
theorem dX8_write_74 : decode cX8_write 74 = .ok (.dup, 1) := by decide +kernel
theorem dX8_write_75 : decode cX8_write 75 = .ok (.getfield 291, 3) := by decide +kernel
theorem dX8_write_78 : decode cX8_write 78 = .ok (.iload_n 3, 1) := by decide +kernel
theorem dX8_write_79 : decode cX8_write 79 = .ok (.iadd, 1) := by decide +kernel
theorem dX8_write_80 : decode cX8_write 80 = .ok (.putfield 291, 3) := by decide +kernel
theorem dX8_write_83 : decode cX8_write 83 = .ok (.aload_n 0, 1) := by decide +kernel
theorem dX8_write_84 : decode cX8_write 84 = .ok (.getfield 51, 3) := by decide +kernel
theorem dX8_write_87 : decode cX8_write 87 = .ok (.getfield 291, 3) := by decide +kernel
theorem dX8_write_90 : decode cX8_write 90 = .ok (.ireturn, 1) := by decide +kernel
set_option maxRecDepth 100000 in
set_option maxHeartbeats 40000000 in
theorem gp_write {G : vG} {l : Launch} (σ : Sg) (p : Int64) (n : Int32) (hI : Inv σ) : Sp G l yX8_write cX8_write 5 (some .int) 1 0 0 [.ref 0, .long p, .int n] (WW σ) (QI (fun _ w2 => ∃ σ2, w2 = WW σ2 ∧ Inv σ2)) := by
  refine Sp_of_R [(some (.ref 0)), (some (.long p)), none, (some (.int n)), none] [none] rfl (by simp) rfl (Nat.le_of_ble_eq_true rfl) ?_
  refine R_iload_n (pc := 0) dX8_write_0 rfl rfl ?_
  refine R_iconst (pc := 1) (v := 1) dX8_write_1 (by decide) ?_
  refine R_bipush (pc := 2) (v := 8) dX8_write_2 (by decide) ?_
  refine k_X8_72 (pc := 4) (sp_X8_isWithin _ _ _ _) rfl (by decide) (Nat.le_refl _) (Nat.le_refl _) (Nat.le_of_ble_eq_true rfl) dX8_write_4 (fun x w2 h => ?_)
  rcases h with ⟨rfl, ⟨h1, rfl⟩ | ⟨h1, rfl⟩⟩
  · skip
    refine R_ifne (pc := 7) 13 dX8_write_7 (by decide) (fun _ => ?_) (fun h => absurd h (by decide))
    refine R_aload_n (pc := 13) dX8_write_13 rfl rfl ?_
    refine g_X8_51 (pc := 14) (v := .ref 117) rfl dX8_write_14 (c_0 _) rfl ?_
    refine g_X8_291 (pc := 17) (v := .int (σ.1 11701)) rfl dX8_write_17 (c_117 _) rfl ?_
    refine R_iload_n (pc := 20) dX8_write_20 rfl rfl ?_
    refine R_iadd (pc := 21) dX8_write_21 ?_
    have r3 : inR ((σ.1 11701) + n) 1 168 := inR_add (show inR (σ.1 11701) 0 160 from (iv_11701 hI)) (show inR n 1 8 from h1) (by decide) (by decide)
    have e4 := ti_add (l := 1) (h := 168) (show inR (σ.1 11701) 0 160 from (iv_11701 hI)) (show inR n 1 8 from h1) (by decide) (by decide)
    refine R_sipush (pc := 22) (v := 160) dX8_write_22 (by decide) ?_
    refine R_icle (pc := 25) 31 dX8_write_25 (by decide) (fun b25_5 => ?_) (fun b25_5 => ?_)
    · skip
      refine R_iconst (pc := 31) (v := 0) dX8_write_31 (by decide) ?_
      refine st_5_4_i_i (pc := 32) dX8_write_32 ?_
      have HL34 : ∀ (q j34 : Nat) (σ34 : Sg), j34 + q = 8 → 0 ≤ j34 → Inv σ34 → σ34.1 11701 = σ.1 11701 → R G l yX8_write cX8_write 5 (some .int) 1 0 0 (QI (fun _ w2 => ∃ σ2, w2 = WW σ2 ∧ Inv σ2)) 34 [(some (.ref 0)), (some (.long p)), none, (some (.int n)), (some (.int (nI j34)))] [] (WW σ34) 0 0 := by
        intro q
        induction q with
        | zero =>
          intro j34 σ34 hj hs34 hI34 hk34_11701
          obtain rfl : j34 = 8 := by omega
          refine R_iload (pc := 34) dX8_write_34 rfl ?_
          refine R_iload_n (pc := 36) dX8_write_36 rfl rfl ?_
          refine R_icge (pc := 37) 70 dX8_write_37 (by decide) (fun _ => ?_) (fun h => absurd (Int32.not_lt.mp (inR_up h1 (Int32.le_refl _) (by decide)).2) h)
          refine R_aload_n (pc := 70) dX8_write_70 rfl rfl ?_
          refine g_X8_51 (pc := 71) (v := .ref 117) rfl dX8_write_71 (c_0 _) rfl ?_
          refine R_dup (pc := 74) dX8_write_74 rfl ?_
          refine g_X8_291 (pc := 75) (v := .int (σ34.1 11701)) rfl dX8_write_75 (c_117 _) rfl ?_
          refine R_iload_n (pc := 78) dX8_write_78 rfl rfl ?_
          refine R_iadd (pc := 79) dX8_write_79 ?_
          have r7 : inR ((σ34.1 11701) + n) 1 168 := inR_add (show inR (σ34.1 11701) 0 160 from (iv_11701 hI34)) (show inR n 1 8 from h1) (by decide) (by decide)
          have e8 := ti_add (l := 1) (h := 168) (show inR (σ34.1 11701) 0 160 from (iv_11701 hI34)) (show inR n 1 8 from h1) (by decide) (by decide)
          refine p_X8_291 (pc := 80) rfl dX8_write_80 (c_117 _) (Nat.le_of_ble_eq_true rfl) rfl rfl (s_117_1 _ _) ?_
          have hV9 := su_11701 hI34 (show inR ((σ34.1 11701) + n) 0 160 from of_ti (by have q0 := e4; have q1 := ti_eq hk34_11701; have q2 := e8; have q3 := ti_le b25_5; have q4 := ti_in h1; have q5 := ti_in (iv_11701 hI); have q6 := ti_in r3; have q7 := ti_in (iv_11701 hI34); have q8 := ti_in r7; have z0 : (0 : Int32).toInt = 0 := (by decide); have z1 : (1 : Int32).toInt = 1 := (by decide); have z2 : (11701 : Int32).toInt = 11701 := (by decide); have z3 : (160 : Int32).toInt = 160 := (by decide); have z4 : (168 : Int32).toInt = 168 := (by decide); have z5 : (8 : Int32).toInt = 8 := (by decide); omega) (by have q0 := e4; have q1 := ti_eq hk34_11701; have q2 := e8; have q3 := ti_le b25_5; have q4 := ti_in h1; have q5 := ti_in (iv_11701 hI); have q6 := ti_in r3; have q7 := ti_in (iv_11701 hI34); have q8 := ti_in r7; have z0 : (0 : Int32).toInt = 0 := (by decide); have z1 : (1 : Int32).toInt = 1 := (by decide); have z2 : (11701 : Int32).toInt = 11701 := (by decide); have z3 : (160 : Int32).toInt = 160 := (by decide); have z4 : (168 : Int32).toInt = 168 := (by decide); have z5 : (8 : Int32).toInt = 8 := (by decide); omega))
          refine R_aload_n (pc := 83) dX8_write_83 rfl rfl ?_
          refine g_X8_51 (pc := 84) (v := .ref 117) rfl dX8_write_84 (c_0 _) rfl ?_
          refine g_X8_291 (pc := 87) (v := .int ((σ34.1 11701) + n)) rfl dX8_write_87 (c_117 _) rfl ?_
          exact R_iret (pc := 90) dX8_write_90 rfl rfl (Nat.zero_le _) (Nat.zero_le _) ⟨_, rfl, _, rfl, hV9⟩
        | succ q ih34 =>
          intro j34 σ34 hj hs34 hI34 hk34_11701
          have hrg34 : inR (nI j34) 0 7 := inR_ix hs34 (show j34 < 8 by omega) (by decide) (by decide) (by decide)
          have hlt34 : j34 < 8 := by omega
          refine R_iload (pc := 34) dX8_write_34 rfl ?_
          refine R_iload_n (pc := 36) dX8_write_36 rfl rfl ?_
          refine R_icge (pc := 37) 70 dX8_write_37 (by decide) (fun b37_10 => ?_) (fun b37_10 => ?_)
          · skip
            refine R_aload_n (pc := 70) dX8_write_70 rfl rfl ?_
            refine g_X8_51 (pc := 71) (v := .ref 117) rfl dX8_write_71 (c_0 _) rfl ?_
            refine R_dup (pc := 74) dX8_write_74 rfl ?_
            refine g_X8_291 (pc := 75) (v := .int (σ34.1 11701)) rfl dX8_write_75 (c_117 _) rfl ?_
            refine R_iload_n (pc := 78) dX8_write_78 rfl rfl ?_
            refine R_iadd (pc := 79) dX8_write_79 ?_
            have r11 : inR ((σ34.1 11701) + n) 1 168 := inR_add (show inR (σ34.1 11701) 0 160 from (iv_11701 hI34)) (show inR n 1 8 from h1) (by decide) (by decide)
            have e12 := ti_add (l := 1) (h := 168) (show inR (σ34.1 11701) 0 160 from (iv_11701 hI34)) (show inR n 1 8 from h1) (by decide) (by decide)
            refine p_X8_291 (pc := 80) rfl dX8_write_80 (c_117 _) (Nat.le_of_ble_eq_true rfl) rfl rfl (s_117_1 _ _) ?_
            have hV13 := su_11701 hI34 (show inR ((σ34.1 11701) + n) 0 160 from of_ti (by have q0 := e4; have q1 := ti_eq hk34_11701; have q2 := e12; have q3 := ti_le b25_5; have q4 := ti_le b37_10; have q5 := ti_in h1; have q6 := ti_in (iv_11701 hI); have q7 := ti_in r3; have q8 := ti_in hrg34; have q9 := ti_in (iv_11701 hI34); have q10 := ti_in r11; have z0 : (0 : Int32).toInt = 0 := (by decide); have z1 : (1 : Int32).toInt = 1 := (by decide); have z2 : (11701 : Int32).toInt = 11701 := (by decide); have z3 : (160 : Int32).toInt = 160 := (by decide); have z4 : (168 : Int32).toInt = 168 := (by decide); have z5 : (7 : Int32).toInt = 7 := (by decide); have z6 : (8 : Int32).toInt = 8 := (by decide); omega) (by have q0 := e4; have q1 := ti_eq hk34_11701; have q2 := e12; have q3 := ti_le b25_5; have q4 := ti_le b37_10; have q5 := ti_in h1; have q6 := ti_in (iv_11701 hI); have q7 := ti_in r3; have q8 := ti_in hrg34; have q9 := ti_in (iv_11701 hI34); have q10 := ti_in r11; have z0 : (0 : Int32).toInt = 0 := (by decide); have z1 : (1 : Int32).toInt = 1 := (by decide); have z2 : (11701 : Int32).toInt = 11701 := (by decide); have z3 : (160 : Int32).toInt = 160 := (by decide); have z4 : (168 : Int32).toInt = 168 := (by decide); have z5 : (7 : Int32).toInt = 7 := (by decide); have z6 : (8 : Int32).toInt = 8 := (by decide); omega))
            refine R_aload_n (pc := 83) dX8_write_83 rfl rfl ?_
            refine g_X8_51 (pc := 84) (v := .ref 117) rfl dX8_write_84 (c_0 _) rfl ?_
            refine g_X8_291 (pc := 87) (v := .int ((σ34.1 11701) + n)) rfl dX8_write_87 (c_117 _) rfl ?_
            exact R_iret (pc := 90) dX8_write_90 rfl rfl (Nat.zero_le _) (Nat.zero_le _) ⟨_, rfl, _, rfl, hV13⟩
          · skip
            refine R_aload_n (pc := 40) dX8_write_40 rfl rfl ?_
            refine g_X8_51 (pc := 41) (v := .ref 117) rfl dX8_write_41 (c_0 _) rfl ?_
            refine g_X8_292 (pc := 44) (v := .ref 118) rfl dX8_write_44 (c_117 _) rfl ?_
            refine R_aload_n (pc := 47) dX8_write_47 rfl rfl ?_
            refine g_X8_51 (pc := 48) (v := .ref 117) rfl dX8_write_48 (c_0 _) rfl ?_
            refine g_X8_291 (pc := 51) (v := .int (σ34.1 11701)) rfl dX8_write_51 (c_117 _) rfl ?_
            refine R_iload (pc := 54) dX8_write_54 rfl ?_
            refine R_iadd (pc := 56) dX8_write_56 ?_
            have r14 : inR ((σ34.1 11701) + (nI j34)) 0 167 := inR_add (show inR (σ34.1 11701) 0 160 from (iv_11701 hI34)) (show inR (nI j34) 0 7 from hrg34) (by decide) (by decide)
            have e15 := ti_add (l := 0) (h := 167) (show inR (σ34.1 11701) 0 160 from (iv_11701 hI34)) (show inR (nI j34) 0 7 from hrg34) (by decide) (by decide)
            refine R_lload_n (pc := 57) dX8_write_57 rfl rfl ?_
            refine R_iload (pc := 58) dX8_write_58 rfl ?_
            refine k_X8_94 (pc := 60) (sp_X8_byteOf _ _ _) rfl (by decide) (Nat.le_refl _) (Nat.le_refl _) (Nat.le_of_ble_eq_true rfl) dX8_write_60 (fun y16 w2 h => ?_)
            obtain ⟨rfl, -⟩ := h
            have hx17 : vp_in ((σ34.1 11701) + (nI j34)) 160 := (vp_ti (by have q0 := e4; have q1 := ti_eq hk34_11701; have q2 := e15; have q3 := ti_le b25_5; have q4 := ti_nle b37_10; have q5 := ti_in h1; have q6 := ti_in (iv_11701 hI); have q7 := ti_in r3; have q8 := ti_in hrg34; have q9 := ti_in (iv_11701 hI34); have q10 := ti_in r14; have z0 : (0 : Int32).toInt = 0 := (by decide); have z1 : (1 : Int32).toInt = 1 := (by decide); have z2 : (11701 : Int32).toInt = 11701 := (by decide); have z3 : (160 : Int32).toInt = 160 := (by decide); have z4 : (167 : Int32).toInt = 167 := (by decide); have z5 : (168 : Int32).toInt = 168 := (by decide); have z6 : (7 : Int32).toInt = 7 := (by decide); have z7 : (8 : Int32).toInt = 8 := (by decide); omega) (by have q0 := e4; have q1 := ti_eq hk34_11701; have q2 := e15; have q3 := ti_le b25_5; have q4 := ti_nle b37_10; have q5 := ti_in h1; have q6 := ti_in (iv_11701 hI); have q7 := ti_in r3; have q8 := ti_in hrg34; have q9 := ti_in (iv_11701 hI34); have q10 := ti_in r14; have z0 : (0 : Int32).toInt = 0 := (by decide); have z1 : (1 : Int32).toInt = 1 := (by decide); have z2 : (11701 : Int32).toInt = 11701 := (by decide); have z3 : (160 : Int32).toInt = 160 := (by decide); have z4 : (167 : Int32).toInt = 167 := (by decide); have z5 : (168 : Int32).toInt = 168 := (by decide); have z6 : (7 : Int32).toInt = 7 := (by decide); have z7 : (8 : Int32).toInt = 8 := (by decide); omega))
            refine W_iastore (pc := 63) dX8_write_63 (c_118 _) hx17 (a_118 _ _) ?_
            refine inc_5_4_1_i (pc := 64) dX8_write_64 ?_
            have r18 : inR ((nI j34) + 1) 1 8 := inR_add (show inR (nI j34) 0 7 from hrg34) (show inR 1 1 1 from (inR_self _)) (by decide) (by decide)
            have e19 := ti_add (l := 1) (h := 8) (show inR (nI j34) 0 7 from hrg34) (show inR 1 1 1 from (inR_self _)) (by decide) (by decide)
            refine R_goto (pc := 67) 34 dX8_write_67 (by decide) ?_
            rw [nI_1]
            exact ih34 (j34 + 1) _ (by omega) (by omega) hI34 hk34_11701
      exact HL34 8 0 _ (by omega) (by omega) hI rfl
    · skip
      refine R_bipush (pc := 28) (v := (-5)) dX8_write_28 (by decide) ?_
      exact R_iret (pc := 30) dX8_write_30 rfl rfl (Nat.zero_le _) (Nat.zero_le _) ⟨_, rfl, _, rfl, hI⟩
  · skip
    refine R_ifne (pc := 7) 13 dX8_write_7 (by decide) (fun h => absurd (by decide) h) (fun _ => ?_)
    refine R_bipush (pc := 10) (v := (-3)) dX8_write_10 (by decide) ?_
    exact R_iret (pc := 12) dX8_write_12 rfl rfl (Nat.zero_le _) (Nat.zero_le _) ⟨_, rfl, _, rfl, hI⟩
