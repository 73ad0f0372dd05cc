/-! methods on any state that keeps the invariant -/
theorem nar01 {v : Int32} (h : inR v 0 1) : narrow FieldType.boolean (Value.int v) = Value.int v := by
  obtain ⟨j, hj, rfl⟩ := nI_inR (M := 1) h (by decide)
  rcases (show j = 0 ∨ j = 1 by omega) with rfl | rfl <;> rfl
theorem dX9_bits_0 : decode cX9_bits 0 = .ok (.iconst 0, 1) := by decide +kernel
theorem dX9_bits_1 : decode cX9_bits 1 = .ok (.istore_n 1, 1) := by decide +kernel
theorem dX9_bits_2 : decode cX9_bits 2 = .ok (.iconst 0, 1) := by decide +kernel
theorem dX9_bits_3 : decode cX9_bits 3 = .ok (.istore_n 2, 1) := by decide +kernel
theorem dX9_bits_4 : decode cX9_bits 4 = .ok (.iload_n 2, 1) := by decide +kernel
theorem dX9_bits_5 : decode cX9_bits 5 = .ok (.bipush 20, 2) := by decide +kernel
theorem dX9_bits_7 : decode cX9_bits 7 = .ok (.if_icmp .ge 17, 3) := by decide +kernel
theorem dX9_bits_10 : decode cX9_bits 10 = .ok (.iload_n 1, 1) := by decide +kernel
theorem dX9_bits_11 : decode cX9_bits 11 = .ok (.iload_n 0, 1) := by decide +kernel
theorem dX9_bits_12 : decode cX9_bits 12 = .ok (.iload_n 2, 1) := by decide +kernel
theorem dX9_bits_13 : decode cX9_bits 13 = .ok (.ishr, 1) := by decide +kernel
theorem dX9_bits_14 : decode cX9_bits 14 = .ok (.iconst 1, 1) := by decide +kernel
theorem dX9_bits_15 : decode cX9_bits 15 = .ok (.iand, 1) := by decide +kernel
theorem dX9_bits_16 : decode cX9_bits 16 = .ok (.iadd, 1) := by decide +kernel
theorem dX9_bits_17 : decode cX9_bits 17 = .ok (.istore_n 1, 1) := by decide +kernel
theorem dX9_bits_18 : decode cX9_bits 18 = .ok (.iinc 2 1, 3) := by decide +kernel
theorem dX9_bits_21 : decode cX9_bits 21 = .ok (.goto (-17), 3) := by decide +kernel
theorem dX9_bits_24 : decode cX9_bits 24 = .ok (.iload_n 1, 1) := by decide +kernel
theorem dX9_bits_25 : decode cX9_bits 25 = .ok (.ireturn, 1) := by decide +kernel
theorem dX9_listsOf_0 : decode cX9_listsOf 0 = .ok (.iconst 0, 1) := by decide +kernel
theorem dX9_listsOf_1 : decode cX9_listsOf 1 = .ok (.istore_n 2, 1) := by decide +kernel
theorem dX9_listsOf_2 : decode cX9_listsOf 2 = .ok (.iconst 0, 1) := by decide +kernel
theorem dX9_listsOf_3 : decode cX9_listsOf 3 = .ok (.istore_n 3, 1) := by decide +kernel
theorem dX9_listsOf_4 : decode cX9_listsOf 4 = .ok (.iload_n 3, 1) := by decide +kernel
theorem dX9_listsOf_5 : decode cX9_listsOf 5 = .ok (.aload_n 0, 1) := by decide +kernel
theorem dX9_listsOf_6 : decode cX9_listsOf 6 = .ok (.invokevirtual 120, 3) := by decide +kernel
theorem dX9_listsOf_9 : decode cX9_listsOf 9 = .ok (.if_icmp .ge 34, 3) := by decide +kernel
theorem dX9_listsOf_12 : decode cX9_listsOf 12 = .ok (.iload_n 2, 1) := by decide +kernel
theorem dX9_listsOf_13 : decode cX9_listsOf 13 = .ok (.aload_n 0, 1) := by decide +kernel
theorem dX9_listsOf_14 : decode cX9_listsOf 14 = .ok (.getfield 57, 3) := by decide +kernel
theorem dX9_listsOf_17 : decode cX9_listsOf 17 = .ok (.iload_n 3, 1) := by decide +kernel
theorem dX9_listsOf_18 : decode cX9_listsOf 18 = .ok (.iaload, 1) := by decide +kernel
theorem dX9_listsOf_19 : decode cX9_listsOf 19 = .ok (.iload_n 1, 1) := by decide +kernel
theorem dX9_listsOf_20 : decode cX9_listsOf 20 = .ok (.if_icmp .ne 14, 3) := by decide +kernel
theorem dX9_listsOf_23 : decode cX9_listsOf 23 = .ok (.iconst 1, 1) := by decide +kernel
theorem dX9_listsOf_24 : decode cX9_listsOf 24 = .ok (.aload_n 0, 1) := by decide +kernel
theorem dX9_listsOf_25 : decode cX9_listsOf 25 = .ok (.getfield 7, 3) := by decide +kernel
theorem dX9_listsOf_28 : decode cX9_listsOf 28 = .ok (.iload_n 3, 1) := by decide +kernel
theorem dX9_listsOf_29 : decode cX9_listsOf 29 = .ok (.iaload, 1) := by decide +kernel
theorem dX9_listsOf_30 : decode cX9_listsOf 30 = .ok (.ishl, 1) := by decide +kernel
theorem dX9_listsOf_31 : decode cX9_listsOf 31 = .ok (.goto 4, 3) := by decide +kernel
theorem dX9_listsOf_34 : decode cX9_listsOf 34 = .ok (.iconst 0, 1) := by decide +kernel
theorem dX9_listsOf_35 : decode cX9_listsOf 35 = .ok (.ior, 1) := by decide +kernel
theorem dX9_listsOf_36 : decode cX9_listsOf 36 = .ok (.istore_n 2, 1) := by decide +kernel
theorem dX9_listsOf_37 : decode cX9_listsOf 37 = .ok (.iinc 3 1, 3) := by decide +kernel
theorem dX9_listsOf_40 : decode cX9_listsOf 40 = .ok (.goto (-36), 3) := by decide +kernel
theorem dX9_listsOf_43 : decode cX9_listsOf 43 = .ok (.iload_n 2, 1) := by decide +kernel
theorem dX9_listsOf_44 : decode cX9_listsOf 44 = .ok (.ireturn, 1) := by decide +kernel
theorem dX9_rivalsOf_0 : decode cX9_rivalsOf 0 = .ok (.iconst 0, 1) := by decide +kernel
theorem dX9_rivalsOf_1 : decode cX9_rivalsOf 1 = .ok (.istore_n 2, 1) := by decide +kernel
theorem dX9_rivalsOf_2 : decode cX9_rivalsOf 2 = .ok (.iconst 0, 1) := by decide +kernel
theorem dX9_rivalsOf_3 : decode cX9_rivalsOf 3 = .ok (.istore_n 3, 1) := by decide +kernel
theorem dX9_rivalsOf_4 : decode cX9_rivalsOf 4 = .ok (.iload_n 3, 1) := by decide +kernel
theorem dX9_rivalsOf_5 : decode cX9_rivalsOf 5 = .ok (.iconst 4, 1) := by decide +kernel
theorem dX9_rivalsOf_6 : decode cX9_rivalsOf 6 = .ok (.if_icmp .ge 81, 3) := by decide +kernel
theorem dX9_rivalsOf_9 : decode cX9_rivalsOf 9 = .ok (.iconst 0, 1) := by decide +kernel
theorem dX9_rivalsOf_10 : decode cX9_rivalsOf 10 = .ok (.istore 4, 2) := by decide +kernel
theorem dX9_rivalsOf_12 : decode cX9_rivalsOf 12 = .ok (.iconst 0, 1) := by decide +kernel
theorem dX9_rivalsOf_13 : decode cX9_rivalsOf 13 = .ok (.istore 5, 2) := by decide +kernel
theorem dX9_rivalsOf_15 : decode cX9_rivalsOf 15 = .ok (.iload 5, 2) := by decide +kernel
theorem dX9_rivalsOf_17 : decode cX9_rivalsOf 17 = .ok (.aload_n 0, 1) := by decide +kernel
theorem dX9_rivalsOf_18 : decode cX9_rivalsOf 18 = .ok (.invokevirtual 120, 3) := by decide +kernel
theorem dX9_rivalsOf_21 : decode cX9_rivalsOf 21 = .ok (.if_icmp .ge 46, 3) := by decide +kernel
theorem dX9_rivalsOf_24 : decode cX9_rivalsOf 24 = .ok (.iload 4, 2) := by decide +kernel
theorem dX9_rivalsOf_26 : decode cX9_rivalsOf 26 = .ok (.iload 5, 2) := by decide +kernel
theorem dX9_rivalsOf_28 : decode cX9_rivalsOf 28 = .ok (.iload_n 1, 1) := by decide +kernel
theorem dX9_rivalsOf_29 : decode cX9_rivalsOf 29 = .ok (.if_icmp .eq 28, 3) := by decide +kernel
theorem dX9_rivalsOf_32 : decode cX9_rivalsOf 32 = .ok (.aload_n 0, 1) := by decide +kernel
theorem dX9_rivalsOf_33 : decode cX9_rivalsOf 33 = .ok (.getfield 7, 3) := by decide +kernel
theorem dX9_rivalsOf_36 : decode cX9_rivalsOf 36 = .ok (.iload 5, 2) := by decide +kernel
theorem dX9_rivalsOf_38 : decode cX9_rivalsOf 38 = .ok (.iaload, 1) := by decide +kernel
theorem dX9_rivalsOf_39 : decode cX9_rivalsOf 39 = .ok (.iload_n 3, 1) := by decide +kernel
theorem dX9_rivalsOf_40 : decode cX9_rivalsOf 40 = .ok (.if_icmp .ne 17, 3) := by decide +kernel
theorem dX9_rivalsOf_43 : decode cX9_rivalsOf 43 = .ok (.aload_n 0, 1) := by decide +kernel
theorem dX9_rivalsOf_44 : decode cX9_rivalsOf 44 = .ok (.iload_n 1, 1) := by decide +kernel
theorem dX9_rivalsOf_45 : decode cX9_rivalsOf 45 = .ok (.iload 5, 2) := by decide +kernel
theorem dX9_rivalsOf_47 : decode cX9_rivalsOf 47 = .ok (.invokevirtual 159, 3) := by decide +kernel
theorem dX9_rivalsOf_50 : decode cX9_rivalsOf 50 = .ok (.ifCond .eq 7, 3) := by decide +kernel
theorem dX9_rivalsOf_53 : decode cX9_rivalsOf 53 = .ok (.iconst 1, 1) := by decide +kernel
theorem dX9_rivalsOf_54 : decode cX9_rivalsOf 54 = .ok (.goto 4, 3) := by decide +kernel
theorem dX9_rivalsOf_57 : decode cX9_rivalsOf 57 = .ok (.iconst 0, 1) := by decide +kernel
theorem dX9_rivalsOf_58 : decode cX9_rivalsOf 58 = .ok (.iadd, 1) := by decide +kernel
theorem dX9_rivalsOf_59 : decode cX9_rivalsOf 59 = .ok (.istore 4, 2) := by decide +kernel
theorem dX9_rivalsOf_61 : decode cX9_rivalsOf 61 = .ok (.iinc 5 1, 3) := by decide +kernel
theorem dX9_rivalsOf_64 : decode cX9_rivalsOf 64 = .ok (.goto (-49), 3) := by decide +kernel
theorem dX9_rivalsOf_67 : decode cX9_rivalsOf 67 = .ok (.iload_n 2, 1) := by decide +kernel
theorem dX9_rivalsOf_68 : decode cX9_rivalsOf 68 = .ok (.iload 4, 2) := by decide +kernel
theorem dX9_rivalsOf_70 : decode cX9_rivalsOf 70 = .ok (.iconst 1, 1) := by decide +kernel
theorem dX9_rivalsOf_71 : decode cX9_rivalsOf 71 = .ok (.if_icmp .le 7, 3) := by decide +kernel
theorem dX9_rivalsOf_74 : decode cX9_rivalsOf 74 = .ok (.iconst 1, 1) := by decide +kernel
theorem dX9_rivalsOf_75 : decode cX9_rivalsOf 75 = .ok (.goto 4, 3) := by decide +kernel
theorem dX9_rivalsOf_78 : decode cX9_rivalsOf 78 = .ok (.iconst 0, 1) := by decide +kernel
theorem dX9_rivalsOf_79 : decode cX9_rivalsOf 79 = .ok (.iadd, 1) := by decide +kernel
theorem dX9_rivalsOf_80 : decode cX9_rivalsOf 80 = .ok (.istore_n 2, 1) := by decide +kernel
theorem dX9_rivalsOf_81 : decode cX9_rivalsOf 81 = .ok (.iinc 3 1, 3) := by decide +kernel
theorem dX9_rivalsOf_84 : decode cX9_rivalsOf 84 = .ok (.goto (-80), 3) := by decide +kernel
theorem dX9_rivalsOf_87 : decode cX9_rivalsOf 87 = .ok (.iload_n 2, 1) := by decide +kernel
theorem dX9_rivalsOf_88 : decode cX9_rivalsOf 88 = .ok (.ireturn, 1) := by decide +kernel
theorem dX9_hasNumber_0 : decode cX9_hasNumber 0 = .ok (.iconst 0, 1) := by decide +kernel
theorem dX9_hasNumber_1 : decode cX9_hasNumber 1 = .ok (.istore_n 3, 1) := by decide +kernel
theorem dX9_hasNumber_2 : decode cX9_hasNumber 2 = .ok (.iconst 0, 1) := by decide +kernel
theorem dX9_hasNumber_3 : decode cX9_hasNumber 3 = .ok (.istore 4, 2) := by decide +kernel
theorem dX9_hasNumber_5 : decode cX9_hasNumber 5 = .ok (.iload 4, 2) := by decide +kernel
theorem dX9_hasNumber_7 : decode cX9_hasNumber 7 = .ok (.aload_n 0, 1) := by decide +kernel
theorem dX9_hasNumber_8 : decode cX9_hasNumber 8 = .ok (.invokevirtual 120, 3) := by decide +kernel
theorem dX9_hasNumber_11 : decode cX9_hasNumber 11 = .ok (.if_icmp .ge 41, 3) := by decide +kernel
theorem dX9_hasNumber_14 : decode cX9_hasNumber 14 = .ok (.iload_n 3, 1) := by decide +kernel
theorem dX9_hasNumber_15 : decode cX9_hasNumber 15 = .ok (.ifCond .ne 25, 3) := by decide +kernel
theorem dX9_hasNumber_18 : decode cX9_hasNumber 18 = .ok (.aload_n 0, 1) := by decide +kernel
theorem dX9_hasNumber_19 : decode cX9_hasNumber 19 = .ok (.getfield 13, 3) := by decide +kernel
theorem dX9_hasNumber_22 : decode cX9_hasNumber 22 = .ok (.iload 4, 2) := by decide +kernel
theorem dX9_hasNumber_24 : decode cX9_hasNumber 24 = .ok (.iaload, 1) := by decide +kernel
theorem dX9_hasNumber_25 : decode cX9_hasNumber 25 = .ok (.iload_n 1, 1) := by decide +kernel
theorem dX9_hasNumber_26 : decode cX9_hasNumber 26 = .ok (.if_icmp .ne 18, 3) := by decide +kernel
theorem dX9_hasNumber_29 : decode cX9_hasNumber 29 = .ok (.aload_n 0, 1) := by decide +kernel
theorem dX9_hasNumber_30 : decode cX9_hasNumber 30 = .ok (.getfield 16, 3) := by decide +kernel
theorem dX9_hasNumber_33 : decode cX9_hasNumber 33 = .ok (.iload 4, 2) := by decide +kernel
theorem dX9_hasNumber_35 : decode cX9_hasNumber 35 = .ok (.iaload, 1) := by decide +kernel
theorem dX9_hasNumber_36 : decode cX9_hasNumber 36 = .ok (.iload_n 2, 1) := by decide +kernel
theorem dX9_hasNumber_37 : decode cX9_hasNumber 37 = .ok (.if_icmp .ne 7, 3) := by decide +kernel
theorem dX9_hasNumber_40 : decode cX9_hasNumber 40 = .ok (.iconst 1, 1) := by decide +kernel
theorem dX9_hasNumber_41 : decode cX9_hasNumber 41 = .ok (.goto 4, 3) := by decide +kernel
theorem dX9_hasNumber_44 : decode cX9_hasNumber 44 = .ok (.iconst 0, 1) := by decide +kernel
theorem dX9_hasNumber_45 : decode cX9_hasNumber 45 = .ok (.istore_n 3, 1) := by decide +kernel
theorem dX9_hasNumber_46 : decode cX9_hasNumber 46 = .ok (.iinc 4 1, 3) := by decide +kernel
theorem dX9_hasNumber_49 : decode cX9_hasNumber 49 = .ok (.goto (-44), 3) := by decide +kernel
theorem dX9_hasNumber_52 : decode cX9_hasNumber 52 = .ok (.iload_n 3, 1) := by decide +kernel
theorem dX9_hasNumber_53 : decode cX9_hasNumber 53 = .ok (.ireturn, 1) := by decide +kernel
set_option maxRecDepth 100000 in
set_option maxHeartbeats 40000000 in
theorem gx_X9_hasNumber {G : vG} {l : Launch} (σ : Sg) (a b : Int32) (hI : Inv σ) : Sp G l yX9_hasNumber cX9_hasNumber 5 (some .boolean) 1 0 0 [.ref 140, .int a, .int b] (WW σ) (QI (fun x w2 => w2 = WW σ)) := by
  refine Sp_of_R [(some (.ref 140)), (some (.int a)), (some (.int b)), none, none] [none, none] rfl (by simp) rfl (Nat.le_of_ble_eq_true rfl) ?_
  refine R_iconst (pc := 0) (v := 0) dX9_hasNumber_0 (by decide) ?_
  refine st_5_3_i_i (pc := 1) dX9_hasNumber_1 ?_
  refine R_iconst (pc := 2) (v := 0) dX9_hasNumber_2 (by decide) ?_
  refine st_5_4_i_i (pc := 3) dX9_hasNumber_3 ?_
  have HL5 : ∀ (q j5 : Nat) (g3_5 : Int32), j5 + q = 20 → 0 ≤ j5 → inR g3_5 0 1 → R G l yX9_hasNumber cX9_hasNumber 5 (some .boolean) 1 0 0 (QI (fun x w2 => w2 = WW σ)) 5 [(some (.ref 140)), (some (.int a)), (some (.int b)), (some (.int g3_5)), (some (.int (nI j5)))] [] (WW σ) 0 0 := by
    intro q
    induction q with
    | zero =>
      intro j5 g3_5 hj hs5 hg3_5
      obtain rfl : j5 = 20 := by omega
      refine R_iload (pc := 5) dX9_hasNumber_5 rfl ?_
      refine R_aload_n (pc := 7) dX9_hasNumber_7 rfl rfl ?_
      refine k_X9_120 (pc := 8) (gx_X9_thereMany _ hI) rfl (c_140 _) (by decide) (Nat.le_refl _) (Nat.le_refl _) (Nat.le_of_ble_eq_true rfl) dX9_hasNumber_8 (fun y1 w2 h => ?_)
      obtain ⟨rfl, hr2⟩ := h
      refine R_icge (pc := 11) 52 dX9_hasNumber_11 (by decide) (fun _ => ?_) (fun h => absurd (Int32.not_lt.mp (inR_up hr2 (Int32.le_refl _) (by decide)).2) h)
      refine R_iload_n (pc := 52) dX9_hasNumber_52 rfl rfl ?_
      exact R_iret (pc := 53) dX9_hasNumber_53 rfl (nar01 hg3_5) (Nat.zero_le _) (Nat.zero_le _) ⟨_, rfl, rfl⟩
    | succ q ih5 =>
      intro j5 g3_5 hj hs5 hg3_5
      have hrg5 : inR (nI j5) 0 19 := inR_ix hs5 (show j5 < 20 by omega) (by decide) (by decide) (by decide)
      have hlt5 : j5 < 20 := by omega
      refine R_iload (pc := 5) dX9_hasNumber_5 rfl ?_
      refine R_aload_n (pc := 7) dX9_hasNumber_7 rfl rfl ?_
      refine k_X9_120 (pc := 8) (gx_X9_thereMany _ hI) rfl (c_140 _) (by decide) (Nat.le_refl _) (Nat.le_refl _) (Nat.le_of_ble_eq_true rfl) dX9_hasNumber_8 (fun y4 w2 h => ?_)
      obtain ⟨rfl, hr5⟩ := h
      refine R_icge (pc := 11) 52 dX9_hasNumber_11 (by decide) (fun b11_6 => ?_) (fun b11_6 => ?_)
      · skip
        refine R_iload_n (pc := 52) dX9_hasNumber_52 rfl rfl ?_
        exact R_iret (pc := 53) dX9_hasNumber_53 rfl (nar01 hg3_5) (Nat.zero_le _) (Nat.zero_le _) ⟨_, rfl, rfl⟩
      · skip
        refine R_iload_n (pc := 14) dX9_hasNumber_14 rfl rfl ?_
        refine R_ifne (pc := 15) 40 dX9_hasNumber_15 (by decide) (fun b15_7 => ?_) (fun b15_7 => ?_)
        · skip
          refine R_iconst (pc := 40) (v := 1) dX9_hasNumber_40 (by decide) ?_
          refine R_goto (pc := 41) 45 dX9_hasNumber_41 (by decide) ?_
          refine st_5_3_i_i (pc := 45) dX9_hasNumber_45 ?_
          refine inc_5_4_1_i (pc := 46) dX9_hasNumber_46 ?_
          have r8 : inR ((nI j5) + 1) 1 20 := inR_add (show inR (nI j5) 0 19 from hrg5) (show inR 1 1 1 from (inR_self _)) (by decide) (by decide)
          have e9 := ti_add (l := 1) (h := 20) (show inR (nI j5) 0 19 from hrg5) (show inR 1 1 1 from (inR_self _)) (by decide) (by decide)
          refine R_goto (pc := 49) 5 dX9_hasNumber_49 (by decide) ?_
          rw [nI_1]
          exact ih5 (j5 + 1) _ (by omega) (by omega) (show inR 1 0 1 from ⟨by decide, by decide⟩)
        · skip
          refine R_aload_n (pc := 18) dX9_hasNumber_18 rfl rfl ?_
          refine g_X9_13 (pc := 19) (v := .ref 142) rfl dX9_hasNumber_19 (c_140 _) rfl ?_
          refine R_iload (pc := 22) dX9_hasNumber_22 rfl ?_
          have hx10 : vp_in (nI j5) 20 := (vp_in_nI (by omega) (by decide))
          refine R_iaload (pc := 24) dX9_hasNumber_24 (c_142 _) hx10 ?_
          refine R_iload_n (pc := 25) dX9_hasNumber_25 rfl rfl ?_
          refine R_icne (pc := 26) 44 dX9_hasNumber_26 (by decide) (fun b26_11 => ?_) (fun b26_11 => ?_)
          · skip
            refine R_iconst (pc := 44) (v := 0) dX9_hasNumber_44 (by decide) ?_
            refine st_5_3_i_i (pc := 45) dX9_hasNumber_45 ?_
            refine inc_5_4_1_i (pc := 46) dX9_hasNumber_46 ?_
            have r12 : inR ((nI j5) + 1) 1 20 := inR_add (show inR (nI j5) 0 19 from hrg5) (show inR 1 1 1 from (inR_self _)) (by decide) (by decide)
            have e13 := ti_add (l := 1) (h := 20) (show inR (nI j5) 0 19 from hrg5) (show inR 1 1 1 from (inR_self _)) (by decide) (by decide)
            refine R_goto (pc := 49) 5 dX9_hasNumber_49 (by decide) ?_
            rw [nI_1]
            exact ih5 (j5 + 1) _ (by omega) (by omega) (show inR 0 0 1 from ⟨by decide, by decide⟩)
          · skip
            refine R_aload_n (pc := 29) dX9_hasNumber_29 rfl rfl ?_
            refine g_X9_16 (pc := 30) (v := .ref 143) rfl dX9_hasNumber_30 (c_140 _) rfl ?_
            refine R_iload (pc := 33) dX9_hasNumber_33 rfl ?_
            have hx14 : vp_in (nI j5) 20 := (vp_in_nI (by omega) (by decide))
            refine R_iaload (pc := 35) dX9_hasNumber_35 (c_143 _) hx14 ?_
            refine R_iload_n (pc := 36) dX9_hasNumber_36 rfl rfl ?_
            refine R_icne (pc := 37) 44 dX9_hasNumber_37 (by decide) (fun b37_15 => ?_) (fun b37_15 => ?_)
            · skip
              refine R_iconst (pc := 44) (v := 0) dX9_hasNumber_44 (by decide) ?_
              refine st_5_3_i_i (pc := 45) dX9_hasNumber_45 ?_
              refine inc_5_4_1_i (pc := 46) dX9_hasNumber_46 ?_
              have r16 : inR ((nI j5) + 1) 1 20 := inR_add (show inR (nI j5) 0 19 from hrg5) (show inR 1 1 1 from (inR_self _)) (by decide) (by decide)
              have e17 := ti_add (l := 1) (h := 20) (show inR (nI j5) 0 19 from hrg5) (show inR 1 1 1 from (inR_self _)) (by decide) (by decide)
              refine R_goto (pc := 49) 5 dX9_hasNumber_49 (by decide) ?_
              rw [nI_1]
              exact ih5 (j5 + 1) _ (by omega) (by omega) (show inR 0 0 1 from ⟨by decide, by decide⟩)
            · skip
              refine R_iconst (pc := 40) (v := 1) dX9_hasNumber_40 (by decide) ?_
              refine R_goto (pc := 41) 45 dX9_hasNumber_41 (by decide) ?_
              refine st_5_3_i_i (pc := 45) dX9_hasNumber_45 ?_
              refine inc_5_4_1_i (pc := 46) dX9_hasNumber_46 ?_
              have r18 : inR ((nI j5) + 1) 1 20 := inR_add (show inR (nI j5) 0 19 from hrg5) (show inR 1 1 1 from (inR_self _)) (by decide) (by decide)
              have e19 := ti_add (l := 1) (h := 20) (show inR (nI j5) 0 19 from hrg5) (show inR 1 1 1 from (inR_self _)) (by decide) (by decide)
              refine R_goto (pc := 49) 5 dX9_hasNumber_49 (by decide) ?_
              rw [nI_1]
              exact ih5 (j5 + 1) _ (by omega) (by omega) (show inR 1 0 1 from ⟨by decide, by decide⟩)
  exact HL5 20 0 _ (by omega) (by omega) (show inR 0 0 1 from ⟨by decide, by decide⟩)
theorem dX9_endOf_0 : decode cX9_endOf 0 = .ok (.iload_n 2, 1) := by decide +kernel
theorem dX9_endOf_1 : decode cX9_endOf 1 = .ok (.iconst 1, 1) := by decide +kernel
theorem dX9_endOf_2 : decode cX9_endOf 2 = .ok (.if_icmp .ne 7, 3) := by decide +kernel
theorem dX9_endOf_5 : decode cX9_endOf 5 = .ok (.iconst 1, 1) := by decide +kernel
theorem dX9_endOf_6 : decode cX9_endOf 6 = .ok (.goto 5, 3) := by decide +kernel
theorem dX9_endOf_9 : decode cX9_endOf 9 = .ok (.bipush 99, 2) := by decide +kernel
theorem dX9_endOf_11 : decode cX9_endOf 11 = .ok (.istore_n 3, 1) := by decide +kernel
theorem dX9_endOf_12 : decode cX9_endOf 12 = .ok (.iload_n 3, 1) := by decide +kernel
theorem dX9_endOf_13 : decode cX9_endOf 13 = .ok (.iconst 1, 1) := by decide +kernel
theorem dX9_endOf_14 : decode cX9_endOf 14 = .ok (.bipush 99, 2) := by decide +kernel
theorem dX9_endOf_16 : decode cX9_endOf 16 = .ok (.invokestatic 124, 3) := by decide +kernel
theorem dX9_endOf_19 : decode cX9_endOf 19 = .ok (.ifCond .eq 19, 3) := by decide +kernel
theorem dX9_endOf_22 : decode cX9_endOf 22 = .ok (.aload_n 0, 1) := by decide +kernel
theorem dX9_endOf_23 : decode cX9_endOf 23 = .ok (.iload_n 1, 1) := by decide +kernel
theorem dX9_endOf_24 : decode cX9_endOf 24 = .ok (.iload_n 3, 1) := by decide +kernel
theorem dX9_endOf_25 : decode cX9_endOf 25 = .ok (.invokevirtual 185, 3) := by decide +kernel
theorem dX9_endOf_28 : decode cX9_endOf 28 = .ok (.ifCond .ne 10, 3) := by decide +kernel
theorem dX9_endOf_31 : decode cX9_endOf 31 = .ok (.iload_n 3, 1) := by decide +kernel
theorem dX9_endOf_32 : decode cX9_endOf 32 = .ok (.iload_n 2, 1) := by decide +kernel
theorem dX9_endOf_33 : decode cX9_endOf 33 = .ok (.iadd, 1) := by decide +kernel
theorem dX9_endOf_34 : decode cX9_endOf 34 = .ok (.istore_n 3, 1) := by decide +kernel
theorem dX9_endOf_35 : decode cX9_endOf 35 = .ok (.goto (-23), 3) := by decide +kernel
theorem dX9_endOf_38 : decode cX9_endOf 38 = .ok (.iload_n 3, 1) := by decide +kernel
theorem dX9_endOf_39 : decode cX9_endOf 39 = .ok (.iconst 1, 1) := by decide +kernel
theorem dX9_endOf_40 : decode cX9_endOf 40 = .ok (.bipush 99, 2) := by decide +kernel
theorem dX9_endOf_42 : decode cX9_endOf 42 = .ok (.invokestatic 124, 3) := by decide +kernel
theorem dX9_endOf_45 : decode cX9_endOf 45 = .ok (.ifCond .eq 7, 3) := by decide +kernel
theorem dX9_endOf_48 : decode cX9_endOf 48 = .ok (.iload_n 3, 1) := by decide +kernel
theorem dX9_endOf_49 : decode cX9_endOf 49 = .ok (.goto 4, 3) := by decide +kernel
theorem dX9_endOf_52 : decode cX9_endOf 52 = .ok (.iconst (-1), 1) := by decide +kernel
theorem dX9_endOf_53 : decode cX9_endOf 53 = .ok (.ireturn, 1) := by decide +kernel
set_option maxRecDepth 100000 in
set_option maxHeartbeats 40000000 in
theorem gx_X9_endOf_u {G : vG} {l : Launch} (σ : Sg) (a : Int32) (hI : Inv σ) : Sp G l yX9_endOf cX9_endOf 4 (some .int) 2 0 0 [.ref 140, .int a, .int 1] (WW σ) (QI (fun x w2 => w2 = WW σ)) := by
  refine Sp_of_R [(some (.ref 140)), (some (.int a)), (some (.int 1)), none] [none] rfl (by simp) rfl (Nat.le_of_ble_eq_true rfl) ?_
  refine R_iload_n (pc := 0) dX9_endOf_0 rfl rfl ?_
  refine R_iconst (pc := 1) (v := 1) dX9_endOf_1 (by decide) ?_
  refine R_icne (pc := 2) 9 dX9_endOf_2 (by decide) (fun h => absurd (by decide) h) (fun _ => ?_)
  refine R_iconst (pc := 5) (v := 1) dX9_endOf_5 (by decide) ?_
  refine R_goto (pc := 6) 11 dX9_endOf_6 (by decide) ?_
  refine st_4_3_i_i (pc := 11) dX9_endOf_11 ?_
  have HL12 : ∀ (q : Nat) (i12 : Int32), i12.toInt + (q : Int) = 100 → inR i12 1 100 → R G l yX9_endOf cX9_endOf 4 (some .int) 2 0 0 (QI (fun x w2 => w2 = WW σ)) 12 [(some (.ref 140)), (some (.int a)), (some (.int 1)), (some (.int i12))] [] (WW σ) 0 0 := by
    intro q
    induction q with
    | zero =>
      intro i12 hj12 hrg12
      have hM12_ : inR i12 100 100 := of_ti (by have z : (100 : Int32).toInt = 100 := (by decide); omega) (by have z : (100 : Int32).toInt = 100 := (by decide); omega)
      refine R_iload_n (pc := 12) dX9_endOf_12 rfl rfl ?_
      refine R_iconst (pc := 13) (v := 1) dX9_endOf_13 (by decide) ?_
      refine R_bipush (pc := 14) (v := 99) dX9_endOf_14 (by decide) ?_
      refine k_X9_124 (pc := 16) (sp_X9_in _ _ _ _) rfl (by decide) (Nat.le_refl _) (Nat.le_refl _) (Nat.le_of_ble_eq_true rfl) dX9_endOf_16 (fun x w2 h => ?_)
      rcases h with ⟨rfl, ⟨h2, rfl⟩ | ⟨h2, rfl⟩⟩
      · exact False.elim (by have q1 := ti_in h2; have q2 := ti_in (show inR i12 100 100 from hM12_); have z0 : (1 : Int32).toInt = 1 := (by decide); have z1 : (100 : Int32).toInt = 100 := (by decide); have z2 : (99 : Int32).toInt = 99 := (by decide); omega)
      · skip
        refine R_ifeq (pc := 19) 38 dX9_endOf_19 (by decide) (fun _ => ?_) (fun h => absurd (by decide) h)
        refine R_iload_n (pc := 38) dX9_endOf_38 rfl rfl ?_
        refine R_iconst (pc := 39) (v := 1) dX9_endOf_39 (by decide) ?_
        refine R_bipush (pc := 40) (v := 99) dX9_endOf_40 (by decide) ?_
        refine k_X9_124 (pc := 42) (sp_X9_in _ _ _ _) rfl (by decide) (Nat.le_refl _) (Nat.le_refl _) (Nat.le_of_ble_eq_true rfl) dX9_endOf_42 (fun x w2 h => ?_)
        rcases h with ⟨rfl, ⟨h4, rfl⟩ | ⟨h4, rfl⟩⟩
        · exact False.elim (by have q1 := ti_in h4; have q2 := ti_in (show inR i12 100 100 from hM12_); have z0 : (1 : Int32).toInt = 1 := (by decide); have z1 : (100 : Int32).toInt = 100 := (by decide); have z2 : (99 : Int32).toInt = 99 := (by decide); omega)
        · skip
          refine R_ifeq (pc := 45) 52 dX9_endOf_45 (by decide) (fun _ => ?_) (fun h => absurd (by decide) h)
          refine R_iconst (pc := 52) (v := (-1)) dX9_endOf_52 (by decide) ?_
          exact R_iret (pc := 53) dX9_endOf_53 rfl rfl (Nat.zero_le _) (Nat.zero_le _) ⟨_, rfl, rfl⟩
    | succ q ih12 =>
      intro i12 hj12 hrg12
      have hM12_ : inR i12 1 99 := of_ti (ti_in hrg12).1 (by have z : (99 : Int32).toInt = 99 := (by decide); omega)
      refine R_iload_n (pc := 12) dX9_endOf_12 rfl rfl ?_
      refine R_iconst (pc := 13) (v := 1) dX9_endOf_13 (by decide) ?_
      refine R_bipush (pc := 14) (v := 99) dX9_endOf_14 (by decide) ?_
      refine k_X9_124 (pc := 16) (sp_X9_in _ _ _ _) rfl (by decide) (Nat.le_refl _) (Nat.le_refl _) (Nat.le_of_ble_eq_true rfl) dX9_endOf_16 (fun x w2 h => ?_)
      rcases h with ⟨rfl, ⟨h6, rfl⟩ | ⟨h6, rfl⟩⟩
      · skip
        refine R_ifeq (pc := 19) 38 dX9_endOf_19 (by decide) (fun h => absurd h (by decide)) (fun _ => ?_)
        refine R_aload_n (pc := 22) dX9_endOf_22 rfl rfl ?_
        refine R_iload_n (pc := 23) dX9_endOf_23 rfl rfl ?_
        refine R_iload_n (pc := 24) dX9_endOf_24 rfl rfl ?_
        refine k_X9_185 (pc := 25) (gx_X9_hasNumber _ _ _ hI) rfl (c_140 _) (by decide) (Nat.le_refl _) (Nat.le_refl _) (Nat.le_of_ble_eq_true rfl) dX9_endOf_25 (fun y8 w2 h => ?_)
        subst h
        refine R_ifne (pc := 28) 38 dX9_endOf_28 (by decide) (fun b28_9 => ?_) (fun b28_9 => ?_)
        · skip
          refine R_iload_n (pc := 38) dX9_endOf_38 rfl rfl ?_
          refine R_iconst (pc := 39) (v := 1) dX9_endOf_39 (by decide) ?_
          refine R_bipush (pc := 40) (v := 99) dX9_endOf_40 (by decide) ?_
          refine k_X9_124 (pc := 42) (sp_X9_in _ _ _ _) rfl (by decide) (Nat.le_refl _) (Nat.le_refl _) (Nat.le_of_ble_eq_true rfl) dX9_endOf_42 (fun x w2 h => ?_)
          rcases h with ⟨rfl, ⟨h10, rfl⟩ | ⟨h10, rfl⟩⟩
          · skip
            refine R_ifeq (pc := 45) 52 dX9_endOf_45 (by decide) (fun h => absurd h (by decide)) (fun _ => ?_)
            refine R_iload_n (pc := 48) dX9_endOf_48 rfl rfl ?_
            refine R_goto (pc := 49) 53 dX9_endOf_49 (by decide) ?_
            exact R_iret (pc := 53) dX9_endOf_53 rfl rfl (Nat.zero_le _) (Nat.zero_le _) ⟨_, rfl, rfl⟩
          · skip
            refine R_ifeq (pc := 45) 52 dX9_endOf_45 (by decide) (fun _ => ?_) (fun h => absurd (by decide) h)
            refine R_iconst (pc := 52) (v := (-1)) dX9_endOf_52 (by decide) ?_
            exact R_iret (pc := 53) dX9_endOf_53 rfl rfl (Nat.zero_le _) (Nat.zero_le _) ⟨_, rfl, rfl⟩
        · skip
          refine R_iload_n (pc := 31) dX9_endOf_31 rfl rfl ?_
          refine R_iload_n (pc := 32) dX9_endOf_32 rfl rfl ?_
          refine R_iadd (pc := 33) dX9_endOf_33 ?_
          have r13 : inR (i12 + 1) 2 100 := inR_add (show inR i12 1 99 from h6) (show inR 1 1 1 from (inR_self _)) (by decide) (by decide)
          have e14 := ti_add (l := 2) (h := 100) (show inR i12 1 99 from h6) (show inR 1 1 1 from (inR_self _)) (by decide) (by decide)
          refine st_4_3_i_i (pc := 34) dX9_endOf_34 ?_
          refine R_goto (pc := 35) 12 dX9_endOf_35 (by decide) ?_
          exact ih12 (i12 + 1) (by have q0 := e14; have q1 := ti_eq b28_9; have q2 := ti_in h6; have q3 := ti_in r13; have q4 := hj12; have z0 : (0 : Int32).toInt = 0 := (by decide); have z1 : (1 : Int32).toInt = 1 := (by decide); have z2 : (100 : Int32).toInt = 100 := (by decide); have z3 : (2 : Int32).toInt = 2 := (by decide); have z4 : (99 : Int32).toInt = 99 := (by decide); omega) (inR_up r13 (by decide) (by decide))
      · skip
        refine R_ifeq (pc := 19) 38 dX9_endOf_19 (by decide) (fun _ => ?_) (fun h => absurd (by decide) h)
        refine R_iload_n (pc := 38) dX9_endOf_38 rfl rfl ?_
        refine R_iconst (pc := 39) (v := 1) dX9_endOf_39 (by decide) ?_
        refine R_bipush (pc := 40) (v := 99) dX9_endOf_40 (by decide) ?_
        refine k_X9_124 (pc := 42) (sp_X9_in _ _ _ _) rfl (by decide) (Nat.le_refl _) (Nat.le_refl _) (Nat.le_of_ble_eq_true rfl) dX9_endOf_42 (fun x w2 h => ?_)
        rcases h with ⟨rfl, ⟨h16, rfl⟩ | ⟨h16, rfl⟩⟩
        · skip
          refine R_ifeq (pc := 45) 52 dX9_endOf_45 (by decide) (fun h => absurd h (by decide)) (fun _ => ?_)
          refine R_iload_n (pc := 48) dX9_endOf_48 rfl rfl ?_
          refine R_goto (pc := 49) 53 dX9_endOf_49 (by decide) ?_
          exact R_iret (pc := 53) dX9_endOf_53 rfl rfl (Nat.zero_le _) (Nat.zero_le _) ⟨_, rfl, rfl⟩
        · skip
          refine R_ifeq (pc := 45) 52 dX9_endOf_45 (by decide) (fun _ => ?_) (fun h => absurd (by decide) h)
          refine R_iconst (pc := 52) (v := (-1)) dX9_endOf_52 (by decide) ?_
          exact R_iret (pc := 53) dX9_endOf_53 rfl rfl (Nat.zero_le _) (Nat.zero_le _) ⟨_, rfl, rfl⟩
  exact HL12 99 1 (by decide) (show inR 1 1 100 from ⟨by decide, by decide⟩)
set_option maxRecDepth 100000 in
set_option maxHeartbeats 40000000 in
theorem gx_X9_endOf_d {G : vG} {l : Launch} (σ : Sg) (a : Int32) (hI : Inv σ) : Sp G l yX9_endOf cX9_endOf 4 (some .int) 2 0 0 [.ref 140, .int a, .int (-1)] (WW σ) (QI (fun x w2 => w2 = WW σ)) := by
  refine Sp_of_R [(some (.ref 140)), (some (.int a)), (some (.int (-1))), none] [none] rfl (by simp) rfl (Nat.le_of_ble_eq_true rfl) ?_
  refine R_iload_n (pc := 0) dX9_endOf_0 rfl rfl ?_
  refine R_iconst (pc := 1) (v := 1) dX9_endOf_1 (by decide) ?_
  refine R_icne (pc := 2) 9 dX9_endOf_2 (by decide) (fun _ => ?_) (fun h => absurd h (by decide))
  refine R_bipush (pc := 9) (v := 99) dX9_endOf_9 (by decide) ?_
  refine st_4_3_i_i (pc := 11) dX9_endOf_11 ?_
  have HL12 : ∀ (q : Nat) (i12 : Int32), i12.toInt = (q : Int) + 0 → inR i12 0 99 → R G l yX9_endOf cX9_endOf 4 (some .int) 2 0 0 (QI (fun x w2 => w2 = WW σ)) 12 [(some (.ref 140)), (some (.int a)), (some (.int (-1))), (some (.int i12))] [] (WW σ) 0 0 := by
    intro q
    induction q with
    | zero =>
      intro i12 hj12 hrg12
      have hM12_ : inR i12 0 0 := of_ti (ti_in hrg12).1 (by have z : (0 : Int32).toInt = 0 := (by decide); omega)
      refine R_iload_n (pc := 12) dX9_endOf_12 rfl rfl ?_
      refine R_iconst (pc := 13) (v := 1) dX9_endOf_13 (by decide) ?_
      refine R_bipush (pc := 14) (v := 99) dX9_endOf_14 (by decide) ?_
      refine k_X9_124 (pc := 16) (sp_X9_in _ _ _ _) rfl (by decide) (Nat.le_refl _) (Nat.le_refl _) (Nat.le_of_ble_eq_true rfl) dX9_endOf_16 (fun x w2 h => ?_)
      rcases h with ⟨rfl, ⟨h2, rfl⟩ | ⟨h2, rfl⟩⟩
      · exact False.elim (by have q1 := ti_in h2; have q2 := ti_in (show inR i12 0 0 from hM12_); have z0 : (0 : Int32).toInt = 0 := (by decide); have z1 : (1 : Int32).toInt = 1 := (by decide); have z2 : (99 : Int32).toInt = 99 := (by decide); omega)
      · skip
        refine R_ifeq (pc := 19) 38 dX9_endOf_19 (by decide) (fun _ => ?_) (fun h => absurd (by decide) h)
        refine R_iload_n (pc := 38) dX9_endOf_38 rfl rfl ?_
        refine R_iconst (pc := 39) (v := 1) dX9_endOf_39 (by decide) ?_
        refine R_bipush (pc := 40) (v := 99) dX9_endOf_40 (by decide) ?_
        refine k_X9_124 (pc := 42) (sp_X9_in _ _ _ _) rfl (by decide) (Nat.le_refl _) (Nat.le_refl _) (Nat.le_of_ble_eq_true rfl) dX9_endOf_42 (fun x w2 h => ?_)
        rcases h with ⟨rfl, ⟨h4, rfl⟩ | ⟨h4, rfl⟩⟩
        · exact False.elim (by have q1 := ti_in h4; have q2 := ti_in (show inR i12 0 0 from hM12_); have z0 : (0 : Int32).toInt = 0 := (by decide); have z1 : (1 : Int32).toInt = 1 := (by decide); have z2 : (99 : Int32).toInt = 99 := (by decide); omega)
        · skip
          refine R_ifeq (pc := 45) 52 dX9_endOf_45 (by decide) (fun _ => ?_) (fun h => absurd (by decide) h)
          refine R_iconst (pc := 52) (v := (-1)) dX9_endOf_52 (by decide) ?_
          exact R_iret (pc := 53) dX9_endOf_53 rfl rfl (Nat.zero_le _) (Nat.zero_le _) ⟨_, rfl, rfl⟩
    | succ q ih12 =>
      intro i12 hj12 hrg12
      have hM12_ : inR i12 1 99 := of_ti (by have z : (1 : Int32).toInt = 1 := (by decide); omega) (ti_in hrg12).2
      refine R_iload_n (pc := 12) dX9_endOf_12 rfl rfl ?_
      refine R_iconst (pc := 13) (v := 1) dX9_endOf_13 (by decide) ?_
      refine R_bipush (pc := 14) (v := 99) dX9_endOf_14 (by decide) ?_
      refine k_X9_124 (pc := 16) (sp_X9_in _ _ _ _) rfl (by decide) (Nat.le_refl _) (Nat.le_refl _) (Nat.le_of_ble_eq_true rfl) dX9_endOf_16 (fun x w2 h => ?_)
      rcases h with ⟨rfl, ⟨h6, rfl⟩ | ⟨h6, rfl⟩⟩
      · skip
        refine R_ifeq (pc := 19) 38 dX9_endOf_19 (by decide) (fun h => absurd h (by decide)) (fun _ => ?_)
        refine R_aload_n (pc := 22) dX9_endOf_22 rfl rfl ?_
        refine R_iload_n (pc := 23) dX9_endOf_23 rfl rfl ?_
        refine R_iload_n (pc := 24) dX9_endOf_24 rfl rfl ?_
        refine k_X9_185 (pc := 25) (gx_X9_hasNumber _ _ _ hI) rfl (c_140 _) (by decide) (Nat.le_refl _) (Nat.le_refl _) (Nat.le_of_ble_eq_true rfl) dX9_endOf_25 (fun y8 w2 h => ?_)
        subst h
        refine R_ifne (pc := 28) 38 dX9_endOf_28 (by decide) (fun b28_9 => ?_) (fun b28_9 => ?_)
        · skip
          refine R_iload_n (pc := 38) dX9_endOf_38 rfl rfl ?_
          refine R_iconst (pc := 39) (v := 1) dX9_endOf_39 (by decide) ?_
          refine R_bipush (pc := 40) (v := 99) dX9_endOf_40 (by decide) ?_
          refine k_X9_124 (pc := 42) (sp_X9_in _ _ _ _) rfl (by decide) (Nat.le_refl _) (Nat.le_refl _) (Nat.le_of_ble_eq_true rfl) dX9_endOf_42 (fun x w2 h => ?_)
          rcases h with ⟨rfl, ⟨h10, rfl⟩ | ⟨h10, rfl⟩⟩
          · skip
            refine R_ifeq (pc := 45) 52 dX9_endOf_45 (by decide) (fun h => absurd h (by decide)) (fun _ => ?_)
            refine R_iload_n (pc := 48) dX9_endOf_48 rfl rfl ?_
            refine R_goto (pc := 49) 53 dX9_endOf_49 (by decide) ?_
            exact R_iret (pc := 53) dX9_endOf_53 rfl rfl (Nat.zero_le _) (Nat.zero_le _) ⟨_, rfl, rfl⟩
          · skip
            refine R_ifeq (pc := 45) 52 dX9_endOf_45 (by decide) (fun _ => ?_) (fun h => absurd (by decide) h)
            refine R_iconst (pc := 52) (v := (-1)) dX9_endOf_52 (by decide) ?_
            exact R_iret (pc := 53) dX9_endOf_53 rfl rfl (Nat.zero_le _) (Nat.zero_le _) ⟨_, rfl, rfl⟩
        · skip
          refine R_iload_n (pc := 31) dX9_endOf_31 rfl rfl ?_
          refine R_iload_n (pc := 32) dX9_endOf_32 rfl rfl ?_
          refine R_iadd (pc := 33) dX9_endOf_33 ?_
          have r13 : inR (i12 + (-1)) 0 98 := inR_add (show inR i12 1 99 from h6) (show inR (-1) (-1) (-1) from (inR_self _)) (by decide) (by decide)
          have e14 := ti_add (l := 0) (h := 98) (show inR i12 1 99 from h6) (show inR (-1) (-1) (-1) from (inR_self _)) (by decide) (by decide)
          refine st_4_3_i_i (pc := 34) dX9_endOf_34 ?_
          refine R_goto (pc := 35) 12 dX9_endOf_35 (by decide) ?_
          exact ih12 (i12 + (-1)) (by have q0 := e14; have q1 := ti_eq b28_9; have q2 := ti_in h6; have q3 := ti_in r13; have q4 := hj12; have z0 : (-1 : Int32).toInt = -1 := (by decide); have z1 : (0 : Int32).toInt = 0 := (by decide); have z2 : (1 : Int32).toInt = 1 := (by decide); have z3 : (98 : Int32).toInt = 98 := (by decide); have z4 : (99 : Int32).toInt = 99 := (by decide); omega) (inR_up r13 (by decide) (by decide))
      · skip
        refine R_ifeq (pc := 19) 38 dX9_endOf_19 (by decide) (fun _ => ?_) (fun h => absurd (by decide) h)
        refine R_iload_n (pc := 38) dX9_endOf_38 rfl rfl ?_
        refine R_iconst (pc := 39) (v := 1) dX9_endOf_39 (by decide) ?_
        refine R_bipush (pc := 40) (v := 99) dX9_endOf_40 (by decide) ?_
        refine k_X9_124 (pc := 42) (sp_X9_in _ _ _ _) rfl (by decide) (Nat.le_refl _) (Nat.le_refl _) (Nat.le_of_ble_eq_true rfl) dX9_endOf_42 (fun x w2 h => ?_)
        rcases h with ⟨rfl, ⟨h16, rfl⟩ | ⟨h16, rfl⟩⟩
        · skip
          refine R_ifeq (pc := 45) 52 dX9_endOf_45 (by decide) (fun h => absurd h (by decide)) (fun _ => ?_)
          refine R_iload_n (pc := 48) dX9_endOf_48 rfl rfl ?_
          refine R_goto (pc := 49) 53 dX9_endOf_49 (by decide) ?_
          exact R_iret (pc := 53) dX9_endOf_53 rfl rfl (Nat.zero_le _) (Nat.zero_le _) ⟨_, rfl, rfl⟩
        · skip
          refine R_ifeq (pc := 45) 52 dX9_endOf_45 (by decide) (fun _ => ?_) (fun h => absurd (by decide) h)
          refine R_iconst (pc := 52) (v := (-1)) dX9_endOf_52 (by decide) ?_
          exact R_iret (pc := 53) dX9_endOf_53 rfl rfl (Nat.zero_le _) (Nat.zero_le _) ⟨_, rfl, rfl⟩
  exact HL12 99 99 (by decide) (show inR 99 0 99 from ⟨by decide, by decide⟩)
theorem dX9_isMissing_0 : decode cX9_isMissing 0 = .ok (.aload_n 0, 1) := by decide +kernel
theorem dX9_isMissing_1 : decode cX9_isMissing 1 = .ok (.iload_n 1, 1) := by decide +kernel
theorem dX9_isMissing_2 : decode cX9_isMissing 2 = .ok (.iconst 1, 1) := by decide +kernel
theorem dX9_isMissing_3 : decode cX9_isMissing 3 = .ok (.invokevirtual 188, 3) := by decide +kernel
theorem dX9_isMissing_6 : decode cX9_isMissing 6 = .ok (.iconst (-1), 1) := by decide +kernel
theorem dX9_isMissing_7 : decode cX9_isMissing 7 = .ok (.if_icmp .eq 36, 3) := by decide +kernel
theorem dX9_isMissing_10 : decode cX9_isMissing 10 = .ok (.iload_n 2, 1) := by decide +kernel
theorem dX9_isMissing_11 : decode cX9_isMissing 11 = .ok (.aload_n 0, 1) := by decide +kernel
theorem dX9_isMissing_12 : decode cX9_isMissing 12 = .ok (.iload_n 1, 1) := by decide +kernel
theorem dX9_isMissing_13 : decode cX9_isMissing 13 = .ok (.iconst 1, 1) := by decide +kernel
theorem dX9_isMissing_14 : decode cX9_isMissing 14 = .ok (.invokevirtual 188, 3) := by decide +kernel
theorem dX9_isMissing_17 : decode cX9_isMissing 17 = .ok (.if_icmp .le 26, 3) := by decide +kernel
theorem dX9_isMissing_20 : decode cX9_isMissing 20 = .ok (.iload_n 2, 1) := by decide +kernel
theorem dX9_isMissing_21 : decode cX9_isMissing 21 = .ok (.aload_n 0, 1) := by decide +kernel
theorem dX9_isMissing_22 : decode cX9_isMissing 22 = .ok (.iload_n 1, 1) := by decide +kernel
theorem dX9_isMissing_23 : decode cX9_isMissing 23 = .ok (.iconst (-1), 1) := by decide +kernel
theorem dX9_isMissing_24 : decode cX9_isMissing 24 = .ok (.invokevirtual 188, 3) := by decide +kernel
theorem dX9_isMissing_27 : decode cX9_isMissing 27 = .ok (.if_icmp .ge 16, 3) := by decide +kernel
theorem dX9_isMissing_30 : decode cX9_isMissing 30 = .ok (.aload_n 0, 1) := by decide +kernel
theorem dX9_isMissing_31 : decode cX9_isMissing 31 = .ok (.iload_n 1, 1) := by decide +kernel
theorem dX9_isMissing_32 : decode cX9_isMissing 32 = .ok (.iload_n 2, 1) := by decide +kernel
theorem dX9_isMissing_33 : decode cX9_isMissing 33 = .ok (.invokevirtual 185, 3) := by decide +kernel
theorem dX9_isMissing_36 : decode cX9_isMissing 36 = .ok (.ifCond .ne 7, 3) := by decide +kernel
theorem dX9_isMissing_39 : decode cX9_isMissing 39 = .ok (.iconst 1, 1) := by decide +kernel
theorem dX9_isMissing_40 : decode cX9_isMissing 40 = .ok (.goto 4, 3) := by decide +kernel
theorem dX9_isMissing_43 : decode cX9_isMissing 43 = .ok (.iconst 0, 1) := by decide +kernel
theorem dX9_isMissing_44 : decode cX9_isMissing 44 = .ok (.ireturn, 1) := by decide +kernel
set_option maxRecDepth 100000 in
set_option maxHeartbeats 40000000 in
theorem gx_X9_isMissing {G : vG} {l : Launch} (σ : Sg) (a b : Int32) (hI : Inv σ) : Sp G l yX9_isMissing cX9_isMissing 3 (some .boolean) 3 0 0 [.ref 140, .int a, .int b] (WW σ) (QI (fun x w2 => w2 = WW σ)) := by
  refine Sp_of_R [(some (.ref 140)), (some (.int a)), (some (.int b))] [] rfl (by simp) rfl (Nat.le_of_ble_eq_true rfl) ?_
  refine R_aload_n (pc := 0) dX9_isMissing_0 rfl rfl ?_
  refine R_iload_n (pc := 1) dX9_isMissing_1 rfl rfl ?_
  refine R_iconst (pc := 2) (v := 1) dX9_isMissing_2 (by decide) ?_
  refine k_X9_188 (pc := 3) (gx_X9_endOf_u _ _ hI) rfl (c_140 _) (by decide) (Nat.le_refl _) (Nat.le_refl _) (Nat.le_of_ble_eq_true rfl) dX9_isMissing_3 (fun y1 w2 h => ?_)
  subst h
  refine R_iconst (pc := 6) (v := (-1)) dX9_isMissing_6 (by decide) ?_
  refine R_iceq (pc := 7) 43 dX9_isMissing_7 (by decide) (fun b7_2 => ?_) (fun b7_2 => ?_)
  · skip
    refine R_iconst (pc := 43) (v := 0) dX9_isMissing_43 (by decide) ?_
    exact R_iret (pc := 44) dX9_isMissing_44 rfl rfl (Nat.zero_le _) (Nat.zero_le _) ⟨_, rfl, rfl⟩
  · skip
    refine R_iload_n (pc := 10) dX9_isMissing_10 rfl rfl ?_
    refine R_aload_n (pc := 11) dX9_isMissing_11 rfl rfl ?_
    refine R_iload_n (pc := 12) dX9_isMissing_12 rfl rfl ?_
    refine R_iconst (pc := 13) (v := 1) dX9_isMissing_13 (by decide) ?_
    refine k_X9_188 (pc := 14) (gx_X9_endOf_u _ _ hI) rfl (c_140 _) (by decide) (Nat.le_refl _) (Nat.le_refl _) (Nat.le_of_ble_eq_true rfl) dX9_isMissing_14 (fun y3 w2 h => ?_)
    subst h
    refine R_icle (pc := 17) 43 dX9_isMissing_17 (by decide) (fun b17_4 => ?_) (fun b17_4 => ?_)
    · skip
      refine R_iconst (pc := 43) (v := 0) dX9_isMissing_43 (by decide) ?_
      exact R_iret (pc := 44) dX9_isMissing_44 rfl rfl (Nat.zero_le _) (Nat.zero_le _) ⟨_, rfl, rfl⟩
    · skip
      refine R_iload_n (pc := 20) dX9_isMissing_20 rfl rfl ?_
      refine R_aload_n (pc := 21) dX9_isMissing_21 rfl rfl ?_
      refine R_iload_n (pc := 22) dX9_isMissing_22 rfl rfl ?_
      refine R_iconst (pc := 23) (v := (-1)) dX9_isMissing_23 (by decide) ?_
      refine k_X9_188 (pc := 24) (gx_X9_endOf_d _ _ hI) rfl (c_140 _) (by decide) (Nat.le_refl _) (Nat.le_refl _) (Nat.le_of_ble_eq_true rfl) dX9_isMissing_24 (fun y5 w2 h => ?_)
      subst h
      refine R_icge (pc := 27) 43 dX9_isMissing_27 (by decide) (fun b27_6 => ?_) (fun b27_6 => ?_)
      · skip
        refine R_iconst (pc := 43) (v := 0) dX9_isMissing_43 (by decide) ?_
        exact R_iret (pc := 44) dX9_isMissing_44 rfl rfl (Nat.zero_le _) (Nat.zero_le _) ⟨_, rfl, rfl⟩
      · skip
        refine R_aload_n (pc := 30) dX9_isMissing_30 rfl rfl ?_
        refine R_iload_n (pc := 31) dX9_isMissing_31 rfl rfl ?_
        refine R_iload_n (pc := 32) dX9_isMissing_32 rfl rfl ?_
        refine k_X9_185 (pc := 33) (gx_X9_hasNumber _ _ _ hI) rfl (c_140 _) (by decide) (Nat.le_refl _) (Nat.le_refl _) (Nat.le_of_ble_eq_true rfl) dX9_isMissing_33 (fun y7 w2 h => ?_)
        subst h
        refine R_ifne (pc := 36) 43 dX9_isMissing_36 (by decide) (fun b36_8 => ?_) (fun b36_8 => ?_)
        · skip
          refine R_iconst (pc := 43) (v := 0) dX9_isMissing_43 (by decide) ?_
          exact R_iret (pc := 44) dX9_isMissing_44 rfl rfl (Nat.zero_le _) (Nat.zero_le _) ⟨_, rfl, rfl⟩
        · skip
          refine R_iconst (pc := 39) (v := 1) dX9_isMissing_39 (by decide) ?_
          refine R_goto (pc := 40) 44 dX9_isMissing_40 (by decide) ?_
          exact R_iret (pc := 44) dX9_isMissing_44 rfl rfl (Nat.zero_le _) (Nat.zero_le _) ⟨_, rfl, rfl⟩
theorem dX9_series_0 : decode cX9_series 0 = .ok (.iload_n 1, 1) := by decide +kernel
theorem dX9_series_1 : decode cX9_series 1 = .ok (.invokestatic 128, 3) := by decide +kernel
theorem dX9_series_4 : decode cX9_series 4 = .ok (.ifCond .ne 6, 3) := by decide +kernel
theorem dX9_series_7 : decode cX9_series 7 = .ok (.bipush (-2), 2) := by decide +kernel
theorem dX9_series_9 : decode cX9_series 9 = .ok (.ireturn, 1) := by decide +kernel
theorem dX9_series_10 : decode cX9_series 10 = .ok (.iload_n 2, 1) := by decide +kernel
theorem dX9_series_11 : decode cX9_series 11 = .ok (.iconst 0, 1) := by decide +kernel
theorem dX9_series_12 : decode cX9_series 12 = .ok (.iconst 4, 1) := by decide +kernel
theorem dX9_series_13 : decode cX9_series 13 = .ok (.invokestatic 124, 3) := by decide +kernel
theorem dX9_series_16 : decode cX9_series 16 = .ok (.ifCond .ne 6, 3) := by decide +kernel
theorem dX9_series_19 : decode cX9_series 19 = .ok (.bipush (-3), 2) := by decide +kernel
theorem dX9_series_21 : decode cX9_series 21 = .ok (.ireturn, 1) := by decide +kernel
theorem dX9_series_22 : decode cX9_series 22 = .ok (.iconst 0, 1) := by decide +kernel
theorem dX9_series_23 : decode cX9_series 23 = .ok (.istore_n 3, 1) := by decide +kernel
theorem dX9_series_24 : decode cX9_series 24 = .ok (.iconst 0, 1) := by decide +kernel
theorem dX9_series_25 : decode cX9_series 25 = .ok (.istore 4, 2) := by decide +kernel
theorem dX9_series_27 : decode cX9_series 27 = .ok (.iconst 0, 1) := by decide +kernel
theorem dX9_series_28 : decode cX9_series 28 = .ok (.istore 5, 2) := by decide +kernel
theorem dX9_series_30 : decode cX9_series 30 = .ok (.iconst 0, 1) := by decide +kernel
theorem dX9_series_31 : decode cX9_series 31 = .ok (.istore 6, 2) := by decide +kernel
theorem dX9_series_33 : decode cX9_series 33 = .ok (.iconst 1, 1) := by decide +kernel
theorem dX9_series_34 : decode cX9_series 34 = .ok (.istore 7, 2) := by decide +kernel
theorem dX9_series_36 : decode cX9_series 36 = .ok (.iload 7, 2) := by decide +kernel
theorem dX9_series_38 : decode cX9_series 38 = .ok (.bipush 100, 2) := by decide +kernel
theorem dX9_series_40 : decode cX9_series 40 = .ok (.if_icmp .ge 75, 3) := by decide +kernel
theorem dX9_series_43 : decode cX9_series 43 = .ok (.aload_n 0, 1) := by decide +kernel
theorem dX9_series_44 : decode cX9_series 44 = .ok (.iload_n 1, 1) := by decide +kernel
theorem dX9_series_45 : decode cX9_series 45 = .ok (.iload 7, 2) := by decide +kernel
theorem dX9_series_47 : decode cX9_series 47 = .ok (.invokevirtual 176, 3) := by decide +kernel
theorem dX9_series_50 : decode cX9_series 50 = .ok (.istore 8, 2) := by decide +kernel
theorem dX9_series_52 : decode cX9_series 52 = .ok (.iload_n 3, 1) := by decide +kernel
theorem dX9_series_53 : decode cX9_series 53 = .ok (.aload_n 0, 1) := by decide +kernel
theorem dX9_series_54 : decode cX9_series 54 = .ok (.iload_n 1, 1) := by decide +kernel
theorem dX9_series_55 : decode cX9_series 55 = .ok (.iload 7, 2) := by decide +kernel
theorem dX9_series_57 : decode cX9_series 57 = .ok (.invokevirtual 185, 3) := by decide +kernel
theorem dX9_series_60 : decode cX9_series 60 = .ok (.ifCond .eq 7, 3) := by decide +kernel
theorem dX9_series_63 : decode cX9_series 63 = .ok (.iconst 1, 1) := by decide +kernel
theorem dX9_series_64 : decode cX9_series 64 = .ok (.goto 4, 3) := by decide +kernel
theorem dX9_series_67 : decode cX9_series 67 = .ok (.iconst 0, 1) := by decide +kernel
theorem dX9_series_68 : decode cX9_series 68 = .ok (.iadd, 1) := by decide +kernel
theorem dX9_series_69 : decode cX9_series 69 = .ok (.istore_n 3, 1) := by decide +kernel
theorem dX9_series_70 : decode cX9_series 70 = .ok (.iload 4, 2) := by decide +kernel
theorem dX9_series_72 : decode cX9_series 72 = .ok (.iload 8, 2) := by decide +kernel
theorem dX9_series_74 : decode cX9_series 74 = .ok (.ifCond .eq 7, 3) := by decide +kernel
theorem dX9_series_77 : decode cX9_series 77 = .ok (.iconst 1, 1) := by decide +kernel
theorem dX9_series_78 : decode cX9_series 78 = .ok (.goto 4, 3) := by decide +kernel
theorem dX9_series_81 : decode cX9_series 81 = .ok (.iconst 0, 1) := by decide +kernel
theorem dX9_series_82 : decode cX9_series 82 = .ok (.iadd, 1) := by decide +kernel
theorem dX9_series_83 : decode cX9_series 83 = .ok (.istore 4, 2) := by decide +kernel
theorem dX9_series_85 : decode cX9_series 85 = .ok (.iload 5, 2) := by decide +kernel
theorem dX9_series_87 : decode cX9_series 87 = .ok (.iload 8, 2) := by decide +kernel
theorem dX9_series_89 : decode cX9_series 89 = .ok (.ifCond .eq 12, 3) := by decide +kernel
theorem dX9_series_92 : decode cX9_series 92 = .ok (.iload 6, 2) := by decide +kernel
theorem dX9_series_94 : decode cX9_series 94 = .ok (.ifCond .ne 7, 3) := by decide +kernel
theorem dX9_series_97 : decode cX9_series 97 = .ok (.iconst 1, 1) := by decide +kernel
theorem dX9_series_98 : decode cX9_series 98 = .ok (.goto 4, 3) := by decide +kernel
theorem dX9_series_101 : decode cX9_series 101 = .ok (.iconst 0, 1) := by decide +kernel
theorem dX9_series_102 : decode cX9_series 102 = .ok (.iadd, 1) := by decide +kernel
theorem dX9_series_103 : decode cX9_series 103 = .ok (.istore 5, 2) := by decide +kernel
theorem dX9_series_105 : decode cX9_series 105 = .ok (.iload 8, 2) := by decide +kernel
theorem dX9_series_107 : decode cX9_series 107 = .ok (.istore 6, 2) := by decide +kernel
theorem dX9_series_109 : decode cX9_series 109 = .ok (.iinc 7 1, 3) := by decide +kernel
theorem dX9_series_112 : decode cX9_series 112 = .ok (.goto (-76), 3) := by decide +kernel
theorem dX9_series_115 : decode cX9_series 115 = .ok (.iload_n 2, 1) := by decide +kernel
theorem dX9_series_116 : decode cX9_series 116 = .ok (.ifCond .ne 7, 3) := by decide +kernel
theorem dX9_series_119 : decode cX9_series 119 = .ok (.iload_n 3, 1) := by decide +kernel
theorem dX9_series_120 : decode cX9_series 120 = .ok (.goto 43, 3) := by decide +kernel
theorem dX9_series_123 : decode cX9_series 123 = .ok (.iload_n 2, 1) := by decide +kernel
theorem dX9_series_124 : decode cX9_series 124 = .ok (.iconst 1, 1) := by decide +kernel
theorem dX9_series_125 : decode cX9_series 125 = .ok (.if_icmp .ne 12, 3) := by decide +kernel
theorem dX9_series_128 : decode cX9_series 128 = .ok (.aload_n 0, 1) := by decide +kernel
theorem dX9_series_129 : decode cX9_series 129 = .ok (.iload_n 1, 1) := by decide +kernel
theorem dX9_series_130 : decode cX9_series 130 = .ok (.iconst 1, 1) := by decide +kernel
theorem dX9_series_131 : decode cX9_series 131 = .ok (.invokevirtual 188, 3) := by decide +kernel
theorem dX9_series_134 : decode cX9_series 134 = .ok (.goto 29, 3) := by decide +kernel
theorem dX9_series_137 : decode cX9_series 137 = .ok (.iload_n 2, 1) := by decide +kernel
theorem dX9_series_138 : decode cX9_series 138 = .ok (.iconst 2, 1) := by decide +kernel
theorem dX9_series_139 : decode cX9_series 139 = .ok (.if_icmp .ne 12, 3) := by decide +kernel
theorem dX9_series_142 : decode cX9_series 142 = .ok (.aload_n 0, 1) := by decide +kernel
theorem dX9_series_143 : decode cX9_series 143 = .ok (.iload_n 1, 1) := by decide +kernel
theorem dX9_series_144 : decode cX9_series 144 = .ok (.iconst (-1), 1) := by decide +kernel
theorem dX9_series_145 : decode cX9_series 145 = .ok (.invokevirtual 188, 3) := by decide +kernel
theorem dX9_series_148 : decode cX9_series 148 = .ok (.goto 15, 3) := by decide +kernel
theorem dX9_series_151 : decode cX9_series 151 = .ok (.iload_n 2, 1) := by decide +kernel
theorem dX9_series_152 : decode cX9_series 152 = .ok (.iconst 3, 1) := by decide +kernel
theorem dX9_series_153 : decode cX9_series 153 = .ok (.if_icmp .ne 8, 3) := by decide +kernel
theorem dX9_series_156 : decode cX9_series 156 = .ok (.iload 4, 2) := by decide +kernel
theorem dX9_series_158 : decode cX9_series 158 = .ok (.goto 5, 3) := by decide +kernel
theorem dX9_series_161 : decode cX9_series 161 = .ok (.iload 5, 2) := by decide +kernel
theorem dX9_series_163 : decode cX9_series 163 = .ok (.ireturn, 1) := by decide +kernel
set_option maxRecDepth 100000 in
set_option maxHeartbeats 40000000 in
theorem gp_m_series {G : vG} {l : Launch} (σ : Sg) (a b : Int32) (hI : Inv σ) : Sp G l yX9_series cX9_series 9 (some .int) 4 0 0 [.ref 140, .int a, .int b] (WW σ) (QI (fun _ w2 => ∃ σ2, w2 = WW σ2 ∧ Inv σ2 ∧ Cor σ σ2)) := by
  refine Sp_of_R [(some (.ref 140)), (some (.int a)), (some (.int b)), none, none, none, none, none, none] [none, none, none, none, none, none] rfl (by simp) rfl (Nat.le_of_ble_eq_true rfl) ?_
  refine R_iload_n (pc := 0) dX9_series_0 rfl rfl ?_
  refine k_X9_128 (pc := 1) (gx_X9_isPublisher _ _) rfl (by decide) (Nat.le_refl _) (Nat.le_refl _) (Nat.le_of_ble_eq_true rfl) dX9_series_1 (fun x w2 h => ?_)
  rcases h with ⟨rfl, ⟨h1, rfl⟩ | rfl⟩
  · skip
    refine R_ifne (pc := 4) 10 dX9_series_4 (by decide) (fun _ => ?_) (fun h => absurd h (by decide))
    refine R_iload_n (pc := 10) dX9_series_10 rfl rfl ?_
    refine R_iconst (pc := 11) (v := 0) dX9_series_11 (by decide) ?_
    refine R_iconst (pc := 12) (v := 4) dX9_series_12 (by decide) ?_
    refine k_X9_124 (pc := 13) (sp_X9_in _ _ _ _) rfl (by decide) (Nat.le_refl _) (Nat.le_refl _) (Nat.le_of_ble_eq_true rfl) dX9_series_13 (fun x w2 h => ?_)
    rcases h with ⟨rfl, ⟨h3, rfl⟩ | ⟨h3, rfl⟩⟩
    · skip
      refine R_ifne (pc := 16) 22 dX9_series_16 (by decide) (fun _ => ?_) (fun h => absurd h (by decide))
      refine R_iconst (pc := 22) (v := 0) dX9_series_22 (by decide) ?_
      refine st_9_3_i_i (pc := 23) dX9_series_23 ?_
      refine R_iconst (pc := 24) (v := 0) dX9_series_24 (by decide) ?_
      refine st_9_4_i_i (pc := 25) dX9_series_25 ?_
      refine R_iconst (pc := 27) (v := 0) dX9_series_27 (by decide) ?_
      refine st_9_5_i_i (pc := 28) dX9_series_28 ?_
      refine R_iconst (pc := 30) (v := 0) dX9_series_30 (by decide) ?_
      refine st_9_6_i_i (pc := 31) dX9_series_31 ?_
      refine R_iconst (pc := 33) (v := 1) dX9_series_33 (by decide) ?_
      refine st_9_7_i_i (pc := 34) dX9_series_34 ?_
      have HL36 : ∀ (q j36 : Nat) (g3_36 : Int32) (g4_36 : Int32) (g5_36 : Int32) (g6_36 : Int32) (g8_36 : Option Value), j36 + q = 100 → 1 ≤ j36 → R G l yX9_series cX9_series 9 (some .int) 4 0 0 (QI (fun _ w2 => ∃ σ2, w2 = WW σ2 ∧ Inv σ2 ∧ Cor σ σ2)) 36 [(some (.ref 140)), (some (.int a)), (some (.int b)), (some (.int g3_36)), (some (.int g4_36)), (some (.int g5_36)), (some (.int g6_36)), (some (.int (nI j36))), g8_36] [] (WW σ) 0 0 := by
        intro q
        induction q with
        | zero =>
          intro j36 g3_36 g4_36 g5_36 g6_36 g8_36 hj hs36
          obtain rfl : j36 = 100 := by omega
          refine R_iload (pc := 36) dX9_series_36 rfl ?_
          refine R_bipush (pc := 38) (v := 100) dX9_series_38 (by decide) ?_
          refine R_icge (pc := 40) 115 dX9_series_40 (by decide) (fun _ => ?_) (fun h => absurd (by decide) h)
          refine R_iload_n (pc := 115) dX9_series_115 rfl rfl ?_
          refine R_ifne (pc := 116) 123 dX9_series_116 (by decide) (fun b116_6 => ?_) (fun b116_6 => ?_)
          · skip
            refine R_iload_n (pc := 123) dX9_series_123 rfl rfl ?_
            refine R_iconst (pc := 124) (v := 1) dX9_series_124 (by decide) ?_
            refine R_icne (pc := 125) 137 dX9_series_125 (by decide) (fun b125_7 => ?_) (fun b125_7 => ?_)
            · skip
              refine R_iload_n (pc := 137) dX9_series_137 rfl rfl ?_
              refine R_iconst (pc := 138) (v := 2) dX9_series_138 (by decide) ?_
              refine R_icne (pc := 139) 151 dX9_series_139 (by decide) (fun b139_8 => ?_) (fun b139_8 => ?_)
              · skip
                refine R_iload_n (pc := 151) dX9_series_151 rfl rfl ?_
                refine R_iconst (pc := 152) (v := 3) dX9_series_152 (by decide) ?_
                refine R_icne (pc := 153) 161 dX9_series_153 (by decide) (fun b153_9 => ?_) (fun b153_9 => ?_)
                · skip
                  refine R_iload (pc := 161) dX9_series_161 rfl ?_
                  exact R_iret (pc := 163) dX9_series_163 rfl rfl (Nat.zero_le _) (Nat.zero_le _) ⟨_, rfl, _, rfl, hI, (show Cor σ σ from Cor.rfl' σ)⟩
                · skip
                  refine R_iload (pc := 156) dX9_series_156 rfl ?_
                  refine R_goto (pc := 158) 163 dX9_series_158 (by decide) ?_
                  exact R_iret (pc := 163) dX9_series_163 rfl rfl (Nat.zero_le _) (Nat.zero_le _) ⟨_, rfl, _, rfl, hI, (show Cor σ σ from Cor.rfl' σ)⟩
              · skip
                refine R_aload_n (pc := 142) dX9_series_142 rfl rfl ?_
                refine R_iload_n (pc := 143) dX9_series_143 rfl rfl ?_
                refine R_iconst (pc := 144) (v := (-1)) dX9_series_144 (by decide) ?_
                refine k_X9_188 (pc := 145) (gx_X9_endOf_d _ _ hI) rfl (c_140 _) (by decide) (Nat.le_refl _) (Nat.le_refl _) (Nat.le_of_ble_eq_true rfl) dX9_series_145 (fun y10 w2 h => ?_)
                subst h
                refine R_goto (pc := 148) 163 dX9_series_148 (by decide) ?_
                exact R_iret (pc := 163) dX9_series_163 rfl rfl (Nat.zero_le _) (Nat.zero_le _) ⟨_, rfl, _, rfl, hI, (show Cor σ σ from Cor.rfl' σ)⟩
            · skip
              refine R_aload_n (pc := 128) dX9_series_128 rfl rfl ?_
              refine R_iload_n (pc := 129) dX9_series_129 rfl rfl ?_
              refine R_iconst (pc := 130) (v := 1) dX9_series_130 (by decide) ?_
              refine k_X9_188 (pc := 131) (gx_X9_endOf_u _ _ hI) rfl (c_140 _) (by decide) (Nat.le_refl _) (Nat.le_refl _) (Nat.le_of_ble_eq_true rfl) dX9_series_131 (fun y11 w2 h => ?_)
              subst h
              refine R_goto (pc := 134) 163 dX9_series_134 (by decide) ?_
              exact R_iret (pc := 163) dX9_series_163 rfl rfl (Nat.zero_le _) (Nat.zero_le _) ⟨_, rfl, _, rfl, hI, (show Cor σ σ from Cor.rfl' σ)⟩
          · skip
            refine R_iload_n (pc := 119) dX9_series_119 rfl rfl ?_
            refine R_goto (pc := 120) 163 dX9_series_120 (by decide) ?_
            exact R_iret (pc := 163) dX9_series_163 rfl rfl (Nat.zero_le _) (Nat.zero_le _) ⟨_, rfl, _, rfl, hI, (show Cor σ σ from Cor.rfl' σ)⟩
        | succ q ih36 =>
          intro j36 g3_36 g4_36 g5_36 g6_36 g8_36 hj hs36
          have hrg36 : inR (nI j36) 1 99 := inR_ix hs36 (show j36 < 100 by omega) (by decide) (by decide) (by decide)
          have hlt36 : j36 < 100 := by omega
          refine R_iload (pc := 36) dX9_series_36 rfl ?_
          refine R_bipush (pc := 38) (v := 100) dX9_series_38 (by decide) ?_
          refine R_icge (pc := 40) 115 dX9_series_40 (by decide) (fun h => False.elim (by have q1 := ti_le h; have q2 := ti_in (show inR (nI j36) 1 99 from hrg36); have q3 := ti_in (show inR 100 100 100 from (inR_self _)); have z0 : (1 : Int32).toInt = 1 := (by decide);  have z1 : (100 : Int32).toInt = 100 := (by decide);  have z2 : (99 : Int32).toInt = 99 := (by decide); omega)) (fun _ => ?_)
          refine R_aload_n (pc := 43) dX9_series_43 rfl rfl ?_
          refine R_iload_n (pc := 44) dX9_series_44 rfl rfl ?_
          refine R_iload (pc := 45) dX9_series_45 rfl ?_
          refine k_X9_176 (pc := 47) (gx_X9_isMissing _ _ _ hI) rfl (c_140 _) (by decide) (Nat.le_refl _) (Nat.le_refl _) (Nat.le_of_ble_eq_true rfl) dX9_series_47 (fun y13 w2 h => ?_)
          subst h
          refine st_9_8_i_i (pc := 50) dX9_series_50 ?_
          refine R_iload_n (pc := 52) dX9_series_52 rfl rfl ?_
          refine R_aload_n (pc := 53) dX9_series_53 rfl rfl ?_
          refine R_iload_n (pc := 54) dX9_series_54 rfl rfl ?_
          refine R_iload (pc := 55) dX9_series_55 rfl ?_
          refine k_X9_185 (pc := 57) (gx_X9_hasNumber _ _ _ hI) rfl (c_140 _) (by decide) (Nat.le_refl _) (Nat.le_refl _) (Nat.le_of_ble_eq_true rfl) dX9_series_57 (fun y14 w2 h => ?_)
          subst h
          refine R_ifeq (pc := 60) 67 dX9_series_60 (by decide) (fun b60_15 => ?_) (fun b60_15 => ?_)
          · skip
            refine R_iconst (pc := 67) (v := 0) dX9_series_67 (by decide) ?_
            refine R_iadd (pc := 68) dX9_series_68 ?_
            refine st_9_3_i_i (pc := 69) dX9_series_69 ?_
            refine R_iload (pc := 70) dX9_series_70 rfl ?_
            refine R_iload (pc := 72) dX9_series_72 rfl ?_
            refine R_ifeq (pc := 74) 81 dX9_series_74 (by decide) (fun b74_16 => ?_) (fun b74_16 => ?_)
            · skip
              refine R_iconst (pc := 81) (v := 0) dX9_series_81 (by decide) ?_
              refine R_iadd (pc := 82) dX9_series_82 ?_
              refine st_9_4_i_i (pc := 83) dX9_series_83 ?_
              refine R_iload (pc := 85) dX9_series_85 rfl ?_
              refine R_iload (pc := 87) dX9_series_87 rfl ?_
              refine R_ifeq (pc := 89) 101 dX9_series_89 (by decide) (fun b89_17 => ?_) (fun b89_17 => ?_)
              · skip
                refine R_iconst (pc := 101) (v := 0) dX9_series_101 (by decide) ?_
                refine R_iadd (pc := 102) dX9_series_102 ?_
                refine st_9_5_i_i (pc := 103) dX9_series_103 ?_
                refine R_iload (pc := 105) dX9_series_105 rfl ?_
                refine st_9_6_i_i (pc := 107) dX9_series_107 ?_
                refine inc_9_7_1_i (pc := 109) dX9_series_109 ?_
                have r18 : inR ((nI j36) + 1) 2 100 := inR_add (show inR (nI j36) 1 99 from hrg36) (show inR 1 1 1 from (inR_self _)) (by decide) (by decide)
                have e19 := ti_add (l := 2) (h := 100) (show inR (nI j36) 1 99 from hrg36) (show inR 1 1 1 from (inR_self _)) (by decide) (by decide)
                refine R_goto (pc := 112) 36 dX9_series_112 (by decide) ?_
                rw [nI_1]
                exact ih36 (j36 + 1) _ _ _ _ _ (by omega) (by omega)
              · skip
                refine R_iload (pc := 92) dX9_series_92 rfl ?_
                refine R_ifne (pc := 94) 101 dX9_series_94 (by decide) (fun b94_20 => ?_) (fun b94_20 => ?_)
                · skip
                  refine R_iconst (pc := 101) (v := 0) dX9_series_101 (by decide) ?_
                  refine R_iadd (pc := 102) dX9_series_102 ?_
                  refine st_9_5_i_i (pc := 103) dX9_series_103 ?_
                  refine R_iload (pc := 105) dX9_series_105 rfl ?_
                  refine st_9_6_i_i (pc := 107) dX9_series_107 ?_
                  refine inc_9_7_1_i (pc := 109) dX9_series_109 ?_
                  have r21 : inR ((nI j36) + 1) 2 100 := inR_add (show inR (nI j36) 1 99 from hrg36) (show inR 1 1 1 from (inR_self _)) (by decide) (by decide)
                  have e22 := ti_add (l := 2) (h := 100) (show inR (nI j36) 1 99 from hrg36) (show inR 1 1 1 from (inR_self _)) (by decide) (by decide)
                  refine R_goto (pc := 112) 36 dX9_series_112 (by decide) ?_
                  rw [nI_1]
                  exact ih36 (j36 + 1) _ _ _ _ _ (by omega) (by omega)
                · skip
                  refine R_iconst (pc := 97) (v := 1) dX9_series_97 (by decide) ?_
                  refine R_goto (pc := 98) 102 dX9_series_98 (by decide) ?_
                  refine R_iadd (pc := 102) dX9_series_102 ?_
                  refine st_9_5_i_i (pc := 103) dX9_series_103 ?_
                  refine R_iload (pc := 105) dX9_series_105 rfl ?_
                  refine st_9_6_i_i (pc := 107) dX9_series_107 ?_
                  refine inc_9_7_1_i (pc := 109) dX9_series_109 ?_
                  have r23 : inR ((nI j36) + 1) 2 100 := inR_add (show inR (nI j36) 1 99 from hrg36) (show inR 1 1 1 from (inR_self _)) (by decide) (by decide)
                  have e24 := ti_add (l := 2) (h := 100) (show inR (nI j36) 1 99 from hrg36) (show inR 1 1 1 from (inR_self _)) (by decide) (by decide)
                  refine R_goto (pc := 112) 36 dX9_series_112 (by decide) ?_
                  rw [nI_1]
                  exact ih36 (j36 + 1) _ _ _ _ _ (by omega) (by omega)
            · skip
              refine R_iconst (pc := 77) (v := 1) dX9_series_77 (by decide) ?_
              refine R_goto (pc := 78) 82 dX9_series_78 (by decide) ?_
              refine R_iadd (pc := 82) dX9_series_82 ?_
              refine st_9_4_i_i (pc := 83) dX9_series_83 ?_
              refine R_iload (pc := 85) dX9_series_85 rfl ?_
              refine R_iload (pc := 87) dX9_series_87 rfl ?_
              refine R_ifeq (pc := 89) 101 dX9_series_89 (by decide) (fun b89_25 => ?_) (fun b89_25 => ?_)
              · skip
                refine R_iconst (pc := 101) (v := 0) dX9_series_101 (by decide) ?_
                refine R_iadd (pc := 102) dX9_series_102 ?_
                refine st_9_5_i_i (pc := 103) dX9_series_103 ?_
                refine R_iload (pc := 105) dX9_series_105 rfl ?_
                refine st_9_6_i_i (pc := 107) dX9_series_107 ?_
                refine inc_9_7_1_i (pc := 109) dX9_series_109 ?_
                have r26 : inR ((nI j36) + 1) 2 100 := inR_add (show inR (nI j36) 1 99 from hrg36) (show inR 1 1 1 from (inR_self _)) (by decide) (by decide)
                have e27 := ti_add (l := 2) (h := 100) (show inR (nI j36) 1 99 from hrg36) (show inR 1 1 1 from (inR_self _)) (by decide) (by decide)
                refine R_goto (pc := 112) 36 dX9_series_112 (by decide) ?_
                rw [nI_1]
                exact ih36 (j36 + 1) _ _ _ _ _ (by omega) (by omega)
              · skip
                refine R_iload (pc := 92) dX9_series_92 rfl ?_
                refine R_ifne (pc := 94) 101 dX9_series_94 (by decide) (fun b94_28 => ?_) (fun b94_28 => ?_)
                · skip
                  refine R_iconst (pc := 101) (v := 0) dX9_series_101 (by decide) ?_
                  refine R_iadd (pc := 102) dX9_series_102 ?_
                  refine st_9_5_i_i (pc := 103) dX9_series_103 ?_
                  refine R_iload (pc := 105) dX9_series_105 rfl ?_
                  refine st_9_6_i_i (pc := 107) dX9_series_107 ?_
                  refine inc_9_7_1_i (pc := 109) dX9_series_109 ?_
                  have r29 : inR ((nI j36) + 1) 2 100 := inR_add (show inR (nI j36) 1 99 from hrg36) (show inR 1 1 1 from (inR_self _)) (by decide) (by decide)
                  have e30 := ti_add (l := 2) (h := 100) (show inR (nI j36) 1 99 from hrg36) (show inR 1 1 1 from (inR_self _)) (by decide) (by decide)
                  refine R_goto (pc := 112) 36 dX9_series_112 (by decide) ?_
                  rw [nI_1]
                  exact ih36 (j36 + 1) _ _ _ _ _ (by omega) (by omega)
                · skip
                  refine R_iconst (pc := 97) (v := 1) dX9_series_97 (by decide) ?_
                  refine R_goto (pc := 98) 102 dX9_series_98 (by decide) ?_
                  refine R_iadd (pc := 102) dX9_series_102 ?_
                  refine st_9_5_i_i (pc := 103) dX9_series_103 ?_
                  refine R_iload (pc := 105) dX9_series_105 rfl ?_
                  refine st_9_6_i_i (pc := 107) dX9_series_107 ?_
                  refine inc_9_7_1_i (pc := 109) dX9_series_109 ?_
                  have r31 : inR ((nI j36) + 1) 2 100 := inR_add (show inR (nI j36) 1 99 from hrg36) (show inR 1 1 1 from (inR_self _)) (by decide) (by decide)
                  have e32 := ti_add (l := 2) (h := 100) (show inR (nI j36) 1 99 from hrg36) (show inR 1 1 1 from (inR_self _)) (by decide) (by decide)
                  refine R_goto (pc := 112) 36 dX9_series_112 (by decide) ?_
                  rw [nI_1]
                  exact ih36 (j36 + 1) _ _ _ _ _ (by omega) (by omega)
          · skip
            refine R_iconst (pc := 63) (v := 1) dX9_series_63 (by decide) ?_
            refine R_goto (pc := 64) 68 dX9_series_64 (by decide) ?_
            refine R_iadd (pc := 68) dX9_series_68 ?_
            refine st_9_3_i_i (pc := 69) dX9_series_69 ?_
            refine R_iload (pc := 70) dX9_series_70 rfl ?_
            refine R_iload (pc := 72) dX9_series_72 rfl ?_
            refine R_ifeq (pc := 74) 81 dX9_series_74 (by decide) (fun b74_33 => ?_) (fun b74_33 => ?_)
            · skip
              refine R_iconst (pc := 81) (v := 0) dX9_series_81 (by decide) ?_
              refine R_iadd (pc := 82) dX9_series_82 ?_
              refine st_9_4_i_i (pc := 83) dX9_series_83 ?_
              refine R_iload (pc := 85) dX9_series_85 rfl ?_
              refine R_iload (pc := 87) dX9_series_87 rfl ?_
              refine R_ifeq (pc := 89) 101 dX9_series_89 (by decide) (fun b89_34 => ?_) (fun b89_34 => ?_)
              · skip
                refine R_iconst (pc := 101) (v := 0) dX9_series_101 (by decide) ?_
                refine R_iadd (pc := 102) dX9_series_102 ?_
                refine st_9_5_i_i (pc := 103) dX9_series_103 ?_
                refine R_iload (pc := 105) dX9_series_105 rfl ?_
                refine st_9_6_i_i (pc := 107) dX9_series_107 ?_
                refine inc_9_7_1_i (pc := 109) dX9_series_109 ?_
                have r35 : inR ((nI j36) + 1) 2 100 := inR_add (show inR (nI j36) 1 99 from hrg36) (show inR 1 1 1 from (inR_self _)) (by decide) (by decide)
                have e36 := ti_add (l := 2) (h := 100) (show inR (nI j36) 1 99 from hrg36) (show inR 1 1 1 from (inR_self _)) (by decide) (by decide)
                refine R_goto (pc := 112) 36 dX9_series_112 (by decide) ?_
                rw [nI_1]
                exact ih36 (j36 + 1) _ _ _ _ _ (by omega) (by omega)
              · skip
                refine R_iload (pc := 92) dX9_series_92 rfl ?_
                refine R_ifne (pc := 94) 101 dX9_series_94 (by decide) (fun b94_37 => ?_) (fun b94_37 => ?_)
                · skip
                  refine R_iconst (pc := 101) (v := 0) dX9_series_101 (by decide) ?_
                  refine R_iadd (pc := 102) dX9_series_102 ?_
                  refine st_9_5_i_i (pc := 103) dX9_series_103 ?_
                  refine R_iload (pc := 105) dX9_series_105 rfl ?_
                  refine st_9_6_i_i (pc := 107) dX9_series_107 ?_
                  refine inc_9_7_1_i (pc := 109) dX9_series_109 ?_
                  have r38 : inR ((nI j36) + 1) 2 100 := inR_add (show inR (nI j36) 1 99 from hrg36) (show inR 1 1 1 from (inR_self _)) (by decide) (by decide)
                  have e39 := ti_add (l := 2) (h := 100) (show inR (nI j36) 1 99 from hrg36) (show inR 1 1 1 from (inR_self _)) (by decide) (by decide)
                  refine R_goto (pc := 112) 36 dX9_series_112 (by decide) ?_
                  rw [nI_1]
                  exact ih36 (j36 + 1) _ _ _ _ _ (by omega) (by omega)
                · skip
                  refine R_iconst (pc := 97) (v := 1) dX9_series_97 (by decide) ?_
                  refine R_goto (pc := 98) 102 dX9_series_98 (by decide) ?_
                  refine R_iadd (pc := 102) dX9_series_102 ?_
                  refine st_9_5_i_i (pc := 103) dX9_series_103 ?_
                  refine R_iload (pc := 105) dX9_series_105 rfl ?_
                  refine st_9_6_i_i (pc := 107) dX9_series_107 ?_
                  refine inc_9_7_1_i (pc := 109) dX9_series_109 ?_
                  have r40 : inR ((nI j36) + 1) 2 100 := inR_add (show inR (nI j36) 1 99 from hrg36) (show inR 1 1 1 from (inR_self _)) (by decide) (by decide)
                  have e41 := ti_add (l := 2) (h := 100) (show inR (nI j36) 1 99 from hrg36) (show inR 1 1 1 from (inR_self _)) (by decide) (by decide)
                  refine R_goto (pc := 112) 36 dX9_series_112 (by decide) ?_
                  rw [nI_1]
                  exact ih36 (j36 + 1) _ _ _ _ _ (by omega) (by omega)
            · skip
              refine R_iconst (pc := 77) (v := 1) dX9_series_77 (by decide) ?_
              refine R_goto (pc := 78) 82 dX9_series_78 (by decide) ?_
              refine R_iadd (pc := 82) dX9_series_82 ?_
              refine st_9_4_i_i (pc := 83) dX9_series_83 ?_
              refine R_iload (pc := 85) dX9_series_85 rfl ?_
              refine R_iload (pc := 87) dX9_series_87 rfl ?_
              refine R_ifeq (pc := 89) 101 dX9_series_89 (by decide) (fun b89_42 => ?_) (fun b89_42 => ?_)
              · skip
                refine R_iconst (pc := 101) (v := 0) dX9_series_101 (by decide) ?_
                refine R_iadd (pc := 102) dX9_series_102 ?_
                refine st_9_5_i_i (pc := 103) dX9_series_103 ?_
                refine R_iload (pc := 105) dX9_series_105 rfl ?_
                refine st_9_6_i_i (pc := 107) dX9_series_107 ?_
                refine inc_9_7_1_i (pc := 109) dX9_series_109 ?_
                have r43 : inR ((nI j36) + 1) 2 100 := inR_add (show inR (nI j36) 1 99 from hrg36) (show inR 1 1 1 from (inR_self _)) (by decide) (by decide)
                have e44 := ti_add (l := 2) (h := 100) (show inR (nI j36) 1 99 from hrg36) (show inR 1 1 1 from (inR_self _)) (by decide) (by decide)
                refine R_goto (pc := 112) 36 dX9_series_112 (by decide) ?_
                rw [nI_1]
                exact ih36 (j36 + 1) _ _ _ _ _ (by omega) (by omega)
              · skip
                refine R_iload (pc := 92) dX9_series_92 rfl ?_
                refine R_ifne (pc := 94) 101 dX9_series_94 (by decide) (fun b94_45 => ?_) (fun b94_45 => ?_)
                · skip
                  refine R_iconst (pc := 101) (v := 0) dX9_series_101 (by decide) ?_
                  refine R_iadd (pc := 102) dX9_series_102 ?_
                  refine st_9_5_i_i (pc := 103) dX9_series_103 ?_
                  refine R_iload (pc := 105) dX9_series_105 rfl ?_
                  refine st_9_6_i_i (pc := 107) dX9_series_107 ?_
                  refine inc_9_7_1_i (pc := 109) dX9_series_109 ?_
                  have r46 : inR ((nI j36) + 1) 2 100 := inR_add (show inR (nI j36) 1 99 from hrg36) (show inR 1 1 1 from (inR_self _)) (by decide) (by decide)
                  have e47 := ti_add (l := 2) (h := 100) (show inR (nI j36) 1 99 from hrg36) (show inR 1 1 1 from (inR_self _)) (by decide) (by decide)
                  refine R_goto (pc := 112) 36 dX9_series_112 (by decide) ?_
                  rw [nI_1]
                  exact ih36 (j36 + 1) _ _ _ _ _ (by omega) (by omega)
                · skip
                  refine R_iconst (pc := 97) (v := 1) dX9_series_97 (by decide) ?_
                  refine R_goto (pc := 98) 102 dX9_series_98 (by decide) ?_
                  refine R_iadd (pc := 102) dX9_series_102 ?_
                  refine st_9_5_i_i (pc := 103) dX9_series_103 ?_
                  refine R_iload (pc := 105) dX9_series_105 rfl ?_
                  refine st_9_6_i_i (pc := 107) dX9_series_107 ?_
                  refine inc_9_7_1_i (pc := 109) dX9_series_109 ?_
                  have r48 : inR ((nI j36) + 1) 2 100 := inR_add (show inR (nI j36) 1 99 from hrg36) (show inR 1 1 1 from (inR_self _)) (by decide) (by decide)
                  have e49 := ti_add (l := 2) (h := 100) (show inR (nI j36) 1 99 from hrg36) (show inR 1 1 1 from (inR_self _)) (by decide) (by decide)
                  refine R_goto (pc := 112) 36 dX9_series_112 (by decide) ?_
                  rw [nI_1]
                  exact ih36 (j36 + 1) _ _ _ _ _ (by omega) (by omega)
      exact HL36 99 1 _ _ _ _ _ (by omega) (by omega)
    · skip
      refine R_ifne (pc := 16) 22 dX9_series_16 (by decide) (fun h => absurd (by decide) h) (fun _ => ?_)
      refine R_bipush (pc := 19) (v := (-3)) dX9_series_19 (by decide) ?_
      exact R_iret (pc := 21) dX9_series_21 rfl rfl (Nat.zero_le _) (Nat.zero_le _) ⟨_, rfl, _, rfl, hI, (show Cor σ σ from Cor.rfl' σ)⟩
  · skip
    refine R_ifne (pc := 4) 10 dX9_series_4 (by decide) (fun h => absurd (by decide) h) (fun _ => ?_)
    refine R_bipush (pc := 7) (v := (-2)) dX9_series_7 (by decide) ?_
    exact R_iret (pc := 9) dX9_series_9 rfl rfl (Nat.zero_le _) (Nat.zero_le _) ⟨_, rfl, _, rfl, hI, (show Cor σ σ from Cor.rfl' σ)⟩
theorem dX9_gap_0 : decode cX9_gap 0 = .ok (.iload_n 1, 1) := by decide +kernel
theorem dX9_gap_1 : decode cX9_gap 1 = .ok (.invokestatic 128, 3) := by decide +kernel
theorem dX9_gap_4 : decode cX9_gap 4 = .ok (.ifCond .ne 6, 3) := by decide +kernel
theorem dX9_gap_7 : decode cX9_gap 7 = .ok (.bipush (-2), 2) := by decide +kernel
theorem dX9_gap_9 : decode cX9_gap 9 = .ok (.ireturn, 1) := by decide +kernel
theorem dX9_gap_10 : decode cX9_gap 10 = .ok (.iload_n 2, 1) := by decide +kernel
theorem dX9_gap_11 : decode cX9_gap 11 = .ok (.ifCond .ge 6, 3) := by decide +kernel
theorem dX9_gap_14 : decode cX9_gap 14 = .ok (.bipush (-3), 2) := by decide +kernel
theorem dX9_gap_16 : decode cX9_gap 16 = .ok (.ireturn, 1) := by decide +kernel
theorem dX9_gap_17 : decode cX9_gap 17 = .ok (.iload_n 2, 1) := by decide +kernel
theorem dX9_gap_18 : decode cX9_gap 18 = .ok (.istore_n 3, 1) := by decide +kernel
theorem dX9_gap_19 : decode cX9_gap 19 = .ok (.iconst 0, 1) := by decide +kernel
theorem dX9_gap_20 : decode cX9_gap 20 = .ok (.istore 4, 2) := by decide +kernel
theorem dX9_gap_22 : decode cX9_gap 22 = .ok (.iconst 1, 1) := by decide +kernel
theorem dX9_gap_23 : decode cX9_gap 23 = .ok (.istore 5, 2) := by decide +kernel
theorem dX9_gap_25 : decode cX9_gap 25 = .ok (.iload 5, 2) := by decide +kernel
theorem dX9_gap_27 : decode cX9_gap 27 = .ok (.bipush 100, 2) := by decide +kernel
theorem dX9_gap_29 : decode cX9_gap 29 = .ok (.if_icmp .ge 62, 3) := by decide +kernel
theorem dX9_gap_32 : decode cX9_gap 32 = .ok (.aload_n 0, 1) := by decide +kernel
theorem dX9_gap_33 : decode cX9_gap 33 = .ok (.iload_n 1, 1) := by decide +kernel
theorem dX9_gap_34 : decode cX9_gap 34 = .ok (.iload 5, 2) := by decide +kernel
theorem dX9_gap_36 : decode cX9_gap 36 = .ok (.invokevirtual 176, 3) := by decide +kernel
theorem dX9_gap_39 : decode cX9_gap 39 = .ok (.ifCond .eq 20, 3) := by decide +kernel
theorem dX9_gap_42 : decode cX9_gap 42 = .ok (.iload 4, 2) := by decide +kernel
theorem dX9_gap_44 : decode cX9_gap 44 = .ok (.ifCond .ne 8, 3) := by decide +kernel
theorem dX9_gap_47 : decode cX9_gap 47 = .ok (.iload 5, 2) := by decide +kernel
theorem dX9_gap_49 : decode cX9_gap 49 = .ok (.goto 5, 3) := by decide +kernel
theorem dX9_gap_52 : decode cX9_gap 52 = .ok (.iload 4, 2) := by decide +kernel
theorem dX9_gap_54 : decode cX9_gap 54 = .ok (.istore 4, 2) := by decide +kernel
theorem dX9_gap_56 : decode cX9_gap 56 = .ok (.goto 29, 3) := by decide +kernel
theorem dX9_gap_59 : decode cX9_gap 59 = .ok (.iload 4, 2) := by decide +kernel
theorem dX9_gap_61 : decode cX9_gap 61 = .ok (.ifCond .le 24, 3) := by decide +kernel
theorem dX9_gap_64 : decode cX9_gap 64 = .ok (.iload_n 3, 1) := by decide +kernel
theorem dX9_gap_65 : decode cX9_gap 65 = .ok (.ifCond .ne 14, 3) := by decide +kernel
theorem dX9_gap_68 : decode cX9_gap 68 = .ok (.bipush 100, 2) := by decide +kernel
theorem dX9_gap_70 : decode cX9_gap 70 = .ok (.iload 4, 2) := by decide +kernel
theorem dX9_gap_72 : decode cX9_gap 72 = .ok (.imul, 1) := by decide +kernel
theorem dX9_gap_73 : decode cX9_gap 73 = .ok (.iload 5, 2) := by decide +kernel
theorem dX9_gap_75 : decode cX9_gap 75 = .ok (.iadd, 1) := by decide +kernel
theorem dX9_gap_76 : decode cX9_gap 76 = .ok (.iconst 1, 1) := by decide +kernel
theorem dX9_gap_77 : decode cX9_gap 77 = .ok (.isub, 1) := by decide +kernel
theorem dX9_gap_78 : decode cX9_gap 78 = .ok (.ireturn, 1) := by decide +kernel
theorem dX9_gap_79 : decode cX9_gap 79 = .ok (.iinc 3 (-1), 3) := by decide +kernel
theorem dX9_gap_82 : decode cX9_gap 82 = .ok (.iconst 0, 1) := by decide +kernel
theorem dX9_gap_83 : decode cX9_gap 83 = .ok (.istore 4, 2) := by decide +kernel
theorem dX9_gap_85 : decode cX9_gap 85 = .ok (.iinc 5 1, 3) := by decide +kernel
theorem dX9_gap_88 : decode cX9_gap 88 = .ok (.goto (-63), 3) := by decide +kernel
theorem dX9_gap_91 : decode cX9_gap 91 = .ok (.iconst (-1), 1) := by decide +kernel
theorem dX9_gap_92 : decode cX9_gap 92 = .ok (.ireturn, 1) := by decide +kernel
set_option maxRecDepth 100000 in
set_option maxHeartbeats 40000000 in
theorem gp_m_gap {G : vG} {l : Launch} (σ : Sg) (a b : Int32) (hI : Inv σ) : Sp G l yX9_gap cX9_gap 6 (some .int) 4 0 0 [.ref 140, .int a, .int b] (WW σ) (QI (fun _ w2 => ∃ σ2, w2 = WW σ2 ∧ Inv σ2 ∧ Cor σ σ2)) := by
  refine Sp_of_R [(some (.ref 140)), (some (.int a)), (some (.int b)), none, none, none] [none, none, none] rfl (by simp) rfl (Nat.le_of_ble_eq_true rfl) ?_
  refine R_iload_n (pc := 0) dX9_gap_0 rfl rfl ?_
  refine k_X9_128 (pc := 1) (gx_X9_isPublisher _ _) rfl (by decide) (Nat.le_refl _) (Nat.le_refl _) (Nat.le_of_ble_eq_true rfl) dX9_gap_1 (fun x w2 h => ?_)
  rcases h with ⟨rfl, ⟨h1, rfl⟩ | rfl⟩
  · skip
    refine R_ifne (pc := 4) 10 dX9_gap_4 (by decide) (fun _ => ?_) (fun h => absurd h (by decide))
    refine R_iload_n (pc := 10) dX9_gap_10 rfl rfl ?_
    refine R_ifge (pc := 11) 17 dX9_gap_11 (by decide) (fun b11_3 => ?_) (fun b11_3 => ?_)
    · skip
      refine R_iload_n (pc := 17) dX9_gap_17 rfl rfl ?_
      refine st_6_3_i_i (pc := 18) dX9_gap_18 ?_
      refine R_iconst (pc := 19) (v := 0) dX9_gap_19 (by decide) ?_
      refine st_6_4_i_i (pc := 20) dX9_gap_20 ?_
      refine R_iconst (pc := 22) (v := 1) dX9_gap_22 (by decide) ?_
      refine st_6_5_i_i (pc := 23) dX9_gap_23 ?_
      have HL25 : ∀ (q j25 : Nat) (g3_25 : Int32) (g4_25 : Int32), j25 + q = 100 → 1 ≤ j25 → R G l yX9_gap cX9_gap 6 (some .int) 4 0 0 (QI (fun _ w2 => ∃ σ2, w2 = WW σ2 ∧ Inv σ2 ∧ Cor σ σ2)) 25 [(some (.ref 140)), (some (.int a)), (some (.int b)), (some (.int g3_25)), (some (.int g4_25)), (some (.int (nI j25)))] [] (WW σ) 0 0 := by
        intro q
        induction q with
        | zero =>
          intro j25 g3_25 g4_25 hj hs25
          obtain rfl : j25 = 100 := by omega
          refine R_iload (pc := 25) dX9_gap_25 rfl ?_
          refine R_bipush (pc := 27) (v := 100) dX9_gap_27 (by decide) ?_
          refine R_icge (pc := 29) 91 dX9_gap_29 (by decide) (fun _ => ?_) (fun h => absurd (by decide) h)
          refine R_iconst (pc := 91) (v := (-1)) dX9_gap_91 (by decide) ?_
          exact R_iret (pc := 92) dX9_gap_92 rfl rfl (Nat.zero_le _) (Nat.zero_le _) ⟨_, rfl, _, rfl, hI, (show Cor σ σ from Cor.rfl' σ)⟩
        | succ q ih25 =>
          intro j25 g3_25 g4_25 hj hs25
          have hrg25 : inR (nI j25) 1 99 := inR_ix hs25 (show j25 < 100 by omega) (by decide) (by decide) (by decide)
          have hlt25 : j25 < 100 := by omega
          refine R_iload (pc := 25) dX9_gap_25 rfl ?_
          refine R_bipush (pc := 27) (v := 100) dX9_gap_27 (by decide) ?_
          refine R_icge (pc := 29) 91 dX9_gap_29 (by decide) (fun h => False.elim (by have q1 := ti_le h; have q2 := ti_in (show inR (nI j25) 1 99 from hrg25); have q3 := ti_in (show inR 100 100 100 from (inR_self _)); have z0 : (1 : Int32).toInt = 1 := (by decide);  have z1 : (100 : Int32).toInt = 100 := (by decide);  have z2 : (99 : Int32).toInt = 99 := (by decide); omega)) (fun _ => ?_)
          refine R_aload_n (pc := 32) dX9_gap_32 rfl rfl ?_
          refine R_iload_n (pc := 33) dX9_gap_33 rfl rfl ?_
          refine R_iload (pc := 34) dX9_gap_34 rfl ?_
          refine k_X9_176 (pc := 36) (gx_X9_isMissing _ _ _ hI) rfl (c_140 _) (by decide) (Nat.le_refl _) (Nat.le_refl _) (Nat.le_of_ble_eq_true rfl) dX9_gap_36 (fun y6 w2 h => ?_)
          subst h
          refine R_ifeq (pc := 39) 59 dX9_gap_39 (by decide) (fun b39_7 => ?_) (fun b39_7 => ?_)
          · skip
            refine R_iload (pc := 59) dX9_gap_59 rfl ?_
            refine R_ifle (pc := 61) 85 dX9_gap_61 (by decide) (fun b61_8 => ?_) (fun b61_8 => ?_)
            · skip
              refine inc_6_5_1_i (pc := 85) dX9_gap_85 ?_
              have r9 : inR ((nI j25) + 1) 2 100 := inR_add (show inR (nI j25) 1 99 from hrg25) (show inR 1 1 1 from (inR_self _)) (by decide) (by decide)
              have e10 := ti_add (l := 2) (h := 100) (show inR (nI j25) 1 99 from hrg25) (show inR 1 1 1 from (inR_self _)) (by decide) (by decide)
              refine R_goto (pc := 88) 25 dX9_gap_88 (by decide) ?_
              rw [nI_1]
              exact ih25 (j25 + 1) _ _ (by omega) (by omega)
            · skip
              refine R_iload_n (pc := 64) dX9_gap_64 rfl rfl ?_
              refine R_ifne (pc := 65) 79 dX9_gap_65 (by decide) (fun b65_11 => ?_) (fun b65_11 => ?_)
              · skip
                refine inc_6_3_m1_i (pc := 79) dX9_gap_79 ?_
                refine R_iconst (pc := 82) (v := 0) dX9_gap_82 (by decide) ?_
                refine st_6_4_i_i (pc := 83) dX9_gap_83 ?_
                refine inc_6_5_1_i (pc := 85) dX9_gap_85 ?_
                have r12 : inR ((nI j25) + 1) 2 100 := inR_add (show inR (nI j25) 1 99 from hrg25) (show inR 1 1 1 from (inR_self _)) (by decide) (by decide)
                have e13 := ti_add (l := 2) (h := 100) (show inR (nI j25) 1 99 from hrg25) (show inR 1 1 1 from (inR_self _)) (by decide) (by decide)
                refine R_goto (pc := 88) 25 dX9_gap_88 (by decide) ?_
                rw [nI_1]
                exact ih25 (j25 + 1) _ _ (by omega) (by omega)
              · skip
                refine R_bipush (pc := 68) (v := 100) dX9_gap_68 (by decide) ?_
                refine R_iload (pc := 70) dX9_gap_70 rfl ?_
                refine R_imul (pc := 72) dX9_gap_72 ?_
                refine R_iload (pc := 73) dX9_gap_73 rfl ?_
                refine R_iadd (pc := 75) dX9_gap_75 ?_
                refine R_iconst (pc := 76) (v := 1) dX9_gap_76 (by decide) ?_
                refine R_isub (pc := 77) dX9_gap_77 ?_
                exact R_iret (pc := 78) dX9_gap_78 rfl rfl (Nat.zero_le _) (Nat.zero_le _) ⟨_, rfl, _, rfl, hI, (show Cor σ σ from Cor.rfl' σ)⟩
          · skip
            refine R_iload (pc := 42) dX9_gap_42 rfl ?_
            refine R_ifne (pc := 44) 52 dX9_gap_44 (by decide) (fun b44_14 => ?_) (fun b44_14 => ?_)
            · skip
              refine R_iload (pc := 52) dX9_gap_52 rfl ?_
              refine st_6_4_i_i (pc := 54) dX9_gap_54 ?_
              refine R_goto (pc := 56) 85 dX9_gap_56 (by decide) ?_
              refine inc_6_5_1_i (pc := 85) dX9_gap_85 ?_
              have r15 : inR ((nI j25) + 1) 2 100 := inR_add (show inR (nI j25) 1 99 from hrg25) (show inR 1 1 1 from (inR_self _)) (by decide) (by decide)
              have e16 := ti_add (l := 2) (h := 100) (show inR (nI j25) 1 99 from hrg25) (show inR 1 1 1 from (inR_self _)) (by decide) (by decide)
              refine R_goto (pc := 88) 25 dX9_gap_88 (by decide) ?_
              rw [nI_1]
              exact ih25 (j25 + 1) _ _ (by omega) (by omega)
            · skip
              refine R_iload (pc := 47) dX9_gap_47 rfl ?_
              refine R_goto (pc := 49) 54 dX9_gap_49 (by decide) ?_
              refine st_6_4_i_i (pc := 54) dX9_gap_54 ?_
              refine R_goto (pc := 56) 85 dX9_gap_56 (by decide) ?_
              refine inc_6_5_1_i (pc := 85) dX9_gap_85 ?_
              have r17 : inR ((nI j25) + 1) 2 100 := inR_add (show inR (nI j25) 1 99 from hrg25) (show inR 1 1 1 from (inR_self _)) (by decide) (by decide)
              have e18 := ti_add (l := 2) (h := 100) (show inR (nI j25) 1 99 from hrg25) (show inR 1 1 1 from (inR_self _)) (by decide) (by decide)
              refine R_goto (pc := 88) 25 dX9_gap_88 (by decide) ?_
              rw [nI_1]
              exact ih25 (j25 + 1) _ _ (by omega) (by omega)
      exact HL25 99 1 _ _ (by omega) (by omega)
    · skip
      refine R_bipush (pc := 14) (v := (-3)) dX9_gap_14 (by decide) ?_
      exact R_iret (pc := 16) dX9_gap_16 rfl rfl (Nat.zero_le _) (Nat.zero_le _) ⟨_, rfl, _, rfl, hI, (show Cor σ σ from Cor.rfl' σ)⟩
  · skip
    refine R_ifne (pc := 4) 10 dX9_gap_4 (by decide) (fun h => absurd (by decide) h) (fun _ => ?_)
    refine R_bipush (pc := 7) (v := (-2)) dX9_gap_7 (by decide) ?_
    exact R_iret (pc := 9) dX9_gap_9 rfl rfl (Nat.zero_le _) (Nat.zero_le _) ⟨_, rfl, _, rfl, hI, (show Cor σ σ from Cor.rfl' σ)⟩
