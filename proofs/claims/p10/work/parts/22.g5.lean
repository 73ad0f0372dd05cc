/-! methods on any state that keeps the invariant -/
theorem dX5_gather_0 : decode cX5_gather 0 = .ok (.iconst 1, 1) := by decide +kernel
theorem dX5_gather_1 : decode cX5_gather 1 = .ok (.istore_n 2, 1) := by decide +kernel
theorem dX5_gather_2 : decode cX5_gather 2 = .ok (.iload_n 2, 1) := by decide +kernel
theorem dX5_gather_3 : decode cX5_gather 3 = .ok (.bipush 99, 2) := by decide +kernel
theorem dX5_gather_5 : decode cX5_gather 5 = .ok (.if_icmp .gt 16, 3) := by decide +kernel
theorem dX5_gather_8 : decode cX5_gather 8 = .ok (.aload_n 0, 1) := by decide +kernel
theorem dX5_gather_9 : decode cX5_gather 9 = .ok (.getfield 9, 3) := by decide +kernel
theorem dX5_gather_12 : decode cX5_gather 12 = .ok (.iload_n 2, 1) := by decide +kernel
theorem dX5_gather_13 : decode cX5_gather 13 = .ok (.iconst 0, 1) := by decide +kernel
theorem dX5_gather_14 : decode cX5_gather 14 = .ok (.bastore, 1) := by decide +kernel
theorem dX5_gather_15 : decode cX5_gather 15 = .ok (.iinc 2 1, 3) := by decide +kernel
theorem dX5_gather_18 : decode cX5_gather 18 = .ok (.goto (-16), 3) := by decide +kernel
theorem dX5_gather_21 : decode cX5_gather 21 = .ok (.iconst 0, 1) := by decide +kernel
theorem dX5_gather_22 : decode cX5_gather 22 = .ok (.istore_n 2, 1) := by decide +kernel
theorem dX5_gather_23 : decode cX5_gather 23 = .ok (.iload_n 2, 1) := by decide +kernel
theorem dX5_gather_24 : decode cX5_gather 24 = .ok (.aload_n 0, 1) := by decide +kernel
theorem dX5_gather_25 : decode cX5_gather 25 = .ok (.getfield 15, 3) := by decide +kernel
theorem dX5_gather_28 : decode cX5_gather 28 = .ok (.getfield 19, 3) := by decide +kernel
theorem dX5_gather_31 : decode cX5_gather 31 = .ok (.if_icmp .ge 48, 3) := by decide +kernel
theorem dX5_gather_34 : decode cX5_gather 34 = .ok (.aload_n 0, 1) := by decide +kernel
theorem dX5_gather_35 : decode cX5_gather 35 = .ok (.getfield 15, 3) := by decide +kernel
theorem dX5_gather_38 : decode cX5_gather 38 = .ok (.iload_n 2, 1) := by decide +kernel
theorem dX5_gather_39 : decode cX5_gather 39 = .ok (.invokevirtual 25, 3) := by decide +kernel
theorem dX5_gather_42 : decode cX5_gather 42 = .ok (.ifCond .eq 31, 3) := by decide +kernel
theorem dX5_gather_45 : decode cX5_gather 45 = .ok (.aload_n 0, 1) := by decide +kernel
theorem dX5_gather_46 : decode cX5_gather 46 = .ok (.getfield 15, 3) := by decide +kernel
theorem dX5_gather_49 : decode cX5_gather 49 = .ok (.getfield 29, 3) := by decide +kernel
theorem dX5_gather_52 : decode cX5_gather 52 = .ok (.iload_n 2, 1) := by decide +kernel
theorem dX5_gather_53 : decode cX5_gather 53 = .ok (.iaload, 1) := by decide +kernel
theorem dX5_gather_54 : decode cX5_gather 54 = .ok (.iload_n 1, 1) := by decide +kernel
theorem dX5_gather_55 : decode cX5_gather 55 = .ok (.if_icmp .ne 18, 3) := by decide +kernel
theorem dX5_gather_58 : decode cX5_gather 58 = .ok (.aload_n 0, 1) := by decide +kernel
theorem dX5_gather_59 : decode cX5_gather 59 = .ok (.getfield 9, 3) := by decide +kernel
theorem dX5_gather_62 : decode cX5_gather 62 = .ok (.aload_n 0, 1) := by decide +kernel
theorem dX5_gather_63 : decode cX5_gather 63 = .ok (.getfield 15, 3) := by decide +kernel
theorem dX5_gather_66 : decode cX5_gather 66 = .ok (.getfield 33, 3) := by decide +kernel
theorem dX5_gather_69 : decode cX5_gather 69 = .ok (.iload_n 2, 1) := by decide +kernel
theorem dX5_gather_70 : decode cX5_gather 70 = .ok (.iaload, 1) := by decide +kernel
theorem dX5_gather_71 : decode cX5_gather 71 = .ok (.iconst 1, 1) := by decide +kernel
theorem dX5_gather_72 : decode cX5_gather 72 = .ok (.bastore, 1) := by decide +kernel
theorem dX5_gather_73 : decode cX5_gather 73 = .ok (.iinc 2 1, 3) := by decide +kernel
theorem dX5_gather_76 : decode cX5_gather 76 = .ok (.goto (-53), 3) := by decide +kernel
theorem dX5_gather_79 : decode cX5_gather 79 = .ok (.aload_n 0, 1) := by decide +kernel
theorem dX5_gather_80 : decode cX5_gather 80 = .ok (.iconst 0, 1) := by decide +kernel
theorem dX5_gather_81 : decode cX5_gather 81 = .ok (.putfield 36, 3) := by decide +kernel
theorem dX5_gather_84 : decode cX5_gather 84 = .ok (.aload_n 0, 1) := by decide +kernel
theorem dX5_gather_85 : decode cX5_gather 85 = .ok (.iconst (-1), 1) := by decide +kernel
theorem dX5_gather_86 : decode cX5_gather 86 = .ok (.putfield 37, 3) := by decide +kernel
theorem dX5_gather_89 : decode cX5_gather 89 = .ok (.aload_n 0, 1) := by decide +kernel
theorem dX5_gather_90 : decode cX5_gather 90 = .ok (.iconst (-1), 1) := by decide +kernel
theorem dX5_gather_91 : decode cX5_gather 91 = .ok (.putfield 40, 3) := by decide +kernel
theorem dX5_gather_94 : decode cX5_gather 94 = .ok (.iconst 1, 1) := by decide +kernel
theorem dX5_gather_95 : decode cX5_gather 95 = .ok (.istore_n 2, 1) := by decide +kernel
theorem dX5_gather_96 : decode cX5_gather 96 = .ok (.iload_n 2, 1) := by decide +kernel
theorem dX5_gather_97 : decode cX5_gather 97 = .ok (.bipush 99, 2) := by decide +kernel
theorem dX5_gather_99 : decode cX5_gather 99 = .ok (.if_icmp .gt 53, 3) := by decide +kernel
theorem dX5_gather_102 : decode cX5_gather 102 = .ok (.aload_n 0, 1) := by decide +kernel
theorem dX5_gather_103 : decode cX5_gather 103 = .ok (.getfield 9, 3) := by decide +kernel
theorem dX5_gather_106 : decode cX5_gather 106 = .ok (.iload_n 2, 1) := by decide +kernel
theorem dX5_gather_107 : decode cX5_gather 107 = .ok (.baload, 1) := by decide +kernel
theorem dX5_gather_108 : decode cX5_gather 108 = .ok (.ifCond .eq 38, 3) := by decide +kernel
theorem dX5_gather_111 : decode cX5_gather 111 = .ok (.aload_n 0, 1) := by decide +kernel
theorem dX5_gather_112 : decode cX5_gather 112 = .ok (.dup, 1) := by decide +kernel
theorem dX5_gather_113 : decode cX5_gather 113 = .ok (.getfield 36, 3) := by decide +kernel
theorem dX5_gather_116 : decode cX5_gather 116 = .ok (.iconst 1, 1) := by decide +kernel
theorem dX5_gather_117 : decode cX5_gather 117 = .ok (.iadd, 1) := by decide +kernel
theorem dX5_gather_118 : decode cX5_gather 118 = .ok (.putfield 36, 3) := by decide +kernel
theorem dX5_gather_121 : decode cX5_gather 121 = .ok (.aload_n 0, 1) := by decide +kernel
theorem dX5_gather_122 : decode cX5_gather 122 = .ok (.aload_n 0, 1) := by decide +kernel
theorem dX5_gather_123 : decode cX5_gather 123 = .ok (.getfield 37, 3) := by decide +kernel
theorem dX5_gather_126 : decode cX5_gather 126 = .ok (.iconst (-1), 1) := by decide +kernel
theorem dX5_gather_127 : decode cX5_gather 127 = .ok (.if_icmp .ne 7, 3) := by decide +kernel
theorem dX5_gather_130 : decode cX5_gather 130 = .ok (.iload_n 2, 1) := by decide +kernel
theorem dX5_gather_131 : decode cX5_gather 131 = .ok (.goto 7, 3) := by decide +kernel
theorem dX5_gather_134 : decode cX5_gather 134 = .ok (.aload_n 0, 1) := by decide +kernel
theorem dX5_gather_135 : decode cX5_gather 135 = .ok (.getfield 37, 3) := by decide +kernel
theorem dX5_gather_138 : decode cX5_gather 138 = .ok (.putfield 37, 3) := by decide +kernel
theorem dX5_gather_141 : decode cX5_gather 141 = .ok (.aload_n 0, 1) := by decide +kernel
theorem dX5_gather_142 : decode cX5_gather 142 = .ok (.iload_n 2, 1) := by decide +kernel
theorem dX5_gather_143 : decode cX5_gather 143 = .ok (.putfield 40, 3) := by decide +kernel
theorem dX5_gather_146 : decode cX5_gather 146 = .ok (.iinc 2 1, 3) := by decide +kernel
theorem dX5_gather_149 : decode cX5_gather 149 = .ok (.goto (-53), 3) := by decide +kernel
theorem dX5_gather_152 : decode cX5_gather 152 = .ok (.return_, 1) := by decide +kernel
set_option maxRecDepth 100000 in
set_option maxHeartbeats 40000000 in
theorem gx_X5_gather {G : vG} {l : Launch} (σ : Sg) (p : Int32) (hI : Inv σ) : Sp G l yX5_gather cX5_gather 3 none 1 0 0 [.ref 56, .int p] (WW σ) (QV (fun w2 => ∃ σ2, w2 = WW σ2 ∧ Inv σ2 ∧ Cor σ σ2)) := by
  refine Sp_of_R [(some (.ref 56)), (some (.int p)), none] [none] rfl (by simp) rfl (Nat.le_of_ble_eq_true rfl) ?_
  refine R_iconst (pc := 0) (v := 1) dX5_gather_0 (by decide) ?_
  refine st_3_2_i_i (pc := 1) dX5_gather_1 ?_
  have HL2 : ∀ (q j2 : Nat) (σ2 : Sg), j2 + q = 100 → 1 ≤ j2 → Inv σ2 → Cor σ σ2 → R G l yX5_gather cX5_gather 3 none 1 0 0 (QV (fun w2 => ∃ σ2, w2 = WW σ2 ∧ Inv σ2 ∧ Cor σ σ2)) 2 [(some (.ref 56)), (some (.int p)), (some (.int (nI j2)))] [] (WW σ2) 0 0 := by
    intro q
    induction q with
    | zero =>
      intro j2 σ2 hj hs2 hI2 hC2
      obtain rfl : j2 = 100 := by omega
      refine R_iload_n (pc := 2) dX5_gather_2 rfl rfl ?_
      refine R_bipush (pc := 3) (v := 99) dX5_gather_3 (by decide) ?_
      refine R_icgt (pc := 5) 21 dX5_gather_5 (by decide) (fun _ => ?_) (fun h => absurd (by decide) h)
      refine R_iconst (pc := 21) (v := 0) dX5_gather_21 (by decide) ?_
      refine st_3_2_i_i (pc := 22) dX5_gather_22 ?_
      have HL23 : ∀ (q j23 : Nat) (σ23 : Sg), j23 + q = 20 → 0 ≤ j23 → Inv σ23 → Cor σ σ23 → R G l yX5_gather cX5_gather 3 none 1 0 0 (QV (fun w2 => ∃ σ2, w2 = WW σ2 ∧ Inv σ2 ∧ Cor σ σ2)) 23 [(some (.ref 56)), (some (.int p)), (some (.int (nI j23)))] [] (WW σ23) 0 0 := by
        intro q
        induction q with
        | zero =>
          intro j23 σ23 hj hs23 hI23 hC23
          obtain rfl : j23 = 20 := by omega
          refine R_iload_n (pc := 23) dX5_gather_23 rfl rfl ?_
          refine R_aload_n (pc := 24) dX5_gather_24 rfl rfl ?_
          refine g_X5_15 (pc := 25) (v := .ref 1) rfl dX5_gather_25 (c_56 _) rfl ?_
          refine g_X5_19 (pc := 28) (v := .int (σ23.1 110)) rfl dX5_gather_28 (c_1 _) rfl ?_
          refine R_icge (pc := 31) 79 dX5_gather_31 (by decide) (fun _ => ?_) (fun h => absurd (Int32.not_lt.mp (inR_up (iv_110 hI23) (Int32.le_refl _) (by decide)).2) h)
          refine R_aload_n (pc := 79) dX5_gather_79 rfl rfl ?_
          refine R_iconst (pc := 80) (v := 0) dX5_gather_80 (by decide) ?_
          refine p_X5_36 (pc := 81) rfl dX5_gather_81 (c_56 _) (Nat.le_of_ble_eq_true rfl) rfl rfl (s_56_2 _ _) ?_
          have hW3 := cor_si 5602 0 hC23 rfl
          refine R_aload_n (pc := 84) dX5_gather_84 rfl rfl ?_
          refine R_iconst (pc := 85) (v := (-1)) dX5_gather_85 (by decide) ?_
          refine p_X5_37 (pc := 86) rfl dX5_gather_86 (c_56 _) (Nat.le_of_ble_eq_true rfl) rfl rfl (s_56_3 _ _) ?_
          have hV4 := su_5603 hI23 (show inR (-1) (-1) 99 from ⟨by decide, by decide⟩)
          have hW5 := cor_si 5603 (-1) hW3 rfl
          refine R_aload_n (pc := 89) dX5_gather_89 rfl rfl ?_
          refine R_iconst (pc := 90) (v := (-1)) dX5_gather_90 (by decide) ?_
          refine p_X5_40 (pc := 91) rfl dX5_gather_91 (c_56 _) (Nat.le_of_ble_eq_true rfl) rfl rfl (s_56_4 _ _) ?_
          have hV6 := su_5604 hV4 (show inR (-1) (-1) 99 from ⟨by decide, by decide⟩)
          have hW7 := cor_si 5604 (-1) hW5 rfl
          refine R_iconst (pc := 94) (v := 1) dX5_gather_94 (by decide) ?_
          refine st_3_2_i_i (pc := 95) dX5_gather_95 ?_
          have HL96 : ∀ (q j96 : Nat) (σ96 : Sg), j96 + q = 100 → 1 ≤ j96 → Inv σ96 → Cor σ σ96 → R G l yX5_gather cX5_gather 3 none 1 0 0 (QV (fun w2 => ∃ σ2, w2 = WW σ2 ∧ Inv σ2 ∧ Cor σ σ2)) 96 [(some (.ref 56)), (some (.int p)), (some (.int (nI j96)))] [] (WW σ96) 0 0 := by
            intro q
            induction q with
            | zero =>
              intro j96 σ96 hj hs96 hI96 hC96
              obtain rfl : j96 = 100 := by omega
              refine R_iload_n (pc := 96) dX5_gather_96 rfl rfl ?_
              refine R_bipush (pc := 97) (v := 99) dX5_gather_97 (by decide) ?_
              refine R_icgt (pc := 99) 152 dX5_gather_99 (by decide) (fun _ => ?_) (fun h => absurd (by decide) h)
              exact R_vret (pc := 152) dX5_gather_152 rfl (Nat.zero_le _) (Nat.zero_le _) ⟨rfl, _, rfl, hI96, hC96⟩
            | succ q ih96 =>
              intro j96 σ96 hj hs96 hI96 hC96
              have hrg96 : inR (nI j96) 1 99 := inR_ix hs96 (show j96 < 100 by omega) (by decide) (by decide) (by decide)
              have hlt96 : j96 < 100 := by omega
              refine R_iload_n (pc := 96) dX5_gather_96 rfl rfl ?_
              refine R_bipush (pc := 97) (v := 99) dX5_gather_97 (by decide) ?_
              refine R_icgt (pc := 99) 152 dX5_gather_99 (by decide) (fun h => False.elim (by have q1 := ti_lt h; have q2 := ti_in (show inR (nI j96) 1 99 from hrg96); have q3 := ti_in (show inR 99 99 99 from (inR_self _)); have z0 : (1 : Int32).toInt = 1 := (by decide);  have z1 : (99 : Int32).toInt = 99 := (by decide); omega)) (fun _ => ?_)
              refine R_aload_n (pc := 102) dX5_gather_102 rfl rfl ?_
              refine g_X5_9 (pc := 103) (v := .ref 57) rfl dX5_gather_103 (c_56 _) rfl ?_
              refine R_iload_n (pc := 106) dX5_gather_106 rfl rfl ?_
              have hx10 : vp_in (nI j96) 100 := (vp_in_nI (by omega) (by decide))
              refine R_baload (pc := 107) dX5_gather_107 (c_57 _) hx10 ?_
              refine R_ifeq (pc := 108) 146 dX5_gather_108 (by decide) (fun b108_11 => ?_) (fun b108_11 => ?_)
              · skip
                refine inc_3_2_1_i (pc := 146) dX5_gather_146 ?_
                have r12 : inR ((nI j96) + 1) 2 100 := inR_add (show inR (nI j96) 1 99 from hrg96) (show inR 1 1 1 from (inR_self _)) (by decide) (by decide)
                have e13 := ti_add (l := 2) (h := 100) (show inR (nI j96) 1 99 from hrg96) (show inR 1 1 1 from (inR_self _)) (by decide) (by decide)
                refine R_goto (pc := 149) 96 dX5_gather_149 (by decide) ?_
                rw [nI_1]
                exact ih96 (j96 + 1) _ (by omega) (by omega) hI96 hC96
              · skip
                refine R_aload_n (pc := 111) dX5_gather_111 rfl rfl ?_
                refine R_dup (pc := 112) dX5_gather_112 rfl ?_
                refine g_X5_36 (pc := 113) (v := .int (σ96.1 5602)) rfl dX5_gather_113 (c_56 _) rfl ?_
                refine R_iconst (pc := 116) (v := 1) dX5_gather_116 (by decide) ?_
                refine R_iadd (pc := 117) dX5_gather_117 ?_
                refine p_X5_36 (pc := 118) rfl dX5_gather_118 (c_56 _) (Nat.le_of_ble_eq_true rfl) rfl rfl (s_56_2 _ _) ?_
                have hW14 := cor_si 5602 ((σ96.1 5602) + 1) hC96 rfl
                refine R_aload_n (pc := 121) dX5_gather_121 rfl rfl ?_
                refine R_aload_n (pc := 122) dX5_gather_122 rfl rfl ?_
                refine g_X5_37 (pc := 123) (v := .int (σ96.1 5603)) rfl dX5_gather_123 (c_56 _) rfl ?_
                refine R_iconst (pc := 126) (v := (-1)) dX5_gather_126 (by decide) ?_
                refine R_icne (pc := 127) 134 dX5_gather_127 (by decide) (fun b127_15 => ?_) (fun b127_15 => ?_)
                · skip
                  refine R_aload_n (pc := 134) dX5_gather_134 rfl rfl ?_
                  refine g_X5_37 (pc := 135) (v := .int (σ96.1 5603)) rfl dX5_gather_135 (c_56 _) rfl ?_
                  refine p_X5_37 (pc := 138) rfl dX5_gather_138 (c_56 _) (Nat.le_of_ble_eq_true rfl) rfl rfl (s_56_3 _ _) ?_
                  have hV16 := su_5603 hI96 (iv_5603 hI96)
                  have hW17 := cor_si 5603 (σ96.1 5603) hW14 rfl
                  refine R_aload_n (pc := 141) dX5_gather_141 rfl rfl ?_
                  refine R_iload_n (pc := 142) dX5_gather_142 rfl rfl ?_
                  refine p_X5_40 (pc := 143) rfl dX5_gather_143 (c_56 _) (Nat.le_of_ble_eq_true rfl) rfl rfl (s_56_4 _ _) ?_
                  have hV18 := su_5604 hV16 (inR_up hrg96 (by decide) (by decide))
                  have hW19 := cor_si 5604 (nI j96) hW17 rfl
                  refine inc_3_2_1_i (pc := 146) dX5_gather_146 ?_
                  have r20 : inR ((nI j96) + 1) 2 100 := inR_add (show inR (nI j96) 1 99 from hrg96) (show inR 1 1 1 from (inR_self _)) (by decide) (by decide)
                  have e21 := ti_add (l := 2) (h := 100) (show inR (nI j96) 1 99 from hrg96) (show inR 1 1 1 from (inR_self _)) (by decide) (by decide)
                  refine R_goto (pc := 149) 96 dX5_gather_149 (by decide) ?_
                  rw [nI_1]
                  exact ih96 (j96 + 1) _ (by omega) (by omega) hV18 hW19
                · skip
                  refine R_iload_n (pc := 130) dX5_gather_130 rfl rfl ?_
                  refine R_goto (pc := 131) 138 dX5_gather_131 (by decide) ?_
                  refine p_X5_37 (pc := 138) rfl dX5_gather_138 (c_56 _) (Nat.le_of_ble_eq_true rfl) rfl rfl (s_56_3 _ _) ?_
                  have hV22 := su_5603 hI96 (inR_up hrg96 (by decide) (by decide))
                  have hW23 := cor_si 5603 (nI j96) hW14 rfl
                  refine R_aload_n (pc := 141) dX5_gather_141 rfl rfl ?_
                  refine R_iload_n (pc := 142) dX5_gather_142 rfl rfl ?_
                  refine p_X5_40 (pc := 143) rfl dX5_gather_143 (c_56 _) (Nat.le_of_ble_eq_true rfl) rfl rfl (s_56_4 _ _) ?_
                  have hV24 := su_5604 hV22 (inR_up hrg96 (by decide) (by decide))
                  have hW25 := cor_si 5604 (nI j96) hW23 rfl
                  refine inc_3_2_1_i (pc := 146) dX5_gather_146 ?_
                  have r26 : inR ((nI j96) + 1) 2 100 := inR_add (show inR (nI j96) 1 99 from hrg96) (show inR 1 1 1 from (inR_self _)) (by decide) (by decide)
                  have e27 := ti_add (l := 2) (h := 100) (show inR (nI j96) 1 99 from hrg96) (show inR 1 1 1 from (inR_self _)) (by decide) (by decide)
                  refine R_goto (pc := 149) 96 dX5_gather_149 (by decide) ?_
                  rw [nI_1]
                  exact ih96 (j96 + 1) _ (by omega) (by omega) hV24 hW25
          exact HL96 99 1 _ (by omega) (by omega) hV6 hW7
        | succ q ih23 =>
          intro j23 σ23 hj hs23 hI23 hC23
          have hrg23 : inR (nI j23) 0 19 := inR_ix hs23 (show j23 < 20 by omega) (by decide) (by decide) (by decide)
          have hlt23 : j23 < 20 := by omega
          refine R_iload_n (pc := 23) dX5_gather_23 rfl rfl ?_
          refine R_aload_n (pc := 24) dX5_gather_24 rfl rfl ?_
          refine g_X5_15 (pc := 25) (v := .ref 1) rfl dX5_gather_25 (c_56 _) rfl ?_
          refine g_X5_19 (pc := 28) (v := .int (σ23.1 110)) rfl dX5_gather_28 (c_1 _) rfl ?_
          refine R_icge (pc := 31) 79 dX5_gather_31 (by decide) (fun b31_28 => ?_) (fun b31_28 => ?_)
          · skip
            refine R_aload_n (pc := 79) dX5_gather_79 rfl rfl ?_
            refine R_iconst (pc := 80) (v := 0) dX5_gather_80 (by decide) ?_
            refine p_X5_36 (pc := 81) rfl dX5_gather_81 (c_56 _) (Nat.le_of_ble_eq_true rfl) rfl rfl (s_56_2 _ _) ?_
            have hW29 := cor_si 5602 0 hC23 rfl
            refine R_aload_n (pc := 84) dX5_gather_84 rfl rfl ?_
            refine R_iconst (pc := 85) (v := (-1)) dX5_gather_85 (by decide) ?_
            refine p_X5_37 (pc := 86) rfl dX5_gather_86 (c_56 _) (Nat.le_of_ble_eq_true rfl) rfl rfl (s_56_3 _ _) ?_
            have hV30 := su_5603 hI23 (show inR (-1) (-1) 99 from ⟨by decide, by decide⟩)
            have hW31 := cor_si 5603 (-1) hW29 rfl
            refine R_aload_n (pc := 89) dX5_gather_89 rfl rfl ?_
            refine R_iconst (pc := 90) (v := (-1)) dX5_gather_90 (by decide) ?_
            refine p_X5_40 (pc := 91) rfl dX5_gather_91 (c_56 _) (Nat.le_of_ble_eq_true rfl) rfl rfl (s_56_4 _ _) ?_
            have hV32 := su_5604 hV30 (show inR (-1) (-1) 99 from ⟨by decide, by decide⟩)
            have hW33 := cor_si 5604 (-1) hW31 rfl
            refine R_iconst (pc := 94) (v := 1) dX5_gather_94 (by decide) ?_
            refine st_3_2_i_i (pc := 95) dX5_gather_95 ?_
            have HL96 : ∀ (q j96 : Nat) (σ96 : Sg), j96 + q = 100 → 1 ≤ j96 → Inv σ96 → Cor σ σ96 → R G l yX5_gather cX5_gather 3 none 1 0 0 (QV (fun w2 => ∃ σ2, w2 = WW σ2 ∧ Inv σ2 ∧ Cor σ σ2)) 96 [(some (.ref 56)), (some (.int p)), (some (.int (nI j96)))] [] (WW σ96) 0 0 := by
              intro q
              induction q with
              | zero =>
                intro j96 σ96 hj hs96 hI96 hC96
                obtain rfl : j96 = 100 := by omega
                refine R_iload_n (pc := 96) dX5_gather_96 rfl rfl ?_
                refine R_bipush (pc := 97) (v := 99) dX5_gather_97 (by decide) ?_
                refine R_icgt (pc := 99) 152 dX5_gather_99 (by decide) (fun _ => ?_) (fun h => absurd (by decide) h)
                exact R_vret (pc := 152) dX5_gather_152 rfl (Nat.zero_le _) (Nat.zero_le _) ⟨rfl, _, rfl, hI96, hC96⟩
              | succ q ih96 =>
                intro j96 σ96 hj hs96 hI96 hC96
                have hrg96 : inR (nI j96) 1 99 := inR_ix hs96 (show j96 < 100 by omega) (by decide) (by decide) (by decide)
                have hlt96 : j96 < 100 := by omega
                refine R_iload_n (pc := 96) dX5_gather_96 rfl rfl ?_
                refine R_bipush (pc := 97) (v := 99) dX5_gather_97 (by decide) ?_
                refine R_icgt (pc := 99) 152 dX5_gather_99 (by decide) (fun h => False.elim (by have q1 := ti_lt h; have q2 := ti_in (show inR (nI j96) 1 99 from hrg96); have q3 := ti_in (show inR 99 99 99 from (inR_self _)); have z0 : (1 : Int32).toInt = 1 := (by decide);  have z1 : (99 : Int32).toInt = 99 := (by decide); omega)) (fun _ => ?_)
                refine R_aload_n (pc := 102) dX5_gather_102 rfl rfl ?_
                refine g_X5_9 (pc := 103) (v := .ref 57) rfl dX5_gather_103 (c_56 _) rfl ?_
                refine R_iload_n (pc := 106) dX5_gather_106 rfl rfl ?_
                have hx36 : vp_in (nI j96) 100 := (vp_in_nI (by omega) (by decide))
                refine R_baload (pc := 107) dX5_gather_107 (c_57 _) hx36 ?_
                refine R_ifeq (pc := 108) 146 dX5_gather_108 (by decide) (fun b108_37 => ?_) (fun b108_37 => ?_)
                · skip
                  refine inc_3_2_1_i (pc := 146) dX5_gather_146 ?_
                  have r38 : inR ((nI j96) + 1) 2 100 := inR_add (show inR (nI j96) 1 99 from hrg96) (show inR 1 1 1 from (inR_self _)) (by decide) (by decide)
                  have e39 := ti_add (l := 2) (h := 100) (show inR (nI j96) 1 99 from hrg96) (show inR 1 1 1 from (inR_self _)) (by decide) (by decide)
                  refine R_goto (pc := 149) 96 dX5_gather_149 (by decide) ?_
                  rw [nI_1]
                  exact ih96 (j96 + 1) _ (by omega) (by omega) hI96 hC96
                · skip
                  refine R_aload_n (pc := 111) dX5_gather_111 rfl rfl ?_
                  refine R_dup (pc := 112) dX5_gather_112 rfl ?_
                  refine g_X5_36 (pc := 113) (v := .int (σ96.1 5602)) rfl dX5_gather_113 (c_56 _) rfl ?_
                  refine R_iconst (pc := 116) (v := 1) dX5_gather_116 (by decide) ?_
                  refine R_iadd (pc := 117) dX5_gather_117 ?_
                  refine p_X5_36 (pc := 118) rfl dX5_gather_118 (c_56 _) (Nat.le_of_ble_eq_true rfl) rfl rfl (s_56_2 _ _) ?_
                  have hW40 := cor_si 5602 ((σ96.1 5602) + 1) hC96 rfl
                  refine R_aload_n (pc := 121) dX5_gather_121 rfl rfl ?_
                  refine R_aload_n (pc := 122) dX5_gather_122 rfl rfl ?_
                  refine g_X5_37 (pc := 123) (v := .int (σ96.1 5603)) rfl dX5_gather_123 (c_56 _) rfl ?_
                  refine R_iconst (pc := 126) (v := (-1)) dX5_gather_126 (by decide) ?_
                  refine R_icne (pc := 127) 134 dX5_gather_127 (by decide) (fun b127_41 => ?_) (fun b127_41 => ?_)
                  · skip
                    refine R_aload_n (pc := 134) dX5_gather_134 rfl rfl ?_
                    refine g_X5_37 (pc := 135) (v := .int (σ96.1 5603)) rfl dX5_gather_135 (c_56 _) rfl ?_
                    refine p_X5_37 (pc := 138) rfl dX5_gather_138 (c_56 _) (Nat.le_of_ble_eq_true rfl) rfl rfl (s_56_3 _ _) ?_
                    have hV42 := su_5603 hI96 (iv_5603 hI96)
                    have hW43 := cor_si 5603 (σ96.1 5603) hW40 rfl
                    refine R_aload_n (pc := 141) dX5_gather_141 rfl rfl ?_
                    refine R_iload_n (pc := 142) dX5_gather_142 rfl rfl ?_
                    refine p_X5_40 (pc := 143) rfl dX5_gather_143 (c_56 _) (Nat.le_of_ble_eq_true rfl) rfl rfl (s_56_4 _ _) ?_
                    have hV44 := su_5604 hV42 (inR_up hrg96 (by decide) (by decide))
                    have hW45 := cor_si 5604 (nI j96) hW43 rfl
                    refine inc_3_2_1_i (pc := 146) dX5_gather_146 ?_
                    have r46 : inR ((nI j96) + 1) 2 100 := inR_add (show inR (nI j96) 1 99 from hrg96) (show inR 1 1 1 from (inR_self _)) (by decide) (by decide)
                    have e47 := ti_add (l := 2) (h := 100) (show inR (nI j96) 1 99 from hrg96) (show inR 1 1 1 from (inR_self _)) (by decide) (by decide)
                    refine R_goto (pc := 149) 96 dX5_gather_149 (by decide) ?_
                    rw [nI_1]
                    exact ih96 (j96 + 1) _ (by omega) (by omega) hV44 hW45
                  · skip
                    refine R_iload_n (pc := 130) dX5_gather_130 rfl rfl ?_
                    refine R_goto (pc := 131) 138 dX5_gather_131 (by decide) ?_
                    refine p_X5_37 (pc := 138) rfl dX5_gather_138 (c_56 _) (Nat.le_of_ble_eq_true rfl) rfl rfl (s_56_3 _ _) ?_
                    have hV48 := su_5603 hI96 (inR_up hrg96 (by decide) (by decide))
                    have hW49 := cor_si 5603 (nI j96) hW40 rfl
                    refine R_aload_n (pc := 141) dX5_gather_141 rfl rfl ?_
                    refine R_iload_n (pc := 142) dX5_gather_142 rfl rfl ?_
                    refine p_X5_40 (pc := 143) rfl dX5_gather_143 (c_56 _) (Nat.le_of_ble_eq_true rfl) rfl rfl (s_56_4 _ _) ?_
                    have hV50 := su_5604 hV48 (inR_up hrg96 (by decide) (by decide))
                    have hW51 := cor_si 5604 (nI j96) hW49 rfl
                    refine inc_3_2_1_i (pc := 146) dX5_gather_146 ?_
                    have r52 : inR ((nI j96) + 1) 2 100 := inR_add (show inR (nI j96) 1 99 from hrg96) (show inR 1 1 1 from (inR_self _)) (by decide) (by decide)
                    have e53 := ti_add (l := 2) (h := 100) (show inR (nI j96) 1 99 from hrg96) (show inR 1 1 1 from (inR_self _)) (by decide) (by decide)
                    refine R_goto (pc := 149) 96 dX5_gather_149 (by decide) ?_
                    rw [nI_1]
                    exact ih96 (j96 + 1) _ (by omega) (by omega) hV50 hW51
            exact HL96 99 1 _ (by omega) (by omega) hV32 hW33
          · skip
            refine R_aload_n (pc := 34) dX5_gather_34 rfl rfl ?_
            refine g_X5_15 (pc := 35) (v := .ref 1) rfl dX5_gather_35 (c_56 _) rfl ?_
            refine R_iload_n (pc := 38) dX5_gather_38 rfl rfl ?_
            refine k_X5_25 (pc := 39) (gx_X0_isThere _ _ hI23) rfl (c_1 _) (by decide) (Nat.le_refl _) (Nat.le_refl _) (Nat.le_of_ble_eq_true rfl) dX5_gather_39 (fun x w2 h => ?_)
            rcases h with ⟨rfl, ⟨h54, rfl⟩ | rfl⟩
            · skip
              refine R_ifeq (pc := 42) 73 dX5_gather_42 (by decide) (fun h => absurd h (by decide)) (fun _ => ?_)
              refine R_aload_n (pc := 45) dX5_gather_45 rfl rfl ?_
              refine g_X5_15 (pc := 46) (v := .ref 1) rfl dX5_gather_46 (c_56 _) rfl ?_
              refine g_X5_29 (pc := 49) (v := .ref 3) rfl dX5_gather_49 (c_1 _) rfl ?_
              refine R_iload_n (pc := 52) dX5_gather_52 rfl rfl ?_
              have hx56 : vp_in (nI j23) 20 := (vp_in_nI (by omega) (by decide))
              refine R_iaload (pc := 53) dX5_gather_53 (c_3 _) hx56 ?_
              refine R_iload_n (pc := 54) dX5_gather_54 rfl rfl ?_
              refine R_icne (pc := 55) 73 dX5_gather_55 (by decide) (fun b55_57 => ?_) (fun b55_57 => ?_)
              · skip
                refine inc_3_2_1_i (pc := 73) dX5_gather_73 ?_
                have r58 : inR ((nI j23) + 1) 1 20 := inR_add (show inR (nI j23) 0 19 from h54) (show inR 1 1 1 from (inR_self _)) (by decide) (by decide)
                have e59 := ti_add (l := 1) (h := 20) (show inR (nI j23) 0 19 from h54) (show inR 1 1 1 from (inR_self _)) (by decide) (by decide)
                refine R_goto (pc := 76) 23 dX5_gather_76 (by decide) ?_
                rw [nI_1]
                exact ih23 (j23 + 1) _ (by omega) (by omega) hI23 hC23
              · skip
                refine R_aload_n (pc := 58) dX5_gather_58 rfl rfl ?_
                refine g_X5_9 (pc := 59) (v := .ref 57) rfl dX5_gather_59 (c_56 _) rfl ?_
                refine R_aload_n (pc := 62) dX5_gather_62 rfl rfl ?_
                refine g_X5_15 (pc := 63) (v := .ref 1) rfl dX5_gather_63 (c_56 _) rfl ?_
                refine g_X5_33 (pc := 66) (v := .ref 4) rfl dX5_gather_66 (c_1 _) rfl ?_
                refine R_iload_n (pc := 69) dX5_gather_69 rfl rfl ?_
                have hx60 : vp_in (nI j23) 20 := (vp_in_nI (by omega) (by decide))
                refine R_iaload (pc := 70) dX5_gather_70 (c_4 _) hx60 ?_
                refine R_iconst (pc := 71) (v := 1) dX5_gather_71 (by decide) ?_
                have hx61 : vp_in (σ23.2.2.1 4 (Int32.toNatClampNeg (nI j23))) 100 := (vp_of_inR (iva_4 hI23 _ (lt_of_vp hx60)) (by decide))
                refine W_bastore (pc := 72) dX5_gather_72 (c_57 _) hx61 rfl (a_57 _ _) ?_
                have hW62 := cor_sa 57 (upd (σ23.2.2.1 57) (Int32.toNatClampNeg (σ23.2.2.1 4 (Int32.toNatClampNeg (nI j23)))) 1) hC23 rfl
                refine inc_3_2_1_i (pc := 73) dX5_gather_73 ?_
                have r63 : inR ((nI j23) + 1) 1 20 := inR_add (show inR (nI j23) 0 19 from h54) (show inR 1 1 1 from (inR_self _)) (by decide) (by decide)
                have e64 := ti_add (l := 1) (h := 20) (show inR (nI j23) 0 19 from h54) (show inR 1 1 1 from (inR_self _)) (by decide) (by decide)
                refine R_goto (pc := 76) 23 dX5_gather_76 (by decide) ?_
                rw [nI_1]
                exact ih23 (j23 + 1) _ (by omega) (by omega) hI23 hW62
            · skip
              refine R_ifeq (pc := 42) 73 dX5_gather_42 (by decide) (fun _ => ?_) (fun h => absurd (by decide) h)
              refine inc_3_2_1_i (pc := 73) dX5_gather_73 ?_
              have r66 : inR ((nI j23) + 1) 1 20 := inR_add (show inR (nI j23) 0 19 from hrg23) (show inR 1 1 1 from (inR_self _)) (by decide) (by decide)
              have e67 := ti_add (l := 1) (h := 20) (show inR (nI j23) 0 19 from hrg23) (show inR 1 1 1 from (inR_self _)) (by decide) (by decide)
              refine R_goto (pc := 76) 23 dX5_gather_76 (by decide) ?_
              rw [nI_1]
              exact ih23 (j23 + 1) _ (by omega) (by omega) hI23 hC23
      exact HL23 20 0 _ (by omega) (by omega) hI2 hC2
    | succ q ih2 =>
      intro j2 σ2 hj hs2 hI2 hC2
      have hrg2 : inR (nI j2) 1 99 := inR_ix hs2 (show j2 < 100 by omega) (by decide) (by decide) (by decide)
      have hlt2 : j2 < 100 := by omega
      refine R_iload_n (pc := 2) dX5_gather_2 rfl rfl ?_
      refine R_bipush (pc := 3) (v := 99) dX5_gather_3 (by decide) ?_
      refine R_icgt (pc := 5) 21 dX5_gather_5 (by decide) (fun h => False.elim (by have q1 := ti_lt h; have q2 := ti_in (show inR (nI j2) 1 99 from hrg2); have q3 := ti_in (show inR 99 99 99 from (inR_self _)); have z0 : (1 : Int32).toInt = 1 := (by decide);  have z1 : (99 : Int32).toInt = 99 := (by decide); omega)) (fun _ => ?_)
      refine R_aload_n (pc := 8) dX5_gather_8 rfl rfl ?_
      refine g_X5_9 (pc := 9) (v := .ref 57) rfl dX5_gather_9 (c_56 _) rfl ?_
      refine R_iload_n (pc := 12) dX5_gather_12 rfl rfl ?_
      refine R_iconst (pc := 13) (v := 0) dX5_gather_13 (by decide) ?_
      have hx69 : vp_in (nI j2) 100 := (vp_in_nI (by omega) (by decide))
      refine W_bastore (pc := 14) dX5_gather_14 (c_57 _) hx69 rfl (a_57 _ _) ?_
      have hW70 := cor_sa 57 (upd (σ2.2.2.1 57) (Int32.toNatClampNeg (nI j2)) 0) hC2 rfl
      refine inc_3_2_1_i (pc := 15) dX5_gather_15 ?_
      have r71 : inR ((nI j2) + 1) 2 100 := inR_add (show inR (nI j2) 1 99 from hrg2) (show inR 1 1 1 from (inR_self _)) (by decide) (by decide)
      have e72 := ti_add (l := 2) (h := 100) (show inR (nI j2) 1 99 from hrg2) (show inR 1 1 1 from (inR_self _)) (by decide) (by decide)
      refine R_goto (pc := 18) 2 dX5_gather_18 (by decide) ?_
      rw [nI_1]
      exact ih2 (j2 + 1) _ (by omega) (by omega) hI2 hW70
  exact HL2 99 1 _ (by omega) (by omega) hI (show Cor σ σ from Cor.rfl' σ)
theorem dX5_gapAt_0 : decode cX5_gapAt 0 = .ok (.iload_n 1, 1) := by decide +kernel
theorem dX5_gapAt_1 : decode cX5_gapAt 1 = .ok (.istore_n 2, 1) := by decide +kernel
theorem dX5_gapAt_2 : decode cX5_gapAt 2 = .ok (.iconst (-1), 1) := by decide +kernel
theorem dX5_gapAt_3 : decode cX5_gapAt 3 = .ok (.istore_n 3, 1) := by decide +kernel
theorem dX5_gapAt_4 : decode cX5_gapAt 4 = .ok (.iconst 1, 1) := by decide +kernel
theorem dX5_gapAt_5 : decode cX5_gapAt 5 = .ok (.istore 4, 2) := by decide +kernel
theorem dX5_gapAt_7 : decode cX5_gapAt 7 = .ok (.iload 4, 2) := by decide +kernel
theorem dX5_gapAt_9 : decode cX5_gapAt 9 = .ok (.bipush 99, 2) := by decide +kernel
theorem dX5_gapAt_11 : decode cX5_gapAt 11 = .ok (.if_icmp .gt 62, 3) := by decide +kernel
theorem dX5_gapAt_14 : decode cX5_gapAt 14 = .ok (.aload_n 0, 1) := by decide +kernel
theorem dX5_gapAt_15 : decode cX5_gapAt 15 = .ok (.iload 4, 2) := by decide +kernel
theorem dX5_gapAt_17 : decode cX5_gapAt 17 = .ok (.invokevirtual 43, 3) := by decide +kernel
theorem dX5_gapAt_20 : decode cX5_gapAt 20 = .ok (.ifCond .eq 47, 3) := by decide +kernel
theorem dX5_gapAt_23 : decode cX5_gapAt 23 = .ok (.aload_n 0, 1) := by decide +kernel
theorem dX5_gapAt_24 : decode cX5_gapAt 24 = .ok (.iload 4, 2) := by decide +kernel
theorem dX5_gapAt_26 : decode cX5_gapAt 26 = .ok (.iconst 1, 1) := by decide +kernel
theorem dX5_gapAt_27 : decode cX5_gapAt 27 = .ok (.isub, 1) := by decide +kernel
theorem dX5_gapAt_28 : decode cX5_gapAt 28 = .ok (.invokevirtual 43, 3) := by decide +kernel
theorem dX5_gapAt_31 : decode cX5_gapAt 31 = .ok (.ifCond .eq 7, 3) := by decide +kernel
theorem dX5_gapAt_34 : decode cX5_gapAt 34 = .ok (.iload_n 3, 1) := by decide +kernel
theorem dX5_gapAt_35 : decode cX5_gapAt 35 = .ok (.goto 5, 3) := by decide +kernel
theorem dX5_gapAt_38 : decode cX5_gapAt 38 = .ok (.iload 4, 2) := by decide +kernel
theorem dX5_gapAt_40 : decode cX5_gapAt 40 = .ok (.istore_n 3, 1) := by decide +kernel
theorem dX5_gapAt_41 : decode cX5_gapAt 41 = .ok (.aload_n 0, 1) := by decide +kernel
theorem dX5_gapAt_42 : decode cX5_gapAt 42 = .ok (.iload 4, 2) := by decide +kernel
theorem dX5_gapAt_44 : decode cX5_gapAt 44 = .ok (.iconst 1, 1) := by decide +kernel
theorem dX5_gapAt_45 : decode cX5_gapAt 45 = .ok (.iadd, 1) := by decide +kernel
theorem dX5_gapAt_46 : decode cX5_gapAt 46 = .ok (.invokevirtual 43, 3) := by decide +kernel
theorem dX5_gapAt_49 : decode cX5_gapAt 49 = .ok (.ifCond .ne 18, 3) := by decide +kernel
theorem dX5_gapAt_52 : decode cX5_gapAt 52 = .ok (.iload_n 2, 1) := by decide +kernel
theorem dX5_gapAt_53 : decode cX5_gapAt 53 = .ok (.ifCond .ne 11, 3) := by decide +kernel
theorem dX5_gapAt_56 : decode cX5_gapAt 56 = .ok (.bipush 100, 2) := by decide +kernel
theorem dX5_gapAt_58 : decode cX5_gapAt 58 = .ok (.iload_n 3, 1) := by decide +kernel
theorem dX5_gapAt_59 : decode cX5_gapAt 59 = .ok (.imul, 1) := by decide +kernel
theorem dX5_gapAt_60 : decode cX5_gapAt 60 = .ok (.iload 4, 2) := by decide +kernel
theorem dX5_gapAt_62 : decode cX5_gapAt 62 = .ok (.iadd, 1) := by decide +kernel
theorem dX5_gapAt_63 : decode cX5_gapAt 63 = .ok (.ireturn, 1) := by decide +kernel
theorem dX5_gapAt_64 : decode cX5_gapAt 64 = .ok (.iinc 2 (-1), 3) := by decide +kernel
theorem dX5_gapAt_67 : decode cX5_gapAt 67 = .ok (.iinc 4 1, 3) := by decide +kernel
theorem dX5_gapAt_70 : decode cX5_gapAt 70 = .ok (.goto (-63), 3) := by decide +kernel
theorem dX5_gapAt_73 : decode cX5_gapAt 73 = .ok (.iconst (-1), 1) := by decide +kernel
theorem dX5_gapAt_74 : decode cX5_gapAt 74 = .ok (.ireturn, 1) := by decide +kernel
set_option maxRecDepth 100000 in
set_option maxHeartbeats 40000000 in
theorem gx_X5_gapAt {G : vG} {l : Launch} (σ : Sg) (i : Int32) (hI : Inv σ) : Sp G l yX5_gapAt cX5_gapAt 5 (some .int) 1 0 0 [.ref 56, .int i] (WW σ) (QI (fun x w2 => w2 = WW σ)) := by
  refine Sp_of_R [(some (.ref 56)), (some (.int i)), none, none, none] [none, none, none] rfl (by simp) rfl (Nat.le_of_ble_eq_true rfl) ?_
  refine R_iload_n (pc := 0) dX5_gapAt_0 rfl rfl ?_
  refine st_5_2_i_i (pc := 1) dX5_gapAt_1 ?_
  refine R_iconst (pc := 2) (v := (-1)) dX5_gapAt_2 (by decide) ?_
  refine st_5_3_i_i (pc := 3) dX5_gapAt_3 ?_
  refine R_iconst (pc := 4) (v := 1) dX5_gapAt_4 (by decide) ?_
  refine st_5_4_i_i (pc := 5) dX5_gapAt_5 ?_
  have HL7 : ∀ (q j7 : Nat) (g2_7 : Int32) (g3_7 : Int32), j7 + q = 100 → 1 ≤ j7 → R G l yX5_gapAt cX5_gapAt 5 (some .int) 1 0 0 (QI (fun x w2 => w2 = WW σ)) 7 [(some (.ref 56)), (some (.int i)), (some (.int g2_7)), (some (.int g3_7)), (some (.int (nI j7)))] [] (WW σ) 0 0 := by
    intro q
    induction q with
    | zero =>
      intro j7 g2_7 g3_7 hj hs7
      obtain rfl : j7 = 100 := by omega
      refine R_iload (pc := 7) dX5_gapAt_7 rfl ?_
      refine R_bipush (pc := 9) (v := 99) dX5_gapAt_9 (by decide) ?_
      refine R_icgt (pc := 11) 73 dX5_gapAt_11 (by decide) (fun _ => ?_) (fun h => absurd (by decide) h)
      refine R_iconst (pc := 73) (v := (-1)) dX5_gapAt_73 (by decide) ?_
      exact R_iret (pc := 74) dX5_gapAt_74 rfl rfl (Nat.zero_le _) (Nat.zero_le _) ⟨_, rfl, rfl⟩
    | succ q ih7 =>
      intro j7 g2_7 g3_7 hj hs7
      have hrg7 : inR (nI j7) 1 99 := inR_ix hs7 (show j7 < 100 by omega) (by decide) (by decide) (by decide)
      have hlt7 : j7 < 100 := by omega
      refine R_iload (pc := 7) dX5_gapAt_7 rfl ?_
      refine R_bipush (pc := 9) (v := 99) dX5_gapAt_9 (by decide) ?_
      refine R_icgt (pc := 11) 73 dX5_gapAt_11 (by decide) (fun h => False.elim (by have q1 := ti_lt h; have q2 := ti_in (show inR (nI j7) 1 99 from hrg7); have q3 := ti_in (show inR 99 99 99 from (inR_self _)); have z0 : (1 : Int32).toInt = 1 := (by decide);  have z1 : (99 : Int32).toInt = 99 := (by decide); omega)) (fun _ => ?_)
      refine R_aload_n (pc := 14) dX5_gapAt_14 rfl rfl ?_
      refine R_iload (pc := 15) dX5_gapAt_15 rfl ?_
      refine k_X5_43 (pc := 17) (gx_X5_isMissing _ _ hI) rfl (c_56 _) (by decide) (Nat.le_refl _) (Nat.le_refl _) (Nat.le_of_ble_eq_true rfl) dX5_gapAt_17 (fun x w2 h => ?_)
      rcases h with ⟨rfl, rfl | rfl⟩
      · skip
        refine R_ifeq (pc := 20) 67 dX5_gapAt_20 (by decide) (fun h => absurd h (by decide)) (fun _ => ?_)
        refine R_aload_n (pc := 23) dX5_gapAt_23 rfl rfl ?_
        refine R_iload (pc := 24) dX5_gapAt_24 rfl ?_
        refine R_iconst (pc := 26) (v := 1) dX5_gapAt_26 (by decide) ?_
        refine R_isub (pc := 27) dX5_gapAt_27 ?_
        have r5 : inR ((nI j7) - 1) 0 98 := inR_sub (show inR (nI j7) 1 99 from hrg7) (show inR 1 1 1 from (inR_self _)) (by decide) (by decide)
        have e6 := ti_sub (l := 0) (h := 98) (show inR (nI j7) 1 99 from hrg7) (show inR 1 1 1 from (inR_self _)) (by decide) (by decide)
        refine k_X5_43 (pc := 28) (gx_X5_isMissing _ _ hI) rfl (c_56 _) (by decide) (Nat.le_refl _) (Nat.le_refl _) (Nat.le_of_ble_eq_true rfl) dX5_gapAt_28 (fun x w2 h => ?_)
        rcases h with ⟨rfl, rfl | rfl⟩
        · skip
          refine R_ifeq (pc := 31) 38 dX5_gapAt_31 (by decide) (fun h => absurd h (by decide)) (fun _ => ?_)
          refine R_iload_n (pc := 34) dX5_gapAt_34 rfl rfl ?_
          refine R_goto (pc := 35) 40 dX5_gapAt_35 (by decide) ?_
          refine st_5_3_i_i (pc := 40) dX5_gapAt_40 ?_
          refine R_aload_n (pc := 41) dX5_gapAt_41 rfl rfl ?_
          refine R_iload (pc := 42) dX5_gapAt_42 rfl ?_
          refine R_iconst (pc := 44) (v := 1) dX5_gapAt_44 (by decide) ?_
          refine R_iadd (pc := 45) dX5_gapAt_45 ?_
          have r9 : inR ((nI j7) + 1) 2 100 := inR_add (show inR (nI j7) 1 99 from hrg7) (show inR 1 1 1 from (inR_self _)) (by decide) (by decide)
          have e10 := ti_add (l := 2) (h := 100) (show inR (nI j7) 1 99 from hrg7) (show inR 1 1 1 from (inR_self _)) (by decide) (by decide)
          refine k_X5_43 (pc := 46) (gx_X5_isMissing _ _ hI) rfl (c_56 _) (by decide) (Nat.le_refl _) (Nat.le_refl _) (Nat.le_of_ble_eq_true rfl) dX5_gapAt_46 (fun x w2 h => ?_)
          rcases h with ⟨rfl, rfl | rfl⟩
          · skip
            refine R_ifne (pc := 49) 67 dX5_gapAt_49 (by decide) (fun _ => ?_) (fun h => absurd h (by decide))
            refine inc_5_4_1_i (pc := 67) dX5_gapAt_67 ?_
            have r13 : inR ((nI j7) + 1) 2 100 := inR_add (show inR (nI j7) 1 99 from hrg7) (show inR 1 1 1 from (inR_self _)) (by decide) (by decide)
            have e14 := ti_add (l := 2) (h := 100) (show inR (nI j7) 1 99 from hrg7) (show inR 1 1 1 from (inR_self _)) (by decide) (by decide)
            refine R_goto (pc := 70) 7 dX5_gapAt_70 (by decide) ?_
            rw [nI_1]
            exact ih7 (j7 + 1) _ _ (by omega) (by omega)
          · skip
            refine R_ifne (pc := 49) 67 dX5_gapAt_49 (by decide) (fun h => absurd (by decide) h) (fun _ => ?_)
            refine R_iload_n (pc := 52) dX5_gapAt_52 rfl rfl ?_
            refine R_ifne (pc := 53) 64 dX5_gapAt_53 (by decide) (fun b53_16 => ?_) (fun b53_16 => ?_)
            · skip
              refine inc_5_2_m1_i (pc := 64) dX5_gapAt_64 ?_
              refine inc_5_4_1_i (pc := 67) dX5_gapAt_67 ?_
              have r17 : inR ((nI j7) + 1) 2 100 := inR_add (show inR (nI j7) 1 99 from hrg7) (show inR 1 1 1 from (inR_self _)) (by decide) (by decide)
              have e18 := ti_add (l := 2) (h := 100) (show inR (nI j7) 1 99 from hrg7) (show inR 1 1 1 from (inR_self _)) (by decide) (by decide)
              refine R_goto (pc := 70) 7 dX5_gapAt_70 (by decide) ?_
              rw [nI_1]
              exact ih7 (j7 + 1) _ _ (by omega) (by omega)
            · skip
              refine R_bipush (pc := 56) (v := 100) dX5_gapAt_56 (by decide) ?_
              refine R_iload_n (pc := 58) dX5_gapAt_58 rfl rfl ?_
              refine R_imul (pc := 59) dX5_gapAt_59 ?_
              refine R_iload (pc := 60) dX5_gapAt_60 rfl ?_
              refine R_iadd (pc := 62) dX5_gapAt_62 ?_
              exact R_iret (pc := 63) dX5_gapAt_63 rfl rfl (Nat.zero_le _) (Nat.zero_le _) ⟨_, rfl, rfl⟩
        · skip
          refine R_ifeq (pc := 31) 38 dX5_gapAt_31 (by decide) (fun _ => ?_) (fun h => absurd (by decide) h)
          refine R_iload (pc := 38) dX5_gapAt_38 rfl ?_
          refine st_5_3_i_i (pc := 40) dX5_gapAt_40 ?_
          refine R_aload_n (pc := 41) dX5_gapAt_41 rfl rfl ?_
          refine R_iload (pc := 42) dX5_gapAt_42 rfl ?_
          refine R_iconst (pc := 44) (v := 1) dX5_gapAt_44 (by decide) ?_
          refine R_iadd (pc := 45) dX5_gapAt_45 ?_
          have r20 : inR ((nI j7) + 1) 2 100 := inR_add (show inR (nI j7) 1 99 from hrg7) (show inR 1 1 1 from (inR_self _)) (by decide) (by decide)
          have e21 := ti_add (l := 2) (h := 100) (show inR (nI j7) 1 99 from hrg7) (show inR 1 1 1 from (inR_self _)) (by decide) (by decide)
          refine k_X5_43 (pc := 46) (gx_X5_isMissing _ _ hI) rfl (c_56 _) (by decide) (Nat.le_refl _) (Nat.le_refl _) (Nat.le_of_ble_eq_true rfl) dX5_gapAt_46 (fun x w2 h => ?_)
          rcases h with ⟨rfl, rfl | rfl⟩
          · skip
            refine R_ifne (pc := 49) 67 dX5_gapAt_49 (by decide) (fun _ => ?_) (fun h => absurd h (by decide))
            refine inc_5_4_1_i (pc := 67) dX5_gapAt_67 ?_
            have r24 : inR ((nI j7) + 1) 2 100 := inR_add (show inR (nI j7) 1 99 from hrg7) (show inR 1 1 1 from (inR_self _)) (by decide) (by decide)
            have e25 := ti_add (l := 2) (h := 100) (show inR (nI j7) 1 99 from hrg7) (show inR 1 1 1 from (inR_self _)) (by decide) (by decide)
            refine R_goto (pc := 70) 7 dX5_gapAt_70 (by decide) ?_
            rw [nI_1]
            exact ih7 (j7 + 1) _ _ (by omega) (by omega)
          · skip
            refine R_ifne (pc := 49) 67 dX5_gapAt_49 (by decide) (fun h => absurd (by decide) h) (fun _ => ?_)
            refine R_iload_n (pc := 52) dX5_gapAt_52 rfl rfl ?_
            refine R_ifne (pc := 53) 64 dX5_gapAt_53 (by decide) (fun b53_27 => ?_) (fun b53_27 => ?_)
            · skip
              refine inc_5_2_m1_i (pc := 64) dX5_gapAt_64 ?_
              refine inc_5_4_1_i (pc := 67) dX5_gapAt_67 ?_
              have r28 : inR ((nI j7) + 1) 2 100 := inR_add (show inR (nI j7) 1 99 from hrg7) (show inR 1 1 1 from (inR_self _)) (by decide) (by decide)
              have e29 := ti_add (l := 2) (h := 100) (show inR (nI j7) 1 99 from hrg7) (show inR 1 1 1 from (inR_self _)) (by decide) (by decide)
              refine R_goto (pc := 70) 7 dX5_gapAt_70 (by decide) ?_
              rw [nI_1]
              exact ih7 (j7 + 1) _ _ (by omega) (by omega)
            · skip
              refine R_bipush (pc := 56) (v := 100) dX5_gapAt_56 (by decide) ?_
              refine R_iload_n (pc := 58) dX5_gapAt_58 rfl rfl ?_
              refine R_imul (pc := 59) dX5_gapAt_59 ?_
              refine R_iload (pc := 60) dX5_gapAt_60 rfl ?_
              refine R_iadd (pc := 62) dX5_gapAt_62 ?_
              exact R_iret (pc := 63) dX5_gapAt_63 rfl rfl (Nat.zero_le _) (Nat.zero_le _) ⟨_, rfl, rfl⟩
      · skip
        refine R_ifeq (pc := 20) 67 dX5_gapAt_20 (by decide) (fun _ => ?_) (fun h => absurd (by decide) h)
        refine inc_5_4_1_i (pc := 67) dX5_gapAt_67 ?_
        have r31 : inR ((nI j7) + 1) 2 100 := inR_add (show inR (nI j7) 1 99 from hrg7) (show inR 1 1 1 from (inR_self _)) (by decide) (by decide)
        have e32 := ti_add (l := 2) (h := 100) (show inR (nI j7) 1 99 from hrg7) (show inR 1 1 1 from (inR_self _)) (by decide) (by decide)
        refine R_goto (pc := 70) 7 dX5_gapAt_70 (by decide) ?_
        rw [nI_1]
        exact ih7 (j7 + 1) _ _ (by omega) (by omega)
  exact HL7 99 1 _ _ (by omega) (by omega)
theorem dX1_findLeaders_0 : decode cX1_findLeaders 0 = .ok (.iload_n 1, 1) := by decide +kernel
theorem dX1_findLeaders_1 : decode cX1_findLeaders 1 = .ok (.istore_n 2, 1) := by decide +kernel
theorem dX1_findLeaders_2 : decode cX1_findLeaders 2 = .ok (.iconst 0, 1) := by decide +kernel
theorem dX1_findLeaders_3 : decode cX1_findLeaders 3 = .ok (.istore_n 3, 1) := by decide +kernel
theorem dX1_findLeaders_4 : decode cX1_findLeaders 4 = .ok (.iload_n 3, 1) := by decide +kernel
theorem dX1_findLeaders_5 : decode cX1_findLeaders 5 = .ok (.bipush 20, 2) := by decide +kernel
theorem dX1_findLeaders_7 : decode cX1_findLeaders 7 = .ok (.if_icmp .ge 81, 3) := by decide +kernel
theorem dX1_findLeaders_10 : decode cX1_findLeaders 10 = .ok (.iload_n 2, 1) := by decide +kernel
theorem dX1_findLeaders_11 : decode cX1_findLeaders 11 = .ok (.iload_n 3, 1) := by decide +kernel
theorem dX1_findLeaders_12 : decode cX1_findLeaders 12 = .ok (.invokestatic 60, 3) := by decide +kernel
theorem dX1_findLeaders_15 : decode cX1_findLeaders 15 = .ok (.ifCond .eq 67, 3) := by decide +kernel
theorem dX1_findLeaders_18 : decode cX1_findLeaders 18 = .ok (.aload_n 0, 1) := by decide +kernel
theorem dX1_findLeaders_19 : decode cX1_findLeaders 19 = .ok (.getfield 38, 3) := by decide +kernel
theorem dX1_findLeaders_22 : decode cX1_findLeaders 22 = .ok (.iload_n 3, 1) := by decide +kernel
theorem dX1_findLeaders_23 : decode cX1_findLeaders 23 = .ok (.iconst 0, 1) := by decide +kernel
theorem dX1_findLeaders_24 : decode cX1_findLeaders 24 = .ok (.sipush 20000, 3) := by decide +kernel
theorem dX1_findLeaders_27 : decode cX1_findLeaders 27 = .ok (.invokevirtual 75, 3) := by decide +kernel
theorem dX1_findLeaders_30 : decode cX1_findLeaders 30 = .ok (.aload_n 0, 1) := by decide +kernel
theorem dX1_findLeaders_31 : decode cX1_findLeaders 31 = .ok (.getfield 52, 3) := by decide +kernel
theorem dX1_findLeaders_34 : decode cX1_findLeaders 34 = .ok (.iload_n 3, 1) := by decide +kernel
theorem dX1_findLeaders_35 : decode cX1_findLeaders 35 = .ok (.iload_n 2, 1) := by decide +kernel
theorem dX1_findLeaders_36 : decode cX1_findLeaders 36 = .ok (.invokevirtual 79, 3) := by decide +kernel
theorem dX1_findLeaders_39 : decode cX1_findLeaders 39 = .ok (.istore 4, 2) := by decide +kernel
theorem dX1_findLeaders_41 : decode cX1_findLeaders 41 = .ok (.iload_n 2, 1) := by decide +kernel
theorem dX1_findLeaders_42 : decode cX1_findLeaders 42 = .ok (.iload 4, 2) := by decide +kernel
theorem dX1_findLeaders_44 : decode cX1_findLeaders 44 = .ok (.iconst (-1), 1) := by decide +kernel
theorem dX1_findLeaders_45 : decode cX1_findLeaders 45 = .ok (.ixor, 1) := by decide +kernel
theorem dX1_findLeaders_46 : decode cX1_findLeaders 46 = .ok (.iand, 1) := by decide +kernel
theorem dX1_findLeaders_47 : decode cX1_findLeaders 47 = .ok (.istore_n 2, 1) := by decide +kernel
theorem dX1_findLeaders_48 : decode cX1_findLeaders 48 = .ok (.iload_n 3, 1) := by decide +kernel
theorem dX1_findLeaders_49 : decode cX1_findLeaders 49 = .ok (.istore 5, 2) := by decide +kernel
theorem dX1_findLeaders_51 : decode cX1_findLeaders 51 = .ok (.iload 5, 2) := by decide +kernel
theorem dX1_findLeaders_53 : decode cX1_findLeaders 53 = .ok (.bipush 20, 2) := by decide +kernel
theorem dX1_findLeaders_55 : decode cX1_findLeaders 55 = .ok (.if_icmp .ge 27, 3) := by decide +kernel
theorem dX1_findLeaders_58 : decode cX1_findLeaders 58 = .ok (.iload 4, 2) := by decide +kernel
theorem dX1_findLeaders_60 : decode cX1_findLeaders 60 = .ok (.iload 5, 2) := by decide +kernel
theorem dX1_findLeaders_62 : decode cX1_findLeaders 62 = .ok (.invokestatic 60, 3) := by decide +kernel
theorem dX1_findLeaders_65 : decode cX1_findLeaders 65 = .ok (.ifCond .eq 11, 3) := by decide +kernel
theorem dX1_findLeaders_68 : decode cX1_findLeaders 68 = .ok (.aload_n 0, 1) := by decide +kernel
theorem dX1_findLeaders_69 : decode cX1_findLeaders 69 = .ok (.getfield 45, 3) := by decide +kernel
theorem dX1_findLeaders_72 : decode cX1_findLeaders 72 = .ok (.iload 5, 2) := by decide +kernel
theorem dX1_findLeaders_74 : decode cX1_findLeaders 74 = .ok (.iload_n 3, 1) := by decide +kernel
theorem dX1_findLeaders_75 : decode cX1_findLeaders 75 = .ok (.iastore, 1) := by decide +kernel
theorem dX1_findLeaders_76 : decode cX1_findLeaders 76 = .ok (.iinc 5 1, 3) := by decide +kernel
theorem dX1_findLeaders_79 : decode cX1_findLeaders 79 = .ok (.goto (-28), 3) := by decide +kernel
theorem dX1_findLeaders_82 : decode cX1_findLeaders 82 = .ok (.iinc 3 1, 3) := by decide +kernel
theorem dX1_findLeaders_85 : decode cX1_findLeaders 85 = .ok (.goto (-81), 3) := by decide +kernel
theorem dX1_findLeaders_88 : decode cX1_findLeaders 88 = .ok (.return_, 1) := by decide +kernel
set_option maxRecDepth 100000 in
set_option maxHeartbeats 40000000 in
theorem gx_X1_findLeaders {G : vG} {l : Launch} (σ : Sg) (b : Int32) (hI : Inv σ) : Sp G l yX1_findLeaders cX1_findLeaders 6 none 4 0 0 [.ref 58, .int b] (WW σ) (QV (fun w2 => ∃ σ2, w2 = WW σ2 ∧ Inv σ2 ∧ Cor σ σ2)) := by
  refine Sp_of_R [(some (.ref 58)), (some (.int b)), none, none, none, none] [none, none, none, none] rfl (by simp) rfl (Nat.le_of_ble_eq_true rfl) ?_
  refine R_iload_n (pc := 0) dX1_findLeaders_0 rfl rfl ?_
  refine st_6_2_i_i (pc := 1) dX1_findLeaders_1 ?_
  refine R_iconst (pc := 2) (v := 0) dX1_findLeaders_2 (by decide) ?_
  refine st_6_3_i_i (pc := 3) dX1_findLeaders_3 ?_
  have HL4 : ∀ (q j4 : Nat) (σ4 : Sg) (g2_4 : Int32) (g4_4 : Option Value) (g5_4 : Option Value), j4 + q = 20 → 0 ≤ j4 → Inv σ4 → Cor σ σ4 → R G l yX1_findLeaders cX1_findLeaders 6 none 4 0 0 (QV (fun w2 => ∃ σ2, w2 = WW σ2 ∧ Inv σ2 ∧ Cor σ σ2)) 4 [(some (.ref 58)), (some (.int b)), (some (.int g2_4)), (some (.int (nI j4))), g4_4, g5_4] [] (WW σ4) 0 0 := by
    intro q
    induction q with
    | zero =>
      intro j4 σ4 g2_4 g4_4 g5_4 hj hs4 hI4 hC4
      obtain rfl : j4 = 20 := by omega
      refine R_iload_n (pc := 4) dX1_findLeaders_4 rfl rfl ?_
      refine R_bipush (pc := 5) (v := 20) dX1_findLeaders_5 (by decide) ?_
      refine R_icge (pc := 7) 88 dX1_findLeaders_7 (by decide) (fun _ => ?_) (fun h => absurd (by decide) h)
      exact R_vret (pc := 88) dX1_findLeaders_88 rfl (Nat.zero_le _) (Nat.zero_le _) ⟨rfl, _, rfl, hI4, hC4⟩
    | succ q ih4 =>
      intro j4 σ4 g2_4 g4_4 g5_4 hj hs4 hI4 hC4
      have hrg4 : inR (nI j4) 0 19 := inR_ix hs4 (show j4 < 20 by omega) (by decide) (by decide) (by decide)
      have hlt4 : j4 < 20 := by omega
      refine R_iload_n (pc := 4) dX1_findLeaders_4 rfl rfl ?_
      refine R_bipush (pc := 5) (v := 20) dX1_findLeaders_5 (by decide) ?_
      refine R_icge (pc := 7) 88 dX1_findLeaders_7 (by decide) (fun h => False.elim (by have q1 := ti_le h; have q2 := ti_in (show inR (nI j4) 0 19 from hrg4); have q3 := ti_in (show inR 20 20 20 from (inR_self _)); have z0 : (0 : Int32).toInt = 0 := (by decide);  have z1 : (19 : Int32).toInt = 19 := (by decide);  have z2 : (20 : Int32).toInt = 20 := (by decide); omega)) (fun _ => ?_)
      refine R_iload_n (pc := 10) dX1_findLeaders_10 rfl rfl ?_
      refine R_iload_n (pc := 11) dX1_findLeaders_11 rfl rfl ?_
      refine k_X1_60 (pc := 12) (sp_X8_has _ _ _) rfl (by decide) (Nat.le_refl _) (Nat.le_refl _) (Nat.le_of_ble_eq_true rfl) dX1_findLeaders_12 (fun x w2 h => ?_)
      rcases h with ⟨rfl, ⟨-, rfl⟩ | ⟨-, rfl⟩⟩
      · skip
        refine R_ifeq (pc := 15) 82 dX1_findLeaders_15 (by decide) (fun h => absurd h (by decide)) (fun _ => ?_)
        refine R_aload_n (pc := 18) dX1_findLeaders_18 rfl rfl ?_
        refine g_X1_38 (pc := 19) (v := .ref 86) rfl dX1_findLeaders_19 (c_58 _) rfl ?_
        refine R_iload_n (pc := 22) dX1_findLeaders_22 rfl rfl ?_
        refine R_iconst (pc := 23) (v := 0) dX1_findLeaders_23 (by decide) ?_
        refine R_sipush (pc := 24) (v := 20000) dX1_findLeaders_24 (by decide) ?_
        refine k_X1_75 (pc := 27) (gx_X7_open_86 _ _ _ _ hI4 hrg4) rfl (c_86 _) (by decide) (Nat.le_refl _) (Nat.le_refl _) (Nat.le_of_ble_eq_true rfl) dX1_findLeaders_27 (fun w2 h => ?_)
        obtain ⟨σx6, rfl, hV5, hW7⟩ := h
        have hW8 := Cor.trans hC4 hW7
        refine R_aload_n (pc := 30) dX1_findLeaders_30 rfl rfl ?_
        refine g_X1_52 (pc := 31) (v := .ref 12) rfl dX1_findLeaders_31 (c_58 _) rfl ?_
        refine R_iload_n (pc := 34) dX1_findLeaders_34 rfl rfl ?_
        refine R_iload_n (pc := 35) dX1_findLeaders_35 rfl rfl ?_
        refine k_X1_79 (pc := 36) (gx_X3_sameNegative _ _ _ hV5 hrg4) rfl (c_12 _) (by decide) (Nat.le_refl _) (Nat.le_refl _) (Nat.le_of_ble_eq_true rfl) dX1_findLeaders_36 (fun y9 w2 h => ?_)
        subst h
        refine st_6_4_i_i (pc := 39) dX1_findLeaders_39 ?_
        refine R_iload_n (pc := 41) dX1_findLeaders_41 rfl rfl ?_
        refine R_iload (pc := 42) dX1_findLeaders_42 rfl ?_
        refine R_iconst (pc := 44) (v := (-1)) dX1_findLeaders_44 (by decide) ?_
        refine R_ixor (pc := 45) dX1_findLeaders_45 ?_
        refine R_iand (pc := 46) dX1_findLeaders_46 ?_
        refine st_6_2_i_i (pc := 47) dX1_findLeaders_47 ?_
        refine R_iload_n (pc := 48) dX1_findLeaders_48 rfl rfl ?_
        refine st_6_5_i_i (pc := 49) dX1_findLeaders_49 ?_
        have HL51 : ∀ (q : Nat) (i51 : Int32) (σ51 : Sg), i51.toInt + (q : Int) = 20 → inR i51 0 20 → Inv σ51 → Cor σ σ51 → R G l yX1_findLeaders cX1_findLeaders 6 none 4 0 0 (QV (fun w2 => ∃ σ2, w2 = WW σ2 ∧ Inv σ2 ∧ Cor σ σ2)) 51 [(some (.ref 58)), (some (.int b)), (some (.int (g2_4 &&& (y9 ^^^ (-1))))), (some (.int (nI j4))), (some (.int y9)), (some (.int i51))] [] (WW σ51) 0 0 := by
          intro q
          induction q with
          | zero =>
            intro i51 σ51 hj51 hrg51 hI51 hC51
            have hM51_ : inR i51 20 20 := of_ti (by have z : (20 : Int32).toInt = 20 := (by decide); omega) (by have z : (20 : Int32).toInt = 20 := (by decide); omega)
            refine R_iload (pc := 51) dX1_findLeaders_51 rfl ?_
            refine R_bipush (pc := 53) (v := 20) dX1_findLeaders_53 (by decide) ?_
            refine R_icge (pc := 55) 82 dX1_findLeaders_55 (by decide) (fun _ => ?_) (fun h => False.elim (by have q1 := ti_nle h; have q2 := ti_in (show inR i51 20 20 from hM51_); have q3 := ti_in (show inR 20 20 20 from (inR_self _)); have z0 : (20 : Int32).toInt = 20 := (by decide); omega))
            refine inc_6_3_1_i (pc := 82) dX1_findLeaders_82 ?_
            have r11 : inR ((nI j4) + 1) 1 20 := inR_add (show inR (nI j4) 0 19 from hrg4) (show inR 1 1 1 from (inR_self _)) (by decide) (by decide)
            have e12 := ti_add (l := 1) (h := 20) (show inR (nI j4) 0 19 from hrg4) (show inR 1 1 1 from (inR_self _)) (by decide) (by decide)
            refine R_goto (pc := 85) 4 dX1_findLeaders_85 (by decide) ?_
            rw [nI_1]
            exact ih4 (j4 + 1) _ _ _ _ (by omega) (by omega) hI51 hC51
          | succ q ih51 =>
            intro i51 σ51 hj51 hrg51 hI51 hC51
            have hM51_ : inR i51 0 19 := of_ti (ti_in hrg51).1 (by have z : (19 : Int32).toInt = 19 := (by decide); omega)
            refine R_iload (pc := 51) dX1_findLeaders_51 rfl ?_
            refine R_bipush (pc := 53) (v := 20) dX1_findLeaders_53 (by decide) ?_
            refine R_icge (pc := 55) 82 dX1_findLeaders_55 (by decide) (fun h => False.elim (by have q1 := ti_le h; have q2 := ti_in (show inR i51 0 19 from hM51_); have q3 := ti_in (show inR 20 20 20 from (inR_self _)); have z0 : (0 : Int32).toInt = 0 := (by decide);  have z1 : (19 : Int32).toInt = 19 := (by decide);  have z2 : (20 : Int32).toInt = 20 := (by decide); omega)) (fun _ => ?_)
            refine R_iload (pc := 58) dX1_findLeaders_58 rfl ?_
            refine R_iload (pc := 60) dX1_findLeaders_60 rfl ?_
            refine k_X1_60 (pc := 62) (sp_X8_has _ _ _) rfl (by decide) (Nat.le_refl _) (Nat.le_refl _) (Nat.le_of_ble_eq_true rfl) dX1_findLeaders_62 (fun x w2 h => ?_)
            rcases h with ⟨rfl, ⟨-, rfl⟩ | ⟨-, rfl⟩⟩
            · skip
              refine R_ifeq (pc := 65) 76 dX1_findLeaders_65 (by decide) (fun h => absurd h (by decide)) (fun _ => ?_)
              refine R_aload_n (pc := 68) dX1_findLeaders_68 rfl rfl ?_
              refine g_X1_45 (pc := 69) (v := .ref 92) rfl dX1_findLeaders_69 (c_58 _) rfl ?_
              refine R_iload (pc := 72) dX1_findLeaders_72 rfl ?_
              refine R_iload_n (pc := 74) dX1_findLeaders_74 rfl rfl ?_
              have hx15 : vp_in i51 20 := (vp_of_inR hM51_ (by decide))
              refine W_iastore (pc := 75) dX1_findLeaders_75 (c_92 _) hx15 (a_92 _ _) ?_
              have hV16 := sa_92 hI51 (Int32.toNatClampNeg i51) hrg4
              have hW17 := cor_sa 92 (upd (σ51.2.2.1 92) (Int32.toNatClampNeg i51) (nI j4)) hC51 rfl
              refine inc_6_5_1_i (pc := 76) dX1_findLeaders_76 ?_
              have r18 : inR (i51 + 1) 1 20 := inR_add (show inR i51 0 19 from hM51_) (show inR 1 1 1 from (inR_self _)) (by decide) (by decide)
              have e19 := ti_add (l := 1) (h := 20) (show inR i51 0 19 from hM51_) (show inR 1 1 1 from (inR_self _)) (by decide) (by decide)
              refine R_goto (pc := 79) 51 dX1_findLeaders_79 (by decide) ?_
              exact ih51 (i51 + 1) _ (by have q0 := e19; have q1 := ti_in hrg4; have q2 := ti_in hM51_; have q3 := ti_in r18; have q4 := hj51; have z0 : (0 : Int32).toInt = 0 := (by decide); have z1 : (1 : Int32).toInt = 1 := (by decide); have z2 : (19 : Int32).toInt = 19 := (by decide); have z3 : (20 : Int32).toInt = 20 := (by decide); omega) (inR_up r18 (by decide) (by decide)) hV16 hW17
            · skip
              refine R_ifeq (pc := 65) 76 dX1_findLeaders_65 (by decide) (fun _ => ?_) (fun h => absurd (by decide) h)
              refine inc_6_5_1_i (pc := 76) dX1_findLeaders_76 ?_
              have r21 : inR (i51 + 1) 1 20 := inR_add (show inR i51 0 19 from hM51_) (show inR 1 1 1 from (inR_self _)) (by decide) (by decide)
              have e22 := ti_add (l := 1) (h := 20) (show inR i51 0 19 from hM51_) (show inR 1 1 1 from (inR_self _)) (by decide) (by decide)
              refine R_goto (pc := 79) 51 dX1_findLeaders_79 (by decide) ?_
              exact ih51 (i51 + 1) _ (by have q0 := e22; have q1 := ti_in hrg4; have q2 := ti_in hM51_; have q3 := ti_in r21; have q4 := hj51; have z0 : (0 : Int32).toInt = 0 := (by decide); have z1 : (1 : Int32).toInt = 1 := (by decide); have z2 : (19 : Int32).toInt = 19 := (by decide); have z3 : (20 : Int32).toInt = 20 := (by decide); omega) (inR_up r21 (by decide) (by decide)) hI51 hC51
        exact HL51 ((20 : Int) - (nI j4).toInt).toNat (nI j4) _ (by have q0 := ti_in hrg4; have z0 : (0 : Int32).toInt = 0 := (by decide); have z1 : (1 : Int32).toInt = 1 := (by decide); have z2 : (19 : Int32).toInt = 19 := (by decide); omega) (inR_up hrg4 (by decide) (by decide)) hV5 hW8
      · skip
        refine R_ifeq (pc := 15) 82 dX1_findLeaders_15 (by decide) (fun _ => ?_) (fun h => absurd (by decide) h)
        refine inc_6_3_1_i (pc := 82) dX1_findLeaders_82 ?_
        have r24 : inR ((nI j4) + 1) 1 20 := inR_add (show inR (nI j4) 0 19 from hrg4) (show inR 1 1 1 from (inR_self _)) (by decide) (by decide)
        have e25 := ti_add (l := 1) (h := 20) (show inR (nI j4) 0 19 from hrg4) (show inR 1 1 1 from (inR_self _)) (by decide) (by decide)
        refine R_goto (pc := 85) 4 dX1_findLeaders_85 (by decide) ?_
        rw [nI_1]
        exact ih4 (j4 + 1) _ _ _ _ (by omega) (by omega) hI4 hC4
  exact HL4 20 0 _ _ _ _ (by omega) (by omega) hI (show Cor σ σ from Cor.rfl' σ)
theorem dX1_openPublished_0 : decode cX1_openPublished 0 = .ok (.aload_n 0, 1) := by decide +kernel
theorem dX1_openPublished_1 : decode cX1_openPublished 1 = .ok (.getfield 48, 3) := by decide +kernel
theorem dX1_openPublished_4 : decode cX1_openPublished 4 = .ok (.getfield 85, 3) := by decide +kernel
theorem dX1_openPublished_7 : decode cX1_openPublished 7 = .ok (.iload_n 1, 1) := by decide +kernel
theorem dX1_openPublished_8 : decode cX1_openPublished 8 = .ok (.iaload, 1) := by decide +kernel
theorem dX1_openPublished_9 : decode cX1_openPublished 9 = .ok (.istore_n 3, 1) := by decide +kernel
theorem dX1_openPublished_10 : decode cX1_openPublished 10 = .ok (.aload_n 0, 1) := by decide +kernel
theorem dX1_openPublished_11 : decode cX1_openPublished 11 = .ok (.getfield 42, 3) := by decide +kernel
theorem dX1_openPublished_14 : decode cX1_openPublished 14 = .ok (.iload_n 1, 1) := by decide +kernel
theorem dX1_openPublished_15 : decode cX1_openPublished 15 = .ok (.aload_n 0, 1) := by decide +kernel
theorem dX1_openPublished_16 : decode cX1_openPublished 16 = .ok (.getfield 18, 3) := by decide +kernel
theorem dX1_openPublished_19 : decode cX1_openPublished 19 = .ok (.iload_n 3, 1) := by decide +kernel
theorem dX1_openPublished_20 : decode cX1_openPublished 20 = .ok (.iaload, 1) := by decide +kernel
theorem dX1_openPublished_21 : decode cX1_openPublished 21 = .ok (.aload_n 0, 1) := by decide +kernel
theorem dX1_openPublished_22 : decode cX1_openPublished 22 = .ok (.getfield 21, 3) := by decide +kernel
theorem dX1_openPublished_25 : decode cX1_openPublished 25 = .ok (.iload_n 3, 1) := by decide +kernel
theorem dX1_openPublished_26 : decode cX1_openPublished 26 = .ok (.iaload, 1) := by decide +kernel
theorem dX1_openPublished_27 : decode cX1_openPublished 27 = .ok (.invokevirtual 75, 3) := by decide +kernel
theorem dX1_openPublished_30 : decode cX1_openPublished 30 = .ok (.aload_n 0, 1) := by decide +kernel
theorem dX1_openPublished_31 : decode cX1_openPublished 31 = .ok (.getfield 48, 3) := by decide +kernel
theorem dX1_openPublished_34 : decode cX1_openPublished 34 = .ok (.getfield 90, 3) := by decide +kernel
theorem dX1_openPublished_37 : decode cX1_openPublished 37 = .ok (.iload_n 1, 1) := by decide +kernel
theorem dX1_openPublished_38 : decode cX1_openPublished 38 = .ok (.iaload, 1) := by decide +kernel
theorem dX1_openPublished_39 : decode cX1_openPublished 39 = .ok (.iconst (-1), 1) := by decide +kernel
theorem dX1_openPublished_40 : decode cX1_openPublished 40 = .ok (.if_icmp .eq 20, 3) := by decide +kernel
theorem dX1_openPublished_43 : decode cX1_openPublished 43 = .ok (.aload_n 0, 1) := by decide +kernel
theorem dX1_openPublished_44 : decode cX1_openPublished 44 = .ok (.getfield 42, 3) := by decide +kernel
theorem dX1_openPublished_47 : decode cX1_openPublished 47 = .ok (.iload_n 1, 1) := by decide +kernel
theorem dX1_openPublished_48 : decode cX1_openPublished 48 = .ok (.aload_n 0, 1) := by decide +kernel
theorem dX1_openPublished_49 : decode cX1_openPublished 49 = .ok (.getfield 48, 3) := by decide +kernel
theorem dX1_openPublished_52 : decode cX1_openPublished 52 = .ok (.getfield 90, 3) := by decide +kernel
theorem dX1_openPublished_55 : decode cX1_openPublished 55 = .ok (.iload_n 1, 1) := by decide +kernel
theorem dX1_openPublished_56 : decode cX1_openPublished 56 = .ok (.iaload, 1) := by decide +kernel
theorem dX1_openPublished_57 : decode cX1_openPublished 57 = .ok (.invokevirtual 93, 3) := by decide +kernel
theorem dX1_openPublished_60 : decode cX1_openPublished 60 = .ok (.iconst 0, 1) := by decide +kernel
theorem dX1_openPublished_61 : decode cX1_openPublished 61 = .ok (.istore 4, 2) := by decide +kernel
theorem dX1_openPublished_63 : decode cX1_openPublished 63 = .ok (.iload 4, 2) := by decide +kernel
theorem dX1_openPublished_65 : decode cX1_openPublished 65 = .ok (.aload_n 2, 1) := by decide +kernel
theorem dX1_openPublished_66 : decode cX1_openPublished 66 = .ok (.getfield 97, 3) := by decide +kernel
theorem dX1_openPublished_69 : decode cX1_openPublished 69 = .ok (.if_icmp .ge 76, 3) := by decide +kernel
theorem dX1_openPublished_72 : decode cX1_openPublished 72 = .ok (.aload_n 2, 1) := by decide +kernel
theorem dX1_openPublished_73 : decode cX1_openPublished 73 = .ok (.getfield 103, 3) := by decide +kernel
theorem dX1_openPublished_76 : decode cX1_openPublished 76 = .ok (.iload 4, 2) := by decide +kernel
theorem dX1_openPublished_78 : decode cX1_openPublished 78 = .ok (.baload, 1) := by decide +kernel
theorem dX1_openPublished_79 : decode cX1_openPublished 79 = .ok (.ifCond .eq 60, 3) := by decide +kernel
theorem dX1_openPublished_82 : decode cX1_openPublished 82 = .ok (.aload_n 2, 1) := by decide +kernel
theorem dX1_openPublished_83 : decode cX1_openPublished 83 = .ok (.iload 4, 2) := by decide +kernel
theorem dX1_openPublished_85 : decode cX1_openPublished 85 = .ok (.aload_n 0, 1) := by decide +kernel
theorem dX1_openPublished_86 : decode cX1_openPublished 86 = .ok (.getfield 48, 3) := by decide +kernel
theorem dX1_openPublished_89 : decode cX1_openPublished 89 = .ok (.getfield 107, 3) := by decide +kernel
theorem dX1_openPublished_92 : decode cX1_openPublished 92 = .ok (.iload_n 1, 1) := by decide +kernel
theorem dX1_openPublished_93 : decode cX1_openPublished 93 = .ok (.iaload, 1) := by decide +kernel
theorem dX1_openPublished_94 : decode cX1_openPublished 94 = .ok (.aload_n 0, 1) := by decide +kernel
theorem dX1_openPublished_95 : decode cX1_openPublished 95 = .ok (.getfield 48, 3) := by decide +kernel
theorem dX1_openPublished_98 : decode cX1_openPublished 98 = .ok (.getfield 110, 3) := by decide +kernel
theorem dX1_openPublished_101 : decode cX1_openPublished 101 = .ok (.iload_n 1, 1) := by decide +kernel
theorem dX1_openPublished_102 : decode cX1_openPublished 102 = .ok (.iaload, 1) := by decide +kernel
theorem dX1_openPublished_103 : decode cX1_openPublished 103 = .ok (.invokevirtual 113, 3) := by decide +kernel
theorem dX1_openPublished_106 : decode cX1_openPublished 106 = .ok (.ifCond .eq 33, 3) := by decide +kernel
theorem dX1_openPublished_109 : decode cX1_openPublished 109 = .ok (.aload_n 0, 1) := by decide +kernel
theorem dX1_openPublished_110 : decode cX1_openPublished 110 = .ok (.getfield 42, 3) := by decide +kernel
theorem dX1_openPublished_113 : decode cX1_openPublished 113 = .ok (.iload_n 1, 1) := by decide +kernel
theorem dX1_openPublished_114 : decode cX1_openPublished 114 = .ok (.aload_n 2, 1) := by decide +kernel
theorem dX1_openPublished_115 : decode cX1_openPublished 115 = .ok (.getfield 117, 3) := by decide +kernel
theorem dX1_openPublished_118 : decode cX1_openPublished 118 = .ok (.iload 4, 2) := by decide +kernel
theorem dX1_openPublished_120 : decode cX1_openPublished 120 = .ok (.iaload, 1) := by decide +kernel
theorem dX1_openPublished_121 : decode cX1_openPublished 121 = .ok (.invokevirtual 120, 3) := by decide +kernel
theorem dX1_openPublished_124 : decode cX1_openPublished 124 = .ok (.aload_n 0, 1) := by decide +kernel
theorem dX1_openPublished_125 : decode cX1_openPublished 125 = .ok (.getfield 42, 3) := by decide +kernel
theorem dX1_openPublished_128 : decode cX1_openPublished 128 = .ok (.iload_n 1, 1) := by decide +kernel
theorem dX1_openPublished_129 : decode cX1_openPublished 129 = .ok (.aload_n 2, 1) := by decide +kernel
theorem dX1_openPublished_130 : decode cX1_openPublished 130 = .ok (.getfield 123, 3) := by decide +kernel
theorem dX1_openPublished_133 : decode cX1_openPublished 133 = .ok (.iload 4, 2) := by decide +kernel
theorem dX1_openPublished_135 : decode cX1_openPublished 135 = .ok (.iaload, 1) := by decide +kernel
theorem dX1_openPublished_136 : decode cX1_openPublished 136 = .ok (.invokevirtual 93, 3) := by decide +kernel
theorem dX1_openPublished_139 : decode cX1_openPublished 139 = .ok (.iinc 4 1, 3) := by decide +kernel
theorem dX1_openPublished_142 : decode cX1_openPublished 142 = .ok (.goto (-79), 3) := by decide +kernel
theorem dX1_openPublished_145 : decode cX1_openPublished 145 = .ok (.return_, 1) := by decide +kernel
set_option maxRecDepth 100000 in
set_option maxHeartbeats 40000000 in
theorem gx_X1_openPublished_119 {G : vG} {l : Launch} (σ : Sg) (c : Int32) (hI : Inv σ) (hc : inR c 0 19) : Sp G l yX1_openPublished cX1_openPublished 5 none 2 0 0 [.ref 58, .int c, .ref 119] (WW σ) (QV (fun w2 => ∃ σ2, w2 = WW σ2 ∧ Inv σ2 ∧ Cor σ σ2)) := by
  refine Sp_of_R [(some (.ref 58)), (some (.int c)), (some (.ref 119)), none, none] [none, none] rfl (by simp) rfl (Nat.le_of_ble_eq_true rfl) ?_
  refine R_aload_n (pc := 0) dX1_openPublished_0 rfl rfl ?_
  refine g_X1_48 (pc := 1) (v := .ref 1) rfl dX1_openPublished_1 (c_58 _) rfl ?_
  refine g_X1_85 (pc := 4) (v := .ref 5) rfl dX1_openPublished_4 (c_1 _) rfl ?_
  refine R_iload_n (pc := 7) dX1_openPublished_7 rfl rfl ?_
  have hx1 : vp_in c 20 := (vp_of_inR hc (by decide))
  refine R_iaload (pc := 8) dX1_openPublished_8 (c_5 _) hx1 ?_
  refine st_5_3_i_a (pc := 9) dX1_openPublished_9 ?_
  refine R_aload_n (pc := 10) dX1_openPublished_10 rfl rfl ?_
  refine g_X1_42 (pc := 11) (v := .ref 89) rfl dX1_openPublished_11 (c_58 _) rfl ?_
  refine R_iload_n (pc := 14) dX1_openPublished_14 rfl rfl ?_
  refine R_aload_n (pc := 15) dX1_openPublished_15 rfl rfl ?_
  refine g_X1_18 (pc := 16) (v := .ref 61) rfl dX1_openPublished_16 (c_58 _) rfl ?_
  refine R_iload_n (pc := 19) dX1_openPublished_19 rfl rfl ?_
  have hx2 : vp_in (σ.2.2.1 5 (Int32.toNatClampNeg c)) 5 := (vp_of_inR (iva_5 hI _ (lt_of_vp hx1)) (by decide))
  refine R_iaload (pc := 20) dX1_openPublished_20 (c_61 _) hx2 ?_
  refine R_aload_n (pc := 21) dX1_openPublished_21 rfl rfl ?_
  refine g_X1_21 (pc := 22) (v := .ref 62) rfl dX1_openPublished_22 (c_58 _) rfl ?_
  refine R_iload_n (pc := 25) dX1_openPublished_25 rfl rfl ?_
  have hx3 : vp_in (σ.2.2.1 5 (Int32.toNatClampNeg c)) 5 := (vp_of_inR (iva_5 hI _ (lt_of_vp hx1)) (by decide))
  refine R_iaload (pc := 26) dX1_openPublished_26 (c_62 _) hx3 ?_
  refine k_X1_75 (pc := 27) (gx_X7_open_89 _ _ _ _ hI hc) rfl (c_89 _) (by decide) (Nat.le_refl _) (Nat.le_refl _) (Nat.le_of_ble_eq_true rfl) dX1_openPublished_27 (fun w2 h => ?_)
  obtain ⟨σx6, rfl, hV5, hW7⟩ := h
  have hW8 := Cor.trans (show Cor σ σ from Cor.rfl' σ) hW7
  refine R_aload_n (pc := 30) dX1_openPublished_30 rfl rfl ?_
  refine g_X1_48 (pc := 31) (v := .ref 1) rfl dX1_openPublished_31 (c_58 _) rfl ?_
  refine g_X1_90 (pc := 34) (v := .ref 8) rfl dX1_openPublished_34 (c_1 _) rfl ?_
  refine R_iload_n (pc := 37) dX1_openPublished_37 rfl rfl ?_
  have hx9 : vp_in c 20 := (vp_of_inR hc (by decide))
  refine R_iaload (pc := 38) dX1_openPublished_38 (c_8 _) hx9 ?_
  refine R_iconst (pc := 39) (v := (-1)) dX1_openPublished_39 (by decide) ?_
  refine R_iceq (pc := 40) 60 dX1_openPublished_40 (by decide) (fun b40_10 => ?_) (fun b40_10 => ?_)
  · skip
    refine R_iconst (pc := 60) (v := 0) dX1_openPublished_60 (by decide) ?_
    refine st_5_4_i_i (pc := 61) dX1_openPublished_61 ?_
    have HL63 : ∀ (q j63 : Nat) (σ63 : Sg), j63 + q = 8 → 0 ≤ j63 → Inv σ63 → Cor σ σ63 → R G l yX1_openPublished cX1_openPublished 5 none 2 0 0 (QV (fun w2 => ∃ σ2, w2 = WW σ2 ∧ Inv σ2 ∧ Cor σ σ2)) 63 [(some (.ref 58)), (some (.int c)), (some (.ref 119)), (some (.int (σ.2.2.1 5 (Int32.toNatClampNeg c)))), (some (.int (nI j63)))] [] (WW σ63) 0 0 := by
      intro q
      induction q with
      | zero =>
        intro j63 σ63 hj hs63 hI63 hC63
        obtain rfl : j63 = 8 := by omega
        refine R_iload (pc := 63) dX1_openPublished_63 rfl ?_
        refine R_aload_n (pc := 65) dX1_openPublished_65 rfl rfl ?_
        refine g_X1_97 (pc := 66) (v := .int (σ63.1 11906)) rfl dX1_openPublished_66 (c_119 _) rfl ?_
        refine R_icge (pc := 69) 145 dX1_openPublished_69 (by decide) (fun _ => ?_) (fun h => absurd (Int32.not_lt.mp (inR_up (iv_11906 hI63) (Int32.le_refl _) (by decide)).2) h)
        exact R_vret (pc := 145) dX1_openPublished_145 rfl (Nat.zero_le _) (Nat.zero_le _) ⟨rfl, _, rfl, hI63, hC63⟩
      | succ q ih63 =>
        intro j63 σ63 hj hs63 hI63 hC63
        have hrg63 : inR (nI j63) 0 7 := inR_ix hs63 (show j63 < 8 by omega) (by decide) (by decide) (by decide)
        have hlt63 : j63 < 8 := by omega
        refine R_iload (pc := 63) dX1_openPublished_63 rfl ?_
        refine R_aload_n (pc := 65) dX1_openPublished_65 rfl rfl ?_
        refine g_X1_97 (pc := 66) (v := .int (σ63.1 11906)) rfl dX1_openPublished_66 (c_119 _) rfl ?_
        refine R_icge (pc := 69) 145 dX1_openPublished_69 (by decide) (fun b69_12 => ?_) (fun b69_12 => ?_)
        · skip
          exact R_vret (pc := 145) dX1_openPublished_145 rfl (Nat.zero_le _) (Nat.zero_le _) ⟨rfl, _, rfl, hI63, hC63⟩
        · skip
          refine R_aload_n (pc := 72) dX1_openPublished_72 rfl rfl ?_
          refine g_X1_103 (pc := 73) (v := .ref 123) rfl dX1_openPublished_73 (c_119 _) rfl ?_
          refine R_iload (pc := 76) dX1_openPublished_76 rfl ?_
          have hx13 : vp_in (nI j63) 8 := (vp_in_nI (by omega) (by decide))
          refine R_baload (pc := 78) dX1_openPublished_78 (c_123 _) hx13 ?_
          refine R_ifeq (pc := 79) 139 dX1_openPublished_79 (by decide) (fun b79_14 => ?_) (fun b79_14 => ?_)
          · skip
            refine inc_5_4_1_i (pc := 139) dX1_openPublished_139 ?_
            have r15 : inR ((nI j63) + 1) 1 8 := inR_add (show inR (nI j63) 0 7 from hrg63) (show inR 1 1 1 from (inR_self _)) (by decide) (by decide)
            have e16 := ti_add (l := 1) (h := 8) (show inR (nI j63) 0 7 from hrg63) (show inR 1 1 1 from (inR_self _)) (by decide) (by decide)
            refine R_goto (pc := 142) 63 dX1_openPublished_142 (by decide) ?_
            rw [nI_1]
            exact ih63 (j63 + 1) _ (by omega) (by omega) hI63 hC63
          · skip
            refine R_aload_n (pc := 82) dX1_openPublished_82 rfl rfl ?_
            refine R_iload (pc := 83) dX1_openPublished_83 rfl ?_
            refine R_aload_n (pc := 85) dX1_openPublished_85 rfl rfl ?_
            refine g_X1_48 (pc := 86) (v := .ref 1) rfl dX1_openPublished_86 (c_58 _) rfl ?_
            refine g_X1_107 (pc := 89) (v := .ref 3) rfl dX1_openPublished_89 (c_1 _) rfl ?_
            refine R_iload_n (pc := 92) dX1_openPublished_92 rfl rfl ?_
            have hx17 : vp_in c 20 := (vp_of_inR hc (by decide))
            refine R_iaload (pc := 93) dX1_openPublished_93 (c_3 _) hx17 ?_
            refine R_aload_n (pc := 94) dX1_openPublished_94 rfl rfl ?_
            refine g_X1_48 (pc := 95) (v := .ref 1) rfl dX1_openPublished_95 (c_58 _) rfl ?_
            refine g_X1_110 (pc := 98) (v := .ref 4) rfl dX1_openPublished_98 (c_1 _) rfl ?_
            refine R_iload_n (pc := 101) dX1_openPublished_101 rfl rfl ?_
            have hx18 : vp_in c 20 := (vp_of_inR hc (by decide))
            refine R_iaload (pc := 102) dX1_openPublished_102 (c_4 _) hx18 ?_
            refine k_X1_113 (pc := 103) (gx_X4_isFor_119 _ _ _ _ hI63 hrg63) rfl (c_119 _) (by decide) (Nat.le_refl _) (Nat.le_refl _) (Nat.le_of_ble_eq_true rfl) dX1_openPublished_103 (fun x w2 h => ?_)
            rcases h with ⟨rfl, rfl | rfl⟩
            · skip
              refine R_ifeq (pc := 106) 139 dX1_openPublished_106 (by decide) (fun h => absurd h (by decide)) (fun _ => ?_)
              refine R_aload_n (pc := 109) dX1_openPublished_109 rfl rfl ?_
              refine g_X1_42 (pc := 110) (v := .ref 89) rfl dX1_openPublished_110 (c_58 _) rfl ?_
              refine R_iload_n (pc := 113) dX1_openPublished_113 rfl rfl ?_
              refine R_aload_n (pc := 114) dX1_openPublished_114 rfl rfl ?_
              refine g_X1_117 (pc := 115) (v := .ref 124) rfl dX1_openPublished_115 (c_119 _) rfl ?_
              refine R_iload (pc := 118) dX1_openPublished_118 rfl ?_
              have hx21 : vp_in (nI j63) 8 := (vp_in_nI (by omega) (by decide))
              refine R_iaload (pc := 120) dX1_openPublished_120 (c_124 _) hx21 ?_
              refine k_X1_120 (pc := 121) (gx_X7_notBefore_89 _ _ _ hI63 hc) rfl (c_89 _) (by decide) (Nat.le_refl _) (Nat.le_refl _) (Nat.le_of_ble_eq_true rfl) dX1_openPublished_121 (fun w2 h => ?_)
              obtain ⟨σx24, rfl, hV23, hW25⟩ := h
              have hW26 := Cor.trans hC63 hW25
              refine R_aload_n (pc := 124) dX1_openPublished_124 rfl rfl ?_
              refine g_X1_42 (pc := 125) (v := .ref 89) rfl dX1_openPublished_125 (c_58 _) rfl ?_
              refine R_iload_n (pc := 128) dX1_openPublished_128 rfl rfl ?_
              refine R_aload_n (pc := 129) dX1_openPublished_129 rfl rfl ?_
              refine g_X1_123 (pc := 130) (v := .ref 125) rfl dX1_openPublished_130 (c_119 _) rfl ?_
              refine R_iload (pc := 133) dX1_openPublished_133 rfl ?_
              have hx27 : vp_in (nI j63) 8 := (vp_in_nI (by omega) (by decide))
              refine R_iaload (pc := 135) dX1_openPublished_135 (c_125 _) hx27 ?_
              refine k_X1_93 (pc := 136) (gx_X7_notBehind_89 _ _ _ hV23 hc) rfl (c_89 _) (by decide) (Nat.le_refl _) (Nat.le_refl _) (Nat.le_of_ble_eq_true rfl) dX1_openPublished_136 (fun w2 h => ?_)
              obtain ⟨σx30, rfl, hV29, hW31⟩ := h
              have hW32 := Cor.trans hW26 hW31
              refine inc_5_4_1_i (pc := 139) dX1_openPublished_139 ?_
              have r33 : inR ((nI j63) + 1) 1 8 := inR_add (show inR (nI j63) 0 7 from hrg63) (show inR 1 1 1 from (inR_self _)) (by decide) (by decide)
              have e34 := ti_add (l := 1) (h := 8) (show inR (nI j63) 0 7 from hrg63) (show inR 1 1 1 from (inR_self _)) (by decide) (by decide)
              refine R_goto (pc := 142) 63 dX1_openPublished_142 (by decide) ?_
              rw [nI_1]
              exact ih63 (j63 + 1) _ (by omega) (by omega) hV29 hW32
            · skip
              refine R_ifeq (pc := 106) 139 dX1_openPublished_106 (by decide) (fun _ => ?_) (fun h => absurd (by decide) h)
              refine inc_5_4_1_i (pc := 139) dX1_openPublished_139 ?_
              have r36 : inR ((nI j63) + 1) 1 8 := inR_add (show inR (nI j63) 0 7 from hrg63) (show inR 1 1 1 from (inR_self _)) (by decide) (by decide)
              have e37 := ti_add (l := 1) (h := 8) (show inR (nI j63) 0 7 from hrg63) (show inR 1 1 1 from (inR_self _)) (by decide) (by decide)
              refine R_goto (pc := 142) 63 dX1_openPublished_142 (by decide) ?_
              rw [nI_1]
              exact ih63 (j63 + 1) _ (by omega) (by omega) hI63 hC63
    exact HL63 8 0 _ (by omega) (by omega) hV5 hW8
  · skip
    refine R_aload_n (pc := 43) dX1_openPublished_43 rfl rfl ?_
    refine g_X1_42 (pc := 44) (v := .ref 89) rfl dX1_openPublished_44 (c_58 _) rfl ?_
    refine R_iload_n (pc := 47) dX1_openPublished_47 rfl rfl ?_
    refine R_aload_n (pc := 48) dX1_openPublished_48 rfl rfl ?_
    refine g_X1_48 (pc := 49) (v := .ref 1) rfl dX1_openPublished_49 (c_58 _) rfl ?_
    refine g_X1_90 (pc := 52) (v := .ref 8) rfl dX1_openPublished_52 (c_1 _) rfl ?_
    refine R_iload_n (pc := 55) dX1_openPublished_55 rfl rfl ?_
    have hx38 : vp_in c 20 := (vp_of_inR hc (by decide))
    refine R_iaload (pc := 56) dX1_openPublished_56 (c_8 _) hx38 ?_
    refine k_X1_93 (pc := 57) (gx_X7_notBehind_89 _ _ _ hV5 hc) rfl (c_89 _) (by decide) (Nat.le_refl _) (Nat.le_refl _) (Nat.le_of_ble_eq_true rfl) dX1_openPublished_57 (fun w2 h => ?_)
    obtain ⟨σx41, rfl, hV40, hW42⟩ := h
    have hW43 := Cor.trans hW8 hW42
    refine R_iconst (pc := 60) (v := 0) dX1_openPublished_60 (by decide) ?_
    refine st_5_4_i_i (pc := 61) dX1_openPublished_61 ?_
    have HL63 : ∀ (q j63 : Nat) (σ63 : Sg), j63 + q = 8 → 0 ≤ j63 → Inv σ63 → Cor σ σ63 → R G l yX1_openPublished cX1_openPublished 5 none 2 0 0 (QV (fun w2 => ∃ σ2, w2 = WW σ2 ∧ Inv σ2 ∧ Cor σ σ2)) 63 [(some (.ref 58)), (some (.int c)), (some (.ref 119)), (some (.int (σ.2.2.1 5 (Int32.toNatClampNeg c)))), (some (.int (nI j63)))] [] (WW σ63) 0 0 := by
      intro q
      induction q with
      | zero =>
        intro j63 σ63 hj hs63 hI63 hC63
        obtain rfl : j63 = 8 := by omega
        refine R_iload (pc := 63) dX1_openPublished_63 rfl ?_
        refine R_aload_n (pc := 65) dX1_openPublished_65 rfl rfl ?_
        refine g_X1_97 (pc := 66) (v := .int (σ63.1 11906)) rfl dX1_openPublished_66 (c_119 _) rfl ?_
        refine R_icge (pc := 69) 145 dX1_openPublished_69 (by decide) (fun _ => ?_) (fun h => absurd (Int32.not_lt.mp (inR_up (iv_11906 hI63) (Int32.le_refl _) (by decide)).2) h)
        exact R_vret (pc := 145) dX1_openPublished_145 rfl (Nat.zero_le _) (Nat.zero_le _) ⟨rfl, _, rfl, hI63, hC63⟩
      | succ q ih63 =>
        intro j63 σ63 hj hs63 hI63 hC63
        have hrg63 : inR (nI j63) 0 7 := inR_ix hs63 (show j63 < 8 by omega) (by decide) (by decide) (by decide)
        have hlt63 : j63 < 8 := by omega
        refine R_iload (pc := 63) dX1_openPublished_63 rfl ?_
        refine R_aload_n (pc := 65) dX1_openPublished_65 rfl rfl ?_
        refine g_X1_97 (pc := 66) (v := .int (σ63.1 11906)) rfl dX1_openPublished_66 (c_119 _) rfl ?_
        refine R_icge (pc := 69) 145 dX1_openPublished_69 (by decide) (fun b69_45 => ?_) (fun b69_45 => ?_)
        · skip
          exact R_vret (pc := 145) dX1_openPublished_145 rfl (Nat.zero_le _) (Nat.zero_le _) ⟨rfl, _, rfl, hI63, hC63⟩
        · skip
          refine R_aload_n (pc := 72) dX1_openPublished_72 rfl rfl ?_
          refine g_X1_103 (pc := 73) (v := .ref 123) rfl dX1_openPublished_73 (c_119 _) rfl ?_
          refine R_iload (pc := 76) dX1_openPublished_76 rfl ?_
          have hx46 : vp_in (nI j63) 8 := (vp_in_nI (by omega) (by decide))
          refine R_baload (pc := 78) dX1_openPublished_78 (c_123 _) hx46 ?_
          refine R_ifeq (pc := 79) 139 dX1_openPublished_79 (by decide) (fun b79_47 => ?_) (fun b79_47 => ?_)
          · skip
            refine inc_5_4_1_i (pc := 139) dX1_openPublished_139 ?_
            have r48 : inR ((nI j63) + 1) 1 8 := inR_add (show inR (nI j63) 0 7 from hrg63) (show inR 1 1 1 from (inR_self _)) (by decide) (by decide)
            have e49 := ti_add (l := 1) (h := 8) (show inR (nI j63) 0 7 from hrg63) (show inR 1 1 1 from (inR_self _)) (by decide) (by decide)
            refine R_goto (pc := 142) 63 dX1_openPublished_142 (by decide) ?_
            rw [nI_1]
            exact ih63 (j63 + 1) _ (by omega) (by omega) hI63 hC63
          · skip
            refine R_aload_n (pc := 82) dX1_openPublished_82 rfl rfl ?_
            refine R_iload (pc := 83) dX1_openPublished_83 rfl ?_
            refine R_aload_n (pc := 85) dX1_openPublished_85 rfl rfl ?_
            refine g_X1_48 (pc := 86) (v := .ref 1) rfl dX1_openPublished_86 (c_58 _) rfl ?_
            refine g_X1_107 (pc := 89) (v := .ref 3) rfl dX1_openPublished_89 (c_1 _) rfl ?_
            refine R_iload_n (pc := 92) dX1_openPublished_92 rfl rfl ?_
            have hx50 : vp_in c 20 := (vp_of_inR hc (by decide))
            refine R_iaload (pc := 93) dX1_openPublished_93 (c_3 _) hx50 ?_
            refine R_aload_n (pc := 94) dX1_openPublished_94 rfl rfl ?_
            refine g_X1_48 (pc := 95) (v := .ref 1) rfl dX1_openPublished_95 (c_58 _) rfl ?_
            refine g_X1_110 (pc := 98) (v := .ref 4) rfl dX1_openPublished_98 (c_1 _) rfl ?_
            refine R_iload_n (pc := 101) dX1_openPublished_101 rfl rfl ?_
            have hx51 : vp_in c 20 := (vp_of_inR hc (by decide))
            refine R_iaload (pc := 102) dX1_openPublished_102 (c_4 _) hx51 ?_
            refine k_X1_113 (pc := 103) (gx_X4_isFor_119 _ _ _ _ hI63 hrg63) rfl (c_119 _) (by decide) (Nat.le_refl _) (Nat.le_refl _) (Nat.le_of_ble_eq_true rfl) dX1_openPublished_103 (fun x w2 h => ?_)
            rcases h with ⟨rfl, rfl | rfl⟩
            · skip
              refine R_ifeq (pc := 106) 139 dX1_openPublished_106 (by decide) (fun h => absurd h (by decide)) (fun _ => ?_)
              refine R_aload_n (pc := 109) dX1_openPublished_109 rfl rfl ?_
              refine g_X1_42 (pc := 110) (v := .ref 89) rfl dX1_openPublished_110 (c_58 _) rfl ?_
              refine R_iload_n (pc := 113) dX1_openPublished_113 rfl rfl ?_
              refine R_aload_n (pc := 114) dX1_openPublished_114 rfl rfl ?_
              refine g_X1_117 (pc := 115) (v := .ref 124) rfl dX1_openPublished_115 (c_119 _) rfl ?_
              refine R_iload (pc := 118) dX1_openPublished_118 rfl ?_
              have hx54 : vp_in (nI j63) 8 := (vp_in_nI (by omega) (by decide))
              refine R_iaload (pc := 120) dX1_openPublished_120 (c_124 _) hx54 ?_
              refine k_X1_120 (pc := 121) (gx_X7_notBefore_89 _ _ _ hI63 hc) rfl (c_89 _) (by decide) (Nat.le_refl _) (Nat.le_refl _) (Nat.le_of_ble_eq_true rfl) dX1_openPublished_121 (fun w2 h => ?_)
              obtain ⟨σx57, rfl, hV56, hW58⟩ := h
              have hW59 := Cor.trans hC63 hW58
              refine R_aload_n (pc := 124) dX1_openPublished_124 rfl rfl ?_
              refine g_X1_42 (pc := 125) (v := .ref 89) rfl dX1_openPublished_125 (c_58 _) rfl ?_
              refine R_iload_n (pc := 128) dX1_openPublished_128 rfl rfl ?_
              refine R_aload_n (pc := 129) dX1_openPublished_129 rfl rfl ?_
              refine g_X1_123 (pc := 130) (v := .ref 125) rfl dX1_openPublished_130 (c_119 _) rfl ?_
              refine R_iload (pc := 133) dX1_openPublished_133 rfl ?_
              have hx60 : vp_in (nI j63) 8 := (vp_in_nI (by omega) (by decide))
              refine R_iaload (pc := 135) dX1_openPublished_135 (c_125 _) hx60 ?_
              refine k_X1_93 (pc := 136) (gx_X7_notBehind_89 _ _ _ hV56 hc) rfl (c_89 _) (by decide) (Nat.le_refl _) (Nat.le_refl _) (Nat.le_of_ble_eq_true rfl) dX1_openPublished_136 (fun w2 h => ?_)
              obtain ⟨σx63, rfl, hV62, hW64⟩ := h
              have hW65 := Cor.trans hW59 hW64
              refine inc_5_4_1_i (pc := 139) dX1_openPublished_139 ?_
              have r66 : inR ((nI j63) + 1) 1 8 := inR_add (show inR (nI j63) 0 7 from hrg63) (show inR 1 1 1 from (inR_self _)) (by decide) (by decide)
              have e67 := ti_add (l := 1) (h := 8) (show inR (nI j63) 0 7 from hrg63) (show inR 1 1 1 from (inR_self _)) (by decide) (by decide)
              refine R_goto (pc := 142) 63 dX1_openPublished_142 (by decide) ?_
              rw [nI_1]
              exact ih63 (j63 + 1) _ (by omega) (by omega) hV62 hW65
            · skip
              refine R_ifeq (pc := 106) 139 dX1_openPublished_106 (by decide) (fun _ => ?_) (fun h => absurd (by decide) h)
              refine inc_5_4_1_i (pc := 139) dX1_openPublished_139 ?_
              have r69 : inR ((nI j63) + 1) 1 8 := inR_add (show inR (nI j63) 0 7 from hrg63) (show inR 1 1 1 from (inR_self _)) (by decide) (by decide)
              have e70 := ti_add (l := 1) (h := 8) (show inR (nI j63) 0 7 from hrg63) (show inR 1 1 1 from (inR_self _)) (by decide) (by decide)
              refine R_goto (pc := 142) 63 dX1_openPublished_142 (by decide) ?_
              rw [nI_1]
              exact ih63 (j63 + 1) _ (by omega) (by omega) hI63 hC63
    exact HL63 8 0 _ (by omega) (by omega) hV40 hW43
set_option maxRecDepth 100000 in
set_option maxHeartbeats 40000000 in
theorem gx_X1_openPublished_126 {G : vG} {l : Launch} (σ : Sg) (c : Int32) (hI : Inv σ) (hc : inR c 0 19) : Sp G l yX1_openPublished cX1_openPublished 5 none 2 0 0 [.ref 58, .int c, .ref 126] (WW σ) (QV (fun w2 => ∃ σ2, w2 = WW σ2 ∧ Inv σ2 ∧ Cor σ σ2)) := by
  refine Sp_of_R [(some (.ref 58)), (some (.int c)), (some (.ref 126)), none, none] [none, none] rfl (by simp) rfl (Nat.le_of_ble_eq_true rfl) ?_
  refine R_aload_n (pc := 0) dX1_openPublished_0 rfl rfl ?_
  refine g_X1_48 (pc := 1) (v := .ref 1) rfl dX1_openPublished_1 (c_58 _) rfl ?_
  refine g_X1_85 (pc := 4) (v := .ref 5) rfl dX1_openPublished_4 (c_1 _) rfl ?_
  refine R_iload_n (pc := 7) dX1_openPublished_7 rfl rfl ?_
  have hx1 : vp_in c 20 := (vp_of_inR hc (by decide))
  refine R_iaload (pc := 8) dX1_openPublished_8 (c_5 _) hx1 ?_
  refine st_5_3_i_a (pc := 9) dX1_openPublished_9 ?_
  refine R_aload_n (pc := 10) dX1_openPublished_10 rfl rfl ?_
  refine g_X1_42 (pc := 11) (v := .ref 89) rfl dX1_openPublished_11 (c_58 _) rfl ?_
  refine R_iload_n (pc := 14) dX1_openPublished_14 rfl rfl ?_
  refine R_aload_n (pc := 15) dX1_openPublished_15 rfl rfl ?_
  refine g_X1_18 (pc := 16) (v := .ref 61) rfl dX1_openPublished_16 (c_58 _) rfl ?_
  refine R_iload_n (pc := 19) dX1_openPublished_19 rfl rfl ?_
  have hx2 : vp_in (σ.2.2.1 5 (Int32.toNatClampNeg c)) 5 := (vp_of_inR (iva_5 hI _ (lt_of_vp hx1)) (by decide))
  refine R_iaload (pc := 20) dX1_openPublished_20 (c_61 _) hx2 ?_
  refine R_aload_n (pc := 21) dX1_openPublished_21 rfl rfl ?_
  refine g_X1_21 (pc := 22) (v := .ref 62) rfl dX1_openPublished_22 (c_58 _) rfl ?_
  refine R_iload_n (pc := 25) dX1_openPublished_25 rfl rfl ?_
  have hx3 : vp_in (σ.2.2.1 5 (Int32.toNatClampNeg c)) 5 := (vp_of_inR (iva_5 hI _ (lt_of_vp hx1)) (by decide))
  refine R_iaload (pc := 26) dX1_openPublished_26 (c_62 _) hx3 ?_
  refine k_X1_75 (pc := 27) (gx_X7_open_89 _ _ _ _ hI hc) rfl (c_89 _) (by decide) (Nat.le_refl _) (Nat.le_refl _) (Nat.le_of_ble_eq_true rfl) dX1_openPublished_27 (fun w2 h => ?_)
  obtain ⟨σx6, rfl, hV5, hW7⟩ := h
  have hW8 := Cor.trans (show Cor σ σ from Cor.rfl' σ) hW7
  refine R_aload_n (pc := 30) dX1_openPublished_30 rfl rfl ?_
  refine g_X1_48 (pc := 31) (v := .ref 1) rfl dX1_openPublished_31 (c_58 _) rfl ?_
  refine g_X1_90 (pc := 34) (v := .ref 8) rfl dX1_openPublished_34 (c_1 _) rfl ?_
  refine R_iload_n (pc := 37) dX1_openPublished_37 rfl rfl ?_
  have hx9 : vp_in c 20 := (vp_of_inR hc (by decide))
  refine R_iaload (pc := 38) dX1_openPublished_38 (c_8 _) hx9 ?_
  refine R_iconst (pc := 39) (v := (-1)) dX1_openPublished_39 (by decide) ?_
  refine R_iceq (pc := 40) 60 dX1_openPublished_40 (by decide) (fun b40_10 => ?_) (fun b40_10 => ?_)
  · skip
    refine R_iconst (pc := 60) (v := 0) dX1_openPublished_60 (by decide) ?_
    refine st_5_4_i_i (pc := 61) dX1_openPublished_61 ?_
    have HL63 : ∀ (q j63 : Nat) (σ63 : Sg), j63 + q = 8 → 0 ≤ j63 → Inv σ63 → Cor σ σ63 → R G l yX1_openPublished cX1_openPublished 5 none 2 0 0 (QV (fun w2 => ∃ σ2, w2 = WW σ2 ∧ Inv σ2 ∧ Cor σ σ2)) 63 [(some (.ref 58)), (some (.int c)), (some (.ref 126)), (some (.int (σ.2.2.1 5 (Int32.toNatClampNeg c)))), (some (.int (nI j63)))] [] (WW σ63) 0 0 := by
      intro q
      induction q with
      | zero =>
        intro j63 σ63 hj hs63 hI63 hC63
        obtain rfl : j63 = 8 := by omega
        refine R_iload (pc := 63) dX1_openPublished_63 rfl ?_
        refine R_aload_n (pc := 65) dX1_openPublished_65 rfl rfl ?_
        refine g_X1_97 (pc := 66) (v := .int (σ63.1 12606)) rfl dX1_openPublished_66 (c_126 _) rfl ?_
        refine R_icge (pc := 69) 145 dX1_openPublished_69 (by decide) (fun _ => ?_) (fun h => absurd (Int32.not_lt.mp (inR_up (iv_12606 hI63) (Int32.le_refl _) (by decide)).2) h)
        exact R_vret (pc := 145) dX1_openPublished_145 rfl (Nat.zero_le _) (Nat.zero_le _) ⟨rfl, _, rfl, hI63, hC63⟩
      | succ q ih63 =>
        intro j63 σ63 hj hs63 hI63 hC63
        have hrg63 : inR (nI j63) 0 7 := inR_ix hs63 (show j63 < 8 by omega) (by decide) (by decide) (by decide)
        have hlt63 : j63 < 8 := by omega
        refine R_iload (pc := 63) dX1_openPublished_63 rfl ?_
        refine R_aload_n (pc := 65) dX1_openPublished_65 rfl rfl ?_
        refine g_X1_97 (pc := 66) (v := .int (σ63.1 12606)) rfl dX1_openPublished_66 (c_126 _) rfl ?_
        refine R_icge (pc := 69) 145 dX1_openPublished_69 (by decide) (fun b69_12 => ?_) (fun b69_12 => ?_)
        · skip
          exact R_vret (pc := 145) dX1_openPublished_145 rfl (Nat.zero_le _) (Nat.zero_le _) ⟨rfl, _, rfl, hI63, hC63⟩
        · skip
          refine R_aload_n (pc := 72) dX1_openPublished_72 rfl rfl ?_
          refine g_X1_103 (pc := 73) (v := .ref 130) rfl dX1_openPublished_73 (c_126 _) rfl ?_
          refine R_iload (pc := 76) dX1_openPublished_76 rfl ?_
          have hx13 : vp_in (nI j63) 8 := (vp_in_nI (by omega) (by decide))
          refine R_baload (pc := 78) dX1_openPublished_78 (c_130 _) hx13 ?_
          refine R_ifeq (pc := 79) 139 dX1_openPublished_79 (by decide) (fun b79_14 => ?_) (fun b79_14 => ?_)
          · skip
            refine inc_5_4_1_i (pc := 139) dX1_openPublished_139 ?_
            have r15 : inR ((nI j63) + 1) 1 8 := inR_add (show inR (nI j63) 0 7 from hrg63) (show inR 1 1 1 from (inR_self _)) (by decide) (by decide)
            have e16 := ti_add (l := 1) (h := 8) (show inR (nI j63) 0 7 from hrg63) (show inR 1 1 1 from (inR_self _)) (by decide) (by decide)
            refine R_goto (pc := 142) 63 dX1_openPublished_142 (by decide) ?_
            rw [nI_1]
            exact ih63 (j63 + 1) _ (by omega) (by omega) hI63 hC63
          · skip
            refine R_aload_n (pc := 82) dX1_openPublished_82 rfl rfl ?_
            refine R_iload (pc := 83) dX1_openPublished_83 rfl ?_
            refine R_aload_n (pc := 85) dX1_openPublished_85 rfl rfl ?_
            refine g_X1_48 (pc := 86) (v := .ref 1) rfl dX1_openPublished_86 (c_58 _) rfl ?_
            refine g_X1_107 (pc := 89) (v := .ref 3) rfl dX1_openPublished_89 (c_1 _) rfl ?_
            refine R_iload_n (pc := 92) dX1_openPublished_92 rfl rfl ?_
            have hx17 : vp_in c 20 := (vp_of_inR hc (by decide))
            refine R_iaload (pc := 93) dX1_openPublished_93 (c_3 _) hx17 ?_
            refine R_aload_n (pc := 94) dX1_openPublished_94 rfl rfl ?_
            refine g_X1_48 (pc := 95) (v := .ref 1) rfl dX1_openPublished_95 (c_58 _) rfl ?_
            refine g_X1_110 (pc := 98) (v := .ref 4) rfl dX1_openPublished_98 (c_1 _) rfl ?_
            refine R_iload_n (pc := 101) dX1_openPublished_101 rfl rfl ?_
            have hx18 : vp_in c 20 := (vp_of_inR hc (by decide))
            refine R_iaload (pc := 102) dX1_openPublished_102 (c_4 _) hx18 ?_
            refine k_X1_113 (pc := 103) (gx_X4_isFor_126 _ _ _ _ hI63 hrg63) rfl (c_126 _) (by decide) (Nat.le_refl _) (Nat.le_refl _) (Nat.le_of_ble_eq_true rfl) dX1_openPublished_103 (fun x w2 h => ?_)
            rcases h with ⟨rfl, rfl | rfl⟩
            · skip
              refine R_ifeq (pc := 106) 139 dX1_openPublished_106 (by decide) (fun h => absurd h (by decide)) (fun _ => ?_)
              refine R_aload_n (pc := 109) dX1_openPublished_109 rfl rfl ?_
              refine g_X1_42 (pc := 110) (v := .ref 89) rfl dX1_openPublished_110 (c_58 _) rfl ?_
              refine R_iload_n (pc := 113) dX1_openPublished_113 rfl rfl ?_
              refine R_aload_n (pc := 114) dX1_openPublished_114 rfl rfl ?_
              refine g_X1_117 (pc := 115) (v := .ref 131) rfl dX1_openPublished_115 (c_126 _) rfl ?_
              refine R_iload (pc := 118) dX1_openPublished_118 rfl ?_
              have hx21 : vp_in (nI j63) 8 := (vp_in_nI (by omega) (by decide))
              refine R_iaload (pc := 120) dX1_openPublished_120 (c_131 _) hx21 ?_
              refine k_X1_120 (pc := 121) (gx_X7_notBefore_89 _ _ _ hI63 hc) rfl (c_89 _) (by decide) (Nat.le_refl _) (Nat.le_refl _) (Nat.le_of_ble_eq_true rfl) dX1_openPublished_121 (fun w2 h => ?_)
              obtain ⟨σx24, rfl, hV23, hW25⟩ := h
              have hW26 := Cor.trans hC63 hW25
              refine R_aload_n (pc := 124) dX1_openPublished_124 rfl rfl ?_
              refine g_X1_42 (pc := 125) (v := .ref 89) rfl dX1_openPublished_125 (c_58 _) rfl ?_
              refine R_iload_n (pc := 128) dX1_openPublished_128 rfl rfl ?_
              refine R_aload_n (pc := 129) dX1_openPublished_129 rfl rfl ?_
              refine g_X1_123 (pc := 130) (v := .ref 132) rfl dX1_openPublished_130 (c_126 _) rfl ?_
              refine R_iload (pc := 133) dX1_openPublished_133 rfl ?_
              have hx27 : vp_in (nI j63) 8 := (vp_in_nI (by omega) (by decide))
              refine R_iaload (pc := 135) dX1_openPublished_135 (c_132 _) hx27 ?_
              refine k_X1_93 (pc := 136) (gx_X7_notBehind_89 _ _ _ hV23 hc) rfl (c_89 _) (by decide) (Nat.le_refl _) (Nat.le_refl _) (Nat.le_of_ble_eq_true rfl) dX1_openPublished_136 (fun w2 h => ?_)
              obtain ⟨σx30, rfl, hV29, hW31⟩ := h
              have hW32 := Cor.trans hW26 hW31
              refine inc_5_4_1_i (pc := 139) dX1_openPublished_139 ?_
              have r33 : inR ((nI j63) + 1) 1 8 := inR_add (show inR (nI j63) 0 7 from hrg63) (show inR 1 1 1 from (inR_self _)) (by decide) (by decide)
              have e34 := ti_add (l := 1) (h := 8) (show inR (nI j63) 0 7 from hrg63) (show inR 1 1 1 from (inR_self _)) (by decide) (by decide)
              refine R_goto (pc := 142) 63 dX1_openPublished_142 (by decide) ?_
              rw [nI_1]
              exact ih63 (j63 + 1) _ (by omega) (by omega) hV29 hW32
            · skip
              refine R_ifeq (pc := 106) 139 dX1_openPublished_106 (by decide) (fun _ => ?_) (fun h => absurd (by decide) h)
              refine inc_5_4_1_i (pc := 139) dX1_openPublished_139 ?_
              have r36 : inR ((nI j63) + 1) 1 8 := inR_add (show inR (nI j63) 0 7 from hrg63) (show inR 1 1 1 from (inR_self _)) (by decide) (by decide)
              have e37 := ti_add (l := 1) (h := 8) (show inR (nI j63) 0 7 from hrg63) (show inR 1 1 1 from (inR_self _)) (by decide) (by decide)
              refine R_goto (pc := 142) 63 dX1_openPublished_142 (by decide) ?_
              rw [nI_1]
              exact ih63 (j63 + 1) _ (by omega) (by omega) hI63 hC63
    exact HL63 8 0 _ (by omega) (by omega) hV5 hW8
  · skip
    refine R_aload_n (pc := 43) dX1_openPublished_43 rfl rfl ?_
    refine g_X1_42 (pc := 44) (v := .ref 89) rfl dX1_openPublished_44 (c_58 _) rfl ?_
    refine R_iload_n (pc := 47) dX1_openPublished_47 rfl rfl ?_
    refine R_aload_n (pc := 48) dX1_openPublished_48 rfl rfl ?_
    refine g_X1_48 (pc := 49) (v := .ref 1) rfl dX1_openPublished_49 (c_58 _) rfl ?_
    refine g_X1_90 (pc := 52) (v := .ref 8) rfl dX1_openPublished_52 (c_1 _) rfl ?_
    refine R_iload_n (pc := 55) dX1_openPublished_55 rfl rfl ?_
    have hx38 : vp_in c 20 := (vp_of_inR hc (by decide))
    refine R_iaload (pc := 56) dX1_openPublished_56 (c_8 _) hx38 ?_
    refine k_X1_93 (pc := 57) (gx_X7_notBehind_89 _ _ _ hV5 hc) rfl (c_89 _) (by decide) (Nat.le_refl _) (Nat.le_refl _) (Nat.le_of_ble_eq_true rfl) dX1_openPublished_57 (fun w2 h => ?_)
    obtain ⟨σx41, rfl, hV40, hW42⟩ := h
    have hW43 := Cor.trans hW8 hW42
    refine R_iconst (pc := 60) (v := 0) dX1_openPublished_60 (by decide) ?_
    refine st_5_4_i_i (pc := 61) dX1_openPublished_61 ?_
    have HL63 : ∀ (q j63 : Nat) (σ63 : Sg), j63 + q = 8 → 0 ≤ j63 → Inv σ63 → Cor σ σ63 → R G l yX1_openPublished cX1_openPublished 5 none 2 0 0 (QV (fun w2 => ∃ σ2, w2 = WW σ2 ∧ Inv σ2 ∧ Cor σ σ2)) 63 [(some (.ref 58)), (some (.int c)), (some (.ref 126)), (some (.int (σ.2.2.1 5 (Int32.toNatClampNeg c)))), (some (.int (nI j63)))] [] (WW σ63) 0 0 := by
      intro q
      induction q with
      | zero =>
        intro j63 σ63 hj hs63 hI63 hC63
        obtain rfl : j63 = 8 := by omega
        refine R_iload (pc := 63) dX1_openPublished_63 rfl ?_
        refine R_aload_n (pc := 65) dX1_openPublished_65 rfl rfl ?_
        refine g_X1_97 (pc := 66) (v := .int (σ63.1 12606)) rfl dX1_openPublished_66 (c_126 _) rfl ?_
        refine R_icge (pc := 69) 145 dX1_openPublished_69 (by decide) (fun _ => ?_) (fun h => absurd (Int32.not_lt.mp (inR_up (iv_12606 hI63) (Int32.le_refl _) (by decide)).2) h)
        exact R_vret (pc := 145) dX1_openPublished_145 rfl (Nat.zero_le _) (Nat.zero_le _) ⟨rfl, _, rfl, hI63, hC63⟩
      | succ q ih63 =>
        intro j63 σ63 hj hs63 hI63 hC63
        have hrg63 : inR (nI j63) 0 7 := inR_ix hs63 (show j63 < 8 by omega) (by decide) (by decide) (by decide)
        have hlt63 : j63 < 8 := by omega
        refine R_iload (pc := 63) dX1_openPublished_63 rfl ?_
        refine R_aload_n (pc := 65) dX1_openPublished_65 rfl rfl ?_
        refine g_X1_97 (pc := 66) (v := .int (σ63.1 12606)) rfl dX1_openPublished_66 (c_126 _) rfl ?_
        refine R_icge (pc := 69) 145 dX1_openPublished_69 (by decide) (fun b69_45 => ?_) (fun b69_45 => ?_)
        · skip
          exact R_vret (pc := 145) dX1_openPublished_145 rfl (Nat.zero_le _) (Nat.zero_le _) ⟨rfl, _, rfl, hI63, hC63⟩
        · skip
          refine R_aload_n (pc := 72) dX1_openPublished_72 rfl rfl ?_
          refine g_X1_103 (pc := 73) (v := .ref 130) rfl dX1_openPublished_73 (c_126 _) rfl ?_
          refine R_iload (pc := 76) dX1_openPublished_76 rfl ?_
          have hx46 : vp_in (nI j63) 8 := (vp_in_nI (by omega) (by decide))
          refine R_baload (pc := 78) dX1_openPublished_78 (c_130 _) hx46 ?_
          refine R_ifeq (pc := 79) 139 dX1_openPublished_79 (by decide) (fun b79_47 => ?_) (fun b79_47 => ?_)
          · skip
            refine inc_5_4_1_i (pc := 139) dX1_openPublished_139 ?_
            have r48 : inR ((nI j63) + 1) 1 8 := inR_add (show inR (nI j63) 0 7 from hrg63) (show inR 1 1 1 from (inR_self _)) (by decide) (by decide)
            have e49 := ti_add (l := 1) (h := 8) (show inR (nI j63) 0 7 from hrg63) (show inR 1 1 1 from (inR_self _)) (by decide) (by decide)
            refine R_goto (pc := 142) 63 dX1_openPublished_142 (by decide) ?_
            rw [nI_1]
            exact ih63 (j63 + 1) _ (by omega) (by omega) hI63 hC63
          · skip
            refine R_aload_n (pc := 82) dX1_openPublished_82 rfl rfl ?_
            refine R_iload (pc := 83) dX1_openPublished_83 rfl ?_
            refine R_aload_n (pc := 85) dX1_openPublished_85 rfl rfl ?_
            refine g_X1_48 (pc := 86) (v := .ref 1) rfl dX1_openPublished_86 (c_58 _) rfl ?_
            refine g_X1_107 (pc := 89) (v := .ref 3) rfl dX1_openPublished_89 (c_1 _) rfl ?_
            refine R_iload_n (pc := 92) dX1_openPublished_92 rfl rfl ?_
            have hx50 : vp_in c 20 := (vp_of_inR hc (by decide))
            refine R_iaload (pc := 93) dX1_openPublished_93 (c_3 _) hx50 ?_
            refine R_aload_n (pc := 94) dX1_openPublished_94 rfl rfl ?_
            refine g_X1_48 (pc := 95) (v := .ref 1) rfl dX1_openPublished_95 (c_58 _) rfl ?_
            refine g_X1_110 (pc := 98) (v := .ref 4) rfl dX1_openPublished_98 (c_1 _) rfl ?_
            refine R_iload_n (pc := 101) dX1_openPublished_101 rfl rfl ?_
            have hx51 : vp_in c 20 := (vp_of_inR hc (by decide))
            refine R_iaload (pc := 102) dX1_openPublished_102 (c_4 _) hx51 ?_
            refine k_X1_113 (pc := 103) (gx_X4_isFor_126 _ _ _ _ hI63 hrg63) rfl (c_126 _) (by decide) (Nat.le_refl _) (Nat.le_refl _) (Nat.le_of_ble_eq_true rfl) dX1_openPublished_103 (fun x w2 h => ?_)
            rcases h with ⟨rfl, rfl | rfl⟩
            · skip
              refine R_ifeq (pc := 106) 139 dX1_openPublished_106 (by decide) (fun h => absurd h (by decide)) (fun _ => ?_)
              refine R_aload_n (pc := 109) dX1_openPublished_109 rfl rfl ?_
              refine g_X1_42 (pc := 110) (v := .ref 89) rfl dX1_openPublished_110 (c_58 _) rfl ?_
              refine R_iload_n (pc := 113) dX1_openPublished_113 rfl rfl ?_
              refine R_aload_n (pc := 114) dX1_openPublished_114 rfl rfl ?_
              refine g_X1_117 (pc := 115) (v := .ref 131) rfl dX1_openPublished_115 (c_126 _) rfl ?_
              refine R_iload (pc := 118) dX1_openPublished_118 rfl ?_
              have hx54 : vp_in (nI j63) 8 := (vp_in_nI (by omega) (by decide))
              refine R_iaload (pc := 120) dX1_openPublished_120 (c_131 _) hx54 ?_
              refine k_X1_120 (pc := 121) (gx_X7_notBefore_89 _ _ _ hI63 hc) rfl (c_89 _) (by decide) (Nat.le_refl _) (Nat.le_refl _) (Nat.le_of_ble_eq_true rfl) dX1_openPublished_121 (fun w2 h => ?_)
              obtain ⟨σx57, rfl, hV56, hW58⟩ := h
              have hW59 := Cor.trans hC63 hW58
              refine R_aload_n (pc := 124) dX1_openPublished_124 rfl rfl ?_
              refine g_X1_42 (pc := 125) (v := .ref 89) rfl dX1_openPublished_125 (c_58 _) rfl ?_
              refine R_iload_n (pc := 128) dX1_openPublished_128 rfl rfl ?_
              refine R_aload_n (pc := 129) dX1_openPublished_129 rfl rfl ?_
              refine g_X1_123 (pc := 130) (v := .ref 132) rfl dX1_openPublished_130 (c_126 _) rfl ?_
              refine R_iload (pc := 133) dX1_openPublished_133 rfl ?_
              have hx60 : vp_in (nI j63) 8 := (vp_in_nI (by omega) (by decide))
              refine R_iaload (pc := 135) dX1_openPublished_135 (c_132 _) hx60 ?_
              refine k_X1_93 (pc := 136) (gx_X7_notBehind_89 _ _ _ hV56 hc) rfl (c_89 _) (by decide) (Nat.le_refl _) (Nat.le_refl _) (Nat.le_of_ble_eq_true rfl) dX1_openPublished_136 (fun w2 h => ?_)
              obtain ⟨σx63, rfl, hV62, hW64⟩ := h
              have hW65 := Cor.trans hW59 hW64
              refine inc_5_4_1_i (pc := 139) dX1_openPublished_139 ?_
              have r66 : inR ((nI j63) + 1) 1 8 := inR_add (show inR (nI j63) 0 7 from hrg63) (show inR 1 1 1 from (inR_self _)) (by decide) (by decide)
              have e67 := ti_add (l := 1) (h := 8) (show inR (nI j63) 0 7 from hrg63) (show inR 1 1 1 from (inR_self _)) (by decide) (by decide)
              refine R_goto (pc := 142) 63 dX1_openPublished_142 (by decide) ?_
              rw [nI_1]
              exact ih63 (j63 + 1) _ (by omega) (by omega) hV62 hW65
            · skip
              refine R_ifeq (pc := 106) 139 dX1_openPublished_106 (by decide) (fun _ => ?_) (fun h => absurd (by decide) h)
              refine inc_5_4_1_i (pc := 139) dX1_openPublished_139 ?_
              have r69 : inR ((nI j63) + 1) 1 8 := inR_add (show inR (nI j63) 0 7 from hrg63) (show inR 1 1 1 from (inR_self _)) (by decide) (by decide)
              have e70 := ti_add (l := 1) (h := 8) (show inR (nI j63) 0 7 from hrg63) (show inR 1 1 1 from (inR_self _)) (by decide) (by decide)
              refine R_goto (pc := 142) 63 dX1_openPublished_142 (by decide) ?_
              rw [nI_1]
              exact ih63 (j63 + 1) _ (by omega) (by omega) hI63 hC63
    exact HL63 8 0 _ (by omega) (by omega) hV40 hW43
set_option maxRecDepth 100000 in
set_option maxHeartbeats 40000000 in
theorem gx_X1_openPublished_133 {G : vG} {l : Launch} (σ : Sg) (c : Int32) (hI : Inv σ) (hc : inR c 0 19) : Sp G l yX1_openPublished cX1_openPublished 5 none 2 0 0 [.ref 58, .int c, .ref 133] (WW σ) (QV (fun w2 => ∃ σ2, w2 = WW σ2 ∧ Inv σ2 ∧ Cor σ σ2)) := by
  refine Sp_of_R [(some (.ref 58)), (some (.int c)), (some (.ref 133)), none, none] [none, none] rfl (by simp) rfl (Nat.le_of_ble_eq_true rfl) ?_
  refine R_aload_n (pc := 0) dX1_openPublished_0 rfl rfl ?_
  refine g_X1_48 (pc := 1) (v := .ref 1) rfl dX1_openPublished_1 (c_58 _) rfl ?_
  refine g_X1_85 (pc := 4) (v := .ref 5) rfl dX1_openPublished_4 (c_1 _) rfl ?_
  refine R_iload_n (pc := 7) dX1_openPublished_7 rfl rfl ?_
  have hx1 : vp_in c 20 := (vp_of_inR hc (by decide))
  refine R_iaload (pc := 8) dX1_openPublished_8 (c_5 _) hx1 ?_
  refine st_5_3_i_a (pc := 9) dX1_openPublished_9 ?_
  refine R_aload_n (pc := 10) dX1_openPublished_10 rfl rfl ?_
  refine g_X1_42 (pc := 11) (v := .ref 89) rfl dX1_openPublished_11 (c_58 _) rfl ?_
  refine R_iload_n (pc := 14) dX1_openPublished_14 rfl rfl ?_
  refine R_aload_n (pc := 15) dX1_openPublished_15 rfl rfl ?_
  refine g_X1_18 (pc := 16) (v := .ref 61) rfl dX1_openPublished_16 (c_58 _) rfl ?_
  refine R_iload_n (pc := 19) dX1_openPublished_19 rfl rfl ?_
  have hx2 : vp_in (σ.2.2.1 5 (Int32.toNatClampNeg c)) 5 := (vp_of_inR (iva_5 hI _ (lt_of_vp hx1)) (by decide))
  refine R_iaload (pc := 20) dX1_openPublished_20 (c_61 _) hx2 ?_
  refine R_aload_n (pc := 21) dX1_openPublished_21 rfl rfl ?_
  refine g_X1_21 (pc := 22) (v := .ref 62) rfl dX1_openPublished_22 (c_58 _) rfl ?_
  refine R_iload_n (pc := 25) dX1_openPublished_25 rfl rfl ?_
  have hx3 : vp_in (σ.2.2.1 5 (Int32.toNatClampNeg c)) 5 := (vp_of_inR (iva_5 hI _ (lt_of_vp hx1)) (by decide))
  refine R_iaload (pc := 26) dX1_openPublished_26 (c_62 _) hx3 ?_
  refine k_X1_75 (pc := 27) (gx_X7_open_89 _ _ _ _ hI hc) rfl (c_89 _) (by decide) (Nat.le_refl _) (Nat.le_refl _) (Nat.le_of_ble_eq_true rfl) dX1_openPublished_27 (fun w2 h => ?_)
  obtain ⟨σx6, rfl, hV5, hW7⟩ := h
  have hW8 := Cor.trans (show Cor σ σ from Cor.rfl' σ) hW7
  refine R_aload_n (pc := 30) dX1_openPublished_30 rfl rfl ?_
  refine g_X1_48 (pc := 31) (v := .ref 1) rfl dX1_openPublished_31 (c_58 _) rfl ?_
  refine g_X1_90 (pc := 34) (v := .ref 8) rfl dX1_openPublished_34 (c_1 _) rfl ?_
  refine R_iload_n (pc := 37) dX1_openPublished_37 rfl rfl ?_
  have hx9 : vp_in c 20 := (vp_of_inR hc (by decide))
  refine R_iaload (pc := 38) dX1_openPublished_38 (c_8 _) hx9 ?_
  refine R_iconst (pc := 39) (v := (-1)) dX1_openPublished_39 (by decide) ?_
  refine R_iceq (pc := 40) 60 dX1_openPublished_40 (by decide) (fun b40_10 => ?_) (fun b40_10 => ?_)
  · skip
    refine R_iconst (pc := 60) (v := 0) dX1_openPublished_60 (by decide) ?_
    refine st_5_4_i_i (pc := 61) dX1_openPublished_61 ?_
    have HL63 : ∀ (q j63 : Nat) (σ63 : Sg), j63 + q = 8 → 0 ≤ j63 → Inv σ63 → Cor σ σ63 → R G l yX1_openPublished cX1_openPublished 5 none 2 0 0 (QV (fun w2 => ∃ σ2, w2 = WW σ2 ∧ Inv σ2 ∧ Cor σ σ2)) 63 [(some (.ref 58)), (some (.int c)), (some (.ref 133)), (some (.int (σ.2.2.1 5 (Int32.toNatClampNeg c)))), (some (.int (nI j63)))] [] (WW σ63) 0 0 := by
      intro q
      induction q with
      | zero =>
        intro j63 σ63 hj hs63 hI63 hC63
        obtain rfl : j63 = 8 := by omega
        refine R_iload (pc := 63) dX1_openPublished_63 rfl ?_
        refine R_aload_n (pc := 65) dX1_openPublished_65 rfl rfl ?_
        refine g_X1_97 (pc := 66) (v := .int (σ63.1 13306)) rfl dX1_openPublished_66 (c_133 _) rfl ?_
        refine R_icge (pc := 69) 145 dX1_openPublished_69 (by decide) (fun _ => ?_) (fun h => absurd (Int32.not_lt.mp (inR_up (iv_13306 hI63) (Int32.le_refl _) (by decide)).2) h)
        exact R_vret (pc := 145) dX1_openPublished_145 rfl (Nat.zero_le _) (Nat.zero_le _) ⟨rfl, _, rfl, hI63, hC63⟩
      | succ q ih63 =>
        intro j63 σ63 hj hs63 hI63 hC63
        have hrg63 : inR (nI j63) 0 7 := inR_ix hs63 (show j63 < 8 by omega) (by decide) (by decide) (by decide)
        have hlt63 : j63 < 8 := by omega
        refine R_iload (pc := 63) dX1_openPublished_63 rfl ?_
        refine R_aload_n (pc := 65) dX1_openPublished_65 rfl rfl ?_
        refine g_X1_97 (pc := 66) (v := .int (σ63.1 13306)) rfl dX1_openPublished_66 (c_133 _) rfl ?_
        refine R_icge (pc := 69) 145 dX1_openPublished_69 (by decide) (fun b69_12 => ?_) (fun b69_12 => ?_)
        · skip
          exact R_vret (pc := 145) dX1_openPublished_145 rfl (Nat.zero_le _) (Nat.zero_le _) ⟨rfl, _, rfl, hI63, hC63⟩
        · skip
          refine R_aload_n (pc := 72) dX1_openPublished_72 rfl rfl ?_
          refine g_X1_103 (pc := 73) (v := .ref 137) rfl dX1_openPublished_73 (c_133 _) rfl ?_
          refine R_iload (pc := 76) dX1_openPublished_76 rfl ?_
          have hx13 : vp_in (nI j63) 8 := (vp_in_nI (by omega) (by decide))
          refine R_baload (pc := 78) dX1_openPublished_78 (c_137 _) hx13 ?_
          refine R_ifeq (pc := 79) 139 dX1_openPublished_79 (by decide) (fun b79_14 => ?_) (fun b79_14 => ?_)
          · skip
            refine inc_5_4_1_i (pc := 139) dX1_openPublished_139 ?_
            have r15 : inR ((nI j63) + 1) 1 8 := inR_add (show inR (nI j63) 0 7 from hrg63) (show inR 1 1 1 from (inR_self _)) (by decide) (by decide)
            have e16 := ti_add (l := 1) (h := 8) (show inR (nI j63) 0 7 from hrg63) (show inR 1 1 1 from (inR_self _)) (by decide) (by decide)
            refine R_goto (pc := 142) 63 dX1_openPublished_142 (by decide) ?_
            rw [nI_1]
            exact ih63 (j63 + 1) _ (by omega) (by omega) hI63 hC63
          · skip
            refine R_aload_n (pc := 82) dX1_openPublished_82 rfl rfl ?_
            refine R_iload (pc := 83) dX1_openPublished_83 rfl ?_
            refine R_aload_n (pc := 85) dX1_openPublished_85 rfl rfl ?_
            refine g_X1_48 (pc := 86) (v := .ref 1) rfl dX1_openPublished_86 (c_58 _) rfl ?_
            refine g_X1_107 (pc := 89) (v := .ref 3) rfl dX1_openPublished_89 (c_1 _) rfl ?_
            refine R_iload_n (pc := 92) dX1_openPublished_92 rfl rfl ?_
            have hx17 : vp_in c 20 := (vp_of_inR hc (by decide))
            refine R_iaload (pc := 93) dX1_openPublished_93 (c_3 _) hx17 ?_
            refine R_aload_n (pc := 94) dX1_openPublished_94 rfl rfl ?_
            refine g_X1_48 (pc := 95) (v := .ref 1) rfl dX1_openPublished_95 (c_58 _) rfl ?_
            refine g_X1_110 (pc := 98) (v := .ref 4) rfl dX1_openPublished_98 (c_1 _) rfl ?_
            refine R_iload_n (pc := 101) dX1_openPublished_101 rfl rfl ?_
            have hx18 : vp_in c 20 := (vp_of_inR hc (by decide))
            refine R_iaload (pc := 102) dX1_openPublished_102 (c_4 _) hx18 ?_
            refine k_X1_113 (pc := 103) (gx_X4_isFor_133 _ _ _ _ hI63 hrg63) rfl (c_133 _) (by decide) (Nat.le_refl _) (Nat.le_refl _) (Nat.le_of_ble_eq_true rfl) dX1_openPublished_103 (fun x w2 h => ?_)
            rcases h with ⟨rfl, rfl | rfl⟩
            · skip
              refine R_ifeq (pc := 106) 139 dX1_openPublished_106 (by decide) (fun h => absurd h (by decide)) (fun _ => ?_)
              refine R_aload_n (pc := 109) dX1_openPublished_109 rfl rfl ?_
              refine g_X1_42 (pc := 110) (v := .ref 89) rfl dX1_openPublished_110 (c_58 _) rfl ?_
              refine R_iload_n (pc := 113) dX1_openPublished_113 rfl rfl ?_
              refine R_aload_n (pc := 114) dX1_openPublished_114 rfl rfl ?_
              refine g_X1_117 (pc := 115) (v := .ref 138) rfl dX1_openPublished_115 (c_133 _) rfl ?_
              refine R_iload (pc := 118) dX1_openPublished_118 rfl ?_
              have hx21 : vp_in (nI j63) 8 := (vp_in_nI (by omega) (by decide))
              refine R_iaload (pc := 120) dX1_openPublished_120 (c_138 _) hx21 ?_
              refine k_X1_120 (pc := 121) (gx_X7_notBefore_89 _ _ _ hI63 hc) rfl (c_89 _) (by decide) (Nat.le_refl _) (Nat.le_refl _) (Nat.le_of_ble_eq_true rfl) dX1_openPublished_121 (fun w2 h => ?_)
              obtain ⟨σx24, rfl, hV23, hW25⟩ := h
              have hW26 := Cor.trans hC63 hW25
              refine R_aload_n (pc := 124) dX1_openPublished_124 rfl rfl ?_
              refine g_X1_42 (pc := 125) (v := .ref 89) rfl dX1_openPublished_125 (c_58 _) rfl ?_
              refine R_iload_n (pc := 128) dX1_openPublished_128 rfl rfl ?_
              refine R_aload_n (pc := 129) dX1_openPublished_129 rfl rfl ?_
              refine g_X1_123 (pc := 130) (v := .ref 139) rfl dX1_openPublished_130 (c_133 _) rfl ?_
              refine R_iload (pc := 133) dX1_openPublished_133 rfl ?_
              have hx27 : vp_in (nI j63) 8 := (vp_in_nI (by omega) (by decide))
              refine R_iaload (pc := 135) dX1_openPublished_135 (c_139 _) hx27 ?_
              refine k_X1_93 (pc := 136) (gx_X7_notBehind_89 _ _ _ hV23 hc) rfl (c_89 _) (by decide) (Nat.le_refl _) (Nat.le_refl _) (Nat.le_of_ble_eq_true rfl) dX1_openPublished_136 (fun w2 h => ?_)
              obtain ⟨σx30, rfl, hV29, hW31⟩ := h
              have hW32 := Cor.trans hW26 hW31
              refine inc_5_4_1_i (pc := 139) dX1_openPublished_139 ?_
              have r33 : inR ((nI j63) + 1) 1 8 := inR_add (show inR (nI j63) 0 7 from hrg63) (show inR 1 1 1 from (inR_self _)) (by decide) (by decide)
              have e34 := ti_add (l := 1) (h := 8) (show inR (nI j63) 0 7 from hrg63) (show inR 1 1 1 from (inR_self _)) (by decide) (by decide)
              refine R_goto (pc := 142) 63 dX1_openPublished_142 (by decide) ?_
              rw [nI_1]
              exact ih63 (j63 + 1) _ (by omega) (by omega) hV29 hW32
            · skip
              refine R_ifeq (pc := 106) 139 dX1_openPublished_106 (by decide) (fun _ => ?_) (fun h => absurd (by decide) h)
              refine inc_5_4_1_i (pc := 139) dX1_openPublished_139 ?_
              have r36 : inR ((nI j63) + 1) 1 8 := inR_add (show inR (nI j63) 0 7 from hrg63) (show inR 1 1 1 from (inR_self _)) (by decide) (by decide)
              have e37 := ti_add (l := 1) (h := 8) (show inR (nI j63) 0 7 from hrg63) (show inR 1 1 1 from (inR_self _)) (by decide) (by decide)
              refine R_goto (pc := 142) 63 dX1_openPublished_142 (by decide) ?_
              rw [nI_1]
              exact ih63 (j63 + 1) _ (by omega) (by omega) hI63 hC63
    exact HL63 8 0 _ (by omega) (by omega) hV5 hW8
  · skip
    refine R_aload_n (pc := 43) dX1_openPublished_43 rfl rfl ?_
    refine g_X1_42 (pc := 44) (v := .ref 89) rfl dX1_openPublished_44 (c_58 _) rfl ?_
    refine R_iload_n (pc := 47) dX1_openPublished_47 rfl rfl ?_
    refine R_aload_n (pc := 48) dX1_openPublished_48 rfl rfl ?_
    refine g_X1_48 (pc := 49) (v := .ref 1) rfl dX1_openPublished_49 (c_58 _) rfl ?_
    refine g_X1_90 (pc := 52) (v := .ref 8) rfl dX1_openPublished_52 (c_1 _) rfl ?_
    refine R_iload_n (pc := 55) dX1_openPublished_55 rfl rfl ?_
    have hx38 : vp_in c 20 := (vp_of_inR hc (by decide))
    refine R_iaload (pc := 56) dX1_openPublished_56 (c_8 _) hx38 ?_
    refine k_X1_93 (pc := 57) (gx_X7_notBehind_89 _ _ _ hV5 hc) rfl (c_89 _) (by decide) (Nat.le_refl _) (Nat.le_refl _) (Nat.le_of_ble_eq_true rfl) dX1_openPublished_57 (fun w2 h => ?_)
    obtain ⟨σx41, rfl, hV40, hW42⟩ := h
    have hW43 := Cor.trans hW8 hW42
    refine R_iconst (pc := 60) (v := 0) dX1_openPublished_60 (by decide) ?_
    refine st_5_4_i_i (pc := 61) dX1_openPublished_61 ?_
    have HL63 : ∀ (q j63 : Nat) (σ63 : Sg), j63 + q = 8 → 0 ≤ j63 → Inv σ63 → Cor σ σ63 → R G l yX1_openPublished cX1_openPublished 5 none 2 0 0 (QV (fun w2 => ∃ σ2, w2 = WW σ2 ∧ Inv σ2 ∧ Cor σ σ2)) 63 [(some (.ref 58)), (some (.int c)), (some (.ref 133)), (some (.int (σ.2.2.1 5 (Int32.toNatClampNeg c)))), (some (.int (nI j63)))] [] (WW σ63) 0 0 := by
      intro q
      induction q with
      | zero =>
        intro j63 σ63 hj hs63 hI63 hC63
        obtain rfl : j63 = 8 := by omega
        refine R_iload (pc := 63) dX1_openPublished_63 rfl ?_
        refine R_aload_n (pc := 65) dX1_openPublished_65 rfl rfl ?_
        refine g_X1_97 (pc := 66) (v := .int (σ63.1 13306)) rfl dX1_openPublished_66 (c_133 _) rfl ?_
        refine R_icge (pc := 69) 145 dX1_openPublished_69 (by decide) (fun _ => ?_) (fun h => absurd (Int32.not_lt.mp (inR_up (iv_13306 hI63) (Int32.le_refl _) (by decide)).2) h)
        exact R_vret (pc := 145) dX1_openPublished_145 rfl (Nat.zero_le _) (Nat.zero_le _) ⟨rfl, _, rfl, hI63, hC63⟩
      | succ q ih63 =>
        intro j63 σ63 hj hs63 hI63 hC63
        have hrg63 : inR (nI j63) 0 7 := inR_ix hs63 (show j63 < 8 by omega) (by decide) (by decide) (by decide)
        have hlt63 : j63 < 8 := by omega
        refine R_iload (pc := 63) dX1_openPublished_63 rfl ?_
        refine R_aload_n (pc := 65) dX1_openPublished_65 rfl rfl ?_
        refine g_X1_97 (pc := 66) (v := .int (σ63.1 13306)) rfl dX1_openPublished_66 (c_133 _) rfl ?_
        refine R_icge (pc := 69) 145 dX1_openPublished_69 (by decide) (fun b69_45 => ?_) (fun b69_45 => ?_)
        · skip
          exact R_vret (pc := 145) dX1_openPublished_145 rfl (Nat.zero_le _) (Nat.zero_le _) ⟨rfl, _, rfl, hI63, hC63⟩
        · skip
          refine R_aload_n (pc := 72) dX1_openPublished_72 rfl rfl ?_
          refine g_X1_103 (pc := 73) (v := .ref 137) rfl dX1_openPublished_73 (c_133 _) rfl ?_
          refine R_iload (pc := 76) dX1_openPublished_76 rfl ?_
          have hx46 : vp_in (nI j63) 8 := (vp_in_nI (by omega) (by decide))
          refine R_baload (pc := 78) dX1_openPublished_78 (c_137 _) hx46 ?_
          refine R_ifeq (pc := 79) 139 dX1_openPublished_79 (by decide) (fun b79_47 => ?_) (fun b79_47 => ?_)
          · skip
            refine inc_5_4_1_i (pc := 139) dX1_openPublished_139 ?_
            have r48 : inR ((nI j63) + 1) 1 8 := inR_add (show inR (nI j63) 0 7 from hrg63) (show inR 1 1 1 from (inR_self _)) (by decide) (by decide)
            have e49 := ti_add (l := 1) (h := 8) (show inR (nI j63) 0 7 from hrg63) (show inR 1 1 1 from (inR_self _)) (by decide) (by decide)
            refine R_goto (pc := 142) 63 dX1_openPublished_142 (by decide) ?_
            rw [nI_1]
            exact ih63 (j63 + 1) _ (by omega) (by omega) hI63 hC63
          · skip
            refine R_aload_n (pc := 82) dX1_openPublished_82 rfl rfl ?_
            refine R_iload (pc := 83) dX1_openPublished_83 rfl ?_
            refine R_aload_n (pc := 85) dX1_openPublished_85 rfl rfl ?_
            refine g_X1_48 (pc := 86) (v := .ref 1) rfl dX1_openPublished_86 (c_58 _) rfl ?_
            refine g_X1_107 (pc := 89) (v := .ref 3) rfl dX1_openPublished_89 (c_1 _) rfl ?_
            refine R_iload_n (pc := 92) dX1_openPublished_92 rfl rfl ?_
            have hx50 : vp_in c 20 := (vp_of_inR hc (by decide))
            refine R_iaload (pc := 93) dX1_openPublished_93 (c_3 _) hx50 ?_
            refine R_aload_n (pc := 94) dX1_openPublished_94 rfl rfl ?_
            refine g_X1_48 (pc := 95) (v := .ref 1) rfl dX1_openPublished_95 (c_58 _) rfl ?_
            refine g_X1_110 (pc := 98) (v := .ref 4) rfl dX1_openPublished_98 (c_1 _) rfl ?_
            refine R_iload_n (pc := 101) dX1_openPublished_101 rfl rfl ?_
            have hx51 : vp_in c 20 := (vp_of_inR hc (by decide))
            refine R_iaload (pc := 102) dX1_openPublished_102 (c_4 _) hx51 ?_
            refine k_X1_113 (pc := 103) (gx_X4_isFor_133 _ _ _ _ hI63 hrg63) rfl (c_133 _) (by decide) (Nat.le_refl _) (Nat.le_refl _) (Nat.le_of_ble_eq_true rfl) dX1_openPublished_103 (fun x w2 h => ?_)
            rcases h with ⟨rfl, rfl | rfl⟩
            · skip
              refine R_ifeq (pc := 106) 139 dX1_openPublished_106 (by decide) (fun h => absurd h (by decide)) (fun _ => ?_)
              refine R_aload_n (pc := 109) dX1_openPublished_109 rfl rfl ?_
              refine g_X1_42 (pc := 110) (v := .ref 89) rfl dX1_openPublished_110 (c_58 _) rfl ?_
              refine R_iload_n (pc := 113) dX1_openPublished_113 rfl rfl ?_
              refine R_aload_n (pc := 114) dX1_openPublished_114 rfl rfl ?_
              refine g_X1_117 (pc := 115) (v := .ref 138) rfl dX1_openPublished_115 (c_133 _) rfl ?_
              refine R_iload (pc := 118) dX1_openPublished_118 rfl ?_
              have hx54 : vp_in (nI j63) 8 := (vp_in_nI (by omega) (by decide))
              refine R_iaload (pc := 120) dX1_openPublished_120 (c_138 _) hx54 ?_
              refine k_X1_120 (pc := 121) (gx_X7_notBefore_89 _ _ _ hI63 hc) rfl (c_89 _) (by decide) (Nat.le_refl _) (Nat.le_refl _) (Nat.le_of_ble_eq_true rfl) dX1_openPublished_121 (fun w2 h => ?_)
              obtain ⟨σx57, rfl, hV56, hW58⟩ := h
              have hW59 := Cor.trans hC63 hW58
              refine R_aload_n (pc := 124) dX1_openPublished_124 rfl rfl ?_
              refine g_X1_42 (pc := 125) (v := .ref 89) rfl dX1_openPublished_125 (c_58 _) rfl ?_
              refine R_iload_n (pc := 128) dX1_openPublished_128 rfl rfl ?_
              refine R_aload_n (pc := 129) dX1_openPublished_129 rfl rfl ?_
              refine g_X1_123 (pc := 130) (v := .ref 139) rfl dX1_openPublished_130 (c_133 _) rfl ?_
              refine R_iload (pc := 133) dX1_openPublished_133 rfl ?_
              have hx60 : vp_in (nI j63) 8 := (vp_in_nI (by omega) (by decide))
              refine R_iaload (pc := 135) dX1_openPublished_135 (c_139 _) hx60 ?_
              refine k_X1_93 (pc := 136) (gx_X7_notBehind_89 _ _ _ hV56 hc) rfl (c_89 _) (by decide) (Nat.le_refl _) (Nat.le_refl _) (Nat.le_of_ble_eq_true rfl) dX1_openPublished_136 (fun w2 h => ?_)
              obtain ⟨σx63, rfl, hV62, hW64⟩ := h
              have hW65 := Cor.trans hW59 hW64
              refine inc_5_4_1_i (pc := 139) dX1_openPublished_139 ?_
              have r66 : inR ((nI j63) + 1) 1 8 := inR_add (show inR (nI j63) 0 7 from hrg63) (show inR 1 1 1 from (inR_self _)) (by decide) (by decide)
              have e67 := ti_add (l := 1) (h := 8) (show inR (nI j63) 0 7 from hrg63) (show inR 1 1 1 from (inR_self _)) (by decide) (by decide)
              refine R_goto (pc := 142) 63 dX1_openPublished_142 (by decide) ?_
              rw [nI_1]
              exact ih63 (j63 + 1) _ (by omega) (by omega) hV62 hW65
            · skip
              refine R_ifeq (pc := 106) 139 dX1_openPublished_106 (by decide) (fun _ => ?_) (fun h => absurd (by decide) h)
              refine inc_5_4_1_i (pc := 139) dX1_openPublished_139 ?_
              have r69 : inR ((nI j63) + 1) 1 8 := inR_add (show inR (nI j63) 0 7 from hrg63) (show inR 1 1 1 from (inR_self _)) (by decide) (by decide)
              have e70 := ti_add (l := 1) (h := 8) (show inR (nI j63) 0 7 from hrg63) (show inR 1 1 1 from (inR_self _)) (by decide) (by decide)
              refine R_goto (pc := 142) 63 dX1_openPublished_142 (by decide) ?_
              rw [nI_1]
              exact ih63 (j63 + 1) _ (by omega) (by omega) hI63 hC63
    exact HL63 8 0 _ (by omega) (by omega) hV40 hW43
theorem dX1_narrowByFeatures_0 : decode cX1_narrowByFeatures 0 = .ok (.aload_n 0, 1) := by decide +kernel
theorem dX1_narrowByFeatures_1 : decode cX1_narrowByFeatures 1 = .ok (.getfield 45, 3) := by decide +kernel
theorem dX1_narrowByFeatures_4 : decode cX1_narrowByFeatures 4 = .ok (.iload_n 1, 1) := by decide +kernel
theorem dX1_narrowByFeatures_5 : decode cX1_narrowByFeatures 5 = .ok (.iaload, 1) := by decide +kernel
theorem dX1_narrowByFeatures_6 : decode cX1_narrowByFeatures 6 = .ok (.istore_n 2, 1) := by decide +kernel
theorem dX1_narrowByFeatures_7 : decode cX1_narrowByFeatures 7 = .ok (.iconst 0, 1) := by decide +kernel
theorem dX1_narrowByFeatures_8 : decode cX1_narrowByFeatures 8 = .ok (.istore_n 3, 1) := by decide +kernel
theorem dX1_narrowByFeatures_9 : decode cX1_narrowByFeatures 9 = .ok (.iload_n 3, 1) := by decide +kernel
theorem dX1_narrowByFeatures_10 : decode cX1_narrowByFeatures 10 = .ok (.bipush 8, 2) := by decide +kernel
theorem dX1_narrowByFeatures_12 : decode cX1_narrowByFeatures 12 = .ok (.if_icmp .ge 133, 3) := by decide +kernel
theorem dX1_narrowByFeatures_15 : decode cX1_narrowByFeatures 15 = .ok (.aload_n 0, 1) := by decide +kernel
theorem dX1_narrowByFeatures_16 : decode cX1_narrowByFeatures 16 = .ok (.getfield 9, 3) := by decide +kernel
theorem dX1_narrowByFeatures_19 : decode cX1_narrowByFeatures 19 = .ok (.iload_n 3, 1) := by decide +kernel
theorem dX1_narrowByFeatures_20 : decode cX1_narrowByFeatures 20 = .ok (.iaload, 1) := by decide +kernel
theorem dX1_narrowByFeatures_21 : decode cX1_narrowByFeatures 21 = .ok (.istore 4, 2) := by decide +kernel
theorem dX1_narrowByFeatures_23 : decode cX1_narrowByFeatures 23 = .ok (.aload_n 0, 1) := by decide +kernel
theorem dX1_narrowByFeatures_24 : decode cX1_narrowByFeatures 24 = .ok (.getfield 15, 3) := by decide +kernel
theorem dX1_narrowByFeatures_27 : decode cX1_narrowByFeatures 27 = .ok (.iload_n 3, 1) := by decide +kernel
theorem dX1_narrowByFeatures_28 : decode cX1_narrowByFeatures 28 = .ok (.iaload, 1) := by decide +kernel
theorem dX1_narrowByFeatures_29 : decode cX1_narrowByFeatures 29 = .ok (.istore 5, 2) := by decide +kernel
theorem dX1_narrowByFeatures_31 : decode cX1_narrowByFeatures 31 = .ok (.aload_n 0, 1) := by decide +kernel
theorem dX1_narrowByFeatures_32 : decode cX1_narrowByFeatures 32 = .ok (.getfield 26, 3) := by decide +kernel
theorem dX1_narrowByFeatures_35 : decode cX1_narrowByFeatures 35 = .ok (.iload_n 1, 1) := by decide +kernel
theorem dX1_narrowByFeatures_36 : decode cX1_narrowByFeatures 36 = .ok (.aaload, 1) := by decide +kernel
theorem dX1_narrowByFeatures_37 : decode cX1_narrowByFeatures 37 = .ok (.iload_n 3, 1) := by decide +kernel
theorem dX1_narrowByFeatures_38 : decode cX1_narrowByFeatures 38 = .ok (.iaload, 1) := by decide +kernel
theorem dX1_narrowByFeatures_39 : decode cX1_narrowByFeatures 39 = .ok (.iconst 1, 1) := by decide +kernel
theorem dX1_narrowByFeatures_40 : decode cX1_narrowByFeatures 40 = .ok (.if_icmp .ne 26, 3) := by decide +kernel
theorem dX1_narrowByFeatures_43 : decode cX1_narrowByFeatures 43 = .ok (.aload_n 0, 1) := by decide +kernel
theorem dX1_narrowByFeatures_44 : decode cX1_narrowByFeatures 44 = .ok (.getfield 38, 3) := by decide +kernel
theorem dX1_narrowByFeatures_47 : decode cX1_narrowByFeatures 47 = .ok (.iload_n 2, 1) := by decide +kernel
theorem dX1_narrowByFeatures_48 : decode cX1_narrowByFeatures 48 = .ok (.iload 4, 2) := by decide +kernel
theorem dX1_narrowByFeatures_50 : decode cX1_narrowByFeatures 50 = .ok (.invokevirtual 120, 3) := by decide +kernel
theorem dX1_narrowByFeatures_53 : decode cX1_narrowByFeatures 53 = .ok (.aload_n 0, 1) := by decide +kernel
theorem dX1_narrowByFeatures_54 : decode cX1_narrowByFeatures 54 = .ok (.getfield 38, 3) := by decide +kernel
theorem dX1_narrowByFeatures_57 : decode cX1_narrowByFeatures 57 = .ok (.iload_n 2, 1) := by decide +kernel
theorem dX1_narrowByFeatures_58 : decode cX1_narrowByFeatures 58 = .ok (.iload 5, 2) := by decide +kernel
theorem dX1_narrowByFeatures_60 : decode cX1_narrowByFeatures 60 = .ok (.invokevirtual 93, 3) := by decide +kernel
theorem dX1_narrowByFeatures_63 : decode cX1_narrowByFeatures 63 = .ok (.goto 76, 3) := by decide +kernel
theorem dX1_narrowByFeatures_66 : decode cX1_narrowByFeatures 66 = .ok (.aload_n 0, 1) := by decide +kernel
theorem dX1_narrowByFeatures_67 : decode cX1_narrowByFeatures 67 = .ok (.getfield 26, 3) := by decide +kernel
theorem dX1_narrowByFeatures_70 : decode cX1_narrowByFeatures 70 = .ok (.iload_n 1, 1) := by decide +kernel
theorem dX1_narrowByFeatures_71 : decode cX1_narrowByFeatures 71 = .ok (.aaload, 1) := by decide +kernel
theorem dX1_narrowByFeatures_72 : decode cX1_narrowByFeatures 72 = .ok (.iload_n 3, 1) := by decide +kernel
theorem dX1_narrowByFeatures_73 : decode cX1_narrowByFeatures 73 = .ok (.iaload, 1) := by decide +kernel
theorem dX1_narrowByFeatures_74 : decode cX1_narrowByFeatures 74 = .ok (.ifCond .ne 65, 3) := by decide +kernel
theorem dX1_narrowByFeatures_77 : decode cX1_narrowByFeatures 77 = .ok (.aload_n 0, 1) := by decide +kernel
theorem dX1_narrowByFeatures_78 : decode cX1_narrowByFeatures 78 = .ok (.getfield 38, 3) := by decide +kernel
theorem dX1_narrowByFeatures_81 : decode cX1_narrowByFeatures 81 = .ok (.getfield 133, 3) := by decide +kernel
theorem dX1_narrowByFeatures_84 : decode cX1_narrowByFeatures 84 = .ok (.iload_n 2, 1) := by decide +kernel
theorem dX1_narrowByFeatures_85 : decode cX1_narrowByFeatures 85 = .ok (.iaload, 1) := by decide +kernel
theorem dX1_narrowByFeatures_86 : decode cX1_narrowByFeatures 86 = .ok (.iload 4, 2) := by decide +kernel
theorem dX1_narrowByFeatures_88 : decode cX1_narrowByFeatures 88 = .ok (.iload 5, 2) := by decide +kernel
theorem dX1_narrowByFeatures_90 : decode cX1_narrowByFeatures 90 = .ok (.invokestatic 142, 3) := by decide +kernel
theorem dX1_narrowByFeatures_93 : decode cX1_narrowByFeatures 93 = .ok (.ifCond .eq 15, 3) := by decide +kernel
theorem dX1_narrowByFeatures_96 : decode cX1_narrowByFeatures 96 = .ok (.aload_n 0, 1) := by decide +kernel
theorem dX1_narrowByFeatures_97 : decode cX1_narrowByFeatures 97 = .ok (.getfield 38, 3) := by decide +kernel
theorem dX1_narrowByFeatures_100 : decode cX1_narrowByFeatures 100 = .ok (.iload_n 2, 1) := by decide +kernel
theorem dX1_narrowByFeatures_101 : decode cX1_narrowByFeatures 101 = .ok (.iload 5, 2) := by decide +kernel
theorem dX1_narrowByFeatures_103 : decode cX1_narrowByFeatures 103 = .ok (.iconst 1, 1) := by decide +kernel
theorem dX1_narrowByFeatures_104 : decode cX1_narrowByFeatures 104 = .ok (.iadd, 1) := by decide +kernel
theorem dX1_narrowByFeatures_105 : decode cX1_narrowByFeatures 105 = .ok (.invokevirtual 120, 3) := by decide +kernel
theorem dX1_narrowByFeatures_108 : decode cX1_narrowByFeatures 108 = .ok (.aload_n 0, 1) := by decide +kernel
theorem dX1_narrowByFeatures_109 : decode cX1_narrowByFeatures 109 = .ok (.getfield 38, 3) := by decide +kernel
theorem dX1_narrowByFeatures_112 : decode cX1_narrowByFeatures 112 = .ok (.getfield 136, 3) := by decide +kernel
theorem dX1_narrowByFeatures_115 : decode cX1_narrowByFeatures 115 = .ok (.iload_n 2, 1) := by decide +kernel
theorem dX1_narrowByFeatures_116 : decode cX1_narrowByFeatures 116 = .ok (.iaload, 1) := by decide +kernel
theorem dX1_narrowByFeatures_117 : decode cX1_narrowByFeatures 117 = .ok (.iload 4, 2) := by decide +kernel
theorem dX1_narrowByFeatures_119 : decode cX1_narrowByFeatures 119 = .ok (.iload 5, 2) := by decide +kernel
theorem dX1_narrowByFeatures_121 : decode cX1_narrowByFeatures 121 = .ok (.invokestatic 142, 3) := by decide +kernel
theorem dX1_narrowByFeatures_124 : decode cX1_narrowByFeatures 124 = .ok (.ifCond .eq 15, 3) := by decide +kernel
theorem dX1_narrowByFeatures_127 : decode cX1_narrowByFeatures 127 = .ok (.aload_n 0, 1) := by decide +kernel
theorem dX1_narrowByFeatures_128 : decode cX1_narrowByFeatures 128 = .ok (.getfield 38, 3) := by decide +kernel
theorem dX1_narrowByFeatures_131 : decode cX1_narrowByFeatures 131 = .ok (.iload_n 2, 1) := by decide +kernel
theorem dX1_narrowByFeatures_132 : decode cX1_narrowByFeatures 132 = .ok (.iload 4, 2) := by decide +kernel
theorem dX1_narrowByFeatures_134 : decode cX1_narrowByFeatures 134 = .ok (.iconst 1, 1) := by decide +kernel
theorem dX1_narrowByFeatures_135 : decode cX1_narrowByFeatures 135 = .ok (.isub, 1) := by decide +kernel
theorem dX1_narrowByFeatures_136 : decode cX1_narrowByFeatures 136 = .ok (.invokevirtual 93, 3) := by decide +kernel
theorem dX1_narrowByFeatures_139 : decode cX1_narrowByFeatures 139 = .ok (.iinc 3 1, 3) := by decide +kernel
theorem dX1_narrowByFeatures_142 : decode cX1_narrowByFeatures 142 = .ok (.goto (-133), 3) := by decide +kernel
theorem dX1_narrowByFeatures_145 : decode cX1_narrowByFeatures 145 = .ok (.return_, 1) := by decide +kernel
set_option maxRecDepth 100000 in
set_option maxHeartbeats 40000000 in
theorem gx_X1_narrowByFeatures {G : vG} {l : Launch} (σ : Sg) (c : Int32) (hI : Inv σ) (hc : inR c 0 19) : Sp G l yX1_narrowByFeatures cX1_narrowByFeatures 6 none 1 0 0 [.ref 58, .int c] (WW σ) (QV (fun w2 => ∃ σ2, w2 = WW σ2 ∧ Inv σ2 ∧ Cor σ σ2)) := by
  refine Sp_of_R [(some (.ref 58)), (some (.int c)), none, none, none, none] [none, none, none, none] rfl (by simp) rfl (Nat.le_of_ble_eq_true rfl) ?_
  refine R_aload_n (pc := 0) dX1_narrowByFeatures_0 rfl rfl ?_
  refine g_X1_45 (pc := 1) (v := .ref 92) rfl dX1_narrowByFeatures_1 (c_58 _) rfl ?_
  refine R_iload_n (pc := 4) dX1_narrowByFeatures_4 rfl rfl ?_
  have hx1 : vp_in c 20 := (vp_of_inR hc (by decide))
  refine R_iaload (pc := 5) dX1_narrowByFeatures_5 (c_92 _) hx1 ?_
  refine st_6_2_i_i (pc := 6) dX1_narrowByFeatures_6 ?_
  refine R_iconst (pc := 7) (v := 0) dX1_narrowByFeatures_7 (by decide) ?_
  refine st_6_3_i_i (pc := 8) dX1_narrowByFeatures_8 ?_
  have HL9 : ∀ (q j9 : Nat) (σ9 : Sg) (g4_9 : Option Value) (g5_9 : Option Value), j9 + q = 8 → 0 ≤ j9 → Inv σ9 → Cor σ σ9 → R G l yX1_narrowByFeatures cX1_narrowByFeatures 6 none 1 0 0 (QV (fun w2 => ∃ σ2, w2 = WW σ2 ∧ Inv σ2 ∧ Cor σ σ2)) 9 [(some (.ref 58)), (some (.int c)), (some (.int (σ.2.2.1 92 (Int32.toNatClampNeg c)))), (some (.int (nI j9))), g4_9, g5_9] [] (WW σ9) 0 0 := by
    intro q
    induction q with
    | zero =>
      intro j9 σ9 g4_9 g5_9 hj hs9 hI9 hC9
      obtain rfl : j9 = 8 := by omega
      refine R_iload_n (pc := 9) dX1_narrowByFeatures_9 rfl rfl ?_
      refine R_bipush (pc := 10) (v := 8) dX1_narrowByFeatures_10 (by decide) ?_
      refine R_icge (pc := 12) 145 dX1_narrowByFeatures_12 (by decide) (fun _ => ?_) (fun h => absurd (by decide) h)
      exact R_vret (pc := 145) dX1_narrowByFeatures_145 rfl (Nat.zero_le _) (Nat.zero_le _) ⟨rfl, _, rfl, hI9, hC9⟩
    | succ q ih9 =>
      intro j9 σ9 g4_9 g5_9 hj hs9 hI9 hC9
      have hrg9 : inR (nI j9) 0 7 := inR_ix hs9 (show j9 < 8 by omega) (by decide) (by decide) (by decide)
      have hlt9 : j9 < 8 := by omega
      refine R_iload_n (pc := 9) dX1_narrowByFeatures_9 rfl rfl ?_
      refine R_bipush (pc := 10) (v := 8) dX1_narrowByFeatures_10 (by decide) ?_
      refine R_icge (pc := 12) 145 dX1_narrowByFeatures_12 (by decide) (fun h => False.elim (by have q1 := ti_le h; have q2 := ti_in (show inR (nI j9) 0 7 from hrg9); have q3 := ti_in (show inR 8 8 8 from (inR_self _)); have z0 : (0 : Int32).toInt = 0 := (by decide);  have z1 : (7 : Int32).toInt = 7 := (by decide);  have z2 : (8 : Int32).toInt = 8 := (by decide); omega)) (fun _ => ?_)
      refine R_aload_n (pc := 15) dX1_narrowByFeatures_15 rfl rfl ?_
      refine g_X1_9 (pc := 16) (v := .ref 59) rfl dX1_narrowByFeatures_16 (c_58 _) rfl ?_
      refine R_iload_n (pc := 19) dX1_narrowByFeatures_19 rfl rfl ?_
      have hx4 : vp_in (nI j9) 8 := (vp_in_nI (by omega) (by decide))
      refine R_iaload (pc := 20) dX1_narrowByFeatures_20 (c_59 _) hx4 ?_
      refine st_6_4_i_i (pc := 21) dX1_narrowByFeatures_21 ?_
      refine R_aload_n (pc := 23) dX1_narrowByFeatures_23 rfl rfl ?_
      refine g_X1_15 (pc := 24) (v := .ref 60) rfl dX1_narrowByFeatures_24 (c_58 _) rfl ?_
      refine R_iload_n (pc := 27) dX1_narrowByFeatures_27 rfl rfl ?_
      have hx5 : vp_in (nI j9) 8 := (vp_in_nI (by omega) (by decide))
      refine R_iaload (pc := 28) dX1_narrowByFeatures_28 (c_60 _) hx5 ?_
      refine st_6_5_i_i (pc := 29) dX1_narrowByFeatures_29 ?_
      refine R_aload_n (pc := 31) dX1_narrowByFeatures_31 rfl rfl ?_
      refine g_X1_26 (pc := 32) (v := .ref 63) rfl dX1_narrowByFeatures_32 (c_58 _) rfl ?_
      refine R_iload_n (pc := 35) dX1_narrowByFeatures_35 rfl rfl ?_
      have hx6 : vp_in c 20 := (vp_of_inR hc (by decide))
      refine R_aaload (pc := 36) (b := 64 + (Int32.toNatClampNeg c)) dX1_narrowByFeatures_36 (c_63 _) hx6 (if_pos (lt_of_vp hx6)) ?_
      refine R_iload_n (pc := 37) dX1_narrowByFeatures_37 rfl rfl ?_
      have hx7 : vp_in (nI j9) 8 := (vp_in_nI (by omega) (by decide))
      refine R_iaload (pc := 38) dX1_narrowByFeatures_38 (r_63 _ _ (lt_of_vp hx6)) hx7 ?_
      refine R_iconst (pc := 39) (v := 1) dX1_narrowByFeatures_39 (by decide) ?_
      refine R_icne (pc := 40) 66 dX1_narrowByFeatures_40 (by decide) (fun b40_8 => ?_) (fun b40_8 => ?_)
      · skip
        refine R_aload_n (pc := 66) dX1_narrowByFeatures_66 rfl rfl ?_
        refine g_X1_26 (pc := 67) (v := .ref 63) rfl dX1_narrowByFeatures_67 (c_58 _) rfl ?_
        refine R_iload_n (pc := 70) dX1_narrowByFeatures_70 rfl rfl ?_
        have hx9 : vp_in c 20 := (vp_of_inR hc (by decide))
        refine R_aaload (pc := 71) (b := 64 + (Int32.toNatClampNeg c)) dX1_narrowByFeatures_71 (c_63 _) hx9 (if_pos (lt_of_vp hx9)) ?_
        refine R_iload_n (pc := 72) dX1_narrowByFeatures_72 rfl rfl ?_
        have hx10 : vp_in (nI j9) 8 := (vp_in_nI (by omega) (by decide))
        refine R_iaload (pc := 73) dX1_narrowByFeatures_73 (r_63 _ _ (lt_of_vp hx9)) hx10 ?_
        refine R_ifne (pc := 74) 139 dX1_narrowByFeatures_74 (by decide) (fun b74_11 => ?_) (fun b74_11 => ?_)
        · skip
          refine inc_6_3_1_i (pc := 139) dX1_narrowByFeatures_139 ?_
          have r12 : inR ((nI j9) + 1) 1 8 := inR_add (show inR (nI j9) 0 7 from hrg9) (show inR 1 1 1 from (inR_self _)) (by decide) (by decide)
          have e13 := ti_add (l := 1) (h := 8) (show inR (nI j9) 0 7 from hrg9) (show inR 1 1 1 from (inR_self _)) (by decide) (by decide)
          refine R_goto (pc := 142) 9 dX1_narrowByFeatures_142 (by decide) ?_
          rw [nI_1]
          exact ih9 (j9 + 1) _ _ _ (by omega) (by omega) hI9 hC9
        · skip
          refine R_aload_n (pc := 77) dX1_narrowByFeatures_77 rfl rfl ?_
          refine g_X1_38 (pc := 78) (v := .ref 86) rfl dX1_narrowByFeatures_78 (c_58 _) rfl ?_
          refine g_X1_133 (pc := 81) (v := .ref 87) rfl dX1_narrowByFeatures_81 (c_86 _) rfl ?_
          refine R_iload_n (pc := 84) dX1_narrowByFeatures_84 rfl rfl ?_
          have hx14 : vp_in (σ.2.2.1 92 (Int32.toNatClampNeg c)) 20 := (vp_of_inR (iva_92 hI _ (lt_of_vp hx1)) (by decide))
          refine R_iaload (pc := 85) dX1_narrowByFeatures_85 (c_87 _) hx14 ?_
          refine R_iload (pc := 86) dX1_narrowByFeatures_86 rfl ?_
          refine R_iload (pc := 88) dX1_narrowByFeatures_88 rfl ?_
          refine k_X1_142 (pc := 90) (sp_X8_isWithin _ _ _ _) rfl (by decide) (Nat.le_refl _) (Nat.le_refl _) (Nat.le_of_ble_eq_true rfl) dX1_narrowByFeatures_90 (fun x w2 h => ?_)
          rcases h with ⟨rfl, ⟨h15, rfl⟩ | ⟨h15, rfl⟩⟩
          · skip
            refine R_ifeq (pc := 93) 108 dX1_narrowByFeatures_93 (by decide) (fun h => absurd h (by decide)) (fun _ => ?_)
            refine R_aload_n (pc := 96) dX1_narrowByFeatures_96 rfl rfl ?_
            refine g_X1_38 (pc := 97) (v := .ref 86) rfl dX1_narrowByFeatures_97 (c_58 _) rfl ?_
            refine R_iload_n (pc := 100) dX1_narrowByFeatures_100 rfl rfl ?_
            refine R_iload (pc := 101) dX1_narrowByFeatures_101 rfl ?_
            refine R_iconst (pc := 103) (v := 1) dX1_narrowByFeatures_103 (by decide) ?_
            refine R_iadd (pc := 104) dX1_narrowByFeatures_104 ?_
            refine k_X1_120 (pc := 105) (gx_X7_notBefore_86 _ _ _ hI9 (iva_92 hI _ (lt_of_vp hx1))) rfl (c_86 _) (by decide) (Nat.le_refl _) (Nat.le_refl _) (Nat.le_of_ble_eq_true rfl) dX1_narrowByFeatures_105 (fun w2 h => ?_)
            obtain ⟨σx19, rfl, hV18, hW20⟩ := h
            have hW21 := Cor.trans hC9 hW20
            refine R_aload_n (pc := 108) dX1_narrowByFeatures_108 rfl rfl ?_
            refine g_X1_38 (pc := 109) (v := .ref 86) rfl dX1_narrowByFeatures_109 (c_58 _) rfl ?_
            refine g_X1_136 (pc := 112) (v := .ref 88) rfl dX1_narrowByFeatures_112 (c_86 _) rfl ?_
            refine R_iload_n (pc := 115) dX1_narrowByFeatures_115 rfl rfl ?_
            have hx22 : vp_in (σ.2.2.1 92 (Int32.toNatClampNeg c)) 20 := (vp_of_inR (iva_92 hI _ (lt_of_vp hx1)) (by decide))
            refine R_iaload (pc := 116) dX1_narrowByFeatures_116 (c_88 _) hx22 ?_
            refine R_iload (pc := 117) dX1_narrowByFeatures_117 rfl ?_
            refine R_iload (pc := 119) dX1_narrowByFeatures_119 rfl ?_
            refine k_X1_142 (pc := 121) (sp_X8_isWithin _ _ _ _) rfl (by decide) (Nat.le_refl _) (Nat.le_refl _) (Nat.le_of_ble_eq_true rfl) dX1_narrowByFeatures_121 (fun x w2 h => ?_)
            rcases h with ⟨rfl, ⟨h23, rfl⟩ | ⟨h23, rfl⟩⟩
            · skip
              refine R_ifeq (pc := 124) 139 dX1_narrowByFeatures_124 (by decide) (fun h => absurd h (by decide)) (fun _ => ?_)
              refine R_aload_n (pc := 127) dX1_narrowByFeatures_127 rfl rfl ?_
              refine g_X1_38 (pc := 128) (v := .ref 86) rfl dX1_narrowByFeatures_128 (c_58 _) rfl ?_
              refine R_iload_n (pc := 131) dX1_narrowByFeatures_131 rfl rfl ?_
              refine R_iload (pc := 132) dX1_narrowByFeatures_132 rfl ?_
              refine R_iconst (pc := 134) (v := 1) dX1_narrowByFeatures_134 (by decide) ?_
              refine R_isub (pc := 135) dX1_narrowByFeatures_135 ?_
              refine k_X1_93 (pc := 136) (gx_X7_notBehind_86 _ _ _ hV18 (iva_92 hI _ (lt_of_vp hx1))) rfl (c_86 _) (by decide) (Nat.le_refl _) (Nat.le_refl _) (Nat.le_of_ble_eq_true rfl) dX1_narrowByFeatures_136 (fun w2 h => ?_)
              obtain ⟨σx27, rfl, hV26, hW28⟩ := h
              have hW29 := Cor.trans hW21 hW28
              refine inc_6_3_1_i (pc := 139) dX1_narrowByFeatures_139 ?_
              have r30 : inR ((nI j9) + 1) 1 8 := inR_add (show inR (nI j9) 0 7 from hrg9) (show inR 1 1 1 from (inR_self _)) (by decide) (by decide)
              have e31 := ti_add (l := 1) (h := 8) (show inR (nI j9) 0 7 from hrg9) (show inR 1 1 1 from (inR_self _)) (by decide) (by decide)
              refine R_goto (pc := 142) 9 dX1_narrowByFeatures_142 (by decide) ?_
              rw [nI_1]
              exact ih9 (j9 + 1) _ _ _ (by omega) (by omega) hV26 hW29
            · skip
              refine R_ifeq (pc := 124) 139 dX1_narrowByFeatures_124 (by decide) (fun _ => ?_) (fun h => absurd (by decide) h)
              refine inc_6_3_1_i (pc := 139) dX1_narrowByFeatures_139 ?_
              have r33 : inR ((nI j9) + 1) 1 8 := inR_add (show inR (nI j9) 0 7 from hrg9) (show inR 1 1 1 from (inR_self _)) (by decide) (by decide)
              have e34 := ti_add (l := 1) (h := 8) (show inR (nI j9) 0 7 from hrg9) (show inR 1 1 1 from (inR_self _)) (by decide) (by decide)
              refine R_goto (pc := 142) 9 dX1_narrowByFeatures_142 (by decide) ?_
              rw [nI_1]
              exact ih9 (j9 + 1) _ _ _ (by omega) (by omega) hV18 hW21
          · skip
            refine R_ifeq (pc := 93) 108 dX1_narrowByFeatures_93 (by decide) (fun _ => ?_) (fun h => absurd (by decide) h)
            refine R_aload_n (pc := 108) dX1_narrowByFeatures_108 rfl rfl ?_
            refine g_X1_38 (pc := 109) (v := .ref 86) rfl dX1_narrowByFeatures_109 (c_58 _) rfl ?_
            refine g_X1_136 (pc := 112) (v := .ref 88) rfl dX1_narrowByFeatures_112 (c_86 _) rfl ?_
            refine R_iload_n (pc := 115) dX1_narrowByFeatures_115 rfl rfl ?_
            have hx36 : vp_in (σ.2.2.1 92 (Int32.toNatClampNeg c)) 20 := (vp_of_inR (iva_92 hI _ (lt_of_vp hx1)) (by decide))
            refine R_iaload (pc := 116) dX1_narrowByFeatures_116 (c_88 _) hx36 ?_
            refine R_iload (pc := 117) dX1_narrowByFeatures_117 rfl ?_
            refine R_iload (pc := 119) dX1_narrowByFeatures_119 rfl ?_
            refine k_X1_142 (pc := 121) (sp_X8_isWithin _ _ _ _) rfl (by decide) (Nat.le_refl _) (Nat.le_refl _) (Nat.le_of_ble_eq_true rfl) dX1_narrowByFeatures_121 (fun x w2 h => ?_)
            rcases h with ⟨rfl, ⟨h37, rfl⟩ | ⟨h37, rfl⟩⟩
            · skip
              refine R_ifeq (pc := 124) 139 dX1_narrowByFeatures_124 (by decide) (fun h => absurd h (by decide)) (fun _ => ?_)
              refine R_aload_n (pc := 127) dX1_narrowByFeatures_127 rfl rfl ?_
              refine g_X1_38 (pc := 128) (v := .ref 86) rfl dX1_narrowByFeatures_128 (c_58 _) rfl ?_
              refine R_iload_n (pc := 131) dX1_narrowByFeatures_131 rfl rfl ?_
              refine R_iload (pc := 132) dX1_narrowByFeatures_132 rfl ?_
              refine R_iconst (pc := 134) (v := 1) dX1_narrowByFeatures_134 (by decide) ?_
              refine R_isub (pc := 135) dX1_narrowByFeatures_135 ?_
              refine k_X1_93 (pc := 136) (gx_X7_notBehind_86 _ _ _ hI9 (iva_92 hI _ (lt_of_vp hx1))) rfl (c_86 _) (by decide) (Nat.le_refl _) (Nat.le_refl _) (Nat.le_of_ble_eq_true rfl) dX1_narrowByFeatures_136 (fun w2 h => ?_)
              obtain ⟨σx41, rfl, hV40, hW42⟩ := h
              have hW43 := Cor.trans hC9 hW42
              refine inc_6_3_1_i (pc := 139) dX1_narrowByFeatures_139 ?_
              have r44 : inR ((nI j9) + 1) 1 8 := inR_add (show inR (nI j9) 0 7 from hrg9) (show inR 1 1 1 from (inR_self _)) (by decide) (by decide)
              have e45 := ti_add (l := 1) (h := 8) (show inR (nI j9) 0 7 from hrg9) (show inR 1 1 1 from (inR_self _)) (by decide) (by decide)
              refine R_goto (pc := 142) 9 dX1_narrowByFeatures_142 (by decide) ?_
              rw [nI_1]
              exact ih9 (j9 + 1) _ _ _ (by omega) (by omega) hV40 hW43
            · skip
              refine R_ifeq (pc := 124) 139 dX1_narrowByFeatures_124 (by decide) (fun _ => ?_) (fun h => absurd (by decide) h)
              refine inc_6_3_1_i (pc := 139) dX1_narrowByFeatures_139 ?_
              have r47 : inR ((nI j9) + 1) 1 8 := inR_add (show inR (nI j9) 0 7 from hrg9) (show inR 1 1 1 from (inR_self _)) (by decide) (by decide)
              have e48 := ti_add (l := 1) (h := 8) (show inR (nI j9) 0 7 from hrg9) (show inR 1 1 1 from (inR_self _)) (by decide) (by decide)
              refine R_goto (pc := 142) 9 dX1_narrowByFeatures_142 (by decide) ?_
              rw [nI_1]
              exact ih9 (j9 + 1) _ _ _ (by omega) (by omega) hI9 hC9
      · skip
        refine R_aload_n (pc := 43) dX1_narrowByFeatures_43 rfl rfl ?_
        refine g_X1_38 (pc := 44) (v := .ref 86) rfl dX1_narrowByFeatures_44 (c_58 _) rfl ?_
        refine R_iload_n (pc := 47) dX1_narrowByFeatures_47 rfl rfl ?_
        refine R_iload (pc := 48) dX1_narrowByFeatures_48 rfl ?_
        refine k_X1_120 (pc := 50) (gx_X7_notBefore_86 _ _ _ hI9 (iva_92 hI _ (lt_of_vp hx1))) rfl (c_86 _) (by decide) (Nat.le_refl _) (Nat.le_refl _) (Nat.le_of_ble_eq_true rfl) dX1_narrowByFeatures_50 (fun w2 h => ?_)
        obtain ⟨σx51, rfl, hV50, hW52⟩ := h
        have hW53 := Cor.trans hC9 hW52
        refine R_aload_n (pc := 53) dX1_narrowByFeatures_53 rfl rfl ?_
        refine g_X1_38 (pc := 54) (v := .ref 86) rfl dX1_narrowByFeatures_54 (c_58 _) rfl ?_
        refine R_iload_n (pc := 57) dX1_narrowByFeatures_57 rfl rfl ?_
        refine R_iload (pc := 58) dX1_narrowByFeatures_58 rfl ?_
        refine k_X1_93 (pc := 60) (gx_X7_notBehind_86 _ _ _ hV50 (iva_92 hI _ (lt_of_vp hx1))) rfl (c_86 _) (by decide) (Nat.le_refl _) (Nat.le_refl _) (Nat.le_of_ble_eq_true rfl) dX1_narrowByFeatures_60 (fun w2 h => ?_)
        obtain ⟨σx56, rfl, hV55, hW57⟩ := h
        have hW58 := Cor.trans hW53 hW57
        refine R_goto (pc := 63) 139 dX1_narrowByFeatures_63 (by decide) ?_
        refine inc_6_3_1_i (pc := 139) dX1_narrowByFeatures_139 ?_
        have r59 : inR ((nI j9) + 1) 1 8 := inR_add (show inR (nI j9) 0 7 from hrg9) (show inR 1 1 1 from (inR_self _)) (by decide) (by decide)
        have e60 := ti_add (l := 1) (h := 8) (show inR (nI j9) 0 7 from hrg9) (show inR 1 1 1 from (inR_self _)) (by decide) (by decide)
        refine R_goto (pc := 142) 9 dX1_narrowByFeatures_142 (by decide) ?_
        rw [nI_1]
        exact ih9 (j9 + 1) _ _ _ (by omega) (by omega) hV55 hW58
  exact HL9 8 0 _ _ _ (by omega) (by omega) hI (show Cor σ σ from Cor.rfl' σ)
theorem dX1_narrow_0 : decode cX1_narrow 0 = .ok (.aload_n 0, 1) := by decide +kernel
theorem dX1_narrow_1 : decode cX1_narrow 1 = .ok (.getfield 38, 3) := by decide +kernel
theorem dX1_narrow_4 : decode cX1_narrow 4 = .ok (.iconst 0, 1) := by decide +kernel
theorem dX1_narrow_5 : decode cX1_narrow 5 = .ok (.putfield 126, 3) := by decide +kernel
theorem dX1_narrow_8 : decode cX1_narrow 8 = .ok (.aload_n 0, 1) := by decide +kernel
theorem dX1_narrow_9 : decode cX1_narrow 9 = .ok (.getfield 42, 3) := by decide +kernel
theorem dX1_narrow_12 : decode cX1_narrow 12 = .ok (.iconst 0, 1) := by decide +kernel
theorem dX1_narrow_13 : decode cX1_narrow 13 = .ok (.putfield 126, 3) := by decide +kernel
theorem dX1_narrow_16 : decode cX1_narrow 16 = .ok (.iconst 0, 1) := by decide +kernel
theorem dX1_narrow_17 : decode cX1_narrow 17 = .ok (.istore_n 2, 1) := by decide +kernel
theorem dX1_narrow_18 : decode cX1_narrow 18 = .ok (.iload_n 2, 1) := by decide +kernel
theorem dX1_narrow_19 : decode cX1_narrow 19 = .ok (.bipush 20, 2) := by decide +kernel
theorem dX1_narrow_21 : decode cX1_narrow 21 = .ok (.if_icmp .ge 66, 3) := by decide +kernel
theorem dX1_narrow_24 : decode cX1_narrow 24 = .ok (.iload_n 1, 1) := by decide +kernel
theorem dX1_narrow_25 : decode cX1_narrow 25 = .ok (.iload_n 2, 1) := by decide +kernel
theorem dX1_narrow_26 : decode cX1_narrow 26 = .ok (.invokestatic 60, 3) := by decide +kernel
theorem dX1_narrow_29 : decode cX1_narrow 29 = .ok (.ifCond .eq 52, 3) := by decide +kernel
theorem dX1_narrow_32 : decode cX1_narrow 32 = .ok (.aload_n 0, 1) := by decide +kernel
theorem dX1_narrow_33 : decode cX1_narrow 33 = .ok (.iload_n 2, 1) := by decide +kernel
theorem dX1_narrow_34 : decode cX1_narrow 34 = .ok (.invokevirtual 130, 3) := by decide +kernel
theorem dX1_narrow_37 : decode cX1_narrow 37 = .ok (.aload_n 0, 1) := by decide +kernel
theorem dX1_narrow_38 : decode cX1_narrow 38 = .ok (.getfield 42, 3) := by decide +kernel
theorem dX1_narrow_41 : decode cX1_narrow 41 = .ok (.iload_n 2, 1) := by decide +kernel
theorem dX1_narrow_42 : decode cX1_narrow 42 = .ok (.aload_n 0, 1) := by decide +kernel
theorem dX1_narrow_43 : decode cX1_narrow 43 = .ok (.getfield 38, 3) := by decide +kernel
theorem dX1_narrow_46 : decode cX1_narrow 46 = .ok (.getfield 133, 3) := by decide +kernel
theorem dX1_narrow_49 : decode cX1_narrow 49 = .ok (.aload_n 0, 1) := by decide +kernel
theorem dX1_narrow_50 : decode cX1_narrow 50 = .ok (.getfield 45, 3) := by decide +kernel
theorem dX1_narrow_53 : decode cX1_narrow 53 = .ok (.iload_n 2, 1) := by decide +kernel
theorem dX1_narrow_54 : decode cX1_narrow 54 = .ok (.iaload, 1) := by decide +kernel
theorem dX1_narrow_55 : decode cX1_narrow 55 = .ok (.iaload, 1) := by decide +kernel
theorem dX1_narrow_56 : decode cX1_narrow 56 = .ok (.invokevirtual 120, 3) := by decide +kernel
theorem dX1_narrow_59 : decode cX1_narrow 59 = .ok (.aload_n 0, 1) := by decide +kernel
theorem dX1_narrow_60 : decode cX1_narrow 60 = .ok (.getfield 38, 3) := by decide +kernel
theorem dX1_narrow_63 : decode cX1_narrow 63 = .ok (.aload_n 0, 1) := by decide +kernel
theorem dX1_narrow_64 : decode cX1_narrow 64 = .ok (.getfield 45, 3) := by decide +kernel
theorem dX1_narrow_67 : decode cX1_narrow 67 = .ok (.iload_n 2, 1) := by decide +kernel
theorem dX1_narrow_68 : decode cX1_narrow 68 = .ok (.iaload, 1) := by decide +kernel
theorem dX1_narrow_69 : decode cX1_narrow 69 = .ok (.aload_n 0, 1) := by decide +kernel
theorem dX1_narrow_70 : decode cX1_narrow 70 = .ok (.getfield 42, 3) := by decide +kernel
theorem dX1_narrow_73 : decode cX1_narrow 73 = .ok (.getfield 136, 3) := by decide +kernel
theorem dX1_narrow_76 : decode cX1_narrow 76 = .ok (.iload_n 2, 1) := by decide +kernel
theorem dX1_narrow_77 : decode cX1_narrow 77 = .ok (.iaload, 1) := by decide +kernel
theorem dX1_narrow_78 : decode cX1_narrow 78 = .ok (.invokevirtual 93, 3) := by decide +kernel
theorem dX1_narrow_81 : decode cX1_narrow 81 = .ok (.iinc 2 1, 3) := by decide +kernel
theorem dX1_narrow_84 : decode cX1_narrow 84 = .ok (.goto (-66), 3) := by decide +kernel
theorem dX1_narrow_87 : decode cX1_narrow 87 = .ok (.iconst 0, 1) := by decide +kernel
theorem dX1_narrow_88 : decode cX1_narrow 88 = .ok (.istore_n 2, 1) := by decide +kernel
theorem dX1_narrow_89 : decode cX1_narrow 89 = .ok (.iload_n 2, 1) := by decide +kernel
theorem dX1_narrow_90 : decode cX1_narrow 90 = .ok (.aload_n 0, 1) := by decide +kernel
theorem dX1_narrow_91 : decode cX1_narrow 91 = .ok (.getfield 139, 3) := by decide +kernel
theorem dX1_narrow_94 : decode cX1_narrow 94 = .ok (.if_icmp .ge 81, 3) := by decide +kernel
theorem dX1_narrow_97 : decode cX1_narrow 97 = .ok (.aload_n 0, 1) := by decide +kernel
theorem dX1_narrow_98 : decode cX1_narrow 98 = .ok (.getfield 29, 3) := by decide +kernel
theorem dX1_narrow_101 : decode cX1_narrow 101 = .ok (.iload_n 2, 1) := by decide +kernel
theorem dX1_narrow_102 : decode cX1_narrow 102 = .ok (.iaload, 1) := by decide +kernel
theorem dX1_narrow_103 : decode cX1_narrow 103 = .ok (.istore_n 3, 1) := by decide +kernel
theorem dX1_narrow_104 : decode cX1_narrow 104 = .ok (.aload_n 0, 1) := by decide +kernel
theorem dX1_narrow_105 : decode cX1_narrow 105 = .ok (.getfield 32, 3) := by decide +kernel
theorem dX1_narrow_108 : decode cX1_narrow 108 = .ok (.iload_n 2, 1) := by decide +kernel
theorem dX1_narrow_109 : decode cX1_narrow 109 = .ok (.iaload, 1) := by decide +kernel
theorem dX1_narrow_110 : decode cX1_narrow 110 = .ok (.istore 4, 2) := by decide +kernel
theorem dX1_narrow_112 : decode cX1_narrow 112 = .ok (.iload_n 1, 1) := by decide +kernel
theorem dX1_narrow_113 : decode cX1_narrow 113 = .ok (.iload_n 3, 1) := by decide +kernel
theorem dX1_narrow_114 : decode cX1_narrow 114 = .ok (.invokestatic 60, 3) := by decide +kernel
theorem dX1_narrow_117 : decode cX1_narrow 117 = .ok (.ifCond .eq 52, 3) := by decide +kernel
theorem dX1_narrow_120 : decode cX1_narrow 120 = .ok (.iload_n 1, 1) := by decide +kernel
theorem dX1_narrow_121 : decode cX1_narrow 121 = .ok (.iload 4, 2) := by decide +kernel
theorem dX1_narrow_123 : decode cX1_narrow 123 = .ok (.invokestatic 60, 3) := by decide +kernel
theorem dX1_narrow_126 : decode cX1_narrow 126 = .ok (.ifCond .eq 43, 3) := by decide +kernel
theorem dX1_narrow_129 : decode cX1_narrow 129 = .ok (.aload_n 0, 1) := by decide +kernel
theorem dX1_narrow_130 : decode cX1_narrow 130 = .ok (.getfield 42, 3) := by decide +kernel
theorem dX1_narrow_133 : decode cX1_narrow 133 = .ok (.iload_n 3, 1) := by decide +kernel
theorem dX1_narrow_134 : decode cX1_narrow 134 = .ok (.aload_n 0, 1) := by decide +kernel
theorem dX1_narrow_135 : decode cX1_narrow 135 = .ok (.getfield 42, 3) := by decide +kernel
theorem dX1_narrow_138 : decode cX1_narrow 138 = .ok (.getfield 133, 3) := by decide +kernel
theorem dX1_narrow_141 : decode cX1_narrow 141 = .ok (.iload 4, 2) := by decide +kernel
theorem dX1_narrow_143 : decode cX1_narrow 143 = .ok (.iaload, 1) := by decide +kernel
theorem dX1_narrow_144 : decode cX1_narrow 144 = .ok (.iconst 1, 1) := by decide +kernel
theorem dX1_narrow_145 : decode cX1_narrow 145 = .ok (.iadd, 1) := by decide +kernel
theorem dX1_narrow_146 : decode cX1_narrow 146 = .ok (.invokevirtual 120, 3) := by decide +kernel
theorem dX1_narrow_149 : decode cX1_narrow 149 = .ok (.aload_n 0, 1) := by decide +kernel
theorem dX1_narrow_150 : decode cX1_narrow 150 = .ok (.getfield 42, 3) := by decide +kernel
theorem dX1_narrow_153 : decode cX1_narrow 153 = .ok (.iload 4, 2) := by decide +kernel
theorem dX1_narrow_155 : decode cX1_narrow 155 = .ok (.aload_n 0, 1) := by decide +kernel
theorem dX1_narrow_156 : decode cX1_narrow 156 = .ok (.getfield 42, 3) := by decide +kernel
theorem dX1_narrow_159 : decode cX1_narrow 159 = .ok (.getfield 136, 3) := by decide +kernel
theorem dX1_narrow_162 : decode cX1_narrow 162 = .ok (.iload_n 3, 1) := by decide +kernel
theorem dX1_narrow_163 : decode cX1_narrow 163 = .ok (.iaload, 1) := by decide +kernel
theorem dX1_narrow_164 : decode cX1_narrow 164 = .ok (.iconst 1, 1) := by decide +kernel
theorem dX1_narrow_165 : decode cX1_narrow 165 = .ok (.isub, 1) := by decide +kernel
theorem dX1_narrow_166 : decode cX1_narrow 166 = .ok (.invokevirtual 93, 3) := by decide +kernel
theorem dX1_narrow_169 : decode cX1_narrow 169 = .ok (.iinc 2 1, 3) := by decide +kernel
theorem dX1_narrow_172 : decode cX1_narrow 172 = .ok (.goto (-83), 3) := by decide +kernel
theorem dX1_narrow_175 : decode cX1_narrow 175 = .ok (.aload_n 0, 1) := by decide +kernel
theorem dX1_narrow_176 : decode cX1_narrow 176 = .ok (.getfield 38, 3) := by decide +kernel
theorem dX1_narrow_179 : decode cX1_narrow 179 = .ok (.getfield 126, 3) := by decide +kernel
theorem dX1_narrow_182 : decode cX1_narrow 182 = .ok (.ifCond .ne 13, 3) := by decide +kernel
theorem dX1_narrow_185 : decode cX1_narrow 185 = .ok (.aload_n 0, 1) := by decide +kernel
theorem dX1_narrow_186 : decode cX1_narrow 186 = .ok (.getfield 42, 3) := by decide +kernel
theorem dX1_narrow_189 : decode cX1_narrow 189 = .ok (.getfield 126, 3) := by decide +kernel
theorem dX1_narrow_192 : decode cX1_narrow 192 = .ok (.ifCond .eq 7, 3) := by decide +kernel
theorem dX1_narrow_195 : decode cX1_narrow 195 = .ok (.iconst 1, 1) := by decide +kernel
theorem dX1_narrow_196 : decode cX1_narrow 196 = .ok (.goto 4, 3) := by decide +kernel
theorem dX1_narrow_199 : decode cX1_narrow 199 = .ok (.iconst 0, 1) := by decide +kernel
theorem dX1_narrow_200 : decode cX1_narrow 200 = .ok (.ireturn, 1) := by decide +kernel
set_option maxRecDepth 100000 in
set_option maxHeartbeats 40000000 in
theorem gx_X1_narrow {G : vG} {l : Launch} (σ : Sg) (b : Int32) (hI : Inv σ) : Sp G l yX1_narrow cX1_narrow 5 (some .boolean) 2 0 0 [.ref 58, .int b] (WW σ) (QI (fun _ w2 => ∃ σ2, w2 = WW σ2 ∧ Inv σ2 ∧ Cor σ σ2)) := by
  refine Sp_of_R [(some (.ref 58)), (some (.int b)), none, none, none] [none, none, none] rfl (by simp) rfl (Nat.le_of_ble_eq_true rfl) ?_
  refine R_aload_n (pc := 0) dX1_narrow_0 rfl rfl ?_
  refine g_X1_38 (pc := 1) (v := .ref 86) rfl dX1_narrow_1 (c_58 _) rfl ?_
  refine R_iconst (pc := 4) (v := 0) dX1_narrow_4 (by decide) ?_
  refine p_X1_126 (pc := 5) rfl dX1_narrow_5 (c_86 _) (Nat.le_of_ble_eq_true rfl) rfl rfl (s_86_2 _ _) ?_
  have hW1 := cor_si 8602 0 (show Cor σ σ from Cor.rfl' σ) rfl
  refine R_aload_n (pc := 8) dX1_narrow_8 rfl rfl ?_
  refine g_X1_42 (pc := 9) (v := .ref 89) rfl dX1_narrow_9 (c_58 _) rfl ?_
  refine R_iconst (pc := 12) (v := 0) dX1_narrow_12 (by decide) ?_
  refine p_X1_126 (pc := 13) rfl dX1_narrow_13 (c_89 _) (Nat.le_of_ble_eq_true rfl) rfl rfl (s_89_2 _ _) ?_
  have hW2 := cor_si 8902 0 hW1 rfl
  refine R_iconst (pc := 16) (v := 0) dX1_narrow_16 (by decide) ?_
  refine st_5_2_i_i (pc := 17) dX1_narrow_17 ?_
  have HL18 : ∀ (q j18 : Nat) (σ18 : Sg), j18 + q = 20 → 0 ≤ j18 → Inv σ18 → Cor σ σ18 → R G l yX1_narrow cX1_narrow 5 (some .boolean) 2 0 0 (QI (fun _ w2 => ∃ σ2, w2 = WW σ2 ∧ Inv σ2 ∧ Cor σ σ2)) 18 [(some (.ref 58)), (some (.int b)), (some (.int (nI j18))), none, none] [] (WW σ18) 0 0 := by
    intro q
    induction q with
    | zero =>
      intro j18 σ18 hj hs18 hI18 hC18
      obtain rfl : j18 = 20 := by omega
      refine R_iload_n (pc := 18) dX1_narrow_18 rfl rfl ?_
      refine R_bipush (pc := 19) (v := 20) dX1_narrow_19 (by decide) ?_
      refine R_icge (pc := 21) 87 dX1_narrow_21 (by decide) (fun _ => ?_) (fun h => absurd (by decide) h)
      refine R_iconst (pc := 87) (v := 0) dX1_narrow_87 (by decide) ?_
      refine st_5_2_i_i (pc := 88) dX1_narrow_88 ?_
      have HL89 : ∀ (q j89 : Nat) (σ89 : Sg) (g3_89 : Option Value) (g4_89 : Option Value), j89 + q = 12 → 0 ≤ j89 → Inv σ89 → Cor σ σ89 → R G l yX1_narrow cX1_narrow 5 (some .boolean) 2 0 0 (QI (fun _ w2 => ∃ σ2, w2 = WW σ2 ∧ Inv σ2 ∧ Cor σ σ2)) 89 [(some (.ref 58)), (some (.int b)), (some (.int (nI j89))), g3_89, g4_89] [] (WW σ89) 0 0 := by
        intro q
        induction q with
        | zero =>
          intro j89 σ89 g3_89 g4_89 hj hs89 hI89 hC89
          obtain rfl : j89 = 12 := by omega
          refine R_iload_n (pc := 89) dX1_narrow_89 rfl rfl ?_
          refine R_aload_n (pc := 90) dX1_narrow_90 rfl rfl ?_
          refine g_X1_139 (pc := 91) (v := .int (σ89.1 5809)) rfl dX1_narrow_91 (c_58 _) rfl ?_
          refine R_icge (pc := 94) 175 dX1_narrow_94 (by decide) (fun _ => ?_) (fun h => absurd (Int32.not_lt.mp (inR_up (iv_5809 hI89) (Int32.le_refl _) (by decide)).2) h)
          refine R_aload_n (pc := 175) dX1_narrow_175 rfl rfl ?_
          refine g_X1_38 (pc := 176) (v := .ref 86) rfl dX1_narrow_176 (c_58 _) rfl ?_
          refine g_X1_126 (pc := 179) (v := .int (σ89.1 8602)) rfl dX1_narrow_179 (c_86 _) rfl ?_
          refine R_ifne (pc := 182) 195 dX1_narrow_182 (by decide) (fun b182_5 => ?_) (fun b182_5 => ?_)
          · skip
            refine R_iconst (pc := 195) (v := 1) dX1_narrow_195 (by decide) ?_
            refine R_goto (pc := 196) 200 dX1_narrow_196 (by decide) ?_
            exact R_iret (pc := 200) dX1_narrow_200 rfl rfl (Nat.zero_le _) (Nat.zero_le _) ⟨_, rfl, _, rfl, hI89, hC89⟩
          · skip
            refine R_aload_n (pc := 185) dX1_narrow_185 rfl rfl ?_
            refine g_X1_42 (pc := 186) (v := .ref 89) rfl dX1_narrow_186 (c_58 _) rfl ?_
            refine g_X1_126 (pc := 189) (v := .int (σ89.1 8902)) rfl dX1_narrow_189 (c_89 _) rfl ?_
            refine R_ifeq (pc := 192) 199 dX1_narrow_192 (by decide) (fun b192_6 => ?_) (fun b192_6 => ?_)
            · skip
              refine R_iconst (pc := 199) (v := 0) dX1_narrow_199 (by decide) ?_
              exact R_iret (pc := 200) dX1_narrow_200 rfl rfl (Nat.zero_le _) (Nat.zero_le _) ⟨_, rfl, _, rfl, hI89, hC89⟩
            · skip
              refine R_iconst (pc := 195) (v := 1) dX1_narrow_195 (by decide) ?_
              refine R_goto (pc := 196) 200 dX1_narrow_196 (by decide) ?_
              exact R_iret (pc := 200) dX1_narrow_200 rfl rfl (Nat.zero_le _) (Nat.zero_le _) ⟨_, rfl, _, rfl, hI89, hC89⟩
        | succ q ih89 =>
          intro j89 σ89 g3_89 g4_89 hj hs89 hI89 hC89
          have hrg89 : inR (nI j89) 0 11 := inR_ix hs89 (show j89 < 12 by omega) (by decide) (by decide) (by decide)
          have hlt89 : j89 < 12 := by omega
          refine R_iload_n (pc := 89) dX1_narrow_89 rfl rfl ?_
          refine R_aload_n (pc := 90) dX1_narrow_90 rfl rfl ?_
          refine g_X1_139 (pc := 91) (v := .int (σ89.1 5809)) rfl dX1_narrow_91 (c_58 _) rfl ?_
          refine R_icge (pc := 94) 175 dX1_narrow_94 (by decide) (fun b94_7 => ?_) (fun b94_7 => ?_)
          · skip
            refine R_aload_n (pc := 175) dX1_narrow_175 rfl rfl ?_
            refine g_X1_38 (pc := 176) (v := .ref 86) rfl dX1_narrow_176 (c_58 _) rfl ?_
            refine g_X1_126 (pc := 179) (v := .int (σ89.1 8602)) rfl dX1_narrow_179 (c_86 _) rfl ?_
            refine R_ifne (pc := 182) 195 dX1_narrow_182 (by decide) (fun b182_8 => ?_) (fun b182_8 => ?_)
            · skip
              refine R_iconst (pc := 195) (v := 1) dX1_narrow_195 (by decide) ?_
              refine R_goto (pc := 196) 200 dX1_narrow_196 (by decide) ?_
              exact R_iret (pc := 200) dX1_narrow_200 rfl rfl (Nat.zero_le _) (Nat.zero_le _) ⟨_, rfl, _, rfl, hI89, hC89⟩
            · skip
              refine R_aload_n (pc := 185) dX1_narrow_185 rfl rfl ?_
              refine g_X1_42 (pc := 186) (v := .ref 89) rfl dX1_narrow_186 (c_58 _) rfl ?_
              refine g_X1_126 (pc := 189) (v := .int (σ89.1 8902)) rfl dX1_narrow_189 (c_89 _) rfl ?_
              refine R_ifeq (pc := 192) 199 dX1_narrow_192 (by decide) (fun b192_9 => ?_) (fun b192_9 => ?_)
              · skip
                refine R_iconst (pc := 199) (v := 0) dX1_narrow_199 (by decide) ?_
                exact R_iret (pc := 200) dX1_narrow_200 rfl rfl (Nat.zero_le _) (Nat.zero_le _) ⟨_, rfl, _, rfl, hI89, hC89⟩
              · skip
                refine R_iconst (pc := 195) (v := 1) dX1_narrow_195 (by decide) ?_
                refine R_goto (pc := 196) 200 dX1_narrow_196 (by decide) ?_
                exact R_iret (pc := 200) dX1_narrow_200 rfl rfl (Nat.zero_le _) (Nat.zero_le _) ⟨_, rfl, _, rfl, hI89, hC89⟩
          · skip
            refine R_aload_n (pc := 97) dX1_narrow_97 rfl rfl ?_
            refine g_X1_29 (pc := 98) (v := .ref 84) rfl dX1_narrow_98 (c_58 _) rfl ?_
            refine R_iload_n (pc := 101) dX1_narrow_101 rfl rfl ?_
            have hx10 : vp_in (nI j89) 12 := (vp_in_nI (by omega) (by decide))
            refine R_iaload (pc := 102) dX1_narrow_102 (c_84 _) hx10 ?_
            refine st_5_3_i_i (pc := 103) dX1_narrow_103 ?_
            refine R_aload_n (pc := 104) dX1_narrow_104 rfl rfl ?_
            refine g_X1_32 (pc := 105) (v := .ref 85) rfl dX1_narrow_105 (c_58 _) rfl ?_
            refine R_iload_n (pc := 108) dX1_narrow_108 rfl rfl ?_
            have hx11 : vp_in (nI j89) 12 := (vp_in_nI (by omega) (by decide))
            refine R_iaload (pc := 109) dX1_narrow_109 (c_85 _) hx11 ?_
            refine st_5_4_i_i (pc := 110) dX1_narrow_110 ?_
            refine R_iload_n (pc := 112) dX1_narrow_112 rfl rfl ?_
            refine R_iload_n (pc := 113) dX1_narrow_113 rfl rfl ?_
            refine k_X1_60 (pc := 114) (sp_X8_has _ _ _) rfl (by decide) (Nat.le_refl _) (Nat.le_refl _) (Nat.le_of_ble_eq_true rfl) dX1_narrow_114 (fun x w2 h => ?_)
            rcases h with ⟨rfl, ⟨-, rfl⟩ | ⟨-, rfl⟩⟩
            · skip
              refine R_ifeq (pc := 117) 169 dX1_narrow_117 (by decide) (fun h => absurd h (by decide)) (fun _ => ?_)
              refine R_iload_n (pc := 120) dX1_narrow_120 rfl rfl ?_
              refine R_iload (pc := 121) dX1_narrow_121 rfl ?_
              refine k_X1_60 (pc := 123) (sp_X8_has _ _ _) rfl (by decide) (Nat.le_refl _) (Nat.le_refl _) (Nat.le_of_ble_eq_true rfl) dX1_narrow_123 (fun x w2 h => ?_)
              rcases h with ⟨rfl, ⟨-, rfl⟩ | ⟨-, rfl⟩⟩
              · skip
                refine R_ifeq (pc := 126) 169 dX1_narrow_126 (by decide) (fun h => absurd h (by decide)) (fun _ => ?_)
                refine R_aload_n (pc := 129) dX1_narrow_129 rfl rfl ?_
                refine g_X1_42 (pc := 130) (v := .ref 89) rfl dX1_narrow_130 (c_58 _) rfl ?_
                refine R_iload_n (pc := 133) dX1_narrow_133 rfl rfl ?_
                refine R_aload_n (pc := 134) dX1_narrow_134 rfl rfl ?_
                refine g_X1_42 (pc := 135) (v := .ref 89) rfl dX1_narrow_135 (c_58 _) rfl ?_
                refine g_X1_133 (pc := 138) (v := .ref 90) rfl dX1_narrow_138 (c_89 _) rfl ?_
                refine R_iload (pc := 141) dX1_narrow_141 rfl ?_
                have hx14 : vp_in (σ89.2.2.1 85 (Int32.toNatClampNeg (nI j89))) 20 := (vp_of_inR (iva_85 hI89 _ (lt_of_vp hx11)) (by decide))
                refine R_iaload (pc := 143) dX1_narrow_143 (c_90 _) hx14 ?_
                refine R_iconst (pc := 144) (v := 1) dX1_narrow_144 (by decide) ?_
                refine R_iadd (pc := 145) dX1_narrow_145 ?_
                refine k_X1_120 (pc := 146) (gx_X7_notBefore_89 _ _ _ hI89 (iva_84 hI89 _ (lt_of_vp hx10))) rfl (c_89 _) (by decide) (Nat.le_refl _) (Nat.le_refl _) (Nat.le_of_ble_eq_true rfl) dX1_narrow_146 (fun w2 h => ?_)
                obtain ⟨σx17, rfl, hV16, hW18⟩ := h
                have hW19 := Cor.trans hC89 hW18
                refine R_aload_n (pc := 149) dX1_narrow_149 rfl rfl ?_
                refine g_X1_42 (pc := 150) (v := .ref 89) rfl dX1_narrow_150 (c_58 _) rfl ?_
                refine R_iload (pc := 153) dX1_narrow_153 rfl ?_
                refine R_aload_n (pc := 155) dX1_narrow_155 rfl rfl ?_
                refine g_X1_42 (pc := 156) (v := .ref 89) rfl dX1_narrow_156 (c_58 _) rfl ?_
                refine g_X1_136 (pc := 159) (v := .ref 91) rfl dX1_narrow_159 (c_89 _) rfl ?_
                refine R_iload_n (pc := 162) dX1_narrow_162 rfl rfl ?_
                have hx20 : vp_in (σ89.2.2.1 84 (Int32.toNatClampNeg (nI j89))) 20 := (vp_of_inR (iva_84 hI89 _ (lt_of_vp hx10)) (by decide))
                refine R_iaload (pc := 163) dX1_narrow_163 (c_91 _) hx20 ?_
                refine R_iconst (pc := 164) (v := 1) dX1_narrow_164 (by decide) ?_
                refine R_isub (pc := 165) dX1_narrow_165 ?_
                refine k_X1_93 (pc := 166) (gx_X7_notBehind_89 _ _ _ hV16 (iva_85 hI89 _ (lt_of_vp hx11))) rfl (c_89 _) (by decide) (Nat.le_refl _) (Nat.le_refl _) (Nat.le_of_ble_eq_true rfl) dX1_narrow_166 (fun w2 h => ?_)
                obtain ⟨σx23, rfl, hV22, hW24⟩ := h
                have hW25 := Cor.trans hW19 hW24
                refine inc_5_2_1_i (pc := 169) dX1_narrow_169 ?_
                have r26 : inR ((nI j89) + 1) 1 12 := inR_add (show inR (nI j89) 0 11 from hrg89) (show inR 1 1 1 from (inR_self _)) (by decide) (by decide)
                have e27 := ti_add (l := 1) (h := 12) (show inR (nI j89) 0 11 from hrg89) (show inR 1 1 1 from (inR_self _)) (by decide) (by decide)
                refine R_goto (pc := 172) 89 dX1_narrow_172 (by decide) ?_
                rw [nI_1]
                exact ih89 (j89 + 1) _ _ _ (by omega) (by omega) hV22 hW25
              · skip
                refine R_ifeq (pc := 126) 169 dX1_narrow_126 (by decide) (fun _ => ?_) (fun h => absurd (by decide) h)
                refine inc_5_2_1_i (pc := 169) dX1_narrow_169 ?_
                have r29 : inR ((nI j89) + 1) 1 12 := inR_add (show inR (nI j89) 0 11 from hrg89) (show inR 1 1 1 from (inR_self _)) (by decide) (by decide)
                have e30 := ti_add (l := 1) (h := 12) (show inR (nI j89) 0 11 from hrg89) (show inR 1 1 1 from (inR_self _)) (by decide) (by decide)
                refine R_goto (pc := 172) 89 dX1_narrow_172 (by decide) ?_
                rw [nI_1]
                exact ih89 (j89 + 1) _ _ _ (by omega) (by omega) hI89 hC89
            · skip
              refine R_ifeq (pc := 117) 169 dX1_narrow_117 (by decide) (fun _ => ?_) (fun h => absurd (by decide) h)
              refine inc_5_2_1_i (pc := 169) dX1_narrow_169 ?_
              have r32 : inR ((nI j89) + 1) 1 12 := inR_add (show inR (nI j89) 0 11 from hrg89) (show inR 1 1 1 from (inR_self _)) (by decide) (by decide)
              have e33 := ti_add (l := 1) (h := 12) (show inR (nI j89) 0 11 from hrg89) (show inR 1 1 1 from (inR_self _)) (by decide) (by decide)
              refine R_goto (pc := 172) 89 dX1_narrow_172 (by decide) ?_
              rw [nI_1]
              exact ih89 (j89 + 1) _ _ _ (by omega) (by omega) hI89 hC89
      exact HL89 12 0 _ _ _ (by omega) (by omega) hI18 hC18
    | succ q ih18 =>
      intro j18 σ18 hj hs18 hI18 hC18
      have hrg18 : inR (nI j18) 0 19 := inR_ix hs18 (show j18 < 20 by omega) (by decide) (by decide) (by decide)
      have hlt18 : j18 < 20 := by omega
      refine R_iload_n (pc := 18) dX1_narrow_18 rfl rfl ?_
      refine R_bipush (pc := 19) (v := 20) dX1_narrow_19 (by decide) ?_
      refine R_icge (pc := 21) 87 dX1_narrow_21 (by decide) (fun h => False.elim (by have q1 := ti_le h; have q2 := ti_in (show inR (nI j18) 0 19 from hrg18); have q3 := ti_in (show inR 20 20 20 from (inR_self _)); have z0 : (0 : Int32).toInt = 0 := (by decide);  have z1 : (19 : Int32).toInt = 19 := (by decide);  have z2 : (20 : Int32).toInt = 20 := (by decide); omega)) (fun _ => ?_)
      refine R_iload_n (pc := 24) dX1_narrow_24 rfl rfl ?_
      refine R_iload_n (pc := 25) dX1_narrow_25 rfl rfl ?_
      refine k_X1_60 (pc := 26) (sp_X8_has _ _ _) rfl (by decide) (Nat.le_refl _) (Nat.le_refl _) (Nat.le_of_ble_eq_true rfl) dX1_narrow_26 (fun x w2 h => ?_)
      rcases h with ⟨rfl, ⟨-, rfl⟩ | ⟨-, rfl⟩⟩
      · skip
        refine R_ifeq (pc := 29) 81 dX1_narrow_29 (by decide) (fun h => absurd h (by decide)) (fun _ => ?_)
        refine R_aload_n (pc := 32) dX1_narrow_32 rfl rfl ?_
        refine R_iload_n (pc := 33) dX1_narrow_33 rfl rfl ?_
        refine k_X1_130 (pc := 34) (gx_X1_narrowByFeatures _ _ hI18 hrg18) rfl (c_58 _) (by decide) (Nat.le_refl _) (Nat.le_refl _) (Nat.le_of_ble_eq_true rfl) dX1_narrow_34 (fun w2 h => ?_)
        obtain ⟨σx38, rfl, hV37, hW39⟩ := h
        have hW40 := Cor.trans hC18 hW39
        refine R_aload_n (pc := 37) dX1_narrow_37 rfl rfl ?_
        refine g_X1_42 (pc := 38) (v := .ref 89) rfl dX1_narrow_38 (c_58 _) rfl ?_
        refine R_iload_n (pc := 41) dX1_narrow_41 rfl rfl ?_
        refine R_aload_n (pc := 42) dX1_narrow_42 rfl rfl ?_
        refine g_X1_38 (pc := 43) (v := .ref 86) rfl dX1_narrow_43 (c_58 _) rfl ?_
        refine g_X1_133 (pc := 46) (v := .ref 87) rfl dX1_narrow_46 (c_86 _) rfl ?_
        refine R_aload_n (pc := 49) dX1_narrow_49 rfl rfl ?_
        refine g_X1_45 (pc := 50) (v := .ref 92) rfl dX1_narrow_50 (c_58 _) rfl ?_
        refine R_iload_n (pc := 53) dX1_narrow_53 rfl rfl ?_
        have hx41 : vp_in (nI j18) 20 := (vp_in_nI (by omega) (by decide))
        refine R_iaload (pc := 54) dX1_narrow_54 (c_92 _) hx41 ?_
        have hx42 : vp_in (σx38.2.2.1 92 (Int32.toNatClampNeg (nI j18))) 20 := (vp_of_inR (iva_92 hV37 _ (lt_of_vp hx41)) (by decide))
        refine R_iaload (pc := 55) dX1_narrow_55 (c_87 _) hx42 ?_
        refine k_X1_120 (pc := 56) (gx_X7_notBefore_89 _ _ _ hV37 hrg18) rfl (c_89 _) (by decide) (Nat.le_refl _) (Nat.le_refl _) (Nat.le_of_ble_eq_true rfl) dX1_narrow_56 (fun w2 h => ?_)
        obtain ⟨σx45, rfl, hV44, hW46⟩ := h
        have hW47 := Cor.trans hW40 hW46
        refine R_aload_n (pc := 59) dX1_narrow_59 rfl rfl ?_
        refine g_X1_38 (pc := 60) (v := .ref 86) rfl dX1_narrow_60 (c_58 _) rfl ?_
        refine R_aload_n (pc := 63) dX1_narrow_63 rfl rfl ?_
        refine g_X1_45 (pc := 64) (v := .ref 92) rfl dX1_narrow_64 (c_58 _) rfl ?_
        refine R_iload_n (pc := 67) dX1_narrow_67 rfl rfl ?_
        have hx48 : vp_in (nI j18) 20 := (vp_in_nI (by omega) (by decide))
        refine R_iaload (pc := 68) dX1_narrow_68 (c_92 _) hx48 ?_
        refine R_aload_n (pc := 69) dX1_narrow_69 rfl rfl ?_
        refine g_X1_42 (pc := 70) (v := .ref 89) rfl dX1_narrow_70 (c_58 _) rfl ?_
        refine g_X1_136 (pc := 73) (v := .ref 91) rfl dX1_narrow_73 (c_89 _) rfl ?_
        refine R_iload_n (pc := 76) dX1_narrow_76 rfl rfl ?_
        have hx49 : vp_in (nI j18) 20 := (vp_in_nI (by omega) (by decide))
        refine R_iaload (pc := 77) dX1_narrow_77 (c_91 _) hx49 ?_
        refine k_X1_93 (pc := 78) (gx_X7_notBehind_86 _ _ _ hV44 (iva_92 hV44 _ (lt_of_vp hx48))) rfl (c_86 _) (by decide) (Nat.le_refl _) (Nat.le_refl _) (Nat.le_of_ble_eq_true rfl) dX1_narrow_78 (fun w2 h => ?_)
        obtain ⟨σx52, rfl, hV51, hW53⟩ := h
        have hW54 := Cor.trans hW47 hW53
        refine inc_5_2_1_i (pc := 81) dX1_narrow_81 ?_
        have r55 : inR ((nI j18) + 1) 1 20 := inR_add (show inR (nI j18) 0 19 from hrg18) (show inR 1 1 1 from (inR_self _)) (by decide) (by decide)
        have e56 := ti_add (l := 1) (h := 20) (show inR (nI j18) 0 19 from hrg18) (show inR 1 1 1 from (inR_self _)) (by decide) (by decide)
        refine R_goto (pc := 84) 18 dX1_narrow_84 (by decide) ?_
        rw [nI_1]
        exact ih18 (j18 + 1) _ (by omega) (by omega) hV51 hW54
      · skip
        refine R_ifeq (pc := 29) 81 dX1_narrow_29 (by decide) (fun _ => ?_) (fun h => absurd (by decide) h)
        refine inc_5_2_1_i (pc := 81) dX1_narrow_81 ?_
        have r58 : inR ((nI j18) + 1) 1 20 := inR_add (show inR (nI j18) 0 19 from hrg18) (show inR 1 1 1 from (inR_self _)) (by decide) (by decide)
        have e59 := ti_add (l := 1) (h := 20) (show inR (nI j18) 0 19 from hrg18) (show inR 1 1 1 from (inR_self _)) (by decide) (by decide)
        refine R_goto (pc := 84) 18 dX1_narrow_84 (by decide) ?_
        rw [nI_1]
        exact ih18 (j18 + 1) _ (by omega) (by omega) hI18 hC18
  exact HL18 20 0 _ (by omega) (by omega) hI hW2
theorem dX1_isSomeEmpty_0 : decode cX1_isSomeEmpty 0 = .ok (.iconst 0, 1) := by decide +kernel
theorem dX1_isSomeEmpty_1 : decode cX1_isSomeEmpty 1 = .ok (.istore_n 2, 1) := by decide +kernel
theorem dX1_isSomeEmpty_2 : decode cX1_isSomeEmpty 2 = .ok (.iload_n 2, 1) := by decide +kernel
theorem dX1_isSomeEmpty_3 : decode cX1_isSomeEmpty 3 = .ok (.bipush 20, 2) := by decide +kernel
theorem dX1_isSomeEmpty_5 : decode cX1_isSomeEmpty 5 = .ok (.if_icmp .ge 71, 3) := by decide +kernel
theorem dX1_isSomeEmpty_8 : decode cX1_isSomeEmpty 8 = .ok (.iload_n 1, 1) := by decide +kernel
theorem dX1_isSomeEmpty_9 : decode cX1_isSomeEmpty 9 = .ok (.iload_n 2, 1) := by decide +kernel
theorem dX1_isSomeEmpty_10 : decode cX1_isSomeEmpty 10 = .ok (.invokestatic 60, 3) := by decide +kernel
theorem dX1_isSomeEmpty_13 : decode cX1_isSomeEmpty 13 = .ok (.ifCond .eq 57, 3) := by decide +kernel
theorem dX1_isSomeEmpty_16 : decode cX1_isSomeEmpty 16 = .ok (.aload_n 0, 1) := by decide +kernel
theorem dX1_isSomeEmpty_17 : decode cX1_isSomeEmpty 17 = .ok (.getfield 42, 3) := by decide +kernel
theorem dX1_isSomeEmpty_20 : decode cX1_isSomeEmpty 20 = .ok (.getfield 133, 3) := by decide +kernel
theorem dX1_isSomeEmpty_23 : decode cX1_isSomeEmpty 23 = .ok (.iload_n 2, 1) := by decide +kernel
theorem dX1_isSomeEmpty_24 : decode cX1_isSomeEmpty 24 = .ok (.iaload, 1) := by decide +kernel
theorem dX1_isSomeEmpty_25 : decode cX1_isSomeEmpty 25 = .ok (.aload_n 0, 1) := by decide +kernel
theorem dX1_isSomeEmpty_26 : decode cX1_isSomeEmpty 26 = .ok (.getfield 42, 3) := by decide +kernel
theorem dX1_isSomeEmpty_29 : decode cX1_isSomeEmpty 29 = .ok (.getfield 136, 3) := by decide +kernel
theorem dX1_isSomeEmpty_32 : decode cX1_isSomeEmpty 32 = .ok (.iload_n 2, 1) := by decide +kernel
theorem dX1_isSomeEmpty_33 : decode cX1_isSomeEmpty 33 = .ok (.iaload, 1) := by decide +kernel
theorem dX1_isSomeEmpty_34 : decode cX1_isSomeEmpty 34 = .ok (.if_icmp .gt 34, 3) := by decide +kernel
theorem dX1_isSomeEmpty_37 : decode cX1_isSomeEmpty 37 = .ok (.aload_n 0, 1) := by decide +kernel
theorem dX1_isSomeEmpty_38 : decode cX1_isSomeEmpty 38 = .ok (.getfield 38, 3) := by decide +kernel
theorem dX1_isSomeEmpty_41 : decode cX1_isSomeEmpty 41 = .ok (.getfield 133, 3) := by decide +kernel
theorem dX1_isSomeEmpty_44 : decode cX1_isSomeEmpty 44 = .ok (.aload_n 0, 1) := by decide +kernel
theorem dX1_isSomeEmpty_45 : decode cX1_isSomeEmpty 45 = .ok (.getfield 45, 3) := by decide +kernel
theorem dX1_isSomeEmpty_48 : decode cX1_isSomeEmpty 48 = .ok (.iload_n 2, 1) := by decide +kernel
theorem dX1_isSomeEmpty_49 : decode cX1_isSomeEmpty 49 = .ok (.iaload, 1) := by decide +kernel
theorem dX1_isSomeEmpty_50 : decode cX1_isSomeEmpty 50 = .ok (.iaload, 1) := by decide +kernel
theorem dX1_isSomeEmpty_51 : decode cX1_isSomeEmpty 51 = .ok (.aload_n 0, 1) := by decide +kernel
theorem dX1_isSomeEmpty_52 : decode cX1_isSomeEmpty 52 = .ok (.getfield 38, 3) := by decide +kernel
theorem dX1_isSomeEmpty_55 : decode cX1_isSomeEmpty 55 = .ok (.getfield 136, 3) := by decide +kernel
theorem dX1_isSomeEmpty_58 : decode cX1_isSomeEmpty 58 = .ok (.aload_n 0, 1) := by decide +kernel
theorem dX1_isSomeEmpty_59 : decode cX1_isSomeEmpty 59 = .ok (.getfield 45, 3) := by decide +kernel
theorem dX1_isSomeEmpty_62 : decode cX1_isSomeEmpty 62 = .ok (.iload_n 2, 1) := by decide +kernel
theorem dX1_isSomeEmpty_63 : decode cX1_isSomeEmpty 63 = .ok (.iaload, 1) := by decide +kernel
theorem dX1_isSomeEmpty_64 : decode cX1_isSomeEmpty 64 = .ok (.iaload, 1) := by decide +kernel
theorem dX1_isSomeEmpty_65 : decode cX1_isSomeEmpty 65 = .ok (.if_icmp .le 5, 3) := by decide +kernel
theorem dX1_isSomeEmpty_68 : decode cX1_isSomeEmpty 68 = .ok (.iconst 1, 1) := by decide +kernel
theorem dX1_isSomeEmpty_69 : decode cX1_isSomeEmpty 69 = .ok (.ireturn, 1) := by decide +kernel
theorem dX1_isSomeEmpty_70 : decode cX1_isSomeEmpty 70 = .ok (.iinc 2 1, 3) := by decide +kernel
theorem dX1_isSomeEmpty_73 : decode cX1_isSomeEmpty 73 = .ok (.goto (-71), 3) := by decide +kernel
theorem dX1_isSomeEmpty_76 : decode cX1_isSomeEmpty 76 = .ok (.iconst 0, 1) := by decide +kernel
theorem dX1_isSomeEmpty_77 : decode cX1_isSomeEmpty 77 = .ok (.ireturn, 1) := by decide +kernel
set_option maxRecDepth 100000 in
set_option maxHeartbeats 40000000 in
theorem gx_X1_isSomeEmpty {G : vG} {l : Launch} (σ : Sg) (b : Int32) (hI : Inv σ) : Sp G l yX1_isSomeEmpty cX1_isSomeEmpty 3 (some .boolean) 1 0 0 [.ref 58, .int b] (WW σ) (QI (fun x w2 => w2 = WW σ)) := by
  refine Sp_of_R [(some (.ref 58)), (some (.int b)), none] [none] rfl (by simp) rfl (Nat.le_of_ble_eq_true rfl) ?_
  refine R_iconst (pc := 0) (v := 0) dX1_isSomeEmpty_0 (by decide) ?_
  refine st_3_2_i_i (pc := 1) dX1_isSomeEmpty_1 ?_
  have HL2 : ∀ (q j2 : Nat), j2 + q = 20 → 0 ≤ j2 → R G l yX1_isSomeEmpty cX1_isSomeEmpty 3 (some .boolean) 1 0 0 (QI (fun x w2 => w2 = WW σ)) 2 [(some (.ref 58)), (some (.int b)), (some (.int (nI j2)))] [] (WW σ) 0 0 := by
    intro q
    induction q with
    | zero =>
      intro j2 hj hs2
      obtain rfl : j2 = 20 := by omega
      refine R_iload_n (pc := 2) dX1_isSomeEmpty_2 rfl rfl ?_
      refine R_bipush (pc := 3) (v := 20) dX1_isSomeEmpty_3 (by decide) ?_
      refine R_icge (pc := 5) 76 dX1_isSomeEmpty_5 (by decide) (fun _ => ?_) (fun h => absurd (by decide) h)
      refine R_iconst (pc := 76) (v := 0) dX1_isSomeEmpty_76 (by decide) ?_
      exact R_iret (pc := 77) dX1_isSomeEmpty_77 rfl rfl (Nat.zero_le _) (Nat.zero_le _) ⟨_, rfl, rfl⟩
    | succ q ih2 =>
      intro j2 hj hs2
      have hrg2 : inR (nI j2) 0 19 := inR_ix hs2 (show j2 < 20 by omega) (by decide) (by decide) (by decide)
      have hlt2 : j2 < 20 := by omega
      refine R_iload_n (pc := 2) dX1_isSomeEmpty_2 rfl rfl ?_
      refine R_bipush (pc := 3) (v := 20) dX1_isSomeEmpty_3 (by decide) ?_
      refine R_icge (pc := 5) 76 dX1_isSomeEmpty_5 (by decide) (fun h => False.elim (by have q1 := ti_le h; have q2 := ti_in (show inR (nI j2) 0 19 from hrg2); have q3 := ti_in (show inR 20 20 20 from (inR_self _)); have z0 : (0 : Int32).toInt = 0 := (by decide);  have z1 : (19 : Int32).toInt = 19 := (by decide);  have z2 : (20 : Int32).toInt = 20 := (by decide); omega)) (fun _ => ?_)
      refine R_iload_n (pc := 8) dX1_isSomeEmpty_8 rfl rfl ?_
      refine R_iload_n (pc := 9) dX1_isSomeEmpty_9 rfl rfl ?_
      refine k_X1_60 (pc := 10) (sp_X8_has _ _ _) rfl (by decide) (Nat.le_refl _) (Nat.le_refl _) (Nat.le_of_ble_eq_true rfl) dX1_isSomeEmpty_10 (fun x w2 h => ?_)
      rcases h with ⟨rfl, ⟨-, rfl⟩ | ⟨-, rfl⟩⟩
      · skip
        refine R_ifeq (pc := 13) 70 dX1_isSomeEmpty_13 (by decide) (fun h => absurd h (by decide)) (fun _ => ?_)
        refine R_aload_n (pc := 16) dX1_isSomeEmpty_16 rfl rfl ?_
        refine g_X1_42 (pc := 17) (v := .ref 89) rfl dX1_isSomeEmpty_17 (c_58 _) rfl ?_
        refine g_X1_133 (pc := 20) (v := .ref 90) rfl dX1_isSomeEmpty_20 (c_89 _) rfl ?_
        refine R_iload_n (pc := 23) dX1_isSomeEmpty_23 rfl rfl ?_
        have hx4 : vp_in (nI j2) 20 := (vp_in_nI (by omega) (by decide))
        refine R_iaload (pc := 24) dX1_isSomeEmpty_24 (c_90 _) hx4 ?_
        refine R_aload_n (pc := 25) dX1_isSomeEmpty_25 rfl rfl ?_
        refine g_X1_42 (pc := 26) (v := .ref 89) rfl dX1_isSomeEmpty_26 (c_58 _) rfl ?_
        refine g_X1_136 (pc := 29) (v := .ref 91) rfl dX1_isSomeEmpty_29 (c_89 _) rfl ?_
        refine R_iload_n (pc := 32) dX1_isSomeEmpty_32 rfl rfl ?_
        have hx5 : vp_in (nI j2) 20 := (vp_in_nI (by omega) (by decide))
        refine R_iaload (pc := 33) dX1_isSomeEmpty_33 (c_91 _) hx5 ?_
        refine R_icgt (pc := 34) 68 dX1_isSomeEmpty_34 (by decide) (fun b34_6 => ?_) (fun b34_6 => ?_)
        · skip
          refine R_iconst (pc := 68) (v := 1) dX1_isSomeEmpty_68 (by decide) ?_
          exact R_iret (pc := 69) dX1_isSomeEmpty_69 rfl rfl (Nat.zero_le _) (Nat.zero_le _) ⟨_, rfl, rfl⟩
        · skip
          refine R_aload_n (pc := 37) dX1_isSomeEmpty_37 rfl rfl ?_
          refine g_X1_38 (pc := 38) (v := .ref 86) rfl dX1_isSomeEmpty_38 (c_58 _) rfl ?_
          refine g_X1_133 (pc := 41) (v := .ref 87) rfl dX1_isSomeEmpty_41 (c_86 _) rfl ?_
          refine R_aload_n (pc := 44) dX1_isSomeEmpty_44 rfl rfl ?_
          refine g_X1_45 (pc := 45) (v := .ref 92) rfl dX1_isSomeEmpty_45 (c_58 _) rfl ?_
          refine R_iload_n (pc := 48) dX1_isSomeEmpty_48 rfl rfl ?_
          have hx7 : vp_in (nI j2) 20 := (vp_in_nI (by omega) (by decide))
          refine R_iaload (pc := 49) dX1_isSomeEmpty_49 (c_92 _) hx7 ?_
          have hx8 : vp_in (σ.2.2.1 92 (Int32.toNatClampNeg (nI j2))) 20 := (vp_of_inR (iva_92 hI _ (lt_of_vp hx7)) (by decide))
          refine R_iaload (pc := 50) dX1_isSomeEmpty_50 (c_87 _) hx8 ?_
          refine R_aload_n (pc := 51) dX1_isSomeEmpty_51 rfl rfl ?_
          refine g_X1_38 (pc := 52) (v := .ref 86) rfl dX1_isSomeEmpty_52 (c_58 _) rfl ?_
          refine g_X1_136 (pc := 55) (v := .ref 88) rfl dX1_isSomeEmpty_55 (c_86 _) rfl ?_
          refine R_aload_n (pc := 58) dX1_isSomeEmpty_58 rfl rfl ?_
          refine g_X1_45 (pc := 59) (v := .ref 92) rfl dX1_isSomeEmpty_59 (c_58 _) rfl ?_
          refine R_iload_n (pc := 62) dX1_isSomeEmpty_62 rfl rfl ?_
          have hx9 : vp_in (nI j2) 20 := (vp_in_nI (by omega) (by decide))
          refine R_iaload (pc := 63) dX1_isSomeEmpty_63 (c_92 _) hx9 ?_
          have hx10 : vp_in (σ.2.2.1 92 (Int32.toNatClampNeg (nI j2))) 20 := (vp_of_inR (iva_92 hI _ (lt_of_vp hx7)) (by decide))
          refine R_iaload (pc := 64) dX1_isSomeEmpty_64 (c_88 _) hx10 ?_
          refine R_icle (pc := 65) 70 dX1_isSomeEmpty_65 (by decide) (fun b65_11 => ?_) (fun b65_11 => ?_)
          · skip
            refine inc_3_2_1_i (pc := 70) dX1_isSomeEmpty_70 ?_
            have r12 : inR ((nI j2) + 1) 1 20 := inR_add (show inR (nI j2) 0 19 from hrg2) (show inR 1 1 1 from (inR_self _)) (by decide) (by decide)
            have e13 := ti_add (l := 1) (h := 20) (show inR (nI j2) 0 19 from hrg2) (show inR 1 1 1 from (inR_self _)) (by decide) (by decide)
            refine R_goto (pc := 73) 2 dX1_isSomeEmpty_73 (by decide) ?_
            rw [nI_1]
            exact ih2 (j2 + 1) (by omega) (by omega)
          · skip
            refine R_iconst (pc := 68) (v := 1) dX1_isSomeEmpty_68 (by decide) ?_
            exact R_iret (pc := 69) dX1_isSomeEmpty_69 rfl rfl (Nat.zero_le _) (Nat.zero_le _) ⟨_, rfl, rfl⟩
      · skip
        refine R_ifeq (pc := 13) 70 dX1_isSomeEmpty_13 (by decide) (fun _ => ?_) (fun h => absurd (by decide) h)
        refine inc_3_2_1_i (pc := 70) dX1_isSomeEmpty_70 ?_
        have r15 : inR ((nI j2) + 1) 1 20 := inR_add (show inR (nI j2) 0 19 from hrg2) (show inR 1 1 1 from (inR_self _)) (by decide) (by decide)
        have e16 := ti_add (l := 1) (h := 20) (show inR (nI j2) 0 19 from hrg2) (show inR 1 1 1 from (inR_self _)) (by decide) (by decide)
        refine R_goto (pc := 73) 2 dX1_isSomeEmpty_73 (by decide) ?_
        rw [nI_1]
        exact ih2 (j2 + 1) (by omega) (by omega)
  exact HL2 20 0 (by omega) (by omega)
theorem dX1_settle_0 : decode cX1_settle 0 = .ok (.aload_n 0, 1) := by decide +kernel
theorem dX1_settle_1 : decode cX1_settle 1 = .ok (.iload_n 1, 1) := by decide +kernel
theorem dX1_settle_2 : decode cX1_settle 2 = .ok (.invokevirtual 56, 3) := by decide +kernel
theorem dX1_settle_5 : decode cX1_settle 5 = .ok (.iconst 0, 1) := by decide +kernel
theorem dX1_settle_6 : decode cX1_settle 6 = .ok (.istore_n 3, 1) := by decide +kernel
theorem dX1_settle_7 : decode cX1_settle 7 = .ok (.iload_n 3, 1) := by decide +kernel
theorem dX1_settle_8 : decode cX1_settle 8 = .ok (.bipush 20, 2) := by decide +kernel
theorem dX1_settle_10 : decode cX1_settle 10 = .ok (.if_icmp .ge 23, 3) := by decide +kernel
theorem dX1_settle_13 : decode cX1_settle 13 = .ok (.iload_n 1, 1) := by decide +kernel
theorem dX1_settle_14 : decode cX1_settle 14 = .ok (.iload_n 3, 1) := by decide +kernel
theorem dX1_settle_15 : decode cX1_settle 15 = .ok (.invokestatic 60, 3) := by decide +kernel
theorem dX1_settle_18 : decode cX1_settle 18 = .ok (.ifCond .eq 9, 3) := by decide +kernel
theorem dX1_settle_21 : decode cX1_settle 21 = .ok (.aload_n 0, 1) := by decide +kernel
theorem dX1_settle_22 : decode cX1_settle 22 = .ok (.iload_n 3, 1) := by decide +kernel
theorem dX1_settle_23 : decode cX1_settle 23 = .ok (.aload_n 2, 1) := by decide +kernel
theorem dX1_settle_24 : decode cX1_settle 24 = .ok (.invokevirtual 64, 3) := by decide +kernel
theorem dX1_settle_27 : decode cX1_settle 27 = .ok (.iinc 3 1, 3) := by decide +kernel
theorem dX1_settle_30 : decode cX1_settle 30 = .ok (.goto (-23), 3) := by decide +kernel
theorem dX1_settle_33 : decode cX1_settle 33 = .ok (.iconst 0, 1) := by decide +kernel
theorem dX1_settle_34 : decode cX1_settle 34 = .ok (.istore_n 3, 1) := by decide +kernel
theorem dX1_settle_35 : decode cX1_settle 35 = .ok (.iload_n 3, 1) := by decide +kernel
theorem dX1_settle_36 : decode cX1_settle 36 = .ok (.bipush 32, 2) := by decide +kernel
theorem dX1_settle_38 : decode cX1_settle 38 = .ok (.if_icmp .ge 33, 3) := by decide +kernel
theorem dX1_settle_41 : decode cX1_settle 41 = .ok (.aload_n 0, 1) := by decide +kernel
theorem dX1_settle_42 : decode cX1_settle 42 = .ok (.iload_n 1, 1) := by decide +kernel
theorem dX1_settle_43 : decode cX1_settle 43 = .ok (.invokevirtual 68, 3) := by decide +kernel
theorem dX1_settle_46 : decode cX1_settle 46 = .ok (.istore 4, 2) := by decide +kernel
theorem dX1_settle_48 : decode cX1_settle 48 = .ok (.aload_n 0, 1) := by decide +kernel
theorem dX1_settle_49 : decode cX1_settle 49 = .ok (.iload_n 1, 1) := by decide +kernel
theorem dX1_settle_50 : decode cX1_settle 50 = .ok (.invokevirtual 72, 3) := by decide +kernel
theorem dX1_settle_53 : decode cX1_settle 53 = .ok (.ifCond .eq 5, 3) := by decide +kernel
theorem dX1_settle_56 : decode cX1_settle 56 = .ok (.iconst 0, 1) := by decide +kernel
theorem dX1_settle_57 : decode cX1_settle 57 = .ok (.ireturn, 1) := by decide +kernel
theorem dX1_settle_58 : decode cX1_settle 58 = .ok (.iload 4, 2) := by decide +kernel
theorem dX1_settle_60 : decode cX1_settle 60 = .ok (.ifCond .ne 5, 3) := by decide +kernel
theorem dX1_settle_63 : decode cX1_settle 63 = .ok (.iconst 1, 1) := by decide +kernel
theorem dX1_settle_64 : decode cX1_settle 64 = .ok (.ireturn, 1) := by decide +kernel
theorem dX1_settle_65 : decode cX1_settle 65 = .ok (.iinc 3 1, 3) := by decide +kernel
theorem dX1_settle_68 : decode cX1_settle 68 = .ok (.goto (-33), 3) := by decide +kernel
theorem dX1_settle_71 : decode cX1_settle 71 = .ok (.iconst 0, 1) := by decide +kernel
theorem dX1_settle_72 : decode cX1_settle 72 = .ok (.ireturn, 1) := by decide +kernel
set_option maxRecDepth 100000 in
set_option maxHeartbeats 40000000 in
theorem gx_X1_settle_119 {G : vG} {l : Launch} (σ : Sg) (b : Int32) (hI : Inv σ) : Sp G l yX1_settle cX1_settle 5 (some .boolean) 5 0 0 [.ref 58, .int b, .ref 119] (WW σ) (QI (fun _ w2 => ∃ σ2, w2 = WW σ2 ∧ Inv σ2 ∧ Cor σ σ2)) := by
  refine Sp_of_R [(some (.ref 58)), (some (.int b)), (some (.ref 119)), none, none] [none, none] rfl (by simp) rfl (Nat.le_of_ble_eq_true rfl) ?_
  refine R_aload_n (pc := 0) dX1_settle_0 rfl rfl ?_
  refine R_iload_n (pc := 1) dX1_settle_1 rfl rfl ?_
  refine k_X1_56 (pc := 2) (gx_X1_findLeaders _ _ hI) rfl (c_58 _) (by decide) (Nat.le_refl _) (Nat.le_refl _) (Nat.le_of_ble_eq_true rfl) dX1_settle_2 (fun w2 h => ?_)
  obtain ⟨σx3, rfl, hV2, hW4⟩ := h
  have hW5 := Cor.trans (show Cor σ σ from Cor.rfl' σ) hW4
  refine R_iconst (pc := 5) (v := 0) dX1_settle_5 (by decide) ?_
  refine st_5_3_i_a (pc := 6) dX1_settle_6 ?_
  have HL7 : ∀ (q j7 : Nat) (σ7 : Sg), j7 + q = 20 → 0 ≤ j7 → Inv σ7 → Cor σ σ7 → R G l yX1_settle cX1_settle 5 (some .boolean) 5 0 0 (QI (fun _ w2 => ∃ σ2, w2 = WW σ2 ∧ Inv σ2 ∧ Cor σ σ2)) 7 [(some (.ref 58)), (some (.int b)), (some (.ref 119)), (some (.int (nI j7))), none] [] (WW σ7) 0 0 := by
    intro q
    induction q with
    | zero =>
      intro j7 σ7 hj hs7 hI7 hC7
      obtain rfl : j7 = 20 := by omega
      refine R_iload_n (pc := 7) dX1_settle_7 rfl rfl ?_
      refine R_bipush (pc := 8) (v := 20) dX1_settle_8 (by decide) ?_
      refine R_icge (pc := 10) 33 dX1_settle_10 (by decide) (fun _ => ?_) (fun h => absurd (by decide) h)
      refine R_iconst (pc := 33) (v := 0) dX1_settle_33 (by decide) ?_
      refine st_5_3_i_a (pc := 34) dX1_settle_34 ?_
      have HL35 : ∀ (q j35 : Nat) (σ35 : Sg) (g4_35 : Option Value), j35 + q = 32 → 0 ≤ j35 → Inv σ35 → Cor σ σ35 → R G l yX1_settle cX1_settle 5 (some .boolean) 5 0 0 (QI (fun _ w2 => ∃ σ2, w2 = WW σ2 ∧ Inv σ2 ∧ Cor σ σ2)) 35 [(some (.ref 58)), (some (.int b)), (some (.ref 119)), (some (.int (nI j35))), g4_35] [] (WW σ35) 0 0 := by
        intro q
        induction q with
        | zero =>
          intro j35 σ35 g4_35 hj hs35 hI35 hC35
          obtain rfl : j35 = 32 := by omega
          refine R_iload_n (pc := 35) dX1_settle_35 rfl rfl ?_
          refine R_bipush (pc := 36) (v := 32) dX1_settle_36 (by decide) ?_
          refine R_icge (pc := 38) 71 dX1_settle_38 (by decide) (fun _ => ?_) (fun h => absurd (by decide) h)
          refine R_iconst (pc := 71) (v := 0) dX1_settle_71 (by decide) ?_
          exact R_iret (pc := 72) dX1_settle_72 rfl rfl (Nat.zero_le _) (Nat.zero_le _) ⟨_, rfl, _, rfl, hI35, hC35⟩
        | succ q ih35 =>
          intro j35 σ35 g4_35 hj hs35 hI35 hC35
          have hrg35 : inR (nI j35) 0 31 := inR_ix hs35 (show j35 < 32 by omega) (by decide) (by decide) (by decide)
          have hlt35 : j35 < 32 := by omega
          refine R_iload_n (pc := 35) dX1_settle_35 rfl rfl ?_
          refine R_bipush (pc := 36) (v := 32) dX1_settle_36 (by decide) ?_
          refine R_icge (pc := 38) 71 dX1_settle_38 (by decide) (fun h => False.elim (by have q1 := ti_le h; have q2 := ti_in (show inR (nI j35) 0 31 from hrg35); have q3 := ti_in (show inR 32 32 32 from (inR_self _)); have z0 : (0 : Int32).toInt = 0 := (by decide);  have z1 : (31 : Int32).toInt = 31 := (by decide);  have z2 : (32 : Int32).toInt = 32 := (by decide); omega)) (fun _ => ?_)
          refine R_aload_n (pc := 41) dX1_settle_41 rfl rfl ?_
          refine R_iload_n (pc := 42) dX1_settle_42 rfl rfl ?_
          refine k_X1_68 (pc := 43) (gx_X1_narrow _ _ hI35) rfl (c_58 _) (by decide) (Nat.le_refl _) (Nat.le_refl _) (Nat.le_of_ble_eq_true rfl) dX1_settle_43 (fun y9 w2 h => ?_)
          obtain ⟨σx11, rfl, hV10, hW12⟩ := h
          have hW13 := Cor.trans hC35 hW12
          refine st_5_4_i_i (pc := 46) dX1_settle_46 ?_
          refine R_aload_n (pc := 48) dX1_settle_48 rfl rfl ?_
          refine R_iload_n (pc := 49) dX1_settle_49 rfl rfl ?_
          refine k_X1_72 (pc := 50) (gx_X1_isSomeEmpty _ _ hV10) rfl (c_58 _) (by decide) (Nat.le_refl _) (Nat.le_refl _) (Nat.le_of_ble_eq_true rfl) dX1_settle_50 (fun y14 w2 h => ?_)
          subst h
          refine R_ifeq (pc := 53) 58 dX1_settle_53 (by decide) (fun b53_15 => ?_) (fun b53_15 => ?_)
          · skip
            refine R_iload (pc := 58) dX1_settle_58 rfl ?_
            refine R_ifne (pc := 60) 65 dX1_settle_60 (by decide) (fun b60_16 => ?_) (fun b60_16 => ?_)
            · skip
              refine inc_5_3_1_a (pc := 65) dX1_settle_65 ?_
              have r17 : inR ((nI j35) + 1) 1 32 := inR_add (show inR (nI j35) 0 31 from hrg35) (show inR 1 1 1 from (inR_self _)) (by decide) (by decide)
              have e18 := ti_add (l := 1) (h := 32) (show inR (nI j35) 0 31 from hrg35) (show inR 1 1 1 from (inR_self _)) (by decide) (by decide)
              refine R_goto (pc := 68) 35 dX1_settle_68 (by decide) ?_
              rw [nI_1]
              exact ih35 (j35 + 1) _ _ (by omega) (by omega) hV10 hW13
            · skip
              refine R_iconst (pc := 63) (v := 1) dX1_settle_63 (by decide) ?_
              exact R_iret (pc := 64) dX1_settle_64 rfl rfl (Nat.zero_le _) (Nat.zero_le _) ⟨_, rfl, _, rfl, hV10, hW13⟩
          · skip
            refine R_iconst (pc := 56) (v := 0) dX1_settle_56 (by decide) ?_
            exact R_iret (pc := 57) dX1_settle_57 rfl rfl (Nat.zero_le _) (Nat.zero_le _) ⟨_, rfl, _, rfl, hV10, hW13⟩
      exact HL35 32 0 _ _ (by omega) (by omega) hI7 hC7
    | succ q ih7 =>
      intro j7 σ7 hj hs7 hI7 hC7
      have hrg7 : inR (nI j7) 0 19 := inR_ix hs7 (show j7 < 20 by omega) (by decide) (by decide) (by decide)
      have hlt7 : j7 < 20 := by omega
      refine R_iload_n (pc := 7) dX1_settle_7 rfl rfl ?_
      refine R_bipush (pc := 8) (v := 20) dX1_settle_8 (by decide) ?_
      refine R_icge (pc := 10) 33 dX1_settle_10 (by decide) (fun h => False.elim (by have q1 := ti_le h; have q2 := ti_in (show inR (nI j7) 0 19 from hrg7); have q3 := ti_in (show inR 20 20 20 from (inR_self _)); have z0 : (0 : Int32).toInt = 0 := (by decide);  have z1 : (19 : Int32).toInt = 19 := (by decide);  have z2 : (20 : Int32).toInt = 20 := (by decide); omega)) (fun _ => ?_)
      refine R_iload_n (pc := 13) dX1_settle_13 rfl rfl ?_
      refine R_iload_n (pc := 14) dX1_settle_14 rfl rfl ?_
      refine k_X1_60 (pc := 15) (sp_X8_has _ _ _) rfl (by decide) (Nat.le_refl _) (Nat.le_refl _) (Nat.le_of_ble_eq_true rfl) dX1_settle_15 (fun x w2 h => ?_)
      rcases h with ⟨rfl, ⟨-, rfl⟩ | ⟨-, rfl⟩⟩
      · skip
        refine R_ifeq (pc := 18) 27 dX1_settle_18 (by decide) (fun h => absurd h (by decide)) (fun _ => ?_)
        refine R_aload_n (pc := 21) dX1_settle_21 rfl rfl ?_
        refine R_iload_n (pc := 22) dX1_settle_22 rfl rfl ?_
        refine R_aload_n (pc := 23) dX1_settle_23 rfl rfl ?_
        refine k_X1_64 (pc := 24) (gx_X1_openPublished_119 _ _ hI7 hrg7) rfl (c_58 _) (by decide) (Nat.le_refl _) (Nat.le_refl _) (Nat.le_of_ble_eq_true rfl) dX1_settle_24 (fun w2 h => ?_)
        obtain ⟨σx23, rfl, hV22, hW24⟩ := h
        have hW25 := Cor.trans hC7 hW24
        refine inc_5_3_1_a (pc := 27) dX1_settle_27 ?_
        have r26 : inR ((nI j7) + 1) 1 20 := inR_add (show inR (nI j7) 0 19 from hrg7) (show inR 1 1 1 from (inR_self _)) (by decide) (by decide)
        have e27 := ti_add (l := 1) (h := 20) (show inR (nI j7) 0 19 from hrg7) (show inR 1 1 1 from (inR_self _)) (by decide) (by decide)
        refine R_goto (pc := 30) 7 dX1_settle_30 (by decide) ?_
        rw [nI_1]
        exact ih7 (j7 + 1) _ (by omega) (by omega) hV22 hW25
      · skip
        refine R_ifeq (pc := 18) 27 dX1_settle_18 (by decide) (fun _ => ?_) (fun h => absurd (by decide) h)
        refine inc_5_3_1_a (pc := 27) dX1_settle_27 ?_
        have r29 : inR ((nI j7) + 1) 1 20 := inR_add (show inR (nI j7) 0 19 from hrg7) (show inR 1 1 1 from (inR_self _)) (by decide) (by decide)
        have e30 := ti_add (l := 1) (h := 20) (show inR (nI j7) 0 19 from hrg7) (show inR 1 1 1 from (inR_self _)) (by decide) (by decide)
        refine R_goto (pc := 30) 7 dX1_settle_30 (by decide) ?_
        rw [nI_1]
        exact ih7 (j7 + 1) _ (by omega) (by omega) hI7 hC7
  exact HL7 20 0 _ (by omega) (by omega) hV2 hW5
set_option maxRecDepth 100000 in
set_option maxHeartbeats 40000000 in
theorem gx_X1_settle_126 {G : vG} {l : Launch} (σ : Sg) (b : Int32) (hI : Inv σ) : Sp G l yX1_settle cX1_settle 5 (some .boolean) 5 0 0 [.ref 58, .int b, .ref 126] (WW σ) (QI (fun _ w2 => ∃ σ2, w2 = WW σ2 ∧ Inv σ2 ∧ Cor σ σ2)) := by
  refine Sp_of_R [(some (.ref 58)), (some (.int b)), (some (.ref 126)), none, none] [none, none] rfl (by simp) rfl (Nat.le_of_ble_eq_true rfl) ?_
  refine R_aload_n (pc := 0) dX1_settle_0 rfl rfl ?_
  refine R_iload_n (pc := 1) dX1_settle_1 rfl rfl ?_
  refine k_X1_56 (pc := 2) (gx_X1_findLeaders _ _ hI) rfl (c_58 _) (by decide) (Nat.le_refl _) (Nat.le_refl _) (Nat.le_of_ble_eq_true rfl) dX1_settle_2 (fun w2 h => ?_)
  obtain ⟨σx3, rfl, hV2, hW4⟩ := h
  have hW5 := Cor.trans (show Cor σ σ from Cor.rfl' σ) hW4
  refine R_iconst (pc := 5) (v := 0) dX1_settle_5 (by decide) ?_
  refine st_5_3_i_a (pc := 6) dX1_settle_6 ?_
  have HL7 : ∀ (q j7 : Nat) (σ7 : Sg), j7 + q = 20 → 0 ≤ j7 → Inv σ7 → Cor σ σ7 → R G l yX1_settle cX1_settle 5 (some .boolean) 5 0 0 (QI (fun _ w2 => ∃ σ2, w2 = WW σ2 ∧ Inv σ2 ∧ Cor σ σ2)) 7 [(some (.ref 58)), (some (.int b)), (some (.ref 126)), (some (.int (nI j7))), none] [] (WW σ7) 0 0 := by
    intro q
    induction q with
    | zero =>
      intro j7 σ7 hj hs7 hI7 hC7
      obtain rfl : j7 = 20 := by omega
      refine R_iload_n (pc := 7) dX1_settle_7 rfl rfl ?_
      refine R_bipush (pc := 8) (v := 20) dX1_settle_8 (by decide) ?_
      refine R_icge (pc := 10) 33 dX1_settle_10 (by decide) (fun _ => ?_) (fun h => absurd (by decide) h)
      refine R_iconst (pc := 33) (v := 0) dX1_settle_33 (by decide) ?_
      refine st_5_3_i_a (pc := 34) dX1_settle_34 ?_
      have HL35 : ∀ (q j35 : Nat) (σ35 : Sg) (g4_35 : Option Value), j35 + q = 32 → 0 ≤ j35 → Inv σ35 → Cor σ σ35 → R G l yX1_settle cX1_settle 5 (some .boolean) 5 0 0 (QI (fun _ w2 => ∃ σ2, w2 = WW σ2 ∧ Inv σ2 ∧ Cor σ σ2)) 35 [(some (.ref 58)), (some (.int b)), (some (.ref 126)), (some (.int (nI j35))), g4_35] [] (WW σ35) 0 0 := by
        intro q
        induction q with
        | zero =>
          intro j35 σ35 g4_35 hj hs35 hI35 hC35
          obtain rfl : j35 = 32 := by omega
          refine R_iload_n (pc := 35) dX1_settle_35 rfl rfl ?_
          refine R_bipush (pc := 36) (v := 32) dX1_settle_36 (by decide) ?_
          refine R_icge (pc := 38) 71 dX1_settle_38 (by decide) (fun _ => ?_) (fun h => absurd (by decide) h)
          refine R_iconst (pc := 71) (v := 0) dX1_settle_71 (by decide) ?_
          exact R_iret (pc := 72) dX1_settle_72 rfl rfl (Nat.zero_le _) (Nat.zero_le _) ⟨_, rfl, _, rfl, hI35, hC35⟩
        | succ q ih35 =>
          intro j35 σ35 g4_35 hj hs35 hI35 hC35
          have hrg35 : inR (nI j35) 0 31 := inR_ix hs35 (show j35 < 32 by omega) (by decide) (by decide) (by decide)
          have hlt35 : j35 < 32 := by omega
          refine R_iload_n (pc := 35) dX1_settle_35 rfl rfl ?_
          refine R_bipush (pc := 36) (v := 32) dX1_settle_36 (by decide) ?_
          refine R_icge (pc := 38) 71 dX1_settle_38 (by decide) (fun h => False.elim (by have q1 := ti_le h; have q2 := ti_in (show inR (nI j35) 0 31 from hrg35); have q3 := ti_in (show inR 32 32 32 from (inR_self _)); have z0 : (0 : Int32).toInt = 0 := (by decide);  have z1 : (31 : Int32).toInt = 31 := (by decide);  have z2 : (32 : Int32).toInt = 32 := (by decide); omega)) (fun _ => ?_)
          refine R_aload_n (pc := 41) dX1_settle_41 rfl rfl ?_
          refine R_iload_n (pc := 42) dX1_settle_42 rfl rfl ?_
          refine k_X1_68 (pc := 43) (gx_X1_narrow _ _ hI35) rfl (c_58 _) (by decide) (Nat.le_refl _) (Nat.le_refl _) (Nat.le_of_ble_eq_true rfl) dX1_settle_43 (fun y9 w2 h => ?_)
          obtain ⟨σx11, rfl, hV10, hW12⟩ := h
          have hW13 := Cor.trans hC35 hW12
          refine st_5_4_i_i (pc := 46) dX1_settle_46 ?_
          refine R_aload_n (pc := 48) dX1_settle_48 rfl rfl ?_
          refine R_iload_n (pc := 49) dX1_settle_49 rfl rfl ?_
          refine k_X1_72 (pc := 50) (gx_X1_isSomeEmpty _ _ hV10) rfl (c_58 _) (by decide) (Nat.le_refl _) (Nat.le_refl _) (Nat.le_of_ble_eq_true rfl) dX1_settle_50 (fun y14 w2 h => ?_)
          subst h
          refine R_ifeq (pc := 53) 58 dX1_settle_53 (by decide) (fun b53_15 => ?_) (fun b53_15 => ?_)
          · skip
            refine R_iload (pc := 58) dX1_settle_58 rfl ?_
            refine R_ifne (pc := 60) 65 dX1_settle_60 (by decide) (fun b60_16 => ?_) (fun b60_16 => ?_)
            · skip
              refine inc_5_3_1_a (pc := 65) dX1_settle_65 ?_
              have r17 : inR ((nI j35) + 1) 1 32 := inR_add (show inR (nI j35) 0 31 from hrg35) (show inR 1 1 1 from (inR_self _)) (by decide) (by decide)
              have e18 := ti_add (l := 1) (h := 32) (show inR (nI j35) 0 31 from hrg35) (show inR 1 1 1 from (inR_self _)) (by decide) (by decide)
              refine R_goto (pc := 68) 35 dX1_settle_68 (by decide) ?_
              rw [nI_1]
              exact ih35 (j35 + 1) _ _ (by omega) (by omega) hV10 hW13
            · skip
              refine R_iconst (pc := 63) (v := 1) dX1_settle_63 (by decide) ?_
              exact R_iret (pc := 64) dX1_settle_64 rfl rfl (Nat.zero_le _) (Nat.zero_le _) ⟨_, rfl, _, rfl, hV10, hW13⟩
          · skip
            refine R_iconst (pc := 56) (v := 0) dX1_settle_56 (by decide) ?_
            exact R_iret (pc := 57) dX1_settle_57 rfl rfl (Nat.zero_le _) (Nat.zero_le _) ⟨_, rfl, _, rfl, hV10, hW13⟩
      exact HL35 32 0 _ _ (by omega) (by omega) hI7 hC7
    | succ q ih7 =>
      intro j7 σ7 hj hs7 hI7 hC7
      have hrg7 : inR (nI j7) 0 19 := inR_ix hs7 (show j7 < 20 by omega) (by decide) (by decide) (by decide)
      have hlt7 : j7 < 20 := by omega
      refine R_iload_n (pc := 7) dX1_settle_7 rfl rfl ?_
      refine R_bipush (pc := 8) (v := 20) dX1_settle_8 (by decide) ?_
      refine R_icge (pc := 10) 33 dX1_settle_10 (by decide) (fun h => False.elim (by have q1 := ti_le h; have q2 := ti_in (show inR (nI j7) 0 19 from hrg7); have q3 := ti_in (show inR 20 20 20 from (inR_self _)); have z0 : (0 : Int32).toInt = 0 := (by decide);  have z1 : (19 : Int32).toInt = 19 := (by decide);  have z2 : (20 : Int32).toInt = 20 := (by decide); omega)) (fun _ => ?_)
      refine R_iload_n (pc := 13) dX1_settle_13 rfl rfl ?_
      refine R_iload_n (pc := 14) dX1_settle_14 rfl rfl ?_
      refine k_X1_60 (pc := 15) (sp_X8_has _ _ _) rfl (by decide) (Nat.le_refl _) (Nat.le_refl _) (Nat.le_of_ble_eq_true rfl) dX1_settle_15 (fun x w2 h => ?_)
      rcases h with ⟨rfl, ⟨-, rfl⟩ | ⟨-, rfl⟩⟩
      · skip
        refine R_ifeq (pc := 18) 27 dX1_settle_18 (by decide) (fun h => absurd h (by decide)) (fun _ => ?_)
        refine R_aload_n (pc := 21) dX1_settle_21 rfl rfl ?_
        refine R_iload_n (pc := 22) dX1_settle_22 rfl rfl ?_
        refine R_aload_n (pc := 23) dX1_settle_23 rfl rfl ?_
        refine k_X1_64 (pc := 24) (gx_X1_openPublished_126 _ _ hI7 hrg7) rfl (c_58 _) (by decide) (Nat.le_refl _) (Nat.le_refl _) (Nat.le_of_ble_eq_true rfl) dX1_settle_24 (fun w2 h => ?_)
        obtain ⟨σx23, rfl, hV22, hW24⟩ := h
        have hW25 := Cor.trans hC7 hW24
        refine inc_5_3_1_a (pc := 27) dX1_settle_27 ?_
        have r26 : inR ((nI j7) + 1) 1 20 := inR_add (show inR (nI j7) 0 19 from hrg7) (show inR 1 1 1 from (inR_self _)) (by decide) (by decide)
        have e27 := ti_add (l := 1) (h := 20) (show inR (nI j7) 0 19 from hrg7) (show inR 1 1 1 from (inR_self _)) (by decide) (by decide)
        refine R_goto (pc := 30) 7 dX1_settle_30 (by decide) ?_
        rw [nI_1]
        exact ih7 (j7 + 1) _ (by omega) (by omega) hV22 hW25
      · skip
        refine R_ifeq (pc := 18) 27 dX1_settle_18 (by decide) (fun _ => ?_) (fun h => absurd (by decide) h)
        refine inc_5_3_1_a (pc := 27) dX1_settle_27 ?_
        have r29 : inR ((nI j7) + 1) 1 20 := inR_add (show inR (nI j7) 0 19 from hrg7) (show inR 1 1 1 from (inR_self _)) (by decide) (by decide)
        have e30 := ti_add (l := 1) (h := 20) (show inR (nI j7) 0 19 from hrg7) (show inR 1 1 1 from (inR_self _)) (by decide) (by decide)
        refine R_goto (pc := 30) 7 dX1_settle_30 (by decide) ?_
        rw [nI_1]
        exact ih7 (j7 + 1) _ (by omega) (by omega) hI7 hC7
  exact HL7 20 0 _ (by omega) (by omega) hV2 hW5
set_option maxRecDepth 100000 in
set_option maxHeartbeats 40000000 in
theorem gx_X1_settle_133 {G : vG} {l : Launch} (σ : Sg) (b : Int32) (hI : Inv σ) : Sp G l yX1_settle cX1_settle 5 (some .boolean) 5 0 0 [.ref 58, .int b, .ref 133] (WW σ) (QI (fun _ w2 => ∃ σ2, w2 = WW σ2 ∧ Inv σ2 ∧ Cor σ σ2)) := by
  refine Sp_of_R [(some (.ref 58)), (some (.int b)), (some (.ref 133)), none, none] [none, none] rfl (by simp) rfl (Nat.le_of_ble_eq_true rfl) ?_
  refine R_aload_n (pc := 0) dX1_settle_0 rfl rfl ?_
  refine R_iload_n (pc := 1) dX1_settle_1 rfl rfl ?_
  refine k_X1_56 (pc := 2) (gx_X1_findLeaders _ _ hI) rfl (c_58 _) (by decide) (Nat.le_refl _) (Nat.le_refl _) (Nat.le_of_ble_eq_true rfl) dX1_settle_2 (fun w2 h => ?_)
  obtain ⟨σx3, rfl, hV2, hW4⟩ := h
  have hW5 := Cor.trans (show Cor σ σ from Cor.rfl' σ) hW4
  refine R_iconst (pc := 5) (v := 0) dX1_settle_5 (by decide) ?_
  refine st_5_3_i_a (pc := 6) dX1_settle_6 ?_
  have HL7 : ∀ (q j7 : Nat) (σ7 : Sg), j7 + q = 20 → 0 ≤ j7 → Inv σ7 → Cor σ σ7 → R G l yX1_settle cX1_settle 5 (some .boolean) 5 0 0 (QI (fun _ w2 => ∃ σ2, w2 = WW σ2 ∧ Inv σ2 ∧ Cor σ σ2)) 7 [(some (.ref 58)), (some (.int b)), (some (.ref 133)), (some (.int (nI j7))), none] [] (WW σ7) 0 0 := by
    intro q
    induction q with
    | zero =>
      intro j7 σ7 hj hs7 hI7 hC7
      obtain rfl : j7 = 20 := by omega
      refine R_iload_n (pc := 7) dX1_settle_7 rfl rfl ?_
      refine R_bipush (pc := 8) (v := 20) dX1_settle_8 (by decide) ?_
      refine R_icge (pc := 10) 33 dX1_settle_10 (by decide) (fun _ => ?_) (fun h => absurd (by decide) h)
      refine R_iconst (pc := 33) (v := 0) dX1_settle_33 (by decide) ?_
      refine st_5_3_i_a (pc := 34) dX1_settle_34 ?_
      have HL35 : ∀ (q j35 : Nat) (σ35 : Sg) (g4_35 : Option Value), j35 + q = 32 → 0 ≤ j35 → Inv σ35 → Cor σ σ35 → R G l yX1_settle cX1_settle 5 (some .boolean) 5 0 0 (QI (fun _ w2 => ∃ σ2, w2 = WW σ2 ∧ Inv σ2 ∧ Cor σ σ2)) 35 [(some (.ref 58)), (some (.int b)), (some (.ref 133)), (some (.int (nI j35))), g4_35] [] (WW σ35) 0 0 := by
        intro q
        induction q with
        | zero =>
          intro j35 σ35 g4_35 hj hs35 hI35 hC35
          obtain rfl : j35 = 32 := by omega
          refine R_iload_n (pc := 35) dX1_settle_35 rfl rfl ?_
          refine R_bipush (pc := 36) (v := 32) dX1_settle_36 (by decide) ?_
          refine R_icge (pc := 38) 71 dX1_settle_38 (by decide) (fun _ => ?_) (fun h => absurd (by decide) h)
          refine R_iconst (pc := 71) (v := 0) dX1_settle_71 (by decide) ?_
          exact R_iret (pc := 72) dX1_settle_72 rfl rfl (Nat.zero_le _) (Nat.zero_le _) ⟨_, rfl, _, rfl, hI35, hC35⟩
        | succ q ih35 =>
          intro j35 σ35 g4_35 hj hs35 hI35 hC35
          have hrg35 : inR (nI j35) 0 31 := inR_ix hs35 (show j35 < 32 by omega) (by decide) (by decide) (by decide)
          have hlt35 : j35 < 32 := by omega
          refine R_iload_n (pc := 35) dX1_settle_35 rfl rfl ?_
          refine R_bipush (pc := 36) (v := 32) dX1_settle_36 (by decide) ?_
          refine R_icge (pc := 38) 71 dX1_settle_38 (by decide) (fun h => False.elim (by have q1 := ti_le h; have q2 := ti_in (show inR (nI j35) 0 31 from hrg35); have q3 := ti_in (show inR 32 32 32 from (inR_self _)); have z0 : (0 : Int32).toInt = 0 := (by decide);  have z1 : (31 : Int32).toInt = 31 := (by decide);  have z2 : (32 : Int32).toInt = 32 := (by decide); omega)) (fun _ => ?_)
          refine R_aload_n (pc := 41) dX1_settle_41 rfl rfl ?_
          refine R_iload_n (pc := 42) dX1_settle_42 rfl rfl ?_
          refine k_X1_68 (pc := 43) (gx_X1_narrow _ _ hI35) rfl (c_58 _) (by decide) (Nat.le_refl _) (Nat.le_refl _) (Nat.le_of_ble_eq_true rfl) dX1_settle_43 (fun y9 w2 h => ?_)
          obtain ⟨σx11, rfl, hV10, hW12⟩ := h
          have hW13 := Cor.trans hC35 hW12
          refine st_5_4_i_i (pc := 46) dX1_settle_46 ?_
          refine R_aload_n (pc := 48) dX1_settle_48 rfl rfl ?_
          refine R_iload_n (pc := 49) dX1_settle_49 rfl rfl ?_
          refine k_X1_72 (pc := 50) (gx_X1_isSomeEmpty _ _ hV10) rfl (c_58 _) (by decide) (Nat.le_refl _) (Nat.le_refl _) (Nat.le_of_ble_eq_true rfl) dX1_settle_50 (fun y14 w2 h => ?_)
          subst h
          refine R_ifeq (pc := 53) 58 dX1_settle_53 (by decide) (fun b53_15 => ?_) (fun b53_15 => ?_)
          · skip
            refine R_iload (pc := 58) dX1_settle_58 rfl ?_
            refine R_ifne (pc := 60) 65 dX1_settle_60 (by decide) (fun b60_16 => ?_) (fun b60_16 => ?_)
            · skip
              refine inc_5_3_1_a (pc := 65) dX1_settle_65 ?_
              have r17 : inR ((nI j35) + 1) 1 32 := inR_add (show inR (nI j35) 0 31 from hrg35) (show inR 1 1 1 from (inR_self _)) (by decide) (by decide)
              have e18 := ti_add (l := 1) (h := 32) (show inR (nI j35) 0 31 from hrg35) (show inR 1 1 1 from (inR_self _)) (by decide) (by decide)
              refine R_goto (pc := 68) 35 dX1_settle_68 (by decide) ?_
              rw [nI_1]
              exact ih35 (j35 + 1) _ _ (by omega) (by omega) hV10 hW13
            · skip
              refine R_iconst (pc := 63) (v := 1) dX1_settle_63 (by decide) ?_
              exact R_iret (pc := 64) dX1_settle_64 rfl rfl (Nat.zero_le _) (Nat.zero_le _) ⟨_, rfl, _, rfl, hV10, hW13⟩
          · skip
            refine R_iconst (pc := 56) (v := 0) dX1_settle_56 (by decide) ?_
            exact R_iret (pc := 57) dX1_settle_57 rfl rfl (Nat.zero_le _) (Nat.zero_le _) ⟨_, rfl, _, rfl, hV10, hW13⟩
      exact HL35 32 0 _ _ (by omega) (by omega) hI7 hC7
    | succ q ih7 =>
      intro j7 σ7 hj hs7 hI7 hC7
      have hrg7 : inR (nI j7) 0 19 := inR_ix hs7 (show j7 < 20 by omega) (by decide) (by decide) (by decide)
      have hlt7 : j7 < 20 := by omega
      refine R_iload_n (pc := 7) dX1_settle_7 rfl rfl ?_
      refine R_bipush (pc := 8) (v := 20) dX1_settle_8 (by decide) ?_
      refine R_icge (pc := 10) 33 dX1_settle_10 (by decide) (fun h => False.elim (by have q1 := ti_le h; have q2 := ti_in (show inR (nI j7) 0 19 from hrg7); have q3 := ti_in (show inR 20 20 20 from (inR_self _)); have z0 : (0 : Int32).toInt = 0 := (by decide);  have z1 : (19 : Int32).toInt = 19 := (by decide);  have z2 : (20 : Int32).toInt = 20 := (by decide); omega)) (fun _ => ?_)
      refine R_iload_n (pc := 13) dX1_settle_13 rfl rfl ?_
      refine R_iload_n (pc := 14) dX1_settle_14 rfl rfl ?_
      refine k_X1_60 (pc := 15) (sp_X8_has _ _ _) rfl (by decide) (Nat.le_refl _) (Nat.le_refl _) (Nat.le_of_ble_eq_true rfl) dX1_settle_15 (fun x w2 h => ?_)
      rcases h with ⟨rfl, ⟨-, rfl⟩ | ⟨-, rfl⟩⟩
      · skip
        refine R_ifeq (pc := 18) 27 dX1_settle_18 (by decide) (fun h => absurd h (by decide)) (fun _ => ?_)
        refine R_aload_n (pc := 21) dX1_settle_21 rfl rfl ?_
        refine R_iload_n (pc := 22) dX1_settle_22 rfl rfl ?_
        refine R_aload_n (pc := 23) dX1_settle_23 rfl rfl ?_
        refine k_X1_64 (pc := 24) (gx_X1_openPublished_133 _ _ hI7 hrg7) rfl (c_58 _) (by decide) (Nat.le_refl _) (Nat.le_refl _) (Nat.le_of_ble_eq_true rfl) dX1_settle_24 (fun w2 h => ?_)
        obtain ⟨σx23, rfl, hV22, hW24⟩ := h
        have hW25 := Cor.trans hC7 hW24
        refine inc_5_3_1_a (pc := 27) dX1_settle_27 ?_
        have r26 : inR ((nI j7) + 1) 1 20 := inR_add (show inR (nI j7) 0 19 from hrg7) (show inR 1 1 1 from (inR_self _)) (by decide) (by decide)
        have e27 := ti_add (l := 1) (h := 20) (show inR (nI j7) 0 19 from hrg7) (show inR 1 1 1 from (inR_self _)) (by decide) (by decide)
        refine R_goto (pc := 30) 7 dX1_settle_30 (by decide) ?_
        rw [nI_1]
        exact ih7 (j7 + 1) _ (by omega) (by omega) hV22 hW25
      · skip
        refine R_ifeq (pc := 18) 27 dX1_settle_18 (by decide) (fun _ => ?_) (fun h => absurd (by decide) h)
        refine inc_5_3_1_a (pc := 27) dX1_settle_27 ?_
        have r29 : inR ((nI j7) + 1) 1 20 := inR_add (show inR (nI j7) 0 19 from hrg7) (show inR 1 1 1 from (inR_self _)) (by decide) (by decide)
        have e30 := ti_add (l := 1) (h := 20) (show inR (nI j7) 0 19 from hrg7) (show inR 1 1 1 from (inR_self _)) (by decide) (by decide)
        refine R_goto (pc := 30) 7 dX1_settle_30 (by decide) ?_
        rw [nI_1]
        exact ih7 (j7 + 1) _ (by omega) (by omega) hI7 hC7
  exact HL7 20 0 _ (by omega) (by omega) hV2 hW5
