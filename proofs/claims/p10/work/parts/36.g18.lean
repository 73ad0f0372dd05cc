/-! methods on any state that keeps the invariant -/
theorem dX9_mayStand_0 : decode cX9_mayStand 0 = .ok (.aload_n 0, 1) := by decide +kernel
theorem dX9_mayStand_1 : decode cX9_mayStand 1 = .ok (.iload_n 2, 1) := by decide +kernel
theorem dX9_mayStand_2 : decode cX9_mayStand 2 = .ok (.invokevirtual 236, 3) := by decide +kernel
theorem dX9_mayStand_5 : decode cX9_mayStand 5 = .ok (.ifCond .ne 7, 3) := by decide +kernel
theorem dX9_mayStand_8 : decode cX9_mayStand 8 = .ok (.iconst 1, 1) := by decide +kernel
theorem dX9_mayStand_9 : decode cX9_mayStand 9 = .ok (.goto 4, 3) := by decide +kernel
theorem dX9_mayStand_12 : decode cX9_mayStand 12 = .ok (.iconst 0, 1) := by decide +kernel
theorem dX9_mayStand_13 : decode cX9_mayStand 13 = .ok (.istore_n 3, 1) := by decide +kernel
theorem dX9_mayStand_14 : decode cX9_mayStand 14 = .ok (.aload_n 0, 1) := by decide +kernel
theorem dX9_mayStand_15 : decode cX9_mayStand 15 = .ok (.getfield 102, 3) := by decide +kernel
theorem dX9_mayStand_18 : decode cX9_mayStand 18 = .ok (.iload_n 1, 1) := by decide +kernel
theorem dX9_mayStand_19 : decode cX9_mayStand 19 = .ok (.iaload, 1) := by decide +kernel
theorem dX9_mayStand_20 : decode cX9_mayStand 20 = .ok (.istore 4, 2) := by decide +kernel
theorem dX9_mayStand_22 : decode cX9_mayStand 22 = .ok (.iconst 0, 1) := by decide +kernel
theorem dX9_mayStand_23 : decode cX9_mayStand 23 = .ok (.istore 5, 2) := by decide +kernel
theorem dX9_mayStand_25 : decode cX9_mayStand 25 = .ok (.iload 5, 2) := by decide +kernel
theorem dX9_mayStand_27 : decode cX9_mayStand 27 = .ok (.iload 4, 2) := by decide +kernel
theorem dX9_mayStand_29 : decode cX9_mayStand 29 = .ok (.if_icmp .ge 60, 3) := by decide +kernel
theorem dX9_mayStand_32 : decode cX9_mayStand 32 = .ok (.iload_n 3, 1) := by decide +kernel
theorem dX9_mayStand_33 : decode cX9_mayStand 33 = .ok (.ifCond .eq 56, 3) := by decide +kernel
theorem dX9_mayStand_36 : decode cX9_mayStand 36 = .ok (.aload_n 0, 1) := by decide +kernel
theorem dX9_mayStand_37 : decode cX9_mayStand 37 = .ok (.getfield 99, 3) := by decide +kernel
theorem dX9_mayStand_40 : decode cX9_mayStand 40 = .ok (.aload_n 0, 1) := by decide +kernel
theorem dX9_mayStand_41 : decode cX9_mayStand 41 = .ok (.getfield 105, 3) := by decide +kernel
theorem dX9_mayStand_44 : decode cX9_mayStand 44 = .ok (.iconst 5, 1) := by decide +kernel
theorem dX9_mayStand_45 : decode cX9_mayStand 45 = .ok (.iload_n 1, 1) := by decide +kernel
theorem dX9_mayStand_46 : decode cX9_mayStand 46 = .ok (.imul, 1) := by decide +kernel
theorem dX9_mayStand_47 : decode cX9_mayStand 47 = .ok (.iload 5, 2) := by decide +kernel
theorem dX9_mayStand_49 : decode cX9_mayStand 49 = .ok (.iadd, 1) := by decide +kernel
theorem dX9_mayStand_50 : decode cX9_mayStand 50 = .ok (.iaload, 1) := by decide +kernel
theorem dX9_mayStand_51 : decode cX9_mayStand 51 = .ok (.iaload, 1) := by decide +kernel
theorem dX9_mayStand_52 : decode cX9_mayStand 52 = .ok (.istore 6, 2) := by decide +kernel
theorem dX9_mayStand_54 : decode cX9_mayStand 54 = .ok (.iload 6, 2) := by decide +kernel
theorem dX9_mayStand_56 : decode cX9_mayStand 56 = .ok (.bipush 64, 2) := by decide +kernel
theorem dX9_mayStand_58 : decode cX9_mayStand 58 = .ok (.if_icmp .ge 23, 3) := by decide +kernel
theorem dX9_mayStand_61 : decode cX9_mayStand 61 = .ok (.iload 6, 2) := by decide +kernel
theorem dX9_mayStand_63 : decode cX9_mayStand 63 = .ok (.iload_n 2, 1) := by decide +kernel
theorem dX9_mayStand_64 : decode cX9_mayStand 64 = .ok (.if_icmp .eq 17, 3) := by decide +kernel
theorem dX9_mayStand_67 : decode cX9_mayStand 67 = .ok (.aload_n 0, 1) := by decide +kernel
theorem dX9_mayStand_68 : decode cX9_mayStand 68 = .ok (.iload_n 2, 1) := by decide +kernel
theorem dX9_mayStand_69 : decode cX9_mayStand 69 = .ok (.iload 6, 2) := by decide +kernel
theorem dX9_mayStand_71 : decode cX9_mayStand 71 = .ok (.invokevirtual 239, 3) := by decide +kernel
theorem dX9_mayStand_74 : decode cX9_mayStand 74 = .ok (.ifCond .eq 7, 3) := by decide +kernel
theorem dX9_mayStand_77 : decode cX9_mayStand 77 = .ok (.iconst 1, 1) := by decide +kernel
theorem dX9_mayStand_78 : decode cX9_mayStand 78 = .ok (.goto 4, 3) := by decide +kernel
theorem dX9_mayStand_81 : decode cX9_mayStand 81 = .ok (.iconst 0, 1) := by decide +kernel
theorem dX9_mayStand_82 : decode cX9_mayStand 82 = .ok (.istore_n 3, 1) := by decide +kernel
theorem dX9_mayStand_83 : decode cX9_mayStand 83 = .ok (.iinc 5 1, 3) := by decide +kernel
theorem dX9_mayStand_86 : decode cX9_mayStand 86 = .ok (.goto (-61), 3) := by decide +kernel
theorem dX9_mayStand_89 : decode cX9_mayStand 89 = .ok (.iconst 0, 1) := by decide +kernel
theorem dX9_mayStand_90 : decode cX9_mayStand 90 = .ok (.istore 5, 2) := by decide +kernel
theorem dX9_mayStand_92 : decode cX9_mayStand 92 = .ok (.iload 5, 2) := by decide +kernel
theorem dX9_mayStand_94 : decode cX9_mayStand 94 = .ok (.iload 4, 2) := by decide +kernel
theorem dX9_mayStand_96 : decode cX9_mayStand 96 = .ok (.if_icmp .ge 94, 3) := by decide +kernel
theorem dX9_mayStand_99 : decode cX9_mayStand 99 = .ok (.iload_n 3, 1) := by decide +kernel
theorem dX9_mayStand_100 : decode cX9_mayStand 100 = .ok (.ifCond .eq 90, 3) := by decide +kernel
theorem dX9_mayStand_103 : decode cX9_mayStand 103 = .ok (.iload 4, 2) := by decide +kernel
theorem dX9_mayStand_105 : decode cX9_mayStand 105 = .ok (.iconst 1, 1) := by decide +kernel
theorem dX9_mayStand_106 : decode cX9_mayStand 106 = .ok (.if_icmp .le 84, 3) := by decide +kernel
theorem dX9_mayStand_109 : decode cX9_mayStand 109 = .ok (.aload_n 0, 1) := by decide +kernel
theorem dX9_mayStand_110 : decode cX9_mayStand 110 = .ok (.getfield 99, 3) := by decide +kernel
theorem dX9_mayStand_113 : decode cX9_mayStand 113 = .ok (.aload_n 0, 1) := by decide +kernel
theorem dX9_mayStand_114 : decode cX9_mayStand 114 = .ok (.getfield 105, 3) := by decide +kernel
theorem dX9_mayStand_117 : decode cX9_mayStand 117 = .ok (.iconst 5, 1) := by decide +kernel
theorem dX9_mayStand_118 : decode cX9_mayStand 118 = .ok (.iload_n 1, 1) := by decide +kernel
theorem dX9_mayStand_119 : decode cX9_mayStand 119 = .ok (.imul, 1) := by decide +kernel
theorem dX9_mayStand_120 : decode cX9_mayStand 120 = .ok (.iload 5, 2) := by decide +kernel
theorem dX9_mayStand_122 : decode cX9_mayStand 122 = .ok (.iconst 1, 1) := by decide +kernel
theorem dX9_mayStand_123 : decode cX9_mayStand 123 = .ok (.iadd, 1) := by decide +kernel
theorem dX9_mayStand_124 : decode cX9_mayStand 124 = .ok (.iload 4, 2) := by decide +kernel
theorem dX9_mayStand_126 : decode cX9_mayStand 126 = .ok (.if_icmp .ge 8, 3) := by decide +kernel
theorem dX9_mayStand_129 : decode cX9_mayStand 129 = .ok (.iload 5, 2) := by decide +kernel
theorem dX9_mayStand_131 : decode cX9_mayStand 131 = .ok (.goto 4, 3) := by decide +kernel
theorem dX9_mayStand_134 : decode cX9_mayStand 134 = .ok (.iconst 0, 1) := by decide +kernel
theorem dX9_mayStand_135 : decode cX9_mayStand 135 = .ok (.iadd, 1) := by decide +kernel
theorem dX9_mayStand_136 : decode cX9_mayStand 136 = .ok (.iaload, 1) := by decide +kernel
theorem dX9_mayStand_137 : decode cX9_mayStand 137 = .ok (.iaload, 1) := by decide +kernel
theorem dX9_mayStand_138 : decode cX9_mayStand 138 = .ok (.istore 6, 2) := by decide +kernel
theorem dX9_mayStand_140 : decode cX9_mayStand 140 = .ok (.aload_n 0, 1) := by decide +kernel
theorem dX9_mayStand_141 : decode cX9_mayStand 141 = .ok (.getfield 99, 3) := by decide +kernel
theorem dX9_mayStand_144 : decode cX9_mayStand 144 = .ok (.aload_n 0, 1) := by decide +kernel
theorem dX9_mayStand_145 : decode cX9_mayStand 145 = .ok (.getfield 105, 3) := by decide +kernel
theorem dX9_mayStand_148 : decode cX9_mayStand 148 = .ok (.iconst 5, 1) := by decide +kernel
theorem dX9_mayStand_149 : decode cX9_mayStand 149 = .ok (.iload_n 1, 1) := by decide +kernel
theorem dX9_mayStand_150 : decode cX9_mayStand 150 = .ok (.imul, 1) := by decide +kernel
theorem dX9_mayStand_151 : decode cX9_mayStand 151 = .ok (.iload 5, 2) := by decide +kernel
theorem dX9_mayStand_153 : decode cX9_mayStand 153 = .ok (.iconst 1, 1) := by decide +kernel
theorem dX9_mayStand_154 : decode cX9_mayStand 154 = .ok (.iadd, 1) := by decide +kernel
theorem dX9_mayStand_155 : decode cX9_mayStand 155 = .ok (.iload 4, 2) := by decide +kernel
theorem dX9_mayStand_157 : decode cX9_mayStand 157 = .ok (.if_icmp .ge 10, 3) := by decide +kernel
theorem dX9_mayStand_160 : decode cX9_mayStand 160 = .ok (.iload 5, 2) := by decide +kernel
theorem dX9_mayStand_162 : decode cX9_mayStand 162 = .ok (.iconst 1, 1) := by decide +kernel
theorem dX9_mayStand_163 : decode cX9_mayStand 163 = .ok (.iadd, 1) := by decide +kernel
theorem dX9_mayStand_164 : decode cX9_mayStand 164 = .ok (.goto 5, 3) := by decide +kernel
theorem dX9_mayStand_167 : decode cX9_mayStand 167 = .ok (.iload 5, 2) := by decide +kernel
theorem dX9_mayStand_169 : decode cX9_mayStand 169 = .ok (.iadd, 1) := by decide +kernel
theorem dX9_mayStand_170 : decode cX9_mayStand 170 = .ok (.iaload, 1) := by decide +kernel
theorem dX9_mayStand_171 : decode cX9_mayStand 171 = .ok (.iaload, 1) := by decide +kernel
theorem dX9_mayStand_172 : decode cX9_mayStand 172 = .ok (.istore 7, 2) := by decide +kernel
theorem dX9_mayStand_174 : decode cX9_mayStand 174 = .ok (.aload_n 0, 1) := by decide +kernel
theorem dX9_mayStand_175 : decode cX9_mayStand 175 = .ok (.iload_n 2, 1) := by decide +kernel
theorem dX9_mayStand_176 : decode cX9_mayStand 176 = .ok (.iload 6, 2) := by decide +kernel
theorem dX9_mayStand_178 : decode cX9_mayStand 178 = .ok (.iload 7, 2) := by decide +kernel
theorem dX9_mayStand_180 : decode cX9_mayStand 180 = .ok (.invokevirtual 242, 3) := by decide +kernel
theorem dX9_mayStand_183 : decode cX9_mayStand 183 = .ok (.istore_n 3, 1) := by decide +kernel
theorem dX9_mayStand_184 : decode cX9_mayStand 184 = .ok (.iinc 5 1, 3) := by decide +kernel
theorem dX9_mayStand_187 : decode cX9_mayStand 187 = .ok (.goto (-95), 3) := by decide +kernel
theorem dX9_mayStand_190 : decode cX9_mayStand 190 = .ok (.iload_n 3, 1) := by decide +kernel
theorem dX9_mayStand_191 : decode cX9_mayStand 191 = .ok (.ireturn, 1) := by decide +kernel
set_option maxRecDepth 100000 in
set_option maxHeartbeats 40000000 in
theorem gx_X9_mayStand {G : vG} {l : Launch} (σ : Sg) (c k : Int32) (hI : Inv σ) (hc : inR c 0 19) : Sp G l yX9_mayStand cX9_mayStand 8 (some .boolean) 2 0 0 [.ref 140, .int c, .int k] (WW σ) (QI (fun x w2 => w2 = WW σ)) := by
  refine Sp_of_R [(some (.ref 140)), (some (.int c)), (some (.int k)), none, none, none, none, none] [none, none, none, none, none] rfl (by simp) rfl (Nat.le_of_ble_eq_true rfl) ?_
  refine R_aload_n (pc := 0) dX9_mayStand_0 rfl rfl ?_
  refine R_iload_n (pc := 1) dX9_mayStand_1 rfl rfl ?_
  refine k_X9_236 (pc := 2) (gx_X9_isWall _ _ hI) rfl (c_140 _) (by decide) (Nat.le_refl _) (Nat.le_refl _) (Nat.le_of_ble_eq_true rfl) dX9_mayStand_2 (fun x w2 h => ?_)
  rcases h with ⟨rfl, rfl | rfl⟩
  · skip
    refine R_ifne (pc := 5) 12 dX9_mayStand_5 (by decide) (fun _ => ?_) (fun h => absurd h (by decide))
    refine R_iconst (pc := 12) (v := 0) dX9_mayStand_12 (by decide) ?_
    refine st_8_3_i_i (pc := 13) dX9_mayStand_13 ?_
    refine R_aload_n (pc := 14) dX9_mayStand_14 rfl rfl ?_
    refine g_X9_102 (pc := 15) (v := .ref 168) rfl dX9_mayStand_15 (c_140 _) rfl ?_
    refine R_iload_n (pc := 18) dX9_mayStand_18 rfl rfl ?_
    have hx3 : vp_in c 20 := (vp_of_inR hc (by decide))
    refine R_iaload (pc := 19) dX9_mayStand_19 (c_168 _) hx3 ?_
    refine st_8_4_i_i (pc := 20) dX9_mayStand_20 ?_
    refine R_iconst (pc := 22) (v := 0) dX9_mayStand_22 (by decide) ?_
    refine st_8_5_i_i (pc := 23) dX9_mayStand_23 ?_
    have HL25 : ∀ (q j25 : Nat) (g3_25 : Int32) (g6_25 : Option Value) (g7_25 : Option Value), j25 + q = 5 → 0 ≤ j25 → inR g3_25 0 1 → R G l yX9_mayStand cX9_mayStand 8 (some .boolean) 2 0 0 (QI (fun x w2 => w2 = WW σ)) 25 [(some (.ref 140)), (some (.int c)), (some (.int k)), (some (.int g3_25)), (some (.int (σ.2.2.1 168 (Int32.toNatClampNeg c)))), (some (.int (nI j25))), g6_25, g7_25] [] (WW σ) 0 0 := by
      intro q
      induction q with
      | zero =>
        intro j25 g3_25 g6_25 g7_25 hj hs25 hg3_25
        obtain rfl : j25 = 5 := by omega
        refine R_iload (pc := 25) dX9_mayStand_25 rfl ?_
        refine R_iload (pc := 27) dX9_mayStand_27 rfl ?_
        refine R_icge (pc := 29) 89 dX9_mayStand_29 (by decide) (fun _ => ?_) (fun h => absurd (Int32.not_lt.mp (inR_up (iva_168 hI _ (lt_of_vp hx3)) (Int32.le_refl _) (by decide)).2) h)
        refine R_iconst (pc := 89) (v := 0) dX9_mayStand_89 (by decide) ?_
        refine st_8_5_i_i (pc := 90) dX9_mayStand_90 ?_
        have HL92 : ∀ (q j92 : Nat) (g3_92 : Int32) (g6_92 : Option Value) (g7_92 : Option Value), j92 + q = 5 → 0 ≤ j92 → inR g3_92 0 1 → R G l yX9_mayStand cX9_mayStand 8 (some .boolean) 2 0 0 (QI (fun x w2 => w2 = WW σ)) 92 [(some (.ref 140)), (some (.int c)), (some (.int k)), (some (.int g3_92)), (some (.int (σ.2.2.1 168 (Int32.toNatClampNeg c)))), (some (.int (nI j92))), g6_92, g7_92] [] (WW σ) 0 0 := by
          intro q
          induction q with
          | zero =>
            intro j92 g3_92 g6_92 g7_92 hj hs92 hg3_92
            obtain rfl : j92 = 5 := by omega
            refine R_iload (pc := 92) dX9_mayStand_92 rfl ?_
            refine R_iload (pc := 94) dX9_mayStand_94 rfl ?_
            refine R_icge (pc := 96) 190 dX9_mayStand_96 (by decide) (fun _ => ?_) (fun h => absurd (Int32.not_lt.mp (inR_up (iva_168 hI _ (lt_of_vp hx3)) (Int32.le_refl _) (by decide)).2) h)
            refine R_iload_n (pc := 190) dX9_mayStand_190 rfl rfl ?_
            exact R_iret (pc := 191) dX9_mayStand_191 rfl (nar01 hg3_92) (Nat.zero_le _) (Nat.zero_le _) ⟨_, rfl, rfl⟩
          | succ q ih92 =>
            intro j92 g3_92 g6_92 g7_92 hj hs92 hg3_92
            have hrg92 : inR (nI j92) 0 4 := inR_ix hs92 (show j92 < 5 by omega) (by decide) (by decide) (by decide)
            have hlt92 : j92 < 5 := by omega
            refine R_iload (pc := 92) dX9_mayStand_92 rfl ?_
            refine R_iload (pc := 94) dX9_mayStand_94 rfl ?_
            refine R_icge (pc := 96) 190 dX9_mayStand_96 (by decide) (fun b96_6 => ?_) (fun b96_6 => ?_)
            · skip
              refine R_iload_n (pc := 190) dX9_mayStand_190 rfl rfl ?_
              exact R_iret (pc := 191) dX9_mayStand_191 rfl (nar01 hg3_92) (Nat.zero_le _) (Nat.zero_le _) ⟨_, rfl, rfl⟩
            · skip
              refine R_iload_n (pc := 99) dX9_mayStand_99 rfl rfl ?_
              refine R_ifeq (pc := 100) 190 dX9_mayStand_100 (by decide) (fun b100_7 => ?_) (fun b100_7 => ?_)
              · skip
                refine R_iload_n (pc := 190) dX9_mayStand_190 rfl rfl ?_
                exact R_iret (pc := 191) dX9_mayStand_191 rfl (nar01 hg3_92) (Nat.zero_le _) (Nat.zero_le _) ⟨_, rfl, rfl⟩
              · skip
                refine R_iload (pc := 103) dX9_mayStand_103 rfl ?_
                refine R_iconst (pc := 105) (v := 1) dX9_mayStand_105 (by decide) ?_
                refine R_icle (pc := 106) 190 dX9_mayStand_106 (by decide) (fun b106_8 => ?_) (fun b106_8 => ?_)
                · skip
                  refine R_iload_n (pc := 190) dX9_mayStand_190 rfl rfl ?_
                  exact R_iret (pc := 191) dX9_mayStand_191 rfl (nar01 hg3_92) (Nat.zero_le _) (Nat.zero_le _) ⟨_, rfl, rfl⟩
                · skip
                  refine R_aload_n (pc := 109) dX9_mayStand_109 rfl rfl ?_
                  refine g_X9_99 (pc := 110) (v := .ref 167) rfl dX9_mayStand_110 (c_140 _) rfl ?_
                  refine R_aload_n (pc := 113) dX9_mayStand_113 rfl rfl ?_
                  refine g_X9_105 (pc := 114) (v := .ref 169) rfl dX9_mayStand_114 (c_140 _) rfl ?_
                  refine R_iconst (pc := 117) (v := 5) dX9_mayStand_117 (by decide) ?_
                  refine R_iload_n (pc := 118) dX9_mayStand_118 rfl rfl ?_
                  refine R_imul (pc := 119) dX9_mayStand_119 ?_
                  have r9 : inR (5 * c) 0 95 := inR_mulc (c := 5) (l := 0) (h := 95) 5 (by decide) (show inR c 0 19 from hc) (by decide) (by decide)
                  have e10 := ti_mulc (c := 5) (l := 0) (h := 95) 5 (by decide) (show inR c 0 19 from hc) (by decide) (by decide)
                  refine R_iload (pc := 120) dX9_mayStand_120 rfl ?_
                  refine R_iconst (pc := 122) (v := 1) dX9_mayStand_122 (by decide) ?_
                  refine R_iadd (pc := 123) dX9_mayStand_123 ?_
                  have r11 : inR ((nI j92) + 1) 1 5 := inR_add (show inR (nI j92) 0 4 from hrg92) (show inR 1 1 1 from (inR_self _)) (by decide) (by decide)
                  have e12 := ti_add (l := 1) (h := 5) (show inR (nI j92) 0 4 from hrg92) (show inR 1 1 1 from (inR_self _)) (by decide) (by decide)
                  refine R_iload (pc := 124) dX9_mayStand_124 rfl ?_
                  refine R_icge (pc := 126) 134 dX9_mayStand_126 (by decide) (fun b126_13 => ?_) (fun b126_13 => ?_)
                  · skip
                    refine R_iconst (pc := 134) (v := 0) dX9_mayStand_134 (by decide) ?_
                    refine R_iadd (pc := 135) dX9_mayStand_135 ?_
                    have r14 : inR ((5 * c) + 0) 0 95 := inR_add (show inR (5 * c) 0 95 from r9) (show inR 0 0 0 from (inR_self _)) (by decide) (by decide)
                    have e15 := ti_add (l := 0) (h := 95) (show inR (5 * c) 0 95 from r9) (show inR 0 0 0 from (inR_self _)) (by decide) (by decide)
                    have hx16 : vp_in ((5 * c) + 0) 100 := (vp_of_inR r14 (by decide))
                    refine R_iaload (pc := 136) dX9_mayStand_136 (c_169 _) hx16 ?_
                    have hx17 : vp_in (σ.2.2.1 169 (Int32.toNatClampNeg ((5 * c) + 0))) 8 := (vp_of_inR (iva_169 hI _ (lt_of_vp hx16)) (by decide))
                    refine R_iaload (pc := 137) dX9_mayStand_137 (c_167 _) hx17 ?_
                    refine st_8_6_i_i (pc := 138) dX9_mayStand_138 ?_
                    refine R_aload_n (pc := 140) dX9_mayStand_140 rfl rfl ?_
                    refine g_X9_99 (pc := 141) (v := .ref 167) rfl dX9_mayStand_141 (c_140 _) rfl ?_
                    refine R_aload_n (pc := 144) dX9_mayStand_144 rfl rfl ?_
                    refine g_X9_105 (pc := 145) (v := .ref 169) rfl dX9_mayStand_145 (c_140 _) rfl ?_
                    refine R_iconst (pc := 148) (v := 5) dX9_mayStand_148 (by decide) ?_
                    refine R_iload_n (pc := 149) dX9_mayStand_149 rfl rfl ?_
                    refine R_imul (pc := 150) dX9_mayStand_150 ?_
                    have r18 : inR (5 * c) 0 95 := inR_mulc (c := 5) (l := 0) (h := 95) 5 (by decide) (show inR c 0 19 from hc) (by decide) (by decide)
                    have e19 := ti_mulc (c := 5) (l := 0) (h := 95) 5 (by decide) (show inR c 0 19 from hc) (by decide) (by decide)
                    refine R_iload (pc := 151) dX9_mayStand_151 rfl ?_
                    refine R_iconst (pc := 153) (v := 1) dX9_mayStand_153 (by decide) ?_
                    refine R_iadd (pc := 154) dX9_mayStand_154 ?_
                    have r20 : inR ((nI j92) + 1) 1 5 := inR_add (show inR (nI j92) 0 4 from hrg92) (show inR 1 1 1 from (inR_self _)) (by decide) (by decide)
                    have e21 := ti_add (l := 1) (h := 5) (show inR (nI j92) 0 4 from hrg92) (show inR 1 1 1 from (inR_self _)) (by decide) (by decide)
                    refine R_iload (pc := 155) dX9_mayStand_155 rfl ?_
                    refine R_icge (pc := 157) 167 dX9_mayStand_157 (by decide) (fun b157_22 => ?_) (fun b157_22 => ?_)
                    · skip
                      refine R_iload (pc := 167) dX9_mayStand_167 rfl ?_
                      refine R_iadd (pc := 169) dX9_mayStand_169 ?_
                      have r23 : inR ((5 * c) + (nI j92)) 0 99 := inR_add (show inR (5 * c) 0 95 from r18) (show inR (nI j92) 0 4 from hrg92) (by decide) (by decide)
                      have e24 := ti_add (l := 0) (h := 99) (show inR (5 * c) 0 95 from r18) (show inR (nI j92) 0 4 from hrg92) (by decide) (by decide)
                      have hx25 : vp_in ((5 * c) + (nI j92)) 100 := (vp_of_inR r23 (by decide))
                      refine R_iaload (pc := 170) dX9_mayStand_170 (c_169 _) hx25 ?_
                      have hx26 : vp_in (σ.2.2.1 169 (Int32.toNatClampNeg ((5 * c) + (nI j92)))) 8 := (vp_of_inR (iva_169 hI _ (lt_of_vp hx25)) (by decide))
                      refine R_iaload (pc := 171) dX9_mayStand_171 (c_167 _) hx26 ?_
                      refine st_8_7_i_i (pc := 172) dX9_mayStand_172 ?_
                      refine R_aload_n (pc := 174) dX9_mayStand_174 rfl rfl ?_
                      refine R_iload_n (pc := 175) dX9_mayStand_175 rfl rfl ?_
                      refine R_iload (pc := 176) dX9_mayStand_176 rfl ?_
                      refine R_iload (pc := 178) dX9_mayStand_178 rfl ?_
                      refine k_X9_242 (pc := 180) (gx_X9_isOrdered _ _ _ _ hI) rfl (c_140 _) (by decide) (Nat.le_refl _) (Nat.le_refl _) (Nat.le_of_ble_eq_true rfl) dX9_mayStand_180 (fun x w2 h => ?_)
                      rcases h with ⟨rfl, rfl | rfl⟩
                      · skip
                        refine st_8_3_i_i (pc := 183) dX9_mayStand_183 ?_
                        refine inc_8_5_1_i (pc := 184) dX9_mayStand_184 ?_
                        have r28 : inR ((nI j92) + 1) 1 5 := inR_add (show inR (nI j92) 0 4 from hrg92) (show inR 1 1 1 from (inR_self _)) (by decide) (by decide)
                        have e29 := ti_add (l := 1) (h := 5) (show inR (nI j92) 0 4 from hrg92) (show inR 1 1 1 from (inR_self _)) (by decide) (by decide)
                        refine R_goto (pc := 187) 92 dX9_mayStand_187 (by decide) ?_
                        rw [nI_1]
                        exact ih92 (j92 + 1) _ _ _ (by omega) (by omega) (show inR 1 0 1 from ⟨by decide, by decide⟩)
                      · skip
                        refine st_8_3_i_i (pc := 183) dX9_mayStand_183 ?_
                        refine inc_8_5_1_i (pc := 184) dX9_mayStand_184 ?_
                        have r30 : inR ((nI j92) + 1) 1 5 := inR_add (show inR (nI j92) 0 4 from hrg92) (show inR 1 1 1 from (inR_self _)) (by decide) (by decide)
                        have e31 := ti_add (l := 1) (h := 5) (show inR (nI j92) 0 4 from hrg92) (show inR 1 1 1 from (inR_self _)) (by decide) (by decide)
                        refine R_goto (pc := 187) 92 dX9_mayStand_187 (by decide) ?_
                        rw [nI_1]
                        exact ih92 (j92 + 1) _ _ _ (by omega) (by omega) (show inR 0 0 1 from ⟨by decide, by decide⟩)
                    · skip
                      refine R_iload (pc := 160) dX9_mayStand_160 rfl ?_
                      refine R_iconst (pc := 162) (v := 1) dX9_mayStand_162 (by decide) ?_
                      refine R_iadd (pc := 163) dX9_mayStand_163 ?_
                      have r32 : inR ((nI j92) + 1) 1 5 := inR_add (show inR (nI j92) 0 4 from hrg92) (show inR 1 1 1 from (inR_self _)) (by decide) (by decide)
                      have e33 := ti_add (l := 1) (h := 5) (show inR (nI j92) 0 4 from hrg92) (show inR 1 1 1 from (inR_self _)) (by decide) (by decide)
                      refine R_goto (pc := 164) 169 dX9_mayStand_164 (by decide) ?_
                      refine R_iadd (pc := 169) dX9_mayStand_169 ?_
                      have r34 : inR ((5 * c) + ((nI j92) + 1)) 1 100 := inR_add (show inR (5 * c) 0 95 from r18) (show inR ((nI j92) + 1) 1 5 from r32) (by decide) (by decide)
                      have e35 := ti_add (l := 1) (h := 100) (show inR (5 * c) 0 95 from r18) (show inR ((nI j92) + 1) 1 5 from r32) (by decide) (by decide)
                      have hx36 : vp_in ((5 * c) + ((nI j92) + 1)) 100 := (vp_ti (by have q0 := e10; have q1 := e12; have q2 := e15; have q3 := e19; have q4 := e21; have q5 := e33; have q6 := e35; have q7 := ti_nle b96_6; have q8 := ti_ne b100_7; have q9 := ti_nle b106_8; have q10 := ti_le b126_13; have q11 := ti_nle b157_22; have q12 := ti_in hc; have q13 := ti_in (iva_168 hI _ (lt_of_vp hx3)); have q14 := ti_in hg3_25; have q15 := ti_in hg3_92; have q16 := ti_in hrg92; have q17 := ti_in r18; have q18 := ti_in r32; have q19 := ti_in r14; have q20 := ti_in (iva_169 hI _ (lt_of_vp hx16)); have q21 := ti_in r34; have z0 : (0 : Int32).toInt = 0 := (by decide); have z1 : (1 : Int32).toInt = 1 := (by decide); have z2 : (100 : Int32).toInt = 100 := (by decide); have z3 : (168 : Int32).toInt = 168 := (by decide); have z4 : (19 : Int32).toInt = 19 := (by decide); have z5 : (4 : Int32).toInt = 4 := (by decide); have z6 : (5 : Int32).toInt = 5 := (by decide); have z7 : (7 : Int32).toInt = 7 := (by decide); have z8 : (95 : Int32).toInt = 95 := (by decide); omega) (by have q0 := e10; have q1 := e12; have q2 := e15; have q3 := e19; have q4 := e21; have q5 := e33; have q6 := e35; have q7 := ti_nle b96_6; have q8 := ti_ne b100_7; have q9 := ti_nle b106_8; have q10 := ti_le b126_13; have q11 := ti_nle b157_22; have q12 := ti_in hc; have q13 := ti_in (iva_168 hI _ (lt_of_vp hx3)); have q14 := ti_in hg3_25; have q15 := ti_in hg3_92; have q16 := ti_in hrg92; have q17 := ti_in r18; have q18 := ti_in r32; have q19 := ti_in r14; have q20 := ti_in (iva_169 hI _ (lt_of_vp hx16)); have q21 := ti_in r34; have z0 : (0 : Int32).toInt = 0 := (by decide); have z1 : (1 : Int32).toInt = 1 := (by decide); have z2 : (100 : Int32).toInt = 100 := (by decide); have z3 : (168 : Int32).toInt = 168 := (by decide); have z4 : (19 : Int32).toInt = 19 := (by decide); have z5 : (4 : Int32).toInt = 4 := (by decide); have z6 : (5 : Int32).toInt = 5 := (by decide); have z7 : (7 : Int32).toInt = 7 := (by decide); have z8 : (95 : Int32).toInt = 95 := (by decide); omega))
                      refine R_iaload (pc := 170) dX9_mayStand_170 (c_169 _) hx36 ?_
                      have hx37 : vp_in (σ.2.2.1 169 (Int32.toNatClampNeg ((5 * c) + ((nI j92) + 1)))) 8 := (vp_of_inR (iva_169 hI _ (lt_of_vp hx36)) (by decide))
                      refine R_iaload (pc := 171) dX9_mayStand_171 (c_167 _) hx37 ?_
                      refine st_8_7_i_i (pc := 172) dX9_mayStand_172 ?_
                      refine R_aload_n (pc := 174) dX9_mayStand_174 rfl rfl ?_
                      refine R_iload_n (pc := 175) dX9_mayStand_175 rfl rfl ?_
                      refine R_iload (pc := 176) dX9_mayStand_176 rfl ?_
                      refine R_iload (pc := 178) dX9_mayStand_178 rfl ?_
                      refine k_X9_242 (pc := 180) (gx_X9_isOrdered _ _ _ _ hI) rfl (c_140 _) (by decide) (Nat.le_refl _) (Nat.le_refl _) (Nat.le_of_ble_eq_true rfl) dX9_mayStand_180 (fun x w2 h => ?_)
                      rcases h with ⟨rfl, rfl | rfl⟩
                      · skip
                        refine st_8_3_i_i (pc := 183) dX9_mayStand_183 ?_
                        refine inc_8_5_1_i (pc := 184) dX9_mayStand_184 ?_
                        have r39 : inR ((nI j92) + 1) 1 5 := inR_add (show inR (nI j92) 0 4 from hrg92) (show inR 1 1 1 from (inR_self _)) (by decide) (by decide)
                        have e40 := ti_add (l := 1) (h := 5) (show inR (nI j92) 0 4 from hrg92) (show inR 1 1 1 from (inR_self _)) (by decide) (by decide)
                        refine R_goto (pc := 187) 92 dX9_mayStand_187 (by decide) ?_
                        rw [nI_1]
                        exact ih92 (j92 + 1) _ _ _ (by omega) (by omega) (show inR 1 0 1 from ⟨by decide, by decide⟩)
                      · skip
                        refine st_8_3_i_i (pc := 183) dX9_mayStand_183 ?_
                        refine inc_8_5_1_i (pc := 184) dX9_mayStand_184 ?_
                        have r41 : inR ((nI j92) + 1) 1 5 := inR_add (show inR (nI j92) 0 4 from hrg92) (show inR 1 1 1 from (inR_self _)) (by decide) (by decide)
                        have e42 := ti_add (l := 1) (h := 5) (show inR (nI j92) 0 4 from hrg92) (show inR 1 1 1 from (inR_self _)) (by decide) (by decide)
                        refine R_goto (pc := 187) 92 dX9_mayStand_187 (by decide) ?_
                        rw [nI_1]
                        exact ih92 (j92 + 1) _ _ _ (by omega) (by omega) (show inR 0 0 1 from ⟨by decide, by decide⟩)
                  · skip
                    refine R_iload (pc := 129) dX9_mayStand_129 rfl ?_
                    refine R_goto (pc := 131) 135 dX9_mayStand_131 (by decide) ?_
                    refine R_iadd (pc := 135) dX9_mayStand_135 ?_
                    have r43 : inR ((5 * c) + (nI j92)) 0 99 := inR_add (show inR (5 * c) 0 95 from r9) (show inR (nI j92) 0 4 from hrg92) (by decide) (by decide)
                    have e44 := ti_add (l := 0) (h := 99) (show inR (5 * c) 0 95 from r9) (show inR (nI j92) 0 4 from hrg92) (by decide) (by decide)
                    have hx45 : vp_in ((5 * c) + (nI j92)) 100 := (vp_of_inR r43 (by decide))
                    refine R_iaload (pc := 136) dX9_mayStand_136 (c_169 _) hx45 ?_
                    have hx46 : vp_in (σ.2.2.1 169 (Int32.toNatClampNeg ((5 * c) + (nI j92)))) 8 := (vp_of_inR (iva_169 hI _ (lt_of_vp hx45)) (by decide))
                    refine R_iaload (pc := 137) dX9_mayStand_137 (c_167 _) hx46 ?_
                    refine st_8_6_i_i (pc := 138) dX9_mayStand_138 ?_
                    refine R_aload_n (pc := 140) dX9_mayStand_140 rfl rfl ?_
                    refine g_X9_99 (pc := 141) (v := .ref 167) rfl dX9_mayStand_141 (c_140 _) rfl ?_
                    refine R_aload_n (pc := 144) dX9_mayStand_144 rfl rfl ?_
                    refine g_X9_105 (pc := 145) (v := .ref 169) rfl dX9_mayStand_145 (c_140 _) rfl ?_
                    refine R_iconst (pc := 148) (v := 5) dX9_mayStand_148 (by decide) ?_
                    refine R_iload_n (pc := 149) dX9_mayStand_149 rfl rfl ?_
                    refine R_imul (pc := 150) dX9_mayStand_150 ?_
                    have r47 : inR (5 * c) 0 95 := inR_mulc (c := 5) (l := 0) (h := 95) 5 (by decide) (show inR c 0 19 from hc) (by decide) (by decide)
                    have e48 := ti_mulc (c := 5) (l := 0) (h := 95) 5 (by decide) (show inR c 0 19 from hc) (by decide) (by decide)
                    refine R_iload (pc := 151) dX9_mayStand_151 rfl ?_
                    refine R_iconst (pc := 153) (v := 1) dX9_mayStand_153 (by decide) ?_
                    refine R_iadd (pc := 154) dX9_mayStand_154 ?_
                    have r49 : inR ((nI j92) + 1) 1 5 := inR_add (show inR (nI j92) 0 4 from hrg92) (show inR 1 1 1 from (inR_self _)) (by decide) (by decide)
                    have e50 := ti_add (l := 1) (h := 5) (show inR (nI j92) 0 4 from hrg92) (show inR 1 1 1 from (inR_self _)) (by decide) (by decide)
                    refine R_iload (pc := 155) dX9_mayStand_155 rfl ?_
                    refine R_icge (pc := 157) 167 dX9_mayStand_157 (by decide) (fun b157_51 => ?_) (fun b157_51 => ?_)
                    · skip
                      refine R_iload (pc := 167) dX9_mayStand_167 rfl ?_
                      refine R_iadd (pc := 169) dX9_mayStand_169 ?_
                      have r52 : inR ((5 * c) + (nI j92)) 0 99 := inR_add (show inR (5 * c) 0 95 from r47) (show inR (nI j92) 0 4 from hrg92) (by decide) (by decide)
                      have e53 := ti_add (l := 0) (h := 99) (show inR (5 * c) 0 95 from r47) (show inR (nI j92) 0 4 from hrg92) (by decide) (by decide)
                      have hx54 : vp_in ((5 * c) + (nI j92)) 100 := (vp_of_inR r52 (by decide))
                      refine R_iaload (pc := 170) dX9_mayStand_170 (c_169 _) hx54 ?_
                      have hx55 : vp_in (σ.2.2.1 169 (Int32.toNatClampNeg ((5 * c) + (nI j92)))) 8 := (vp_of_inR (iva_169 hI _ (lt_of_vp hx45)) (by decide))
                      refine R_iaload (pc := 171) dX9_mayStand_171 (c_167 _) hx55 ?_
                      refine st_8_7_i_i (pc := 172) dX9_mayStand_172 ?_
                      refine R_aload_n (pc := 174) dX9_mayStand_174 rfl rfl ?_
                      refine R_iload_n (pc := 175) dX9_mayStand_175 rfl rfl ?_
                      refine R_iload (pc := 176) dX9_mayStand_176 rfl ?_
                      refine R_iload (pc := 178) dX9_mayStand_178 rfl ?_
                      refine k_X9_242 (pc := 180) (gx_X9_isOrdered _ _ _ _ hI) rfl (c_140 _) (by decide) (Nat.le_refl _) (Nat.le_refl _) (Nat.le_of_ble_eq_true rfl) dX9_mayStand_180 (fun x w2 h => ?_)
                      rcases h with ⟨rfl, rfl | rfl⟩
                      · skip
                        refine st_8_3_i_i (pc := 183) dX9_mayStand_183 ?_
                        refine inc_8_5_1_i (pc := 184) dX9_mayStand_184 ?_
                        have r57 : inR ((nI j92) + 1) 1 5 := inR_add (show inR (nI j92) 0 4 from hrg92) (show inR 1 1 1 from (inR_self _)) (by decide) (by decide)
                        have e58 := ti_add (l := 1) (h := 5) (show inR (nI j92) 0 4 from hrg92) (show inR 1 1 1 from (inR_self _)) (by decide) (by decide)
                        refine R_goto (pc := 187) 92 dX9_mayStand_187 (by decide) ?_
                        rw [nI_1]
                        exact ih92 (j92 + 1) _ _ _ (by omega) (by omega) (show inR 1 0 1 from ⟨by decide, by decide⟩)
                      · skip
                        refine st_8_3_i_i (pc := 183) dX9_mayStand_183 ?_
                        refine inc_8_5_1_i (pc := 184) dX9_mayStand_184 ?_
                        have r59 : inR ((nI j92) + 1) 1 5 := inR_add (show inR (nI j92) 0 4 from hrg92) (show inR 1 1 1 from (inR_self _)) (by decide) (by decide)
                        have e60 := ti_add (l := 1) (h := 5) (show inR (nI j92) 0 4 from hrg92) (show inR 1 1 1 from (inR_self _)) (by decide) (by decide)
                        refine R_goto (pc := 187) 92 dX9_mayStand_187 (by decide) ?_
                        rw [nI_1]
                        exact ih92 (j92 + 1) _ _ _ (by omega) (by omega) (show inR 0 0 1 from ⟨by decide, by decide⟩)
                    · skip
                      refine R_iload (pc := 160) dX9_mayStand_160 rfl ?_
                      refine R_iconst (pc := 162) (v := 1) dX9_mayStand_162 (by decide) ?_
                      refine R_iadd (pc := 163) dX9_mayStand_163 ?_
                      have r61 : inR ((nI j92) + 1) 1 5 := inR_add (show inR (nI j92) 0 4 from hrg92) (show inR 1 1 1 from (inR_self _)) (by decide) (by decide)
                      have e62 := ti_add (l := 1) (h := 5) (show inR (nI j92) 0 4 from hrg92) (show inR 1 1 1 from (inR_self _)) (by decide) (by decide)
                      refine R_goto (pc := 164) 169 dX9_mayStand_164 (by decide) ?_
                      refine R_iadd (pc := 169) dX9_mayStand_169 ?_
                      have r63 : inR ((5 * c) + ((nI j92) + 1)) 1 100 := inR_add (show inR (5 * c) 0 95 from r47) (show inR ((nI j92) + 1) 1 5 from r61) (by decide) (by decide)
                      have e64 := ti_add (l := 1) (h := 100) (show inR (5 * c) 0 95 from r47) (show inR ((nI j92) + 1) 1 5 from r61) (by decide) (by decide)
                      have hx65 : vp_in ((5 * c) + ((nI j92) + 1)) 100 := (vp_ti (by have q0 := e10; have q1 := e12; have q2 := e44; have q3 := e48; have q4 := e50; have q5 := e62; have q6 := e64; have q7 := ti_nle b96_6; have q8 := ti_ne b100_7; have q9 := ti_nle b106_8; have q10 := ti_nle b126_13; have q11 := ti_nle b157_51; have q12 := ti_in hc; have q13 := ti_in (iva_168 hI _ (lt_of_vp hx3)); have q14 := ti_in hg3_25; have q15 := ti_in hg3_92; have q16 := ti_in hrg92; have q17 := ti_in r47; have q18 := ti_in r61; have q19 := ti_in r43; have q20 := ti_in (iva_169 hI _ (lt_of_vp hx45)); have q21 := ti_in r63; have z0 : (0 : Int32).toInt = 0 := (by decide); have z1 : (1 : Int32).toInt = 1 := (by decide); have z2 : (100 : Int32).toInt = 100 := (by decide); have z3 : (168 : Int32).toInt = 168 := (by decide); have z4 : (19 : Int32).toInt = 19 := (by decide); have z5 : (4 : Int32).toInt = 4 := (by decide); have z6 : (5 : Int32).toInt = 5 := (by decide); have z7 : (7 : Int32).toInt = 7 := (by decide); have z8 : (95 : Int32).toInt = 95 := (by decide); have z9 : (99 : Int32).toInt = 99 := (by decide); omega) (by have q0 := e10; have q1 := e12; have q2 := e44; have q3 := e48; have q4 := e50; have q5 := e62; have q6 := e64; have q7 := ti_nle b96_6; have q8 := ti_ne b100_7; have q9 := ti_nle b106_8; have q10 := ti_nle b126_13; have q11 := ti_nle b157_51; have q12 := ti_in hc; have q13 := ti_in (iva_168 hI _ (lt_of_vp hx3)); have q14 := ti_in hg3_25; have q15 := ti_in hg3_92; have q16 := ti_in hrg92; have q17 := ti_in r47; have q18 := ti_in r61; have q19 := ti_in r43; have q20 := ti_in (iva_169 hI _ (lt_of_vp hx45)); have q21 := ti_in r63; have z0 : (0 : Int32).toInt = 0 := (by decide); have z1 : (1 : Int32).toInt = 1 := (by decide); have z2 : (100 : Int32).toInt = 100 := (by decide); have z3 : (168 : Int32).toInt = 168 := (by decide); have z4 : (19 : Int32).toInt = 19 := (by decide); have z5 : (4 : Int32).toInt = 4 := (by decide); have z6 : (5 : Int32).toInt = 5 := (by decide); have z7 : (7 : Int32).toInt = 7 := (by decide); have z8 : (95 : Int32).toInt = 95 := (by decide); have z9 : (99 : Int32).toInt = 99 := (by decide); omega))
                      refine R_iaload (pc := 170) dX9_mayStand_170 (c_169 _) hx65 ?_
                      have hx66 : vp_in (σ.2.2.1 169 (Int32.toNatClampNeg ((5 * c) + ((nI j92) + 1)))) 8 := (vp_of_inR (iva_169 hI _ (lt_of_vp hx65)) (by decide))
                      refine R_iaload (pc := 171) dX9_mayStand_171 (c_167 _) hx66 ?_
                      refine st_8_7_i_i (pc := 172) dX9_mayStand_172 ?_
                      refine R_aload_n (pc := 174) dX9_mayStand_174 rfl rfl ?_
                      refine R_iload_n (pc := 175) dX9_mayStand_175 rfl rfl ?_
                      refine R_iload (pc := 176) dX9_mayStand_176 rfl ?_
                      refine R_iload (pc := 178) dX9_mayStand_178 rfl ?_
                      refine k_X9_242 (pc := 180) (gx_X9_isOrdered _ _ _ _ hI) rfl (c_140 _) (by decide) (Nat.le_refl _) (Nat.le_refl _) (Nat.le_of_ble_eq_true rfl) dX9_mayStand_180 (fun x w2 h => ?_)
                      rcases h with ⟨rfl, rfl | rfl⟩
                      · skip
                        refine st_8_3_i_i (pc := 183) dX9_mayStand_183 ?_
                        refine inc_8_5_1_i (pc := 184) dX9_mayStand_184 ?_
                        have r68 : inR ((nI j92) + 1) 1 5 := inR_add (show inR (nI j92) 0 4 from hrg92) (show inR 1 1 1 from (inR_self _)) (by decide) (by decide)
                        have e69 := ti_add (l := 1) (h := 5) (show inR (nI j92) 0 4 from hrg92) (show inR 1 1 1 from (inR_self _)) (by decide) (by decide)
                        refine R_goto (pc := 187) 92 dX9_mayStand_187 (by decide) ?_
                        rw [nI_1]
                        exact ih92 (j92 + 1) _ _ _ (by omega) (by omega) (show inR 1 0 1 from ⟨by decide, by decide⟩)
                      · skip
                        refine st_8_3_i_i (pc := 183) dX9_mayStand_183 ?_
                        refine inc_8_5_1_i (pc := 184) dX9_mayStand_184 ?_
                        have r70 : inR ((nI j92) + 1) 1 5 := inR_add (show inR (nI j92) 0 4 from hrg92) (show inR 1 1 1 from (inR_self _)) (by decide) (by decide)
                        have e71 := ti_add (l := 1) (h := 5) (show inR (nI j92) 0 4 from hrg92) (show inR 1 1 1 from (inR_self _)) (by decide) (by decide)
                        refine R_goto (pc := 187) 92 dX9_mayStand_187 (by decide) ?_
                        rw [nI_1]
                        exact ih92 (j92 + 1) _ _ _ (by omega) (by omega) (show inR 0 0 1 from ⟨by decide, by decide⟩)
        exact HL92 5 0 _ _ _ (by omega) (by omega) hg3_25
      | succ q ih25 =>
        intro j25 g3_25 g6_25 g7_25 hj hs25 hg3_25
        have hrg25 : inR (nI j25) 0 4 := inR_ix hs25 (show j25 < 5 by omega) (by decide) (by decide) (by decide)
        have hlt25 : j25 < 5 := by omega
        refine R_iload (pc := 25) dX9_mayStand_25 rfl ?_
        refine R_iload (pc := 27) dX9_mayStand_27 rfl ?_
        refine R_icge (pc := 29) 89 dX9_mayStand_29 (by decide) (fun b29_72 => ?_) (fun b29_72 => ?_)
        · skip
          refine R_iconst (pc := 89) (v := 0) dX9_mayStand_89 (by decide) ?_
          refine st_8_5_i_i (pc := 90) dX9_mayStand_90 ?_
          have HL92 : ∀ (q j92 : Nat) (g3_92 : Int32) (g6_92 : Option Value) (g7_92 : Option Value), j92 + q = 5 → 0 ≤ j92 → inR g3_92 0 1 → R G l yX9_mayStand cX9_mayStand 8 (some .boolean) 2 0 0 (QI (fun x w2 => w2 = WW σ)) 92 [(some (.ref 140)), (some (.int c)), (some (.int k)), (some (.int g3_92)), (some (.int (σ.2.2.1 168 (Int32.toNatClampNeg c)))), (some (.int (nI j92))), g6_92, g7_92] [] (WW σ) 0 0 := by
            intro q
            induction q with
            | zero =>
              intro j92 g3_92 g6_92 g7_92 hj hs92 hg3_92
              obtain rfl : j92 = 5 := by omega
              refine R_iload (pc := 92) dX9_mayStand_92 rfl ?_
              refine R_iload (pc := 94) dX9_mayStand_94 rfl ?_
              refine R_icge (pc := 96) 190 dX9_mayStand_96 (by decide) (fun _ => ?_) (fun h => absurd (Int32.not_lt.mp (inR_up (iva_168 hI _ (lt_of_vp hx3)) (Int32.le_refl _) (by decide)).2) h)
              refine R_iload_n (pc := 190) dX9_mayStand_190 rfl rfl ?_
              exact R_iret (pc := 191) dX9_mayStand_191 rfl (nar01 hg3_92) (Nat.zero_le _) (Nat.zero_le _) ⟨_, rfl, rfl⟩
            | succ q ih92 =>
              intro j92 g3_92 g6_92 g7_92 hj hs92 hg3_92
              have hrg92 : inR (nI j92) 0 4 := inR_ix hs92 (show j92 < 5 by omega) (by decide) (by decide) (by decide)
              have hlt92 : j92 < 5 := by omega
              refine R_iload (pc := 92) dX9_mayStand_92 rfl ?_
              refine R_iload (pc := 94) dX9_mayStand_94 rfl ?_
              refine R_icge (pc := 96) 190 dX9_mayStand_96 (by decide) (fun b96_74 => ?_) (fun b96_74 => ?_)
              · skip
                refine R_iload_n (pc := 190) dX9_mayStand_190 rfl rfl ?_
                exact R_iret (pc := 191) dX9_mayStand_191 rfl (nar01 hg3_92) (Nat.zero_le _) (Nat.zero_le _) ⟨_, rfl, rfl⟩
              · skip
                refine R_iload_n (pc := 99) dX9_mayStand_99 rfl rfl ?_
                refine R_ifeq (pc := 100) 190 dX9_mayStand_100 (by decide) (fun b100_75 => ?_) (fun b100_75 => ?_)
                · skip
                  refine R_iload_n (pc := 190) dX9_mayStand_190 rfl rfl ?_
                  exact R_iret (pc := 191) dX9_mayStand_191 rfl (nar01 hg3_92) (Nat.zero_le _) (Nat.zero_le _) ⟨_, rfl, rfl⟩
                · skip
                  refine R_iload (pc := 103) dX9_mayStand_103 rfl ?_
                  refine R_iconst (pc := 105) (v := 1) dX9_mayStand_105 (by decide) ?_
                  refine R_icle (pc := 106) 190 dX9_mayStand_106 (by decide) (fun b106_76 => ?_) (fun b106_76 => ?_)
                  · skip
                    refine R_iload_n (pc := 190) dX9_mayStand_190 rfl rfl ?_
                    exact R_iret (pc := 191) dX9_mayStand_191 rfl (nar01 hg3_92) (Nat.zero_le _) (Nat.zero_le _) ⟨_, rfl, rfl⟩
                  · skip
                    refine R_aload_n (pc := 109) dX9_mayStand_109 rfl rfl ?_
                    refine g_X9_99 (pc := 110) (v := .ref 167) rfl dX9_mayStand_110 (c_140 _) rfl ?_
                    refine R_aload_n (pc := 113) dX9_mayStand_113 rfl rfl ?_
                    refine g_X9_105 (pc := 114) (v := .ref 169) rfl dX9_mayStand_114 (c_140 _) rfl ?_
                    refine R_iconst (pc := 117) (v := 5) dX9_mayStand_117 (by decide) ?_
                    refine R_iload_n (pc := 118) dX9_mayStand_118 rfl rfl ?_
                    refine R_imul (pc := 119) dX9_mayStand_119 ?_
                    have r77 : inR (5 * c) 0 95 := inR_mulc (c := 5) (l := 0) (h := 95) 5 (by decide) (show inR c 0 19 from hc) (by decide) (by decide)
                    have e78 := ti_mulc (c := 5) (l := 0) (h := 95) 5 (by decide) (show inR c 0 19 from hc) (by decide) (by decide)
                    refine R_iload (pc := 120) dX9_mayStand_120 rfl ?_
                    refine R_iconst (pc := 122) (v := 1) dX9_mayStand_122 (by decide) ?_
                    refine R_iadd (pc := 123) dX9_mayStand_123 ?_
                    have r79 : inR ((nI j92) + 1) 1 5 := inR_add (show inR (nI j92) 0 4 from hrg92) (show inR 1 1 1 from (inR_self _)) (by decide) (by decide)
                    have e80 := ti_add (l := 1) (h := 5) (show inR (nI j92) 0 4 from hrg92) (show inR 1 1 1 from (inR_self _)) (by decide) (by decide)
                    refine R_iload (pc := 124) dX9_mayStand_124 rfl ?_
                    refine R_icge (pc := 126) 134 dX9_mayStand_126 (by decide) (fun b126_81 => ?_) (fun b126_81 => ?_)
                    · skip
                      refine R_iconst (pc := 134) (v := 0) dX9_mayStand_134 (by decide) ?_
                      refine R_iadd (pc := 135) dX9_mayStand_135 ?_
                      have r82 : inR ((5 * c) + 0) 0 95 := inR_add (show inR (5 * c) 0 95 from r77) (show inR 0 0 0 from (inR_self _)) (by decide) (by decide)
                      have e83 := ti_add (l := 0) (h := 95) (show inR (5 * c) 0 95 from r77) (show inR 0 0 0 from (inR_self _)) (by decide) (by decide)
                      have hx84 : vp_in ((5 * c) + 0) 100 := (vp_of_inR r82 (by decide))
                      refine R_iaload (pc := 136) dX9_mayStand_136 (c_169 _) hx84 ?_
                      have hx85 : vp_in (σ.2.2.1 169 (Int32.toNatClampNeg ((5 * c) + 0))) 8 := (vp_of_inR (iva_169 hI _ (lt_of_vp hx84)) (by decide))
                      refine R_iaload (pc := 137) dX9_mayStand_137 (c_167 _) hx85 ?_
                      refine st_8_6_i_i (pc := 138) dX9_mayStand_138 ?_
                      refine R_aload_n (pc := 140) dX9_mayStand_140 rfl rfl ?_
                      refine g_X9_99 (pc := 141) (v := .ref 167) rfl dX9_mayStand_141 (c_140 _) rfl ?_
                      refine R_aload_n (pc := 144) dX9_mayStand_144 rfl rfl ?_
                      refine g_X9_105 (pc := 145) (v := .ref 169) rfl dX9_mayStand_145 (c_140 _) rfl ?_
                      refine R_iconst (pc := 148) (v := 5) dX9_mayStand_148 (by decide) ?_
                      refine R_iload_n (pc := 149) dX9_mayStand_149 rfl rfl ?_
                      refine R_imul (pc := 150) dX9_mayStand_150 ?_
                      have r86 : inR (5 * c) 0 95 := inR_mulc (c := 5) (l := 0) (h := 95) 5 (by decide) (show inR c 0 19 from hc) (by decide) (by decide)
                      have e87 := ti_mulc (c := 5) (l := 0) (h := 95) 5 (by decide) (show inR c 0 19 from hc) (by decide) (by decide)
                      refine R_iload (pc := 151) dX9_mayStand_151 rfl ?_
                      refine R_iconst (pc := 153) (v := 1) dX9_mayStand_153 (by decide) ?_
                      refine R_iadd (pc := 154) dX9_mayStand_154 ?_
                      have r88 : inR ((nI j92) + 1) 1 5 := inR_add (show inR (nI j92) 0 4 from hrg92) (show inR 1 1 1 from (inR_self _)) (by decide) (by decide)
                      have e89 := ti_add (l := 1) (h := 5) (show inR (nI j92) 0 4 from hrg92) (show inR 1 1 1 from (inR_self _)) (by decide) (by decide)
                      refine R_iload (pc := 155) dX9_mayStand_155 rfl ?_
                      refine R_icge (pc := 157) 167 dX9_mayStand_157 (by decide) (fun b157_90 => ?_) (fun b157_90 => ?_)
                      · skip
                        refine R_iload (pc := 167) dX9_mayStand_167 rfl ?_
                        refine R_iadd (pc := 169) dX9_mayStand_169 ?_
                        have r91 : inR ((5 * c) + (nI j92)) 0 99 := inR_add (show inR (5 * c) 0 95 from r86) (show inR (nI j92) 0 4 from hrg92) (by decide) (by decide)
                        have e92 := ti_add (l := 0) (h := 99) (show inR (5 * c) 0 95 from r86) (show inR (nI j92) 0 4 from hrg92) (by decide) (by decide)
                        have hx93 : vp_in ((5 * c) + (nI j92)) 100 := (vp_of_inR r91 (by decide))
                        refine R_iaload (pc := 170) dX9_mayStand_170 (c_169 _) hx93 ?_
                        have hx94 : vp_in (σ.2.2.1 169 (Int32.toNatClampNeg ((5 * c) + (nI j92)))) 8 := (vp_of_inR (iva_169 hI _ (lt_of_vp hx93)) (by decide))
                        refine R_iaload (pc := 171) dX9_mayStand_171 (c_167 _) hx94 ?_
                        refine st_8_7_i_i (pc := 172) dX9_mayStand_172 ?_
                        refine R_aload_n (pc := 174) dX9_mayStand_174 rfl rfl ?_
                        refine R_iload_n (pc := 175) dX9_mayStand_175 rfl rfl ?_
                        refine R_iload (pc := 176) dX9_mayStand_176 rfl ?_
                        refine R_iload (pc := 178) dX9_mayStand_178 rfl ?_
                        refine k_X9_242 (pc := 180) (gx_X9_isOrdered _ _ _ _ hI) rfl (c_140 _) (by decide) (Nat.le_refl _) (Nat.le_refl _) (Nat.le_of_ble_eq_true rfl) dX9_mayStand_180 (fun x w2 h => ?_)
                        rcases h with ⟨rfl, rfl | rfl⟩
                        · skip
                          refine st_8_3_i_i (pc := 183) dX9_mayStand_183 ?_
                          refine inc_8_5_1_i (pc := 184) dX9_mayStand_184 ?_
                          have r96 : inR ((nI j92) + 1) 1 5 := inR_add (show inR (nI j92) 0 4 from hrg92) (show inR 1 1 1 from (inR_self _)) (by decide) (by decide)
                          have e97 := ti_add (l := 1) (h := 5) (show inR (nI j92) 0 4 from hrg92) (show inR 1 1 1 from (inR_self _)) (by decide) (by decide)
                          refine R_goto (pc := 187) 92 dX9_mayStand_187 (by decide) ?_
                          rw [nI_1]
                          exact ih92 (j92 + 1) _ _ _ (by omega) (by omega) (show inR 1 0 1 from ⟨by decide, by decide⟩)
                        · skip
                          refine st_8_3_i_i (pc := 183) dX9_mayStand_183 ?_
                          refine inc_8_5_1_i (pc := 184) dX9_mayStand_184 ?_
                          have r98 : inR ((nI j92) + 1) 1 5 := inR_add (show inR (nI j92) 0 4 from hrg92) (show inR 1 1 1 from (inR_self _)) (by decide) (by decide)
                          have e99 := ti_add (l := 1) (h := 5) (show inR (nI j92) 0 4 from hrg92) (show inR 1 1 1 from (inR_self _)) (by decide) (by decide)
                          refine R_goto (pc := 187) 92 dX9_mayStand_187 (by decide) ?_
                          rw [nI_1]
                          exact ih92 (j92 + 1) _ _ _ (by omega) (by omega) (show inR 0 0 1 from ⟨by decide, by decide⟩)
                      · skip
                        refine R_iload (pc := 160) dX9_mayStand_160 rfl ?_
                        refine R_iconst (pc := 162) (v := 1) dX9_mayStand_162 (by decide) ?_
                        refine R_iadd (pc := 163) dX9_mayStand_163 ?_
                        have r100 : inR ((nI j92) + 1) 1 5 := inR_add (show inR (nI j92) 0 4 from hrg92) (show inR 1 1 1 from (inR_self _)) (by decide) (by decide)
                        have e101 := ti_add (l := 1) (h := 5) (show inR (nI j92) 0 4 from hrg92) (show inR 1 1 1 from (inR_self _)) (by decide) (by decide)
                        refine R_goto (pc := 164) 169 dX9_mayStand_164 (by decide) ?_
                        refine R_iadd (pc := 169) dX9_mayStand_169 ?_
                        have r102 : inR ((5 * c) + ((nI j92) + 1)) 1 100 := inR_add (show inR (5 * c) 0 95 from r86) (show inR ((nI j92) + 1) 1 5 from r100) (by decide) (by decide)
                        have e103 := ti_add (l := 1) (h := 100) (show inR (5 * c) 0 95 from r86) (show inR ((nI j92) + 1) 1 5 from r100) (by decide) (by decide)
                        have hx104 : vp_in ((5 * c) + ((nI j92) + 1)) 100 := (vp_ti (by have q0 := e78; have q1 := e80; have q2 := e83; have q3 := e87; have q4 := e89; have q5 := e101; have q6 := e103; have q7 := ti_le b29_72; have q8 := ti_nle b96_74; have q9 := ti_ne b100_75; have q10 := ti_nle b106_76; have q11 := ti_le b126_81; have q12 := ti_nle b157_90; have q13 := ti_in hc; have q14 := ti_in (iva_168 hI _ (lt_of_vp hx3)); have q15 := ti_in hg3_25; have q16 := ti_in hrg25; have q17 := ti_in hg3_92; have q18 := ti_in hrg92; have q19 := ti_in r86; have q20 := ti_in r100; have q21 := ti_in r82; have q22 := ti_in (iva_169 hI _ (lt_of_vp hx84)); have q23 := ti_in r102; have z0 : (0 : Int32).toInt = 0 := (by decide); have z1 : (1 : Int32).toInt = 1 := (by decide); have z2 : (100 : Int32).toInt = 100 := (by decide); have z3 : (168 : Int32).toInt = 168 := (by decide); have z4 : (19 : Int32).toInt = 19 := (by decide); have z5 : (4 : Int32).toInt = 4 := (by decide); have z6 : (5 : Int32).toInt = 5 := (by decide); have z7 : (7 : Int32).toInt = 7 := (by decide); have z8 : (95 : Int32).toInt = 95 := (by decide); omega) (by have q0 := e78; have q1 := e80; have q2 := e83; have q3 := e87; have q4 := e89; have q5 := e101; have q6 := e103; have q7 := ti_le b29_72; have q8 := ti_nle b96_74; have q9 := ti_ne b100_75; have q10 := ti_nle b106_76; have q11 := ti_le b126_81; have q12 := ti_nle b157_90; have q13 := ti_in hc; have q14 := ti_in (iva_168 hI _ (lt_of_vp hx3)); have q15 := ti_in hg3_25; have q16 := ti_in hrg25; have q17 := ti_in hg3_92; have q18 := ti_in hrg92; have q19 := ti_in r86; have q20 := ti_in r100; have q21 := ti_in r82; have q22 := ti_in (iva_169 hI _ (lt_of_vp hx84)); have q23 := ti_in r102; have z0 : (0 : Int32).toInt = 0 := (by decide); have z1 : (1 : Int32).toInt = 1 := (by decide); have z2 : (100 : Int32).toInt = 100 := (by decide); have z3 : (168 : Int32).toInt = 168 := (by decide); have z4 : (19 : Int32).toInt = 19 := (by decide); have z5 : (4 : Int32).toInt = 4 := (by decide); have z6 : (5 : Int32).toInt = 5 := (by decide); have z7 : (7 : Int32).toInt = 7 := (by decide); have z8 : (95 : Int32).toInt = 95 := (by decide); omega))
                        refine R_iaload (pc := 170) dX9_mayStand_170 (c_169 _) hx104 ?_
                        have hx105 : vp_in (σ.2.2.1 169 (Int32.toNatClampNeg ((5 * c) + ((nI j92) + 1)))) 8 := (vp_of_inR (iva_169 hI _ (lt_of_vp hx104)) (by decide))
                        refine R_iaload (pc := 171) dX9_mayStand_171 (c_167 _) hx105 ?_
                        refine st_8_7_i_i (pc := 172) dX9_mayStand_172 ?_
                        refine R_aload_n (pc := 174) dX9_mayStand_174 rfl rfl ?_
                        refine R_iload_n (pc := 175) dX9_mayStand_175 rfl rfl ?_
                        refine R_iload (pc := 176) dX9_mayStand_176 rfl ?_
                        refine R_iload (pc := 178) dX9_mayStand_178 rfl ?_
                        refine k_X9_242 (pc := 180) (gx_X9_isOrdered _ _ _ _ hI) rfl (c_140 _) (by decide) (Nat.le_refl _) (Nat.le_refl _) (Nat.le_of_ble_eq_true rfl) dX9_mayStand_180 (fun x w2 h => ?_)
                        rcases h with ⟨rfl, rfl | rfl⟩
                        · skip
                          refine st_8_3_i_i (pc := 183) dX9_mayStand_183 ?_
                          refine inc_8_5_1_i (pc := 184) dX9_mayStand_184 ?_
                          have r107 : inR ((nI j92) + 1) 1 5 := inR_add (show inR (nI j92) 0 4 from hrg92) (show inR 1 1 1 from (inR_self _)) (by decide) (by decide)
                          have e108 := ti_add (l := 1) (h := 5) (show inR (nI j92) 0 4 from hrg92) (show inR 1 1 1 from (inR_self _)) (by decide) (by decide)
                          refine R_goto (pc := 187) 92 dX9_mayStand_187 (by decide) ?_
                          rw [nI_1]
                          exact ih92 (j92 + 1) _ _ _ (by omega) (by omega) (show inR 1 0 1 from ⟨by decide, by decide⟩)
                        · skip
                          refine st_8_3_i_i (pc := 183) dX9_mayStand_183 ?_
                          refine inc_8_5_1_i (pc := 184) dX9_mayStand_184 ?_
                          have r109 : inR ((nI j92) + 1) 1 5 := inR_add (show inR (nI j92) 0 4 from hrg92) (show inR 1 1 1 from (inR_self _)) (by decide) (by decide)
                          have e110 := ti_add (l := 1) (h := 5) (show inR (nI j92) 0 4 from hrg92) (show inR 1 1 1 from (inR_self _)) (by decide) (by decide)
                          refine R_goto (pc := 187) 92 dX9_mayStand_187 (by decide) ?_
                          rw [nI_1]
                          exact ih92 (j92 + 1) _ _ _ (by omega) (by omega) (show inR 0 0 1 from ⟨by decide, by decide⟩)
                    · skip
                      refine R_iload (pc := 129) dX9_mayStand_129 rfl ?_
                      refine R_goto (pc := 131) 135 dX9_mayStand_131 (by decide) ?_
                      refine R_iadd (pc := 135) dX9_mayStand_135 ?_
                      have r111 : inR ((5 * c) + (nI j92)) 0 99 := inR_add (show inR (5 * c) 0 95 from r77) (show inR (nI j92) 0 4 from hrg92) (by decide) (by decide)
                      have e112 := ti_add (l := 0) (h := 99) (show inR (5 * c) 0 95 from r77) (show inR (nI j92) 0 4 from hrg92) (by decide) (by decide)
                      have hx113 : vp_in ((5 * c) + (nI j92)) 100 := (vp_of_inR r111 (by decide))
                      refine R_iaload (pc := 136) dX9_mayStand_136 (c_169 _) hx113 ?_
                      have hx114 : vp_in (σ.2.2.1 169 (Int32.toNatClampNeg ((5 * c) + (nI j92)))) 8 := (vp_of_inR (iva_169 hI _ (lt_of_vp hx113)) (by decide))
                      refine R_iaload (pc := 137) dX9_mayStand_137 (c_167 _) hx114 ?_
                      refine st_8_6_i_i (pc := 138) dX9_mayStand_138 ?_
                      refine R_aload_n (pc := 140) dX9_mayStand_140 rfl rfl ?_
                      refine g_X9_99 (pc := 141) (v := .ref 167) rfl dX9_mayStand_141 (c_140 _) rfl ?_
                      refine R_aload_n (pc := 144) dX9_mayStand_144 rfl rfl ?_
                      refine g_X9_105 (pc := 145) (v := .ref 169) rfl dX9_mayStand_145 (c_140 _) rfl ?_
                      refine R_iconst (pc := 148) (v := 5) dX9_mayStand_148 (by decide) ?_
                      refine R_iload_n (pc := 149) dX9_mayStand_149 rfl rfl ?_
                      refine R_imul (pc := 150) dX9_mayStand_150 ?_
                      have r115 : inR (5 * c) 0 95 := inR_mulc (c := 5) (l := 0) (h := 95) 5 (by decide) (show inR c 0 19 from hc) (by decide) (by decide)
                      have e116 := ti_mulc (c := 5) (l := 0) (h := 95) 5 (by decide) (show inR c 0 19 from hc) (by decide) (by decide)
                      refine R_iload (pc := 151) dX9_mayStand_151 rfl ?_
                      refine R_iconst (pc := 153) (v := 1) dX9_mayStand_153 (by decide) ?_
                      refine R_iadd (pc := 154) dX9_mayStand_154 ?_
                      have r117 : inR ((nI j92) + 1) 1 5 := inR_add (show inR (nI j92) 0 4 from hrg92) (show inR 1 1 1 from (inR_self _)) (by decide) (by decide)
                      have e118 := ti_add (l := 1) (h := 5) (show inR (nI j92) 0 4 from hrg92) (show inR 1 1 1 from (inR_self _)) (by decide) (by decide)
                      refine R_iload (pc := 155) dX9_mayStand_155 rfl ?_
                      refine R_icge (pc := 157) 167 dX9_mayStand_157 (by decide) (fun b157_119 => ?_) (fun b157_119 => ?_)
                      · skip
                        refine R_iload (pc := 167) dX9_mayStand_167 rfl ?_
                        refine R_iadd (pc := 169) dX9_mayStand_169 ?_
                        have r120 : inR ((5 * c) + (nI j92)) 0 99 := inR_add (show inR (5 * c) 0 95 from r115) (show inR (nI j92) 0 4 from hrg92) (by decide) (by decide)
                        have e121 := ti_add (l := 0) (h := 99) (show inR (5 * c) 0 95 from r115) (show inR (nI j92) 0 4 from hrg92) (by decide) (by decide)
                        have hx122 : vp_in ((5 * c) + (nI j92)) 100 := (vp_of_inR r120 (by decide))
                        refine R_iaload (pc := 170) dX9_mayStand_170 (c_169 _) hx122 ?_
                        have hx123 : vp_in (σ.2.2.1 169 (Int32.toNatClampNeg ((5 * c) + (nI j92)))) 8 := (vp_of_inR (iva_169 hI _ (lt_of_vp hx113)) (by decide))
                        refine R_iaload (pc := 171) dX9_mayStand_171 (c_167 _) hx123 ?_
                        refine st_8_7_i_i (pc := 172) dX9_mayStand_172 ?_
                        refine R_aload_n (pc := 174) dX9_mayStand_174 rfl rfl ?_
                        refine R_iload_n (pc := 175) dX9_mayStand_175 rfl rfl ?_
                        refine R_iload (pc := 176) dX9_mayStand_176 rfl ?_
                        refine R_iload (pc := 178) dX9_mayStand_178 rfl ?_
                        refine k_X9_242 (pc := 180) (gx_X9_isOrdered _ _ _ _ hI) rfl (c_140 _) (by decide) (Nat.le_refl _) (Nat.le_refl _) (Nat.le_of_ble_eq_true rfl) dX9_mayStand_180 (fun x w2 h => ?_)
                        rcases h with ⟨rfl, rfl | rfl⟩
                        · skip
                          refine st_8_3_i_i (pc := 183) dX9_mayStand_183 ?_
                          refine inc_8_5_1_i (pc := 184) dX9_mayStand_184 ?_
                          have r125 : inR ((nI j92) + 1) 1 5 := inR_add (show inR (nI j92) 0 4 from hrg92) (show inR 1 1 1 from (inR_self _)) (by decide) (by decide)
                          have e126 := ti_add (l := 1) (h := 5) (show inR (nI j92) 0 4 from hrg92) (show inR 1 1 1 from (inR_self _)) (by decide) (by decide)
                          refine R_goto (pc := 187) 92 dX9_mayStand_187 (by decide) ?_
                          rw [nI_1]
                          exact ih92 (j92 + 1) _ _ _ (by omega) (by omega) (show inR 1 0 1 from ⟨by decide, by decide⟩)
                        · skip
                          refine st_8_3_i_i (pc := 183) dX9_mayStand_183 ?_
                          refine inc_8_5_1_i (pc := 184) dX9_mayStand_184 ?_
                          have r127 : inR ((nI j92) + 1) 1 5 := inR_add (show inR (nI j92) 0 4 from hrg92) (show inR 1 1 1 from (inR_self _)) (by decide) (by decide)
                          have e128 := ti_add (l := 1) (h := 5) (show inR (nI j92) 0 4 from hrg92) (show inR 1 1 1 from (inR_self _)) (by decide) (by decide)
                          refine R_goto (pc := 187) 92 dX9_mayStand_187 (by decide) ?_
                          rw [nI_1]
                          exact ih92 (j92 + 1) _ _ _ (by omega) (by omega) (show inR 0 0 1 from ⟨by decide, by decide⟩)
                      · skip
                        refine R_iload (pc := 160) dX9_mayStand_160 rfl ?_
                        refine R_iconst (pc := 162) (v := 1) dX9_mayStand_162 (by decide) ?_
                        refine R_iadd (pc := 163) dX9_mayStand_163 ?_
                        have r129 : inR ((nI j92) + 1) 1 5 := inR_add (show inR (nI j92) 0 4 from hrg92) (show inR 1 1 1 from (inR_self _)) (by decide) (by decide)
                        have e130 := ti_add (l := 1) (h := 5) (show inR (nI j92) 0 4 from hrg92) (show inR 1 1 1 from (inR_self _)) (by decide) (by decide)
                        refine R_goto (pc := 164) 169 dX9_mayStand_164 (by decide) ?_
                        refine R_iadd (pc := 169) dX9_mayStand_169 ?_
                        have r131 : inR ((5 * c) + ((nI j92) + 1)) 1 100 := inR_add (show inR (5 * c) 0 95 from r115) (show inR ((nI j92) + 1) 1 5 from r129) (by decide) (by decide)
                        have e132 := ti_add (l := 1) (h := 100) (show inR (5 * c) 0 95 from r115) (show inR ((nI j92) + 1) 1 5 from r129) (by decide) (by decide)
                        have hx133 : vp_in ((5 * c) + ((nI j92) + 1)) 100 := (vp_ti (by have q0 := e78; have q1 := e80; have q2 := e112; have q3 := e116; have q4 := e118; have q5 := e130; have q6 := e132; have q7 := ti_le b29_72; have q8 := ti_nle b96_74; have q9 := ti_ne b100_75; have q10 := ti_nle b106_76; have q11 := ti_nle b126_81; have q12 := ti_nle b157_119; have q13 := ti_in hc; have q14 := ti_in (iva_168 hI _ (lt_of_vp hx3)); have q15 := ti_in hg3_25; have q16 := ti_in hrg25; have q17 := ti_in hg3_92; have q18 := ti_in hrg92; have q19 := ti_in r115; have q20 := ti_in r129; have q21 := ti_in r111; have q22 := ti_in (iva_169 hI _ (lt_of_vp hx113)); have q23 := ti_in r131; have z0 : (0 : Int32).toInt = 0 := (by decide); have z1 : (1 : Int32).toInt = 1 := (by decide); have z2 : (100 : Int32).toInt = 100 := (by decide); have z3 : (168 : Int32).toInt = 168 := (by decide); have z4 : (19 : Int32).toInt = 19 := (by decide); have z5 : (4 : Int32).toInt = 4 := (by decide); have z6 : (5 : Int32).toInt = 5 := (by decide); have z7 : (7 : Int32).toInt = 7 := (by decide); have z8 : (95 : Int32).toInt = 95 := (by decide); have z9 : (99 : Int32).toInt = 99 := (by decide); omega) (by have q0 := e78; have q1 := e80; have q2 := e112; have q3 := e116; have q4 := e118; have q5 := e130; have q6 := e132; have q7 := ti_le b29_72; have q8 := ti_nle b96_74; have q9 := ti_ne b100_75; have q10 := ti_nle b106_76; have q11 := ti_nle b126_81; have q12 := ti_nle b157_119; have q13 := ti_in hc; have q14 := ti_in (iva_168 hI _ (lt_of_vp hx3)); have q15 := ti_in hg3_25; have q16 := ti_in hrg25; have q17 := ti_in hg3_92; have q18 := ti_in hrg92; have q19 := ti_in r115; have q20 := ti_in r129; have q21 := ti_in r111; have q22 := ti_in (iva_169 hI _ (lt_of_vp hx113)); have q23 := ti_in r131; have z0 : (0 : Int32).toInt = 0 := (by decide); have z1 : (1 : Int32).toInt = 1 := (by decide); have z2 : (100 : Int32).toInt = 100 := (by decide); have z3 : (168 : Int32).toInt = 168 := (by decide); have z4 : (19 : Int32).toInt = 19 := (by decide); have z5 : (4 : Int32).toInt = 4 := (by decide); have z6 : (5 : Int32).toInt = 5 := (by decide); have z7 : (7 : Int32).toInt = 7 := (by decide); have z8 : (95 : Int32).toInt = 95 := (by decide); have z9 : (99 : Int32).toInt = 99 := (by decide); omega))
                        refine R_iaload (pc := 170) dX9_mayStand_170 (c_169 _) hx133 ?_
                        have hx134 : vp_in (σ.2.2.1 169 (Int32.toNatClampNeg ((5 * c) + ((nI j92) + 1)))) 8 := (vp_of_inR (iva_169 hI _ (lt_of_vp hx133)) (by decide))
                        refine R_iaload (pc := 171) dX9_mayStand_171 (c_167 _) hx134 ?_
                        refine st_8_7_i_i (pc := 172) dX9_mayStand_172 ?_
                        refine R_aload_n (pc := 174) dX9_mayStand_174 rfl rfl ?_
                        refine R_iload_n (pc := 175) dX9_mayStand_175 rfl rfl ?_
                        refine R_iload (pc := 176) dX9_mayStand_176 rfl ?_
                        refine R_iload (pc := 178) dX9_mayStand_178 rfl ?_
                        refine k_X9_242 (pc := 180) (gx_X9_isOrdered _ _ _ _ hI) rfl (c_140 _) (by decide) (Nat.le_refl _) (Nat.le_refl _) (Nat.le_of_ble_eq_true rfl) dX9_mayStand_180 (fun x w2 h => ?_)
                        rcases h with ⟨rfl, rfl | rfl⟩
                        · skip
                          refine st_8_3_i_i (pc := 183) dX9_mayStand_183 ?_
                          refine inc_8_5_1_i (pc := 184) dX9_mayStand_184 ?_
                          have r136 : inR ((nI j92) + 1) 1 5 := inR_add (show inR (nI j92) 0 4 from hrg92) (show inR 1 1 1 from (inR_self _)) (by decide) (by decide)
                          have e137 := ti_add (l := 1) (h := 5) (show inR (nI j92) 0 4 from hrg92) (show inR 1 1 1 from (inR_self _)) (by decide) (by decide)
                          refine R_goto (pc := 187) 92 dX9_mayStand_187 (by decide) ?_
                          rw [nI_1]
                          exact ih92 (j92 + 1) _ _ _ (by omega) (by omega) (show inR 1 0 1 from ⟨by decide, by decide⟩)
                        · skip
                          refine st_8_3_i_i (pc := 183) dX9_mayStand_183 ?_
                          refine inc_8_5_1_i (pc := 184) dX9_mayStand_184 ?_
                          have r138 : inR ((nI j92) + 1) 1 5 := inR_add (show inR (nI j92) 0 4 from hrg92) (show inR 1 1 1 from (inR_self _)) (by decide) (by decide)
                          have e139 := ti_add (l := 1) (h := 5) (show inR (nI j92) 0 4 from hrg92) (show inR 1 1 1 from (inR_self _)) (by decide) (by decide)
                          refine R_goto (pc := 187) 92 dX9_mayStand_187 (by decide) ?_
                          rw [nI_1]
                          exact ih92 (j92 + 1) _ _ _ (by omega) (by omega) (show inR 0 0 1 from ⟨by decide, by decide⟩)
          exact HL92 5 0 _ _ _ (by omega) (by omega) hg3_25
        · skip
          refine R_iload_n (pc := 32) dX9_mayStand_32 rfl rfl ?_
          refine R_ifeq (pc := 33) 89 dX9_mayStand_33 (by decide) (fun b33_140 => ?_) (fun b33_140 => ?_)
          · skip
            refine R_iconst (pc := 89) (v := 0) dX9_mayStand_89 (by decide) ?_
            refine st_8_5_i_i (pc := 90) dX9_mayStand_90 ?_
            have HL92 : ∀ (q j92 : Nat) (g3_92 : Int32) (g6_92 : Option Value) (g7_92 : Option Value), j92 + q = 5 → 0 ≤ j92 → inR g3_92 0 1 → R G l yX9_mayStand cX9_mayStand 8 (some .boolean) 2 0 0 (QI (fun x w2 => w2 = WW σ)) 92 [(some (.ref 140)), (some (.int c)), (some (.int k)), (some (.int g3_92)), (some (.int (σ.2.2.1 168 (Int32.toNatClampNeg c)))), (some (.int (nI j92))), g6_92, g7_92] [] (WW σ) 0 0 := by
              intro q
              induction q with
              | zero =>
                intro j92 g3_92 g6_92 g7_92 hj hs92 hg3_92
                obtain rfl : j92 = 5 := by omega
                refine R_iload (pc := 92) dX9_mayStand_92 rfl ?_
                refine R_iload (pc := 94) dX9_mayStand_94 rfl ?_
                refine R_icge (pc := 96) 190 dX9_mayStand_96 (by decide) (fun _ => ?_) (fun h => absurd (Int32.not_lt.mp (inR_up (iva_168 hI _ (lt_of_vp hx3)) (Int32.le_refl _) (by decide)).2) h)
                refine R_iload_n (pc := 190) dX9_mayStand_190 rfl rfl ?_
                exact R_iret (pc := 191) dX9_mayStand_191 rfl (nar01 hg3_92) (Nat.zero_le _) (Nat.zero_le _) ⟨_, rfl, rfl⟩
              | succ q ih92 =>
                intro j92 g3_92 g6_92 g7_92 hj hs92 hg3_92
                have hrg92 : inR (nI j92) 0 4 := inR_ix hs92 (show j92 < 5 by omega) (by decide) (by decide) (by decide)
                have hlt92 : j92 < 5 := by omega
                refine R_iload (pc := 92) dX9_mayStand_92 rfl ?_
                refine R_iload (pc := 94) dX9_mayStand_94 rfl ?_
                refine R_icge (pc := 96) 190 dX9_mayStand_96 (by decide) (fun b96_142 => ?_) (fun b96_142 => ?_)
                · skip
                  refine R_iload_n (pc := 190) dX9_mayStand_190 rfl rfl ?_
                  exact R_iret (pc := 191) dX9_mayStand_191 rfl (nar01 hg3_92) (Nat.zero_le _) (Nat.zero_le _) ⟨_, rfl, rfl⟩
                · skip
                  refine R_iload_n (pc := 99) dX9_mayStand_99 rfl rfl ?_
                  refine R_ifeq (pc := 100) 190 dX9_mayStand_100 (by decide) (fun b100_143 => ?_) (fun b100_143 => ?_)
                  · skip
                    refine R_iload_n (pc := 190) dX9_mayStand_190 rfl rfl ?_
                    exact R_iret (pc := 191) dX9_mayStand_191 rfl (nar01 hg3_92) (Nat.zero_le _) (Nat.zero_le _) ⟨_, rfl, rfl⟩
                  · skip
                    refine R_iload (pc := 103) dX9_mayStand_103 rfl ?_
                    refine R_iconst (pc := 105) (v := 1) dX9_mayStand_105 (by decide) ?_
                    refine R_icle (pc := 106) 190 dX9_mayStand_106 (by decide) (fun b106_144 => ?_) (fun b106_144 => ?_)
                    · skip
                      refine R_iload_n (pc := 190) dX9_mayStand_190 rfl rfl ?_
                      exact R_iret (pc := 191) dX9_mayStand_191 rfl (nar01 hg3_92) (Nat.zero_le _) (Nat.zero_le _) ⟨_, rfl, rfl⟩
                    · skip
                      refine R_aload_n (pc := 109) dX9_mayStand_109 rfl rfl ?_
                      refine g_X9_99 (pc := 110) (v := .ref 167) rfl dX9_mayStand_110 (c_140 _) rfl ?_
                      refine R_aload_n (pc := 113) dX9_mayStand_113 rfl rfl ?_
                      refine g_X9_105 (pc := 114) (v := .ref 169) rfl dX9_mayStand_114 (c_140 _) rfl ?_
                      refine R_iconst (pc := 117) (v := 5) dX9_mayStand_117 (by decide) ?_
                      refine R_iload_n (pc := 118) dX9_mayStand_118 rfl rfl ?_
                      refine R_imul (pc := 119) dX9_mayStand_119 ?_
                      have r145 : inR (5 * c) 0 95 := inR_mulc (c := 5) (l := 0) (h := 95) 5 (by decide) (show inR c 0 19 from hc) (by decide) (by decide)
                      have e146 := ti_mulc (c := 5) (l := 0) (h := 95) 5 (by decide) (show inR c 0 19 from hc) (by decide) (by decide)
                      refine R_iload (pc := 120) dX9_mayStand_120 rfl ?_
                      refine R_iconst (pc := 122) (v := 1) dX9_mayStand_122 (by decide) ?_
                      refine R_iadd (pc := 123) dX9_mayStand_123 ?_
                      have r147 : inR ((nI j92) + 1) 1 5 := inR_add (show inR (nI j92) 0 4 from hrg92) (show inR 1 1 1 from (inR_self _)) (by decide) (by decide)
                      have e148 := ti_add (l := 1) (h := 5) (show inR (nI j92) 0 4 from hrg92) (show inR 1 1 1 from (inR_self _)) (by decide) (by decide)
                      refine R_iload (pc := 124) dX9_mayStand_124 rfl ?_
                      refine R_icge (pc := 126) 134 dX9_mayStand_126 (by decide) (fun b126_149 => ?_) (fun b126_149 => ?_)
                      · skip
                        refine R_iconst (pc := 134) (v := 0) dX9_mayStand_134 (by decide) ?_
                        refine R_iadd (pc := 135) dX9_mayStand_135 ?_
                        have r150 : inR ((5 * c) + 0) 0 95 := inR_add (show inR (5 * c) 0 95 from r145) (show inR 0 0 0 from (inR_self _)) (by decide) (by decide)
                        have e151 := ti_add (l := 0) (h := 95) (show inR (5 * c) 0 95 from r145) (show inR 0 0 0 from (inR_self _)) (by decide) (by decide)
                        have hx152 : vp_in ((5 * c) + 0) 100 := (vp_of_inR r150 (by decide))
                        refine R_iaload (pc := 136) dX9_mayStand_136 (c_169 _) hx152 ?_
                        have hx153 : vp_in (σ.2.2.1 169 (Int32.toNatClampNeg ((5 * c) + 0))) 8 := (vp_of_inR (iva_169 hI _ (lt_of_vp hx152)) (by decide))
                        refine R_iaload (pc := 137) dX9_mayStand_137 (c_167 _) hx153 ?_
                        refine st_8_6_i_i (pc := 138) dX9_mayStand_138 ?_
                        refine R_aload_n (pc := 140) dX9_mayStand_140 rfl rfl ?_
                        refine g_X9_99 (pc := 141) (v := .ref 167) rfl dX9_mayStand_141 (c_140 _) rfl ?_
                        refine R_aload_n (pc := 144) dX9_mayStand_144 rfl rfl ?_
                        refine g_X9_105 (pc := 145) (v := .ref 169) rfl dX9_mayStand_145 (c_140 _) rfl ?_
                        refine R_iconst (pc := 148) (v := 5) dX9_mayStand_148 (by decide) ?_
                        refine R_iload_n (pc := 149) dX9_mayStand_149 rfl rfl ?_
                        refine R_imul (pc := 150) dX9_mayStand_150 ?_
                        have r154 : inR (5 * c) 0 95 := inR_mulc (c := 5) (l := 0) (h := 95) 5 (by decide) (show inR c 0 19 from hc) (by decide) (by decide)
                        have e155 := ti_mulc (c := 5) (l := 0) (h := 95) 5 (by decide) (show inR c 0 19 from hc) (by decide) (by decide)
                        refine R_iload (pc := 151) dX9_mayStand_151 rfl ?_
                        refine R_iconst (pc := 153) (v := 1) dX9_mayStand_153 (by decide) ?_
                        refine R_iadd (pc := 154) dX9_mayStand_154 ?_
                        have r156 : inR ((nI j92) + 1) 1 5 := inR_add (show inR (nI j92) 0 4 from hrg92) (show inR 1 1 1 from (inR_self _)) (by decide) (by decide)
                        have e157 := ti_add (l := 1) (h := 5) (show inR (nI j92) 0 4 from hrg92) (show inR 1 1 1 from (inR_self _)) (by decide) (by decide)
                        refine R_iload (pc := 155) dX9_mayStand_155 rfl ?_
                        refine R_icge (pc := 157) 167 dX9_mayStand_157 (by decide) (fun b157_158 => ?_) (fun b157_158 => ?_)
                        · skip
                          refine R_iload (pc := 167) dX9_mayStand_167 rfl ?_
                          refine R_iadd (pc := 169) dX9_mayStand_169 ?_
                          have r159 : inR ((5 * c) + (nI j92)) 0 99 := inR_add (show inR (5 * c) 0 95 from r154) (show inR (nI j92) 0 4 from hrg92) (by decide) (by decide)
                          have e160 := ti_add (l := 0) (h := 99) (show inR (5 * c) 0 95 from r154) (show inR (nI j92) 0 4 from hrg92) (by decide) (by decide)
                          have hx161 : vp_in ((5 * c) + (nI j92)) 100 := (vp_of_inR r159 (by decide))
                          refine R_iaload (pc := 170) dX9_mayStand_170 (c_169 _) hx161 ?_
                          have hx162 : vp_in (σ.2.2.1 169 (Int32.toNatClampNeg ((5 * c) + (nI j92)))) 8 := (vp_of_inR (iva_169 hI _ (lt_of_vp hx161)) (by decide))
                          refine R_iaload (pc := 171) dX9_mayStand_171 (c_167 _) hx162 ?_
                          refine st_8_7_i_i (pc := 172) dX9_mayStand_172 ?_
                          refine R_aload_n (pc := 174) dX9_mayStand_174 rfl rfl ?_
                          refine R_iload_n (pc := 175) dX9_mayStand_175 rfl rfl ?_
                          refine R_iload (pc := 176) dX9_mayStand_176 rfl ?_
                          refine R_iload (pc := 178) dX9_mayStand_178 rfl ?_
                          refine k_X9_242 (pc := 180) (gx_X9_isOrdered _ _ _ _ hI) rfl (c_140 _) (by decide) (Nat.le_refl _) (Nat.le_refl _) (Nat.le_of_ble_eq_true rfl) dX9_mayStand_180 (fun x w2 h => ?_)
                          rcases h with ⟨rfl, rfl | rfl⟩
                          · skip
                            refine st_8_3_i_i (pc := 183) dX9_mayStand_183 ?_
                            refine inc_8_5_1_i (pc := 184) dX9_mayStand_184 ?_
                            have r164 : inR ((nI j92) + 1) 1 5 := inR_add (show inR (nI j92) 0 4 from hrg92) (show inR 1 1 1 from (inR_self _)) (by decide) (by decide)
                            have e165 := ti_add (l := 1) (h := 5) (show inR (nI j92) 0 4 from hrg92) (show inR 1 1 1 from (inR_self _)) (by decide) (by decide)
                            refine R_goto (pc := 187) 92 dX9_mayStand_187 (by decide) ?_
                            rw [nI_1]
                            exact ih92 (j92 + 1) _ _ _ (by omega) (by omega) (show inR 1 0 1 from ⟨by decide, by decide⟩)
                          · skip
                            refine st_8_3_i_i (pc := 183) dX9_mayStand_183 ?_
                            refine inc_8_5_1_i (pc := 184) dX9_mayStand_184 ?_
                            have r166 : inR ((nI j92) + 1) 1 5 := inR_add (show inR (nI j92) 0 4 from hrg92) (show inR 1 1 1 from (inR_self _)) (by decide) (by decide)
                            have e167 := ti_add (l := 1) (h := 5) (show inR (nI j92) 0 4 from hrg92) (show inR 1 1 1 from (inR_self _)) (by decide) (by decide)
                            refine R_goto (pc := 187) 92 dX9_mayStand_187 (by decide) ?_
                            rw [nI_1]
                            exact ih92 (j92 + 1) _ _ _ (by omega) (by omega) (show inR 0 0 1 from ⟨by decide, by decide⟩)
                        · skip
                          refine R_iload (pc := 160) dX9_mayStand_160 rfl ?_
                          refine R_iconst (pc := 162) (v := 1) dX9_mayStand_162 (by decide) ?_
                          refine R_iadd (pc := 163) dX9_mayStand_163 ?_
                          have r168 : inR ((nI j92) + 1) 1 5 := inR_add (show inR (nI j92) 0 4 from hrg92) (show inR 1 1 1 from (inR_self _)) (by decide) (by decide)
                          have e169 := ti_add (l := 1) (h := 5) (show inR (nI j92) 0 4 from hrg92) (show inR 1 1 1 from (inR_self _)) (by decide) (by decide)
                          refine R_goto (pc := 164) 169 dX9_mayStand_164 (by decide) ?_
                          refine R_iadd (pc := 169) dX9_mayStand_169 ?_
                          have r170 : inR ((5 * c) + ((nI j92) + 1)) 1 100 := inR_add (show inR (5 * c) 0 95 from r154) (show inR ((nI j92) + 1) 1 5 from r168) (by decide) (by decide)
                          have e171 := ti_add (l := 1) (h := 100) (show inR (5 * c) 0 95 from r154) (show inR ((nI j92) + 1) 1 5 from r168) (by decide) (by decide)
                          have hx172 : vp_in ((5 * c) + ((nI j92) + 1)) 100 := (vp_ti (by have q0 := e146; have q1 := e148; have q2 := e151; have q3 := e155; have q4 := e157; have q5 := e169; have q6 := e171; have q7 := ti_nle b29_72; have q8 := ti_eq b33_140; have q9 := ti_nle b96_142; have q10 := ti_ne b100_143; have q11 := ti_nle b106_144; have q12 := ti_le b126_149; have q13 := ti_nle b157_158; have q14 := ti_in hc; have q15 := ti_in (iva_168 hI _ (lt_of_vp hx3)); have q16 := ti_in hg3_25; have q17 := ti_in hrg25; have q18 := ti_in hg3_92; have q19 := ti_in hrg92; have q20 := ti_in r154; have q21 := ti_in r168; have q22 := ti_in r150; have q23 := ti_in (iva_169 hI _ (lt_of_vp hx152)); have q24 := ti_in r170; have z0 : (0 : Int32).toInt = 0 := (by decide); have z1 : (1 : Int32).toInt = 1 := (by decide); have z2 : (100 : Int32).toInt = 100 := (by decide); have z3 : (168 : Int32).toInt = 168 := (by decide); have z4 : (19 : Int32).toInt = 19 := (by decide); have z5 : (4 : Int32).toInt = 4 := (by decide); have z6 : (5 : Int32).toInt = 5 := (by decide); have z7 : (7 : Int32).toInt = 7 := (by decide); have z8 : (95 : Int32).toInt = 95 := (by decide); omega) (by have q0 := e146; have q1 := e148; have q2 := e151; have q3 := e155; have q4 := e157; have q5 := e169; have q6 := e171; have q7 := ti_nle b29_72; have q8 := ti_eq b33_140; have q9 := ti_nle b96_142; have q10 := ti_ne b100_143; have q11 := ti_nle b106_144; have q12 := ti_le b126_149; have q13 := ti_nle b157_158; have q14 := ti_in hc; have q15 := ti_in (iva_168 hI _ (lt_of_vp hx3)); have q16 := ti_in hg3_25; have q17 := ti_in hrg25; have q18 := ti_in hg3_92; have q19 := ti_in hrg92; have q20 := ti_in r154; have q21 := ti_in r168; have q22 := ti_in r150; have q23 := ti_in (iva_169 hI _ (lt_of_vp hx152)); have q24 := ti_in r170; have z0 : (0 : Int32).toInt = 0 := (by decide); have z1 : (1 : Int32).toInt = 1 := (by decide); have z2 : (100 : Int32).toInt = 100 := (by decide); have z3 : (168 : Int32).toInt = 168 := (by decide); have z4 : (19 : Int32).toInt = 19 := (by decide); have z5 : (4 : Int32).toInt = 4 := (by decide); have z6 : (5 : Int32).toInt = 5 := (by decide); have z7 : (7 : Int32).toInt = 7 := (by decide); have z8 : (95 : Int32).toInt = 95 := (by decide); omega))
                          refine R_iaload (pc := 170) dX9_mayStand_170 (c_169 _) hx172 ?_
                          have hx173 : vp_in (σ.2.2.1 169 (Int32.toNatClampNeg ((5 * c) + ((nI j92) + 1)))) 8 := (vp_of_inR (iva_169 hI _ (lt_of_vp hx172)) (by decide))
                          refine R_iaload (pc := 171) dX9_mayStand_171 (c_167 _) hx173 ?_
                          refine st_8_7_i_i (pc := 172) dX9_mayStand_172 ?_
                          refine R_aload_n (pc := 174) dX9_mayStand_174 rfl rfl ?_
                          refine R_iload_n (pc := 175) dX9_mayStand_175 rfl rfl ?_
                          refine R_iload (pc := 176) dX9_mayStand_176 rfl ?_
                          refine R_iload (pc := 178) dX9_mayStand_178 rfl ?_
                          refine k_X9_242 (pc := 180) (gx_X9_isOrdered _ _ _ _ hI) rfl (c_140 _) (by decide) (Nat.le_refl _) (Nat.le_refl _) (Nat.le_of_ble_eq_true rfl) dX9_mayStand_180 (fun x w2 h => ?_)
                          rcases h with ⟨rfl, rfl | rfl⟩
                          · skip
                            refine st_8_3_i_i (pc := 183) dX9_mayStand_183 ?_
                            refine inc_8_5_1_i (pc := 184) dX9_mayStand_184 ?_
                            have r175 : inR ((nI j92) + 1) 1 5 := inR_add (show inR (nI j92) 0 4 from hrg92) (show inR 1 1 1 from (inR_self _)) (by decide) (by decide)
                            have e176 := ti_add (l := 1) (h := 5) (show inR (nI j92) 0 4 from hrg92) (show inR 1 1 1 from (inR_self _)) (by decide) (by decide)
                            refine R_goto (pc := 187) 92 dX9_mayStand_187 (by decide) ?_
                            rw [nI_1]
                            exact ih92 (j92 + 1) _ _ _ (by omega) (by omega) (show inR 1 0 1 from ⟨by decide, by decide⟩)
                          · skip
                            refine st_8_3_i_i (pc := 183) dX9_mayStand_183 ?_
                            refine inc_8_5_1_i (pc := 184) dX9_mayStand_184 ?_
                            have r177 : inR ((nI j92) + 1) 1 5 := inR_add (show inR (nI j92) 0 4 from hrg92) (show inR 1 1 1 from (inR_self _)) (by decide) (by decide)
                            have e178 := ti_add (l := 1) (h := 5) (show inR (nI j92) 0 4 from hrg92) (show inR 1 1 1 from (inR_self _)) (by decide) (by decide)
                            refine R_goto (pc := 187) 92 dX9_mayStand_187 (by decide) ?_
                            rw [nI_1]
                            exact ih92 (j92 + 1) _ _ _ (by omega) (by omega) (show inR 0 0 1 from ⟨by decide, by decide⟩)
                      · skip
                        refine R_iload (pc := 129) dX9_mayStand_129 rfl ?_
                        refine R_goto (pc := 131) 135 dX9_mayStand_131 (by decide) ?_
                        refine R_iadd (pc := 135) dX9_mayStand_135 ?_
                        have r179 : inR ((5 * c) + (nI j92)) 0 99 := inR_add (show inR (5 * c) 0 95 from r145) (show inR (nI j92) 0 4 from hrg92) (by decide) (by decide)
                        have e180 := ti_add (l := 0) (h := 99) (show inR (5 * c) 0 95 from r145) (show inR (nI j92) 0 4 from hrg92) (by decide) (by decide)
                        have hx181 : vp_in ((5 * c) + (nI j92)) 100 := (vp_of_inR r179 (by decide))
                        refine R_iaload (pc := 136) dX9_mayStand_136 (c_169 _) hx181 ?_
                        have hx182 : vp_in (σ.2.2.1 169 (Int32.toNatClampNeg ((5 * c) + (nI j92)))) 8 := (vp_of_inR (iva_169 hI _ (lt_of_vp hx181)) (by decide))
                        refine R_iaload (pc := 137) dX9_mayStand_137 (c_167 _) hx182 ?_
                        refine st_8_6_i_i (pc := 138) dX9_mayStand_138 ?_
                        refine R_aload_n (pc := 140) dX9_mayStand_140 rfl rfl ?_
                        refine g_X9_99 (pc := 141) (v := .ref 167) rfl dX9_mayStand_141 (c_140 _) rfl ?_
                        refine R_aload_n (pc := 144) dX9_mayStand_144 rfl rfl ?_
                        refine g_X9_105 (pc := 145) (v := .ref 169) rfl dX9_mayStand_145 (c_140 _) rfl ?_
                        refine R_iconst (pc := 148) (v := 5) dX9_mayStand_148 (by decide) ?_
                        refine R_iload_n (pc := 149) dX9_mayStand_149 rfl rfl ?_
                        refine R_imul (pc := 150) dX9_mayStand_150 ?_
                        have r183 : inR (5 * c) 0 95 := inR_mulc (c := 5) (l := 0) (h := 95) 5 (by decide) (show inR c 0 19 from hc) (by decide) (by decide)
                        have e184 := ti_mulc (c := 5) (l := 0) (h := 95) 5 (by decide) (show inR c 0 19 from hc) (by decide) (by decide)
                        refine R_iload (pc := 151) dX9_mayStand_151 rfl ?_
                        refine R_iconst (pc := 153) (v := 1) dX9_mayStand_153 (by decide) ?_
                        refine R_iadd (pc := 154) dX9_mayStand_154 ?_
                        have r185 : inR ((nI j92) + 1) 1 5 := inR_add (show inR (nI j92) 0 4 from hrg92) (show inR 1 1 1 from (inR_self _)) (by decide) (by decide)
                        have e186 := ti_add (l := 1) (h := 5) (show inR (nI j92) 0 4 from hrg92) (show inR 1 1 1 from (inR_self _)) (by decide) (by decide)
                        refine R_iload (pc := 155) dX9_mayStand_155 rfl ?_
                        refine R_icge (pc := 157) 167 dX9_mayStand_157 (by decide) (fun b157_187 => ?_) (fun b157_187 => ?_)
                        · skip
                          refine R_iload (pc := 167) dX9_mayStand_167 rfl ?_
                          refine R_iadd (pc := 169) dX9_mayStand_169 ?_
                          have r188 : inR ((5 * c) + (nI j92)) 0 99 := inR_add (show inR (5 * c) 0 95 from r183) (show inR (nI j92) 0 4 from hrg92) (by decide) (by decide)
                          have e189 := ti_add (l := 0) (h := 99) (show inR (5 * c) 0 95 from r183) (show inR (nI j92) 0 4 from hrg92) (by decide) (by decide)
                          have hx190 : vp_in ((5 * c) + (nI j92)) 100 := (vp_of_inR r188 (by decide))
                          refine R_iaload (pc := 170) dX9_mayStand_170 (c_169 _) hx190 ?_
                          have hx191 : vp_in (σ.2.2.1 169 (Int32.toNatClampNeg ((5 * c) + (nI j92)))) 8 := (vp_of_inR (iva_169 hI _ (lt_of_vp hx181)) (by decide))
                          refine R_iaload (pc := 171) dX9_mayStand_171 (c_167 _) hx191 ?_
                          refine st_8_7_i_i (pc := 172) dX9_mayStand_172 ?_
                          refine R_aload_n (pc := 174) dX9_mayStand_174 rfl rfl ?_
                          refine R_iload_n (pc := 175) dX9_mayStand_175 rfl rfl ?_
                          refine R_iload (pc := 176) dX9_mayStand_176 rfl ?_
                          refine R_iload (pc := 178) dX9_mayStand_178 rfl ?_
                          refine k_X9_242 (pc := 180) (gx_X9_isOrdered _ _ _ _ hI) rfl (c_140 _) (by decide) (Nat.le_refl _) (Nat.le_refl _) (Nat.le_of_ble_eq_true rfl) dX9_mayStand_180 (fun x w2 h => ?_)
                          rcases h with ⟨rfl, rfl | rfl⟩
                          · skip
                            refine st_8_3_i_i (pc := 183) dX9_mayStand_183 ?_
                            refine inc_8_5_1_i (pc := 184) dX9_mayStand_184 ?_
                            have r193 : inR ((nI j92) + 1) 1 5 := inR_add (show inR (nI j92) 0 4 from hrg92) (show inR 1 1 1 from (inR_self _)) (by decide) (by decide)
                            have e194 := ti_add (l := 1) (h := 5) (show inR (nI j92) 0 4 from hrg92) (show inR 1 1 1 from (inR_self _)) (by decide) (by decide)
                            refine R_goto (pc := 187) 92 dX9_mayStand_187 (by decide) ?_
                            rw [nI_1]
                            exact ih92 (j92 + 1) _ _ _ (by omega) (by omega) (show inR 1 0 1 from ⟨by decide, by decide⟩)
                          · skip
                            refine st_8_3_i_i (pc := 183) dX9_mayStand_183 ?_
                            refine inc_8_5_1_i (pc := 184) dX9_mayStand_184 ?_
                            have r195 : inR ((nI j92) + 1) 1 5 := inR_add (show inR (nI j92) 0 4 from hrg92) (show inR 1 1 1 from (inR_self _)) (by decide) (by decide)
                            have e196 := ti_add (l := 1) (h := 5) (show inR (nI j92) 0 4 from hrg92) (show inR 1 1 1 from (inR_self _)) (by decide) (by decide)
                            refine R_goto (pc := 187) 92 dX9_mayStand_187 (by decide) ?_
                            rw [nI_1]
                            exact ih92 (j92 + 1) _ _ _ (by omega) (by omega) (show inR 0 0 1 from ⟨by decide, by decide⟩)
                        · skip
                          refine R_iload (pc := 160) dX9_mayStand_160 rfl ?_
                          refine R_iconst (pc := 162) (v := 1) dX9_mayStand_162 (by decide) ?_
                          refine R_iadd (pc := 163) dX9_mayStand_163 ?_
                          have r197 : inR ((nI j92) + 1) 1 5 := inR_add (show inR (nI j92) 0 4 from hrg92) (show inR 1 1 1 from (inR_self _)) (by decide) (by decide)
                          have e198 := ti_add (l := 1) (h := 5) (show inR (nI j92) 0 4 from hrg92) (show inR 1 1 1 from (inR_self _)) (by decide) (by decide)
                          refine R_goto (pc := 164) 169 dX9_mayStand_164 (by decide) ?_
                          refine R_iadd (pc := 169) dX9_mayStand_169 ?_
                          have r199 : inR ((5 * c) + ((nI j92) + 1)) 1 100 := inR_add (show inR (5 * c) 0 95 from r183) (show inR ((nI j92) + 1) 1 5 from r197) (by decide) (by decide)
                          have e200 := ti_add (l := 1) (h := 100) (show inR (5 * c) 0 95 from r183) (show inR ((nI j92) + 1) 1 5 from r197) (by decide) (by decide)
                          have hx201 : vp_in ((5 * c) + ((nI j92) + 1)) 100 := (vp_ti (by have q0 := e146; have q1 := e148; have q2 := e180; have q3 := e184; have q4 := e186; have q5 := e198; have q6 := e200; have q7 := ti_nle b29_72; have q8 := ti_eq b33_140; have q9 := ti_nle b96_142; have q10 := ti_ne b100_143; have q11 := ti_nle b106_144; have q12 := ti_nle b126_149; have q13 := ti_nle b157_187; have q14 := ti_in hc; have q15 := ti_in (iva_168 hI _ (lt_of_vp hx3)); have q16 := ti_in hg3_25; have q17 := ti_in hrg25; have q18 := ti_in hg3_92; have q19 := ti_in hrg92; have q20 := ti_in r183; have q21 := ti_in r197; have q22 := ti_in r179; have q23 := ti_in (iva_169 hI _ (lt_of_vp hx181)); have q24 := ti_in r199; have z0 : (0 : Int32).toInt = 0 := (by decide); have z1 : (1 : Int32).toInt = 1 := (by decide); have z2 : (100 : Int32).toInt = 100 := (by decide); have z3 : (168 : Int32).toInt = 168 := (by decide); have z4 : (19 : Int32).toInt = 19 := (by decide); have z5 : (4 : Int32).toInt = 4 := (by decide); have z6 : (5 : Int32).toInt = 5 := (by decide); have z7 : (7 : Int32).toInt = 7 := (by decide); have z8 : (95 : Int32).toInt = 95 := (by decide); have z9 : (99 : Int32).toInt = 99 := (by decide); omega) (by have q0 := e146; have q1 := e148; have q2 := e180; have q3 := e184; have q4 := e186; have q5 := e198; have q6 := e200; have q7 := ti_nle b29_72; have q8 := ti_eq b33_140; have q9 := ti_nle b96_142; have q10 := ti_ne b100_143; have q11 := ti_nle b106_144; have q12 := ti_nle b126_149; have q13 := ti_nle b157_187; have q14 := ti_in hc; have q15 := ti_in (iva_168 hI _ (lt_of_vp hx3)); have q16 := ti_in hg3_25; have q17 := ti_in hrg25; have q18 := ti_in hg3_92; have q19 := ti_in hrg92; have q20 := ti_in r183; have q21 := ti_in r197; have q22 := ti_in r179; have q23 := ti_in (iva_169 hI _ (lt_of_vp hx181)); have q24 := ti_in r199; have z0 : (0 : Int32).toInt = 0 := (by decide); have z1 : (1 : Int32).toInt = 1 := (by decide); have z2 : (100 : Int32).toInt = 100 := (by decide); have z3 : (168 : Int32).toInt = 168 := (by decide); have z4 : (19 : Int32).toInt = 19 := (by decide); have z5 : (4 : Int32).toInt = 4 := (by decide); have z6 : (5 : Int32).toInt = 5 := (by decide); have z7 : (7 : Int32).toInt = 7 := (by decide); have z8 : (95 : Int32).toInt = 95 := (by decide); have z9 : (99 : Int32).toInt = 99 := (by decide); omega))
                          refine R_iaload (pc := 170) dX9_mayStand_170 (c_169 _) hx201 ?_
                          have hx202 : vp_in (σ.2.2.1 169 (Int32.toNatClampNeg ((5 * c) + ((nI j92) + 1)))) 8 := (vp_of_inR (iva_169 hI _ (lt_of_vp hx201)) (by decide))
                          refine R_iaload (pc := 171) dX9_mayStand_171 (c_167 _) hx202 ?_
                          refine st_8_7_i_i (pc := 172) dX9_mayStand_172 ?_
                          refine R_aload_n (pc := 174) dX9_mayStand_174 rfl rfl ?_
                          refine R_iload_n (pc := 175) dX9_mayStand_175 rfl rfl ?_
                          refine R_iload (pc := 176) dX9_mayStand_176 rfl ?_
                          refine R_iload (pc := 178) dX9_mayStand_178 rfl ?_
                          refine k_X9_242 (pc := 180) (gx_X9_isOrdered _ _ _ _ hI) rfl (c_140 _) (by decide) (Nat.le_refl _) (Nat.le_refl _) (Nat.le_of_ble_eq_true rfl) dX9_mayStand_180 (fun x w2 h => ?_)
                          rcases h with ⟨rfl, rfl | rfl⟩
                          · skip
                            refine st_8_3_i_i (pc := 183) dX9_mayStand_183 ?_
                            refine inc_8_5_1_i (pc := 184) dX9_mayStand_184 ?_
                            have r204 : inR ((nI j92) + 1) 1 5 := inR_add (show inR (nI j92) 0 4 from hrg92) (show inR 1 1 1 from (inR_self _)) (by decide) (by decide)
                            have e205 := ti_add (l := 1) (h := 5) (show inR (nI j92) 0 4 from hrg92) (show inR 1 1 1 from (inR_self _)) (by decide) (by decide)
                            refine R_goto (pc := 187) 92 dX9_mayStand_187 (by decide) ?_
                            rw [nI_1]
                            exact ih92 (j92 + 1) _ _ _ (by omega) (by omega) (show inR 1 0 1 from ⟨by decide, by decide⟩)
                          · skip
                            refine st_8_3_i_i (pc := 183) dX9_mayStand_183 ?_
                            refine inc_8_5_1_i (pc := 184) dX9_mayStand_184 ?_
                            have r206 : inR ((nI j92) + 1) 1 5 := inR_add (show inR (nI j92) 0 4 from hrg92) (show inR 1 1 1 from (inR_self _)) (by decide) (by decide)
                            have e207 := ti_add (l := 1) (h := 5) (show inR (nI j92) 0 4 from hrg92) (show inR 1 1 1 from (inR_self _)) (by decide) (by decide)
                            refine R_goto (pc := 187) 92 dX9_mayStand_187 (by decide) ?_
                            rw [nI_1]
                            exact ih92 (j92 + 1) _ _ _ (by omega) (by omega) (show inR 0 0 1 from ⟨by decide, by decide⟩)
            exact HL92 5 0 _ _ _ (by omega) (by omega) hg3_25
          · skip
            refine R_aload_n (pc := 36) dX9_mayStand_36 rfl rfl ?_
            refine g_X9_99 (pc := 37) (v := .ref 167) rfl dX9_mayStand_37 (c_140 _) rfl ?_
            refine R_aload_n (pc := 40) dX9_mayStand_40 rfl rfl ?_
            refine g_X9_105 (pc := 41) (v := .ref 169) rfl dX9_mayStand_41 (c_140 _) rfl ?_
            refine R_iconst (pc := 44) (v := 5) dX9_mayStand_44 (by decide) ?_
            refine R_iload_n (pc := 45) dX9_mayStand_45 rfl rfl ?_
            refine R_imul (pc := 46) dX9_mayStand_46 ?_
            have r208 : inR (5 * c) 0 95 := inR_mulc (c := 5) (l := 0) (h := 95) 5 (by decide) (show inR c 0 19 from hc) (by decide) (by decide)
            have e209 := ti_mulc (c := 5) (l := 0) (h := 95) 5 (by decide) (show inR c 0 19 from hc) (by decide) (by decide)
            refine R_iload (pc := 47) dX9_mayStand_47 rfl ?_
            refine R_iadd (pc := 49) dX9_mayStand_49 ?_
            have r210 : inR ((5 * c) + (nI j25)) 0 99 := inR_add (show inR (5 * c) 0 95 from r208) (show inR (nI j25) 0 4 from hrg25) (by decide) (by decide)
            have e211 := ti_add (l := 0) (h := 99) (show inR (5 * c) 0 95 from r208) (show inR (nI j25) 0 4 from hrg25) (by decide) (by decide)
            have hx212 : vp_in ((5 * c) + (nI j25)) 100 := (vp_of_inR r210 (by decide))
            refine R_iaload (pc := 50) dX9_mayStand_50 (c_169 _) hx212 ?_
            have hx213 : vp_in (σ.2.2.1 169 (Int32.toNatClampNeg ((5 * c) + (nI j25)))) 8 := (vp_of_inR (iva_169 hI _ (lt_of_vp hx212)) (by decide))
            refine R_iaload (pc := 51) dX9_mayStand_51 (c_167 _) hx213 ?_
            refine st_8_6_i_i (pc := 52) dX9_mayStand_52 ?_
            refine R_iload (pc := 54) dX9_mayStand_54 rfl ?_
            refine R_bipush (pc := 56) (v := 64) dX9_mayStand_56 (by decide) ?_
            refine R_icge (pc := 58) 81 dX9_mayStand_58 (by decide) (fun b58_214 => ?_) (fun b58_214 => ?_)
            · skip
              refine R_iconst (pc := 81) (v := 0) dX9_mayStand_81 (by decide) ?_
              refine st_8_3_i_i (pc := 82) dX9_mayStand_82 ?_
              refine inc_8_5_1_i (pc := 83) dX9_mayStand_83 ?_
              have r215 : inR ((nI j25) + 1) 1 5 := inR_add (show inR (nI j25) 0 4 from hrg25) (show inR 1 1 1 from (inR_self _)) (by decide) (by decide)
              have e216 := ti_add (l := 1) (h := 5) (show inR (nI j25) 0 4 from hrg25) (show inR 1 1 1 from (inR_self _)) (by decide) (by decide)
              refine R_goto (pc := 86) 25 dX9_mayStand_86 (by decide) ?_
              rw [nI_1]
              exact ih25 (j25 + 1) _ _ _ (by omega) (by omega) (show inR 0 0 1 from ⟨by decide, by decide⟩)
            · skip
              refine R_iload (pc := 61) dX9_mayStand_61 rfl ?_
              refine R_iload_n (pc := 63) dX9_mayStand_63 rfl rfl ?_
              refine R_iceq (pc := 64) 81 dX9_mayStand_64 (by decide) (fun b64_217 => ?_) (fun b64_217 => ?_)
              · skip
                refine R_iconst (pc := 81) (v := 0) dX9_mayStand_81 (by decide) ?_
                refine st_8_3_i_i (pc := 82) dX9_mayStand_82 ?_
                refine inc_8_5_1_i (pc := 83) dX9_mayStand_83 ?_
                have r218 : inR ((nI j25) + 1) 1 5 := inR_add (show inR (nI j25) 0 4 from hrg25) (show inR 1 1 1 from (inR_self _)) (by decide) (by decide)
                have e219 := ti_add (l := 1) (h := 5) (show inR (nI j25) 0 4 from hrg25) (show inR 1 1 1 from (inR_self _)) (by decide) (by decide)
                refine R_goto (pc := 86) 25 dX9_mayStand_86 (by decide) ?_
                rw [nI_1]
                exact ih25 (j25 + 1) _ _ _ (by omega) (by omega) (show inR 0 0 1 from ⟨by decide, by decide⟩)
              · skip
                refine R_aload_n (pc := 67) dX9_mayStand_67 rfl rfl ?_
                refine R_iload_n (pc := 68) dX9_mayStand_68 rfl rfl ?_
                refine R_iload (pc := 69) dX9_mayStand_69 rfl ?_
                refine k_X9_239 (pc := 71) (gx_X9_isSeen _ _ _ hI) rfl (c_140 _) (by decide) (Nat.le_refl _) (Nat.le_refl _) (Nat.le_of_ble_eq_true rfl) dX9_mayStand_71 (fun y220 w2 h => ?_)
                subst h
                refine R_ifeq (pc := 74) 81 dX9_mayStand_74 (by decide) (fun b74_221 => ?_) (fun b74_221 => ?_)
                · skip
                  refine R_iconst (pc := 81) (v := 0) dX9_mayStand_81 (by decide) ?_
                  refine st_8_3_i_i (pc := 82) dX9_mayStand_82 ?_
                  refine inc_8_5_1_i (pc := 83) dX9_mayStand_83 ?_
                  have r222 : inR ((nI j25) + 1) 1 5 := inR_add (show inR (nI j25) 0 4 from hrg25) (show inR 1 1 1 from (inR_self _)) (by decide) (by decide)
                  have e223 := ti_add (l := 1) (h := 5) (show inR (nI j25) 0 4 from hrg25) (show inR 1 1 1 from (inR_self _)) (by decide) (by decide)
                  refine R_goto (pc := 86) 25 dX9_mayStand_86 (by decide) ?_
                  rw [nI_1]
                  exact ih25 (j25 + 1) _ _ _ (by omega) (by omega) (show inR 0 0 1 from ⟨by decide, by decide⟩)
                · skip
                  refine R_iconst (pc := 77) (v := 1) dX9_mayStand_77 (by decide) ?_
                  refine R_goto (pc := 78) 82 dX9_mayStand_78 (by decide) ?_
                  refine st_8_3_i_i (pc := 82) dX9_mayStand_82 ?_
                  refine inc_8_5_1_i (pc := 83) dX9_mayStand_83 ?_
                  have r224 : inR ((nI j25) + 1) 1 5 := inR_add (show inR (nI j25) 0 4 from hrg25) (show inR 1 1 1 from (inR_self _)) (by decide) (by decide)
                  have e225 := ti_add (l := 1) (h := 5) (show inR (nI j25) 0 4 from hrg25) (show inR 1 1 1 from (inR_self _)) (by decide) (by decide)
                  refine R_goto (pc := 86) 25 dX9_mayStand_86 (by decide) ?_
                  rw [nI_1]
                  exact ih25 (j25 + 1) _ _ _ (by omega) (by omega) (show inR 1 0 1 from ⟨by decide, by decide⟩)
    exact HL25 5 0 _ _ _ (by omega) (by omega) (show inR 0 0 1 from ⟨by decide, by decide⟩)
  · skip
    refine R_ifne (pc := 5) 12 dX9_mayStand_5 (by decide) (fun h => absurd (by decide) h) (fun _ => ?_)
    refine R_iconst (pc := 8) (v := 1) dX9_mayStand_8 (by decide) ?_
    refine R_goto (pc := 9) 13 dX9_mayStand_9 (by decide) ?_
    refine st_8_3_i_i (pc := 13) dX9_mayStand_13 ?_
    refine R_aload_n (pc := 14) dX9_mayStand_14 rfl rfl ?_
    refine g_X9_102 (pc := 15) (v := .ref 168) rfl dX9_mayStand_15 (c_140 _) rfl ?_
    refine R_iload_n (pc := 18) dX9_mayStand_18 rfl rfl ?_
    have hx227 : vp_in c 20 := (vp_of_inR hc (by decide))
    refine R_iaload (pc := 19) dX9_mayStand_19 (c_168 _) hx227 ?_
    refine st_8_4_i_i (pc := 20) dX9_mayStand_20 ?_
    refine R_iconst (pc := 22) (v := 0) dX9_mayStand_22 (by decide) ?_
    refine st_8_5_i_i (pc := 23) dX9_mayStand_23 ?_
    have HL25 : ∀ (q j25 : Nat) (g3_25 : Int32) (g6_25 : Option Value) (g7_25 : Option Value), j25 + q = 5 → 0 ≤ j25 → inR g3_25 0 1 → R G l yX9_mayStand cX9_mayStand 8 (some .boolean) 2 0 0 (QI (fun x w2 => w2 = WW σ)) 25 [(some (.ref 140)), (some (.int c)), (some (.int k)), (some (.int g3_25)), (some (.int (σ.2.2.1 168 (Int32.toNatClampNeg c)))), (some (.int (nI j25))), g6_25, g7_25] [] (WW σ) 0 0 := by
      intro q
      induction q with
      | zero =>
        intro j25 g3_25 g6_25 g7_25 hj hs25 hg3_25
        obtain rfl : j25 = 5 := by omega
        refine R_iload (pc := 25) dX9_mayStand_25 rfl ?_
        refine R_iload (pc := 27) dX9_mayStand_27 rfl ?_
        refine R_icge (pc := 29) 89 dX9_mayStand_29 (by decide) (fun _ => ?_) (fun h => absurd (Int32.not_lt.mp (inR_up (iva_168 hI _ (lt_of_vp hx227)) (Int32.le_refl _) (by decide)).2) h)
        refine R_iconst (pc := 89) (v := 0) dX9_mayStand_89 (by decide) ?_
        refine st_8_5_i_i (pc := 90) dX9_mayStand_90 ?_
        have HL92 : ∀ (q j92 : Nat) (g3_92 : Int32) (g6_92 : Option Value) (g7_92 : Option Value), j92 + q = 5 → 0 ≤ j92 → inR g3_92 0 1 → R G l yX9_mayStand cX9_mayStand 8 (some .boolean) 2 0 0 (QI (fun x w2 => w2 = WW σ)) 92 [(some (.ref 140)), (some (.int c)), (some (.int k)), (some (.int g3_92)), (some (.int (σ.2.2.1 168 (Int32.toNatClampNeg c)))), (some (.int (nI j92))), g6_92, g7_92] [] (WW σ) 0 0 := by
          intro q
          induction q with
          | zero =>
            intro j92 g3_92 g6_92 g7_92 hj hs92 hg3_92
            obtain rfl : j92 = 5 := by omega
            refine R_iload (pc := 92) dX9_mayStand_92 rfl ?_
            refine R_iload (pc := 94) dX9_mayStand_94 rfl ?_
            refine R_icge (pc := 96) 190 dX9_mayStand_96 (by decide) (fun _ => ?_) (fun h => absurd (Int32.not_lt.mp (inR_up (iva_168 hI _ (lt_of_vp hx227)) (Int32.le_refl _) (by decide)).2) h)
            refine R_iload_n (pc := 190) dX9_mayStand_190 rfl rfl ?_
            exact R_iret (pc := 191) dX9_mayStand_191 rfl (nar01 hg3_92) (Nat.zero_le _) (Nat.zero_le _) ⟨_, rfl, rfl⟩
          | succ q ih92 =>
            intro j92 g3_92 g6_92 g7_92 hj hs92 hg3_92
            have hrg92 : inR (nI j92) 0 4 := inR_ix hs92 (show j92 < 5 by omega) (by decide) (by decide) (by decide)
            have hlt92 : j92 < 5 := by omega
            refine R_iload (pc := 92) dX9_mayStand_92 rfl ?_
            refine R_iload (pc := 94) dX9_mayStand_94 rfl ?_
            refine R_icge (pc := 96) 190 dX9_mayStand_96 (by decide) (fun b96_230 => ?_) (fun b96_230 => ?_)
            · skip
              refine R_iload_n (pc := 190) dX9_mayStand_190 rfl rfl ?_
              exact R_iret (pc := 191) dX9_mayStand_191 rfl (nar01 hg3_92) (Nat.zero_le _) (Nat.zero_le _) ⟨_, rfl, rfl⟩
            · skip
              refine R_iload_n (pc := 99) dX9_mayStand_99 rfl rfl ?_
              refine R_ifeq (pc := 100) 190 dX9_mayStand_100 (by decide) (fun b100_231 => ?_) (fun b100_231 => ?_)
              · skip
                refine R_iload_n (pc := 190) dX9_mayStand_190 rfl rfl ?_
                exact R_iret (pc := 191) dX9_mayStand_191 rfl (nar01 hg3_92) (Nat.zero_le _) (Nat.zero_le _) ⟨_, rfl, rfl⟩
              · skip
                refine R_iload (pc := 103) dX9_mayStand_103 rfl ?_
                refine R_iconst (pc := 105) (v := 1) dX9_mayStand_105 (by decide) ?_
                refine R_icle (pc := 106) 190 dX9_mayStand_106 (by decide) (fun b106_232 => ?_) (fun b106_232 => ?_)
                · skip
                  refine R_iload_n (pc := 190) dX9_mayStand_190 rfl rfl ?_
                  exact R_iret (pc := 191) dX9_mayStand_191 rfl (nar01 hg3_92) (Nat.zero_le _) (Nat.zero_le _) ⟨_, rfl, rfl⟩
                · skip
                  refine R_aload_n (pc := 109) dX9_mayStand_109 rfl rfl ?_
                  refine g_X9_99 (pc := 110) (v := .ref 167) rfl dX9_mayStand_110 (c_140 _) rfl ?_
                  refine R_aload_n (pc := 113) dX9_mayStand_113 rfl rfl ?_
                  refine g_X9_105 (pc := 114) (v := .ref 169) rfl dX9_mayStand_114 (c_140 _) rfl ?_
                  refine R_iconst (pc := 117) (v := 5) dX9_mayStand_117 (by decide) ?_
                  refine R_iload_n (pc := 118) dX9_mayStand_118 rfl rfl ?_
                  refine R_imul (pc := 119) dX9_mayStand_119 ?_
                  have r233 : inR (5 * c) 0 95 := inR_mulc (c := 5) (l := 0) (h := 95) 5 (by decide) (show inR c 0 19 from hc) (by decide) (by decide)
                  have e234 := ti_mulc (c := 5) (l := 0) (h := 95) 5 (by decide) (show inR c 0 19 from hc) (by decide) (by decide)
                  refine R_iload (pc := 120) dX9_mayStand_120 rfl ?_
                  refine R_iconst (pc := 122) (v := 1) dX9_mayStand_122 (by decide) ?_
                  refine R_iadd (pc := 123) dX9_mayStand_123 ?_
                  have r235 : inR ((nI j92) + 1) 1 5 := inR_add (show inR (nI j92) 0 4 from hrg92) (show inR 1 1 1 from (inR_self _)) (by decide) (by decide)
                  have e236 := ti_add (l := 1) (h := 5) (show inR (nI j92) 0 4 from hrg92) (show inR 1 1 1 from (inR_self _)) (by decide) (by decide)
                  refine R_iload (pc := 124) dX9_mayStand_124 rfl ?_
                  refine R_icge (pc := 126) 134 dX9_mayStand_126 (by decide) (fun b126_237 => ?_) (fun b126_237 => ?_)
                  · skip
                    refine R_iconst (pc := 134) (v := 0) dX9_mayStand_134 (by decide) ?_
                    refine R_iadd (pc := 135) dX9_mayStand_135 ?_
                    have r238 : inR ((5 * c) + 0) 0 95 := inR_add (show inR (5 * c) 0 95 from r233) (show inR 0 0 0 from (inR_self _)) (by decide) (by decide)
                    have e239 := ti_add (l := 0) (h := 95) (show inR (5 * c) 0 95 from r233) (show inR 0 0 0 from (inR_self _)) (by decide) (by decide)
                    have hx240 : vp_in ((5 * c) + 0) 100 := (vp_of_inR r238 (by decide))
                    refine R_iaload (pc := 136) dX9_mayStand_136 (c_169 _) hx240 ?_
                    have hx241 : vp_in (σ.2.2.1 169 (Int32.toNatClampNeg ((5 * c) + 0))) 8 := (vp_of_inR (iva_169 hI _ (lt_of_vp hx240)) (by decide))
                    refine R_iaload (pc := 137) dX9_mayStand_137 (c_167 _) hx241 ?_
                    refine st_8_6_i_i (pc := 138) dX9_mayStand_138 ?_
                    refine R_aload_n (pc := 140) dX9_mayStand_140 rfl rfl ?_
                    refine g_X9_99 (pc := 141) (v := .ref 167) rfl dX9_mayStand_141 (c_140 _) rfl ?_
                    refine R_aload_n (pc := 144) dX9_mayStand_144 rfl rfl ?_
                    refine g_X9_105 (pc := 145) (v := .ref 169) rfl dX9_mayStand_145 (c_140 _) rfl ?_
                    refine R_iconst (pc := 148) (v := 5) dX9_mayStand_148 (by decide) ?_
                    refine R_iload_n (pc := 149) dX9_mayStand_149 rfl rfl ?_
                    refine R_imul (pc := 150) dX9_mayStand_150 ?_
                    have r242 : inR (5 * c) 0 95 := inR_mulc (c := 5) (l := 0) (h := 95) 5 (by decide) (show inR c 0 19 from hc) (by decide) (by decide)
                    have e243 := ti_mulc (c := 5) (l := 0) (h := 95) 5 (by decide) (show inR c 0 19 from hc) (by decide) (by decide)
                    refine R_iload (pc := 151) dX9_mayStand_151 rfl ?_
                    refine R_iconst (pc := 153) (v := 1) dX9_mayStand_153 (by decide) ?_
                    refine R_iadd (pc := 154) dX9_mayStand_154 ?_
                    have r244 : inR ((nI j92) + 1) 1 5 := inR_add (show inR (nI j92) 0 4 from hrg92) (show inR 1 1 1 from (inR_self _)) (by decide) (by decide)
                    have e245 := ti_add (l := 1) (h := 5) (show inR (nI j92) 0 4 from hrg92) (show inR 1 1 1 from (inR_self _)) (by decide) (by decide)
                    refine R_iload (pc := 155) dX9_mayStand_155 rfl ?_
                    refine R_icge (pc := 157) 167 dX9_mayStand_157 (by decide) (fun b157_246 => ?_) (fun b157_246 => ?_)
                    · skip
                      refine R_iload (pc := 167) dX9_mayStand_167 rfl ?_
                      refine R_iadd (pc := 169) dX9_mayStand_169 ?_
                      have r247 : inR ((5 * c) + (nI j92)) 0 99 := inR_add (show inR (5 * c) 0 95 from r242) (show inR (nI j92) 0 4 from hrg92) (by decide) (by decide)
                      have e248 := ti_add (l := 0) (h := 99) (show inR (5 * c) 0 95 from r242) (show inR (nI j92) 0 4 from hrg92) (by decide) (by decide)
                      have hx249 : vp_in ((5 * c) + (nI j92)) 100 := (vp_of_inR r247 (by decide))
                      refine R_iaload (pc := 170) dX9_mayStand_170 (c_169 _) hx249 ?_
                      have hx250 : vp_in (σ.2.2.1 169 (Int32.toNatClampNeg ((5 * c) + (nI j92)))) 8 := (vp_of_inR (iva_169 hI _ (lt_of_vp hx249)) (by decide))
                      refine R_iaload (pc := 171) dX9_mayStand_171 (c_167 _) hx250 ?_
                      refine st_8_7_i_i (pc := 172) dX9_mayStand_172 ?_
                      refine R_aload_n (pc := 174) dX9_mayStand_174 rfl rfl ?_
                      refine R_iload_n (pc := 175) dX9_mayStand_175 rfl rfl ?_
                      refine R_iload (pc := 176) dX9_mayStand_176 rfl ?_
                      refine R_iload (pc := 178) dX9_mayStand_178 rfl ?_
                      refine k_X9_242 (pc := 180) (gx_X9_isOrdered _ _ _ _ hI) rfl (c_140 _) (by decide) (Nat.le_refl _) (Nat.le_refl _) (Nat.le_of_ble_eq_true rfl) dX9_mayStand_180 (fun x w2 h => ?_)
                      rcases h with ⟨rfl, rfl | rfl⟩
                      · skip
                        refine st_8_3_i_i (pc := 183) dX9_mayStand_183 ?_
                        refine inc_8_5_1_i (pc := 184) dX9_mayStand_184 ?_
                        have r252 : inR ((nI j92) + 1) 1 5 := inR_add (show inR (nI j92) 0 4 from hrg92) (show inR 1 1 1 from (inR_self _)) (by decide) (by decide)
                        have e253 := ti_add (l := 1) (h := 5) (show inR (nI j92) 0 4 from hrg92) (show inR 1 1 1 from (inR_self _)) (by decide) (by decide)
                        refine R_goto (pc := 187) 92 dX9_mayStand_187 (by decide) ?_
                        rw [nI_1]
                        exact ih92 (j92 + 1) _ _ _ (by omega) (by omega) (show inR 1 0 1 from ⟨by decide, by decide⟩)
                      · skip
                        refine st_8_3_i_i (pc := 183) dX9_mayStand_183 ?_
                        refine inc_8_5_1_i (pc := 184) dX9_mayStand_184 ?_
                        have r254 : inR ((nI j92) + 1) 1 5 := inR_add (show inR (nI j92) 0 4 from hrg92) (show inR 1 1 1 from (inR_self _)) (by decide) (by decide)
                        have e255 := ti_add (l := 1) (h := 5) (show inR (nI j92) 0 4 from hrg92) (show inR 1 1 1 from (inR_self _)) (by decide) (by decide)
                        refine R_goto (pc := 187) 92 dX9_mayStand_187 (by decide) ?_
                        rw [nI_1]
                        exact ih92 (j92 + 1) _ _ _ (by omega) (by omega) (show inR 0 0 1 from ⟨by decide, by decide⟩)
                    · skip
                      refine R_iload (pc := 160) dX9_mayStand_160 rfl ?_
                      refine R_iconst (pc := 162) (v := 1) dX9_mayStand_162 (by decide) ?_
                      refine R_iadd (pc := 163) dX9_mayStand_163 ?_
                      have r256 : inR ((nI j92) + 1) 1 5 := inR_add (show inR (nI j92) 0 4 from hrg92) (show inR 1 1 1 from (inR_self _)) (by decide) (by decide)
                      have e257 := ti_add (l := 1) (h := 5) (show inR (nI j92) 0 4 from hrg92) (show inR 1 1 1 from (inR_self _)) (by decide) (by decide)
                      refine R_goto (pc := 164) 169 dX9_mayStand_164 (by decide) ?_
                      refine R_iadd (pc := 169) dX9_mayStand_169 ?_
                      have r258 : inR ((5 * c) + ((nI j92) + 1)) 1 100 := inR_add (show inR (5 * c) 0 95 from r242) (show inR ((nI j92) + 1) 1 5 from r256) (by decide) (by decide)
                      have e259 := ti_add (l := 1) (h := 100) (show inR (5 * c) 0 95 from r242) (show inR ((nI j92) + 1) 1 5 from r256) (by decide) (by decide)
                      have hx260 : vp_in ((5 * c) + ((nI j92) + 1)) 100 := (vp_ti (by have q0 := e234; have q1 := e236; have q2 := e239; have q3 := e243; have q4 := e245; have q5 := e257; have q6 := e259; have q7 := ti_nle b96_230; have q8 := ti_ne b100_231; have q9 := ti_nle b106_232; have q10 := ti_le b126_237; have q11 := ti_nle b157_246; have q12 := ti_in hc; have q13 := ti_in (iva_168 hI _ (lt_of_vp hx227)); have q14 := ti_in hg3_25; have q15 := ti_in hg3_92; have q16 := ti_in hrg92; have q17 := ti_in r242; have q18 := ti_in r256; have q19 := ti_in r238; have q20 := ti_in (iva_169 hI _ (lt_of_vp hx240)); have q21 := ti_in r258; have z0 : (0 : Int32).toInt = 0 := (by decide); have z1 : (1 : Int32).toInt = 1 := (by decide); have z2 : (100 : Int32).toInt = 100 := (by decide); have z3 : (168 : Int32).toInt = 168 := (by decide); have z4 : (19 : Int32).toInt = 19 := (by decide); have z5 : (4 : Int32).toInt = 4 := (by decide); have z6 : (5 : Int32).toInt = 5 := (by decide); have z7 : (7 : Int32).toInt = 7 := (by decide); have z8 : (95 : Int32).toInt = 95 := (by decide); omega) (by have q0 := e234; have q1 := e236; have q2 := e239; have q3 := e243; have q4 := e245; have q5 := e257; have q6 := e259; have q7 := ti_nle b96_230; have q8 := ti_ne b100_231; have q9 := ti_nle b106_232; have q10 := ti_le b126_237; have q11 := ti_nle b157_246; have q12 := ti_in hc; have q13 := ti_in (iva_168 hI _ (lt_of_vp hx227)); have q14 := ti_in hg3_25; have q15 := ti_in hg3_92; have q16 := ti_in hrg92; have q17 := ti_in r242; have q18 := ti_in r256; have q19 := ti_in r238; have q20 := ti_in (iva_169 hI _ (lt_of_vp hx240)); have q21 := ti_in r258; have z0 : (0 : Int32).toInt = 0 := (by decide); have z1 : (1 : Int32).toInt = 1 := (by decide); have z2 : (100 : Int32).toInt = 100 := (by decide); have z3 : (168 : Int32).toInt = 168 := (by decide); have z4 : (19 : Int32).toInt = 19 := (by decide); have z5 : (4 : Int32).toInt = 4 := (by decide); have z6 : (5 : Int32).toInt = 5 := (by decide); have z7 : (7 : Int32).toInt = 7 := (by decide); have z8 : (95 : Int32).toInt = 95 := (by decide); omega))
                      refine R_iaload (pc := 170) dX9_mayStand_170 (c_169 _) hx260 ?_
                      have hx261 : vp_in (σ.2.2.1 169 (Int32.toNatClampNeg ((5 * c) + ((nI j92) + 1)))) 8 := (vp_of_inR (iva_169 hI _ (lt_of_vp hx260)) (by decide))
                      refine R_iaload (pc := 171) dX9_mayStand_171 (c_167 _) hx261 ?_
                      refine st_8_7_i_i (pc := 172) dX9_mayStand_172 ?_
                      refine R_aload_n (pc := 174) dX9_mayStand_174 rfl rfl ?_
                      refine R_iload_n (pc := 175) dX9_mayStand_175 rfl rfl ?_
                      refine R_iload (pc := 176) dX9_mayStand_176 rfl ?_
                      refine R_iload (pc := 178) dX9_mayStand_178 rfl ?_
                      refine k_X9_242 (pc := 180) (gx_X9_isOrdered _ _ _ _ hI) rfl (c_140 _) (by decide) (Nat.le_refl _) (Nat.le_refl _) (Nat.le_of_ble_eq_true rfl) dX9_mayStand_180 (fun x w2 h => ?_)
                      rcases h with ⟨rfl, rfl | rfl⟩
                      · skip
                        refine st_8_3_i_i (pc := 183) dX9_mayStand_183 ?_
                        refine inc_8_5_1_i (pc := 184) dX9_mayStand_184 ?_
                        have r263 : inR ((nI j92) + 1) 1 5 := inR_add (show inR (nI j92) 0 4 from hrg92) (show inR 1 1 1 from (inR_self _)) (by decide) (by decide)
                        have e264 := ti_add (l := 1) (h := 5) (show inR (nI j92) 0 4 from hrg92) (show inR 1 1 1 from (inR_self _)) (by decide) (by decide)
                        refine R_goto (pc := 187) 92 dX9_mayStand_187 (by decide) ?_
                        rw [nI_1]
                        exact ih92 (j92 + 1) _ _ _ (by omega) (by omega) (show inR 1 0 1 from ⟨by decide, by decide⟩)
                      · skip
                        refine st_8_3_i_i (pc := 183) dX9_mayStand_183 ?_
                        refine inc_8_5_1_i (pc := 184) dX9_mayStand_184 ?_
                        have r265 : inR ((nI j92) + 1) 1 5 := inR_add (show inR (nI j92) 0 4 from hrg92) (show inR 1 1 1 from (inR_self _)) (by decide) (by decide)
                        have e266 := ti_add (l := 1) (h := 5) (show inR (nI j92) 0 4 from hrg92) (show inR 1 1 1 from (inR_self _)) (by decide) (by decide)
                        refine R_goto (pc := 187) 92 dX9_mayStand_187 (by decide) ?_
                        rw [nI_1]
                        exact ih92 (j92 + 1) _ _ _ (by omega) (by omega) (show inR 0 0 1 from ⟨by decide, by decide⟩)
                  · skip
                    refine R_iload (pc := 129) dX9_mayStand_129 rfl ?_
                    refine R_goto (pc := 131) 135 dX9_mayStand_131 (by decide) ?_
                    refine R_iadd (pc := 135) dX9_mayStand_135 ?_
                    have r267 : inR ((5 * c) + (nI j92)) 0 99 := inR_add (show inR (5 * c) 0 95 from r233) (show inR (nI j92) 0 4 from hrg92) (by decide) (by decide)
                    have e268 := ti_add (l := 0) (h := 99) (show inR (5 * c) 0 95 from r233) (show inR (nI j92) 0 4 from hrg92) (by decide) (by decide)
                    have hx269 : vp_in ((5 * c) + (nI j92)) 100 := (vp_of_inR r267 (by decide))
                    refine R_iaload (pc := 136) dX9_mayStand_136 (c_169 _) hx269 ?_
                    have hx270 : vp_in (σ.2.2.1 169 (Int32.toNatClampNeg ((5 * c) + (nI j92)))) 8 := (vp_of_inR (iva_169 hI _ (lt_of_vp hx269)) (by decide))
                    refine R_iaload (pc := 137) dX9_mayStand_137 (c_167 _) hx270 ?_
                    refine st_8_6_i_i (pc := 138) dX9_mayStand_138 ?_
                    refine R_aload_n (pc := 140) dX9_mayStand_140 rfl rfl ?_
                    refine g_X9_99 (pc := 141) (v := .ref 167) rfl dX9_mayStand_141 (c_140 _) rfl ?_
                    refine R_aload_n (pc := 144) dX9_mayStand_144 rfl rfl ?_
                    refine g_X9_105 (pc := 145) (v := .ref 169) rfl dX9_mayStand_145 (c_140 _) rfl ?_
                    refine R_iconst (pc := 148) (v := 5) dX9_mayStand_148 (by decide) ?_
                    refine R_iload_n (pc := 149) dX9_mayStand_149 rfl rfl ?_
                    refine R_imul (pc := 150) dX9_mayStand_150 ?_
                    have r271 : inR (5 * c) 0 95 := inR_mulc (c := 5) (l := 0) (h := 95) 5 (by decide) (show inR c 0 19 from hc) (by decide) (by decide)
                    have e272 := ti_mulc (c := 5) (l := 0) (h := 95) 5 (by decide) (show inR c 0 19 from hc) (by decide) (by decide)
                    refine R_iload (pc := 151) dX9_mayStand_151 rfl ?_
                    refine R_iconst (pc := 153) (v := 1) dX9_mayStand_153 (by decide) ?_
                    refine R_iadd (pc := 154) dX9_mayStand_154 ?_
                    have r273 : inR ((nI j92) + 1) 1 5 := inR_add (show inR (nI j92) 0 4 from hrg92) (show inR 1 1 1 from (inR_self _)) (by decide) (by decide)
                    have e274 := ti_add (l := 1) (h := 5) (show inR (nI j92) 0 4 from hrg92) (show inR 1 1 1 from (inR_self _)) (by decide) (by decide)
                    refine R_iload (pc := 155) dX9_mayStand_155 rfl ?_
                    refine R_icge (pc := 157) 167 dX9_mayStand_157 (by decide) (fun b157_275 => ?_) (fun b157_275 => ?_)
                    · skip
                      refine R_iload (pc := 167) dX9_mayStand_167 rfl ?_
                      refine R_iadd (pc := 169) dX9_mayStand_169 ?_
                      have r276 : inR ((5 * c) + (nI j92)) 0 99 := inR_add (show inR (5 * c) 0 95 from r271) (show inR (nI j92) 0 4 from hrg92) (by decide) (by decide)
                      have e277 := ti_add (l := 0) (h := 99) (show inR (5 * c) 0 95 from r271) (show inR (nI j92) 0 4 from hrg92) (by decide) (by decide)
                      have hx278 : vp_in ((5 * c) + (nI j92)) 100 := (vp_of_inR r276 (by decide))
                      refine R_iaload (pc := 170) dX9_mayStand_170 (c_169 _) hx278 ?_
                      have hx279 : vp_in (σ.2.2.1 169 (Int32.toNatClampNeg ((5 * c) + (nI j92)))) 8 := (vp_of_inR (iva_169 hI _ (lt_of_vp hx269)) (by decide))
                      refine R_iaload (pc := 171) dX9_mayStand_171 (c_167 _) hx279 ?_
                      refine st_8_7_i_i (pc := 172) dX9_mayStand_172 ?_
                      refine R_aload_n (pc := 174) dX9_mayStand_174 rfl rfl ?_
                      refine R_iload_n (pc := 175) dX9_mayStand_175 rfl rfl ?_
                      refine R_iload (pc := 176) dX9_mayStand_176 rfl ?_
                      refine R_iload (pc := 178) dX9_mayStand_178 rfl ?_
                      refine k_X9_242 (pc := 180) (gx_X9_isOrdered _ _ _ _ hI) rfl (c_140 _) (by decide) (Nat.le_refl _) (Nat.le_refl _) (Nat.le_of_ble_eq_true rfl) dX9_mayStand_180 (fun x w2 h => ?_)
                      rcases h with ⟨rfl, rfl | rfl⟩
                      · skip
                        refine st_8_3_i_i (pc := 183) dX9_mayStand_183 ?_
                        refine inc_8_5_1_i (pc := 184) dX9_mayStand_184 ?_
                        have r281 : inR ((nI j92) + 1) 1 5 := inR_add (show inR (nI j92) 0 4 from hrg92) (show inR 1 1 1 from (inR_self _)) (by decide) (by decide)
                        have e282 := ti_add (l := 1) (h := 5) (show inR (nI j92) 0 4 from hrg92) (show inR 1 1 1 from (inR_self _)) (by decide) (by decide)
                        refine R_goto (pc := 187) 92 dX9_mayStand_187 (by decide) ?_
                        rw [nI_1]
                        exact ih92 (j92 + 1) _ _ _ (by omega) (by omega) (show inR 1 0 1 from ⟨by decide, by decide⟩)
                      · skip
                        refine st_8_3_i_i (pc := 183) dX9_mayStand_183 ?_
                        refine inc_8_5_1_i (pc := 184) dX9_mayStand_184 ?_
                        have r283 : inR ((nI j92) + 1) 1 5 := inR_add (show inR (nI j92) 0 4 from hrg92) (show inR 1 1 1 from (inR_self _)) (by decide) (by decide)
                        have e284 := ti_add (l := 1) (h := 5) (show inR (nI j92) 0 4 from hrg92) (show inR 1 1 1 from (inR_self _)) (by decide) (by decide)
                        refine R_goto (pc := 187) 92 dX9_mayStand_187 (by decide) ?_
                        rw [nI_1]
                        exact ih92 (j92 + 1) _ _ _ (by omega) (by omega) (show inR 0 0 1 from ⟨by decide, by decide⟩)
                    · skip
                      refine R_iload (pc := 160) dX9_mayStand_160 rfl ?_
                      refine R_iconst (pc := 162) (v := 1) dX9_mayStand_162 (by decide) ?_
                      refine R_iadd (pc := 163) dX9_mayStand_163 ?_
                      have r285 : inR ((nI j92) + 1) 1 5 := inR_add (show inR (nI j92) 0 4 from hrg92) (show inR 1 1 1 from (inR_self _)) (by decide) (by decide)
                      have e286 := ti_add (l := 1) (h := 5) (show inR (nI j92) 0 4 from hrg92) (show inR 1 1 1 from (inR_self _)) (by decide) (by decide)
                      refine R_goto (pc := 164) 169 dX9_mayStand_164 (by decide) ?_
                      refine R_iadd (pc := 169) dX9_mayStand_169 ?_
                      have r287 : inR ((5 * c) + ((nI j92) + 1)) 1 100 := inR_add (show inR (5 * c) 0 95 from r271) (show inR ((nI j92) + 1) 1 5 from r285) (by decide) (by decide)
                      have e288 := ti_add (l := 1) (h := 100) (show inR (5 * c) 0 95 from r271) (show inR ((nI j92) + 1) 1 5 from r285) (by decide) (by decide)
                      have hx289 : vp_in ((5 * c) + ((nI j92) + 1)) 100 := (vp_ti (by have q0 := e234; have q1 := e236; have q2 := e268; have q3 := e272; have q4 := e274; have q5 := e286; have q6 := e288; have q7 := ti_nle b96_230; have q8 := ti_ne b100_231; have q9 := ti_nle b106_232; have q10 := ti_nle b126_237; have q11 := ti_nle b157_275; have q12 := ti_in hc; have q13 := ti_in (iva_168 hI _ (lt_of_vp hx227)); have q14 := ti_in hg3_25; have q15 := ti_in hg3_92; have q16 := ti_in hrg92; have q17 := ti_in r271; have q18 := ti_in r285; have q19 := ti_in r267; have q20 := ti_in (iva_169 hI _ (lt_of_vp hx269)); have q21 := ti_in r287; have z0 : (0 : Int32).toInt = 0 := (by decide); have z1 : (1 : Int32).toInt = 1 := (by decide); have z2 : (100 : Int32).toInt = 100 := (by decide); have z3 : (168 : Int32).toInt = 168 := (by decide); have z4 : (19 : Int32).toInt = 19 := (by decide); have z5 : (4 : Int32).toInt = 4 := (by decide); have z6 : (5 : Int32).toInt = 5 := (by decide); have z7 : (7 : Int32).toInt = 7 := (by decide); have z8 : (95 : Int32).toInt = 95 := (by decide); have z9 : (99 : Int32).toInt = 99 := (by decide); omega) (by have q0 := e234; have q1 := e236; have q2 := e268; have q3 := e272; have q4 := e274; have q5 := e286; have q6 := e288; have q7 := ti_nle b96_230; have q8 := ti_ne b100_231; have q9 := ti_nle b106_232; have q10 := ti_nle b126_237; have q11 := ti_nle b157_275; have q12 := ti_in hc; have q13 := ti_in (iva_168 hI _ (lt_of_vp hx227)); have q14 := ti_in hg3_25; have q15 := ti_in hg3_92; have q16 := ti_in hrg92; have q17 := ti_in r271; have q18 := ti_in r285; have q19 := ti_in r267; have q20 := ti_in (iva_169 hI _ (lt_of_vp hx269)); have q21 := ti_in r287; have z0 : (0 : Int32).toInt = 0 := (by decide); have z1 : (1 : Int32).toInt = 1 := (by decide); have z2 : (100 : Int32).toInt = 100 := (by decide); have z3 : (168 : Int32).toInt = 168 := (by decide); have z4 : (19 : Int32).toInt = 19 := (by decide); have z5 : (4 : Int32).toInt = 4 := (by decide); have z6 : (5 : Int32).toInt = 5 := (by decide); have z7 : (7 : Int32).toInt = 7 := (by decide); have z8 : (95 : Int32).toInt = 95 := (by decide); have z9 : (99 : Int32).toInt = 99 := (by decide); omega))
                      refine R_iaload (pc := 170) dX9_mayStand_170 (c_169 _) hx289 ?_
                      have hx290 : vp_in (σ.2.2.1 169 (Int32.toNatClampNeg ((5 * c) + ((nI j92) + 1)))) 8 := (vp_of_inR (iva_169 hI _ (lt_of_vp hx289)) (by decide))
                      refine R_iaload (pc := 171) dX9_mayStand_171 (c_167 _) hx290 ?_
                      refine st_8_7_i_i (pc := 172) dX9_mayStand_172 ?_
                      refine R_aload_n (pc := 174) dX9_mayStand_174 rfl rfl ?_
                      refine R_iload_n (pc := 175) dX9_mayStand_175 rfl rfl ?_
                      refine R_iload (pc := 176) dX9_mayStand_176 rfl ?_
                      refine R_iload (pc := 178) dX9_mayStand_178 rfl ?_
                      refine k_X9_242 (pc := 180) (gx_X9_isOrdered _ _ _ _ hI) rfl (c_140 _) (by decide) (Nat.le_refl _) (Nat.le_refl _) (Nat.le_of_ble_eq_true rfl) dX9_mayStand_180 (fun x w2 h => ?_)
                      rcases h with ⟨rfl, rfl | rfl⟩
                      · skip
                        refine st_8_3_i_i (pc := 183) dX9_mayStand_183 ?_
                        refine inc_8_5_1_i (pc := 184) dX9_mayStand_184 ?_
                        have r292 : inR ((nI j92) + 1) 1 5 := inR_add (show inR (nI j92) 0 4 from hrg92) (show inR 1 1 1 from (inR_self _)) (by decide) (by decide)
                        have e293 := ti_add (l := 1) (h := 5) (show inR (nI j92) 0 4 from hrg92) (show inR 1 1 1 from (inR_self _)) (by decide) (by decide)
                        refine R_goto (pc := 187) 92 dX9_mayStand_187 (by decide) ?_
                        rw [nI_1]
                        exact ih92 (j92 + 1) _ _ _ (by omega) (by omega) (show inR 1 0 1 from ⟨by decide, by decide⟩)
                      · skip
                        refine st_8_3_i_i (pc := 183) dX9_mayStand_183 ?_
                        refine inc_8_5_1_i (pc := 184) dX9_mayStand_184 ?_
                        have r294 : inR ((nI j92) + 1) 1 5 := inR_add (show inR (nI j92) 0 4 from hrg92) (show inR 1 1 1 from (inR_self _)) (by decide) (by decide)
                        have e295 := ti_add (l := 1) (h := 5) (show inR (nI j92) 0 4 from hrg92) (show inR 1 1 1 from (inR_self _)) (by decide) (by decide)
                        refine R_goto (pc := 187) 92 dX9_mayStand_187 (by decide) ?_
                        rw [nI_1]
                        exact ih92 (j92 + 1) _ _ _ (by omega) (by omega) (show inR 0 0 1 from ⟨by decide, by decide⟩)
        exact HL92 5 0 _ _ _ (by omega) (by omega) hg3_25
      | succ q ih25 =>
        intro j25 g3_25 g6_25 g7_25 hj hs25 hg3_25
        have hrg25 : inR (nI j25) 0 4 := inR_ix hs25 (show j25 < 5 by omega) (by decide) (by decide) (by decide)
        have hlt25 : j25 < 5 := by omega
        refine R_iload (pc := 25) dX9_mayStand_25 rfl ?_
        refine R_iload (pc := 27) dX9_mayStand_27 rfl ?_
        refine R_icge (pc := 29) 89 dX9_mayStand_29 (by decide) (fun b29_296 => ?_) (fun b29_296 => ?_)
        · skip
          refine R_iconst (pc := 89) (v := 0) dX9_mayStand_89 (by decide) ?_
          refine st_8_5_i_i (pc := 90) dX9_mayStand_90 ?_
          have HL92 : ∀ (q j92 : Nat) (g3_92 : Int32) (g6_92 : Option Value) (g7_92 : Option Value), j92 + q = 5 → 0 ≤ j92 → inR g3_92 0 1 → R G l yX9_mayStand cX9_mayStand 8 (some .boolean) 2 0 0 (QI (fun x w2 => w2 = WW σ)) 92 [(some (.ref 140)), (some (.int c)), (some (.int k)), (some (.int g3_92)), (some (.int (σ.2.2.1 168 (Int32.toNatClampNeg c)))), (some (.int (nI j92))), g6_92, g7_92] [] (WW σ) 0 0 := by
            intro q
            induction q with
            | zero =>
              intro j92 g3_92 g6_92 g7_92 hj hs92 hg3_92
              obtain rfl : j92 = 5 := by omega
              refine R_iload (pc := 92) dX9_mayStand_92 rfl ?_
              refine R_iload (pc := 94) dX9_mayStand_94 rfl ?_
              refine R_icge (pc := 96) 190 dX9_mayStand_96 (by decide) (fun _ => ?_) (fun h => absurd (Int32.not_lt.mp (inR_up (iva_168 hI _ (lt_of_vp hx227)) (Int32.le_refl _) (by decide)).2) h)
              refine R_iload_n (pc := 190) dX9_mayStand_190 rfl rfl ?_
              exact R_iret (pc := 191) dX9_mayStand_191 rfl (nar01 hg3_92) (Nat.zero_le _) (Nat.zero_le _) ⟨_, rfl, rfl⟩
            | succ q ih92 =>
              intro j92 g3_92 g6_92 g7_92 hj hs92 hg3_92
              have hrg92 : inR (nI j92) 0 4 := inR_ix hs92 (show j92 < 5 by omega) (by decide) (by decide) (by decide)
              have hlt92 : j92 < 5 := by omega
              refine R_iload (pc := 92) dX9_mayStand_92 rfl ?_
              refine R_iload (pc := 94) dX9_mayStand_94 rfl ?_
              refine R_icge (pc := 96) 190 dX9_mayStand_96 (by decide) (fun b96_298 => ?_) (fun b96_298 => ?_)
              · skip
                refine R_iload_n (pc := 190) dX9_mayStand_190 rfl rfl ?_
                exact R_iret (pc := 191) dX9_mayStand_191 rfl (nar01 hg3_92) (Nat.zero_le _) (Nat.zero_le _) ⟨_, rfl, rfl⟩
              · skip
                refine R_iload_n (pc := 99) dX9_mayStand_99 rfl rfl ?_
                refine R_ifeq (pc := 100) 190 dX9_mayStand_100 (by decide) (fun b100_299 => ?_) (fun b100_299 => ?_)
                · skip
                  refine R_iload_n (pc := 190) dX9_mayStand_190 rfl rfl ?_
                  exact R_iret (pc := 191) dX9_mayStand_191 rfl (nar01 hg3_92) (Nat.zero_le _) (Nat.zero_le _) ⟨_, rfl, rfl⟩
                · skip
                  refine R_iload (pc := 103) dX9_mayStand_103 rfl ?_
                  refine R_iconst (pc := 105) (v := 1) dX9_mayStand_105 (by decide) ?_
                  refine R_icle (pc := 106) 190 dX9_mayStand_106 (by decide) (fun b106_300 => ?_) (fun b106_300 => ?_)
                  · skip
                    refine R_iload_n (pc := 190) dX9_mayStand_190 rfl rfl ?_
                    exact R_iret (pc := 191) dX9_mayStand_191 rfl (nar01 hg3_92) (Nat.zero_le _) (Nat.zero_le _) ⟨_, rfl, rfl⟩
                  · skip
                    refine R_aload_n (pc := 109) dX9_mayStand_109 rfl rfl ?_
                    refine g_X9_99 (pc := 110) (v := .ref 167) rfl dX9_mayStand_110 (c_140 _) rfl ?_
                    refine R_aload_n (pc := 113) dX9_mayStand_113 rfl rfl ?_
                    refine g_X9_105 (pc := 114) (v := .ref 169) rfl dX9_mayStand_114 (c_140 _) rfl ?_
                    refine R_iconst (pc := 117) (v := 5) dX9_mayStand_117 (by decide) ?_
                    refine R_iload_n (pc := 118) dX9_mayStand_118 rfl rfl ?_
                    refine R_imul (pc := 119) dX9_mayStand_119 ?_
                    have r301 : inR (5 * c) 0 95 := inR_mulc (c := 5) (l := 0) (h := 95) 5 (by decide) (show inR c 0 19 from hc) (by decide) (by decide)
                    have e302 := ti_mulc (c := 5) (l := 0) (h := 95) 5 (by decide) (show inR c 0 19 from hc) (by decide) (by decide)
                    refine R_iload (pc := 120) dX9_mayStand_120 rfl ?_
                    refine R_iconst (pc := 122) (v := 1) dX9_mayStand_122 (by decide) ?_
                    refine R_iadd (pc := 123) dX9_mayStand_123 ?_
                    have r303 : inR ((nI j92) + 1) 1 5 := inR_add (show inR (nI j92) 0 4 from hrg92) (show inR 1 1 1 from (inR_self _)) (by decide) (by decide)
                    have e304 := ti_add (l := 1) (h := 5) (show inR (nI j92) 0 4 from hrg92) (show inR 1 1 1 from (inR_self _)) (by decide) (by decide)
                    refine R_iload (pc := 124) dX9_mayStand_124 rfl ?_
                    refine R_icge (pc := 126) 134 dX9_mayStand_126 (by decide) (fun b126_305 => ?_) (fun b126_305 => ?_)
                    · skip
                      refine R_iconst (pc := 134) (v := 0) dX9_mayStand_134 (by decide) ?_
                      refine R_iadd (pc := 135) dX9_mayStand_135 ?_
                      have r306 : inR ((5 * c) + 0) 0 95 := inR_add (show inR (5 * c) 0 95 from r301) (show inR 0 0 0 from (inR_self _)) (by decide) (by decide)
                      have e307 := ti_add (l := 0) (h := 95) (show inR (5 * c) 0 95 from r301) (show inR 0 0 0 from (inR_self _)) (by decide) (by decide)
                      have hx308 : vp_in ((5 * c) + 0) 100 := (vp_of_inR r306 (by decide))
                      refine R_iaload (pc := 136) dX9_mayStand_136 (c_169 _) hx308 ?_
                      have hx309 : vp_in (σ.2.2.1 169 (Int32.toNatClampNeg ((5 * c) + 0))) 8 := (vp_of_inR (iva_169 hI _ (lt_of_vp hx308)) (by decide))
                      refine R_iaload (pc := 137) dX9_mayStand_137 (c_167 _) hx309 ?_
                      refine st_8_6_i_i (pc := 138) dX9_mayStand_138 ?_
                      refine R_aload_n (pc := 140) dX9_mayStand_140 rfl rfl ?_
                      refine g_X9_99 (pc := 141) (v := .ref 167) rfl dX9_mayStand_141 (c_140 _) rfl ?_
                      refine R_aload_n (pc := 144) dX9_mayStand_144 rfl rfl ?_
                      refine g_X9_105 (pc := 145) (v := .ref 169) rfl dX9_mayStand_145 (c_140 _) rfl ?_
                      refine R_iconst (pc := 148) (v := 5) dX9_mayStand_148 (by decide) ?_
                      refine R_iload_n (pc := 149) dX9_mayStand_149 rfl rfl ?_
                      refine R_imul (pc := 150) dX9_mayStand_150 ?_
                      have r310 : inR (5 * c) 0 95 := inR_mulc (c := 5) (l := 0) (h := 95) 5 (by decide) (show inR c 0 19 from hc) (by decide) (by decide)
                      have e311 := ti_mulc (c := 5) (l := 0) (h := 95) 5 (by decide) (show inR c 0 19 from hc) (by decide) (by decide)
                      refine R_iload (pc := 151) dX9_mayStand_151 rfl ?_
                      refine R_iconst (pc := 153) (v := 1) dX9_mayStand_153 (by decide) ?_
                      refine R_iadd (pc := 154) dX9_mayStand_154 ?_
                      have r312 : inR ((nI j92) + 1) 1 5 := inR_add (show inR (nI j92) 0 4 from hrg92) (show inR 1 1 1 from (inR_self _)) (by decide) (by decide)
                      have e313 := ti_add (l := 1) (h := 5) (show inR (nI j92) 0 4 from hrg92) (show inR 1 1 1 from (inR_self _)) (by decide) (by decide)
                      refine R_iload (pc := 155) dX9_mayStand_155 rfl ?_
                      refine R_icge (pc := 157) 167 dX9_mayStand_157 (by decide) (fun b157_314 => ?_) (fun b157_314 => ?_)
                      · skip
                        refine R_iload (pc := 167) dX9_mayStand_167 rfl ?_
                        refine R_iadd (pc := 169) dX9_mayStand_169 ?_
                        have r315 : inR ((5 * c) + (nI j92)) 0 99 := inR_add (show inR (5 * c) 0 95 from r310) (show inR (nI j92) 0 4 from hrg92) (by decide) (by decide)
                        have e316 := ti_add (l := 0) (h := 99) (show inR (5 * c) 0 95 from r310) (show inR (nI j92) 0 4 from hrg92) (by decide) (by decide)
                        have hx317 : vp_in ((5 * c) + (nI j92)) 100 := (vp_of_inR r315 (by decide))
                        refine R_iaload (pc := 170) dX9_mayStand_170 (c_169 _) hx317 ?_
                        have hx318 : vp_in (σ.2.2.1 169 (Int32.toNatClampNeg ((5 * c) + (nI j92)))) 8 := (vp_of_inR (iva_169 hI _ (lt_of_vp hx317)) (by decide))
                        refine R_iaload (pc := 171) dX9_mayStand_171 (c_167 _) hx318 ?_
                        refine st_8_7_i_i (pc := 172) dX9_mayStand_172 ?_
                        refine R_aload_n (pc := 174) dX9_mayStand_174 rfl rfl ?_
                        refine R_iload_n (pc := 175) dX9_mayStand_175 rfl rfl ?_
                        refine R_iload (pc := 176) dX9_mayStand_176 rfl ?_
                        refine R_iload (pc := 178) dX9_mayStand_178 rfl ?_
                        refine k_X9_242 (pc := 180) (gx_X9_isOrdered _ _ _ _ hI) rfl (c_140 _) (by decide) (Nat.le_refl _) (Nat.le_refl _) (Nat.le_of_ble_eq_true rfl) dX9_mayStand_180 (fun x w2 h => ?_)
                        rcases h with ⟨rfl, rfl | rfl⟩
                        · skip
                          refine st_8_3_i_i (pc := 183) dX9_mayStand_183 ?_
                          refine inc_8_5_1_i (pc := 184) dX9_mayStand_184 ?_
                          have r320 : inR ((nI j92) + 1) 1 5 := inR_add (show inR (nI j92) 0 4 from hrg92) (show inR 1 1 1 from (inR_self _)) (by decide) (by decide)
                          have e321 := ti_add (l := 1) (h := 5) (show inR (nI j92) 0 4 from hrg92) (show inR 1 1 1 from (inR_self _)) (by decide) (by decide)
                          refine R_goto (pc := 187) 92 dX9_mayStand_187 (by decide) ?_
                          rw [nI_1]
                          exact ih92 (j92 + 1) _ _ _ (by omega) (by omega) (show inR 1 0 1 from ⟨by decide, by decide⟩)
                        · skip
                          refine st_8_3_i_i (pc := 183) dX9_mayStand_183 ?_
                          refine inc_8_5_1_i (pc := 184) dX9_mayStand_184 ?_
                          have r322 : inR ((nI j92) + 1) 1 5 := inR_add (show inR (nI j92) 0 4 from hrg92) (show inR 1 1 1 from (inR_self _)) (by decide) (by decide)
                          have e323 := ti_add (l := 1) (h := 5) (show inR (nI j92) 0 4 from hrg92) (show inR 1 1 1 from (inR_self _)) (by decide) (by decide)
                          refine R_goto (pc := 187) 92 dX9_mayStand_187 (by decide) ?_
                          rw [nI_1]
                          exact ih92 (j92 + 1) _ _ _ (by omega) (by omega) (show inR 0 0 1 from ⟨by decide, by decide⟩)
                      · skip
                        refine R_iload (pc := 160) dX9_mayStand_160 rfl ?_
                        refine R_iconst (pc := 162) (v := 1) dX9_mayStand_162 (by decide) ?_
                        refine R_iadd (pc := 163) dX9_mayStand_163 ?_
                        have r324 : inR ((nI j92) + 1) 1 5 := inR_add (show inR (nI j92) 0 4 from hrg92) (show inR 1 1 1 from (inR_self _)) (by decide) (by decide)
                        have e325 := ti_add (l := 1) (h := 5) (show inR (nI j92) 0 4 from hrg92) (show inR 1 1 1 from (inR_self _)) (by decide) (by decide)
                        refine R_goto (pc := 164) 169 dX9_mayStand_164 (by decide) ?_
                        refine R_iadd (pc := 169) dX9_mayStand_169 ?_
                        have r326 : inR ((5 * c) + ((nI j92) + 1)) 1 100 := inR_add (show inR (5 * c) 0 95 from r310) (show inR ((nI j92) + 1) 1 5 from r324) (by decide) (by decide)
                        have e327 := ti_add (l := 1) (h := 100) (show inR (5 * c) 0 95 from r310) (show inR ((nI j92) + 1) 1 5 from r324) (by decide) (by decide)
                        have hx328 : vp_in ((5 * c) + ((nI j92) + 1)) 100 := (vp_ti (by have q0 := e302; have q1 := e304; have q2 := e307; have q3 := e311; have q4 := e313; have q5 := e325; have q6 := e327; have q7 := ti_le b29_296; have q8 := ti_nle b96_298; have q9 := ti_ne b100_299; have q10 := ti_nle b106_300; have q11 := ti_le b126_305; have q12 := ti_nle b157_314; have q13 := ti_in hc; have q14 := ti_in (iva_168 hI _ (lt_of_vp hx227)); have q15 := ti_in hg3_25; have q16 := ti_in hrg25; have q17 := ti_in hg3_92; have q18 := ti_in hrg92; have q19 := ti_in r310; have q20 := ti_in r324; have q21 := ti_in r306; have q22 := ti_in (iva_169 hI _ (lt_of_vp hx308)); have q23 := ti_in r326; have z0 : (0 : Int32).toInt = 0 := (by decide); have z1 : (1 : Int32).toInt = 1 := (by decide); have z2 : (100 : Int32).toInt = 100 := (by decide); have z3 : (168 : Int32).toInt = 168 := (by decide); have z4 : (19 : Int32).toInt = 19 := (by decide); have z5 : (4 : Int32).toInt = 4 := (by decide); have z6 : (5 : Int32).toInt = 5 := (by decide); have z7 : (7 : Int32).toInt = 7 := (by decide); have z8 : (95 : Int32).toInt = 95 := (by decide); omega) (by have q0 := e302; have q1 := e304; have q2 := e307; have q3 := e311; have q4 := e313; have q5 := e325; have q6 := e327; have q7 := ti_le b29_296; have q8 := ti_nle b96_298; have q9 := ti_ne b100_299; have q10 := ti_nle b106_300; have q11 := ti_le b126_305; have q12 := ti_nle b157_314; have q13 := ti_in hc; have q14 := ti_in (iva_168 hI _ (lt_of_vp hx227)); have q15 := ti_in hg3_25; have q16 := ti_in hrg25; have q17 := ti_in hg3_92; have q18 := ti_in hrg92; have q19 := ti_in r310; have q20 := ti_in r324; have q21 := ti_in r306; have q22 := ti_in (iva_169 hI _ (lt_of_vp hx308)); have q23 := ti_in r326; have z0 : (0 : Int32).toInt = 0 := (by decide); have z1 : (1 : Int32).toInt = 1 := (by decide); have z2 : (100 : Int32).toInt = 100 := (by decide); have z3 : (168 : Int32).toInt = 168 := (by decide); have z4 : (19 : Int32).toInt = 19 := (by decide); have z5 : (4 : Int32).toInt = 4 := (by decide); have z6 : (5 : Int32).toInt = 5 := (by decide); have z7 : (7 : Int32).toInt = 7 := (by decide); have z8 : (95 : Int32).toInt = 95 := (by decide); omega))
                        refine R_iaload (pc := 170) dX9_mayStand_170 (c_169 _) hx328 ?_
                        have hx329 : vp_in (σ.2.2.1 169 (Int32.toNatClampNeg ((5 * c) + ((nI j92) + 1)))) 8 := (vp_of_inR (iva_169 hI _ (lt_of_vp hx328)) (by decide))
                        refine R_iaload (pc := 171) dX9_mayStand_171 (c_167 _) hx329 ?_
                        refine st_8_7_i_i (pc := 172) dX9_mayStand_172 ?_
                        refine R_aload_n (pc := 174) dX9_mayStand_174 rfl rfl ?_
                        refine R_iload_n (pc := 175) dX9_mayStand_175 rfl rfl ?_
                        refine R_iload (pc := 176) dX9_mayStand_176 rfl ?_
                        refine R_iload (pc := 178) dX9_mayStand_178 rfl ?_
                        refine k_X9_242 (pc := 180) (gx_X9_isOrdered _ _ _ _ hI) rfl (c_140 _) (by decide) (Nat.le_refl _) (Nat.le_refl _) (Nat.le_of_ble_eq_true rfl) dX9_mayStand_180 (fun x w2 h => ?_)
                        rcases h with ⟨rfl, rfl | rfl⟩
                        · skip
                          refine st_8_3_i_i (pc := 183) dX9_mayStand_183 ?_
                          refine inc_8_5_1_i (pc := 184) dX9_mayStand_184 ?_
                          have r331 : inR ((nI j92) + 1) 1 5 := inR_add (show inR (nI j92) 0 4 from hrg92) (show inR 1 1 1 from (inR_self _)) (by decide) (by decide)
                          have e332 := ti_add (l := 1) (h := 5) (show inR (nI j92) 0 4 from hrg92) (show inR 1 1 1 from (inR_self _)) (by decide) (by decide)
                          refine R_goto (pc := 187) 92 dX9_mayStand_187 (by decide) ?_
                          rw [nI_1]
                          exact ih92 (j92 + 1) _ _ _ (by omega) (by omega) (show inR 1 0 1 from ⟨by decide, by decide⟩)
                        · skip
                          refine st_8_3_i_i (pc := 183) dX9_mayStand_183 ?_
                          refine inc_8_5_1_i (pc := 184) dX9_mayStand_184 ?_
                          have r333 : inR ((nI j92) + 1) 1 5 := inR_add (show inR (nI j92) 0 4 from hrg92) (show inR 1 1 1 from (inR_self _)) (by decide) (by decide)
                          have e334 := ti_add (l := 1) (h := 5) (show inR (nI j92) 0 4 from hrg92) (show inR 1 1 1 from (inR_self _)) (by decide) (by decide)
                          refine R_goto (pc := 187) 92 dX9_mayStand_187 (by decide) ?_
                          rw [nI_1]
                          exact ih92 (j92 + 1) _ _ _ (by omega) (by omega) (show inR 0 0 1 from ⟨by decide, by decide⟩)
                    · skip
                      refine R_iload (pc := 129) dX9_mayStand_129 rfl ?_
                      refine R_goto (pc := 131) 135 dX9_mayStand_131 (by decide) ?_
                      refine R_iadd (pc := 135) dX9_mayStand_135 ?_
                      have r335 : inR ((5 * c) + (nI j92)) 0 99 := inR_add (show inR (5 * c) 0 95 from r301) (show inR (nI j92) 0 4 from hrg92) (by decide) (by decide)
                      have e336 := ti_add (l := 0) (h := 99) (show inR (5 * c) 0 95 from r301) (show inR (nI j92) 0 4 from hrg92) (by decide) (by decide)
                      have hx337 : vp_in ((5 * c) + (nI j92)) 100 := (vp_of_inR r335 (by decide))
                      refine R_iaload (pc := 136) dX9_mayStand_136 (c_169 _) hx337 ?_
                      have hx338 : vp_in (σ.2.2.1 169 (Int32.toNatClampNeg ((5 * c) + (nI j92)))) 8 := (vp_of_inR (iva_169 hI _ (lt_of_vp hx337)) (by decide))
                      refine R_iaload (pc := 137) dX9_mayStand_137 (c_167 _) hx338 ?_
                      refine st_8_6_i_i (pc := 138) dX9_mayStand_138 ?_
                      refine R_aload_n (pc := 140) dX9_mayStand_140 rfl rfl ?_
                      refine g_X9_99 (pc := 141) (v := .ref 167) rfl dX9_mayStand_141 (c_140 _) rfl ?_
                      refine R_aload_n (pc := 144) dX9_mayStand_144 rfl rfl ?_
                      refine g_X9_105 (pc := 145) (v := .ref 169) rfl dX9_mayStand_145 (c_140 _) rfl ?_
                      refine R_iconst (pc := 148) (v := 5) dX9_mayStand_148 (by decide) ?_
                      refine R_iload_n (pc := 149) dX9_mayStand_149 rfl rfl ?_
                      refine R_imul (pc := 150) dX9_mayStand_150 ?_
                      have r339 : inR (5 * c) 0 95 := inR_mulc (c := 5) (l := 0) (h := 95) 5 (by decide) (show inR c 0 19 from hc) (by decide) (by decide)
                      have e340 := ti_mulc (c := 5) (l := 0) (h := 95) 5 (by decide) (show inR c 0 19 from hc) (by decide) (by decide)
                      refine R_iload (pc := 151) dX9_mayStand_151 rfl ?_
                      refine R_iconst (pc := 153) (v := 1) dX9_mayStand_153 (by decide) ?_
                      refine R_iadd (pc := 154) dX9_mayStand_154 ?_
                      have r341 : inR ((nI j92) + 1) 1 5 := inR_add (show inR (nI j92) 0 4 from hrg92) (show inR 1 1 1 from (inR_self _)) (by decide) (by decide)
                      have e342 := ti_add (l := 1) (h := 5) (show inR (nI j92) 0 4 from hrg92) (show inR 1 1 1 from (inR_self _)) (by decide) (by decide)
                      refine R_iload (pc := 155) dX9_mayStand_155 rfl ?_
                      refine R_icge (pc := 157) 167 dX9_mayStand_157 (by decide) (fun b157_343 => ?_) (fun b157_343 => ?_)
                      · skip
                        refine R_iload (pc := 167) dX9_mayStand_167 rfl ?_
                        refine R_iadd (pc := 169) dX9_mayStand_169 ?_
                        have r344 : inR ((5 * c) + (nI j92)) 0 99 := inR_add (show inR (5 * c) 0 95 from r339) (show inR (nI j92) 0 4 from hrg92) (by decide) (by decide)
                        have e345 := ti_add (l := 0) (h := 99) (show inR (5 * c) 0 95 from r339) (show inR (nI j92) 0 4 from hrg92) (by decide) (by decide)
                        have hx346 : vp_in ((5 * c) + (nI j92)) 100 := (vp_of_inR r344 (by decide))
                        refine R_iaload (pc := 170) dX9_mayStand_170 (c_169 _) hx346 ?_
                        have hx347 : vp_in (σ.2.2.1 169 (Int32.toNatClampNeg ((5 * c) + (nI j92)))) 8 := (vp_of_inR (iva_169 hI _ (lt_of_vp hx337)) (by decide))
                        refine R_iaload (pc := 171) dX9_mayStand_171 (c_167 _) hx347 ?_
                        refine st_8_7_i_i (pc := 172) dX9_mayStand_172 ?_
                        refine R_aload_n (pc := 174) dX9_mayStand_174 rfl rfl ?_
                        refine R_iload_n (pc := 175) dX9_mayStand_175 rfl rfl ?_
                        refine R_iload (pc := 176) dX9_mayStand_176 rfl ?_
                        refine R_iload (pc := 178) dX9_mayStand_178 rfl ?_
                        refine k_X9_242 (pc := 180) (gx_X9_isOrdered _ _ _ _ hI) rfl (c_140 _) (by decide) (Nat.le_refl _) (Nat.le_refl _) (Nat.le_of_ble_eq_true rfl) dX9_mayStand_180 (fun x w2 h => ?_)
                        rcases h with ⟨rfl, rfl | rfl⟩
                        · skip
                          refine st_8_3_i_i (pc := 183) dX9_mayStand_183 ?_
                          refine inc_8_5_1_i (pc := 184) dX9_mayStand_184 ?_
                          have r349 : inR ((nI j92) + 1) 1 5 := inR_add (show inR (nI j92) 0 4 from hrg92) (show inR 1 1 1 from (inR_self _)) (by decide) (by decide)
                          have e350 := ti_add (l := 1) (h := 5) (show inR (nI j92) 0 4 from hrg92) (show inR 1 1 1 from (inR_self _)) (by decide) (by decide)
                          refine R_goto (pc := 187) 92 dX9_mayStand_187 (by decide) ?_
                          rw [nI_1]
                          exact ih92 (j92 + 1) _ _ _ (by omega) (by omega) (show inR 1 0 1 from ⟨by decide, by decide⟩)
                        · skip
                          refine st_8_3_i_i (pc := 183) dX9_mayStand_183 ?_
                          refine inc_8_5_1_i (pc := 184) dX9_mayStand_184 ?_
                          have r351 : inR ((nI j92) + 1) 1 5 := inR_add (show inR (nI j92) 0 4 from hrg92) (show inR 1 1 1 from (inR_self _)) (by decide) (by decide)
                          have e352 := ti_add (l := 1) (h := 5) (show inR (nI j92) 0 4 from hrg92) (show inR 1 1 1 from (inR_self _)) (by decide) (by decide)
                          refine R_goto (pc := 187) 92 dX9_mayStand_187 (by decide) ?_
                          rw [nI_1]
                          exact ih92 (j92 + 1) _ _ _ (by omega) (by omega) (show inR 0 0 1 from ⟨by decide, by decide⟩)
                      · skip
                        refine R_iload (pc := 160) dX9_mayStand_160 rfl ?_
                        refine R_iconst (pc := 162) (v := 1) dX9_mayStand_162 (by decide) ?_
                        refine R_iadd (pc := 163) dX9_mayStand_163 ?_
                        have r353 : inR ((nI j92) + 1) 1 5 := inR_add (show inR (nI j92) 0 4 from hrg92) (show inR 1 1 1 from (inR_self _)) (by decide) (by decide)
                        have e354 := ti_add (l := 1) (h := 5) (show inR (nI j92) 0 4 from hrg92) (show inR 1 1 1 from (inR_self _)) (by decide) (by decide)
                        refine R_goto (pc := 164) 169 dX9_mayStand_164 (by decide) ?_
                        refine R_iadd (pc := 169) dX9_mayStand_169 ?_
                        have r355 : inR ((5 * c) + ((nI j92) + 1)) 1 100 := inR_add (show inR (5 * c) 0 95 from r339) (show inR ((nI j92) + 1) 1 5 from r353) (by decide) (by decide)
                        have e356 := ti_add (l := 1) (h := 100) (show inR (5 * c) 0 95 from r339) (show inR ((nI j92) + 1) 1 5 from r353) (by decide) (by decide)
                        have hx357 : vp_in ((5 * c) + ((nI j92) + 1)) 100 := (vp_ti (by have q0 := e302; have q1 := e304; have q2 := e336; have q3 := e340; have q4 := e342; have q5 := e354; have q6 := e356; have q7 := ti_le b29_296; have q8 := ti_nle b96_298; have q9 := ti_ne b100_299; have q10 := ti_nle b106_300; have q11 := ti_nle b126_305; have q12 := ti_nle b157_343; have q13 := ti_in hc; have q14 := ti_in (iva_168 hI _ (lt_of_vp hx227)); have q15 := ti_in hg3_25; have q16 := ti_in hrg25; have q17 := ti_in hg3_92; have q18 := ti_in hrg92; have q19 := ti_in r339; have q20 := ti_in r353; have q21 := ti_in r335; have q22 := ti_in (iva_169 hI _ (lt_of_vp hx337)); have q23 := ti_in r355; have z0 : (0 : Int32).toInt = 0 := (by decide); have z1 : (1 : Int32).toInt = 1 := (by decide); have z2 : (100 : Int32).toInt = 100 := (by decide); have z3 : (168 : Int32).toInt = 168 := (by decide); have z4 : (19 : Int32).toInt = 19 := (by decide); have z5 : (4 : Int32).toInt = 4 := (by decide); have z6 : (5 : Int32).toInt = 5 := (by decide); have z7 : (7 : Int32).toInt = 7 := (by decide); have z8 : (95 : Int32).toInt = 95 := (by decide); have z9 : (99 : Int32).toInt = 99 := (by decide); omega) (by have q0 := e302; have q1 := e304; have q2 := e336; have q3 := e340; have q4 := e342; have q5 := e354; have q6 := e356; have q7 := ti_le b29_296; have q8 := ti_nle b96_298; have q9 := ti_ne b100_299; have q10 := ti_nle b106_300; have q11 := ti_nle b126_305; have q12 := ti_nle b157_343; have q13 := ti_in hc; have q14 := ti_in (iva_168 hI _ (lt_of_vp hx227)); have q15 := ti_in hg3_25; have q16 := ti_in hrg25; have q17 := ti_in hg3_92; have q18 := ti_in hrg92; have q19 := ti_in r339; have q20 := ti_in r353; have q21 := ti_in r335; have q22 := ti_in (iva_169 hI _ (lt_of_vp hx337)); have q23 := ti_in r355; have z0 : (0 : Int32).toInt = 0 := (by decide); have z1 : (1 : Int32).toInt = 1 := (by decide); have z2 : (100 : Int32).toInt = 100 := (by decide); have z3 : (168 : Int32).toInt = 168 := (by decide); have z4 : (19 : Int32).toInt = 19 := (by decide); have z5 : (4 : Int32).toInt = 4 := (by decide); have z6 : (5 : Int32).toInt = 5 := (by decide); have z7 : (7 : Int32).toInt = 7 := (by decide); have z8 : (95 : Int32).toInt = 95 := (by decide); have z9 : (99 : Int32).toInt = 99 := (by decide); omega))
                        refine R_iaload (pc := 170) dX9_mayStand_170 (c_169 _) hx357 ?_
                        have hx358 : vp_in (σ.2.2.1 169 (Int32.toNatClampNeg ((5 * c) + ((nI j92) + 1)))) 8 := (vp_of_inR (iva_169 hI _ (lt_of_vp hx357)) (by decide))
                        refine R_iaload (pc := 171) dX9_mayStand_171 (c_167 _) hx358 ?_
                        refine st_8_7_i_i (pc := 172) dX9_mayStand_172 ?_
                        refine R_aload_n (pc := 174) dX9_mayStand_174 rfl rfl ?_
                        refine R_iload_n (pc := 175) dX9_mayStand_175 rfl rfl ?_
                        refine R_iload (pc := 176) dX9_mayStand_176 rfl ?_
                        refine R_iload (pc := 178) dX9_mayStand_178 rfl ?_
                        refine k_X9_242 (pc := 180) (gx_X9_isOrdered _ _ _ _ hI) rfl (c_140 _) (by decide) (Nat.le_refl _) (Nat.le_refl _) (Nat.le_of_ble_eq_true rfl) dX9_mayStand_180 (fun x w2 h => ?_)
                        rcases h with ⟨rfl, rfl | rfl⟩
                        · skip
                          refine st_8_3_i_i (pc := 183) dX9_mayStand_183 ?_
                          refine inc_8_5_1_i (pc := 184) dX9_mayStand_184 ?_
                          have r360 : inR ((nI j92) + 1) 1 5 := inR_add (show inR (nI j92) 0 4 from hrg92) (show inR 1 1 1 from (inR_self _)) (by decide) (by decide)
                          have e361 := ti_add (l := 1) (h := 5) (show inR (nI j92) 0 4 from hrg92) (show inR 1 1 1 from (inR_self _)) (by decide) (by decide)
                          refine R_goto (pc := 187) 92 dX9_mayStand_187 (by decide) ?_
                          rw [nI_1]
                          exact ih92 (j92 + 1) _ _ _ (by omega) (by omega) (show inR 1 0 1 from ⟨by decide, by decide⟩)
                        · skip
                          refine st_8_3_i_i (pc := 183) dX9_mayStand_183 ?_
                          refine inc_8_5_1_i (pc := 184) dX9_mayStand_184 ?_
                          have r362 : inR ((nI j92) + 1) 1 5 := inR_add (show inR (nI j92) 0 4 from hrg92) (show inR 1 1 1 from (inR_self _)) (by decide) (by decide)
                          have e363 := ti_add (l := 1) (h := 5) (show inR (nI j92) 0 4 from hrg92) (show inR 1 1 1 from (inR_self _)) (by decide) (by decide)
                          refine R_goto (pc := 187) 92 dX9_mayStand_187 (by decide) ?_
                          rw [nI_1]
                          exact ih92 (j92 + 1) _ _ _ (by omega) (by omega) (show inR 0 0 1 from ⟨by decide, by decide⟩)
          exact HL92 5 0 _ _ _ (by omega) (by omega) hg3_25
        · skip
          refine R_iload_n (pc := 32) dX9_mayStand_32 rfl rfl ?_
          refine R_ifeq (pc := 33) 89 dX9_mayStand_33 (by decide) (fun b33_364 => ?_) (fun b33_364 => ?_)
          · skip
            refine R_iconst (pc := 89) (v := 0) dX9_mayStand_89 (by decide) ?_
            refine st_8_5_i_i (pc := 90) dX9_mayStand_90 ?_
            have HL92 : ∀ (q j92 : Nat) (g3_92 : Int32) (g6_92 : Option Value) (g7_92 : Option Value), j92 + q = 5 → 0 ≤ j92 → inR g3_92 0 1 → R G l yX9_mayStand cX9_mayStand 8 (some .boolean) 2 0 0 (QI (fun x w2 => w2 = WW σ)) 92 [(some (.ref 140)), (some (.int c)), (some (.int k)), (some (.int g3_92)), (some (.int (σ.2.2.1 168 (Int32.toNatClampNeg c)))), (some (.int (nI j92))), g6_92, g7_92] [] (WW σ) 0 0 := by
              intro q
              induction q with
              | zero =>
                intro j92 g3_92 g6_92 g7_92 hj hs92 hg3_92
                obtain rfl : j92 = 5 := by omega
                refine R_iload (pc := 92) dX9_mayStand_92 rfl ?_
                refine R_iload (pc := 94) dX9_mayStand_94 rfl ?_
                refine R_icge (pc := 96) 190 dX9_mayStand_96 (by decide) (fun _ => ?_) (fun h => absurd (Int32.not_lt.mp (inR_up (iva_168 hI _ (lt_of_vp hx227)) (Int32.le_refl _) (by decide)).2) h)
                refine R_iload_n (pc := 190) dX9_mayStand_190 rfl rfl ?_
                exact R_iret (pc := 191) dX9_mayStand_191 rfl (nar01 hg3_92) (Nat.zero_le _) (Nat.zero_le _) ⟨_, rfl, rfl⟩
              | succ q ih92 =>
                intro j92 g3_92 g6_92 g7_92 hj hs92 hg3_92
                have hrg92 : inR (nI j92) 0 4 := inR_ix hs92 (show j92 < 5 by omega) (by decide) (by decide) (by decide)
                have hlt92 : j92 < 5 := by omega
                refine R_iload (pc := 92) dX9_mayStand_92 rfl ?_
                refine R_iload (pc := 94) dX9_mayStand_94 rfl ?_
                refine R_icge (pc := 96) 190 dX9_mayStand_96 (by decide) (fun b96_366 => ?_) (fun b96_366 => ?_)
                · skip
                  refine R_iload_n (pc := 190) dX9_mayStand_190 rfl rfl ?_
                  exact R_iret (pc := 191) dX9_mayStand_191 rfl (nar01 hg3_92) (Nat.zero_le _) (Nat.zero_le _) ⟨_, rfl, rfl⟩
                · skip
                  refine R_iload_n (pc := 99) dX9_mayStand_99 rfl rfl ?_
                  refine R_ifeq (pc := 100) 190 dX9_mayStand_100 (by decide) (fun b100_367 => ?_) (fun b100_367 => ?_)
                  · skip
                    refine R_iload_n (pc := 190) dX9_mayStand_190 rfl rfl ?_
                    exact R_iret (pc := 191) dX9_mayStand_191 rfl (nar01 hg3_92) (Nat.zero_le _) (Nat.zero_le _) ⟨_, rfl, rfl⟩
                  · skip
                    refine R_iload (pc := 103) dX9_mayStand_103 rfl ?_
                    refine R_iconst (pc := 105) (v := 1) dX9_mayStand_105 (by decide) ?_
                    refine R_icle (pc := 106) 190 dX9_mayStand_106 (by decide) (fun b106_368 => ?_) (fun b106_368 => ?_)
                    · skip
                      refine R_iload_n (pc := 190) dX9_mayStand_190 rfl rfl ?_
                      exact R_iret (pc := 191) dX9_mayStand_191 rfl (nar01 hg3_92) (Nat.zero_le _) (Nat.zero_le _) ⟨_, rfl, rfl⟩
                    · skip
                      refine R_aload_n (pc := 109) dX9_mayStand_109 rfl rfl ?_
                      refine g_X9_99 (pc := 110) (v := .ref 167) rfl dX9_mayStand_110 (c_140 _) rfl ?_
                      refine R_aload_n (pc := 113) dX9_mayStand_113 rfl rfl ?_
                      refine g_X9_105 (pc := 114) (v := .ref 169) rfl dX9_mayStand_114 (c_140 _) rfl ?_
                      refine R_iconst (pc := 117) (v := 5) dX9_mayStand_117 (by decide) ?_
                      refine R_iload_n (pc := 118) dX9_mayStand_118 rfl rfl ?_
                      refine R_imul (pc := 119) dX9_mayStand_119 ?_
                      have r369 : inR (5 * c) 0 95 := inR_mulc (c := 5) (l := 0) (h := 95) 5 (by decide) (show inR c 0 19 from hc) (by decide) (by decide)
                      have e370 := ti_mulc (c := 5) (l := 0) (h := 95) 5 (by decide) (show inR c 0 19 from hc) (by decide) (by decide)
                      refine R_iload (pc := 120) dX9_mayStand_120 rfl ?_
                      refine R_iconst (pc := 122) (v := 1) dX9_mayStand_122 (by decide) ?_
                      refine R_iadd (pc := 123) dX9_mayStand_123 ?_
                      have r371 : inR ((nI j92) + 1) 1 5 := inR_add (show inR (nI j92) 0 4 from hrg92) (show inR 1 1 1 from (inR_self _)) (by decide) (by decide)
                      have e372 := ti_add (l := 1) (h := 5) (show inR (nI j92) 0 4 from hrg92) (show inR 1 1 1 from (inR_self _)) (by decide) (by decide)
                      refine R_iload (pc := 124) dX9_mayStand_124 rfl ?_
                      refine R_icge (pc := 126) 134 dX9_mayStand_126 (by decide) (fun b126_373 => ?_) (fun b126_373 => ?_)
                      · skip
                        refine R_iconst (pc := 134) (v := 0) dX9_mayStand_134 (by decide) ?_
                        refine R_iadd (pc := 135) dX9_mayStand_135 ?_
                        have r374 : inR ((5 * c) + 0) 0 95 := inR_add (show inR (5 * c) 0 95 from r369) (show inR 0 0 0 from (inR_self _)) (by decide) (by decide)
                        have e375 := ti_add (l := 0) (h := 95) (show inR (5 * c) 0 95 from r369) (show inR 0 0 0 from (inR_self _)) (by decide) (by decide)
                        have hx376 : vp_in ((5 * c) + 0) 100 := (vp_of_inR r374 (by decide))
                        refine R_iaload (pc := 136) dX9_mayStand_136 (c_169 _) hx376 ?_
                        have hx377 : vp_in (σ.2.2.1 169 (Int32.toNatClampNeg ((5 * c) + 0))) 8 := (vp_of_inR (iva_169 hI _ (lt_of_vp hx376)) (by decide))
                        refine R_iaload (pc := 137) dX9_mayStand_137 (c_167 _) hx377 ?_
                        refine st_8_6_i_i (pc := 138) dX9_mayStand_138 ?_
                        refine R_aload_n (pc := 140) dX9_mayStand_140 rfl rfl ?_
                        refine g_X9_99 (pc := 141) (v := .ref 167) rfl dX9_mayStand_141 (c_140 _) rfl ?_
                        refine R_aload_n (pc := 144) dX9_mayStand_144 rfl rfl ?_
                        refine g_X9_105 (pc := 145) (v := .ref 169) rfl dX9_mayStand_145 (c_140 _) rfl ?_
                        refine R_iconst (pc := 148) (v := 5) dX9_mayStand_148 (by decide) ?_
                        refine R_iload_n (pc := 149) dX9_mayStand_149 rfl rfl ?_
                        refine R_imul (pc := 150) dX9_mayStand_150 ?_
                        have r378 : inR (5 * c) 0 95 := inR_mulc (c := 5) (l := 0) (h := 95) 5 (by decide) (show inR c 0 19 from hc) (by decide) (by decide)
                        have e379 := ti_mulc (c := 5) (l := 0) (h := 95) 5 (by decide) (show inR c 0 19 from hc) (by decide) (by decide)
                        refine R_iload (pc := 151) dX9_mayStand_151 rfl ?_
                        refine R_iconst (pc := 153) (v := 1) dX9_mayStand_153 (by decide) ?_
                        refine R_iadd (pc := 154) dX9_mayStand_154 ?_
                        have r380 : inR ((nI j92) + 1) 1 5 := inR_add (show inR (nI j92) 0 4 from hrg92) (show inR 1 1 1 from (inR_self _)) (by decide) (by decide)
                        have e381 := ti_add (l := 1) (h := 5) (show inR (nI j92) 0 4 from hrg92) (show inR 1 1 1 from (inR_self _)) (by decide) (by decide)
                        refine R_iload (pc := 155) dX9_mayStand_155 rfl ?_
                        refine R_icge (pc := 157) 167 dX9_mayStand_157 (by decide) (fun b157_382 => ?_) (fun b157_382 => ?_)
                        · skip
                          refine R_iload (pc := 167) dX9_mayStand_167 rfl ?_
                          refine R_iadd (pc := 169) dX9_mayStand_169 ?_
                          have r383 : inR ((5 * c) + (nI j92)) 0 99 := inR_add (show inR (5 * c) 0 95 from r378) (show inR (nI j92) 0 4 from hrg92) (by decide) (by decide)
                          have e384 := ti_add (l := 0) (h := 99) (show inR (5 * c) 0 95 from r378) (show inR (nI j92) 0 4 from hrg92) (by decide) (by decide)
                          have hx385 : vp_in ((5 * c) + (nI j92)) 100 := (vp_of_inR r383 (by decide))
                          refine R_iaload (pc := 170) dX9_mayStand_170 (c_169 _) hx385 ?_
                          have hx386 : vp_in (σ.2.2.1 169 (Int32.toNatClampNeg ((5 * c) + (nI j92)))) 8 := (vp_of_inR (iva_169 hI _ (lt_of_vp hx385)) (by decide))
                          refine R_iaload (pc := 171) dX9_mayStand_171 (c_167 _) hx386 ?_
                          refine st_8_7_i_i (pc := 172) dX9_mayStand_172 ?_
                          refine R_aload_n (pc := 174) dX9_mayStand_174 rfl rfl ?_
                          refine R_iload_n (pc := 175) dX9_mayStand_175 rfl rfl ?_
                          refine R_iload (pc := 176) dX9_mayStand_176 rfl ?_
                          refine R_iload (pc := 178) dX9_mayStand_178 rfl ?_
                          refine k_X9_242 (pc := 180) (gx_X9_isOrdered _ _ _ _ hI) rfl (c_140 _) (by decide) (Nat.le_refl _) (Nat.le_refl _) (Nat.le_of_ble_eq_true rfl) dX9_mayStand_180 (fun x w2 h => ?_)
                          rcases h with ⟨rfl, rfl | rfl⟩
                          · skip
                            refine st_8_3_i_i (pc := 183) dX9_mayStand_183 ?_
                            refine inc_8_5_1_i (pc := 184) dX9_mayStand_184 ?_
                            have r388 : inR ((nI j92) + 1) 1 5 := inR_add (show inR (nI j92) 0 4 from hrg92) (show inR 1 1 1 from (inR_self _)) (by decide) (by decide)
                            have e389 := ti_add (l := 1) (h := 5) (show inR (nI j92) 0 4 from hrg92) (show inR 1 1 1 from (inR_self _)) (by decide) (by decide)
                            refine R_goto (pc := 187) 92 dX9_mayStand_187 (by decide) ?_
                            rw [nI_1]
                            exact ih92 (j92 + 1) _ _ _ (by omega) (by omega) (show inR 1 0 1 from ⟨by decide, by decide⟩)
                          · skip
                            refine st_8_3_i_i (pc := 183) dX9_mayStand_183 ?_
                            refine inc_8_5_1_i (pc := 184) dX9_mayStand_184 ?_
                            have r390 : inR ((nI j92) + 1) 1 5 := inR_add (show inR (nI j92) 0 4 from hrg92) (show inR 1 1 1 from (inR_self _)) (by decide) (by decide)
                            have e391 := ti_add (l := 1) (h := 5) (show inR (nI j92) 0 4 from hrg92) (show inR 1 1 1 from (inR_self _)) (by decide) (by decide)
                            refine R_goto (pc := 187) 92 dX9_mayStand_187 (by decide) ?_
                            rw [nI_1]
                            exact ih92 (j92 + 1) _ _ _ (by omega) (by omega) (show inR 0 0 1 from ⟨by decide, by decide⟩)
                        · skip
                          refine R_iload (pc := 160) dX9_mayStand_160 rfl ?_
                          refine R_iconst (pc := 162) (v := 1) dX9_mayStand_162 (by decide) ?_
                          refine R_iadd (pc := 163) dX9_mayStand_163 ?_
                          have r392 : inR ((nI j92) + 1) 1 5 := inR_add (show inR (nI j92) 0 4 from hrg92) (show inR 1 1 1 from (inR_self _)) (by decide) (by decide)
                          have e393 := ti_add (l := 1) (h := 5) (show inR (nI j92) 0 4 from hrg92) (show inR 1 1 1 from (inR_self _)) (by decide) (by decide)
                          refine R_goto (pc := 164) 169 dX9_mayStand_164 (by decide) ?_
                          refine R_iadd (pc := 169) dX9_mayStand_169 ?_
                          have r394 : inR ((5 * c) + ((nI j92) + 1)) 1 100 := inR_add (show inR (5 * c) 0 95 from r378) (show inR ((nI j92) + 1) 1 5 from r392) (by decide) (by decide)
                          have e395 := ti_add (l := 1) (h := 100) (show inR (5 * c) 0 95 from r378) (show inR ((nI j92) + 1) 1 5 from r392) (by decide) (by decide)
                          have hx396 : vp_in ((5 * c) + ((nI j92) + 1)) 100 := (vp_ti (by have q0 := e370; have q1 := e372; have q2 := e375; have q3 := e379; have q4 := e381; have q5 := e393; have q6 := e395; have q7 := ti_nle b29_296; have q8 := ti_eq b33_364; have q9 := ti_nle b96_366; have q10 := ti_ne b100_367; have q11 := ti_nle b106_368; have q12 := ti_le b126_373; have q13 := ti_nle b157_382; have q14 := ti_in hc; have q15 := ti_in (iva_168 hI _ (lt_of_vp hx227)); have q16 := ti_in hg3_25; have q17 := ti_in hrg25; have q18 := ti_in hg3_92; have q19 := ti_in hrg92; have q20 := ti_in r378; have q21 := ti_in r392; have q22 := ti_in r374; have q23 := ti_in (iva_169 hI _ (lt_of_vp hx376)); have q24 := ti_in r394; have z0 : (0 : Int32).toInt = 0 := (by decide); have z1 : (1 : Int32).toInt = 1 := (by decide); have z2 : (100 : Int32).toInt = 100 := (by decide); have z3 : (168 : Int32).toInt = 168 := (by decide); have z4 : (19 : Int32).toInt = 19 := (by decide); have z5 : (4 : Int32).toInt = 4 := (by decide); have z6 : (5 : Int32).toInt = 5 := (by decide); have z7 : (7 : Int32).toInt = 7 := (by decide); have z8 : (95 : Int32).toInt = 95 := (by decide); omega) (by have q0 := e370; have q1 := e372; have q2 := e375; have q3 := e379; have q4 := e381; have q5 := e393; have q6 := e395; have q7 := ti_nle b29_296; have q8 := ti_eq b33_364; have q9 := ti_nle b96_366; have q10 := ti_ne b100_367; have q11 := ti_nle b106_368; have q12 := ti_le b126_373; have q13 := ti_nle b157_382; have q14 := ti_in hc; have q15 := ti_in (iva_168 hI _ (lt_of_vp hx227)); have q16 := ti_in hg3_25; have q17 := ti_in hrg25; have q18 := ti_in hg3_92; have q19 := ti_in hrg92; have q20 := ti_in r378; have q21 := ti_in r392; have q22 := ti_in r374; have q23 := ti_in (iva_169 hI _ (lt_of_vp hx376)); have q24 := ti_in r394; have z0 : (0 : Int32).toInt = 0 := (by decide); have z1 : (1 : Int32).toInt = 1 := (by decide); have z2 : (100 : Int32).toInt = 100 := (by decide); have z3 : (168 : Int32).toInt = 168 := (by decide); have z4 : (19 : Int32).toInt = 19 := (by decide); have z5 : (4 : Int32).toInt = 4 := (by decide); have z6 : (5 : Int32).toInt = 5 := (by decide); have z7 : (7 : Int32).toInt = 7 := (by decide); have z8 : (95 : Int32).toInt = 95 := (by decide); omega))
                          refine R_iaload (pc := 170) dX9_mayStand_170 (c_169 _) hx396 ?_
                          have hx397 : vp_in (σ.2.2.1 169 (Int32.toNatClampNeg ((5 * c) + ((nI j92) + 1)))) 8 := (vp_of_inR (iva_169 hI _ (lt_of_vp hx396)) (by decide))
                          refine R_iaload (pc := 171) dX9_mayStand_171 (c_167 _) hx397 ?_
                          refine st_8_7_i_i (pc := 172) dX9_mayStand_172 ?_
                          refine R_aload_n (pc := 174) dX9_mayStand_174 rfl rfl ?_
                          refine R_iload_n (pc := 175) dX9_mayStand_175 rfl rfl ?_
                          refine R_iload (pc := 176) dX9_mayStand_176 rfl ?_
                          refine R_iload (pc := 178) dX9_mayStand_178 rfl ?_
                          refine k_X9_242 (pc := 180) (gx_X9_isOrdered _ _ _ _ hI) rfl (c_140 _) (by decide) (Nat.le_refl _) (Nat.le_refl _) (Nat.le_of_ble_eq_true rfl) dX9_mayStand_180 (fun x w2 h => ?_)
                          rcases h with ⟨rfl, rfl | rfl⟩
                          · skip
                            refine st_8_3_i_i (pc := 183) dX9_mayStand_183 ?_
                            refine inc_8_5_1_i (pc := 184) dX9_mayStand_184 ?_
                            have r399 : inR ((nI j92) + 1) 1 5 := inR_add (show inR (nI j92) 0 4 from hrg92) (show inR 1 1 1 from (inR_self _)) (by decide) (by decide)
                            have e400 := ti_add (l := 1) (h := 5) (show inR (nI j92) 0 4 from hrg92) (show inR 1 1 1 from (inR_self _)) (by decide) (by decide)
                            refine R_goto (pc := 187) 92 dX9_mayStand_187 (by decide) ?_
                            rw [nI_1]
                            exact ih92 (j92 + 1) _ _ _ (by omega) (by omega) (show inR 1 0 1 from ⟨by decide, by decide⟩)
                          · skip
                            refine st_8_3_i_i (pc := 183) dX9_mayStand_183 ?_
                            refine inc_8_5_1_i (pc := 184) dX9_mayStand_184 ?_
                            have r401 : inR ((nI j92) + 1) 1 5 := inR_add (show inR (nI j92) 0 4 from hrg92) (show inR 1 1 1 from (inR_self _)) (by decide) (by decide)
                            have e402 := ti_add (l := 1) (h := 5) (show inR (nI j92) 0 4 from hrg92) (show inR 1 1 1 from (inR_self _)) (by decide) (by decide)
                            refine R_goto (pc := 187) 92 dX9_mayStand_187 (by decide) ?_
                            rw [nI_1]
                            exact ih92 (j92 + 1) _ _ _ (by omega) (by omega) (show inR 0 0 1 from ⟨by decide, by decide⟩)
                      · skip
                        refine R_iload (pc := 129) dX9_mayStand_129 rfl ?_
                        refine R_goto (pc := 131) 135 dX9_mayStand_131 (by decide) ?_
                        refine R_iadd (pc := 135) dX9_mayStand_135 ?_
                        have r403 : inR ((5 * c) + (nI j92)) 0 99 := inR_add (show inR (5 * c) 0 95 from r369) (show inR (nI j92) 0 4 from hrg92) (by decide) (by decide)
                        have e404 := ti_add (l := 0) (h := 99) (show inR (5 * c) 0 95 from r369) (show inR (nI j92) 0 4 from hrg92) (by decide) (by decide)
                        have hx405 : vp_in ((5 * c) + (nI j92)) 100 := (vp_of_inR r403 (by decide))
                        refine R_iaload (pc := 136) dX9_mayStand_136 (c_169 _) hx405 ?_
                        have hx406 : vp_in (σ.2.2.1 169 (Int32.toNatClampNeg ((5 * c) + (nI j92)))) 8 := (vp_of_inR (iva_169 hI _ (lt_of_vp hx405)) (by decide))
                        refine R_iaload (pc := 137) dX9_mayStand_137 (c_167 _) hx406 ?_
                        refine st_8_6_i_i (pc := 138) dX9_mayStand_138 ?_
                        refine R_aload_n (pc := 140) dX9_mayStand_140 rfl rfl ?_
                        refine g_X9_99 (pc := 141) (v := .ref 167) rfl dX9_mayStand_141 (c_140 _) rfl ?_
                        refine R_aload_n (pc := 144) dX9_mayStand_144 rfl rfl ?_
                        refine g_X9_105 (pc := 145) (v := .ref 169) rfl dX9_mayStand_145 (c_140 _) rfl ?_
                        refine R_iconst (pc := 148) (v := 5) dX9_mayStand_148 (by decide) ?_
                        refine R_iload_n (pc := 149) dX9_mayStand_149 rfl rfl ?_
                        refine R_imul (pc := 150) dX9_mayStand_150 ?_
                        have r407 : inR (5 * c) 0 95 := inR_mulc (c := 5) (l := 0) (h := 95) 5 (by decide) (show inR c 0 19 from hc) (by decide) (by decide)
                        have e408 := ti_mulc (c := 5) (l := 0) (h := 95) 5 (by decide) (show inR c 0 19 from hc) (by decide) (by decide)
                        refine R_iload (pc := 151) dX9_mayStand_151 rfl ?_
                        refine R_iconst (pc := 153) (v := 1) dX9_mayStand_153 (by decide) ?_
                        refine R_iadd (pc := 154) dX9_mayStand_154 ?_
                        have r409 : inR ((nI j92) + 1) 1 5 := inR_add (show inR (nI j92) 0 4 from hrg92) (show inR 1 1 1 from (inR_self _)) (by decide) (by decide)
                        have e410 := ti_add (l := 1) (h := 5) (show inR (nI j92) 0 4 from hrg92) (show inR 1 1 1 from (inR_self _)) (by decide) (by decide)
                        refine R_iload (pc := 155) dX9_mayStand_155 rfl ?_
                        refine R_icge (pc := 157) 167 dX9_mayStand_157 (by decide) (fun b157_411 => ?_) (fun b157_411 => ?_)
                        · skip
                          refine R_iload (pc := 167) dX9_mayStand_167 rfl ?_
                          refine R_iadd (pc := 169) dX9_mayStand_169 ?_
                          have r412 : inR ((5 * c) + (nI j92)) 0 99 := inR_add (show inR (5 * c) 0 95 from r407) (show inR (nI j92) 0 4 from hrg92) (by decide) (by decide)
                          have e413 := ti_add (l := 0) (h := 99) (show inR (5 * c) 0 95 from r407) (show inR (nI j92) 0 4 from hrg92) (by decide) (by decide)
                          have hx414 : vp_in ((5 * c) + (nI j92)) 100 := (vp_of_inR r412 (by decide))
                          refine R_iaload (pc := 170) dX9_mayStand_170 (c_169 _) hx414 ?_
                          have hx415 : vp_in (σ.2.2.1 169 (Int32.toNatClampNeg ((5 * c) + (nI j92)))) 8 := (vp_of_inR (iva_169 hI _ (lt_of_vp hx405)) (by decide))
                          refine R_iaload (pc := 171) dX9_mayStand_171 (c_167 _) hx415 ?_
                          refine st_8_7_i_i (pc := 172) dX9_mayStand_172 ?_
                          refine R_aload_n (pc := 174) dX9_mayStand_174 rfl rfl ?_
                          refine R_iload_n (pc := 175) dX9_mayStand_175 rfl rfl ?_
                          refine R_iload (pc := 176) dX9_mayStand_176 rfl ?_
                          refine R_iload (pc := 178) dX9_mayStand_178 rfl ?_
                          refine k_X9_242 (pc := 180) (gx_X9_isOrdered _ _ _ _ hI) rfl (c_140 _) (by decide) (Nat.le_refl _) (Nat.le_refl _) (Nat.le_of_ble_eq_true rfl) dX9_mayStand_180 (fun x w2 h => ?_)
                          rcases h with ⟨rfl, rfl | rfl⟩
                          · skip
                            refine st_8_3_i_i (pc := 183) dX9_mayStand_183 ?_
                            refine inc_8_5_1_i (pc := 184) dX9_mayStand_184 ?_
                            have r417 : inR ((nI j92) + 1) 1 5 := inR_add (show inR (nI j92) 0 4 from hrg92) (show inR 1 1 1 from (inR_self _)) (by decide) (by decide)
                            have e418 := ti_add (l := 1) (h := 5) (show inR (nI j92) 0 4 from hrg92) (show inR 1 1 1 from (inR_self _)) (by decide) (by decide)
                            refine R_goto (pc := 187) 92 dX9_mayStand_187 (by decide) ?_
                            rw [nI_1]
                            exact ih92 (j92 + 1) _ _ _ (by omega) (by omega) (show inR 1 0 1 from ⟨by decide, by decide⟩)
                          · skip
                            refine st_8_3_i_i (pc := 183) dX9_mayStand_183 ?_
                            refine inc_8_5_1_i (pc := 184) dX9_mayStand_184 ?_
                            have r419 : inR ((nI j92) + 1) 1 5 := inR_add (show inR (nI j92) 0 4 from hrg92) (show inR 1 1 1 from (inR_self _)) (by decide) (by decide)
                            have e420 := ti_add (l := 1) (h := 5) (show inR (nI j92) 0 4 from hrg92) (show inR 1 1 1 from (inR_self _)) (by decide) (by decide)
                            refine R_goto (pc := 187) 92 dX9_mayStand_187 (by decide) ?_
                            rw [nI_1]
                            exact ih92 (j92 + 1) _ _ _ (by omega) (by omega) (show inR 0 0 1 from ⟨by decide, by decide⟩)
                        · skip
                          refine R_iload (pc := 160) dX9_mayStand_160 rfl ?_
                          refine R_iconst (pc := 162) (v := 1) dX9_mayStand_162 (by decide) ?_
                          refine R_iadd (pc := 163) dX9_mayStand_163 ?_
                          have r421 : inR ((nI j92) + 1) 1 5 := inR_add (show inR (nI j92) 0 4 from hrg92) (show inR 1 1 1 from (inR_self _)) (by decide) (by decide)
                          have e422 := ti_add (l := 1) (h := 5) (show inR (nI j92) 0 4 from hrg92) (show inR 1 1 1 from (inR_self _)) (by decide) (by decide)
                          refine R_goto (pc := 164) 169 dX9_mayStand_164 (by decide) ?_
                          refine R_iadd (pc := 169) dX9_mayStand_169 ?_
                          have r423 : inR ((5 * c) + ((nI j92) + 1)) 1 100 := inR_add (show inR (5 * c) 0 95 from r407) (show inR ((nI j92) + 1) 1 5 from r421) (by decide) (by decide)
                          have e424 := ti_add (l := 1) (h := 100) (show inR (5 * c) 0 95 from r407) (show inR ((nI j92) + 1) 1 5 from r421) (by decide) (by decide)
                          have hx425 : vp_in ((5 * c) + ((nI j92) + 1)) 100 := (vp_ti (by have q0 := e370; have q1 := e372; have q2 := e404; have q3 := e408; have q4 := e410; have q5 := e422; have q6 := e424; have q7 := ti_nle b29_296; have q8 := ti_eq b33_364; have q9 := ti_nle b96_366; have q10 := ti_ne b100_367; have q11 := ti_nle b106_368; have q12 := ti_nle b126_373; have q13 := ti_nle b157_411; have q14 := ti_in hc; have q15 := ti_in (iva_168 hI _ (lt_of_vp hx227)); have q16 := ti_in hg3_25; have q17 := ti_in hrg25; have q18 := ti_in hg3_92; have q19 := ti_in hrg92; have q20 := ti_in r407; have q21 := ti_in r421; have q22 := ti_in r403; have q23 := ti_in (iva_169 hI _ (lt_of_vp hx405)); have q24 := ti_in r423; have z0 : (0 : Int32).toInt = 0 := (by decide); have z1 : (1 : Int32).toInt = 1 := (by decide); have z2 : (100 : Int32).toInt = 100 := (by decide); have z3 : (168 : Int32).toInt = 168 := (by decide); have z4 : (19 : Int32).toInt = 19 := (by decide); have z5 : (4 : Int32).toInt = 4 := (by decide); have z6 : (5 : Int32).toInt = 5 := (by decide); have z7 : (7 : Int32).toInt = 7 := (by decide); have z8 : (95 : Int32).toInt = 95 := (by decide); have z9 : (99 : Int32).toInt = 99 := (by decide); omega) (by have q0 := e370; have q1 := e372; have q2 := e404; have q3 := e408; have q4 := e410; have q5 := e422; have q6 := e424; have q7 := ti_nle b29_296; have q8 := ti_eq b33_364; have q9 := ti_nle b96_366; have q10 := ti_ne b100_367; have q11 := ti_nle b106_368; have q12 := ti_nle b126_373; have q13 := ti_nle b157_411; have q14 := ti_in hc; have q15 := ti_in (iva_168 hI _ (lt_of_vp hx227)); have q16 := ti_in hg3_25; have q17 := ti_in hrg25; have q18 := ti_in hg3_92; have q19 := ti_in hrg92; have q20 := ti_in r407; have q21 := ti_in r421; have q22 := ti_in r403; have q23 := ti_in (iva_169 hI _ (lt_of_vp hx405)); have q24 := ti_in r423; have z0 : (0 : Int32).toInt = 0 := (by decide); have z1 : (1 : Int32).toInt = 1 := (by decide); have z2 : (100 : Int32).toInt = 100 := (by decide); have z3 : (168 : Int32).toInt = 168 := (by decide); have z4 : (19 : Int32).toInt = 19 := (by decide); have z5 : (4 : Int32).toInt = 4 := (by decide); have z6 : (5 : Int32).toInt = 5 := (by decide); have z7 : (7 : Int32).toInt = 7 := (by decide); have z8 : (95 : Int32).toInt = 95 := (by decide); have z9 : (99 : Int32).toInt = 99 := (by decide); omega))
                          refine R_iaload (pc := 170) dX9_mayStand_170 (c_169 _) hx425 ?_
                          have hx426 : vp_in (σ.2.2.1 169 (Int32.toNatClampNeg ((5 * c) + ((nI j92) + 1)))) 8 := (vp_of_inR (iva_169 hI _ (lt_of_vp hx425)) (by decide))
                          refine R_iaload (pc := 171) dX9_mayStand_171 (c_167 _) hx426 ?_
                          refine st_8_7_i_i (pc := 172) dX9_mayStand_172 ?_
                          refine R_aload_n (pc := 174) dX9_mayStand_174 rfl rfl ?_
                          refine R_iload_n (pc := 175) dX9_mayStand_175 rfl rfl ?_
                          refine R_iload (pc := 176) dX9_mayStand_176 rfl ?_
                          refine R_iload (pc := 178) dX9_mayStand_178 rfl ?_
                          refine k_X9_242 (pc := 180) (gx_X9_isOrdered _ _ _ _ hI) rfl (c_140 _) (by decide) (Nat.le_refl _) (Nat.le_refl _) (Nat.le_of_ble_eq_true rfl) dX9_mayStand_180 (fun x w2 h => ?_)
                          rcases h with ⟨rfl, rfl | rfl⟩
                          · skip
                            refine st_8_3_i_i (pc := 183) dX9_mayStand_183 ?_
                            refine inc_8_5_1_i (pc := 184) dX9_mayStand_184 ?_
                            have r428 : inR ((nI j92) + 1) 1 5 := inR_add (show inR (nI j92) 0 4 from hrg92) (show inR 1 1 1 from (inR_self _)) (by decide) (by decide)
                            have e429 := ti_add (l := 1) (h := 5) (show inR (nI j92) 0 4 from hrg92) (show inR 1 1 1 from (inR_self _)) (by decide) (by decide)
                            refine R_goto (pc := 187) 92 dX9_mayStand_187 (by decide) ?_
                            rw [nI_1]
                            exact ih92 (j92 + 1) _ _ _ (by omega) (by omega) (show inR 1 0 1 from ⟨by decide, by decide⟩)
                          · skip
                            refine st_8_3_i_i (pc := 183) dX9_mayStand_183 ?_
                            refine inc_8_5_1_i (pc := 184) dX9_mayStand_184 ?_
                            have r430 : inR ((nI j92) + 1) 1 5 := inR_add (show inR (nI j92) 0 4 from hrg92) (show inR 1 1 1 from (inR_self _)) (by decide) (by decide)
                            have e431 := ti_add (l := 1) (h := 5) (show inR (nI j92) 0 4 from hrg92) (show inR 1 1 1 from (inR_self _)) (by decide) (by decide)
                            refine R_goto (pc := 187) 92 dX9_mayStand_187 (by decide) ?_
                            rw [nI_1]
                            exact ih92 (j92 + 1) _ _ _ (by omega) (by omega) (show inR 0 0 1 from ⟨by decide, by decide⟩)
            exact HL92 5 0 _ _ _ (by omega) (by omega) hg3_25
          · skip
            refine R_aload_n (pc := 36) dX9_mayStand_36 rfl rfl ?_
            refine g_X9_99 (pc := 37) (v := .ref 167) rfl dX9_mayStand_37 (c_140 _) rfl ?_
            refine R_aload_n (pc := 40) dX9_mayStand_40 rfl rfl ?_
            refine g_X9_105 (pc := 41) (v := .ref 169) rfl dX9_mayStand_41 (c_140 _) rfl ?_
            refine R_iconst (pc := 44) (v := 5) dX9_mayStand_44 (by decide) ?_
            refine R_iload_n (pc := 45) dX9_mayStand_45 rfl rfl ?_
            refine R_imul (pc := 46) dX9_mayStand_46 ?_
            have r432 : inR (5 * c) 0 95 := inR_mulc (c := 5) (l := 0) (h := 95) 5 (by decide) (show inR c 0 19 from hc) (by decide) (by decide)
            have e433 := ti_mulc (c := 5) (l := 0) (h := 95) 5 (by decide) (show inR c 0 19 from hc) (by decide) (by decide)
            refine R_iload (pc := 47) dX9_mayStand_47 rfl ?_
            refine R_iadd (pc := 49) dX9_mayStand_49 ?_
            have r434 : inR ((5 * c) + (nI j25)) 0 99 := inR_add (show inR (5 * c) 0 95 from r432) (show inR (nI j25) 0 4 from hrg25) (by decide) (by decide)
            have e435 := ti_add (l := 0) (h := 99) (show inR (5 * c) 0 95 from r432) (show inR (nI j25) 0 4 from hrg25) (by decide) (by decide)
            have hx436 : vp_in ((5 * c) + (nI j25)) 100 := (vp_of_inR r434 (by decide))
            refine R_iaload (pc := 50) dX9_mayStand_50 (c_169 _) hx436 ?_
            have hx437 : vp_in (σ.2.2.1 169 (Int32.toNatClampNeg ((5 * c) + (nI j25)))) 8 := (vp_of_inR (iva_169 hI _ (lt_of_vp hx436)) (by decide))
            refine R_iaload (pc := 51) dX9_mayStand_51 (c_167 _) hx437 ?_
            refine st_8_6_i_i (pc := 52) dX9_mayStand_52 ?_
            refine R_iload (pc := 54) dX9_mayStand_54 rfl ?_
            refine R_bipush (pc := 56) (v := 64) dX9_mayStand_56 (by decide) ?_
            refine R_icge (pc := 58) 81 dX9_mayStand_58 (by decide) (fun b58_438 => ?_) (fun b58_438 => ?_)
            · skip
              refine R_iconst (pc := 81) (v := 0) dX9_mayStand_81 (by decide) ?_
              refine st_8_3_i_i (pc := 82) dX9_mayStand_82 ?_
              refine inc_8_5_1_i (pc := 83) dX9_mayStand_83 ?_
              have r439 : inR ((nI j25) + 1) 1 5 := inR_add (show inR (nI j25) 0 4 from hrg25) (show inR 1 1 1 from (inR_self _)) (by decide) (by decide)
              have e440 := ti_add (l := 1) (h := 5) (show inR (nI j25) 0 4 from hrg25) (show inR 1 1 1 from (inR_self _)) (by decide) (by decide)
              refine R_goto (pc := 86) 25 dX9_mayStand_86 (by decide) ?_
              rw [nI_1]
              exact ih25 (j25 + 1) _ _ _ (by omega) (by omega) (show inR 0 0 1 from ⟨by decide, by decide⟩)
            · skip
              refine R_iload (pc := 61) dX9_mayStand_61 rfl ?_
              refine R_iload_n (pc := 63) dX9_mayStand_63 rfl rfl ?_
              refine R_iceq (pc := 64) 81 dX9_mayStand_64 (by decide) (fun b64_441 => ?_) (fun b64_441 => ?_)
              · skip
                refine R_iconst (pc := 81) (v := 0) dX9_mayStand_81 (by decide) ?_
                refine st_8_3_i_i (pc := 82) dX9_mayStand_82 ?_
                refine inc_8_5_1_i (pc := 83) dX9_mayStand_83 ?_
                have r442 : inR ((nI j25) + 1) 1 5 := inR_add (show inR (nI j25) 0 4 from hrg25) (show inR 1 1 1 from (inR_self _)) (by decide) (by decide)
                have e443 := ti_add (l := 1) (h := 5) (show inR (nI j25) 0 4 from hrg25) (show inR 1 1 1 from (inR_self _)) (by decide) (by decide)
                refine R_goto (pc := 86) 25 dX9_mayStand_86 (by decide) ?_
                rw [nI_1]
                exact ih25 (j25 + 1) _ _ _ (by omega) (by omega) (show inR 0 0 1 from ⟨by decide, by decide⟩)
              · skip
                refine R_aload_n (pc := 67) dX9_mayStand_67 rfl rfl ?_
                refine R_iload_n (pc := 68) dX9_mayStand_68 rfl rfl ?_
                refine R_iload (pc := 69) dX9_mayStand_69 rfl ?_
                refine k_X9_239 (pc := 71) (gx_X9_isSeen _ _ _ hI) rfl (c_140 _) (by decide) (Nat.le_refl _) (Nat.le_refl _) (Nat.le_of_ble_eq_true rfl) dX9_mayStand_71 (fun y444 w2 h => ?_)
                subst h
                refine R_ifeq (pc := 74) 81 dX9_mayStand_74 (by decide) (fun b74_445 => ?_) (fun b74_445 => ?_)
                · skip
                  refine R_iconst (pc := 81) (v := 0) dX9_mayStand_81 (by decide) ?_
                  refine st_8_3_i_i (pc := 82) dX9_mayStand_82 ?_
                  refine inc_8_5_1_i (pc := 83) dX9_mayStand_83 ?_
                  have r446 : inR ((nI j25) + 1) 1 5 := inR_add (show inR (nI j25) 0 4 from hrg25) (show inR 1 1 1 from (inR_self _)) (by decide) (by decide)
                  have e447 := ti_add (l := 1) (h := 5) (show inR (nI j25) 0 4 from hrg25) (show inR 1 1 1 from (inR_self _)) (by decide) (by decide)
                  refine R_goto (pc := 86) 25 dX9_mayStand_86 (by decide) ?_
                  rw [nI_1]
                  exact ih25 (j25 + 1) _ _ _ (by omega) (by omega) (show inR 0 0 1 from ⟨by decide, by decide⟩)
                · skip
                  refine R_iconst (pc := 77) (v := 1) dX9_mayStand_77 (by decide) ?_
                  refine R_goto (pc := 78) 82 dX9_mayStand_78 (by decide) ?_
                  refine st_8_3_i_i (pc := 82) dX9_mayStand_82 ?_
                  refine inc_8_5_1_i (pc := 83) dX9_mayStand_83 ?_
                  have r448 : inR ((nI j25) + 1) 1 5 := inR_add (show inR (nI j25) 0 4 from hrg25) (show inR 1 1 1 from (inR_self _)) (by decide) (by decide)
                  have e449 := ti_add (l := 1) (h := 5) (show inR (nI j25) 0 4 from hrg25) (show inR 1 1 1 from (inR_self _)) (by decide) (by decide)
                  refine R_goto (pc := 86) 25 dX9_mayStand_86 (by decide) ?_
                  rw [nI_1]
                  exact ih25 (j25 + 1) _ _ _ (by omega) (by omega) (show inR 1 0 1 from ⟨by decide, by decide⟩)
    exact HL25 5 0 _ _ _ (by omega) (by omega) (show inR 1 0 1 from ⟨by decide, by decide⟩)
theorem dX9_stoodOf_0 : decode cX9_stoodOf 0 = .ok (.lconst 0, 1) := by decide +kernel
theorem dX9_stoodOf_1 : decode cX9_stoodOf 1 = .ok (.lstore_n 2, 1) := by decide +kernel
theorem dX9_stoodOf_2 : decode cX9_stoodOf 2 = .ok (.iconst 0, 1) := by decide +kernel
theorem dX9_stoodOf_3 : decode cX9_stoodOf 3 = .ok (.istore 4, 2) := by decide +kernel
theorem dX9_stoodOf_5 : decode cX9_stoodOf 5 = .ok (.iload 4, 2) := by decide +kernel
theorem dX9_stoodOf_7 : decode cX9_stoodOf 7 = .ok (.bipush 64, 2) := by decide +kernel
theorem dX9_stoodOf_9 : decode cX9_stoodOf 9 = .ok (.if_icmp .ge 30, 3) := by decide +kernel
theorem dX9_stoodOf_12 : decode cX9_stoodOf 12 = .ok (.lload_n 2, 1) := by decide +kernel
theorem dX9_stoodOf_13 : decode cX9_stoodOf 13 = .ok (.aload_n 0, 1) := by decide +kernel
theorem dX9_stoodOf_14 : decode cX9_stoodOf 14 = .ok (.iload_n 1, 1) := by decide +kernel
theorem dX9_stoodOf_15 : decode cX9_stoodOf 15 = .ok (.iload 4, 2) := by decide +kernel
theorem dX9_stoodOf_17 : decode cX9_stoodOf 17 = .ok (.invokevirtual 245, 3) := by decide +kernel
theorem dX9_stoodOf_20 : decode cX9_stoodOf 20 = .ok (.ifCond .eq 10, 3) := by decide +kernel
theorem dX9_stoodOf_23 : decode cX9_stoodOf 23 = .ok (.lconst 1, 1) := by decide +kernel
theorem dX9_stoodOf_24 : decode cX9_stoodOf 24 = .ok (.iload 4, 2) := by decide +kernel
theorem dX9_stoodOf_26 : decode cX9_stoodOf 26 = .ok (.lshl, 1) := by decide +kernel
theorem dX9_stoodOf_27 : decode cX9_stoodOf 27 = .ok (.goto 4, 3) := by decide +kernel
theorem dX9_stoodOf_30 : decode cX9_stoodOf 30 = .ok (.lconst 0, 1) := by decide +kernel
theorem dX9_stoodOf_31 : decode cX9_stoodOf 31 = .ok (.lor, 1) := by decide +kernel
theorem dX9_stoodOf_32 : decode cX9_stoodOf 32 = .ok (.lstore_n 2, 1) := by decide +kernel
theorem dX9_stoodOf_33 : decode cX9_stoodOf 33 = .ok (.iinc 4 1, 3) := by decide +kernel
theorem dX9_stoodOf_36 : decode cX9_stoodOf 36 = .ok (.goto (-31), 3) := by decide +kernel
theorem dX9_stoodOf_39 : decode cX9_stoodOf 39 = .ok (.lload_n 2, 1) := by decide +kernel
theorem dX9_stoodOf_40 : decode cX9_stoodOf 40 = .ok (.lreturn, 1) := by decide +kernel
set_option maxRecDepth 100000 in
set_option maxHeartbeats 40000000 in
theorem gx_X9_stoodOf {G : vG} {l : Launch} (σ : Sg) (c : Int32) (hI : Inv σ) (hc : inR c 0 19) : Sp G l yX9_stoodOf cX9_stoodOf 5 (some .long) 3 0 0 [.ref 140, .int c] (WW σ) (QL (fun x w2 => w2 = WW σ)) := by
  refine Sp_of_R [(some (.ref 140)), (some (.int c)), none, none, none] [none, none, none] rfl (by simp) rfl (Nat.le_of_ble_eq_true rfl) ?_
  refine R_lconst (pc := 0) (v := 0) dX9_stoodOf_0 (by decide) ?_
  refine st_5_2_l_i (pc := 1) dX9_stoodOf_1 ?_
  refine R_iconst (pc := 2) (v := 0) dX9_stoodOf_2 (by decide) ?_
  refine st_5_4_i_n (pc := 3) dX9_stoodOf_3 ?_
  have HL5 : ∀ (q j5 : Nat) (g2_5 : Int64), j5 + q = 64 → 0 ≤ j5 → R G l yX9_stoodOf cX9_stoodOf 5 (some .long) 3 0 0 (QL (fun x w2 => w2 = WW σ)) 5 [(some (.ref 140)), (some (.int c)), (some (.long g2_5)), none, (some (.int (nI j5)))] [] (WW σ) 0 0 := by
    intro q
    induction q with
    | zero =>
      intro j5 g2_5 hj hs5
      obtain rfl : j5 = 64 := by omega
      refine R_iload (pc := 5) dX9_stoodOf_5 rfl ?_
      refine R_bipush (pc := 7) (v := 64) dX9_stoodOf_7 (by decide) ?_
      refine R_icge (pc := 9) 39 dX9_stoodOf_9 (by decide) (fun _ => ?_) (fun h => absurd (by decide) h)
      refine R_lload_n (pc := 39) dX9_stoodOf_39 rfl rfl ?_
      exact R_lret (pc := 40) dX9_stoodOf_40 rfl (Nat.zero_le _) (Nat.zero_le _) ⟨_, rfl, rfl⟩
    | succ q ih5 =>
      intro j5 g2_5 hj hs5
      have hrg5 : inR (nI j5) 0 63 := inR_ix hs5 (show j5 < 64 by omega) (by decide) (by decide) (by decide)
      have hlt5 : j5 < 64 := by omega
      refine R_iload (pc := 5) dX9_stoodOf_5 rfl ?_
      refine R_bipush (pc := 7) (v := 64) dX9_stoodOf_7 (by decide) ?_
      refine R_icge (pc := 9) 39 dX9_stoodOf_9 (by decide) (fun h => False.elim (by have q1 := ti_le h; have q2 := ti_in (show inR (nI j5) 0 63 from hrg5); have q3 := ti_in (show inR 64 64 64 from (inR_self _)); have z0 : (0 : Int32).toInt = 0 := (by decide);  have z1 : (63 : Int32).toInt = 63 := (by decide);  have z2 : (64 : Int32).toInt = 64 := (by decide); omega)) (fun _ => ?_)
      refine R_lload_n (pc := 12) dX9_stoodOf_12 rfl rfl ?_
      refine R_aload_n (pc := 13) dX9_stoodOf_13 rfl rfl ?_
      refine R_iload_n (pc := 14) dX9_stoodOf_14 rfl rfl ?_
      refine R_iload (pc := 15) dX9_stoodOf_15 rfl ?_
      refine k_X9_245 (pc := 17) (gx_X9_mayStand _ _ _ hI hc) rfl (c_140 _) (by decide) (Nat.le_refl _) (Nat.le_refl _) (Nat.le_of_ble_eq_true rfl) dX9_stoodOf_17 (fun y3 w2 h => ?_)
      subst h
      refine R_ifeq (pc := 20) 30 dX9_stoodOf_20 (by decide) (fun b20_4 => ?_) (fun b20_4 => ?_)
      · skip
        refine R_lconst (pc := 30) (v := 0) dX9_stoodOf_30 (by decide) ?_
        refine R_lor (pc := 31) dX9_stoodOf_31 ?_
        refine st_5_2_l_i (pc := 32) dX9_stoodOf_32 ?_
        refine inc_5_4_1_n (pc := 33) dX9_stoodOf_33 ?_
        have r5 : inR ((nI j5) + 1) 1 64 := inR_add (show inR (nI j5) 0 63 from hrg5) (show inR 1 1 1 from (inR_self _)) (by decide) (by decide)
        have e6 := ti_add (l := 1) (h := 64) (show inR (nI j5) 0 63 from hrg5) (show inR 1 1 1 from (inR_self _)) (by decide) (by decide)
        refine R_goto (pc := 36) 5 dX9_stoodOf_36 (by decide) ?_
        rw [nI_1]
        exact ih5 (j5 + 1) _ (by omega) (by omega)
      · skip
        refine R_lconst (pc := 23) (v := 1) dX9_stoodOf_23 (by decide) ?_
        refine R_iload (pc := 24) dX9_stoodOf_24 rfl ?_
        refine R_lshl (pc := 26) dX9_stoodOf_26 ?_
        refine R_goto (pc := 27) 31 dX9_stoodOf_27 (by decide) ?_
        refine R_lor (pc := 31) dX9_stoodOf_31 ?_
        refine st_5_2_l_i (pc := 32) dX9_stoodOf_32 ?_
        refine inc_5_4_1_n (pc := 33) dX9_stoodOf_33 ?_
        have r7 : inR ((nI j5) + 1) 1 64 := inR_add (show inR (nI j5) 0 63 from hrg5) (show inR 1 1 1 from (inR_self _)) (by decide) (by decide)
        have e8 := ti_add (l := 1) (h := 64) (show inR (nI j5) 0 63 from hrg5) (show inR 1 1 1 from (inR_self _)) (by decide) (by decide)
        refine R_goto (pc := 36) 5 dX9_stoodOf_36 (by decide) ?_
        rw [nI_1]
        exact ih5 (j5 + 1) _ (by omega) (by omega)
  exact HL5 64 0 _ (by omega) (by omega)
theorem dX9_stood_0 : decode cX9_stood 0 = .ok (.aload_n 0, 1) := by decide +kernel
theorem dX9_stood_1 : decode cX9_stood 1 = .ok (.iload_n 1, 1) := by decide +kernel
theorem dX9_stood_2 : decode cX9_stood 2 = .ok (.invokevirtual 135, 3) := by decide +kernel
theorem dX9_stood_5 : decode cX9_stood 5 = .ok (.ifCond .eq 11, 3) := by decide +kernel
theorem dX9_stood_8 : decode cX9_stood 8 = .ok (.aload_n 0, 1) := by decide +kernel
theorem dX9_stood_9 : decode cX9_stood 9 = .ok (.iload_n 1, 1) := by decide +kernel
theorem dX9_stood_10 : decode cX9_stood 10 = .ok (.invokevirtual 248, 3) := by decide +kernel
theorem dX9_stood_13 : decode cX9_stood 13 = .ok (.goto 4, 3) := by decide +kernel
theorem dX9_stood_16 : decode cX9_stood 16 = .ok (.lconst 0, 1) := by decide +kernel
theorem dX9_stood_17 : decode cX9_stood 17 = .ok (.lreturn, 1) := by decide +kernel
set_option maxRecDepth 100000 in
set_option maxHeartbeats 40000000 in
theorem gp_m_stood {G : vG} {l : Launch} (σ : Sg) (a : Int32) (hI : Inv σ) : Sp G l yX9_stood cX9_stood 2 (some .long) 4 0 0 [.ref 140, .int a] (WW σ) (QL (fun _ w2 => ∃ σ2, w2 = WW σ2 ∧ Inv σ2 ∧ Cor σ σ2)) := by
  refine Sp_of_R [(some (.ref 140)), (some (.int a))] [] rfl (by simp) rfl (Nat.le_of_ble_eq_true rfl) ?_
  refine R_aload_n (pc := 0) dX9_stood_0 rfl rfl ?_
  refine R_iload_n (pc := 1) dX9_stood_1 rfl rfl ?_
  refine k_X9_135 (pc := 2) (gx_X9_isThere _ _ hI) rfl (c_140 _) (by decide) (Nat.le_refl _) (Nat.le_refl _) (Nat.le_of_ble_eq_true rfl) dX9_stood_2 (fun x w2 h => ?_)
  rcases h with ⟨rfl, ⟨h1, rfl⟩ | rfl⟩
  · skip
    refine R_ifeq (pc := 5) 16 dX9_stood_5 (by decide) (fun h => absurd h (by decide)) (fun _ => ?_)
    refine R_aload_n (pc := 8) dX9_stood_8 rfl rfl ?_
    refine R_iload_n (pc := 9) dX9_stood_9 rfl rfl ?_
    refine k_X9_248 (pc := 10) (gx_X9_stoodOf _ _ hI h1) rfl (c_140 _) (by decide) (Nat.le_refl _) (Nat.le_refl _) (Nat.le_of_ble_eq_true rfl) dX9_stood_10 (fun y3 w2 h => ?_)
    subst h
    refine R_goto (pc := 13) 17 dX9_stood_13 (by decide) ?_
    exact R_lret (pc := 17) dX9_stood_17 rfl (Nat.zero_le _) (Nat.zero_le _) ⟨_, rfl, _, rfl, hI, (show Cor σ σ from Cor.rfl' σ)⟩
  · skip
    refine R_ifeq (pc := 5) 16 dX9_stood_5 (by decide) (fun _ => ?_) (fun h => absurd (by decide) h)
    refine R_lconst (pc := 16) (v := 0) dX9_stood_16 (by decide) ?_
    exact R_lret (pc := 17) dX9_stood_17 rfl (Nat.zero_le _) (Nat.zero_le _) ⟨_, rfl, _, rfl, hI, (show Cor σ σ from Cor.rfl' σ)⟩
theorem dX9_together_0 : decode cX9_together 0 = .ok (.aload_n 0, 1) := by decide +kernel
theorem dX9_together_1 : decode cX9_together 1 = .ok (.iload_n 1, 1) := by decide +kernel
theorem dX9_together_2 : decode cX9_together 2 = .ok (.invokevirtual 135, 3) := by decide +kernel
theorem dX9_together_5 : decode cX9_together 5 = .ok (.ifCond .ne 6, 3) := by decide +kernel
theorem dX9_together_8 : decode cX9_together 8 = .ok (.bipush (-2), 2) := by decide +kernel
theorem dX9_together_10 : decode cX9_together 10 = .ok (.ireturn, 1) := by decide +kernel
theorem dX9_together_11 : decode cX9_together 11 = .ok (.aload_n 0, 1) := by decide +kernel
theorem dX9_together_12 : decode cX9_together 12 = .ok (.invokevirtual 162, 3) := by decide +kernel
theorem dX9_together_15 : decode cX9_together 15 = .ok (.aload_n 0, 1) := by decide +kernel
theorem dX9_together_16 : decode cX9_together 16 = .ok (.aload_n 0, 1) := by decide +kernel
theorem dX9_together_17 : decode cX9_together 17 = .ok (.getfield 54, 3) := by decide +kernel
theorem dX9_together_20 : decode cX9_together 20 = .ok (.iconst 0, 1) := by decide +kernel
theorem dX9_together_21 : decode cX9_together 21 = .ok (.iconst (-1), 1) := by decide +kernel
theorem dX9_together_22 : decode cX9_together 22 = .ok (.invokevirtual 165, 3) := by decide +kernel
theorem dX9_together_25 : decode cX9_together 25 = .ok (.ldc2_w 252, 3) := by decide +kernel
theorem dX9_together_28 : decode cX9_together 28 = .ok (.lstore_n 2, 1) := by decide +kernel
theorem dX9_together_29 : decode cX9_together 29 = .ok (.iconst 0, 1) := by decide +kernel
theorem dX9_together_30 : decode cX9_together 30 = .ok (.istore 4, 2) := by decide +kernel
theorem dX9_together_32 : decode cX9_together 32 = .ok (.iload 4, 2) := by decide +kernel
theorem dX9_together_34 : decode cX9_together 34 = .ok (.aload_n 0, 1) := by decide +kernel
theorem dX9_together_35 : decode cX9_together 35 = .ok (.invokevirtual 120, 3) := by decide +kernel
theorem dX9_together_38 : decode cX9_together 38 = .ok (.if_icmp .ge 48, 3) := by decide +kernel
theorem dX9_together_41 : decode cX9_together 41 = .ok (.aload_n 0, 1) := by decide +kernel
theorem dX9_together_42 : decode cX9_together 42 = .ok (.getfield 54, 3) := by decide +kernel
theorem dX9_together_45 : decode cX9_together 45 = .ok (.iload 4, 2) := by decide +kernel
theorem dX9_together_47 : decode cX9_together 47 = .ok (.iaload, 1) := by decide +kernel
theorem dX9_together_48 : decode cX9_together 48 = .ok (.aload_n 0, 1) := by decide +kernel
theorem dX9_together_49 : decode cX9_together 49 = .ok (.getfield 54, 3) := by decide +kernel
theorem dX9_together_52 : decode cX9_together 52 = .ok (.iload_n 1, 1) := by decide +kernel
theorem dX9_together_53 : decode cX9_together 53 = .ok (.iaload, 1) := by decide +kernel
theorem dX9_together_54 : decode cX9_together 54 = .ok (.if_icmp .ne 24, 3) := by decide +kernel
theorem dX9_together_57 : decode cX9_together 57 = .ok (.aload_n 0, 1) := by decide +kernel
theorem dX9_together_58 : decode cX9_together 58 = .ok (.getfield 102, 3) := by decide +kernel
theorem dX9_together_61 : decode cX9_together 61 = .ok (.iload 4, 2) := by decide +kernel
theorem dX9_together_63 : decode cX9_together 63 = .ok (.iaload, 1) := by decide +kernel
theorem dX9_together_64 : decode cX9_together 64 = .ok (.ifCond .le 14, 3) := by decide +kernel
theorem dX9_together_67 : decode cX9_together 67 = .ok (.lload_n 2, 1) := by decide +kernel
theorem dX9_together_68 : decode cX9_together 68 = .ok (.aload_n 0, 1) := by decide +kernel
theorem dX9_together_69 : decode cX9_together 69 = .ok (.iload 4, 2) := by decide +kernel
theorem dX9_together_71 : decode cX9_together 71 = .ok (.invokevirtual 248, 3) := by decide +kernel
theorem dX9_together_74 : decode cX9_together 74 = .ok (.land, 1) := by decide +kernel
theorem dX9_together_75 : decode cX9_together 75 = .ok (.goto 4, 3) := by decide +kernel
theorem dX9_together_78 : decode cX9_together 78 = .ok (.lload_n 2, 1) := by decide +kernel
theorem dX9_together_79 : decode cX9_together 79 = .ok (.lstore_n 2, 1) := by decide +kernel
theorem dX9_together_80 : decode cX9_together 80 = .ok (.iinc 4 1, 3) := by decide +kernel
theorem dX9_together_83 : decode cX9_together 83 = .ok (.goto (-51), 3) := by decide +kernel
theorem dX9_together_86 : decode cX9_together 86 = .ok (.iconst 0, 1) := by decide +kernel
theorem dX9_together_87 : decode cX9_together 87 = .ok (.istore 4, 2) := by decide +kernel
theorem dX9_together_89 : decode cX9_together 89 = .ok (.iconst 0, 1) := by decide +kernel
theorem dX9_together_90 : decode cX9_together 90 = .ok (.istore 5, 2) := by decide +kernel
theorem dX9_together_92 : decode cX9_together 92 = .ok (.iload 5, 2) := by decide +kernel
theorem dX9_together_94 : decode cX9_together 94 = .ok (.bipush 64, 2) := by decide +kernel
theorem dX9_together_96 : decode cX9_together 96 = .ok (.if_icmp .ge 30, 3) := by decide +kernel
theorem dX9_together_99 : decode cX9_together 99 = .ok (.iload 4, 2) := by decide +kernel
theorem dX9_together_101 : decode cX9_together 101 = .ok (.lload_n 2, 1) := by decide +kernel
theorem dX9_together_102 : decode cX9_together 102 = .ok (.iload 5, 2) := by decide +kernel
theorem dX9_together_104 : decode cX9_together 104 = .ok (.lshr, 1) := by decide +kernel
theorem dX9_together_105 : decode cX9_together 105 = .ok (.lconst 1, 1) := by decide +kernel
theorem dX9_together_106 : decode cX9_together 106 = .ok (.land, 1) := by decide +kernel
theorem dX9_together_107 : decode cX9_together 107 = .ok (.lconst 1, 1) := by decide +kernel
theorem dX9_together_108 : decode cX9_together 108 = .ok (.lcmp, 1) := by decide +kernel
theorem dX9_together_109 : decode cX9_together 109 = .ok (.ifCond .ne 7, 3) := by decide +kernel
theorem dX9_together_112 : decode cX9_together 112 = .ok (.iconst 1, 1) := by decide +kernel
theorem dX9_together_113 : decode cX9_together 113 = .ok (.goto 4, 3) := by decide +kernel
theorem dX9_together_116 : decode cX9_together 116 = .ok (.iconst 0, 1) := by decide +kernel
theorem dX9_together_117 : decode cX9_together 117 = .ok (.iadd, 1) := by decide +kernel
theorem dX9_together_118 : decode cX9_together 118 = .ok (.istore 4, 2) := by decide +kernel
theorem dX9_together_120 : decode cX9_together 120 = .ok (.iinc 5 1, 3) := by decide +kernel
theorem dX9_together_123 : decode cX9_together 123 = .ok (.goto (-31), 3) := by decide +kernel
theorem dX9_together_126 : decode cX9_together 126 = .ok (.iload 4, 2) := by decide +kernel
theorem dX9_together_128 : decode cX9_together 128 = .ok (.ireturn, 1) := by decide +kernel
set_option maxRecDepth 100000 in
set_option maxHeartbeats 40000000 in
theorem gp_m_together {G : vG} {l : Launch} (σ : Sg) (a : Int32) (hI : Inv σ) : Sp G l yX9_together cX9_together 6 (some .int) 4 0 0 [.ref 140, .int a] (WW σ) (QI (fun _ w2 => ∃ σ2, w2 = WW σ2 ∧ Inv σ2 ∧ Cor σ σ2)) := by
  refine Sp_of_R [(some (.ref 140)), (some (.int a)), none, none, none, none] [none, none, none, none] rfl (by simp) rfl (Nat.le_of_ble_eq_true rfl) ?_
  refine R_aload_n (pc := 0) dX9_together_0 rfl rfl ?_
  refine R_iload_n (pc := 1) dX9_together_1 rfl rfl ?_
  refine k_X9_135 (pc := 2) (gx_X9_isThere _ _ hI) rfl (c_140 _) (by decide) (Nat.le_refl _) (Nat.le_refl _) (Nat.le_of_ble_eq_true rfl) dX9_together_2 (fun x w2 h => ?_)
  rcases h with ⟨rfl, ⟨h1, rfl⟩ | rfl⟩
  · skip
    refine R_ifne (pc := 5) 11 dX9_together_5 (by decide) (fun _ => ?_) (fun h => absurd h (by decide))
    refine R_aload_n (pc := 11) dX9_together_11 rfl rfl ?_
    refine k_X9_162 (pc := 12) (gx_X9_findUnlike _ hI) rfl (c_140 _) (by decide) (Nat.le_refl _) (Nat.le_refl _) (Nat.le_of_ble_eq_true rfl) dX9_together_12 (fun w2 h => ?_)
    obtain ⟨σx5, rfl, hV4, hW6⟩ := h
    have hW7 := Cor.trans (show Cor σ σ from Cor.rfl' σ) hW6
    refine R_aload_n (pc := 15) dX9_together_15 rfl rfl ?_
    refine R_aload_n (pc := 16) dX9_together_16 rfl rfl ?_
    refine g_X9_54 (pc := 17) (v := .ref 152) rfl dX9_together_17 (c_140 _) rfl ?_
    refine R_iconst (pc := 20) (v := 0) dX9_together_20 (by decide) ?_
    refine R_iconst (pc := 21) (v := (-1)) dX9_together_21 (by decide) ?_
    refine k_X9_165 (pc := 22) (gx_X9_findChains_152 _ _ _ hV4) rfl (c_140 _) (by decide) (Nat.le_refl _) (Nat.le_refl _) (Nat.le_of_ble_eq_true rfl) dX9_together_22 (fun w2 h => ?_)
    obtain ⟨σx10, rfl, hV9, hW11⟩ := h
    have hW12 := Cor.trans hW7 hW11
    refine R_ldc2 (pc := 25) w_1212c dX9_together_25 ?_
    refine st_6_2_l_i (pc := 28) dX9_together_28 ?_
    refine R_iconst (pc := 29) (v := 0) dX9_together_29 (by decide) ?_
    refine st_6_4_i_n (pc := 30) dX9_together_30 ?_
    have HL32 : ∀ (q j32 : Nat) (g2_32 : Int64), j32 + q = 20 → 0 ≤ j32 → R G l yX9_together cX9_together 6 (some .int) 4 0 0 (QI (fun _ w2 => ∃ σ2, w2 = WW σ2 ∧ Inv σ2 ∧ Cor σ σ2)) 32 [(some (.ref 140)), (some (.int a)), (some (.long g2_32)), none, (some (.int (nI j32))), none] [] (WW σx10) 0 0 := by
      intro q
      induction q with
      | zero =>
        intro j32 g2_32 hj hs32
        obtain rfl : j32 = 20 := by omega
        refine R_iload (pc := 32) dX9_together_32 rfl ?_
        refine R_aload_n (pc := 34) dX9_together_34 rfl rfl ?_
        refine k_X9_120 (pc := 35) (gx_X9_thereMany _ hV9) rfl (c_140 _) (by decide) (Nat.le_refl _) (Nat.le_refl _) (Nat.le_of_ble_eq_true rfl) dX9_together_35 (fun y13 w2 h => ?_)
        obtain ⟨rfl, hr14⟩ := h
        refine R_icge (pc := 38) 86 dX9_together_38 (by decide) (fun _ => ?_) (fun h => absurd (Int32.not_lt.mp (inR_up hr14 (Int32.le_refl _) (by decide)).2) h)
        refine R_iconst (pc := 86) (v := 0) dX9_together_86 (by decide) ?_
        refine st_6_4_i_n (pc := 87) dX9_together_87 ?_
        refine R_iconst (pc := 89) (v := 0) dX9_together_89 (by decide) ?_
        refine st_6_5_i_i (pc := 90) dX9_together_90 ?_
        have HL92 : ∀ (q j92 : Nat) (g4_92 : Int32), j92 + q = 64 → 0 ≤ j92 → R G l yX9_together cX9_together 6 (some .int) 4 0 0 (QI (fun _ w2 => ∃ σ2, w2 = WW σ2 ∧ Inv σ2 ∧ Cor σ σ2)) 92 [(some (.ref 140)), (some (.int a)), (some (.long g2_32)), none, (some (.int g4_92)), (some (.int (nI j92)))] [] (WW σx10) 0 0 := by
          intro q
          induction q with
          | zero =>
            intro j92 g4_92 hj hs92
            obtain rfl : j92 = 64 := by omega
            refine R_iload (pc := 92) dX9_together_92 rfl ?_
            refine R_bipush (pc := 94) (v := 64) dX9_together_94 (by decide) ?_
            refine R_icge (pc := 96) 126 dX9_together_96 (by decide) (fun _ => ?_) (fun h => absurd (by decide) h)
            refine R_iload (pc := 126) dX9_together_126 rfl ?_
            exact R_iret (pc := 128) dX9_together_128 rfl rfl (Nat.zero_le _) (Nat.zero_le _) ⟨_, rfl, _, rfl, hV9, hW12⟩
          | succ q ih92 =>
            intro j92 g4_92 hj hs92
            have hrg92 : inR (nI j92) 0 63 := inR_ix hs92 (show j92 < 64 by omega) (by decide) (by decide) (by decide)
            have hlt92 : j92 < 64 := by omega
            refine R_iload (pc := 92) dX9_together_92 rfl ?_
            refine R_bipush (pc := 94) (v := 64) dX9_together_94 (by decide) ?_
            refine R_icge (pc := 96) 126 dX9_together_96 (by decide) (fun h => False.elim (by have q1 := ti_le h; have q2 := ti_in (show inR (nI j92) 0 63 from hrg92); have q3 := ti_in (show inR 64 64 64 from (inR_self _)); have z0 : (0 : Int32).toInt = 0 := (by decide);  have z1 : (63 : Int32).toInt = 63 := (by decide);  have z2 : (64 : Int32).toInt = 64 := (by decide); omega)) (fun _ => ?_)
            refine R_iload (pc := 99) dX9_together_99 rfl ?_
            refine R_lload_n (pc := 101) dX9_together_101 rfl rfl ?_
            refine R_iload (pc := 102) dX9_together_102 rfl ?_
            refine R_lshr (pc := 104) dX9_together_104 ?_
            refine R_lconst (pc := 105) (v := 1) dX9_together_105 (by decide) ?_
            refine R_land (pc := 106) dX9_together_106 ?_
            refine R_lconst (pc := 107) (v := 1) dX9_together_107 (by decide) ?_
            refine R_lcmp (pc := 108) dX9_together_108 ?_
            refine R_ifne (pc := 109) 116 dX9_together_109 (by decide) (fun b109_18 => ?_) (fun b109_18 => ?_)
            · skip
              refine R_iconst (pc := 116) (v := 0) dX9_together_116 (by decide) ?_
              refine R_iadd (pc := 117) dX9_together_117 ?_
              refine st_6_4_i_n (pc := 118) dX9_together_118 ?_
              refine inc_6_5_1_i (pc := 120) dX9_together_120 ?_
              have r19 : inR ((nI j92) + 1) 1 64 := inR_add (show inR (nI j92) 0 63 from hrg92) (show inR 1 1 1 from (inR_self _)) (by decide) (by decide)
              have e20 := ti_add (l := 1) (h := 64) (show inR (nI j92) 0 63 from hrg92) (show inR 1 1 1 from (inR_self _)) (by decide) (by decide)
              refine R_goto (pc := 123) 92 dX9_together_123 (by decide) ?_
              rw [nI_1]
              exact ih92 (j92 + 1) _ (by omega) (by omega)
            · skip
              refine R_iconst (pc := 112) (v := 1) dX9_together_112 (by decide) ?_
              refine R_goto (pc := 113) 117 dX9_together_113 (by decide) ?_
              refine R_iadd (pc := 117) dX9_together_117 ?_
              refine st_6_4_i_n (pc := 118) dX9_together_118 ?_
              refine inc_6_5_1_i (pc := 120) dX9_together_120 ?_
              have r21 : inR ((nI j92) + 1) 1 64 := inR_add (show inR (nI j92) 0 63 from hrg92) (show inR 1 1 1 from (inR_self _)) (by decide) (by decide)
              have e22 := ti_add (l := 1) (h := 64) (show inR (nI j92) 0 63 from hrg92) (show inR 1 1 1 from (inR_self _)) (by decide) (by decide)
              refine R_goto (pc := 123) 92 dX9_together_123 (by decide) ?_
              rw [nI_1]
              exact ih92 (j92 + 1) _ (by omega) (by omega)
        exact HL92 64 0 _ (by omega) (by omega)
      | succ q ih32 =>
        intro j32 g2_32 hj hs32
        have hrg32 : inR (nI j32) 0 19 := inR_ix hs32 (show j32 < 20 by omega) (by decide) (by decide) (by decide)
        have hlt32 : j32 < 20 := by omega
        refine R_iload (pc := 32) dX9_together_32 rfl ?_
        refine R_aload_n (pc := 34) dX9_together_34 rfl rfl ?_
        refine k_X9_120 (pc := 35) (gx_X9_thereMany _ hV9) rfl (c_140 _) (by decide) (Nat.le_refl _) (Nat.le_refl _) (Nat.le_of_ble_eq_true rfl) dX9_together_35 (fun y23 w2 h => ?_)
        obtain ⟨rfl, hr24⟩ := h
        refine R_icge (pc := 38) 86 dX9_together_38 (by decide) (fun b38_25 => ?_) (fun b38_25 => ?_)
        · skip
          refine R_iconst (pc := 86) (v := 0) dX9_together_86 (by decide) ?_
          refine st_6_4_i_n (pc := 87) dX9_together_87 ?_
          refine R_iconst (pc := 89) (v := 0) dX9_together_89 (by decide) ?_
          refine st_6_5_i_i (pc := 90) dX9_together_90 ?_
          have HL92 : ∀ (q j92 : Nat) (g4_92 : Int32), j92 + q = 64 → 0 ≤ j92 → R G l yX9_together cX9_together 6 (some .int) 4 0 0 (QI (fun _ w2 => ∃ σ2, w2 = WW σ2 ∧ Inv σ2 ∧ Cor σ σ2)) 92 [(some (.ref 140)), (some (.int a)), (some (.long g2_32)), none, (some (.int g4_92)), (some (.int (nI j92)))] [] (WW σx10) 0 0 := by
            intro q
            induction q with
            | zero =>
              intro j92 g4_92 hj hs92
              obtain rfl : j92 = 64 := by omega
              refine R_iload (pc := 92) dX9_together_92 rfl ?_
              refine R_bipush (pc := 94) (v := 64) dX9_together_94 (by decide) ?_
              refine R_icge (pc := 96) 126 dX9_together_96 (by decide) (fun _ => ?_) (fun h => absurd (by decide) h)
              refine R_iload (pc := 126) dX9_together_126 rfl ?_
              exact R_iret (pc := 128) dX9_together_128 rfl rfl (Nat.zero_le _) (Nat.zero_le _) ⟨_, rfl, _, rfl, hV9, hW12⟩
            | succ q ih92 =>
              intro j92 g4_92 hj hs92
              have hrg92 : inR (nI j92) 0 63 := inR_ix hs92 (show j92 < 64 by omega) (by decide) (by decide) (by decide)
              have hlt92 : j92 < 64 := by omega
              refine R_iload (pc := 92) dX9_together_92 rfl ?_
              refine R_bipush (pc := 94) (v := 64) dX9_together_94 (by decide) ?_
              refine R_icge (pc := 96) 126 dX9_together_96 (by decide) (fun h => False.elim (by have q1 := ti_le h; have q2 := ti_in (show inR (nI j92) 0 63 from hrg92); have q3 := ti_in (show inR 64 64 64 from (inR_self _)); have z0 : (0 : Int32).toInt = 0 := (by decide);  have z1 : (63 : Int32).toInt = 63 := (by decide);  have z2 : (64 : Int32).toInt = 64 := (by decide); omega)) (fun _ => ?_)
              refine R_iload (pc := 99) dX9_together_99 rfl ?_
              refine R_lload_n (pc := 101) dX9_together_101 rfl rfl ?_
              refine R_iload (pc := 102) dX9_together_102 rfl ?_
              refine R_lshr (pc := 104) dX9_together_104 ?_
              refine R_lconst (pc := 105) (v := 1) dX9_together_105 (by decide) ?_
              refine R_land (pc := 106) dX9_together_106 ?_
              refine R_lconst (pc := 107) (v := 1) dX9_together_107 (by decide) ?_
              refine R_lcmp (pc := 108) dX9_together_108 ?_
              refine R_ifne (pc := 109) 116 dX9_together_109 (by decide) (fun b109_28 => ?_) (fun b109_28 => ?_)
              · skip
                refine R_iconst (pc := 116) (v := 0) dX9_together_116 (by decide) ?_
                refine R_iadd (pc := 117) dX9_together_117 ?_
                refine st_6_4_i_n (pc := 118) dX9_together_118 ?_
                refine inc_6_5_1_i (pc := 120) dX9_together_120 ?_
                have r29 : inR ((nI j92) + 1) 1 64 := inR_add (show inR (nI j92) 0 63 from hrg92) (show inR 1 1 1 from (inR_self _)) (by decide) (by decide)
                have e30 := ti_add (l := 1) (h := 64) (show inR (nI j92) 0 63 from hrg92) (show inR 1 1 1 from (inR_self _)) (by decide) (by decide)
                refine R_goto (pc := 123) 92 dX9_together_123 (by decide) ?_
                rw [nI_1]
                exact ih92 (j92 + 1) _ (by omega) (by omega)
              · skip
                refine R_iconst (pc := 112) (v := 1) dX9_together_112 (by decide) ?_
                refine R_goto (pc := 113) 117 dX9_together_113 (by decide) ?_
                refine R_iadd (pc := 117) dX9_together_117 ?_
                refine st_6_4_i_n (pc := 118) dX9_together_118 ?_
                refine inc_6_5_1_i (pc := 120) dX9_together_120 ?_
                have r31 : inR ((nI j92) + 1) 1 64 := inR_add (show inR (nI j92) 0 63 from hrg92) (show inR 1 1 1 from (inR_self _)) (by decide) (by decide)
                have e32 := ti_add (l := 1) (h := 64) (show inR (nI j92) 0 63 from hrg92) (show inR 1 1 1 from (inR_self _)) (by decide) (by decide)
                refine R_goto (pc := 123) 92 dX9_together_123 (by decide) ?_
                rw [nI_1]
                exact ih92 (j92 + 1) _ (by omega) (by omega)
          exact HL92 64 0 _ (by omega) (by omega)
        · skip
          refine R_aload_n (pc := 41) dX9_together_41 rfl rfl ?_
          refine g_X9_54 (pc := 42) (v := .ref 152) rfl dX9_together_42 (c_140 _) rfl ?_
          refine R_iload (pc := 45) dX9_together_45 rfl ?_
          have hx33 : vp_in (nI j32) 20 := (vp_in_nI (by omega) (by decide))
          refine R_iaload (pc := 47) dX9_together_47 (c_152 _) hx33 ?_
          refine R_aload_n (pc := 48) dX9_together_48 rfl rfl ?_
          refine g_X9_54 (pc := 49) (v := .ref 152) rfl dX9_together_49 (c_140 _) rfl ?_
          refine R_iload_n (pc := 52) dX9_together_52 rfl rfl ?_
          have hx34 : vp_in a 20 := (vp_of_inR h1 (by decide))
          refine R_iaload (pc := 53) dX9_together_53 (c_152 _) hx34 ?_
          refine R_icne (pc := 54) 78 dX9_together_54 (by decide) (fun b54_35 => ?_) (fun b54_35 => ?_)
          · skip
            refine R_lload_n (pc := 78) dX9_together_78 rfl rfl ?_
            refine st_6_2_l_i (pc := 79) dX9_together_79 ?_
            refine inc_6_4_1_n (pc := 80) dX9_together_80 ?_
            have r36 : inR ((nI j32) + 1) 1 20 := inR_add (show inR (nI j32) 0 19 from hrg32) (show inR 1 1 1 from (inR_self _)) (by decide) (by decide)
            have e37 := ti_add (l := 1) (h := 20) (show inR (nI j32) 0 19 from hrg32) (show inR 1 1 1 from (inR_self _)) (by decide) (by decide)
            refine R_goto (pc := 83) 32 dX9_together_83 (by decide) ?_
            rw [nI_1]
            exact ih32 (j32 + 1) _ (by omega) (by omega)
          · skip
            refine R_aload_n (pc := 57) dX9_together_57 rfl rfl ?_
            refine g_X9_102 (pc := 58) (v := .ref 168) rfl dX9_together_58 (c_140 _) rfl ?_
            refine R_iload (pc := 61) dX9_together_61 rfl ?_
            have hx38 : vp_in (nI j32) 20 := (vp_in_nI (by omega) (by decide))
            refine R_iaload (pc := 63) dX9_together_63 (c_168 _) hx38 ?_
            refine R_ifle (pc := 64) 78 dX9_together_64 (by decide) (fun b64_39 => ?_) (fun b64_39 => ?_)
            · skip
              refine R_lload_n (pc := 78) dX9_together_78 rfl rfl ?_
              refine st_6_2_l_i (pc := 79) dX9_together_79 ?_
              refine inc_6_4_1_n (pc := 80) dX9_together_80 ?_
              have r40 : inR ((nI j32) + 1) 1 20 := inR_add (show inR (nI j32) 0 19 from hrg32) (show inR 1 1 1 from (inR_self _)) (by decide) (by decide)
              have e41 := ti_add (l := 1) (h := 20) (show inR (nI j32) 0 19 from hrg32) (show inR 1 1 1 from (inR_self _)) (by decide) (by decide)
              refine R_goto (pc := 83) 32 dX9_together_83 (by decide) ?_
              rw [nI_1]
              exact ih32 (j32 + 1) _ (by omega) (by omega)
            · skip
              refine R_lload_n (pc := 67) dX9_together_67 rfl rfl ?_
              refine R_aload_n (pc := 68) dX9_together_68 rfl rfl ?_
              refine R_iload (pc := 69) dX9_together_69 rfl ?_
              refine k_X9_248 (pc := 71) (gx_X9_stoodOf _ _ hV9 hrg32) rfl (c_140 _) (by decide) (Nat.le_refl _) (Nat.le_refl _) (Nat.le_of_ble_eq_true rfl) dX9_together_71 (fun y42 w2 h => ?_)
              subst h
              refine R_land (pc := 74) dX9_together_74 ?_
              refine R_goto (pc := 75) 79 dX9_together_75 (by decide) ?_
              refine st_6_2_l_i (pc := 79) dX9_together_79 ?_
              refine inc_6_4_1_n (pc := 80) dX9_together_80 ?_
              have r43 : inR ((nI j32) + 1) 1 20 := inR_add (show inR (nI j32) 0 19 from hrg32) (show inR 1 1 1 from (inR_self _)) (by decide) (by decide)
              have e44 := ti_add (l := 1) (h := 20) (show inR (nI j32) 0 19 from hrg32) (show inR 1 1 1 from (inR_self _)) (by decide) (by decide)
              refine R_goto (pc := 83) 32 dX9_together_83 (by decide) ?_
              rw [nI_1]
              exact ih32 (j32 + 1) _ (by omega) (by omega)
    exact HL32 20 0 _ (by omega) (by omega)
  · skip
    refine R_ifne (pc := 5) 11 dX9_together_5 (by decide) (fun h => absurd (by decide) h) (fun _ => ?_)
    refine R_bipush (pc := 8) (v := (-2)) dX9_together_8 (by decide) ?_
    exact R_iret (pc := 10) dX9_together_10 rfl rfl (Nat.zero_le _) (Nat.zero_le _) ⟨_, rfl, _, rfl, hI, (show Cor σ σ from Cor.rfl' σ)⟩
