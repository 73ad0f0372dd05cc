/-! methods on any state that keeps the invariant -/
theorem dX9_areSpans_0 : decode cX9_areSpans 0 = .ok (.aload_n 0, 1) := by decide +kernel
theorem dX9_areSpans_1 : decode cX9_areSpans 1 = .ok (.invokevirtual 162, 3) := by decide +kernel
theorem dX9_areSpans_4 : decode cX9_areSpans 4 = .ok (.aload_n 0, 1) := by decide +kernel
theorem dX9_areSpans_5 : decode cX9_areSpans 5 = .ok (.aload_n 0, 1) := by decide +kernel
theorem dX9_areSpans_6 : decode cX9_areSpans 6 = .ok (.getfield 54, 3) := by decide +kernel
theorem dX9_areSpans_9 : decode cX9_areSpans 9 = .ok (.iconst 0, 1) := by decide +kernel
theorem dX9_areSpans_10 : decode cX9_areSpans 10 = .ok (.iload_n 1, 1) := by decide +kernel
theorem dX9_areSpans_11 : decode cX9_areSpans 11 = .ok (.invokevirtual 165, 3) := by decide +kernel
theorem dX9_areSpans_14 : decode cX9_areSpans 14 = .ok (.iconst 0, 1) := by decide +kernel
theorem dX9_areSpans_15 : decode cX9_areSpans 15 = .ok (.istore_n 3, 1) := by decide +kernel
theorem dX9_areSpans_16 : decode cX9_areSpans 16 = .ok (.iload_n 3, 1) := by decide +kernel
theorem dX9_areSpans_17 : decode cX9_areSpans 17 = .ok (.bipush 20, 2) := by decide +kernel
theorem dX9_areSpans_19 : decode cX9_areSpans 19 = .ok (.if_icmp .ge 41, 3) := by decide +kernel
theorem dX9_areSpans_22 : decode cX9_areSpans 22 = .ok (.aload_n 0, 1) := by decide +kernel
theorem dX9_areSpans_23 : decode cX9_areSpans 23 = .ok (.getfield 87, 3) := by decide +kernel
theorem dX9_areSpans_26 : decode cX9_areSpans 26 = .ok (.iload_n 3, 1) := by decide +kernel
theorem dX9_areSpans_27 : decode cX9_areSpans 27 = .ok (.iconst 0, 1) := by decide +kernel
theorem dX9_areSpans_28 : decode cX9_areSpans 28 = .ok (.iastore, 1) := by decide +kernel
theorem dX9_areSpans_29 : decode cX9_areSpans 29 = .ok (.aload_n 0, 1) := by decide +kernel
theorem dX9_areSpans_30 : decode cX9_areSpans 30 = .ok (.getfield 90, 3) := by decide +kernel
theorem dX9_areSpans_33 : decode cX9_areSpans 33 = .ok (.iload_n 3, 1) := by decide +kernel
theorem dX9_areSpans_34 : decode cX9_areSpans 34 = .ok (.sipush 20000, 3) := by decide +kernel
theorem dX9_areSpans_37 : decode cX9_areSpans 37 = .ok (.iastore, 1) := by decide +kernel
theorem dX9_areSpans_38 : decode cX9_areSpans 38 = .ok (.aload_n 0, 1) := by decide +kernel
theorem dX9_areSpans_39 : decode cX9_areSpans 39 = .ok (.getfield 93, 3) := by decide +kernel
theorem dX9_areSpans_42 : decode cX9_areSpans 42 = .ok (.iload_n 3, 1) := by decide +kernel
theorem dX9_areSpans_43 : decode cX9_areSpans 43 = .ok (.iconst 0, 1) := by decide +kernel
theorem dX9_areSpans_44 : decode cX9_areSpans 44 = .ok (.iastore, 1) := by decide +kernel
theorem dX9_areSpans_45 : decode cX9_areSpans 45 = .ok (.aload_n 0, 1) := by decide +kernel
theorem dX9_areSpans_46 : decode cX9_areSpans 46 = .ok (.getfield 96, 3) := by decide +kernel
theorem dX9_areSpans_49 : decode cX9_areSpans 49 = .ok (.iload_n 3, 1) := by decide +kernel
theorem dX9_areSpans_50 : decode cX9_areSpans 50 = .ok (.sipush 20000, 3) := by decide +kernel
theorem dX9_areSpans_53 : decode cX9_areSpans 53 = .ok (.iastore, 1) := by decide +kernel
theorem dX9_areSpans_54 : decode cX9_areSpans 54 = .ok (.iinc 3 1, 3) := by decide +kernel
theorem dX9_areSpans_57 : decode cX9_areSpans 57 = .ok (.goto (-41), 3) := by decide +kernel
theorem dX9_areSpans_60 : decode cX9_areSpans 60 = .ok (.aload_n 0, 1) := by decide +kernel
theorem dX9_areSpans_61 : decode cX9_areSpans 61 = .ok (.iconst 1, 1) := by decide +kernel
theorem dX9_areSpans_62 : decode cX9_areSpans 62 = .ok (.putfield 204, 3) := by decide +kernel
theorem dX9_areSpans_65 : decode cX9_areSpans 65 = .ok (.aload_n 0, 1) := by decide +kernel
theorem dX9_areSpans_66 : decode cX9_areSpans 66 = .ok (.getfield 204, 3) := by decide +kernel
theorem dX9_areSpans_69 : decode cX9_areSpans 69 = .ok (.ifCond .eq 142, 3) := by decide +kernel
theorem dX9_areSpans_72 : decode cX9_areSpans 72 = .ok (.aload_n 0, 1) := by decide +kernel
theorem dX9_areSpans_73 : decode cX9_areSpans 73 = .ok (.iload_n 1, 1) := by decide +kernel
theorem dX9_areSpans_74 : decode cX9_areSpans 74 = .ok (.invokevirtual 221, 3) := by decide +kernel
theorem dX9_areSpans_77 : decode cX9_areSpans 77 = .ok (.ifCond .ne 134, 3) := by decide +kernel
theorem dX9_areSpans_80 : decode cX9_areSpans 80 = .ok (.aload_n 0, 1) := by decide +kernel
theorem dX9_areSpans_81 : decode cX9_areSpans 81 = .ok (.iconst 0, 1) := by decide +kernel
theorem dX9_areSpans_82 : decode cX9_areSpans 82 = .ok (.putfield 204, 3) := by decide +kernel
theorem dX9_areSpans_85 : decode cX9_areSpans 85 = .ok (.iconst 0, 1) := by decide +kernel
theorem dX9_areSpans_86 : decode cX9_areSpans 86 = .ok (.istore_n 3, 1) := by decide +kernel
theorem dX9_areSpans_87 : decode cX9_areSpans 87 = .ok (.iload_n 3, 1) := by decide +kernel
theorem dX9_areSpans_88 : decode cX9_areSpans 88 = .ok (.aload_n 0, 1) := by decide +kernel
theorem dX9_areSpans_89 : decode cX9_areSpans 89 = .ok (.invokevirtual 120, 3) := by decide +kernel
theorem dX9_areSpans_92 : decode cX9_areSpans 92 = .ok (.if_icmp .ge 20, 3) := by decide +kernel
theorem dX9_areSpans_95 : decode cX9_areSpans 95 = .ok (.iload_n 3, 1) := by decide +kernel
theorem dX9_areSpans_96 : decode cX9_areSpans 96 = .ok (.iload_n 1, 1) := by decide +kernel
theorem dX9_areSpans_97 : decode cX9_areSpans 97 = .ok (.if_icmp .eq 9, 3) := by decide +kernel
theorem dX9_areSpans_100 : decode cX9_areSpans 100 = .ok (.aload_n 0, 1) := by decide +kernel
theorem dX9_areSpans_101 : decode cX9_areSpans 101 = .ok (.iload_n 3, 1) := by decide +kernel
theorem dX9_areSpans_102 : decode cX9_areSpans 102 = .ok (.iload_n 2, 1) := by decide +kernel
theorem dX9_areSpans_103 : decode cX9_areSpans 103 = .ok (.invokevirtual 224, 3) := by decide +kernel
theorem dX9_areSpans_106 : decode cX9_areSpans 106 = .ok (.iinc 3 1, 3) := by decide +kernel
theorem dX9_areSpans_109 : decode cX9_areSpans 109 = .ok (.goto (-22), 3) := by decide +kernel
theorem dX9_areSpans_112 : decode cX9_areSpans 112 = .ok (.iconst 0, 1) := by decide +kernel
theorem dX9_areSpans_113 : decode cX9_areSpans 113 = .ok (.istore_n 3, 1) := by decide +kernel
theorem dX9_areSpans_114 : decode cX9_areSpans 114 = .ok (.iload_n 3, 1) := by decide +kernel
theorem dX9_areSpans_115 : decode cX9_areSpans 115 = .ok (.aload_n 0, 1) := by decide +kernel
theorem dX9_areSpans_116 : decode cX9_areSpans 116 = .ok (.getfield 201, 3) := by decide +kernel
theorem dX9_areSpans_119 : decode cX9_areSpans 119 = .ok (.if_icmp .ge 89, 3) := by decide +kernel
theorem dX9_areSpans_122 : decode cX9_areSpans 122 = .ok (.aload_n 0, 1) := by decide +kernel
theorem dX9_areSpans_123 : decode cX9_areSpans 123 = .ok (.getfield 81, 3) := by decide +kernel
theorem dX9_areSpans_126 : decode cX9_areSpans 126 = .ok (.iload_n 3, 1) := by decide +kernel
theorem dX9_areSpans_127 : decode cX9_areSpans 127 = .ok (.iaload, 1) := by decide +kernel
theorem dX9_areSpans_128 : decode cX9_areSpans 128 = .ok (.istore 4, 2) := by decide +kernel
theorem dX9_areSpans_130 : decode cX9_areSpans 130 = .ok (.aload_n 0, 1) := by decide +kernel
theorem dX9_areSpans_131 : decode cX9_areSpans 131 = .ok (.getfield 84, 3) := by decide +kernel
theorem dX9_areSpans_134 : decode cX9_areSpans 134 = .ok (.iload_n 3, 1) := by decide +kernel
theorem dX9_areSpans_135 : decode cX9_areSpans 135 = .ok (.iaload, 1) := by decide +kernel
theorem dX9_areSpans_136 : decode cX9_areSpans 136 = .ok (.istore 5, 2) := by decide +kernel
theorem dX9_areSpans_138 : decode cX9_areSpans 138 = .ok (.aload_n 0, 1) := by decide +kernel
theorem dX9_areSpans_139 : decode cX9_areSpans 139 = .ok (.iload 4, 2) := by decide +kernel
theorem dX9_areSpans_141 : decode cX9_areSpans 141 = .ok (.invokevirtual 135, 3) := by decide +kernel
theorem dX9_areSpans_144 : decode cX9_areSpans 144 = .ok (.ifCond .eq 58, 3) := by decide +kernel
theorem dX9_areSpans_147 : decode cX9_areSpans 147 = .ok (.aload_n 0, 1) := by decide +kernel
theorem dX9_areSpans_148 : decode cX9_areSpans 148 = .ok (.iload 5, 2) := by decide +kernel
theorem dX9_areSpans_150 : decode cX9_areSpans 150 = .ok (.invokevirtual 135, 3) := by decide +kernel
theorem dX9_areSpans_153 : decode cX9_areSpans 153 = .ok (.ifCond .eq 49, 3) := by decide +kernel
theorem dX9_areSpans_156 : decode cX9_areSpans 156 = .ok (.iload 4, 2) := by decide +kernel
theorem dX9_areSpans_158 : decode cX9_areSpans 158 = .ok (.iload_n 1, 1) := by decide +kernel
theorem dX9_areSpans_159 : decode cX9_areSpans 159 = .ok (.if_icmp .eq 43, 3) := by decide +kernel
theorem dX9_areSpans_162 : decode cX9_areSpans 162 = .ok (.iload 5, 2) := by decide +kernel
theorem dX9_areSpans_164 : decode cX9_areSpans 164 = .ok (.iload_n 1, 1) := by decide +kernel
theorem dX9_areSpans_165 : decode cX9_areSpans 165 = .ok (.if_icmp .eq 37, 3) := by decide +kernel
theorem dX9_areSpans_168 : decode cX9_areSpans 168 = .ok (.aload_n 0, 1) := by decide +kernel
theorem dX9_areSpans_169 : decode cX9_areSpans 169 = .ok (.iload 4, 2) := by decide +kernel
theorem dX9_areSpans_171 : decode cX9_areSpans 171 = .ok (.aload_n 0, 1) := by decide +kernel
theorem dX9_areSpans_172 : decode cX9_areSpans 172 = .ok (.getfield 93, 3) := by decide +kernel
theorem dX9_areSpans_175 : decode cX9_areSpans 175 = .ok (.iload 5, 2) := by decide +kernel
theorem dX9_areSpans_177 : decode cX9_areSpans 177 = .ok (.iaload, 1) := by decide +kernel
theorem dX9_areSpans_178 : decode cX9_areSpans 178 = .ok (.iconst 1, 1) := by decide +kernel
theorem dX9_areSpans_179 : decode cX9_areSpans 179 = .ok (.iadd, 1) := by decide +kernel
theorem dX9_areSpans_180 : decode cX9_areSpans 180 = .ok (.sipush 20000, 3) := by decide +kernel
theorem dX9_areSpans_183 : decode cX9_areSpans 183 = .ok (.invokevirtual 212, 3) := by decide +kernel
theorem dX9_areSpans_186 : decode cX9_areSpans 186 = .ok (.aload_n 0, 1) := by decide +kernel
theorem dX9_areSpans_187 : decode cX9_areSpans 187 = .ok (.iload 5, 2) := by decide +kernel
theorem dX9_areSpans_189 : decode cX9_areSpans 189 = .ok (.iconst 0, 1) := by decide +kernel
theorem dX9_areSpans_190 : decode cX9_areSpans 190 = .ok (.aload_n 0, 1) := by decide +kernel
theorem dX9_areSpans_191 : decode cX9_areSpans 191 = .ok (.getfield 96, 3) := by decide +kernel
theorem dX9_areSpans_194 : decode cX9_areSpans 194 = .ok (.iload 4, 2) := by decide +kernel
theorem dX9_areSpans_196 : decode cX9_areSpans 196 = .ok (.iaload, 1) := by decide +kernel
theorem dX9_areSpans_197 : decode cX9_areSpans 197 = .ok (.iconst 1, 1) := by decide +kernel
theorem dX9_areSpans_198 : decode cX9_areSpans 198 = .ok (.isub, 1) := by decide +kernel
theorem dX9_areSpans_199 : decode cX9_areSpans 199 = .ok (.invokevirtual 212, 3) := by decide +kernel
theorem dX9_areSpans_202 : decode cX9_areSpans 202 = .ok (.iinc 3 1, 3) := by decide +kernel
theorem dX9_areSpans_205 : decode cX9_areSpans 205 = .ok (.goto (-91), 3) := by decide +kernel
theorem dX9_areSpans_208 : decode cX9_areSpans 208 = .ok (.goto (-143), 3) := by decide +kernel
theorem dX9_areSpans_211 : decode cX9_areSpans 211 = .ok (.aload_n 0, 1) := by decide +kernel
theorem dX9_areSpans_212 : decode cX9_areSpans 212 = .ok (.iload_n 1, 1) := by decide +kernel
theorem dX9_areSpans_213 : decode cX9_areSpans 213 = .ok (.invokevirtual 221, 3) := by decide +kernel
theorem dX9_areSpans_216 : decode cX9_areSpans 216 = .ok (.ifCond .ne 7, 3) := by decide +kernel
theorem dX9_areSpans_219 : decode cX9_areSpans 219 = .ok (.iconst 1, 1) := by decide +kernel
theorem dX9_areSpans_220 : decode cX9_areSpans 220 = .ok (.goto 4, 3) := by decide +kernel
theorem dX9_areSpans_223 : decode cX9_areSpans 223 = .ok (.iconst 0, 1) := by decide +kernel
theorem dX9_areSpans_224 : decode cX9_areSpans 224 = .ok (.ireturn, 1) := by decide +kernel
set_option maxRecDepth 100000 in
set_option maxHeartbeats 40000000 in
theorem gx_X9_areSpans {G : vG} {l : Launch} (σ : Sg) (a b : Int32) (hI : Inv σ) : Sp G l yX9_areSpans cX9_areSpans 6 (some .boolean) 4 0 0 [.ref 140, .int a, .int b] (WW σ) (QI (fun x w2 => (x = 1 ∨ x = 0) ∧ ∃ σ2, w2 = WW σ2 ∧ Inv σ2 ∧ Cor σ σ2)) := by
  refine Sp_of_R [(some (.ref 140)), (some (.int a)), (some (.int b)), none, none, none] [none, none, none] rfl (by simp) rfl (Nat.le_of_ble_eq_true rfl) ?_
  refine R_aload_n (pc := 0) dX9_areSpans_0 rfl rfl ?_
  refine k_X9_162 (pc := 1) (gx_X9_findUnlike _ hI) rfl (c_140 _) (by decide) (Nat.le_refl _) (Nat.le_refl _) (Nat.le_of_ble_eq_true rfl) dX9_areSpans_1 (fun w2 h => ?_)
  obtain ⟨σx3, rfl, hV2, hW4⟩ := h
  have hW5 := Cor.trans (show Cor σ σ from Cor.rfl' σ) hW4
  refine R_aload_n (pc := 4) dX9_areSpans_4 rfl rfl ?_
  refine R_aload_n (pc := 5) dX9_areSpans_5 rfl rfl ?_
  refine g_X9_54 (pc := 6) (v := .ref 152) rfl dX9_areSpans_6 (c_140 _) rfl ?_
  refine R_iconst (pc := 9) (v := 0) dX9_areSpans_9 (by decide) ?_
  refine R_iload_n (pc := 10) dX9_areSpans_10 rfl rfl ?_
  refine k_X9_165 (pc := 11) (gx_X9_findChains_152 _ _ _ hV2) rfl (c_140 _) (by decide) (Nat.le_refl _) (Nat.le_refl _) (Nat.le_of_ble_eq_true rfl) dX9_areSpans_11 (fun w2 h => ?_)
  obtain ⟨σx8, rfl, hV7, hW9⟩ := h
  have hW10 := Cor.trans hW5 hW9
  refine R_iconst (pc := 14) (v := 0) dX9_areSpans_14 (by decide) ?_
  refine st_6_3_i_i (pc := 15) dX9_areSpans_15 ?_
  have HL16 : ∀ (q j16 : Nat) (σ16 : Sg), j16 + q = 20 → 0 ≤ j16 → Inv σ16 → Cor σ σ16 → Ini σ16 j16 → R G l yX9_areSpans cX9_areSpans 6 (some .boolean) 4 0 0 (QI (fun x w2 => (x = 1 ∨ x = 0) ∧ ∃ σ2, w2 = WW σ2 ∧ Inv σ2 ∧ Cor σ σ2)) 16 [(some (.ref 140)), (some (.int a)), (some (.int b)), (some (.int (nI j16))), none, none] [] (WW σ16) 0 0 := by
    intro q
    induction q with
    | zero =>
      intro j16 σ16 hj hs16 hI16 hC16 hX16_0
      obtain rfl : j16 = 20 := by omega
      refine R_iload_n (pc := 16) dX9_areSpans_16 rfl rfl ?_
      refine R_bipush (pc := 17) (v := 20) dX9_areSpans_17 (by decide) ?_
      refine R_icge (pc := 19) 60 dX9_areSpans_19 (by decide) (fun _ => ?_) (fun h => absurd (by decide) h)
      refine R_aload_n (pc := 60) dX9_areSpans_60 rfl rfl ?_
      refine R_iconst (pc := 61) (v := 1) dX9_areSpans_61 (by decide) ?_
      refine p_X9_204 (pc := 62) rfl dX9_areSpans_62 (c_140 _) (Nat.le_of_ble_eq_true rfl) rfl rfl (s_140_32 _ _) ?_
      have hW12 := cor_si 14032 1 hC16 rfl
      have HL : ∀ (q : Nat) (σ65 : Sg) (g3_65 : Option Value) (g4_65 : Option Value) (g5_65 : Option Value), 1 ≤ Phi σ65 + (q : Int) → Inv σ65 → Cor σ σ65 → Zr (PS σ16 a) σ16 σ65 → R G l yX9_areSpans cX9_areSpans 6 (some .boolean) 4 0 0 (QI (fun x w2 => (x = 1 ∨ x = 0) ∧ ∃ σ2, w2 = WW σ2 ∧ Inv σ2 ∧ Cor σ σ2)) 65 [(some (.ref 140)), (some (.int a)), (some (.int b)), g3_65, g4_65, g5_65] [] (WW σ65) 0 0 := by
        intro q
        induction q with
        | zero =>
          intro σ65 g3_65 g4_65 g5_65 hj65 hI65 hC65 hZ65
          refine R_aload_n (pc := 65) dX9_areSpans_65 rfl rfl ?_
          refine g_X9_204 (pc := 66) (v := .int (σ65.1 14032)) rfl dX9_areSpans_66 (c_140 _) rfl ?_
          refine R_ifeq (pc := 69) 211 dX9_areSpans_69 (by decide) (fun b69_13 => ?_) (fun b69_13 => ?_)
          · skip
            refine R_aload_n (pc := 211) dX9_areSpans_211 rfl rfl ?_
            refine R_iload_n (pc := 212) dX9_areSpans_212 rfl rfl ?_
            refine k_X9_221 (pc := 213) (ge_X9_isEmpty _ _ hI65) rfl (c_140 _) (by decide) (Nat.le_refl _) (Nat.le_refl _) (Nat.le_of_ble_eq_true rfl) dX9_areSpans_213 (fun x w2 h => ?_)
            obtain ⟨rfl, rfl | ⟨rfl, hE⟩⟩ := h
            · skip
              refine R_ifne (pc := 216) 223 dX9_areSpans_216 (by decide) (fun _ => ?_) (fun h => absurd h (by decide))
              refine R_iconst (pc := 223) (v := 0) dX9_areSpans_223 (by decide) ?_
              exact R_iret (pc := 224) dX9_areSpans_224 rfl rfl (Nat.zero_le _) (Nat.zero_le _) ⟨_, rfl, Or.inr rfl, _, rfl, hI65, hC65⟩
            · skip
              refine R_ifne (pc := 216) 223 dX9_areSpans_216 (by decide) (fun h => absurd (by decide) h) (fun _ => ?_)
              refine R_iconst (pc := 219) (v := 1) dX9_areSpans_219 (by decide) ?_
              refine R_goto (pc := 220) 224 dX9_areSpans_220 (by decide) ?_
              exact R_iret (pc := 224) dX9_areSpans_224 rfl rfl (Nat.zero_le _) (Nat.zero_le _) ⟨_, rfl, Or.inl rfl, _, rfl, hI65, hC65⟩
          · skip
            refine R_aload_n (pc := 72) dX9_areSpans_72 rfl rfl ?_
            refine R_iload_n (pc := 73) dX9_areSpans_73 rfl rfl ?_
            refine k_X9_221 (pc := 74) (ge_X9_isEmpty _ _ hI65) rfl (c_140 _) (by decide) (Nat.le_refl _) (Nat.le_refl _) (Nat.le_of_ble_eq_true rfl) dX9_areSpans_74 (fun x w2 h => ?_)
            obtain ⟨rfl, rfl | ⟨rfl, hE⟩⟩ := h
            · skip
              refine R_ifne (pc := 77) 211 dX9_areSpans_77 (by decide) (fun _ => ?_) (fun h => absurd h (by decide))
              refine R_aload_n (pc := 211) dX9_areSpans_211 rfl rfl ?_
              refine R_iload_n (pc := 212) dX9_areSpans_212 rfl rfl ?_
              refine k_X9_221 (pc := 213) (ge_X9_isEmpty _ _ hI65) rfl (c_140 _) (by decide) (Nat.le_refl _) (Nat.le_refl _) (Nat.le_of_ble_eq_true rfl) dX9_areSpans_213 (fun x w2 h => ?_)
              obtain ⟨rfl, rfl | ⟨rfl, hE⟩⟩ := h
              · skip
                refine R_ifne (pc := 216) 223 dX9_areSpans_216 (by decide) (fun _ => ?_) (fun h => absurd h (by decide))
                refine R_iconst (pc := 223) (v := 0) dX9_areSpans_223 (by decide) ?_
                exact R_iret (pc := 224) dX9_areSpans_224 rfl rfl (Nat.zero_le _) (Nat.zero_le _) ⟨_, rfl, Or.inr rfl, _, rfl, hI65, hC65⟩
              · skip
                refine R_ifne (pc := 216) 223 dX9_areSpans_216 (by decide) (fun h => absurd (by decide) h) (fun _ => ?_)
                refine R_iconst (pc := 219) (v := 1) dX9_areSpans_219 (by decide) ?_
                refine R_goto (pc := 220) 224 dX9_areSpans_220 (by decide) ?_
                exact R_iret (pc := 224) dX9_areSpans_224 rfl rfl (Nat.zero_le _) (Nat.zero_le _) ⟨_, rfl, Or.inl rfl, _, rfl, hI65, hC65⟩
            · skip
              have hph := zr_phi hZ65 hE
              exact False.elim (by omega)
        | succ q ih =>
          intro σ65 g3_65 g4_65 g5_65 hj65 hI65 hC65 hZ65
          refine R_aload_n (pc := 65) dX9_areSpans_65 rfl rfl ?_
          refine g_X9_204 (pc := 66) (v := .int (σ65.1 14032)) rfl dX9_areSpans_66 (c_140 _) rfl ?_
          refine R_ifeq (pc := 69) 211 dX9_areSpans_69 (by decide) (fun b69_19 => ?_) (fun b69_19 => ?_)
          · skip
            refine R_aload_n (pc := 211) dX9_areSpans_211 rfl rfl ?_
            refine R_iload_n (pc := 212) dX9_areSpans_212 rfl rfl ?_
            refine k_X9_221 (pc := 213) (ge_X9_isEmpty _ _ hI65) rfl (c_140 _) (by decide) (Nat.le_refl _) (Nat.le_refl _) (Nat.le_of_ble_eq_true rfl) dX9_areSpans_213 (fun x w2 h => ?_)
            obtain ⟨rfl, rfl | ⟨rfl, hE⟩⟩ := h
            · skip
              refine R_ifne (pc := 216) 223 dX9_areSpans_216 (by decide) (fun _ => ?_) (fun h => absurd h (by decide))
              refine R_iconst (pc := 223) (v := 0) dX9_areSpans_223 (by decide) ?_
              exact R_iret (pc := 224) dX9_areSpans_224 rfl rfl (Nat.zero_le _) (Nat.zero_le _) ⟨_, rfl, Or.inr rfl, _, rfl, hI65, hC65⟩
            · skip
              refine R_ifne (pc := 216) 223 dX9_areSpans_216 (by decide) (fun h => absurd (by decide) h) (fun _ => ?_)
              refine R_iconst (pc := 219) (v := 1) dX9_areSpans_219 (by decide) ?_
              refine R_goto (pc := 220) 224 dX9_areSpans_220 (by decide) ?_
              exact R_iret (pc := 224) dX9_areSpans_224 rfl rfl (Nat.zero_le _) (Nat.zero_le _) ⟨_, rfl, Or.inl rfl, _, rfl, hI65, hC65⟩
          · skip
            refine R_aload_n (pc := 72) dX9_areSpans_72 rfl rfl ?_
            refine R_iload_n (pc := 73) dX9_areSpans_73 rfl rfl ?_
            refine k_X9_221 (pc := 74) (ge_X9_isEmpty _ _ hI65) rfl (c_140 _) (by decide) (Nat.le_refl _) (Nat.le_refl _) (Nat.le_of_ble_eq_true rfl) dX9_areSpans_74 (fun x w2 h => ?_)
            obtain ⟨rfl, rfl | ⟨rfl, hE⟩⟩ := h
            · skip
              refine R_ifne (pc := 77) 211 dX9_areSpans_77 (by decide) (fun _ => ?_) (fun h => absurd h (by decide))
              refine R_aload_n (pc := 211) dX9_areSpans_211 rfl rfl ?_
              refine R_iload_n (pc := 212) dX9_areSpans_212 rfl rfl ?_
              refine k_X9_221 (pc := 213) (ge_X9_isEmpty _ _ hI65) rfl (c_140 _) (by decide) (Nat.le_refl _) (Nat.le_refl _) (Nat.le_of_ble_eq_true rfl) dX9_areSpans_213 (fun x w2 h => ?_)
              obtain ⟨rfl, rfl | ⟨rfl, hE⟩⟩ := h
              · skip
                refine R_ifne (pc := 216) 223 dX9_areSpans_216 (by decide) (fun _ => ?_) (fun h => absurd h (by decide))
                refine R_iconst (pc := 223) (v := 0) dX9_areSpans_223 (by decide) ?_
                exact R_iret (pc := 224) dX9_areSpans_224 rfl rfl (Nat.zero_le _) (Nat.zero_le _) ⟨_, rfl, Or.inr rfl, _, rfl, hI65, hC65⟩
              · skip
                refine R_ifne (pc := 216) 223 dX9_areSpans_216 (by decide) (fun h => absurd (by decide) h) (fun _ => ?_)
                refine R_iconst (pc := 219) (v := 1) dX9_areSpans_219 (by decide) ?_
                refine R_goto (pc := 220) 224 dX9_areSpans_220 (by decide) ?_
                exact R_iret (pc := 224) dX9_areSpans_224 rfl rfl (Nat.zero_le _) (Nat.zero_le _) ⟨_, rfl, Or.inl rfl, _, rfl, hI65, hC65⟩
            · skip
              have hph := zr_phi hZ65 hE
              refine R_ifne (pc := 77) 211 dX9_areSpans_77 (by decide) (fun h => absurd (by decide) h) (fun _ => ?_)
              refine R_aload_n (pc := 80) dX9_areSpans_80 rfl rfl ?_
              refine R_iconst (pc := 81) (v := 0) dX9_areSpans_81 (by decide) ?_
              refine p_X9_204 (pc := 82) rfl dX9_areSpans_82 (c_140 _) (Nat.le_of_ble_eq_true rfl) rfl rfl (s_140_32 _ _) ?_
              have hW26 := cor_si 14032 0 hC65 rfl
              refine R_iconst (pc := 85) (v := 0) dX9_areSpans_85 (by decide) ?_
              refine st_6_3_i_i (pc := 86) dX9_areSpans_86 ?_
              have HL87 : ∀ (q j87 : Nat) (σ87 : Sg), j87 + q = 20 → 0 ≤ j87 → Inv σ87 → Cor σ σ87 → Nar (PS σ16 a) (uI σ65 14032 0) σ87 → R G l yX9_areSpans cX9_areSpans 6 (some .boolean) 4 0 0 (QI (fun x w2 => (x = 1 ∨ x = 0) ∧ ∃ σ2, w2 = WW σ2 ∧ Inv σ2 ∧ Cor σ σ2)) 87 [(some (.ref 140)), (some (.int a)), (some (.int b)), (some (.int (nI j87))), g4_65, g5_65] [] (WW σ87) 0 0 := by
                intro q
                induction q with
                | zero =>
                  intro j87 σ87 hj hs87 hI87 hC87 hX87_0
                  obtain rfl : j87 = 20 := by omega
                  refine R_iload_n (pc := 87) dX9_areSpans_87 rfl rfl ?_
                  refine R_aload_n (pc := 88) dX9_areSpans_88 rfl rfl ?_
                  refine k_X9_120 (pc := 89) (ge_X9_thereMany _ hI87) rfl (c_140 _) (by decide) (Nat.le_refl _) (Nat.le_refl _) (Nat.le_of_ble_eq_true rfl) dX9_areSpans_89 (fun x w2 h => ?_)
                  obtain ⟨rfl, rfl⟩ := h
                  refine R_icge (pc := 92) 112 dX9_areSpans_92 (by decide) (fun _ => ?_) (fun h => absurd (Int32.not_lt.mp (inR_up (tm_in (σ87.1 14000) (σ87.1 14013) (σ87.2.2.1 148)) (Int32.le_refl _) (by decide)).2) h)
                  refine R_iconst (pc := 112) (v := 0) dX9_areSpans_112 (by decide) ?_
                  refine st_6_3_i_i (pc := 113) dX9_areSpans_113 ?_
                  have HL114 : ∀ (q j114 : Nat) (σ114 : Sg) (g4_114 : Option Value) (g5_114 : Option Value), j114 + q = 12 → 0 ≤ j114 → Inv σ114 → Cor σ σ114 → Nar (PS σ16 a) (uI σ65 14032 0) σ114 → R G l yX9_areSpans cX9_areSpans 6 (some .boolean) 4 0 0 (QI (fun x w2 => (x = 1 ∨ x = 0) ∧ ∃ σ2, w2 = WW σ2 ∧ Inv σ2 ∧ Cor σ σ2)) 114 [(some (.ref 140)), (some (.int a)), (some (.int b)), (some (.int (nI j114))), g4_114, g5_114] [] (WW σ114) 0 0 := by
                    intro q
                    induction q with
                    | zero =>
                      intro j114 σ114 g4_114 g5_114 hj hs114 hI114 hC114 hX114_0
                      obtain rfl : j114 = 12 := by omega
                      refine R_iload_n (pc := 114) dX9_areSpans_114 rfl rfl ?_
                      refine R_aload_n (pc := 115) dX9_areSpans_115 rfl rfl ?_
                      refine g_X9_201 (pc := 116) (v := .int (σ114.1 14025)) rfl dX9_areSpans_116 (c_140 _) rfl ?_
                      refine R_icge (pc := 119) 208 dX9_areSpans_119 (by decide) (fun _ => ?_) (fun h => absurd (Int32.not_lt.mp (inR_up (iv_14025 hI114) (Int32.le_refl _) (by decide)).2) h)
                      refine R_goto (pc := 208) 65 dX9_areSpans_208 (by decide) ?_
                      rcases nar_phi hX114_0 with hz | hz
                      · skip
                        refine R_aload_n (pc := 65) dX9_areSpans_65 rfl rfl ?_
                        refine g_X9_204 (pc := 66) (v := .int 0) rfl dX9_areSpans_66 (c_140 _) (by show some (Value.int (σ114.1 14032)) = _; rw [hz]) ?_
                        refine R_ifeq (pc := 69) 211 dX9_areSpans_69 (by decide) (fun _ => ?_) (fun h => absurd (by decide) h)
                        refine R_aload_n (pc := 211) dX9_areSpans_211 rfl rfl ?_
                        refine R_iload_n (pc := 212) dX9_areSpans_212 rfl rfl ?_
                        refine k_X9_221 (pc := 213) (ge_X9_isEmpty _ _ hI114) rfl (c_140 _) (by decide) (Nat.le_refl _) (Nat.le_refl _) (Nat.le_of_ble_eq_true rfl) dX9_areSpans_213 (fun x w2 h => ?_)
                        obtain ⟨rfl, rfl | ⟨rfl, hE⟩⟩ := h
                        · skip
                          refine R_ifne (pc := 216) 223 dX9_areSpans_216 (by decide) (fun _ => ?_) (fun h => absurd h (by decide))
                          refine R_iconst (pc := 223) (v := 0) dX9_areSpans_223 (by decide) ?_
                          exact R_iret (pc := 224) dX9_areSpans_224 rfl rfl (Nat.zero_le _) (Nat.zero_le _) ⟨_, rfl, Or.inr rfl, _, rfl, hI114, hC114⟩
                        · skip
                          refine R_ifne (pc := 216) 223 dX9_areSpans_216 (by decide) (fun h => absurd (by decide) h) (fun _ => ?_)
                          refine R_iconst (pc := 219) (v := 1) dX9_areSpans_219 (by decide) ?_
                          refine R_goto (pc := 220) 224 dX9_areSpans_220 (by decide) ?_
                          exact R_iret (pc := 224) dX9_areSpans_224 rfl rfl (Nat.zero_le _) (Nat.zero_le _) ⟨_, rfl, Or.inl rfl, _, rfl, hI114, hC114⟩
                      · skip
                        exact ih _ _ _ _ (by omega) hI114 hC114 (zr_nar hZ65 hX114_0)
                    | succ q ih114 =>
                      intro j114 σ114 g4_114 g5_114 hj hs114 hI114 hC114 hX114_0
                      have hrg114 : inR (nI j114) 0 11 := inR_ix hs114 (show j114 < 12 by omega) (by decide) (by decide) (by decide)
                      have hlt114 : j114 < 12 := by omega
                      refine R_iload_n (pc := 114) dX9_areSpans_114 rfl rfl ?_
                      refine R_aload_n (pc := 115) dX9_areSpans_115 rfl rfl ?_
                      refine g_X9_201 (pc := 116) (v := .int (σ114.1 14025)) rfl dX9_areSpans_116 (c_140 _) rfl ?_
                      refine R_icge (pc := 119) 208 dX9_areSpans_119 (by decide) (fun b119_32 => ?_) (fun b119_32 => ?_)
                      · skip
                        refine R_goto (pc := 208) 65 dX9_areSpans_208 (by decide) ?_
                        rcases nar_phi hX114_0 with hz | hz
                        · skip
                          refine R_aload_n (pc := 65) dX9_areSpans_65 rfl rfl ?_
                          refine g_X9_204 (pc := 66) (v := .int 0) rfl dX9_areSpans_66 (c_140 _) (by show some (Value.int (σ114.1 14032)) = _; rw [hz]) ?_
                          refine R_ifeq (pc := 69) 211 dX9_areSpans_69 (by decide) (fun _ => ?_) (fun h => absurd (by decide) h)
                          refine R_aload_n (pc := 211) dX9_areSpans_211 rfl rfl ?_
                          refine R_iload_n (pc := 212) dX9_areSpans_212 rfl rfl ?_
                          refine k_X9_221 (pc := 213) (ge_X9_isEmpty _ _ hI114) rfl (c_140 _) (by decide) (Nat.le_refl _) (Nat.le_refl _) (Nat.le_of_ble_eq_true rfl) dX9_areSpans_213 (fun x w2 h => ?_)
                          obtain ⟨rfl, rfl | ⟨rfl, hE⟩⟩ := h
                          · skip
                            refine R_ifne (pc := 216) 223 dX9_areSpans_216 (by decide) (fun _ => ?_) (fun h => absurd h (by decide))
                            refine R_iconst (pc := 223) (v := 0) dX9_areSpans_223 (by decide) ?_
                            exact R_iret (pc := 224) dX9_areSpans_224 rfl rfl (Nat.zero_le _) (Nat.zero_le _) ⟨_, rfl, Or.inr rfl, _, rfl, hI114, hC114⟩
                          · skip
                            refine R_ifne (pc := 216) 223 dX9_areSpans_216 (by decide) (fun h => absurd (by decide) h) (fun _ => ?_)
                            refine R_iconst (pc := 219) (v := 1) dX9_areSpans_219 (by decide) ?_
                            refine R_goto (pc := 220) 224 dX9_areSpans_220 (by decide) ?_
                            exact R_iret (pc := 224) dX9_areSpans_224 rfl rfl (Nat.zero_le _) (Nat.zero_le _) ⟨_, rfl, Or.inl rfl, _, rfl, hI114, hC114⟩
                        · skip
                          exact ih _ _ _ _ (by omega) hI114 hC114 (zr_nar hZ65 hX114_0)
                      · skip
                        refine R_aload_n (pc := 122) dX9_areSpans_122 rfl rfl ?_
                        refine g_X9_81 (pc := 123) (v := .ref 161) rfl dX9_areSpans_123 (c_140 _) rfl ?_
                        refine R_iload_n (pc := 126) dX9_areSpans_126 rfl rfl ?_
                        have hx36 : vp_in (nI j114) 12 := (vp_in_nI (by omega) (by decide))
                        refine R_iaload (pc := 127) dX9_areSpans_127 (c_161 _) hx36 ?_
                        refine st_6_4_i_i (pc := 128) dX9_areSpans_128 ?_
                        refine R_aload_n (pc := 130) dX9_areSpans_130 rfl rfl ?_
                        refine g_X9_84 (pc := 131) (v := .ref 162) rfl dX9_areSpans_131 (c_140 _) rfl ?_
                        refine R_iload_n (pc := 134) dX9_areSpans_134 rfl rfl ?_
                        have hx37 : vp_in (nI j114) 12 := (vp_in_nI (by omega) (by decide))
                        refine R_iaload (pc := 135) dX9_areSpans_135 (c_162 _) hx37 ?_
                        refine st_6_5_i_i (pc := 136) dX9_areSpans_136 ?_
                        refine R_aload_n (pc := 138) dX9_areSpans_138 rfl rfl ?_
                        refine R_iload (pc := 139) dX9_areSpans_139 rfl ?_
                        refine k_X9_135 (pc := 141) (ge_X9_isThere _ _ hI114) rfl (c_140 _) (by decide) (Nat.le_refl _) (Nat.le_refl _) (Nat.le_of_ble_eq_true rfl) dX9_areSpans_141 (fun x w2 h => ?_)
                        rcases h with ⟨rfl, ⟨h38, h38b, rfl⟩ | ⟨h38, rfl⟩⟩
                        · skip
                          refine R_ifeq (pc := 144) 202 dX9_areSpans_144 (by decide) (fun h => absurd h (by decide)) (fun _ => ?_)
                          refine R_aload_n (pc := 147) dX9_areSpans_147 rfl rfl ?_
                          refine R_iload (pc := 148) dX9_areSpans_148 rfl ?_
                          refine k_X9_135 (pc := 150) (ge_X9_isThere _ _ hI114) rfl (c_140 _) (by decide) (Nat.le_refl _) (Nat.le_refl _) (Nat.le_of_ble_eq_true rfl) dX9_areSpans_150 (fun x w2 h => ?_)
                          rcases h with ⟨rfl, ⟨h40, h40b, rfl⟩ | ⟨h40, rfl⟩⟩
                          · skip
                            refine R_ifeq (pc := 153) 202 dX9_areSpans_153 (by decide) (fun h => absurd h (by decide)) (fun _ => ?_)
                            refine R_iload (pc := 156) dX9_areSpans_156 rfl ?_
                            refine R_iload_n (pc := 158) dX9_areSpans_158 rfl rfl ?_
                            refine R_iceq (pc := 159) 202 dX9_areSpans_159 (by decide) (fun b159_42 => ?_) (fun b159_42 => ?_)
                            · skip
                              refine inc_6_3_1_i (pc := 202) dX9_areSpans_202 ?_
                              have r43 : inR ((nI j114) + 1) 1 12 := inR_add (show inR (nI j114) 0 11 from hrg114) (show inR 1 1 1 from (inR_self _)) (by decide) (by decide)
                              have e44 := ti_add (l := 1) (h := 12) (show inR (nI j114) 0 11 from hrg114) (show inR 1 1 1 from (inR_self _)) (by decide) (by decide)
                              refine R_goto (pc := 205) 114 dX9_areSpans_205 (by decide) ?_
                              rw [nI_1]
                              exact ih114 (j114 + 1) _ _ _ (by omega) (by omega) hI114 hC114 hX114_0
                            · skip
                              refine R_iload (pc := 162) dX9_areSpans_162 rfl ?_
                              refine R_iload_n (pc := 164) dX9_areSpans_164 rfl rfl ?_
                              refine R_iceq (pc := 165) 202 dX9_areSpans_165 (by decide) (fun b165_45 => ?_) (fun b165_45 => ?_)
                              · skip
                                refine inc_6_3_1_i (pc := 202) dX9_areSpans_202 ?_
                                have r46 : inR ((nI j114) + 1) 1 12 := inR_add (show inR (nI j114) 0 11 from hrg114) (show inR 1 1 1 from (inR_self _)) (by decide) (by decide)
                                have e47 := ti_add (l := 1) (h := 12) (show inR (nI j114) 0 11 from hrg114) (show inR 1 1 1 from (inR_self _)) (by decide) (by decide)
                                refine R_goto (pc := 205) 114 dX9_areSpans_205 (by decide) ?_
                                rw [nI_1]
                                exact ih114 (j114 + 1) _ _ _ (by omega) (by omega) hI114 hC114 hX114_0
                              · skip
                                refine R_aload_n (pc := 168) dX9_areSpans_168 rfl rfl ?_
                                refine R_iload (pc := 169) dX9_areSpans_169 rfl ?_
                                refine R_aload_n (pc := 171) dX9_areSpans_171 rfl rfl ?_
                                refine g_X9_93 (pc := 172) (v := .ref 165) rfl dX9_areSpans_172 (c_140 _) rfl ?_
                                refine R_iload (pc := 175) dX9_areSpans_175 rfl ?_
                                have hx48 : vp_in (σ114.2.2.1 162 (Int32.toNatClampNeg (nI j114))) 20 := (vp_of_inR h40 (by decide))
                                refine R_iaload (pc := 177) dX9_areSpans_177 (c_165 _) hx48 ?_
                                refine R_iconst (pc := 178) (v := 1) dX9_areSpans_178 (by decide) ?_
                                refine R_iadd (pc := 179) dX9_areSpans_179 ?_
                                refine R_sipush (pc := 180) (v := 20000) dX9_areSpans_180 (by decide) ?_
                                refine k_X9_212 (pc := 183) (gn_X9_outIn _ (PS σ16 a) _ _ _ hI114 h38 (ps_of2 (σ := σ114) (hZ65.1.trans hX114_0.1) h38 h38b b159_42)) rfl (c_140 _) (by decide) (Nat.le_refl _) (Nat.le_refl _) (Nat.le_of_ble_eq_true rfl) dX9_areSpans_183 (fun w2 h => ?_)
                                obtain ⟨σx50, rfl, hV49, hW52, hN51⟩ := h
                                have hW53 := Cor.trans hC114 hW52
                                have hN51 := hX114_0.trans hN51
                                refine R_aload_n (pc := 186) dX9_areSpans_186 rfl rfl ?_
                                refine R_iload (pc := 187) dX9_areSpans_187 rfl ?_
                                refine R_iconst (pc := 189) (v := 0) dX9_areSpans_189 (by decide) ?_
                                refine R_aload_n (pc := 190) dX9_areSpans_190 rfl rfl ?_
                                refine g_X9_96 (pc := 191) (v := .ref 166) rfl dX9_areSpans_191 (c_140 _) rfl ?_
                                refine R_iload (pc := 194) dX9_areSpans_194 rfl ?_
                                have hx54 : vp_in (σ114.2.2.1 161 (Int32.toNatClampNeg (nI j114))) 20 := (vp_of_inR h38 (by decide))
                                refine R_iaload (pc := 196) dX9_areSpans_196 (c_166 _) hx54 ?_
                                refine R_iconst (pc := 197) (v := 1) dX9_areSpans_197 (by decide) ?_
                                refine R_isub (pc := 198) dX9_areSpans_198 ?_
                                refine k_X9_212 (pc := 199) (gn_X9_outIn _ (PS σ16 a) _ _ _ hV49 h40 (ps_of2 (σ := σ114) (hZ65.1.trans hX114_0.1) h40 h40b b165_45)) rfl (c_140 _) (by decide) (Nat.le_refl _) (Nat.le_refl _) (Nat.le_of_ble_eq_true rfl) dX9_areSpans_199 (fun w2 h => ?_)
                                obtain ⟨σx56, rfl, hV55, hW58, hN57⟩ := h
                                have hW59 := Cor.trans hW53 hW58
                                have hN57 := hN51.trans hN57
                                refine inc_6_3_1_i (pc := 202) dX9_areSpans_202 ?_
                                have r60 : inR ((nI j114) + 1) 1 12 := inR_add (show inR (nI j114) 0 11 from hrg114) (show inR 1 1 1 from (inR_self _)) (by decide) (by decide)
                                have e61 := ti_add (l := 1) (h := 12) (show inR (nI j114) 0 11 from hrg114) (show inR 1 1 1 from (inR_self _)) (by decide) (by decide)
                                refine R_goto (pc := 205) 114 dX9_areSpans_205 (by decide) ?_
                                rw [nI_1]
                                exact ih114 (j114 + 1) _ _ _ (by omega) (by omega) hV55 hW59 hN57
                          · skip
                            refine R_ifeq (pc := 153) 202 dX9_areSpans_153 (by decide) (fun _ => ?_) (fun h => absurd (by decide) h)
                            refine inc_6_3_1_i (pc := 202) dX9_areSpans_202 ?_
                            have r63 : inR ((nI j114) + 1) 1 12 := inR_add (show inR (nI j114) 0 11 from hrg114) (show inR 1 1 1 from (inR_self _)) (by decide) (by decide)
                            have e64 := ti_add (l := 1) (h := 12) (show inR (nI j114) 0 11 from hrg114) (show inR 1 1 1 from (inR_self _)) (by decide) (by decide)
                            refine R_goto (pc := 205) 114 dX9_areSpans_205 (by decide) ?_
                            rw [nI_1]
                            exact ih114 (j114 + 1) _ _ _ (by omega) (by omega) hI114 hC114 hX114_0
                        · skip
                          refine R_ifeq (pc := 144) 202 dX9_areSpans_144 (by decide) (fun _ => ?_) (fun h => absurd (by decide) h)
                          refine inc_6_3_1_i (pc := 202) dX9_areSpans_202 ?_
                          have r66 : inR ((nI j114) + 1) 1 12 := inR_add (show inR (nI j114) 0 11 from hrg114) (show inR 1 1 1 from (inR_self _)) (by decide) (by decide)
                          have e67 := ti_add (l := 1) (h := 12) (show inR (nI j114) 0 11 from hrg114) (show inR 1 1 1 from (inR_self _)) (by decide) (by decide)
                          refine R_goto (pc := 205) 114 dX9_areSpans_205 (by decide) ?_
                          rw [nI_1]
                          exact ih114 (j114 + 1) _ _ _ (by omega) (by omega) hI114 hC114 hX114_0
                  exact HL114 12 0 _ _ _ (by omega) (by omega) hI87 hC87 hX87_0
                | succ q ih87 =>
                  intro j87 σ87 hj hs87 hI87 hC87 hX87_0
                  have hrg87 : inR (nI j87) 0 19 := inR_ix hs87 (show j87 < 20 by omega) (by decide) (by decide) (by decide)
                  have hlt87 : j87 < 20 := by omega
                  refine R_iload_n (pc := 87) dX9_areSpans_87 rfl rfl ?_
                  refine R_aload_n (pc := 88) dX9_areSpans_88 rfl rfl ?_
                  refine k_X9_120 (pc := 89) (ge_X9_thereMany _ hI87) rfl (c_140 _) (by decide) (Nat.le_refl _) (Nat.le_refl _) (Nat.le_of_ble_eq_true rfl) dX9_areSpans_89 (fun x w2 h => ?_)
                  obtain ⟨rfl, rfl⟩ := h
                  refine R_icge (pc := 92) 112 dX9_areSpans_92 (by decide) (fun b92_68 => ?_) (fun b92_68 => ?_)
                  · skip
                    refine R_iconst (pc := 112) (v := 0) dX9_areSpans_112 (by decide) ?_
                    refine st_6_3_i_i (pc := 113) dX9_areSpans_113 ?_
                    have HL114 : ∀ (q j114 : Nat) (σ114 : Sg) (g4_114 : Option Value) (g5_114 : Option Value), j114 + q = 12 → 0 ≤ j114 → Inv σ114 → Cor σ σ114 → Nar (PS σ16 a) (uI σ65 14032 0) σ114 → R G l yX9_areSpans cX9_areSpans 6 (some .boolean) 4 0 0 (QI (fun x w2 => (x = 1 ∨ x = 0) ∧ ∃ σ2, w2 = WW σ2 ∧ Inv σ2 ∧ Cor σ σ2)) 114 [(some (.ref 140)), (some (.int a)), (some (.int b)), (some (.int (nI j114))), g4_114, g5_114] [] (WW σ114) 0 0 := by
                      intro q
                      induction q with
                      | zero =>
                        intro j114 σ114 g4_114 g5_114 hj hs114 hI114 hC114 hX114_0
                        obtain rfl : j114 = 12 := by omega
                        refine R_iload_n (pc := 114) dX9_areSpans_114 rfl rfl ?_
                        refine R_aload_n (pc := 115) dX9_areSpans_115 rfl rfl ?_
                        refine g_X9_201 (pc := 116) (v := .int (σ114.1 14025)) rfl dX9_areSpans_116 (c_140 _) rfl ?_
                        refine R_icge (pc := 119) 208 dX9_areSpans_119 (by decide) (fun _ => ?_) (fun h => absurd (Int32.not_lt.mp (inR_up (iv_14025 hI114) (Int32.le_refl _) (by decide)).2) h)
                        refine R_goto (pc := 208) 65 dX9_areSpans_208 (by decide) ?_
                        rcases nar_phi hX114_0 with hz | hz
                        · skip
                          refine R_aload_n (pc := 65) dX9_areSpans_65 rfl rfl ?_
                          refine g_X9_204 (pc := 66) (v := .int 0) rfl dX9_areSpans_66 (c_140 _) (by show some (Value.int (σ114.1 14032)) = _; rw [hz]) ?_
                          refine R_ifeq (pc := 69) 211 dX9_areSpans_69 (by decide) (fun _ => ?_) (fun h => absurd (by decide) h)
                          refine R_aload_n (pc := 211) dX9_areSpans_211 rfl rfl ?_
                          refine R_iload_n (pc := 212) dX9_areSpans_212 rfl rfl ?_
                          refine k_X9_221 (pc := 213) (ge_X9_isEmpty _ _ hI114) rfl (c_140 _) (by decide) (Nat.le_refl _) (Nat.le_refl _) (Nat.le_of_ble_eq_true rfl) dX9_areSpans_213 (fun x w2 h => ?_)
                          obtain ⟨rfl, rfl | ⟨rfl, hE⟩⟩ := h
                          · skip
                            refine R_ifne (pc := 216) 223 dX9_areSpans_216 (by decide) (fun _ => ?_) (fun h => absurd h (by decide))
                            refine R_iconst (pc := 223) (v := 0) dX9_areSpans_223 (by decide) ?_
                            exact R_iret (pc := 224) dX9_areSpans_224 rfl rfl (Nat.zero_le _) (Nat.zero_le _) ⟨_, rfl, Or.inr rfl, _, rfl, hI114, hC114⟩
                          · skip
                            refine R_ifne (pc := 216) 223 dX9_areSpans_216 (by decide) (fun h => absurd (by decide) h) (fun _ => ?_)
                            refine R_iconst (pc := 219) (v := 1) dX9_areSpans_219 (by decide) ?_
                            refine R_goto (pc := 220) 224 dX9_areSpans_220 (by decide) ?_
                            exact R_iret (pc := 224) dX9_areSpans_224 rfl rfl (Nat.zero_le _) (Nat.zero_le _) ⟨_, rfl, Or.inl rfl, _, rfl, hI114, hC114⟩
                        · skip
                          exact ih _ _ _ _ (by omega) hI114 hC114 (zr_nar hZ65 hX114_0)
                      | succ q ih114 =>
                        intro j114 σ114 g4_114 g5_114 hj hs114 hI114 hC114 hX114_0
                        have hrg114 : inR (nI j114) 0 11 := inR_ix hs114 (show j114 < 12 by omega) (by decide) (by decide) (by decide)
                        have hlt114 : j114 < 12 := by omega
                        refine R_iload_n (pc := 114) dX9_areSpans_114 rfl rfl ?_
                        refine R_aload_n (pc := 115) dX9_areSpans_115 rfl rfl ?_
                        refine g_X9_201 (pc := 116) (v := .int (σ114.1 14025)) rfl dX9_areSpans_116 (c_140 _) rfl ?_
                        refine R_icge (pc := 119) 208 dX9_areSpans_119 (by decide) (fun b119_73 => ?_) (fun b119_73 => ?_)
                        · skip
                          refine R_goto (pc := 208) 65 dX9_areSpans_208 (by decide) ?_
                          rcases nar_phi hX114_0 with hz | hz
                          · skip
                            refine R_aload_n (pc := 65) dX9_areSpans_65 rfl rfl ?_
                            refine g_X9_204 (pc := 66) (v := .int 0) rfl dX9_areSpans_66 (c_140 _) (by show some (Value.int (σ114.1 14032)) = _; rw [hz]) ?_
                            refine R_ifeq (pc := 69) 211 dX9_areSpans_69 (by decide) (fun _ => ?_) (fun h => absurd (by decide) h)
                            refine R_aload_n (pc := 211) dX9_areSpans_211 rfl rfl ?_
                            refine R_iload_n (pc := 212) dX9_areSpans_212 rfl rfl ?_
                            refine k_X9_221 (pc := 213) (ge_X9_isEmpty _ _ hI114) rfl (c_140 _) (by decide) (Nat.le_refl _) (Nat.le_refl _) (Nat.le_of_ble_eq_true rfl) dX9_areSpans_213 (fun x w2 h => ?_)
                            obtain ⟨rfl, rfl | ⟨rfl, hE⟩⟩ := h
                            · skip
                              refine R_ifne (pc := 216) 223 dX9_areSpans_216 (by decide) (fun _ => ?_) (fun h => absurd h (by decide))
                              refine R_iconst (pc := 223) (v := 0) dX9_areSpans_223 (by decide) ?_
                              exact R_iret (pc := 224) dX9_areSpans_224 rfl rfl (Nat.zero_le _) (Nat.zero_le _) ⟨_, rfl, Or.inr rfl, _, rfl, hI114, hC114⟩
                            · skip
                              refine R_ifne (pc := 216) 223 dX9_areSpans_216 (by decide) (fun h => absurd (by decide) h) (fun _ => ?_)
                              refine R_iconst (pc := 219) (v := 1) dX9_areSpans_219 (by decide) ?_
                              refine R_goto (pc := 220) 224 dX9_areSpans_220 (by decide) ?_
                              exact R_iret (pc := 224) dX9_areSpans_224 rfl rfl (Nat.zero_le _) (Nat.zero_le _) ⟨_, rfl, Or.inl rfl, _, rfl, hI114, hC114⟩
                          · skip
                            exact ih _ _ _ _ (by omega) hI114 hC114 (zr_nar hZ65 hX114_0)
                        · skip
                          refine R_aload_n (pc := 122) dX9_areSpans_122 rfl rfl ?_
                          refine g_X9_81 (pc := 123) (v := .ref 161) rfl dX9_areSpans_123 (c_140 _) rfl ?_
                          refine R_iload_n (pc := 126) dX9_areSpans_126 rfl rfl ?_
                          have hx77 : vp_in (nI j114) 12 := (vp_in_nI (by omega) (by decide))
                          refine R_iaload (pc := 127) dX9_areSpans_127 (c_161 _) hx77 ?_
                          refine st_6_4_i_i (pc := 128) dX9_areSpans_128 ?_
                          refine R_aload_n (pc := 130) dX9_areSpans_130 rfl rfl ?_
                          refine g_X9_84 (pc := 131) (v := .ref 162) rfl dX9_areSpans_131 (c_140 _) rfl ?_
                          refine R_iload_n (pc := 134) dX9_areSpans_134 rfl rfl ?_
                          have hx78 : vp_in (nI j114) 12 := (vp_in_nI (by omega) (by decide))
                          refine R_iaload (pc := 135) dX9_areSpans_135 (c_162 _) hx78 ?_
                          refine st_6_5_i_i (pc := 136) dX9_areSpans_136 ?_
                          refine R_aload_n (pc := 138) dX9_areSpans_138 rfl rfl ?_
                          refine R_iload (pc := 139) dX9_areSpans_139 rfl ?_
                          refine k_X9_135 (pc := 141) (ge_X9_isThere _ _ hI114) rfl (c_140 _) (by decide) (Nat.le_refl _) (Nat.le_refl _) (Nat.le_of_ble_eq_true rfl) dX9_areSpans_141 (fun x w2 h => ?_)
                          rcases h with ⟨rfl, ⟨h79, h79b, rfl⟩ | ⟨h79, rfl⟩⟩
                          · skip
                            refine R_ifeq (pc := 144) 202 dX9_areSpans_144 (by decide) (fun h => absurd h (by decide)) (fun _ => ?_)
                            refine R_aload_n (pc := 147) dX9_areSpans_147 rfl rfl ?_
                            refine R_iload (pc := 148) dX9_areSpans_148 rfl ?_
                            refine k_X9_135 (pc := 150) (ge_X9_isThere _ _ hI114) rfl (c_140 _) (by decide) (Nat.le_refl _) (Nat.le_refl _) (Nat.le_of_ble_eq_true rfl) dX9_areSpans_150 (fun x w2 h => ?_)
                            rcases h with ⟨rfl, ⟨h81, h81b, rfl⟩ | ⟨h81, rfl⟩⟩
                            · skip
                              refine R_ifeq (pc := 153) 202 dX9_areSpans_153 (by decide) (fun h => absurd h (by decide)) (fun _ => ?_)
                              refine R_iload (pc := 156) dX9_areSpans_156 rfl ?_
                              refine R_iload_n (pc := 158) dX9_areSpans_158 rfl rfl ?_
                              refine R_iceq (pc := 159) 202 dX9_areSpans_159 (by decide) (fun b159_83 => ?_) (fun b159_83 => ?_)
                              · skip
                                refine inc_6_3_1_i (pc := 202) dX9_areSpans_202 ?_
                                have r84 : inR ((nI j114) + 1) 1 12 := inR_add (show inR (nI j114) 0 11 from hrg114) (show inR 1 1 1 from (inR_self _)) (by decide) (by decide)
                                have e85 := ti_add (l := 1) (h := 12) (show inR (nI j114) 0 11 from hrg114) (show inR 1 1 1 from (inR_self _)) (by decide) (by decide)
                                refine R_goto (pc := 205) 114 dX9_areSpans_205 (by decide) ?_
                                rw [nI_1]
                                exact ih114 (j114 + 1) _ _ _ (by omega) (by omega) hI114 hC114 hX114_0
                              · skip
                                refine R_iload (pc := 162) dX9_areSpans_162 rfl ?_
                                refine R_iload_n (pc := 164) dX9_areSpans_164 rfl rfl ?_
                                refine R_iceq (pc := 165) 202 dX9_areSpans_165 (by decide) (fun b165_86 => ?_) (fun b165_86 => ?_)
                                · skip
                                  refine inc_6_3_1_i (pc := 202) dX9_areSpans_202 ?_
                                  have r87 : inR ((nI j114) + 1) 1 12 := inR_add (show inR (nI j114) 0 11 from hrg114) (show inR 1 1 1 from (inR_self _)) (by decide) (by decide)
                                  have e88 := ti_add (l := 1) (h := 12) (show inR (nI j114) 0 11 from hrg114) (show inR 1 1 1 from (inR_self _)) (by decide) (by decide)
                                  refine R_goto (pc := 205) 114 dX9_areSpans_205 (by decide) ?_
                                  rw [nI_1]
                                  exact ih114 (j114 + 1) _ _ _ (by omega) (by omega) hI114 hC114 hX114_0
                                · skip
                                  refine R_aload_n (pc := 168) dX9_areSpans_168 rfl rfl ?_
                                  refine R_iload (pc := 169) dX9_areSpans_169 rfl ?_
                                  refine R_aload_n (pc := 171) dX9_areSpans_171 rfl rfl ?_
                                  refine g_X9_93 (pc := 172) (v := .ref 165) rfl dX9_areSpans_172 (c_140 _) rfl ?_
                                  refine R_iload (pc := 175) dX9_areSpans_175 rfl ?_
                                  have hx89 : vp_in (σ114.2.2.1 162 (Int32.toNatClampNeg (nI j114))) 20 := (vp_of_inR h81 (by decide))
                                  refine R_iaload (pc := 177) dX9_areSpans_177 (c_165 _) hx89 ?_
                                  refine R_iconst (pc := 178) (v := 1) dX9_areSpans_178 (by decide) ?_
                                  refine R_iadd (pc := 179) dX9_areSpans_179 ?_
                                  refine R_sipush (pc := 180) (v := 20000) dX9_areSpans_180 (by decide) ?_
                                  refine k_X9_212 (pc := 183) (gn_X9_outIn _ (PS σ16 a) _ _ _ hI114 h79 (ps_of2 (σ := σ114) (hZ65.1.trans hX114_0.1) h79 h79b b159_83)) rfl (c_140 _) (by decide) (Nat.le_refl _) (Nat.le_refl _) (Nat.le_of_ble_eq_true rfl) dX9_areSpans_183 (fun w2 h => ?_)
                                  obtain ⟨σx91, rfl, hV90, hW93, hN92⟩ := h
                                  have hW94 := Cor.trans hC114 hW93
                                  have hN92 := hX114_0.trans hN92
                                  refine R_aload_n (pc := 186) dX9_areSpans_186 rfl rfl ?_
                                  refine R_iload (pc := 187) dX9_areSpans_187 rfl ?_
                                  refine R_iconst (pc := 189) (v := 0) dX9_areSpans_189 (by decide) ?_
                                  refine R_aload_n (pc := 190) dX9_areSpans_190 rfl rfl ?_
                                  refine g_X9_96 (pc := 191) (v := .ref 166) rfl dX9_areSpans_191 (c_140 _) rfl ?_
                                  refine R_iload (pc := 194) dX9_areSpans_194 rfl ?_
                                  have hx95 : vp_in (σ114.2.2.1 161 (Int32.toNatClampNeg (nI j114))) 20 := (vp_of_inR h79 (by decide))
                                  refine R_iaload (pc := 196) dX9_areSpans_196 (c_166 _) hx95 ?_
                                  refine R_iconst (pc := 197) (v := 1) dX9_areSpans_197 (by decide) ?_
                                  refine R_isub (pc := 198) dX9_areSpans_198 ?_
                                  refine k_X9_212 (pc := 199) (gn_X9_outIn _ (PS σ16 a) _ _ _ hV90 h81 (ps_of2 (σ := σ114) (hZ65.1.trans hX114_0.1) h81 h81b b165_86)) rfl (c_140 _) (by decide) (Nat.le_refl _) (Nat.le_refl _) (Nat.le_of_ble_eq_true rfl) dX9_areSpans_199 (fun w2 h => ?_)
                                  obtain ⟨σx97, rfl, hV96, hW99, hN98⟩ := h
                                  have hW100 := Cor.trans hW94 hW99
                                  have hN98 := hN92.trans hN98
                                  refine inc_6_3_1_i (pc := 202) dX9_areSpans_202 ?_
                                  have r101 : inR ((nI j114) + 1) 1 12 := inR_add (show inR (nI j114) 0 11 from hrg114) (show inR 1 1 1 from (inR_self _)) (by decide) (by decide)
                                  have e102 := ti_add (l := 1) (h := 12) (show inR (nI j114) 0 11 from hrg114) (show inR 1 1 1 from (inR_self _)) (by decide) (by decide)
                                  refine R_goto (pc := 205) 114 dX9_areSpans_205 (by decide) ?_
                                  rw [nI_1]
                                  exact ih114 (j114 + 1) _ _ _ (by omega) (by omega) hV96 hW100 hN98
                            · skip
                              refine R_ifeq (pc := 153) 202 dX9_areSpans_153 (by decide) (fun _ => ?_) (fun h => absurd (by decide) h)
                              refine inc_6_3_1_i (pc := 202) dX9_areSpans_202 ?_
                              have r104 : inR ((nI j114) + 1) 1 12 := inR_add (show inR (nI j114) 0 11 from hrg114) (show inR 1 1 1 from (inR_self _)) (by decide) (by decide)
                              have e105 := ti_add (l := 1) (h := 12) (show inR (nI j114) 0 11 from hrg114) (show inR 1 1 1 from (inR_self _)) (by decide) (by decide)
                              refine R_goto (pc := 205) 114 dX9_areSpans_205 (by decide) ?_
                              rw [nI_1]
                              exact ih114 (j114 + 1) _ _ _ (by omega) (by omega) hI114 hC114 hX114_0
                          · skip
                            refine R_ifeq (pc := 144) 202 dX9_areSpans_144 (by decide) (fun _ => ?_) (fun h => absurd (by decide) h)
                            refine inc_6_3_1_i (pc := 202) dX9_areSpans_202 ?_
                            have r107 : inR ((nI j114) + 1) 1 12 := inR_add (show inR (nI j114) 0 11 from hrg114) (show inR 1 1 1 from (inR_self _)) (by decide) (by decide)
                            have e108 := ti_add (l := 1) (h := 12) (show inR (nI j114) 0 11 from hrg114) (show inR 1 1 1 from (inR_self _)) (by decide) (by decide)
                            refine R_goto (pc := 205) 114 dX9_areSpans_205 (by decide) ?_
                            rw [nI_1]
                            exact ih114 (j114 + 1) _ _ _ (by omega) (by omega) hI114 hC114 hX114_0
                    exact HL114 12 0 _ _ _ (by omega) (by omega) hI87 hC87 hX87_0
                  · skip
                    refine R_iload_n (pc := 95) dX9_areSpans_95 rfl rfl ?_
                    refine R_iload_n (pc := 96) dX9_areSpans_96 rfl rfl ?_
                    refine R_iceq (pc := 97) 106 dX9_areSpans_97 (by decide) (fun b97_109 => ?_) (fun b97_109 => ?_)
                    · skip
                      refine inc_6_3_1_i (pc := 106) dX9_areSpans_106 ?_
                      have r110 : inR ((nI j87) + 1) 1 20 := inR_add (show inR (nI j87) 0 19 from hrg87) (show inR 1 1 1 from (inR_self _)) (by decide) (by decide)
                      have e111 := ti_add (l := 1) (h := 20) (show inR (nI j87) 0 19 from hrg87) (show inR 1 1 1 from (inR_self _)) (by decide) (by decide)
                      refine R_goto (pc := 109) 87 dX9_areSpans_109 (by decide) ?_
                      rw [nI_1]
                      exact ih87 (j87 + 1) _ (by omega) (by omega) hI87 hC87 hX87_0
                    · skip
                      refine R_aload_n (pc := 100) dX9_areSpans_100 rfl rfl ?_
                      refine R_iload_n (pc := 101) dX9_areSpans_101 rfl rfl ?_
                      refine R_iload_n (pc := 102) dX9_areSpans_102 rfl rfl ?_
                      refine k_X9_224 (pc := 103) (gn_X9_narrow _ (PS σ16 a) _ _ hI87 hrg87 (ps_of (σ := σ87) (hZ65.1.trans hX87_0.1) (by omega) b92_68 b97_109)) rfl (c_140 _) (by decide) (Nat.le_refl _) (Nat.le_refl _) (Nat.le_of_ble_eq_true rfl) dX9_areSpans_103 (fun w2 h => ?_)
                      obtain ⟨σx113, rfl, hV112, hW115, hN114⟩ := h
                      have hW116 := Cor.trans hC87 hW115
                      have hN114 := hX87_0.trans hN114
                      refine inc_6_3_1_i (pc := 106) dX9_areSpans_106 ?_
                      have r117 : inR ((nI j87) + 1) 1 20 := inR_add (show inR (nI j87) 0 19 from hrg87) (show inR 1 1 1 from (inR_self _)) (by decide) (by decide)
                      have e118 := ti_add (l := 1) (h := 20) (show inR (nI j87) 0 19 from hrg87) (show inR 1 1 1 from (inR_self _)) (by decide) (by decide)
                      refine R_goto (pc := 109) 87 dX9_areSpans_109 (by decide) ?_
                      rw [nI_1]
                      exact ih87 (j87 + 1) _ (by omega) (by omega) hV112 hW116 hN114
              exact HL87 20 0 _ (by omega) (by omega) hI65 hW26 (Nar.rfl' _ _)
      exact HL 800001 _ _ _ _ (ini_phi hX16_0) hI16 hW12 (ini_zr hX16_0)
    | succ q ih16 =>
      intro j16 σ16 hj hs16 hI16 hC16 hX16_0
      have hrg16 : inR (nI j16) 0 19 := inR_ix hs16 (show j16 < 20 by omega) (by decide) (by decide) (by decide)
      have hlt16 : j16 < 20 := by omega
      refine R_iload_n (pc := 16) dX9_areSpans_16 rfl rfl ?_
      refine R_bipush (pc := 17) (v := 20) dX9_areSpans_17 (by decide) ?_
      refine R_icge (pc := 19) 60 dX9_areSpans_19 (by decide) (fun h => False.elim (by have q1 := ti_le h; have q2 := ti_in (show inR (nI j16) 0 19 from hrg16); have q3 := ti_in (show inR 20 20 20 from (inR_self _)); have z0 : (0 : Int32).toInt = 0 := (by decide);  have z1 : (19 : Int32).toInt = 19 := (by decide);  have z2 : (20 : Int32).toInt = 20 := (by decide); omega)) (fun _ => ?_)
      refine R_aload_n (pc := 22) dX9_areSpans_22 rfl rfl ?_
      refine g_X9_87 (pc := 23) (v := .ref 163) rfl dX9_areSpans_23 (c_140 _) rfl ?_
      refine R_iload_n (pc := 26) dX9_areSpans_26 rfl rfl ?_
      refine R_iconst (pc := 27) (v := 0) dX9_areSpans_27 (by decide) ?_
      have hx120 : vp_in (nI j16) 20 := (vp_in_nI (by omega) (by decide))
      refine W_iastore (pc := 28) dX9_areSpans_28 (c_163 _) hx120 (a_163 _ _) ?_
      have hW121 := cor_sa 163 (upd (σ16.2.2.1 163) (Int32.toNatClampNeg (nI j16)) 0) hC16 rfl
      refine R_aload_n (pc := 29) dX9_areSpans_29 rfl rfl ?_
      refine g_X9_90 (pc := 30) (v := .ref 164) rfl dX9_areSpans_30 (c_140 _) rfl ?_
      refine R_iload_n (pc := 33) dX9_areSpans_33 rfl rfl ?_
      refine R_sipush (pc := 34) (v := 20000) dX9_areSpans_34 (by decide) ?_
      have hx122 : vp_in (nI j16) 20 := (vp_in_nI (by omega) (by decide))
      refine W_iastore (pc := 37) dX9_areSpans_37 (c_164 _) hx122 (a_164 _ _) ?_
      have hW123 := cor_sa 164 (upd ((uA σ16 163 (upd (σ16.2.2.1 163) (Int32.toNatClampNeg (nI j16)) 0)).2.2.1 164) (Int32.toNatClampNeg (nI j16)) 20000) hW121 rfl
      refine R_aload_n (pc := 38) dX9_areSpans_38 rfl rfl ?_
      refine g_X9_93 (pc := 39) (v := .ref 165) rfl dX9_areSpans_39 (c_140 _) rfl ?_
      refine R_iload_n (pc := 42) dX9_areSpans_42 rfl rfl ?_
      refine R_iconst (pc := 43) (v := 0) dX9_areSpans_43 (by decide) ?_
      have hx124 : vp_in (nI j16) 20 := (vp_in_nI (by omega) (by decide))
      refine W_iastore (pc := 44) dX9_areSpans_44 (c_165 _) hx124 (a_165 _ _) ?_
      have hW125 := cor_sa 165 (upd ((uA (uA σ16 163 (upd (σ16.2.2.1 163) (Int32.toNatClampNeg (nI j16)) 0)) 164 (upd ((uA σ16 163 (upd (σ16.2.2.1 163) (Int32.toNatClampNeg (nI j16)) 0)).2.2.1 164) (Int32.toNatClampNeg (nI j16)) 20000)).2.2.1 165) (Int32.toNatClampNeg (nI j16)) 0) hW123 rfl
      refine R_aload_n (pc := 45) dX9_areSpans_45 rfl rfl ?_
      refine g_X9_96 (pc := 46) (v := .ref 166) rfl dX9_areSpans_46 (c_140 _) rfl ?_
      refine R_iload_n (pc := 49) dX9_areSpans_49 rfl rfl ?_
      refine R_sipush (pc := 50) (v := 20000) dX9_areSpans_50 (by decide) ?_
      have hx126 : vp_in (nI j16) 20 := (vp_in_nI (by omega) (by decide))
      refine W_iastore (pc := 53) dX9_areSpans_53 (c_166 _) hx126 (a_166 _ _) ?_
      have hW127 := cor_sa 166 (upd ((uA (uA (uA σ16 163 (upd (σ16.2.2.1 163) (Int32.toNatClampNeg (nI j16)) 0)) 164 (upd ((uA σ16 163 (upd (σ16.2.2.1 163) (Int32.toNatClampNeg (nI j16)) 0)).2.2.1 164) (Int32.toNatClampNeg (nI j16)) 20000)) 165 (upd ((uA (uA σ16 163 (upd (σ16.2.2.1 163) (Int32.toNatClampNeg (nI j16)) 0)) 164 (upd ((uA σ16 163 (upd (σ16.2.2.1 163) (Int32.toNatClampNeg (nI j16)) 0)).2.2.1 164) (Int32.toNatClampNeg (nI j16)) 20000)).2.2.1 165) (Int32.toNatClampNeg (nI j16)) 0)).2.2.1 166) (Int32.toNatClampNeg (nI j16)) 20000) hW125 rfl
      refine inc_6_3_1_i (pc := 54) dX9_areSpans_54 ?_
      have r128 : inR ((nI j16) + 1) 1 20 := inR_add (show inR (nI j16) 0 19 from hrg16) (show inR 1 1 1 from (inR_self _)) (by decide) (by decide)
      have e129 := ti_add (l := 1) (h := 20) (show inR (nI j16) 0 19 from hrg16) (show inR 1 1 1 from (inR_self _)) (by decide) (by decide)
      refine R_goto (pc := 57) 16 dX9_areSpans_57 (by decide) ?_
      rw [nI_1]
      exact ih16 (j16 + 1) _ (by omega) (by omega) hI16 hW127 (ini_s hX16_0 (by omega))
  exact HL16 20 0 _ (by omega) (by omega) hV7 hW10 (ini_0 _)
