/-! methods on any state that keeps the invariant -/
theorem dX9_thereMany_0 : decode cX9_thereMany 0 = .ok (.iconst 0, 1) := by decide +kernel
theorem dX9_thereMany_1 : decode cX9_thereMany 1 = .ok (.istore_n 1, 1) := by decide +kernel
theorem dX9_thereMany_2 : decode cX9_thereMany 2 = .ok (.iload_n 1, 1) := by decide +kernel
theorem dX9_thereMany_3 : decode cX9_thereMany 3 = .ok (.aload_n 0, 1) := by decide +kernel
theorem dX9_thereMany_4 : decode cX9_thereMany 4 = .ok (.getfield 117, 3) := by decide +kernel
theorem dX9_thereMany_7 : decode cX9_thereMany 7 = .ok (.if_icmp .ge 22, 3) := by decide +kernel
theorem dX9_thereMany_10 : decode cX9_thereMany 10 = .ok (.aload_n 0, 1) := by decide +kernel
theorem dX9_thereMany_11 : decode cX9_thereMany 11 = .ok (.getfield 32, 3) := by decide +kernel
theorem dX9_thereMany_14 : decode cX9_thereMany 14 = .ok (.iload_n 1, 1) := by decide +kernel
theorem dX9_thereMany_15 : decode cX9_thereMany 15 = .ok (.iaload, 1) := by decide +kernel
theorem dX9_thereMany_16 : decode cX9_thereMany 16 = .ok (.aload_n 0, 1) := by decide +kernel
theorem dX9_thereMany_17 : decode cX9_thereMany 17 = .ok (.getfield 45, 3) := by decide +kernel
theorem dX9_thereMany_20 : decode cX9_thereMany 20 = .ok (.if_icmp .gt 9, 3) := by decide +kernel
theorem dX9_thereMany_23 : decode cX9_thereMany 23 = .ok (.iinc 1 1, 3) := by decide +kernel
theorem dX9_thereMany_26 : decode cX9_thereMany 26 = .ok (.goto (-24), 3) := by decide +kernel
theorem dX9_thereMany_29 : decode cX9_thereMany 29 = .ok (.iload_n 1, 1) := by decide +kernel
theorem dX9_thereMany_30 : decode cX9_thereMany 30 = .ok (.ireturn, 1) := by decide +kernel
set_option maxRecDepth 100000 in
set_option maxHeartbeats 40000000 in
theorem gx_X9_thereMany {G : vG} {l : Launch} (σ : Sg)  (hI : Inv σ) : Sp G l yX9_thereMany cX9_thereMany 2 (some .int) 0 0 0 [.ref 140] (WW σ) (QI (fun x w2 => w2 = WW σ ∧ inR x 0 20)) := by
  refine Sp_of_R [(some (.ref 140)), none] [none] rfl (by simp) rfl (Nat.le_of_ble_eq_true rfl) ?_
  refine R_iconst (pc := 0) (v := 0) dX9_thereMany_0 (by decide) ?_
  refine st_2_1_i_a (pc := 1) dX9_thereMany_1 ?_
  have HL2 : ∀ (q j2 : Nat), j2 + q = 20 → 0 ≤ j2 → R G l yX9_thereMany cX9_thereMany 2 (some .int) 0 0 0 (QI (fun x w2 => w2 = WW σ ∧ inR x 0 20)) 2 [(some (.ref 140)), (some (.int (nI j2)))] [] (WW σ) 0 0 := by
    intro q
    induction q with
    | zero =>
      intro j2 hj hs2
      obtain rfl : j2 = 20 := by omega
      refine R_iload_n (pc := 2) dX9_thereMany_2 rfl rfl ?_
      refine R_aload_n (pc := 3) dX9_thereMany_3 rfl rfl ?_
      refine g_X9_117 (pc := 4) (v := .int (σ.1 14000)) rfl dX9_thereMany_4 (c_140 _) rfl ?_
      refine R_icge (pc := 7) 29 dX9_thereMany_7 (by decide) (fun _ => ?_) (fun h => absurd (Int32.not_lt.mp (inR_up (iv_14000 hI) (Int32.le_refl _) (by decide)).2) h)
      refine R_iload_n (pc := 29) dX9_thereMany_29 rfl rfl ?_
      exact R_iret (pc := 30) dX9_thereMany_30 rfl rfl (Nat.zero_le _) (Nat.zero_le _) ⟨_, rfl, rfl, (show inR (nI 20) 0 20 from ⟨by decide, by decide⟩)⟩
    | succ q ih2 =>
      intro j2 hj hs2
      have hrg2 : inR (nI j2) 0 19 := inR_ix hs2 (show j2 < 20 by omega) (by decide) (by decide) (by decide)
      have hlt2 : j2 < 20 := by omega
      refine R_iload_n (pc := 2) dX9_thereMany_2 rfl rfl ?_
      refine R_aload_n (pc := 3) dX9_thereMany_3 rfl rfl ?_
      refine g_X9_117 (pc := 4) (v := .int (σ.1 14000)) rfl dX9_thereMany_4 (c_140 _) rfl ?_
      refine R_icge (pc := 7) 29 dX9_thereMany_7 (by decide) (fun b7_2 => ?_) (fun b7_2 => ?_)
      · skip
        refine R_iload_n (pc := 29) dX9_thereMany_29 rfl rfl ?_
        exact R_iret (pc := 30) dX9_thereMany_30 rfl rfl (Nat.zero_le _) (Nat.zero_le _) ⟨_, rfl, rfl, (inR_up hrg2 (by decide) (by decide))⟩
      · skip
        refine R_aload_n (pc := 10) dX9_thereMany_10 rfl rfl ?_
        refine g_X9_32 (pc := 11) (v := .ref 148) rfl dX9_thereMany_11 (c_140 _) rfl ?_
        refine R_iload_n (pc := 14) dX9_thereMany_14 rfl rfl ?_
        have hx3 : vp_in (nI j2) 20 := (vp_in_nI (by omega) (by decide))
        refine R_iaload (pc := 15) dX9_thereMany_15 (c_148 _) hx3 ?_
        refine R_aload_n (pc := 16) dX9_thereMany_16 rfl rfl ?_
        refine g_X9_45 (pc := 17) (v := .int (σ.1 14013)) rfl dX9_thereMany_17 (c_140 _) rfl ?_
        refine R_icgt (pc := 20) 29 dX9_thereMany_20 (by decide) (fun b20_4 => ?_) (fun b20_4 => ?_)
        · skip
          refine R_iload_n (pc := 29) dX9_thereMany_29 rfl rfl ?_
          exact R_iret (pc := 30) dX9_thereMany_30 rfl rfl (Nat.zero_le _) (Nat.zero_le _) ⟨_, rfl, rfl, (inR_up hrg2 (by decide) (by decide))⟩
        · skip
          refine inc_2_1_1_a (pc := 23) dX9_thereMany_23 ?_
          have r5 : inR ((nI j2) + 1) 1 20 := inR_add (show inR (nI j2) 0 19 from hrg2) (show inR 1 1 1 from (inR_self _)) (by decide) (by decide)
          have e6 := ti_add (l := 1) (h := 20) (show inR (nI j2) 0 19 from hrg2) (show inR 1 1 1 from (inR_self _)) (by decide) (by decide)
          refine R_goto (pc := 26) 2 dX9_thereMany_26 (by decide) ?_
          rw [nI_1]
          exact ih2 (j2 + 1) (by omega) (by omega)
  exact HL2 20 0 (by omega) (by omega)
theorem dX9_isThere_0 : decode cX9_isThere 0 = .ok (.iload_n 1, 1) := by decide +kernel
theorem dX9_isThere_1 : decode cX9_isThere 1 = .ok (.iconst 0, 1) := by decide +kernel
theorem dX9_isThere_2 : decode cX9_isThere 2 = .ok (.aload_n 0, 1) := by decide +kernel
theorem dX9_isThere_3 : decode cX9_isThere 3 = .ok (.invokevirtual 120, 3) := by decide +kernel
theorem dX9_isThere_6 : decode cX9_isThere 6 = .ok (.iconst 1, 1) := by decide +kernel
theorem dX9_isThere_7 : decode cX9_isThere 7 = .ok (.isub, 1) := by decide +kernel
theorem dX9_isThere_8 : decode cX9_isThere 8 = .ok (.invokestatic 124, 3) := by decide +kernel
theorem dX9_isThere_11 : decode cX9_isThere 11 = .ok (.ireturn, 1) := by decide +kernel
set_option maxRecDepth 100000 in
set_option maxHeartbeats 40000000 in
theorem gx_X9_isThere {G : vG} {l : Launch} (σ : Sg) (c : Int32) (hI : Inv σ) : Sp G l yX9_isThere cX9_isThere 2 (some .boolean) 1 0 0 [.ref 140, .int c] (WW σ) (QI (fun x w2 => w2 = WW σ ∧ (inR c 0 19 ∧ x = 1 ∨ x = 0))) := by
  refine Sp_of_R [(some (.ref 140)), (some (.int c))] [] rfl (by simp) rfl (Nat.le_of_ble_eq_true rfl) ?_
  refine R_iload_n (pc := 0) dX9_isThere_0 rfl rfl ?_
  refine R_iconst (pc := 1) (v := 0) dX9_isThere_1 (by decide) ?_
  refine R_aload_n (pc := 2) dX9_isThere_2 rfl rfl ?_
  refine k_X9_120 (pc := 3) (gx_X9_thereMany _ hI) rfl (c_140 _) (by decide) (Nat.le_refl _) (Nat.le_refl _) (Nat.le_of_ble_eq_true rfl) dX9_isThere_3 (fun y1 w2 h => ?_)
  obtain ⟨rfl, hr2⟩ := h
  refine R_iconst (pc := 6) (v := 1) dX9_isThere_6 (by decide) ?_
  refine R_isub (pc := 7) dX9_isThere_7 ?_
  have r3 : inR (y1 - 1) (-1) 19 := inR_sub (show inR y1 0 20 from hr2) (show inR 1 1 1 from (inR_self _)) (by decide) (by decide)
  have e4 := ti_sub (l := (-1)) (h := 19) (show inR y1 0 20 from hr2) (show inR 1 1 1 from (inR_self _)) (by decide) (by decide)
  refine k_X9_124 (pc := 8) (sp_X9_in _ _ _ _) rfl (by decide) (Nat.le_refl _) (Nat.le_refl _) (Nat.le_of_ble_eq_true rfl) dX9_isThere_8 (fun x w2 h => ?_)
  rcases h with ⟨rfl, ⟨h5, rfl⟩ | ⟨h5, rfl⟩⟩
  · skip
    exact R_iret (pc := 11) dX9_isThere_11 rfl rfl (Nat.zero_le _) (Nat.zero_le _) ⟨_, rfl, rfl, Or.inl ⟨(show inR c 0 19 from of_ti (by have q0 := e4; have q1 := ti_in h5; have q2 := ti_in hr2; have q3 := ti_in r3; have z0 : (-1 : Int32).toInt = -1 := (by decide); have z1 : (0 : Int32).toInt = 0 := (by decide); have z2 : (1 : Int32).toInt = 1 := (by decide); have z3 : (19 : Int32).toInt = 19 := (by decide); have z4 : (20 : Int32).toInt = 20 := (by decide); omega) (by have q0 := e4; have q1 := ti_in h5; have q2 := ti_in hr2; have q3 := ti_in r3; have z0 : (-1 : Int32).toInt = -1 := (by decide); have z1 : (0 : Int32).toInt = 0 := (by decide); have z2 : (1 : Int32).toInt = 1 := (by decide); have z3 : (19 : Int32).toInt = 19 := (by decide); have z4 : (20 : Int32).toInt = 20 := (by decide); omega)), rfl⟩⟩
  · skip
    exact R_iret (pc := 11) dX9_isThere_11 rfl rfl (Nat.zero_le _) (Nat.zero_le _) ⟨_, rfl, rfl, Or.inr rfl⟩
theorem dX9_isPublisher_0 : decode cX9_isPublisher 0 = .ok (.iload_n 0, 1) := by decide +kernel
theorem dX9_isPublisher_1 : decode cX9_isPublisher 1 = .ok (.iconst 0, 1) := by decide +kernel
theorem dX9_isPublisher_2 : decode cX9_isPublisher 2 = .ok (.iconst 4, 1) := by decide +kernel
theorem dX9_isPublisher_3 : decode cX9_isPublisher 3 = .ok (.invokestatic 124, 3) := by decide +kernel
theorem dX9_isPublisher_6 : decode cX9_isPublisher 6 = .ok (.ireturn, 1) := by decide +kernel
set_option maxRecDepth 100000 in
set_option maxHeartbeats 40000000 in
theorem gx_X9_isPublisher {G : vG} {l : Launch} (w : VW) (c : Int32) : Sp G l yX9_isPublisher cX9_isPublisher 1 (some .boolean) 1 0 0 [.int c] (w) (QI (fun x w2 => w2 = w ∧ (inR c 0 4 ∧ x = 1 ∨ x = 0))) := by
  refine Sp_of_R [(some (.int c))] [] rfl (by simp) rfl (Nat.le_of_ble_eq_true rfl) ?_
  refine R_iload_n (pc := 0) dX9_isPublisher_0 rfl rfl ?_
  refine R_iconst (pc := 1) (v := 0) dX9_isPublisher_1 (by decide) ?_
  refine R_iconst (pc := 2) (v := 4) dX9_isPublisher_2 (by decide) ?_
  refine k_X9_124 (pc := 3) (sp_X9_in _ _ _ _) rfl (by decide) (Nat.le_refl _) (Nat.le_refl _) (Nat.le_of_ble_eq_true rfl) dX9_isPublisher_3 (fun x w2 h => ?_)
  rcases h with ⟨rfl, ⟨h1, rfl⟩ | ⟨h1, rfl⟩⟩
  · skip
    exact R_iret (pc := 6) dX9_isPublisher_6 rfl rfl (Nat.zero_le _) (Nat.zero_le _) ⟨_, rfl, rfl, Or.inl ⟨h1, rfl⟩⟩
  · skip
    exact R_iret (pc := 6) dX9_isPublisher_6 rfl rfl (Nat.zero_le _) (Nat.zero_le _) ⟨_, rfl, rfl, Or.inr rfl⟩
theorem dX9_isDay_0 : decode cX9_isDay 0 = .ok (.iload_n 0, 1) := by decide +kernel
theorem dX9_isDay_1 : decode cX9_isDay 1 = .ok (.iconst 0, 1) := by decide +kernel
theorem dX9_isDay_2 : decode cX9_isDay 2 = .ok (.sipush 20000, 3) := by decide +kernel
theorem dX9_isDay_5 : decode cX9_isDay 5 = .ok (.invokestatic 124, 3) := by decide +kernel
theorem dX9_isDay_8 : decode cX9_isDay 8 = .ok (.ireturn, 1) := by decide +kernel
theorem dX9_card_0 : decode cX9_card 0 = .ok (.iload_n 1, 1) := by decide +kernel
theorem dX9_card_1 : decode cX9_card 1 = .ok (.iconst 0, 1) := by decide +kernel
theorem dX9_card_2 : decode cX9_card 2 = .ok (.iconst 3, 1) := by decide +kernel
theorem dX9_card_3 : decode cX9_card 3 = .ok (.invokestatic 124, 3) := by decide +kernel
theorem dX9_card_6 : decode cX9_card 6 = .ok (.ifCond .eq 20, 3) := by decide +kernel
theorem dX9_card_9 : decode cX9_card 9 = .ok (.iload_n 2, 1) := by decide +kernel
theorem dX9_card_10 : decode cX9_card 10 = .ok (.invokestatic 128, 3) := by decide +kernel
theorem dX9_card_13 : decode cX9_card 13 = .ok (.ifCond .eq 13, 3) := by decide +kernel
theorem dX9_card_16 : decode cX9_card 16 = .ok (.iload 4, 2) := by decide +kernel
theorem dX9_card_18 : decode cX9_card 18 = .ok (.iconst 0, 1) := by decide +kernel
theorem dX9_card_19 : decode cX9_card 19 = .ok (.iconst 4, 1) := by decide +kernel
theorem dX9_card_20 : decode cX9_card 20 = .ok (.invokestatic 124, 3) := by decide +kernel
theorem dX9_card_23 : decode cX9_card 23 = .ok (.ifCond .ne 6, 3) := by decide +kernel
theorem dX9_card_26 : decode cX9_card 26 = .ok (.bipush (-2), 2) := by decide +kernel
theorem dX9_card_28 : decode cX9_card 28 = .ok (.ireturn, 1) := by decide +kernel
theorem dX9_card_29 : decode cX9_card 29 = .ok (.iload_n 3, 1) := by decide +kernel
theorem dX9_card_30 : decode cX9_card 30 = .ok (.iconst 0, 1) := by decide +kernel
theorem dX9_card_31 : decode cX9_card 31 = .ok (.bipush 99, 2) := by decide +kernel
theorem dX9_card_33 : decode cX9_card 33 = .ok (.invokestatic 124, 3) := by decide +kernel
theorem dX9_card_36 : decode cX9_card 36 = .ok (.ifCond .eq 25, 3) := by decide +kernel
theorem dX9_card_39 : decode cX9_card 39 = .ok (.iload 7, 2) := by decide +kernel
theorem dX9_card_41 : decode cX9_card 41 = .ok (.iconst 0, 1) := by decide +kernel
theorem dX9_card_42 : decode cX9_card 42 = .ok (.iconst 4, 1) := by decide +kernel
theorem dX9_card_43 : decode cX9_card 43 = .ok (.invokestatic 124, 3) := by decide +kernel
theorem dX9_card_46 : decode cX9_card 46 = .ok (.ifCond .eq 15, 3) := by decide +kernel
theorem dX9_card_49 : decode cX9_card 49 = .ok (.iload 8, 2) := by decide +kernel
theorem dX9_card_51 : decode cX9_card 51 = .ok (.iconst (-1), 1) := by decide +kernel
theorem dX9_card_52 : decode cX9_card 52 = .ok (.sipush 20000, 3) := by decide +kernel
theorem dX9_card_55 : decode cX9_card 55 = .ok (.invokestatic 124, 3) := by decide +kernel
theorem dX9_card_58 : decode cX9_card 58 = .ok (.ifCond .ne 6, 3) := by decide +kernel
theorem dX9_card_61 : decode cX9_card 61 = .ok (.bipush (-3), 2) := by decide +kernel
theorem dX9_card_63 : decode cX9_card 63 = .ok (.ireturn, 1) := by decide +kernel
theorem dX9_card_64 : decode cX9_card 64 = .ok (.aload_n 0, 1) := by decide +kernel
theorem dX9_card_65 : decode cX9_card 65 = .ok (.getfield 117, 3) := by decide +kernel
theorem dX9_card_68 : decode cX9_card 68 = .ok (.bipush 20, 2) := by decide +kernel
theorem dX9_card_70 : decode cX9_card 70 = .ok (.if_icmp .ne 6, 3) := by decide +kernel
theorem dX9_card_73 : decode cX9_card 73 = .ok (.bipush (-5), 2) := by decide +kernel
theorem dX9_card_75 : decode cX9_card 75 = .ok (.ireturn, 1) := by decide +kernel
theorem dX9_card_76 : decode cX9_card 76 = .ok (.aload_n 0, 1) := by decide +kernel
theorem dX9_card_77 : decode cX9_card 77 = .ok (.getfield 117, 3) := by decide +kernel
theorem dX9_card_80 : decode cX9_card 80 = .ok (.istore 9, 2) := by decide +kernel
theorem dX9_card_82 : decode cX9_card 82 = .ok (.aload_n 0, 1) := by decide +kernel
theorem dX9_card_83 : decode cX9_card 83 = .ok (.getfield 7, 3) := by decide +kernel
theorem dX9_card_86 : decode cX9_card 86 = .ok (.iload 9, 2) := by decide +kernel
theorem dX9_card_88 : decode cX9_card 88 = .ok (.iload_n 1, 1) := by decide +kernel
theorem dX9_card_89 : decode cX9_card 89 = .ok (.iastore, 1) := by decide +kernel
theorem dX9_card_90 : decode cX9_card 90 = .ok (.aload_n 0, 1) := by decide +kernel
theorem dX9_card_91 : decode cX9_card 91 = .ok (.getfield 13, 3) := by decide +kernel
theorem dX9_card_94 : decode cX9_card 94 = .ok (.iload 9, 2) := by decide +kernel
theorem dX9_card_96 : decode cX9_card 96 = .ok (.iload_n 2, 1) := by decide +kernel
theorem dX9_card_97 : decode cX9_card 97 = .ok (.iastore, 1) := by decide +kernel
theorem dX9_card_98 : decode cX9_card 98 = .ok (.aload_n 0, 1) := by decide +kernel
theorem dX9_card_99 : decode cX9_card 99 = .ok (.getfield 16, 3) := by decide +kernel
theorem dX9_card_102 : decode cX9_card 102 = .ok (.iload 9, 2) := by decide +kernel
theorem dX9_card_104 : decode cX9_card 104 = .ok (.iload_n 3, 1) := by decide +kernel
theorem dX9_card_105 : decode cX9_card 105 = .ok (.iastore, 1) := by decide +kernel
theorem dX9_card_106 : decode cX9_card 106 = .ok (.aload_n 0, 1) := by decide +kernel
theorem dX9_card_107 : decode cX9_card 107 = .ok (.getfield 19, 3) := by decide +kernel
theorem dX9_card_110 : decode cX9_card 110 = .ok (.iload 9, 2) := by decide +kernel
theorem dX9_card_112 : decode cX9_card 112 = .ok (.iload 4, 2) := by decide +kernel
theorem dX9_card_114 : decode cX9_card 114 = .ok (.iastore, 1) := by decide +kernel
theorem dX9_card_115 : decode cX9_card 115 = .ok (.aload_n 0, 1) := by decide +kernel
theorem dX9_card_116 : decode cX9_card 116 = .ok (.getfield 22, 3) := by decide +kernel
theorem dX9_card_119 : decode cX9_card 119 = .ok (.iload 9, 2) := by decide +kernel
theorem dX9_card_121 : decode cX9_card 121 = .ok (.lload 5, 2) := by decide +kernel
theorem dX9_card_123 : decode cX9_card 123 = .ok (.lastore, 1) := by decide +kernel
theorem dX9_card_124 : decode cX9_card 124 = .ok (.aload_n 0, 1) := by decide +kernel
theorem dX9_card_125 : decode cX9_card 125 = .ok (.getfield 26, 3) := by decide +kernel
theorem dX9_card_128 : decode cX9_card 128 = .ok (.iload 9, 2) := by decide +kernel
theorem dX9_card_130 : decode cX9_card 130 = .ok (.iload 7, 2) := by decide +kernel
theorem dX9_card_132 : decode cX9_card 132 = .ok (.iastore, 1) := by decide +kernel
theorem dX9_card_133 : decode cX9_card 133 = .ok (.aload_n 0, 1) := by decide +kernel
theorem dX9_card_134 : decode cX9_card 134 = .ok (.getfield 29, 3) := by decide +kernel
theorem dX9_card_137 : decode cX9_card 137 = .ok (.iload 9, 2) := by decide +kernel
theorem dX9_card_139 : decode cX9_card 139 = .ok (.iload 8, 2) := by decide +kernel
theorem dX9_card_141 : decode cX9_card 141 = .ok (.iastore, 1) := by decide +kernel
theorem dX9_card_142 : decode cX9_card 142 = .ok (.aload_n 0, 1) := by decide +kernel
theorem dX9_card_143 : decode cX9_card 143 = .ok (.getfield 32, 3) := by decide +kernel
theorem dX9_card_146 : decode cX9_card 146 = .ok (.iload 9, 2) := by decide +kernel
theorem dX9_card_148 : decode cX9_card 148 = .ok (.aload_n 0, 1) := by decide +kernel
theorem dX9_card_149 : decode cX9_card 149 = .ok (.getfield 132, 3) := by decide +kernel
theorem dX9_card_152 : decode cX9_card 152 = .ok (.iastore, 1) := by decide +kernel
theorem dX9_card_153 : decode cX9_card 153 = .ok (.iconst 0, 1) := by decide +kernel
theorem dX9_card_154 : decode cX9_card 154 = .ok (.istore 10, 2) := by decide +kernel
theorem dX9_card_156 : decode cX9_card 156 = .ok (.iload 10, 2) := by decide +kernel
theorem dX9_card_158 : decode cX9_card 158 = .ok (.bipush 8, 2) := by decide +kernel
theorem dX9_card_160 : decode cX9_card 160 = .ok (.if_icmp .ge 23, 3) := by decide +kernel
theorem dX9_card_163 : decode cX9_card 163 = .ok (.aload_n 0, 1) := by decide +kernel
theorem dX9_card_164 : decode cX9_card 164 = .ok (.getfield 72, 3) := by decide +kernel
theorem dX9_card_167 : decode cX9_card 167 = .ok (.bipush 8, 2) := by decide +kernel
theorem dX9_card_169 : decode cX9_card 169 = .ok (.iload 9, 2) := by decide +kernel
theorem dX9_card_171 : decode cX9_card 171 = .ok (.imul, 1) := by decide +kernel
theorem dX9_card_172 : decode cX9_card 172 = .ok (.iload 10, 2) := by decide +kernel
theorem dX9_card_174 : decode cX9_card 174 = .ok (.iadd, 1) := by decide +kernel
theorem dX9_card_175 : decode cX9_card 175 = .ok (.iconst 2, 1) := by decide +kernel
theorem dX9_card_176 : decode cX9_card 176 = .ok (.iastore, 1) := by decide +kernel
theorem dX9_card_177 : decode cX9_card 177 = .ok (.iinc 10 1, 3) := by decide +kernel
theorem dX9_card_180 : decode cX9_card 180 = .ok (.goto (-24), 3) := by decide +kernel
theorem dX9_card_183 : decode cX9_card 183 = .ok (.aload_n 0, 1) := by decide +kernel
theorem dX9_card_184 : decode cX9_card 184 = .ok (.dup, 1) := by decide +kernel
theorem dX9_card_185 : decode cX9_card 185 = .ok (.getfield 117, 3) := by decide +kernel
theorem dX9_card_188 : decode cX9_card 188 = .ok (.iconst 1, 1) := by decide +kernel
theorem dX9_card_189 : decode cX9_card 189 = .ok (.iadd, 1) := by decide +kernel
theorem dX9_card_190 : decode cX9_card 190 = .ok (.putfield 117, 3) := by decide +kernel
theorem dX9_card_193 : decode cX9_card 193 = .ok (.iload 9, 2) := by decide +kernel
theorem dX9_card_195 : decode cX9_card 195 = .ok (.ireturn, 1) := by decide +kernel
theorem dX9_caption_0 : decode cX9_caption 0 = .ok (.aload_n 0, 1) := by decide +kernel
theorem dX9_caption_1 : decode cX9_caption 1 = .ok (.iload_n 1, 1) := by decide +kernel
theorem dX9_caption_2 : decode cX9_caption 2 = .ok (.invokevirtual 135, 3) := by decide +kernel
theorem dX9_caption_5 : decode cX9_caption 5 = .ok (.ifCond .ne 6, 3) := by decide +kernel
theorem dX9_caption_8 : decode cX9_caption 8 = .ok (.bipush (-2), 2) := by decide +kernel
theorem dX9_caption_10 : decode cX9_caption 10 = .ok (.ireturn, 1) := by decide +kernel
theorem dX9_caption_11 : decode cX9_caption 11 = .ok (.iload 4, 2) := by decide +kernel
theorem dX9_caption_13 : decode cX9_caption 13 = .ok (.iconst 0, 1) := by decide +kernel
theorem dX9_caption_14 : decode cX9_caption 14 = .ok (.bipush 8, 2) := by decide +kernel
theorem dX9_caption_16 : decode cX9_caption 16 = .ok (.invokestatic 124, 3) := by decide +kernel
theorem dX9_caption_19 : decode cX9_caption 19 = .ok (.ifCond .ne 6, 3) := by decide +kernel
theorem dX9_caption_22 : decode cX9_caption 22 = .ok (.bipush (-3), 2) := by decide +kernel
theorem dX9_caption_24 : decode cX9_caption 24 = .ok (.ireturn, 1) := by decide +kernel
theorem dX9_caption_25 : decode cX9_caption 25 = .ok (.iconst 0, 1) := by decide +kernel
theorem dX9_caption_26 : decode cX9_caption 26 = .ok (.istore 5, 2) := by decide +kernel
theorem dX9_caption_28 : decode cX9_caption 28 = .ok (.iload 5, 2) := by decide +kernel
theorem dX9_caption_30 : decode cX9_caption 30 = .ok (.iload 4, 2) := by decide +kernel
theorem dX9_caption_32 : decode cX9_caption 32 = .ok (.if_icmp .ge 34, 3) := by decide +kernel
theorem dX9_caption_35 : decode cX9_caption 35 = .ok (.lload_n 2, 1) := by decide +kernel
theorem dX9_caption_36 : decode cX9_caption 36 = .ok (.bipush 8, 2) := by decide +kernel
theorem dX9_caption_38 : decode cX9_caption 38 = .ok (.iload 5, 2) := by decide +kernel
theorem dX9_caption_40 : decode cX9_caption 40 = .ok (.imul, 1) := by decide +kernel
theorem dX9_caption_41 : decode cX9_caption 41 = .ok (.lshr, 1) := by decide +kernel
theorem dX9_caption_42 : decode cX9_caption 42 = .ok (.ldc2_w 138, 3) := by decide +kernel
theorem dX9_caption_45 : decode cX9_caption 45 = .ok (.land, 1) := by decide +kernel
theorem dX9_caption_46 : decode cX9_caption 46 = .ok (.l2i, 1) := by decide +kernel
theorem dX9_caption_47 : decode cX9_caption 47 = .ok (.bipush 97, 2) := by decide +kernel
theorem dX9_caption_49 : decode cX9_caption 49 = .ok (.bipush 122, 2) := by decide +kernel
theorem dX9_caption_51 : decode cX9_caption 51 = .ok (.invokestatic 124, 3) := by decide +kernel
theorem dX9_caption_54 : decode cX9_caption 54 = .ok (.ifCond .ne 6, 3) := by decide +kernel
theorem dX9_caption_57 : decode cX9_caption 57 = .ok (.bipush (-3), 2) := by decide +kernel
theorem dX9_caption_59 : decode cX9_caption 59 = .ok (.ireturn, 1) := by decide +kernel
theorem dX9_caption_60 : decode cX9_caption 60 = .ok (.iinc 5 1, 3) := by decide +kernel
theorem dX9_caption_63 : decode cX9_caption 63 = .ok (.goto (-35), 3) := by decide +kernel
theorem dX9_caption_66 : decode cX9_caption 66 = .ok (.iconst 0, 1) := by decide +kernel
theorem dX9_caption_67 : decode cX9_caption 67 = .ok (.istore 5, 2) := by decide +kernel
theorem dX9_caption_69 : decode cX9_caption 69 = .ok (.iload 5, 2) := by decide +kernel
theorem dX9_caption_71 : decode cX9_caption 71 = .ok (.iload 4, 2) := by decide +kernel
theorem dX9_caption_73 : decode cX9_caption 73 = .ok (.if_icmp .ge 33, 3) := by decide +kernel
theorem dX9_caption_76 : decode cX9_caption 76 = .ok (.aload_n 0, 1) := by decide +kernel
theorem dX9_caption_77 : decode cX9_caption 77 = .ok (.getfield 38, 3) := by decide +kernel
theorem dX9_caption_80 : decode cX9_caption 80 = .ok (.bipush 8, 2) := by decide +kernel
theorem dX9_caption_82 : decode cX9_caption 82 = .ok (.iload_n 1, 1) := by decide +kernel
theorem dX9_caption_83 : decode cX9_caption 83 = .ok (.imul, 1) := by decide +kernel
theorem dX9_caption_84 : decode cX9_caption 84 = .ok (.iload 5, 2) := by decide +kernel
theorem dX9_caption_86 : decode cX9_caption 86 = .ok (.iadd, 1) := by decide +kernel
theorem dX9_caption_87 : decode cX9_caption 87 = .ok (.lload_n 2, 1) := by decide +kernel
theorem dX9_caption_88 : decode cX9_caption 88 = .ok (.bipush 8, 2) := by decide +kernel
theorem dX9_caption_90 : decode cX9_caption 90 = .ok (.iload 5, 2) := by decide +kernel
theorem dX9_caption_92 : decode cX9_caption 92 = .ok (.imul, 1) := by decide +kernel
theorem dX9_caption_93 : decode cX9_caption 93 = .ok (.lshr, 1) := by decide +kernel
theorem dX9_caption_94 : decode cX9_caption 94 = .ok (.ldc2_w 138, 3) := by decide +kernel
theorem dX9_caption_97 : decode cX9_caption 97 = .ok (.land, 1) := by decide +kernel
theorem dX9_caption_98 : decode cX9_caption 98 = .ok (.l2i, 1) := by decide +kernel
theorem dX9_caption_99 : decode cX9_caption 99 = .ok (.iastore, 1) := by decide +kernel
theorem dX9_caption_100 : decode cX9_caption 100 = .ok (.iinc 5 1, 3) := by decide +kernel
theorem dX9_caption_103 : decode cX9_caption 103 = .ok (.goto (-34), 3) := by decide +kernel
theorem dX9_caption_106 : decode cX9_caption 106 = .ok (.aload_n 0, 1) := by decide +kernel
theorem dX9_caption_107 : decode cX9_caption 107 = .ok (.getfield 35, 3) := by decide +kernel
theorem dX9_caption_110 : decode cX9_caption 110 = .ok (.iload_n 1, 1) := by decide +kernel
theorem dX9_caption_111 : decode cX9_caption 111 = .ok (.iload 4, 2) := by decide +kernel
theorem dX9_caption_113 : decode cX9_caption 113 = .ok (.iastore, 1) := by decide +kernel
theorem dX9_caption_114 : decode cX9_caption 114 = .ok (.iconst 1, 1) := by decide +kernel
theorem dX9_caption_115 : decode cX9_caption 115 = .ok (.ireturn, 1) := by decide +kernel
theorem dX9_days_0 : decode cX9_days 0 = .ok (.iload_n 1, 1) := by decide +kernel
theorem dX9_days_1 : decode cX9_days 1 = .ok (.iconst 1, 1) := by decide +kernel
theorem dX9_days_2 : decode cX9_days 2 = .ok (.bipush 99, 2) := by decide +kernel
theorem dX9_days_4 : decode cX9_days 4 = .ok (.invokestatic 124, 3) := by decide +kernel
theorem dX9_days_7 : decode cX9_days 7 = .ok (.ifCond .eq 15, 3) := by decide +kernel
theorem dX9_days_10 : decode cX9_days 10 = .ok (.aload_n 0, 1) := by decide +kernel
theorem dX9_days_11 : decode cX9_days 11 = .ok (.getfield 132, 3) := by decide +kernel
theorem dX9_days_14 : decode cX9_days 14 = .ok (.iload_n 1, 1) := by decide +kernel
theorem dX9_days_15 : decode cX9_days 15 = .ok (.iadd, 1) := by decide +kernel
theorem dX9_days_16 : decode cX9_days 16 = .ok (.sipush 999, 3) := by decide +kernel
theorem dX9_days_19 : decode cX9_days 19 = .ok (.if_icmp .le 6, 3) := by decide +kernel
theorem dX9_days_22 : decode cX9_days 22 = .ok (.bipush (-3), 2) := by decide +kernel
theorem dX9_days_24 : decode cX9_days 24 = .ok (.ireturn, 1) := by decide +kernel
theorem dX9_days_25 : decode cX9_days 25 = .ok (.aload_n 0, 1) := by decide +kernel
theorem dX9_days_26 : decode cX9_days 26 = .ok (.dup, 1) := by decide +kernel
theorem dX9_days_27 : decode cX9_days 27 = .ok (.getfield 132, 3) := by decide +kernel
theorem dX9_days_30 : decode cX9_days 30 = .ok (.iload_n 1, 1) := by decide +kernel
theorem dX9_days_31 : decode cX9_days 31 = .ok (.iadd, 1) := by decide +kernel
theorem dX9_days_32 : decode cX9_days 32 = .ok (.putfield 132, 3) := by decide +kernel
theorem dX9_days_35 : decode cX9_days 35 = .ok (.aload_n 0, 1) := by decide +kernel
theorem dX9_days_36 : decode cX9_days 36 = .ok (.getfield 132, 3) := by decide +kernel
theorem dX9_days_39 : decode cX9_days 39 = .ok (.ireturn, 1) := by decide +kernel
theorem dX9_set_0 : decode cX9_set 0 = .ok (.iload_n 1, 1) := by decide +kernel
theorem dX9_set_1 : decode cX9_set 1 = .ok (.iconst 0, 1) := by decide +kernel
theorem dX9_set_2 : decode cX9_set 2 = .ok (.iconst 2, 1) := by decide +kernel
theorem dX9_set_3 : decode cX9_set 3 = .ok (.invokestatic 124, 3) := by decide +kernel
theorem dX9_set_6 : decode cX9_set 6 = .ok (.ifCond .eq 43, 3) := by decide +kernel
theorem dX9_set_9 : decode cX9_set 9 = .ok (.iload_n 2, 1) := by decide +kernel
theorem dX9_set_10 : decode cX9_set 10 = .ok (.iload_n 1, 1) := by decide +kernel
theorem dX9_set_11 : decode cX9_set 11 = .ok (.iconst 2, 1) := by decide +kernel
theorem dX9_set_12 : decode cX9_set 12 = .ok (.if_icmp .ne 7, 3) := by decide +kernel
theorem dX9_set_15 : decode cX9_set 15 = .ok (.iconst 1, 1) := by decide +kernel
theorem dX9_set_16 : decode cX9_set 16 = .ok (.goto 4, 3) := by decide +kernel
theorem dX9_set_19 : decode cX9_set 19 = .ok (.iconst 0, 1) := by decide +kernel
theorem dX9_set_20 : decode cX9_set 20 = .ok (.iload_n 1, 1) := by decide +kernel
theorem dX9_set_21 : decode cX9_set 21 = .ok (.ifCond .ne 8, 3) := by decide +kernel
theorem dX9_set_24 : decode cX9_set 24 = .ok (.bipush 8, 2) := by decide +kernel
theorem dX9_set_26 : decode cX9_set 26 = .ok (.goto 17, 3) := by decide +kernel
theorem dX9_set_29 : decode cX9_set 29 = .ok (.iload_n 1, 1) := by decide +kernel
theorem dX9_set_30 : decode cX9_set 30 = .ok (.iconst 1, 1) := by decide +kernel
theorem dX9_set_31 : decode cX9_set 31 = .ok (.if_icmp .ne 9, 3) := by decide +kernel
theorem dX9_set_34 : decode cX9_set 34 = .ok (.sipush 999, 3) := by decide +kernel
theorem dX9_set_37 : decode cX9_set 37 = .ok (.goto 6, 3) := by decide +kernel
theorem dX9_set_40 : decode cX9_set 40 = .ok (.sipush 10000, 3) := by decide +kernel
theorem dX9_set_43 : decode cX9_set 43 = .ok (.invokestatic 124, 3) := by decide +kernel
theorem dX9_set_46 : decode cX9_set 46 = .ok (.ifCond .ne 6, 3) := by decide +kernel
theorem dX9_set_49 : decode cX9_set 49 = .ok (.bipush (-3), 2) := by decide +kernel
theorem dX9_set_51 : decode cX9_set 51 = .ok (.ireturn, 1) := by decide +kernel
theorem dX9_set_52 : decode cX9_set 52 = .ok (.iload_n 1, 1) := by decide +kernel
theorem dX9_set_53 : decode cX9_set 53 = .ok (.ifCond .ne 10, 3) := by decide +kernel
theorem dX9_set_56 : decode cX9_set 56 = .ok (.aload_n 0, 1) := by decide +kernel
theorem dX9_set_57 : decode cX9_set 57 = .ok (.getfield 41, 3) := by decide +kernel
theorem dX9_set_60 : decode cX9_set 60 = .ok (.goto 19, 3) := by decide +kernel
theorem dX9_set_63 : decode cX9_set 63 = .ok (.iload_n 1, 1) := by decide +kernel
theorem dX9_set_64 : decode cX9_set 64 = .ok (.iconst 1, 1) := by decide +kernel
theorem dX9_set_65 : decode cX9_set 65 = .ok (.if_icmp .ne 10, 3) := by decide +kernel
theorem dX9_set_68 : decode cX9_set 68 = .ok (.aload_n 0, 1) := by decide +kernel
theorem dX9_set_69 : decode cX9_set 69 = .ok (.getfield 45, 3) := by decide +kernel
theorem dX9_set_72 : decode cX9_set 72 = .ok (.goto 7, 3) := by decide +kernel
theorem dX9_set_75 : decode cX9_set 75 = .ok (.aload_n 0, 1) := by decide +kernel
theorem dX9_set_76 : decode cX9_set 76 = .ok (.getfield 48, 3) := by decide +kernel
theorem dX9_set_79 : decode cX9_set 79 = .ok (.istore_n 3, 1) := by decide +kernel
theorem dX9_set_80 : decode cX9_set 80 = .ok (.aload_n 0, 1) := by decide +kernel
theorem dX9_set_81 : decode cX9_set 81 = .ok (.iload_n 1, 1) := by decide +kernel
theorem dX9_set_82 : decode cX9_set 82 = .ok (.ifCond .ne 7, 3) := by decide +kernel
theorem dX9_set_85 : decode cX9_set 85 = .ok (.iload_n 2, 1) := by decide +kernel
theorem dX9_set_86 : decode cX9_set 86 = .ok (.goto 7, 3) := by decide +kernel
theorem dX9_set_89 : decode cX9_set 89 = .ok (.aload_n 0, 1) := by decide +kernel
theorem dX9_set_90 : decode cX9_set 90 = .ok (.getfield 41, 3) := by decide +kernel
theorem dX9_set_93 : decode cX9_set 93 = .ok (.putfield 41, 3) := by decide +kernel
theorem dX9_set_96 : decode cX9_set 96 = .ok (.aload_n 0, 1) := by decide +kernel
theorem dX9_set_97 : decode cX9_set 97 = .ok (.iload_n 1, 1) := by decide +kernel
theorem dX9_set_98 : decode cX9_set 98 = .ok (.iconst 1, 1) := by decide +kernel
theorem dX9_set_99 : decode cX9_set 99 = .ok (.if_icmp .ne 7, 3) := by decide +kernel
theorem dX9_set_102 : decode cX9_set 102 = .ok (.iload_n 2, 1) := by decide +kernel
theorem dX9_set_103 : decode cX9_set 103 = .ok (.goto 7, 3) := by decide +kernel
theorem dX9_set_106 : decode cX9_set 106 = .ok (.aload_n 0, 1) := by decide +kernel
theorem dX9_set_107 : decode cX9_set 107 = .ok (.getfield 45, 3) := by decide +kernel
theorem dX9_set_110 : decode cX9_set 110 = .ok (.putfield 45, 3) := by decide +kernel
theorem dX9_set_113 : decode cX9_set 113 = .ok (.aload_n 0, 1) := by decide +kernel
theorem dX9_set_114 : decode cX9_set 114 = .ok (.iload_n 1, 1) := by decide +kernel
theorem dX9_set_115 : decode cX9_set 115 = .ok (.iconst 2, 1) := by decide +kernel
theorem dX9_set_116 : decode cX9_set 116 = .ok (.if_icmp .ne 7, 3) := by decide +kernel
theorem dX9_set_119 : decode cX9_set 119 = .ok (.iload_n 2, 1) := by decide +kernel
theorem dX9_set_120 : decode cX9_set 120 = .ok (.goto 7, 3) := by decide +kernel
theorem dX9_set_123 : decode cX9_set 123 = .ok (.aload_n 0, 1) := by decide +kernel
theorem dX9_set_124 : decode cX9_set 124 = .ok (.getfield 48, 3) := by decide +kernel
theorem dX9_set_127 : decode cX9_set 127 = .ok (.putfield 48, 3) := by decide +kernel
theorem dX9_set_130 : decode cX9_set 130 = .ok (.iload_n 3, 1) := by decide +kernel
theorem dX9_set_131 : decode cX9_set 131 = .ok (.ireturn, 1) := by decide +kernel
