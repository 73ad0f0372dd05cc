/-! methods on any state that keeps the invariant -/
theorem dX9_thereMany_0 : decode cX9_thereMany 0 = .ok (.iconst 0, 1) := by decide +kernel
theorem dX9_thereMany_1 : decode cX9_thereMany 1 = .ok (.istore_n 1, 1) := by decide +kernel
theorem dX9_thereMany_2 : decode cX9_thereMany 2 = .ok (.iload_n 1, 1) := by decide +kernel
theorem dX9_thereMany_3 : decode cX9_thereMany 3 = .ok (.aload_n 0, 1) := by decide +kernel
theorem dX9_thereMany_4 : decode cX9_thereMany 4 = .ok (.getfield 117, 3) := by decide +kernel
theorem dX9_thereMany_7 : decode cX9_thereMany 7 = .ok (.if_icmp .ge 22, 3) := by decide +kernel
theorem dX9_thereMany_10 : decode cX9_thereMany 10 = .ok (.aload_n 0, 1) := by decide +kernel
theorem dX9_thereMany_11 : decode cX9_thereMany 11 = .ok (.getfield 32, 3) := by decide +kernel
theorem dX9_thereMany_14 : decode cX9_thereMany 14 = .ok (.iload_n 1, 1) := by decide +kernel
theorem dX9_thereMany_15 : decode cX9_thereMany 15 = .ok (.iaload, 1) := by decide +kernel
theorem dX9_thereMany_16 : decode cX9_thereMany 16 = .ok (.aload_n 0, 1) := by decide +kernel
theorem dX9_thereMany_17 : decode cX9_thereMany 17 = .ok (.getfield 45, 3) := by decide +kernel
theorem dX9_thereMany_20 : decode cX9_thereMany 20 = .ok (.if_icmp .gt 9, 3) := by decide +kernel
theorem dX9_thereMany_23 : decode cX9_thereMany 23 = .ok (.iinc 1 1, 3) := by decide +kernel
theorem dX9_thereMany_26 : decode cX9_thereMany 26 = .ok (.goto (-24), 3) := by decide +kernel
theorem dX9_thereMany_29 : decode cX9_thereMany 29 = .ok (.iload_n 1, 1) := by decide +kernel
theorem dX9_thereMany_30 : decode cX9_thereMany 30 = .ok (.ireturn, 1) := by decide +kernel
set_option maxRecDepth 100000 in
set_option maxHeartbeats 40000000 in
theorem gx_X9_thereMany {G : vG} {l : Launch} (σ : Sg)  (hI : Inv σ) : Sp G l yX9_thereMany cX9_thereMany 2 (some .int) 0 0 0 [.ref 140] (WW σ) (QI (fun x w2 => w2 = WW σ ∧ inR x 0 20)) := by
  refine Sp_of_R [(some (.ref 140)), none] [none] rfl (by simp) rfl (Nat.le_of_ble_eq_true rfl) ?_
  refine R_iconst (pc := 0) (v := 0) dX9_thereMany_0 (by decide) ?_
  refine st_2_1_i_a (pc := 1) dX9_thereMany_1 ?_
  have HL2 : ∀ (q j2 : Nat), j2 + q = 20 → 0 ≤ j2 → R G l yX9_thereMany cX9_thereMany 2 (some .int) 0 0 0 (QI (fun x w2 => w2 = WW σ ∧ inR x 0 20)) 2 [(some (.ref 140)), (some (.int (nI j2)))] [] (WW σ) 0 0 := by
    intro q
    induction q with
    | zero =>
      intro j2 hj hs2
      obtain rfl : j2 = 20 := by omega
      refine R_iload_n (pc := 2) dX9_thereMany_2 rfl rfl ?_
      refine R_aload_n (pc := 3) dX9_thereMany_3 rfl rfl ?_
      refine g_X9_117 (pc := 4) (v := .int (σ.1 14000)) rfl dX9_thereMany_4 (c_140 _) rfl ?_
      refine R_icge (pc := 7) 29 dX9_thereMany_7 (by decide) (fun _ => ?_) (fun h => absurd (Int32.not_lt.mp (inR_up (iv_14000 hI) (Int32.le_refl _) (by decide)).2) h)
      refine R_iload_n (pc := 29) dX9_thereMany_29 rfl rfl ?_
      exact R_iret (pc := 30) dX9_thereMany_30 rfl rfl (Nat.zero_le _) (Nat.zero_le _) ⟨_, rfl, rfl, (show inR (nI 20) 0 20 from ⟨by decide, by decide⟩)⟩
    | succ q ih2 =>
      intro j2 hj hs2
      have hrg2 : inR (nI j2) 0 19 := inR_ix hs2 (show j2 < 20 by omega) (by decide) (by decide) (by decide)
      have hlt2 : j2 < 20 := by omega
      refine R_iload_n (pc := 2) dX9_thereMany_2 rfl rfl ?_
      refine R_aload_n (pc := 3) dX9_thereMany_3 rfl rfl ?_
      refine g_X9_117 (pc := 4) (v := .int (σ.1 14000)) rfl dX9_thereMany_4 (c_140 _) rfl ?_
      refine R_icge (pc := 7) 29 dX9_thereMany_7 (by decide) (fun b7_2 => ?_) (fun b7_2 => ?_)
      · skip
        refine R_iload_n (pc := 29) dX9_thereMany_29 rfl rfl ?_
        exact R_iret (pc := 30) dX9_thereMany_30 rfl rfl (Nat.zero_le _) (Nat.zero_le _) ⟨_, rfl, rfl, (inR_up hrg2 (by decide) (by decide))⟩
      · skip
        refine R_aload_n (pc := 10) dX9_thereMany_10 rfl rfl ?_
        refine g_X9_32 (pc := 11) (v := .ref 148) rfl dX9_thereMany_11 (c_140 _) rfl ?_
        refine R_iload_n (pc := 14) dX9_thereMany_14 rfl rfl ?_
        have hx3 : vp_in (nI j2) 20 := (vp_in_nI (by omega) (by decide))
        refine R_iaload (pc := 15) dX9_thereMany_15 (c_148 _) hx3 ?_
        refine R_aload_n (pc := 16) dX9_thereMany_16 rfl rfl ?_
        refine g_X9_45 (pc := 17) (v := .int (σ.1 14013)) rfl dX9_thereMany_17 (c_140 _) rfl ?_
        refine R_icgt (pc := 20) 29 dX9_thereMany_20 (by decide) (fun b20_4 => ?_) (fun b20_4 => ?_)
        · skip
          refine R_iload_n (pc := 29) dX9_thereMany_29 rfl rfl ?_
          exact R_iret (pc := 30) dX9_thereMany_30 rfl rfl (Nat.zero_le _) (Nat.zero_le _) ⟨_, rfl, rfl, (inR_up hrg2 (by decide) (by decide))⟩
        · skip
          refine inc_2_1_1_a (pc := 23) dX9_thereMany_23 ?_
          have r5 : inR ((nI j2) + 1) 1 20 := inR_add (show inR (nI j2) 0 19 from hrg2) (show inR 1 1 1 from (inR_self _)) (by decide) (by decide)
          have e6 := ti_add (l := 1) (h := 20) (show inR (nI j2) 0 19 from hrg2) (show inR 1 1 1 from (inR_self _)) (by decide) (by decide)
          refine R_goto (pc := 26) 2 dX9_thereMany_26 (by decide) ?_
          rw [nI_1]
          exact ih2 (j2 + 1) (by omega) (by omega)
  exact HL2 20 0 (by omega) (by omega)
theorem dX9_isThere_0 : decode cX9_isThere 0 = .ok (.iload_n 1, 1) := by decide +kernel
theorem dX9_isThere_1 : decode cX9_isThere 1 = .ok (.iconst 0, 1) := by decide +kernel
theorem dX9_isThere_2 : decode cX9_isThere 2 = .ok (.aload_n 0, 1) := by decide +kernel
theorem dX9_isThere_3 : decode cX9_isThere 3 = .ok (.invokevirtual 120, 3) := by decide +kernel
theorem dX9_isThere_6 : decode cX9_isThere 6 = .ok (.iconst 1, 1) := by decide +kernel
theorem dX9_isThere_7 : decode cX9_isThere 7 = .ok (.isub, 1) := by decide +kernel
theorem dX9_isThere_8 : decode cX9_isThere 8 = .ok (.invokestatic 124, 3) := by decide +kernel
theorem dX9_isThere_11 : decode cX9_isThere 11 = .ok (.ireturn, 1) := by decide +kernel
set_option maxRecDepth 100000 in
set_option maxHeartbeats 40000000 in
theorem gx_X9_isThere {G : vG} {l : Launch} (σ : Sg) (c : Int32) (hI : Inv σ) : Sp G l yX9_isThere cX9_isThere 2 (some .boolean) 1 0 0 [.ref 140, .int c] (WW σ) (QI (fun x w2 => w2 = WW σ ∧ (inR c 0 19 ∧ x = 1 ∨ x = 0))) := by
  refine Sp_of_R [(some (.ref 140)), (some (.int c))] [] rfl (by simp) rfl (Nat.le_of_ble_eq_true rfl) ?_
  refine R_iload_n (pc := 0) dX9_isThere_0 rfl rfl ?_
  refine R_iconst (pc := 1) (v := 0) dX9_isThere_1 (by decide) ?_
  refine R_aload_n (pc := 2) dX9_isThere_2 rfl rfl ?_
  refine k_X9_120 (pc := 3) (gx_X9_thereMany _ hI) rfl (c_140 _) (by decide) (Nat.le_refl _) (Nat.le_refl _) (Nat.le_of_ble_eq_true rfl) dX9_isThere_3 (fun y1 w2 h => ?_)
  obtain ⟨rfl, hr2⟩ := h
  refine R_iconst (pc := 6) (v := 1) dX9_isThere_6 (by decide) ?_
  refine R_isub (pc := 7) dX9_isThere_7 ?_
  have r3 : inR (y1 - 1) (-1) 19 := inR_sub (show inR y1 0 20 from hr2) (show inR 1 1 1 from (inR_self _)) (by decide) (by decide)
  have e4 := ti_sub (l := (-1)) (h := 19) (show inR y1 0 20 from hr2) (show inR 1 1 1 from (inR_self _)) (by decide) (by decide)
  refine k_X9_124 (pc := 8) (sp_X9_in _ _ _ _) rfl (by decide) (Nat.le_refl _) (Nat.le_refl _) (Nat.le_of_ble_eq_true rfl) dX9_isThere_8 (fun x w2 h => ?_)
  rcases h with ⟨rfl, ⟨h5, rfl⟩ | ⟨h5, rfl⟩⟩
  · skip
    exact R_iret (pc := 11) dX9_isThere_11 rfl rfl (Nat.zero_le _) (Nat.zero_le _) ⟨_, rfl, rfl, Or.inl ⟨(show inR c 0 19 from of_ti (by have q0 := e4; have q1 := ti_in h5; have q2 := ti_in hr2; have q3 := ti_in r3; have z0 : (-1 : Int32).toInt = -1 := (by decide); have z1 : (0 : Int32).toInt = 0 := (by decide); have z2 : (1 : Int32).toInt = 1 := (by decide); have z3 : (19 : Int32).toInt = 19 := (by decide); have z4 : (20 : Int32).toInt = 20 := (by decide); omega) (by have q0 := e4; have q1 := ti_in h5; have q2 := ti_in hr2; have q3 := ti_in r3; have z0 : (-1 : Int32).toInt = -1 := (by decide); have z1 : (0 : Int32).toInt = 0 := (by decide); have z2 : (1 : Int32).toInt = 1 := (by decide); have z3 : (19 : Int32).toInt = 19 := (by decide); have z4 : (20 : Int32).toInt = 20 := (by decide); omega)), rfl⟩⟩
  · skip
    exact R_iret (pc := 11) dX9_isThere_11 rfl rfl (Nat.zero_le _) (Nat.zero_le _) ⟨_, rfl, rfl, Or.inr rfl⟩
theorem dX9_isPublisher_0 : decode cX9_isPublisher 0 = .ok (.iload_n 0, 1) := by decide +kernel
theorem dX9_isPublisher_1 : decode cX9_isPublisher 1 = .ok (.iconst 0, 1) := by decide +kernel
theorem dX9_isPublisher_2 : decode cX9_isPublisher 2 = .ok (.iconst 4, 1) := by decide +kernel
theorem dX9_isPublisher_3 : decode cX9_isPublisher 3 = .ok (.invokestatic 124, 3) := by decide +kernel
theorem dX9_isPublisher_6 : decode cX9_isPublisher 6 = .ok (.ireturn, 1) := by decide +kernel
set_option maxRecDepth 100000 in
set_option maxHeartbeats 40000000 in
theorem gx_X9_isPublisher {G : vG} {l : Launch} (w : VW) (c : Int32) : Sp G l yX9_isPublisher cX9_isPublisher 1 (some .boolean) 1 0 0 [.int c] (w) (QI (fun x w2 => w2 = w ∧ (inR c 0 4 ∧ x = 1 ∨ x = 0))) := by
  refine Sp_of_R [(some (.int c))] [] rfl (by simp) rfl (Nat.le_of_ble_eq_true rfl) ?_
  refine R_iload_n (pc := 0) dX9_isPublisher_0 rfl rfl ?_
  refine R_iconst (pc := 1) (v := 0) dX9_isPublisher_1 (by decide) ?_
  refine R_iconst (pc := 2) (v := 4) dX9_isPublisher_2 (by decide) ?_
  refine k_X9_124 (pc := 3) (sp_X9_in _ _ _ _) rfl (by decide) (Nat.le_refl _) (Nat.le_refl _) (Nat.le_of_ble_eq_true rfl) dX9_isPublisher_3 (fun x w2 h => ?_)
  rcases h with ⟨rfl, ⟨h1, rfl⟩ | ⟨h1, rfl⟩⟩
  · skip
    exact R_iret (pc := 6) dX9_isPublisher_6 rfl rfl (Nat.zero_le _) (Nat.zero_le _) ⟨_, rfl, rfl, Or.inl ⟨h1, rfl⟩⟩
  · skip
    exact R_iret (pc := 6) dX9_isPublisher_6 rfl rfl (Nat.zero_le _) (Nat.zero_le _) ⟨_, rfl, rfl, Or.inr rfl⟩
theorem dX9_isDay_0 : decode cX9_isDay 0 = .ok (.iload_n 0, 1) := by decide +kernel
theorem dX9_isDay_1 : decode cX9_isDay 1 = .ok (.iconst 0, 1) := by decide +kernel
theorem dX9_isDay_2 : decode cX9_isDay 2 = .ok (.sipush 20000, 3) := by decide +kernel
theorem dX9_isDay_5 : decode cX9_isDay 5 = .ok (.invokestatic 124, 3) := by decide +kernel
theorem dX9_isDay_8 : decode cX9_isDay 8 = .ok (.ireturn, 1) := by decide +kernel
set_option maxRecDepth 100000 in
set_option maxHeartbeats 40000000 in
theorem gx_X9_isDay {G : vG} {l : Launch} (w : VW) (c : Int32) : Sp G l yX9_isDay cX9_isDay 1 (some .boolean) 1 0 0 [.int c] (w) (QI (fun x w2 => w2 = w ∧ (inR c 0 20000 ∧ x = 1 ∨ x = 0))) := by
  refine Sp_of_R [(some (.int c))] [] rfl (by simp) rfl (Nat.le_of_ble_eq_true rfl) ?_
  refine R_iload_n (pc := 0) dX9_isDay_0 rfl rfl ?_
  refine R_iconst (pc := 1) (v := 0) dX9_isDay_1 (by decide) ?_
  refine R_sipush (pc := 2) (v := 20000) dX9_isDay_2 (by decide) ?_
  refine k_X9_124 (pc := 5) (sp_X9_in _ _ _ _) rfl (by decide) (Nat.le_refl _) (Nat.le_refl _) (Nat.le_of_ble_eq_true rfl) dX9_isDay_5 (fun x w2 h => ?_)
  rcases h with ⟨rfl, ⟨h1, rfl⟩ | ⟨h1, rfl⟩⟩
  · skip
    exact R_iret (pc := 8) dX9_isDay_8 rfl rfl (Nat.zero_le _) (Nat.zero_le _) ⟨_, rfl, rfl, Or.inl ⟨h1, rfl⟩⟩
  · skip
    exact R_iret (pc := 8) dX9_isDay_8 rfl rfl (Nat.zero_le _) (Nat.zero_le _) ⟨_, rfl, rfl, Or.inr rfl⟩
theorem dX9_card_0 : decode cX9_card 0 = .ok (.iload_n 1, 1) := by decide +kernel
theorem dX9_card_1 : decode cX9_card 1 = .ok (.iconst 0, 1) := by decide +kernel
theorem dX9_card_2 : decode cX9_card 2 = .ok (.iconst 3, 1) := by decide +kernel
theorem dX9_card_3 : decode cX9_card 3 = .ok (.invokestatic 124, 3) := by decide +kernel
theorem dX9_card_6 : decode cX9_card 6 = .ok (.ifCond .eq 20, 3) := by decide +kernel
theorem dX9_card_9 : decode cX9_card 9 = .ok (.iload_n 2, 1) := by decide +kernel
theorem dX9_card_10 : decode cX9_card 10 = .ok (.invokestatic 128, 3) := by decide +kernel
theorem dX9_card_13 : decode cX9_card 13 = .ok (.ifCond .eq 13, 3) := by decide +kernel
theorem dX9_card_16 : decode cX9_card 16 = .ok (.iload 4, 2) := by decide +kernel
theorem dX9_card_18 : decode cX9_card 18 = .ok (.iconst 0, 1) := by decide +kernel
theorem dX9_card_19 : decode cX9_card 19 = .ok (.iconst 4, 1) := by decide +kernel
theorem dX9_card_20 : decode cX9_card 20 = .ok (.invokestatic 124, 3) := by decide +kernel
theorem dX9_card_23 : decode cX9_card 23 = .ok (.ifCond .ne 6, 3) := by decide +kernel
theorem dX9_card_26 : decode cX9_card 26 = .ok (.bipush (-2), 2) := by decide +kernel
theorem dX9_card_28 : decode cX9_card 28 = .ok (.ireturn, 1) := by decide +kernel
theorem dX9_card_29 : decode cX9_card 29 = .ok (.iload_n 3, 1) := by decide +kernel
theorem dX9_card_30 : decode cX9_card 30 = .ok (.iconst 0, 1) := by decide +kernel
theorem dX9_card_31 : decode cX9_card 31 = .ok (.bipush 99, 2) := by decide +kernel
theorem dX9_card_33 : decode cX9_card 33 = .ok (.invokestatic 124, 3) := by decide +kernel
theorem dX9_card_36 : decode cX9_card 36 = .ok (.ifCond .eq 25, 3) := by decide +kernel
theorem dX9_card_39 : decode cX9_card 39 = .ok (.iload 7, 2) := by decide +kernel
theorem dX9_card_41 : decode cX9_card 41 = .ok (.iconst 0, 1) := by decide +kernel
theorem dX9_card_42 : decode cX9_card 42 = .ok (.iconst 4, 1) := by decide +kernel
theorem dX9_card_43 : decode cX9_card 43 = .ok (.invokestatic 124, 3) := by decide +kernel
theorem dX9_card_46 : decode cX9_card 46 = .ok (.ifCond .eq 15, 3) := by decide +kernel
theorem dX9_card_49 : decode cX9_card 49 = .ok (.iload 8, 2) := by decide +kernel
theorem dX9_card_51 : decode cX9_card 51 = .ok (.iconst (-1), 1) := by decide +kernel
theorem dX9_card_52 : decode cX9_card 52 = .ok (.sipush 20000, 3) := by decide +kernel
theorem dX9_card_55 : decode cX9_card 55 = .ok (.invokestatic 124, 3) := by decide +kernel
theorem dX9_card_58 : decode cX9_card 58 = .ok (.ifCond .ne 6, 3) := by decide +kernel
theorem dX9_card_61 : decode cX9_card 61 = .ok (.bipush (-3), 2) := by decide +kernel
theorem dX9_card_63 : decode cX9_card 63 = .ok (.ireturn, 1) := by decide +kernel
theorem dX9_card_64 : decode cX9_card 64 = .ok (.aload_n 0, 1) := by decide +kernel
theorem dX9_card_65 : decode cX9_card 65 = .ok (.getfield 117, 3) := by decide +kernel
theorem dX9_card_68 : decode cX9_card 68 = .ok (.bipush 20, 2) := by decide +kernel
theorem dX9_card_70 : decode cX9_card 70 = .ok (.if_icmp .ne 6, 3) := by decide +kernel
theorem dX9_card_73 : decode cX9_card 73 = .ok (.bipush (-5), 2) := by decide +kernel
theorem dX9_card_75 : decode cX9_card 75 = .ok (.ireturn, 1) := by decide +kernel
theorem dX9_card_76 : decode cX9_card 76 = .ok (.aload_n 0, 1) := by decide +kernel
theorem dX9_card_77 : decode cX9_card 77 = .ok (.getfield 117, 3) := by decide +kernel
theorem dX9_card_80 : decode cX9_card 80 = .ok (.istore 9, 2) := by decide +kernel
theorem dX9_card_82 : decode cX9_card 82 = .ok (.aload_n 0, 1) := by decide +kernel
theorem dX9_card_83 : decode cX9_card 83 = .ok (.getfield 7, 3) := by decide +kernel
theorem dX9_card_86 : decode cX9_card 86 = .ok (.iload 9, 2) := by decide +kernel
theorem dX9_card_88 : decode cX9_card 88 = .ok (.iload_n 1, 1) := by decide +kernel
theorem dX9_card_89 : decode cX9_card 89 = .ok (.iastore, 1) := by decide +kernel
theorem dX9_card_90 : decode cX9_card 90 = .ok (.aload_n 0, 1) := by decide +kernel
theorem dX9_card_91 : decode cX9_card 91 = .ok (.getfield 13, 3) := by decide +kernel
theorem dX9_card_94 : decode cX9_card 94 = .ok (.iload 9, 2) := by decide +kernel
theorem dX9_card_96 : decode cX9_card 96 = .ok (.iload_n 2, 1) := by decide +kernel
theorem dX9_card_97 : decode cX9_card 97 = .ok (.iastore, 1) := by decide +kernel
theorem dX9_card_98 : decode cX9_card 98 = .ok (.aload_n 0, 1) := by decide +kernel
theorem dX9_card_99 : decode cX9_card 99 = .ok (.getfield 16, 3) := by decide +kernel
theorem dX9_card_102 : decode cX9_card 102 = .ok (.iload 9, 2) := by decide +kernel
theorem dX9_card_104 : decode cX9_card 104 = .ok (.iload_n 3, 1) := by decide +kernel
theorem dX9_card_105 : decode cX9_card 105 = .ok (.iastore, 1) := by decide +kernel
theorem dX9_card_106 : decode cX9_card 106 = .ok (.aload_n 0, 1) := by decide +kernel
theorem dX9_card_107 : decode cX9_card 107 = .ok (.getfield 19, 3) := by decide +kernel
theorem dX9_card_110 : decode cX9_card 110 = .ok (.iload 9, 2) := by decide +kernel
theorem dX9_card_112 : decode cX9_card 112 = .ok (.iload 4, 2) := by decide +kernel
theorem dX9_card_114 : decode cX9_card 114 = .ok (.iastore, 1) := by decide +kernel
theorem dX9_card_115 : decode cX9_card 115 = .ok (.aload_n 0, 1) := by decide +kernel
theorem dX9_card_116 : decode cX9_card 116 = .ok (.getfield 22, 3) := by decide +kernel
theorem dX9_card_119 : decode cX9_card 119 = .ok (.iload 9, 2) := by decide +kernel
theorem dX9_card_121 : decode cX9_card 121 = .ok (.lload 5, 2) := by decide +kernel
theorem dX9_card_123 : decode cX9_card 123 = .ok (.lastore, 1) := by decide +kernel
theorem dX9_card_124 : decode cX9_card 124 = .ok (.aload_n 0, 1) := by decide +kernel
theorem dX9_card_125 : decode cX9_card 125 = .ok (.getfield 26, 3) := by decide +kernel
theorem dX9_card_128 : decode cX9_card 128 = .ok (.iload 9, 2) := by decide +kernel
theorem dX9_card_130 : decode cX9_card 130 = .ok (.iload 7, 2) := by decide +kernel
theorem dX9_card_132 : decode cX9_card 132 = .ok (.iastore, 1) := by decide +kernel
theorem dX9_card_133 : decode cX9_card 133 = .ok (.aload_n 0, 1) := by decide +kernel
theorem dX9_card_134 : decode cX9_card 134 = .ok (.getfield 29, 3) := by decide +kernel
theorem dX9_card_137 : decode cX9_card 137 = .ok (.iload 9, 2) := by decide +kernel
theorem dX9_card_139 : decode cX9_card 139 = .ok (.iload 8, 2) := by decide +kernel
theorem dX9_card_141 : decode cX9_card 141 = .ok (.iastore, 1) := by decide +kernel
theorem dX9_card_142 : decode cX9_card 142 = .ok (.aload_n 0, 1) := by decide +kernel
theorem dX9_card_143 : decode cX9_card 143 = .ok (.getfield 32, 3) := by decide +kernel
theorem dX9_card_146 : decode cX9_card 146 = .ok (.iload 9, 2) := by decide +kernel
theorem dX9_card_148 : decode cX9_card 148 = .ok (.aload_n 0, 1) := by decide +kernel
theorem dX9_card_149 : decode cX9_card 149 = .ok (.getfield 132, 3) := by decide +kernel
theorem dX9_card_152 : decode cX9_card 152 = .ok (.iastore, 1) := by decide +kernel
theorem dX9_card_153 : decode cX9_card 153 = .ok (.iconst 0, 1) := by decide +kernel
theorem dX9_card_154 : decode cX9_card 154 = .ok (.istore 10, 2) := by decide +kernel
theorem dX9_card_156 : decode cX9_card 156 = .ok (.iload 10, 2) := by decide +kernel
theorem dX9_card_158 : decode cX9_card 158 = .ok (.bipush 8, 2) := by decide +kernel
theorem dX9_card_160 : decode cX9_card 160 = .ok (.if_icmp .ge 23, 3) := by decide +kernel
theorem dX9_card_163 : decode cX9_card 163 = .ok (.aload_n 0, 1) := by decide +kernel
theorem dX9_card_164 : decode cX9_card 164 = .ok (.getfield 72, 3) := by decide +kernel
theorem dX9_card_167 : decode cX9_card 167 = .ok (.bipush 8, 2) := by decide +kernel
theorem dX9_card_169 : decode cX9_card 169 = .ok (.iload 9, 2) := by decide +kernel
theorem dX9_card_171 : decode cX9_card 171 = .ok (.imul, 1) := by decide +kernel
theorem dX9_card_172 : decode cX9_card 172 = .ok (.iload 10, 2) := by decide +kernel
theorem dX9_card_174 : decode cX9_card 174 = .ok (.iadd, 1) := by decide +kernel
theorem dX9_card_175 : decode cX9_card 175 = .ok (.iconst 2, 1) := by decide +kernel
theorem dX9_card_176 : decode cX9_card 176 = .ok (.iastore, 1) := by decide +kernel
theorem dX9_card_177 : decode cX9_card 177 = .ok (.iinc 10 1, 3) := by decide +kernel
theorem dX9_card_180 : decode cX9_card 180 = .ok (.goto (-24), 3) := by decide +kernel
theorem dX9_card_183 : decode cX9_card 183 = .ok (.aload_n 0, 1) := by decide +kernel
theorem dX9_card_184 : decode cX9_card 184 = .ok (.dup, 1) := by decide +kernel
theorem dX9_card_185 : decode cX9_card 185 = .ok (.getfield 117, 3) := by decide +kernel
theorem dX9_card_188 : decode cX9_card 188 = .ok (.iconst 1, 1) := by decide +kernel
theorem dX9_card_189 : decode cX9_card 189 = .ok (.iadd, 1) := by decide +kernel
theorem dX9_card_190 : decode cX9_card 190 = .ok (.putfield 117, 3) := by decide +kernel
theorem dX9_card_193 : decode cX9_card 193 = .ok (.iload 9, 2) := by decide +kernel
theorem dX9_card_195 : decode cX9_card 195 = .ok (.ireturn, 1) := by decide +kernel
set_option maxRecDepth 100000 in
set_option maxHeartbeats 40000000 in
theorem gp_m_card {G : vG} {l : Launch} (σ : Sg) (a b n k : Int32) (p : Int64) (s t : Int32) (hI : Inv σ) : Sp G l yX9_card cX9_card 11 (some .int) 2 0 0 [.ref 140, .int a, .int b, .int n, .int k, .long p, .int s, .int t] (WW σ) (QI (fun _ w2 => ∃ σ2, w2 = WW σ2 ∧ Inv σ2)) := by
  refine Sp_of_R [(some (.ref 140)), (some (.int a)), (some (.int b)), (some (.int n)), (some (.int k)), (some (.long p)), none, (some (.int s)), (some (.int t)), none, none] [none, none] rfl (by simp) rfl (Nat.le_of_ble_eq_true rfl) ?_
  refine R_iload_n (pc := 0) dX9_card_0 rfl rfl ?_
  refine R_iconst (pc := 1) (v := 0) dX9_card_1 (by decide) ?_
  refine R_iconst (pc := 2) (v := 3) dX9_card_2 (by decide) ?_
  refine k_X9_124 (pc := 3) (sp_X9_in _ _ _ _) rfl (by decide) (Nat.le_refl _) (Nat.le_refl _) (Nat.le_of_ble_eq_true rfl) dX9_card_3 (fun x w2 h => ?_)
  rcases h with ⟨rfl, ⟨h1, rfl⟩ | ⟨h1, rfl⟩⟩
  · skip
    refine R_ifeq (pc := 6) 26 dX9_card_6 (by decide) (fun h => absurd h (by decide)) (fun _ => ?_)
    refine R_iload_n (pc := 9) dX9_card_9 rfl rfl ?_
    refine k_X9_128 (pc := 10) (gx_X9_isPublisher _ _) rfl (by decide) (Nat.le_refl _) (Nat.le_refl _) (Nat.le_of_ble_eq_true rfl) dX9_card_10 (fun x w2 h => ?_)
    rcases h with ⟨rfl, ⟨h3, rfl⟩ | rfl⟩
    · skip
      refine R_ifeq (pc := 13) 26 dX9_card_13 (by decide) (fun h => absurd h (by decide)) (fun _ => ?_)
      refine R_iload (pc := 16) dX9_card_16 rfl ?_
      refine R_iconst (pc := 18) (v := 0) dX9_card_18 (by decide) ?_
      refine R_iconst (pc := 19) (v := 4) dX9_card_19 (by decide) ?_
      refine k_X9_124 (pc := 20) (sp_X9_in _ _ _ _) rfl (by decide) (Nat.le_refl _) (Nat.le_refl _) (Nat.le_of_ble_eq_true rfl) dX9_card_20 (fun x w2 h => ?_)
      rcases h with ⟨rfl, ⟨h5, rfl⟩ | ⟨h5, rfl⟩⟩
      · skip
        refine R_ifne (pc := 23) 29 dX9_card_23 (by decide) (fun _ => ?_) (fun h => absurd h (by decide))
        refine R_iload_n (pc := 29) dX9_card_29 rfl rfl ?_
        refine R_iconst (pc := 30) (v := 0) dX9_card_30 (by decide) ?_
        refine R_bipush (pc := 31) (v := 99) dX9_card_31 (by decide) ?_
        refine k_X9_124 (pc := 33) (sp_X9_in _ _ _ _) rfl (by decide) (Nat.le_refl _) (Nat.le_refl _) (Nat.le_of_ble_eq_true rfl) dX9_card_33 (fun x w2 h => ?_)
        rcases h with ⟨rfl, ⟨h7, rfl⟩ | ⟨h7, rfl⟩⟩
        · skip
          refine R_ifeq (pc := 36) 61 dX9_card_36 (by decide) (fun h => absurd h (by decide)) (fun _ => ?_)
          refine R_iload (pc := 39) dX9_card_39 rfl ?_
          refine R_iconst (pc := 41) (v := 0) dX9_card_41 (by decide) ?_
          refine R_iconst (pc := 42) (v := 4) dX9_card_42 (by decide) ?_
          refine k_X9_124 (pc := 43) (sp_X9_in _ _ _ _) rfl (by decide) (Nat.le_refl _) (Nat.le_refl _) (Nat.le_of_ble_eq_true rfl) dX9_card_43 (fun x w2 h => ?_)
          rcases h with ⟨rfl, ⟨h9, rfl⟩ | ⟨h9, rfl⟩⟩
          · skip
            refine R_ifeq (pc := 46) 61 dX9_card_46 (by decide) (fun h => absurd h (by decide)) (fun _ => ?_)
            refine R_iload (pc := 49) dX9_card_49 rfl ?_
            refine R_iconst (pc := 51) (v := (-1)) dX9_card_51 (by decide) ?_
            refine R_sipush (pc := 52) (v := 20000) dX9_card_52 (by decide) ?_
            refine k_X9_124 (pc := 55) (sp_X9_in _ _ _ _) rfl (by decide) (Nat.le_refl _) (Nat.le_refl _) (Nat.le_of_ble_eq_true rfl) dX9_card_55 (fun x w2 h => ?_)
            rcases h with ⟨rfl, ⟨h11, rfl⟩ | ⟨h11, rfl⟩⟩
            · skip
              refine R_ifne (pc := 58) 64 dX9_card_58 (by decide) (fun _ => ?_) (fun h => absurd h (by decide))
              refine R_aload_n (pc := 64) dX9_card_64 rfl rfl ?_
              refine g_X9_117 (pc := 65) (v := .int (σ.1 14000)) rfl dX9_card_65 (c_140 _) rfl ?_
              refine R_bipush (pc := 68) (v := 20) dX9_card_68 (by decide) ?_
              refine R_icne (pc := 70) 76 dX9_card_70 (by decide) (fun b70_13 => ?_) (fun b70_13 => ?_)
              · skip
                refine R_aload_n (pc := 76) dX9_card_76 rfl rfl ?_
                refine g_X9_117 (pc := 77) (v := .int (σ.1 14000)) rfl dX9_card_77 (c_140 _) rfl ?_
                refine st_11_9_i_i (pc := 80) dX9_card_80 ?_
                refine R_aload_n (pc := 82) dX9_card_82 rfl rfl ?_
                refine g_X9_7 (pc := 83) (v := .ref 141) rfl dX9_card_83 (c_140 _) rfl ?_
                refine R_iload (pc := 86) dX9_card_86 rfl ?_
                refine R_iload_n (pc := 88) dX9_card_88 rfl rfl ?_
                have hx14 : vp_in (σ.1 14000) 20 := (vp_ti (by have q0 := ti_ne b70_13; have q1 := ti_in h1; have q2 := ti_in h3; have q3 := ti_in h5; have q4 := ti_in h7; have q5 := ti_in h9; have q6 := ti_in h11; have q7 := ti_in (iv_14000 hI); have z0 : (-1 : Int32).toInt = -1 := (by decide); have z1 : (0 : Int32).toInt = 0 := (by decide); have z2 : (1 : Int32).toInt = 1 := (by decide); have z3 : (14000 : Int32).toInt = 14000 := (by decide); have z4 : (20 : Int32).toInt = 20 := (by decide); have z5 : (20000 : Int32).toInt = 20000 := (by decide); have z6 : (3 : Int32).toInt = 3 := (by decide); have z7 : (4 : Int32).toInt = 4 := (by decide); have z8 : (99 : Int32).toInt = 99 := (by decide); omega) (by have q0 := ti_ne b70_13; have q1 := ti_in h1; have q2 := ti_in h3; have q3 := ti_in h5; have q4 := ti_in h7; have q5 := ti_in h9; have q6 := ti_in h11; have q7 := ti_in (iv_14000 hI); have z0 : (-1 : Int32).toInt = -1 := (by decide); have z1 : (0 : Int32).toInt = 0 := (by decide); have z2 : (1 : Int32).toInt = 1 := (by decide); have z3 : (14000 : Int32).toInt = 14000 := (by decide); have z4 : (20 : Int32).toInt = 20 := (by decide); have z5 : (20000 : Int32).toInt = 20000 := (by decide); have z6 : (3 : Int32).toInt = 3 := (by decide); have z7 : (4 : Int32).toInt = 4 := (by decide); have z8 : (99 : Int32).toInt = 99 := (by decide); omega))
                refine W_iastore (pc := 89) dX9_card_89 (c_141 _) hx14 (a_141 _ _) ?_
                have hV15 := sa_141 hI (Int32.toNatClampNeg (σ.1 14000)) h1
                have hW16 := cor_ca 141 (Int32.toNatClampNeg (σ.1 14000)) a (Cor.rfl' σ) rfl
                refine R_aload_n (pc := 90) dX9_card_90 rfl rfl ?_
                refine g_X9_13 (pc := 91) (v := .ref 142) rfl dX9_card_91 (c_140 _) rfl ?_
                refine R_iload (pc := 94) dX9_card_94 rfl ?_
                refine R_iload_n (pc := 96) dX9_card_96 rfl rfl ?_
                have hx17 : vp_in (σ.1 14000) 20 := (vp_ti (by have q0 := ti_ne b70_13; have q1 := ti_in h1; have q2 := ti_in h3; have q3 := ti_in h5; have q4 := ti_in h7; have q5 := ti_in h9; have q6 := ti_in h11; have q7 := ti_in (iv_14000 hI); have z0 : (-1 : Int32).toInt = -1 := (by decide); have z1 : (0 : Int32).toInt = 0 := (by decide); have z2 : (1 : Int32).toInt = 1 := (by decide); have z3 : (14000 : Int32).toInt = 14000 := (by decide); have z4 : (20 : Int32).toInt = 20 := (by decide); have z5 : (20000 : Int32).toInt = 20000 := (by decide); have z6 : (3 : Int32).toInt = 3 := (by decide); have z7 : (4 : Int32).toInt = 4 := (by decide); have z8 : (99 : Int32).toInt = 99 := (by decide); omega) (by have q0 := ti_ne b70_13; have q1 := ti_in h1; have q2 := ti_in h3; have q3 := ti_in h5; have q4 := ti_in h7; have q5 := ti_in h9; have q6 := ti_in h11; have q7 := ti_in (iv_14000 hI); have z0 : (-1 : Int32).toInt = -1 := (by decide); have z1 : (0 : Int32).toInt = 0 := (by decide); have z2 : (1 : Int32).toInt = 1 := (by decide); have z3 : (14000 : Int32).toInt = 14000 := (by decide); have z4 : (20 : Int32).toInt = 20 := (by decide); have z5 : (20000 : Int32).toInt = 20000 := (by decide); have z6 : (3 : Int32).toInt = 3 := (by decide); have z7 : (4 : Int32).toInt = 4 := (by decide); have z8 : (99 : Int32).toInt = 99 := (by decide); omega))
                refine W_iastore (pc := 97) dX9_card_97 (c_142 _) hx17 (a_142 _ _) ?_
                have hW18 := cor_ca 142 (Int32.toNatClampNeg (σ.1 14000)) b hW16 rfl
                refine R_aload_n (pc := 98) dX9_card_98 rfl rfl ?_
                refine g_X9_16 (pc := 99) (v := .ref 143) rfl dX9_card_99 (c_140 _) rfl ?_
                refine R_iload (pc := 102) dX9_card_102 rfl ?_
                refine R_iload_n (pc := 104) dX9_card_104 rfl rfl ?_
                have hx19 : vp_in (σ.1 14000) 20 := (vp_ti (by have q0 := ti_ne b70_13; have q1 := ti_in h1; have q2 := ti_in h3; have q3 := ti_in h5; have q4 := ti_in h7; have q5 := ti_in h9; have q6 := ti_in h11; have q7 := ti_in (iv_14000 hI); have z0 : (-1 : Int32).toInt = -1 := (by decide); have z1 : (0 : Int32).toInt = 0 := (by decide); have z2 : (1 : Int32).toInt = 1 := (by decide); have z3 : (14000 : Int32).toInt = 14000 := (by decide); have z4 : (20 : Int32).toInt = 20 := (by decide); have z5 : (20000 : Int32).toInt = 20000 := (by decide); have z6 : (3 : Int32).toInt = 3 := (by decide); have z7 : (4 : Int32).toInt = 4 := (by decide); have z8 : (99 : Int32).toInt = 99 := (by decide); omega) (by have q0 := ti_ne b70_13; have q1 := ti_in h1; have q2 := ti_in h3; have q3 := ti_in h5; have q4 := ti_in h7; have q5 := ti_in h9; have q6 := ti_in h11; have q7 := ti_in (iv_14000 hI); have z0 : (-1 : Int32).toInt = -1 := (by decide); have z1 : (0 : Int32).toInt = 0 := (by decide); have z2 : (1 : Int32).toInt = 1 := (by decide); have z3 : (14000 : Int32).toInt = 14000 := (by decide); have z4 : (20 : Int32).toInt = 20 := (by decide); have z5 : (20000 : Int32).toInt = 20000 := (by decide); have z6 : (3 : Int32).toInt = 3 := (by decide); have z7 : (4 : Int32).toInt = 4 := (by decide); have z8 : (99 : Int32).toInt = 99 := (by decide); omega))
                refine W_iastore (pc := 105) dX9_card_105 (c_143 _) hx19 (a_143 _ _) ?_
                have hW20 := cor_ca 143 (Int32.toNatClampNeg (σ.1 14000)) n hW18 rfl
                refine R_aload_n (pc := 106) dX9_card_106 rfl rfl ?_
                refine g_X9_19 (pc := 107) (v := .ref 144) rfl dX9_card_107 (c_140 _) rfl ?_
                refine R_iload (pc := 110) dX9_card_110 rfl ?_
                refine R_iload (pc := 112) dX9_card_112 rfl ?_
                have hx21 : vp_in (σ.1 14000) 20 := (vp_ti (by have q0 := ti_ne b70_13; have q1 := ti_in h1; have q2 := ti_in h3; have q3 := ti_in h5; have q4 := ti_in h7; have q5 := ti_in h9; have q6 := ti_in h11; have q7 := ti_in (iv_14000 hI); have z0 : (-1 : Int32).toInt = -1 := (by decide); have z1 : (0 : Int32).toInt = 0 := (by decide); have z2 : (1 : Int32).toInt = 1 := (by decide); have z3 : (14000 : Int32).toInt = 14000 := (by decide); have z4 : (20 : Int32).toInt = 20 := (by decide); have z5 : (20000 : Int32).toInt = 20000 := (by decide); have z6 : (3 : Int32).toInt = 3 := (by decide); have z7 : (4 : Int32).toInt = 4 := (by decide); have z8 : (99 : Int32).toInt = 99 := (by decide); omega) (by have q0 := ti_ne b70_13; have q1 := ti_in h1; have q2 := ti_in h3; have q3 := ti_in h5; have q4 := ti_in h7; have q5 := ti_in h9; have q6 := ti_in h11; have q7 := ti_in (iv_14000 hI); have z0 : (-1 : Int32).toInt = -1 := (by decide); have z1 : (0 : Int32).toInt = 0 := (by decide); have z2 : (1 : Int32).toInt = 1 := (by decide); have z3 : (14000 : Int32).toInt = 14000 := (by decide); have z4 : (20 : Int32).toInt = 20 := (by decide); have z5 : (20000 : Int32).toInt = 20000 := (by decide); have z6 : (3 : Int32).toInt = 3 := (by decide); have z7 : (4 : Int32).toInt = 4 := (by decide); have z8 : (99 : Int32).toInt = 99 := (by decide); omega))
                refine W_iastore (pc := 114) dX9_card_114 (c_144 _) hx21 (a_144 _ _) ?_
                have hV22 := sa_144 hV15 (Int32.toNatClampNeg (σ.1 14000)) h5
                have hW23 := cor_ca 144 (Int32.toNatClampNeg (σ.1 14000)) k hW20 rfl
                refine R_aload_n (pc := 115) dX9_card_115 rfl rfl ?_
                refine g_X9_22 (pc := 116) (v := .ref 145) rfl dX9_card_116 (c_140 _) rfl ?_
                refine R_iload (pc := 119) dX9_card_119 rfl ?_
                refine R_lload (pc := 121) dX9_card_121 rfl ?_
                have hx24 : vp_in (σ.1 14000) 20 := (vp_ti (by have q0 := ti_ne b70_13; have q1 := ti_in h1; have q2 := ti_in h3; have q3 := ti_in h5; have q4 := ti_in h7; have q5 := ti_in h9; have q6 := ti_in h11; have q7 := ti_in (iv_14000 hI); have z0 : (-1 : Int32).toInt = -1 := (by decide); have z1 : (0 : Int32).toInt = 0 := (by decide); have z2 : (1 : Int32).toInt = 1 := (by decide); have z3 : (14000 : Int32).toInt = 14000 := (by decide); have z4 : (20 : Int32).toInt = 20 := (by decide); have z5 : (20000 : Int32).toInt = 20000 := (by decide); have z6 : (3 : Int32).toInt = 3 := (by decide); have z7 : (4 : Int32).toInt = 4 := (by decide); have z8 : (99 : Int32).toInt = 99 := (by decide); omega) (by have q0 := ti_ne b70_13; have q1 := ti_in h1; have q2 := ti_in h3; have q3 := ti_in h5; have q4 := ti_in h7; have q5 := ti_in h9; have q6 := ti_in h11; have q7 := ti_in (iv_14000 hI); have z0 : (-1 : Int32).toInt = -1 := (by decide); have z1 : (0 : Int32).toInt = 0 := (by decide); have z2 : (1 : Int32).toInt = 1 := (by decide); have z3 : (14000 : Int32).toInt = 14000 := (by decide); have z4 : (20 : Int32).toInt = 20 := (by decide); have z5 : (20000 : Int32).toInt = 20000 := (by decide); have z6 : (3 : Int32).toInt = 3 := (by decide); have z7 : (4 : Int32).toInt = 4 := (by decide); have z8 : (99 : Int32).toInt = 99 := (by decide); omega))
                refine W_lastore (pc := 123) dX9_card_123 (c_145 _) hx24 (a_145 _ _) ?_
                have hW25 := cor_cb 145 (Int32.toNatClampNeg (σ.1 14000)) p hW23
                refine R_aload_n (pc := 124) dX9_card_124 rfl rfl ?_
                refine g_X9_26 (pc := 125) (v := .ref 146) rfl dX9_card_125 (c_140 _) rfl ?_
                refine R_iload (pc := 128) dX9_card_128 rfl ?_
                refine R_iload (pc := 130) dX9_card_130 rfl ?_
                have hx26 : vp_in (σ.1 14000) 20 := (vp_ti (by have q0 := ti_ne b70_13; have q1 := ti_in h1; have q2 := ti_in h3; have q3 := ti_in h5; have q4 := ti_in h7; have q5 := ti_in h9; have q6 := ti_in h11; have q7 := ti_in (iv_14000 hI); have z0 : (-1 : Int32).toInt = -1 := (by decide); have z1 : (0 : Int32).toInt = 0 := (by decide); have z2 : (1 : Int32).toInt = 1 := (by decide); have z3 : (14000 : Int32).toInt = 14000 := (by decide); have z4 : (20 : Int32).toInt = 20 := (by decide); have z5 : (20000 : Int32).toInt = 20000 := (by decide); have z6 : (3 : Int32).toInt = 3 := (by decide); have z7 : (4 : Int32).toInt = 4 := (by decide); have z8 : (99 : Int32).toInt = 99 := (by decide); omega) (by have q0 := ti_ne b70_13; have q1 := ti_in h1; have q2 := ti_in h3; have q3 := ti_in h5; have q4 := ti_in h7; have q5 := ti_in h9; have q6 := ti_in h11; have q7 := ti_in (iv_14000 hI); have z0 : (-1 : Int32).toInt = -1 := (by decide); have z1 : (0 : Int32).toInt = 0 := (by decide); have z2 : (1 : Int32).toInt = 1 := (by decide); have z3 : (14000 : Int32).toInt = 14000 := (by decide); have z4 : (20 : Int32).toInt = 20 := (by decide); have z5 : (20000 : Int32).toInt = 20000 := (by decide); have z6 : (3 : Int32).toInt = 3 := (by decide); have z7 : (4 : Int32).toInt = 4 := (by decide); have z8 : (99 : Int32).toInt = 99 := (by decide); omega))
                refine W_iastore (pc := 132) dX9_card_132 (c_146 _) hx26 (a_146 _ _) ?_
                have hV27 := sa_146 hV22 (Int32.toNatClampNeg (σ.1 14000)) h9
                have hW28 := cor_ca 146 (Int32.toNatClampNeg (σ.1 14000)) s hW25 rfl
                refine R_aload_n (pc := 133) dX9_card_133 rfl rfl ?_
                refine g_X9_29 (pc := 134) (v := .ref 147) rfl dX9_card_134 (c_140 _) rfl ?_
                refine R_iload (pc := 137) dX9_card_137 rfl ?_
                refine R_iload (pc := 139) dX9_card_139 rfl ?_
                have hx29 : vp_in (σ.1 14000) 20 := (vp_ti (by have q0 := ti_ne b70_13; have q1 := ti_in h1; have q2 := ti_in h3; have q3 := ti_in h5; have q4 := ti_in h7; have q5 := ti_in h9; have q6 := ti_in h11; have q7 := ti_in (iv_14000 hI); have z0 : (-1 : Int32).toInt = -1 := (by decide); have z1 : (0 : Int32).toInt = 0 := (by decide); have z2 : (1 : Int32).toInt = 1 := (by decide); have z3 : (14000 : Int32).toInt = 14000 := (by decide); have z4 : (20 : Int32).toInt = 20 := (by decide); have z5 : (20000 : Int32).toInt = 20000 := (by decide); have z6 : (3 : Int32).toInt = 3 := (by decide); have z7 : (4 : Int32).toInt = 4 := (by decide); have z8 : (99 : Int32).toInt = 99 := (by decide); omega) (by have q0 := ti_ne b70_13; have q1 := ti_in h1; have q2 := ti_in h3; have q3 := ti_in h5; have q4 := ti_in h7; have q5 := ti_in h9; have q6 := ti_in h11; have q7 := ti_in (iv_14000 hI); have z0 : (-1 : Int32).toInt = -1 := (by decide); have z1 : (0 : Int32).toInt = 0 := (by decide); have z2 : (1 : Int32).toInt = 1 := (by decide); have z3 : (14000 : Int32).toInt = 14000 := (by decide); have z4 : (20 : Int32).toInt = 20 := (by decide); have z5 : (20000 : Int32).toInt = 20000 := (by decide); have z6 : (3 : Int32).toInt = 3 := (by decide); have z7 : (4 : Int32).toInt = 4 := (by decide); have z8 : (99 : Int32).toInt = 99 := (by decide); omega))
                refine W_iastore (pc := 141) dX9_card_141 (c_147 _) hx29 (a_147 _ _) ?_
                have hW30 := cor_ca 147 (Int32.toNatClampNeg (σ.1 14000)) t hW28 rfl
                refine R_aload_n (pc := 142) dX9_card_142 rfl rfl ?_
                refine g_X9_32 (pc := 143) (v := .ref 148) rfl dX9_card_143 (c_140 _) rfl ?_
                refine R_iload (pc := 146) dX9_card_146 rfl ?_
                refine R_aload_n (pc := 148) dX9_card_148 rfl rfl ?_
                refine g_X9_132 (pc := 149) (v := .int (σ.1 14011)) rfl dX9_card_149 (c_140 _) rfl ?_
                have hx31 : vp_in (σ.1 14000) 20 := (vp_ti (by have q0 := ti_ne b70_13; have q1 := ti_in h1; have q2 := ti_in h3; have q3 := ti_in h5; have q4 := ti_in h7; have q5 := ti_in h9; have q6 := ti_in h11; have q7 := ti_in (iv_14000 hI); have z0 : (-1 : Int32).toInt = -1 := (by decide); have z1 : (0 : Int32).toInt = 0 := (by decide); have z2 : (1 : Int32).toInt = 1 := (by decide); have z3 : (14000 : Int32).toInt = 14000 := (by decide); have z4 : (20 : Int32).toInt = 20 := (by decide); have z5 : (20000 : Int32).toInt = 20000 := (by decide); have z6 : (3 : Int32).toInt = 3 := (by decide); have z7 : (4 : Int32).toInt = 4 := (by decide); have z8 : (99 : Int32).toInt = 99 := (by decide); omega) (by have q0 := ti_ne b70_13; have q1 := ti_in h1; have q2 := ti_in h3; have q3 := ti_in h5; have q4 := ti_in h7; have q5 := ti_in h9; have q6 := ti_in h11; have q7 := ti_in (iv_14000 hI); have z0 : (-1 : Int32).toInt = -1 := (by decide); have z1 : (0 : Int32).toInt = 0 := (by decide); have z2 : (1 : Int32).toInt = 1 := (by decide); have z3 : (14000 : Int32).toInt = 14000 := (by decide); have z4 : (20 : Int32).toInt = 20 := (by decide); have z5 : (20000 : Int32).toInt = 20000 := (by decide); have z6 : (3 : Int32).toInt = 3 := (by decide); have z7 : (4 : Int32).toInt = 4 := (by decide); have z8 : (99 : Int32).toInt = 99 := (by decide); omega))
                refine W_iastore (pc := 152) dX9_card_152 (c_148 _) hx31 (a_148 _ _) ?_
                have hW32 := cor_ca 148 (Int32.toNatClampNeg (σ.1 14000)) (σ.1 14011) hW30 rfl
                refine R_iconst (pc := 153) (v := 0) dX9_card_153 (by decide) ?_
                refine st_11_10_i_i (pc := 154) dX9_card_154 ?_
                have HL156 : ∀ (q j156 : Nat) (σ156 : Sg), j156 + q = 8 → 0 ≤ j156 → Inv σ156 → σ156.1 14000 = σ.1 14000 → R G l yX9_card cX9_card 11 (some .int) 2 0 0 (QI (fun _ w2 => ∃ σ2, w2 = WW σ2 ∧ Inv σ2)) 156 [(some (.ref 140)), (some (.int a)), (some (.int b)), (some (.int n)), (some (.int k)), (some (.long p)), none, (some (.int s)), (some (.int t)), (some (.int (σ.1 14000))), (some (.int (nI j156)))] [] (WW σ156) 0 0 := by
                  intro q
                  induction q with
                  | zero =>
                    intro j156 σ156 hj hs156 hI156 hk156_14000
                    obtain rfl : j156 = 8 := by omega
                    refine R_iload (pc := 156) dX9_card_156 rfl ?_
                    refine R_bipush (pc := 158) (v := 8) dX9_card_158 (by decide) ?_
                    refine R_icge (pc := 160) 183 dX9_card_160 (by decide) (fun _ => ?_) (fun h => absurd (by decide) h)
                    refine R_aload_n (pc := 183) dX9_card_183 rfl rfl ?_
                    refine R_dup (pc := 184) dX9_card_184 rfl ?_
                    refine g_X9_117 (pc := 185) (v := .int (σ156.1 14000)) rfl dX9_card_185 (c_140 _) rfl ?_
                    refine R_iconst (pc := 188) (v := 1) dX9_card_188 (by decide) ?_
                    refine R_iadd (pc := 189) dX9_card_189 ?_
                    have r34 : inR ((σ156.1 14000) + 1) 1 21 := inR_add (show inR (σ156.1 14000) 0 20 from (iv_14000 hI156)) (show inR 1 1 1 from (inR_self _)) (by decide) (by decide)
                    have e35 := ti_add (l := 1) (h := 21) (show inR (σ156.1 14000) 0 20 from (iv_14000 hI156)) (show inR 1 1 1 from (inR_self _)) (by decide) (by decide)
                    refine p_X9_117 (pc := 190) rfl dX9_card_190 (c_140 _) (Nat.le_of_ble_eq_true rfl) rfl rfl (s_140_0 _ _) ?_
                    have hV36 := su_14000 hI156 (show inR ((σ156.1 14000) + 1) 0 20 from of_ti (by have q0 := ti_eq hk156_14000; have q1 := e35; have q2 := ti_ne b70_13; have q3 := ti_in h1; have q4 := ti_in h3; have q5 := ti_in h5; have q6 := ti_in h7; have q7 := ti_in h9; have q8 := ti_in h11; have q9 := ti_in (iv_14000 hI); have q10 := ti_in (iv_14000 hI156); have q11 := ti_in r34; have z0 : (-1 : Int32).toInt = -1 := (by decide); have z1 : (0 : Int32).toInt = 0 := (by decide); have z2 : (1 : Int32).toInt = 1 := (by decide); have z3 : (14000 : Int32).toInt = 14000 := (by decide); have z4 : (20 : Int32).toInt = 20 := (by decide); have z5 : (20000 : Int32).toInt = 20000 := (by decide); have z6 : (21 : Int32).toInt = 21 := (by decide); have z7 : (3 : Int32).toInt = 3 := (by decide); have z8 : (4 : Int32).toInt = 4 := (by decide); have z9 : (99 : Int32).toInt = 99 := (by decide); omega) (by have q0 := ti_eq hk156_14000; have q1 := e35; have q2 := ti_ne b70_13; have q3 := ti_in h1; have q4 := ti_in h3; have q5 := ti_in h5; have q6 := ti_in h7; have q7 := ti_in h9; have q8 := ti_in h11; have q9 := ti_in (iv_14000 hI); have q10 := ti_in (iv_14000 hI156); have q11 := ti_in r34; have z0 : (-1 : Int32).toInt = -1 := (by decide); have z1 : (0 : Int32).toInt = 0 := (by decide); have z2 : (1 : Int32).toInt = 1 := (by decide); have z3 : (14000 : Int32).toInt = 14000 := (by decide); have z4 : (20 : Int32).toInt = 20 := (by decide); have z5 : (20000 : Int32).toInt = 20000 := (by decide); have z6 : (21 : Int32).toInt = 21 := (by decide); have z7 : (3 : Int32).toInt = 3 := (by decide); have z8 : (4 : Int32).toInt = 4 := (by decide); have z9 : (99 : Int32).toInt = 99 := (by decide); omega))
                    refine R_iload (pc := 193) dX9_card_193 rfl ?_
                    exact R_iret (pc := 195) dX9_card_195 rfl rfl (Nat.zero_le _) (Nat.zero_le _) ⟨_, rfl, _, rfl, hV36⟩
                  | succ q ih156 =>
                    intro j156 σ156 hj hs156 hI156 hk156_14000
                    have hrg156 : inR (nI j156) 0 7 := inR_ix hs156 (show j156 < 8 by omega) (by decide) (by decide) (by decide)
                    have hlt156 : j156 < 8 := by omega
                    refine R_iload (pc := 156) dX9_card_156 rfl ?_
                    refine R_bipush (pc := 158) (v := 8) dX9_card_158 (by decide) ?_
                    refine R_icge (pc := 160) 183 dX9_card_160 (by decide) (fun h => False.elim (by have q1 := ti_le h; have q2 := ti_in (show inR (nI j156) 0 7 from hrg156); have q3 := ti_in (show inR 8 8 8 from (inR_self _)); have z0 : (0 : Int32).toInt = 0 := (by decide);  have z1 : (7 : Int32).toInt = 7 := (by decide);  have z2 : (8 : Int32).toInt = 8 := (by decide); omega)) (fun _ => ?_)
                    refine R_aload_n (pc := 163) dX9_card_163 rfl rfl ?_
                    refine g_X9_72 (pc := 164) (v := .ref 158) rfl dX9_card_164 (c_140 _) rfl ?_
                    refine R_bipush (pc := 167) (v := 8) dX9_card_167 (by decide) ?_
                    refine R_iload (pc := 169) dX9_card_169 rfl ?_
                    refine R_imul (pc := 171) dX9_card_171 ?_
                    have r38 : inR (8 * (σ.1 14000)) 0 160 := inR_mulc (c := 8) (l := 0) (h := 160) 8 (by decide) (show inR (σ.1 14000) 0 20 from (iv_14000 hI)) (by decide) (by decide)
                    have e39 := ti_mulc (c := 8) (l := 0) (h := 160) 8 (by decide) (show inR (σ.1 14000) 0 20 from (iv_14000 hI)) (by decide) (by decide)
                    refine R_iload (pc := 172) dX9_card_172 rfl ?_
                    refine R_iadd (pc := 174) dX9_card_174 ?_
                    have r40 : inR ((8 * (σ.1 14000)) + (nI j156)) 0 167 := inR_add (show inR (8 * (σ.1 14000)) 0 160 from r38) (show inR (nI j156) 0 7 from hrg156) (by decide) (by decide)
                    have e41 := ti_add (l := 0) (h := 167) (show inR (8 * (σ.1 14000)) 0 160 from r38) (show inR (nI j156) 0 7 from hrg156) (by decide) (by decide)
                    refine R_iconst (pc := 175) (v := 2) dX9_card_175 (by decide) ?_
                    have hx42 : vp_in ((8 * (σ.1 14000)) + (nI j156)) 160 := (vp_ti (by have q0 := ti_eq hk156_14000; have q1 := e39; have q2 := e41; have q3 := ti_ne b70_13; have q4 := ti_in h1; have q5 := ti_in h3; have q6 := ti_in h5; have q7 := ti_in h7; have q8 := ti_in h9; have q9 := ti_in h11; have q10 := ti_in (iv_14000 hI); have q11 := ti_in hrg156; have q12 := ti_in r38; have q13 := ti_in r40; have z0 : (-1 : Int32).toInt = -1 := (by decide); have z1 : (0 : Int32).toInt = 0 := (by decide); have z2 : (1 : Int32).toInt = 1 := (by decide); have z3 : (14000 : Int32).toInt = 14000 := (by decide); have z4 : (160 : Int32).toInt = 160 := (by decide); have z5 : (167 : Int32).toInt = 167 := (by decide); have z6 : (20 : Int32).toInt = 20 := (by decide); have z7 : (20000 : Int32).toInt = 20000 := (by decide); have z8 : (3 : Int32).toInt = 3 := (by decide); have z9 : (4 : Int32).toInt = 4 := (by decide); have z10 : (7 : Int32).toInt = 7 := (by decide); have z11 : (99 : Int32).toInt = 99 := (by decide); omega) (by have q0 := ti_eq hk156_14000; have q1 := e39; have q2 := e41; have q3 := ti_ne b70_13; have q4 := ti_in h1; have q5 := ti_in h3; have q6 := ti_in h5; have q7 := ti_in h7; have q8 := ti_in h9; have q9 := ti_in h11; have q10 := ti_in (iv_14000 hI); have q11 := ti_in hrg156; have q12 := ti_in r38; have q13 := ti_in r40; have z0 : (-1 : Int32).toInt = -1 := (by decide); have z1 : (0 : Int32).toInt = 0 := (by decide); have z2 : (1 : Int32).toInt = 1 := (by decide); have z3 : (14000 : Int32).toInt = 14000 := (by decide); have z4 : (160 : Int32).toInt = 160 := (by decide); have z5 : (167 : Int32).toInt = 167 := (by decide); have z6 : (20 : Int32).toInt = 20 := (by decide); have z7 : (20000 : Int32).toInt = 20000 := (by decide); have z8 : (3 : Int32).toInt = 3 := (by decide); have z9 : (4 : Int32).toInt = 4 := (by decide); have z10 : (7 : Int32).toInt = 7 := (by decide); have z11 : (99 : Int32).toInt = 99 := (by decide); omega))
                    refine W_iastore (pc := 176) dX9_card_176 (c_158 _) hx42 (a_158 _ _) ?_
                    refine inc_11_10_1_i (pc := 177) dX9_card_177 ?_
                    have r43 : inR ((nI j156) + 1) 1 8 := inR_add (show inR (nI j156) 0 7 from hrg156) (show inR 1 1 1 from (inR_self _)) (by decide) (by decide)
                    have e44 := ti_add (l := 1) (h := 8) (show inR (nI j156) 0 7 from hrg156) (show inR 1 1 1 from (inR_self _)) (by decide) (by decide)
                    refine R_goto (pc := 180) 156 dX9_card_180 (by decide) ?_
                    rw [nI_1]
                    exact ih156 (j156 + 1) _ (by omega) (by omega) hI156 hk156_14000
                exact HL156 8 0 _ (by omega) (by omega) hV27 rfl
              · skip
                refine R_bipush (pc := 73) (v := (-5)) dX9_card_73 (by decide) ?_
                exact R_iret (pc := 75) dX9_card_75 rfl rfl (Nat.zero_le _) (Nat.zero_le _) ⟨_, rfl, _, rfl, hI⟩
            · skip
              refine R_ifne (pc := 58) 64 dX9_card_58 (by decide) (fun h => absurd (by decide) h) (fun _ => ?_)
              refine R_bipush (pc := 61) (v := (-3)) dX9_card_61 (by decide) ?_
              exact R_iret (pc := 63) dX9_card_63 rfl rfl (Nat.zero_le _) (Nat.zero_le _) ⟨_, rfl, _, rfl, hI⟩
          · skip
            refine R_ifeq (pc := 46) 61 dX9_card_46 (by decide) (fun _ => ?_) (fun h => absurd (by decide) h)
            refine R_bipush (pc := 61) (v := (-3)) dX9_card_61 (by decide) ?_
            exact R_iret (pc := 63) dX9_card_63 rfl rfl (Nat.zero_le _) (Nat.zero_le _) ⟨_, rfl, _, rfl, hI⟩
        · skip
          refine R_ifeq (pc := 36) 61 dX9_card_36 (by decide) (fun _ => ?_) (fun h => absurd (by decide) h)
          refine R_bipush (pc := 61) (v := (-3)) dX9_card_61 (by decide) ?_
          exact R_iret (pc := 63) dX9_card_63 rfl rfl (Nat.zero_le _) (Nat.zero_le _) ⟨_, rfl, _, rfl, hI⟩
      · skip
        refine R_ifne (pc := 23) 29 dX9_card_23 (by decide) (fun h => absurd (by decide) h) (fun _ => ?_)
        refine R_bipush (pc := 26) (v := (-2)) dX9_card_26 (by decide) ?_
        exact R_iret (pc := 28) dX9_card_28 rfl rfl (Nat.zero_le _) (Nat.zero_le _) ⟨_, rfl, _, rfl, hI⟩
    · skip
      refine R_ifeq (pc := 13) 26 dX9_card_13 (by decide) (fun _ => ?_) (fun h => absurd (by decide) h)
      refine R_bipush (pc := 26) (v := (-2)) dX9_card_26 (by decide) ?_
      exact R_iret (pc := 28) dX9_card_28 rfl rfl (Nat.zero_le _) (Nat.zero_le _) ⟨_, rfl, _, rfl, hI⟩
  · skip
    refine R_ifeq (pc := 6) 26 dX9_card_6 (by decide) (fun _ => ?_) (fun h => absurd (by decide) h)
    refine R_bipush (pc := 26) (v := (-2)) dX9_card_26 (by decide) ?_
    exact R_iret (pc := 28) dX9_card_28 rfl rfl (Nat.zero_le _) (Nat.zero_le _) ⟨_, rfl, _, rfl, hI⟩
theorem dX9_caption_0 : decode cX9_caption 0 = .ok (.aload_n 0, 1) := by decide +kernel
theorem dX9_caption_1 : decode cX9_caption 1 = .ok (.iload_n 1, 1) := by decide +kernel
theorem dX9_caption_2 : decode cX9_caption 2 = .ok (.invokevirtual 135, 3) := by decide +kernel
theorem dX9_caption_5 : decode cX9_caption 5 = .ok (.ifCond .ne 6, 3) := by decide +kernel
theorem dX9_caption_8 : decode cX9_caption 8 = .ok (.bipush (-2), 2) := by decide +kernel
theorem dX9_caption_10 : decode cX9_caption 10 = .ok (.ireturn, 1) := by decide +kernel
theorem dX9_caption_11 : decode cX9_caption 11 = .ok (.iload 4, 2) := by decide +kernel
theorem dX9_caption_13 : decode cX9_caption 13 = .ok (.iconst 0, 1) := by decide +kernel
theorem dX9_caption_14 : decode cX9_caption 14 = .ok (.bipush 8, 2) := by decide +kernel
theorem dX9_caption_16 : decode cX9_caption 16 = .ok (.invokestatic 124, 3) := by decide +kernel
theorem dX9_caption_19 : decode cX9_caption 19 = .ok (.ifCond .ne 6, 3) := by decide +kernel
theorem dX9_caption_22 : decode cX9_caption 22 = .ok (.bipush (-3), 2) := by decide +kernel
theorem dX9_caption_24 : decode cX9_caption 24 = .ok (.ireturn, 1) := by decide +kernel
theorem dX9_caption_25 : decode cX9_caption 25 = .ok (.iconst 0, 1) := by decide +kernel
theorem dX9_caption_26 : decode cX9_caption 26 = .ok (.istore 5, 2) := by decide +kernel
theorem dX9_caption_28 : decode cX9_caption 28 = .ok (.iload 5, 2) := by decide +kernel
theorem dX9_caption_30 : decode cX9_caption 30 = .ok (.iload 4, 2) := by decide +kernel
theorem dX9_caption_32 : decode cX9_caption 32 = .ok (.if_icmp .ge 34, 3) := by decide +kernel
theorem dX9_caption_35 : decode cX9_caption 35 = .ok (.lload_n 2, 1) := by decide +kernel
theorem dX9_caption_36 : decode cX9_caption 36 = .ok (.bipush 8, 2) := by decide +kernel
theorem dX9_caption_38 : decode cX9_caption 38 = .ok (.iload 5, 2) := by decide +kernel
theorem dX9_caption_40 : decode cX9_caption 40 = .ok (.imul, 1) := by decide +kernel
theorem dX9_caption_41 : decode cX9_caption 41 = .ok (.lshr, 1) := by decide +kernel
theorem dX9_caption_42 : decode cX9_caption 42 = .ok (.ldc2_w 138, 3) := by decide +kernel
theorem dX9_caption_45 : decode cX9_caption 45 = .ok (.land, 1) := by decide +kernel
theorem dX9_caption_46 : decode cX9_caption 46 = .ok (.l2i, 1) := by decide +kernel
theorem dX9_caption_47 : decode cX9_caption 47 = .ok (.bipush 97, 2) := by decide +kernel
theorem dX9_caption_49 : decode cX9_caption 49 = .ok (.bipush 122, 2) := by decide +kernel
theorem dX9_caption_51 : decode cX9_caption 51 = .ok (.invokestatic 124, 3) := by decide +kernel
theorem dX9_caption_54 : decode cX9_caption 54 = .ok (.ifCond .ne 6, 3) := by decide +kernel
theorem dX9_caption_57 : decode cX9_caption 57 = .ok (.bipush (-3), 2) := by decide +kernel
theorem dX9_caption_59 : decode cX9_caption 59 = .ok (.ireturn, 1) := by decide +kernel
theorem dX9_caption_60 : decode cX9_caption 60 = .ok (.iinc 5 1, 3) := by decide +kernel
theorem dX9_caption_63 : decode cX9_caption 63 = .ok (.goto (-35), 3) := by decide +kernel
theorem dX9_caption_66 : decode cX9_caption 66 = .ok (.iconst 0, 1) := by decide +kernel
theorem dX9_caption_67 : decode cX9_caption 67 = .ok (.istore 5, 2) := by decide +kernel
theorem dX9_caption_69 : decode cX9_caption 69 = .ok (.iload 5, 2) := by decide +kernel
theorem dX9_caption_71 : decode cX9_caption 71 = .ok (.iload 4, 2) := by decide +kernel
theorem dX9_caption_73 : decode cX9_caption 73 = .ok (.if_icmp .ge 33, 3) := by decide +kernel
theorem dX9_caption_76 : decode cX9_caption 76 = .ok (.aload_n 0, 1) := by decide +kernel
theorem dX9_caption_77 : decode cX9_caption 77 = .ok (.getfield 38, 3) := by decide +kernel
theorem dX9_caption_80 : decode cX9_caption 80 = .ok (.bipush 8, 2) := by decide +kernel
theorem dX9_caption_82 : decode cX9_caption 82 = .ok (.iload_n 1, 1) := by decide +kernel
theorem dX9_caption_83 : decode cX9_caption 83 = .ok (.imul, 1) := by decide +kernel
theorem dX9_caption_84 : decode cX9_caption 84 = .ok (.iload 5, 2) := by decide +kernel
theorem dX9_caption_86 : decode cX9_caption 86 = .ok (.iadd, 1) := by decide +kernel
theorem dX9_caption_87 : decode cX9_caption 87 = .ok (.lload_n 2, 1) := by decide +kernel
theorem dX9_caption_88 : decode cX9_caption 88 = .ok (.bipush 8, 2) := by decide +kernel
theorem dX9_caption_90 : decode cX9_caption 90 = .ok (.iload 5, 2) := by decide +kernel
theorem dX9_caption_92 : decode cX9_caption 92 = .ok (.imul, 1) := by decide +kernel
theorem dX9_caption_93 : decode cX9_caption 93 = .ok (.lshr, 1) := by decide +kernel
theorem dX9_caption_94 : decode cX9_caption 94 = .ok (.ldc2_w 138, 3) := by decide +kernel
theorem dX9_caption_97 : decode cX9_caption 97 = .ok (.land, 1) := by decide +kernel
theorem dX9_caption_98 : decode cX9_caption 98 = .ok (.l2i, 1) := by decide +kernel
theorem dX9_caption_99 : decode cX9_caption 99 = .ok (.iastore, 1) := by decide +kernel
theorem dX9_caption_100 : decode cX9_caption 100 = .ok (.iinc 5 1, 3) := by decide +kernel
theorem dX9_caption_103 : decode cX9_caption 103 = .ok (.goto (-34), 3) := by decide +kernel
theorem dX9_caption_106 : decode cX9_caption 106 = .ok (.aload_n 0, 1) := by decide +kernel
theorem dX9_caption_107 : decode cX9_caption 107 = .ok (.getfield 35, 3) := by decide +kernel
theorem dX9_caption_110 : decode cX9_caption 110 = .ok (.iload_n 1, 1) := by decide +kernel
theorem dX9_caption_111 : decode cX9_caption 111 = .ok (.iload 4, 2) := by decide +kernel
theorem dX9_caption_113 : decode cX9_caption 113 = .ok (.iastore, 1) := by decide +kernel
theorem dX9_caption_114 : decode cX9_caption 114 = .ok (.iconst 1, 1) := by decide +kernel
theorem dX9_caption_115 : decode cX9_caption 115 = .ok (.ireturn, 1) := by decide +kernel
set_option maxRecDepth 100000 in
set_option maxHeartbeats 40000000 in
theorem gp_m_caption {G : vG} {l : Launch} (σ : Sg) (c : Int32) (p : Int64) (n : Int32) (hI : Inv σ) : Sp G l yX9_caption cX9_caption 6 (some .int) 2 0 0 [.ref 140, .int c, .long p, .int n] (WW σ) (QI (fun _ w2 => ∃ σ2, w2 = WW σ2 ∧ Inv σ2)) := by
  refine Sp_of_R [(some (.ref 140)), (some (.int c)), (some (.long p)), none, (some (.int n)), none] [none] rfl (by simp) rfl (Nat.le_of_ble_eq_true rfl) ?_
  refine R_aload_n (pc := 0) dX9_caption_0 rfl rfl ?_
  refine R_iload_n (pc := 1) dX9_caption_1 rfl rfl ?_
  refine k_X9_135 (pc := 2) (gx_X9_isThere _ _ hI) rfl (c_140 _) (by decide) (Nat.le_refl _) (Nat.le_refl _) (Nat.le_of_ble_eq_true rfl) dX9_caption_2 (fun x w2 h => ?_)
  rcases h with ⟨rfl, ⟨h1, rfl⟩ | rfl⟩
  · skip
    refine R_ifne (pc := 5) 11 dX9_caption_5 (by decide) (fun _ => ?_) (fun h => absurd h (by decide))
    refine R_iload (pc := 11) dX9_caption_11 rfl ?_
    refine R_iconst (pc := 13) (v := 0) dX9_caption_13 (by decide) ?_
    refine R_bipush (pc := 14) (v := 8) dX9_caption_14 (by decide) ?_
    refine k_X9_124 (pc := 16) (sp_X9_in _ _ _ _) rfl (by decide) (Nat.le_refl _) (Nat.le_refl _) (Nat.le_of_ble_eq_true rfl) dX9_caption_16 (fun x w2 h => ?_)
    rcases h with ⟨rfl, ⟨h3, rfl⟩ | ⟨h3, rfl⟩⟩
    · skip
      refine R_ifne (pc := 19) 25 dX9_caption_19 (by decide) (fun _ => ?_) (fun h => absurd h (by decide))
      refine R_iconst (pc := 25) (v := 0) dX9_caption_25 (by decide) ?_
      refine st_6_5_i_i (pc := 26) dX9_caption_26 ?_
      have HL28 : ∀ (q j28 : Nat), j28 + q = 8 → 0 ≤ j28 → R G l yX9_caption cX9_caption 6 (some .int) 2 0 0 (QI (fun _ w2 => ∃ σ2, w2 = WW σ2 ∧ Inv σ2)) 28 [(some (.ref 140)), (some (.int c)), (some (.long p)), none, (some (.int n)), (some (.int (nI j28)))] [] (WW σ) 0 0 := by
        intro q
        induction q with
        | zero =>
          intro j28 hj hs28
          obtain rfl : j28 = 8 := by omega
          refine R_iload (pc := 28) dX9_caption_28 rfl ?_
          refine R_iload (pc := 30) dX9_caption_30 rfl ?_
          refine R_icge (pc := 32) 66 dX9_caption_32 (by decide) (fun _ => ?_) (fun h => absurd (Int32.not_lt.mp (inR_up h3 (Int32.le_refl _) (by decide)).2) h)
          refine R_iconst (pc := 66) (v := 0) dX9_caption_66 (by decide) ?_
          refine st_6_5_i_i (pc := 67) dX9_caption_67 ?_
          have HL69 : ∀ (q j69 : Nat) (σ69 : Sg), j69 + q = 8 → 0 ≤ j69 → Inv σ69 → R G l yX9_caption cX9_caption 6 (some .int) 2 0 0 (QI (fun _ w2 => ∃ σ2, w2 = WW σ2 ∧ Inv σ2)) 69 [(some (.ref 140)), (some (.int c)), (some (.long p)), none, (some (.int n)), (some (.int (nI j69)))] [] (WW σ69) 0 0 := by
            intro q
            induction q with
            | zero =>
              intro j69 σ69 hj hs69 hI69
              obtain rfl : j69 = 8 := by omega
              refine R_iload (pc := 69) dX9_caption_69 rfl ?_
              refine R_iload (pc := 71) dX9_caption_71 rfl ?_
              refine R_icge (pc := 73) 106 dX9_caption_73 (by decide) (fun _ => ?_) (fun h => absurd (Int32.not_lt.mp (inR_up h3 (Int32.le_refl _) (by decide)).2) h)
              refine R_aload_n (pc := 106) dX9_caption_106 rfl rfl ?_
              refine g_X9_35 (pc := 107) (v := .ref 149) rfl dX9_caption_107 (c_140 _) rfl ?_
              refine R_iload_n (pc := 110) dX9_caption_110 rfl rfl ?_
              refine R_iload (pc := 111) dX9_caption_111 rfl ?_
              have hx7 : vp_in c 20 := (vp_of_inR h1 (by decide))
              refine W_iastore (pc := 113) dX9_caption_113 (c_149 _) hx7 (a_149 _ _) ?_
              have hV8 := sa_149 hI69 (Int32.toNatClampNeg c) h3
              refine R_iconst (pc := 114) (v := 1) dX9_caption_114 (by decide) ?_
              exact R_iret (pc := 115) dX9_caption_115 rfl rfl (Nat.zero_le _) (Nat.zero_le _) ⟨_, rfl, _, rfl, hV8⟩
            | succ q ih69 =>
              intro j69 σ69 hj hs69 hI69
              have hrg69 : inR (nI j69) 0 7 := inR_ix hs69 (show j69 < 8 by omega) (by decide) (by decide) (by decide)
              have hlt69 : j69 < 8 := by omega
              refine R_iload (pc := 69) dX9_caption_69 rfl ?_
              refine R_iload (pc := 71) dX9_caption_71 rfl ?_
              refine R_icge (pc := 73) 106 dX9_caption_73 (by decide) (fun b73_9 => ?_) (fun b73_9 => ?_)
              · skip
                refine R_aload_n (pc := 106) dX9_caption_106 rfl rfl ?_
                refine g_X9_35 (pc := 107) (v := .ref 149) rfl dX9_caption_107 (c_140 _) rfl ?_
                refine R_iload_n (pc := 110) dX9_caption_110 rfl rfl ?_
                refine R_iload (pc := 111) dX9_caption_111 rfl ?_
                have hx10 : vp_in c 20 := (vp_of_inR h1 (by decide))
                refine W_iastore (pc := 113) dX9_caption_113 (c_149 _) hx10 (a_149 _ _) ?_
                have hV11 := sa_149 hI69 (Int32.toNatClampNeg c) h3
                refine R_iconst (pc := 114) (v := 1) dX9_caption_114 (by decide) ?_
                exact R_iret (pc := 115) dX9_caption_115 rfl rfl (Nat.zero_le _) (Nat.zero_le _) ⟨_, rfl, _, rfl, hV11⟩
              · skip
                refine R_aload_n (pc := 76) dX9_caption_76 rfl rfl ?_
                refine g_X9_38 (pc := 77) (v := .ref 150) rfl dX9_caption_77 (c_140 _) rfl ?_
                refine R_bipush (pc := 80) (v := 8) dX9_caption_80 (by decide) ?_
                refine R_iload_n (pc := 82) dX9_caption_82 rfl rfl ?_
                refine R_imul (pc := 83) dX9_caption_83 ?_
                have r12 : inR (8 * c) 0 152 := inR_mulc (c := 8) (l := 0) (h := 152) 8 (by decide) (show inR c 0 19 from h1) (by decide) (by decide)
                have e13 := ti_mulc (c := 8) (l := 0) (h := 152) 8 (by decide) (show inR c 0 19 from h1) (by decide) (by decide)
                refine R_iload (pc := 84) dX9_caption_84 rfl ?_
                refine R_iadd (pc := 86) dX9_caption_86 ?_
                have r14 : inR ((8 * c) + (nI j69)) 0 159 := inR_add (show inR (8 * c) 0 152 from r12) (show inR (nI j69) 0 7 from hrg69) (by decide) (by decide)
                have e15 := ti_add (l := 0) (h := 159) (show inR (8 * c) 0 152 from r12) (show inR (nI j69) 0 7 from hrg69) (by decide) (by decide)
                refine R_lload_n (pc := 87) dX9_caption_87 rfl rfl ?_
                refine R_bipush (pc := 88) (v := 8) dX9_caption_88 (by decide) ?_
                refine R_iload (pc := 90) dX9_caption_90 rfl ?_
                refine R_imul (pc := 92) dX9_caption_92 ?_
                have r16 : inR (8 * (nI j69)) 0 56 := inR_mulc (c := 8) (l := 0) (h := 56) 8 (by decide) (show inR (nI j69) 0 7 from hrg69) (by decide) (by decide)
                have e17 := ti_mulc (c := 8) (l := 0) (h := 56) 8 (by decide) (show inR (nI j69) 0 7 from hrg69) (by decide) (by decide)
                refine R_lshr (pc := 93) dX9_caption_93 ?_
                refine R_ldc2 (pc := 94) w_1004c dX9_caption_94 ?_
                refine R_land (pc := 97) dX9_caption_97 ?_
                refine R_l2i (pc := 98) dX9_caption_98 ?_
                have hx18 : vp_in ((8 * c) + (nI j69)) 160 := (vp_of_inR r14 (by decide))
                refine W_iastore (pc := 99) dX9_caption_99 (c_150 _) hx18 (a_150 _ _) ?_
                refine inc_6_5_1_i (pc := 100) dX9_caption_100 ?_
                have r19 : inR ((nI j69) + 1) 1 8 := inR_add (show inR (nI j69) 0 7 from hrg69) (show inR 1 1 1 from (inR_self _)) (by decide) (by decide)
                have e20 := ti_add (l := 1) (h := 8) (show inR (nI j69) 0 7 from hrg69) (show inR 1 1 1 from (inR_self _)) (by decide) (by decide)
                refine R_goto (pc := 103) 69 dX9_caption_103 (by decide) ?_
                rw [nI_1]
                exact ih69 (j69 + 1) _ (by omega) (by omega) hI69
          exact HL69 8 0 _ (by omega) (by omega) hI
        | succ q ih28 =>
          intro j28 hj hs28
          have hrg28 : inR (nI j28) 0 7 := inR_ix hs28 (show j28 < 8 by omega) (by decide) (by decide) (by decide)
          have hlt28 : j28 < 8 := by omega
          refine R_iload (pc := 28) dX9_caption_28 rfl ?_
          refine R_iload (pc := 30) dX9_caption_30 rfl ?_
          refine R_icge (pc := 32) 66 dX9_caption_32 (by decide) (fun b32_21 => ?_) (fun b32_21 => ?_)
          · skip
            refine R_iconst (pc := 66) (v := 0) dX9_caption_66 (by decide) ?_
            refine st_6_5_i_i (pc := 67) dX9_caption_67 ?_
            have HL69 : ∀ (q j69 : Nat) (σ69 : Sg), j69 + q = 8 → 0 ≤ j69 → Inv σ69 → R G l yX9_caption cX9_caption 6 (some .int) 2 0 0 (QI (fun _ w2 => ∃ σ2, w2 = WW σ2 ∧ Inv σ2)) 69 [(some (.ref 140)), (some (.int c)), (some (.long p)), none, (some (.int n)), (some (.int (nI j69)))] [] (WW σ69) 0 0 := by
              intro q
              induction q with
              | zero =>
                intro j69 σ69 hj hs69 hI69
                obtain rfl : j69 = 8 := by omega
                refine R_iload (pc := 69) dX9_caption_69 rfl ?_
                refine R_iload (pc := 71) dX9_caption_71 rfl ?_
                refine R_icge (pc := 73) 106 dX9_caption_73 (by decide) (fun _ => ?_) (fun h => absurd (Int32.not_lt.mp (inR_up h3 (Int32.le_refl _) (by decide)).2) h)
                refine R_aload_n (pc := 106) dX9_caption_106 rfl rfl ?_
                refine g_X9_35 (pc := 107) (v := .ref 149) rfl dX9_caption_107 (c_140 _) rfl ?_
                refine R_iload_n (pc := 110) dX9_caption_110 rfl rfl ?_
                refine R_iload (pc := 111) dX9_caption_111 rfl ?_
                have hx23 : vp_in c 20 := (vp_of_inR h1 (by decide))
                refine W_iastore (pc := 113) dX9_caption_113 (c_149 _) hx23 (a_149 _ _) ?_
                have hV24 := sa_149 hI69 (Int32.toNatClampNeg c) h3
                refine R_iconst (pc := 114) (v := 1) dX9_caption_114 (by decide) ?_
                exact R_iret (pc := 115) dX9_caption_115 rfl rfl (Nat.zero_le _) (Nat.zero_le _) ⟨_, rfl, _, rfl, hV24⟩
              | succ q ih69 =>
                intro j69 σ69 hj hs69 hI69
                have hrg69 : inR (nI j69) 0 7 := inR_ix hs69 (show j69 < 8 by omega) (by decide) (by decide) (by decide)
                have hlt69 : j69 < 8 := by omega
                refine R_iload (pc := 69) dX9_caption_69 rfl ?_
                refine R_iload (pc := 71) dX9_caption_71 rfl ?_
                refine R_icge (pc := 73) 106 dX9_caption_73 (by decide) (fun b73_25 => ?_) (fun b73_25 => ?_)
                · skip
                  refine R_aload_n (pc := 106) dX9_caption_106 rfl rfl ?_
                  refine g_X9_35 (pc := 107) (v := .ref 149) rfl dX9_caption_107 (c_140 _) rfl ?_
                  refine R_iload_n (pc := 110) dX9_caption_110 rfl rfl ?_
                  refine R_iload (pc := 111) dX9_caption_111 rfl ?_
                  have hx26 : vp_in c 20 := (vp_of_inR h1 (by decide))
                  refine W_iastore (pc := 113) dX9_caption_113 (c_149 _) hx26 (a_149 _ _) ?_
                  have hV27 := sa_149 hI69 (Int32.toNatClampNeg c) h3
                  refine R_iconst (pc := 114) (v := 1) dX9_caption_114 (by decide) ?_
                  exact R_iret (pc := 115) dX9_caption_115 rfl rfl (Nat.zero_le _) (Nat.zero_le _) ⟨_, rfl, _, rfl, hV27⟩
                · skip
                  refine R_aload_n (pc := 76) dX9_caption_76 rfl rfl ?_
                  refine g_X9_38 (pc := 77) (v := .ref 150) rfl dX9_caption_77 (c_140 _) rfl ?_
                  refine R_bipush (pc := 80) (v := 8) dX9_caption_80 (by decide) ?_
                  refine R_iload_n (pc := 82) dX9_caption_82 rfl rfl ?_
                  refine R_imul (pc := 83) dX9_caption_83 ?_
                  have r28 : inR (8 * c) 0 152 := inR_mulc (c := 8) (l := 0) (h := 152) 8 (by decide) (show inR c 0 19 from h1) (by decide) (by decide)
                  have e29 := ti_mulc (c := 8) (l := 0) (h := 152) 8 (by decide) (show inR c 0 19 from h1) (by decide) (by decide)
                  refine R_iload (pc := 84) dX9_caption_84 rfl ?_
                  refine R_iadd (pc := 86) dX9_caption_86 ?_
                  have r30 : inR ((8 * c) + (nI j69)) 0 159 := inR_add (show inR (8 * c) 0 152 from r28) (show inR (nI j69) 0 7 from hrg69) (by decide) (by decide)
                  have e31 := ti_add (l := 0) (h := 159) (show inR (8 * c) 0 152 from r28) (show inR (nI j69) 0 7 from hrg69) (by decide) (by decide)
                  refine R_lload_n (pc := 87) dX9_caption_87 rfl rfl ?_
                  refine R_bipush (pc := 88) (v := 8) dX9_caption_88 (by decide) ?_
                  refine R_iload (pc := 90) dX9_caption_90 rfl ?_
                  refine R_imul (pc := 92) dX9_caption_92 ?_
                  have r32 : inR (8 * (nI j69)) 0 56 := inR_mulc (c := 8) (l := 0) (h := 56) 8 (by decide) (show inR (nI j69) 0 7 from hrg69) (by decide) (by decide)
                  have e33 := ti_mulc (c := 8) (l := 0) (h := 56) 8 (by decide) (show inR (nI j69) 0 7 from hrg69) (by decide) (by decide)
                  refine R_lshr (pc := 93) dX9_caption_93 ?_
                  refine R_ldc2 (pc := 94) w_1004c dX9_caption_94 ?_
                  refine R_land (pc := 97) dX9_caption_97 ?_
                  refine R_l2i (pc := 98) dX9_caption_98 ?_
                  have hx34 : vp_in ((8 * c) + (nI j69)) 160 := (vp_of_inR r30 (by decide))
                  refine W_iastore (pc := 99) dX9_caption_99 (c_150 _) hx34 (a_150 _ _) ?_
                  refine inc_6_5_1_i (pc := 100) dX9_caption_100 ?_
                  have r35 : inR ((nI j69) + 1) 1 8 := inR_add (show inR (nI j69) 0 7 from hrg69) (show inR 1 1 1 from (inR_self _)) (by decide) (by decide)
                  have e36 := ti_add (l := 1) (h := 8) (show inR (nI j69) 0 7 from hrg69) (show inR 1 1 1 from (inR_self _)) (by decide) (by decide)
                  refine R_goto (pc := 103) 69 dX9_caption_103 (by decide) ?_
                  rw [nI_1]
                  exact ih69 (j69 + 1) _ (by omega) (by omega) hI69
            exact HL69 8 0 _ (by omega) (by omega) hI
          · skip
            refine R_lload_n (pc := 35) dX9_caption_35 rfl rfl ?_
            refine R_bipush (pc := 36) (v := 8) dX9_caption_36 (by decide) ?_
            refine R_iload (pc := 38) dX9_caption_38 rfl ?_
            refine R_imul (pc := 40) dX9_caption_40 ?_
            have r37 : inR (8 * (nI j28)) 0 56 := inR_mulc (c := 8) (l := 0) (h := 56) 8 (by decide) (show inR (nI j28) 0 7 from hrg28) (by decide) (by decide)
            have e38 := ti_mulc (c := 8) (l := 0) (h := 56) 8 (by decide) (show inR (nI j28) 0 7 from hrg28) (by decide) (by decide)
            refine R_lshr (pc := 41) dX9_caption_41 ?_
            refine R_ldc2 (pc := 42) w_1004c dX9_caption_42 ?_
            refine R_land (pc := 45) dX9_caption_45 ?_
            refine R_l2i (pc := 46) dX9_caption_46 ?_
            refine R_bipush (pc := 47) (v := 97) dX9_caption_47 (by decide) ?_
            refine R_bipush (pc := 49) (v := 122) dX9_caption_49 (by decide) ?_
            refine k_X9_124 (pc := 51) (sp_X9_in _ _ _ _) rfl (by decide) (Nat.le_refl _) (Nat.le_refl _) (Nat.le_of_ble_eq_true rfl) dX9_caption_51 (fun x w2 h => ?_)
            rcases h with ⟨rfl, ⟨h39, rfl⟩ | ⟨h39, rfl⟩⟩
            · skip
              refine R_ifne (pc := 54) 60 dX9_caption_54 (by decide) (fun _ => ?_) (fun h => absurd h (by decide))
              refine inc_6_5_1_i (pc := 60) dX9_caption_60 ?_
              have r41 : inR ((nI j28) + 1) 1 8 := inR_add (show inR (nI j28) 0 7 from hrg28) (show inR 1 1 1 from (inR_self _)) (by decide) (by decide)
              have e42 := ti_add (l := 1) (h := 8) (show inR (nI j28) 0 7 from hrg28) (show inR 1 1 1 from (inR_self _)) (by decide) (by decide)
              refine R_goto (pc := 63) 28 dX9_caption_63 (by decide) ?_
              rw [nI_1]
              exact ih28 (j28 + 1) (by omega) (by omega)
            · skip
              refine R_ifne (pc := 54) 60 dX9_caption_54 (by decide) (fun h => absurd (by decide) h) (fun _ => ?_)
              refine R_bipush (pc := 57) (v := (-3)) dX9_caption_57 (by decide) ?_
              exact R_iret (pc := 59) dX9_caption_59 rfl rfl (Nat.zero_le _) (Nat.zero_le _) ⟨_, rfl, _, rfl, hI⟩
      exact HL28 8 0 (by omega) (by omega)
    · skip
      refine R_ifne (pc := 19) 25 dX9_caption_19 (by decide) (fun h => absurd (by decide) h) (fun _ => ?_)
      refine R_bipush (pc := 22) (v := (-3)) dX9_caption_22 (by decide) ?_
      exact R_iret (pc := 24) dX9_caption_24 rfl rfl (Nat.zero_le _) (Nat.zero_le _) ⟨_, rfl, _, rfl, hI⟩
  · skip
    refine R_ifne (pc := 5) 11 dX9_caption_5 (by decide) (fun h => absurd (by decide) h) (fun _ => ?_)
    refine R_bipush (pc := 8) (v := (-2)) dX9_caption_8 (by decide) ?_
    exact R_iret (pc := 10) dX9_caption_10 rfl rfl (Nat.zero_le _) (Nat.zero_le _) ⟨_, rfl, _, rfl, hI⟩
theorem dX9_days_0 : decode cX9_days 0 = .ok (.iload_n 1, 1) := by decide +kernel
theorem dX9_days_1 : decode cX9_days 1 = .ok (.iconst 1, 1) := by decide +kernel
theorem dX9_days_2 : decode cX9_days 2 = .ok (.bipush 99, 2) := by decide +kernel
theorem dX9_days_4 : decode cX9_days 4 = .ok (.invokestatic 124, 3) := by decide +kernel
theorem dX9_days_7 : decode cX9_days 7 = .ok (.ifCond .eq 15, 3) := by decide +kernel
theorem dX9_days_10 : decode cX9_days 10 = .ok (.aload_n 0, 1) := by decide +kernel
theorem dX9_days_11 : decode cX9_days 11 = .ok (.getfield 132, 3) := by decide +kernel
theorem dX9_days_14 : decode cX9_days 14 = .ok (.iload_n 1, 1) := by decide +kernel
theorem dX9_days_15 : decode cX9_days 15 = .ok (.iadd, 1) := by decide +kernel
theorem dX9_days_16 : decode cX9_days 16 = .ok (.sipush 999, 3) := by decide +kernel
theorem dX9_days_19 : decode cX9_days 19 = .ok (.if_icmp .le 6, 3) := by decide +kernel
theorem dX9_days_22 : decode cX9_days 22 = .ok (.bipush (-3), 2) := by decide +kernel
theorem dX9_days_24 : decode cX9_days 24 = .ok (.ireturn, 1) := by decide +kernel
theorem dX9_days_25 : decode cX9_days 25 = .ok (.aload_n 0, 1) := by decide +kernel
theorem dX9_days_26 : decode cX9_days 26 = .ok (.dup, 1) := by decide +kernel
theorem dX9_days_27 : decode cX9_days 27 = .ok (.getfield 132, 3) := by decide +kernel
theorem dX9_days_30 : decode cX9_days 30 = .ok (.iload_n 1, 1) := by decide +kernel
theorem dX9_days_31 : decode cX9_days 31 = .ok (.iadd, 1) := by decide +kernel
theorem dX9_days_32 : decode cX9_days 32 = .ok (.putfield 132, 3) := by decide +kernel
theorem dX9_days_35 : decode cX9_days 35 = .ok (.aload_n 0, 1) := by decide +kernel
theorem dX9_days_36 : decode cX9_days 36 = .ok (.getfield 132, 3) := by decide +kernel
theorem dX9_days_39 : decode cX9_days 39 = .ok (.ireturn, 1) := by decide +kernel
set_option maxRecDepth 100000 in
set_option maxHeartbeats 40000000 in
theorem gp_m_days {G : vG} {l : Launch} (σ : Sg) (a : Int32) (hI : Inv σ) : Sp G l yX9_days cX9_days 2 (some .int) 1 0 0 [.ref 140, .int a] (WW σ) (QI (fun _ w2 => ∃ σ2, w2 = WW σ2 ∧ Inv σ2)) := by
  refine Sp_of_R [(some (.ref 140)), (some (.int a))] [] rfl (by simp) rfl (Nat.le_of_ble_eq_true rfl) ?_
  refine R_iload_n (pc := 0) dX9_days_0 rfl rfl ?_
  refine R_iconst (pc := 1) (v := 1) dX9_days_1 (by decide) ?_
  refine R_bipush (pc := 2) (v := 99) dX9_days_2 (by decide) ?_
  refine k_X9_124 (pc := 4) (sp_X9_in _ _ _ _) rfl (by decide) (Nat.le_refl _) (Nat.le_refl _) (Nat.le_of_ble_eq_true rfl) dX9_days_4 (fun x w2 h => ?_)
  rcases h with ⟨rfl, ⟨h1, rfl⟩ | ⟨h1, rfl⟩⟩
  · skip
    refine R_ifeq (pc := 7) 22 dX9_days_7 (by decide) (fun h => absurd h (by decide)) (fun _ => ?_)
    refine R_aload_n (pc := 10) dX9_days_10 rfl rfl ?_
    refine g_X9_132 (pc := 11) (v := .int (σ.1 14011)) rfl dX9_days_11 (c_140 _) rfl ?_
    refine R_iload_n (pc := 14) dX9_days_14 rfl rfl ?_
    refine R_iadd (pc := 15) dX9_days_15 ?_
    refine R_sipush (pc := 16) (v := 999) dX9_days_16 (by decide) ?_
    refine R_icle (pc := 19) 25 dX9_days_19 (by decide) (fun b19_3 => ?_) (fun b19_3 => ?_)
    · skip
      refine R_aload_n (pc := 25) dX9_days_25 rfl rfl ?_
      refine R_dup (pc := 26) dX9_days_26 rfl ?_
      refine g_X9_132 (pc := 27) (v := .int (σ.1 14011)) rfl dX9_days_27 (c_140 _) rfl ?_
      refine R_iload_n (pc := 30) dX9_days_30 rfl rfl ?_
      refine R_iadd (pc := 31) dX9_days_31 ?_
      refine p_X9_132 (pc := 32) rfl dX9_days_32 (c_140 _) (Nat.le_of_ble_eq_true rfl) rfl rfl (s_140_11 _ _) ?_
      have hW4 := cor_ci 14011 ((σ.1 14011) + a) (Cor.rfl' σ)
      refine R_aload_n (pc := 35) dX9_days_35 rfl rfl ?_
      refine g_X9_132 (pc := 36) (v := .int ((σ.1 14011) + a)) rfl dX9_days_36 (c_140 _) rfl ?_
      exact R_iret (pc := 39) dX9_days_39 rfl rfl (Nat.zero_le _) (Nat.zero_le _) ⟨_, rfl, _, rfl, hI⟩
    · skip
      refine R_bipush (pc := 22) (v := (-3)) dX9_days_22 (by decide) ?_
      exact R_iret (pc := 24) dX9_days_24 rfl rfl (Nat.zero_le _) (Nat.zero_le _) ⟨_, rfl, _, rfl, hI⟩
  · skip
    refine R_ifeq (pc := 7) 22 dX9_days_7 (by decide) (fun _ => ?_) (fun h => absurd (by decide) h)
    refine R_bipush (pc := 22) (v := (-3)) dX9_days_22 (by decide) ?_
    exact R_iret (pc := 24) dX9_days_24 rfl rfl (Nat.zero_le _) (Nat.zero_le _) ⟨_, rfl, _, rfl, hI⟩
theorem dX9_set_0 : decode cX9_set 0 = .ok (.iload_n 1, 1) := by decide +kernel
theorem dX9_set_1 : decode cX9_set 1 = .ok (.iconst 0, 1) := by decide +kernel
theorem dX9_set_2 : decode cX9_set 2 = .ok (.iconst 2, 1) := by decide +kernel
theorem dX9_set_3 : decode cX9_set 3 = .ok (.invokestatic 124, 3) := by decide +kernel
theorem dX9_set_6 : decode cX9_set 6 = .ok (.ifCond .eq 43, 3) := by decide +kernel
theorem dX9_set_9 : decode cX9_set 9 = .ok (.iload_n 2, 1) := by decide +kernel
theorem dX9_set_10 : decode cX9_set 10 = .ok (.iload_n 1, 1) := by decide +kernel
theorem dX9_set_11 : decode cX9_set 11 = .ok (.iconst 2, 1) := by decide +kernel
theorem dX9_set_12 : decode cX9_set 12 = .ok (.if_icmp .ne 7, 3) := by decide +kernel
theorem dX9_set_15 : decode cX9_set 15 = .ok (.iconst 1, 1) := by decide +kernel
theorem dX9_set_16 : decode cX9_set 16 = .ok (.goto 4, 3) := by decide +kernel
theorem dX9_set_19 : decode cX9_set 19 = .ok (.iconst 0, 1) := by decide +kernel
theorem dX9_set_20 : decode cX9_set 20 = .ok (.iload_n 1, 1) := by decide +kernel
theorem dX9_set_21 : decode cX9_set 21 = .ok (.ifCond .ne 8, 3) := by decide +kernel
theorem dX9_set_24 : decode cX9_set 24 = .ok (.bipush 8, 2) := by decide +kernel
theorem dX9_set_26 : decode cX9_set 26 = .ok (.goto 17, 3) := by decide +kernel
theorem dX9_set_29 : decode cX9_set 29 = .ok (.iload_n 1, 1) := by decide +kernel
theorem dX9_set_30 : decode cX9_set 30 = .ok (.iconst 1, 1) := by decide +kernel
theorem dX9_set_31 : decode cX9_set 31 = .ok (.if_icmp .ne 9, 3) := by decide +kernel
theorem dX9_set_34 : decode cX9_set 34 = .ok (.sipush 999, 3) := by decide +kernel
theorem dX9_set_37 : decode cX9_set 37 = .ok (.goto 6, 3) := by decide +kernel
theorem dX9_set_40 : decode cX9_set 40 = .ok (.sipush 10000, 3) := by decide +kernel
theorem dX9_set_43 : decode cX9_set 43 = .ok (.invokestatic 124, 3) := by decide +kernel
theorem dX9_set_46 : decode cX9_set 46 = .ok (.ifCond .ne 6, 3) := by decide +kernel
theorem dX9_set_49 : decode cX9_set 49 = .ok (.bipush (-3), 2) := by decide +kernel
theorem dX9_set_51 : decode cX9_set 51 = .ok (.ireturn, 1) := by decide +kernel
theorem dX9_set_52 : decode cX9_set 52 = .ok (.iload_n 1, 1) := by decide +kernel
theorem dX9_set_53 : decode cX9_set 53 = .ok (.ifCond .ne 10, 3) := by decide +kernel
theorem dX9_set_56 : decode cX9_set 56 = .ok (.aload_n 0, 1) := by decide +kernel
theorem dX9_set_57 : decode cX9_set 57 = .ok (.getfield 41, 3) := by decide +kernel
theorem dX9_set_60 : decode cX9_set 60 = .ok (.goto 19, 3) := by decide +kernel
theorem dX9_set_63 : decode cX9_set 63 = .ok (.iload_n 1, 1) := by decide +kernel
theorem dX9_set_64 : decode cX9_set 64 = .ok (.iconst 1, 1) := by decide +kernel
theorem dX9_set_65 : decode cX9_set 65 = .ok (.if_icmp .ne 10, 3) := by decide +kernel
theorem dX9_set_68 : decode cX9_set 68 = .ok (.aload_n 0, 1) := by decide +kernel
theorem dX9_set_69 : decode cX9_set 69 = .ok (.getfield 45, 3) := by decide +kernel
theorem dX9_set_72 : decode cX9_set 72 = .ok (.goto 7, 3) := by decide +kernel
theorem dX9_set_75 : decode cX9_set 75 = .ok (.aload_n 0, 1) := by decide +kernel
theorem dX9_set_76 : decode cX9_set 76 = .ok (.getfield 48, 3) := by decide +kernel
theorem dX9_set_79 : decode cX9_set 79 = .ok (.istore_n 3, 1) := by decide +kernel
theorem dX9_set_80 : decode cX9_set 80 = .ok (.aload_n 0, 1) := by decide +kernel
theorem dX9_set_81 : decode cX9_set 81 = .ok (.iload_n 1, 1) := by decide +kernel
theorem dX9_set_82 : decode cX9_set 82 = .ok (.ifCond .ne 7, 3) := by decide +kernel
theorem dX9_set_85 : decode cX9_set 85 = .ok (.iload_n 2, 1) := by decide +kernel
theorem dX9_set_86 : decode cX9_set 86 = .ok (.goto 7, 3) := by decide +kernel
theorem dX9_set_89 : decode cX9_set 89 = .ok (.aload_n 0, 1) := by decide +kernel
theorem dX9_set_90 : decode cX9_set 90 = .ok (.getfield 41, 3) := by decide +kernel
theorem dX9_set_93 : decode cX9_set 93 = .ok (.putfield 41, 3) := by decide +kernel
theorem dX9_set_96 : decode cX9_set 96 = .ok (.aload_n 0, 1) := by decide +kernel
theorem dX9_set_97 : decode cX9_set 97 = .ok (.iload_n 1, 1) := by decide +kernel
theorem dX9_set_98 : decode cX9_set 98 = .ok (.iconst 1, 1) := by decide +kernel
theorem dX9_set_99 : decode cX9_set 99 = .ok (.if_icmp .ne 7, 3) := by decide +kernel
theorem dX9_set_102 : decode cX9_set 102 = .ok (.iload_n 2, 1) := by decide +kernel
theorem dX9_set_103 : decode cX9_set 103 = .ok (.goto 7, 3) := by decide +kernel
theorem dX9_set_106 : decode cX9_set 106 = .ok (.aload_n 0, 1) := by decide +kernel
theorem dX9_set_107 : decode cX9_set 107 = .ok (.getfield 45, 3) := by decide +kernel
theorem dX9_set_110 : decode cX9_set 110 = .ok (.putfield 45, 3) := by decide +kernel
theorem dX9_set_113 : decode cX9_set 113 = .ok (.aload_n 0, 1) := by decide +kernel
theorem dX9_set_114 : decode cX9_set 114 = .ok (.iload_n 1, 1) := by decide +kernel
theorem dX9_set_115 : decode cX9_set 115 = .ok (.iconst 2, 1) := by decide +kernel
theorem dX9_set_116 : decode cX9_set 116 = .ok (.if_icmp .ne 7, 3) := by decide +kernel
theorem dX9_set_119 : decode cX9_set 119 = .ok (.iload_n 2, 1) := by decide +kernel
theorem dX9_set_120 : decode cX9_set 120 = .ok (.goto 7, 3) := by decide +kernel
theorem dX9_set_123 : decode cX9_set 123 = .ok (.aload_n 0, 1) := by decide +kernel
theorem dX9_set_124 : decode cX9_set 124 = .ok (.getfield 48, 3) := by decide +kernel
theorem dX9_set_127 : decode cX9_set 127 = .ok (.putfield 48, 3) := by decide +kernel
theorem dX9_set_130 : decode cX9_set 130 = .ok (.iload_n 3, 1) := by decide +kernel
theorem dX9_set_131 : decode cX9_set 131 = .ok (.ireturn, 1) := by decide +kernel
set_option maxRecDepth 100000 in
set_option maxHeartbeats 40000000 in
theorem gp_m_set {G : vG} {l : Launch} (σ : Sg) (a b : Int32) (hI : Inv σ) : Sp G l yX9_set cX9_set 4 (some .int) 1 0 0 [.ref 140, .int a, .int b] (WW σ) (QI (fun _ w2 => ∃ σ2, w2 = WW σ2 ∧ Inv σ2)) := by
  refine Sp_of_R [(some (.ref 140)), (some (.int a)), (some (.int b)), none] [none] rfl (by simp) rfl (Nat.le_of_ble_eq_true rfl) ?_
  refine R_iload_n (pc := 0) dX9_set_0 rfl rfl ?_
  refine R_iconst (pc := 1) (v := 0) dX9_set_1 (by decide) ?_
  refine R_iconst (pc := 2) (v := 2) dX9_set_2 (by decide) ?_
  refine k_X9_124 (pc := 3) (sp_X9_in _ _ _ _) rfl (by decide) (Nat.le_refl _) (Nat.le_refl _) (Nat.le_of_ble_eq_true rfl) dX9_set_3 (fun x w2 h => ?_)
  rcases h with ⟨rfl, ⟨h1, rfl⟩ | ⟨h1, rfl⟩⟩
  · skip
    refine R_ifeq (pc := 6) 49 dX9_set_6 (by decide) (fun h => absurd h (by decide)) (fun _ => ?_)
    refine R_iload_n (pc := 9) dX9_set_9 rfl rfl ?_
    refine R_iload_n (pc := 10) dX9_set_10 rfl rfl ?_
    refine R_iconst (pc := 11) (v := 2) dX9_set_11 (by decide) ?_
    refine R_icne (pc := 12) 19 dX9_set_12 (by decide) (fun b12_3 => ?_) (fun b12_3 => ?_)
    · skip
      refine R_iconst (pc := 19) (v := 0) dX9_set_19 (by decide) ?_
      refine R_iload_n (pc := 20) dX9_set_20 rfl rfl ?_
      refine R_ifne (pc := 21) 29 dX9_set_21 (by decide) (fun b21_4 => ?_) (fun b21_4 => ?_)
      · skip
        refine R_iload_n (pc := 29) dX9_set_29 rfl rfl ?_
        refine R_iconst (pc := 30) (v := 1) dX9_set_30 (by decide) ?_
        refine R_icne (pc := 31) 40 dX9_set_31 (by decide) (fun b31_5 => ?_) (fun b31_5 => ?_)
        · skip
          refine R_sipush (pc := 40) (v := 10000) dX9_set_40 (by decide) ?_
          refine k_X9_124 (pc := 43) (sp_X9_in _ _ _ _) rfl (by decide) (Nat.le_refl _) (Nat.le_refl _) (Nat.le_of_ble_eq_true rfl) dX9_set_43 (fun x w2 h => ?_)
          rcases h with ⟨rfl, ⟨h6, rfl⟩ | ⟨h6, rfl⟩⟩
          · skip
            refine R_ifne (pc := 46) 52 dX9_set_46 (by decide) (fun _ => ?_) (fun h => absurd h (by decide))
            refine R_iload_n (pc := 52) dX9_set_52 rfl rfl ?_
            refine R_ifne (pc := 53) 63 dX9_set_53 (by decide) (fun b53_8 => ?_) (fun b53_8 => ?_)
            · skip
              refine R_iload_n (pc := 63) dX9_set_63 rfl rfl ?_
              refine R_iconst (pc := 64) (v := 1) dX9_set_64 (by decide) ?_
              refine R_icne (pc := 65) 75 dX9_set_65 (by decide) (fun b65_9 => ?_) (fun b65_9 => ?_)
              · skip
                refine R_aload_n (pc := 75) dX9_set_75 rfl rfl ?_
                refine g_X9_48 (pc := 76) (v := .int (σ.1 14014)) rfl dX9_set_76 (c_140 _) rfl ?_
                refine st_4_3_i_i (pc := 79) dX9_set_79 ?_
                refine R_aload_n (pc := 80) dX9_set_80 rfl rfl ?_
                refine R_iload_n (pc := 81) dX9_set_81 rfl rfl ?_
                refine R_ifne (pc := 82) 89 dX9_set_82 (by decide) (fun b82_10 => ?_) (fun b82_10 => ?_)
                · skip
                  refine R_aload_n (pc := 89) dX9_set_89 rfl rfl ?_
                  refine g_X9_41 (pc := 90) (v := .int (σ.1 14012)) rfl dX9_set_90 (c_140 _) rfl ?_
                  refine p_X9_41 (pc := 93) rfl dX9_set_93 (c_140 _) (Nat.le_of_ble_eq_true rfl) rfl rfl (s_140_12 _ _) ?_
                  have hW11 := cor_ci 14012 (σ.1 14012) (Cor.rfl' σ)
                  refine R_aload_n (pc := 96) dX9_set_96 rfl rfl ?_
                  refine R_iload_n (pc := 97) dX9_set_97 rfl rfl ?_
                  refine R_iconst (pc := 98) (v := 1) dX9_set_98 (by decide) ?_
                  refine R_icne (pc := 99) 106 dX9_set_99 (by decide) (fun b99_12 => ?_) (fun b99_12 => ?_)
                  · skip
                    refine R_aload_n (pc := 106) dX9_set_106 rfl rfl ?_
                    refine g_X9_45 (pc := 107) (v := .int (σ.1 14013)) rfl dX9_set_107 (c_140 _) rfl ?_
                    refine p_X9_45 (pc := 110) rfl dX9_set_110 (c_140 _) (Nat.le_of_ble_eq_true rfl) rfl rfl (s_140_13 _ _) ?_
                    have hW13 := cor_ci 14013 (σ.1 14013) hW11
                    refine R_aload_n (pc := 113) dX9_set_113 rfl rfl ?_
                    refine R_iload_n (pc := 114) dX9_set_114 rfl rfl ?_
                    refine R_iconst (pc := 115) (v := 2) dX9_set_115 (by decide) ?_
                    refine R_icne (pc := 116) 123 dX9_set_116 (by decide) (fun b116_14 => ?_) (fun b116_14 => ?_)
                    · skip
                      refine R_aload_n (pc := 123) dX9_set_123 rfl rfl ?_
                      refine g_X9_48 (pc := 124) (v := .int (σ.1 14014)) rfl dX9_set_124 (c_140 _) rfl ?_
                      refine p_X9_48 (pc := 127) rfl dX9_set_127 (c_140 _) (Nat.le_of_ble_eq_true rfl) rfl rfl (s_140_14 _ _) ?_
                      have hW15 := cor_ci 14014 (σ.1 14014) hW13
                      refine R_iload_n (pc := 130) dX9_set_130 rfl rfl ?_
                      exact R_iret (pc := 131) dX9_set_131 rfl rfl (Nat.zero_le _) (Nat.zero_le _) ⟨_, rfl, _, rfl, hI⟩
                    · skip
                      refine R_iload_n (pc := 119) dX9_set_119 rfl rfl ?_
                      refine R_goto (pc := 120) 127 dX9_set_120 (by decide) ?_
                      refine p_X9_48 (pc := 127) rfl dX9_set_127 (c_140 _) (Nat.le_of_ble_eq_true rfl) rfl rfl (s_140_14 _ _) ?_
                      have hW16 := cor_ci 14014 b hW13
                      refine R_iload_n (pc := 130) dX9_set_130 rfl rfl ?_
                      exact R_iret (pc := 131) dX9_set_131 rfl rfl (Nat.zero_le _) (Nat.zero_le _) ⟨_, rfl, _, rfl, hI⟩
                  · skip
                    refine R_iload_n (pc := 102) dX9_set_102 rfl rfl ?_
                    refine R_goto (pc := 103) 110 dX9_set_103 (by decide) ?_
                    refine p_X9_45 (pc := 110) rfl dX9_set_110 (c_140 _) (Nat.le_of_ble_eq_true rfl) rfl rfl (s_140_13 _ _) ?_
                    have hW17 := cor_ci 14013 b hW11
                    refine R_aload_n (pc := 113) dX9_set_113 rfl rfl ?_
                    refine R_iload_n (pc := 114) dX9_set_114 rfl rfl ?_
                    refine R_iconst (pc := 115) (v := 2) dX9_set_115 (by decide) ?_
                    refine R_icne (pc := 116) 123 dX9_set_116 (by decide) (fun b116_18 => ?_) (fun b116_18 => ?_)
                    · skip
                      refine R_aload_n (pc := 123) dX9_set_123 rfl rfl ?_
                      refine g_X9_48 (pc := 124) (v := .int (σ.1 14014)) rfl dX9_set_124 (c_140 _) rfl ?_
                      refine p_X9_48 (pc := 127) rfl dX9_set_127 (c_140 _) (Nat.le_of_ble_eq_true rfl) rfl rfl (s_140_14 _ _) ?_
                      have hW19 := cor_ci 14014 (σ.1 14014) hW17
                      refine R_iload_n (pc := 130) dX9_set_130 rfl rfl ?_
                      exact R_iret (pc := 131) dX9_set_131 rfl rfl (Nat.zero_le _) (Nat.zero_le _) ⟨_, rfl, _, rfl, hI⟩
                    · skip
                      refine R_iload_n (pc := 119) dX9_set_119 rfl rfl ?_
                      refine R_goto (pc := 120) 127 dX9_set_120 (by decide) ?_
                      refine p_X9_48 (pc := 127) rfl dX9_set_127 (c_140 _) (Nat.le_of_ble_eq_true rfl) rfl rfl (s_140_14 _ _) ?_
                      have hW20 := cor_ci 14014 b hW17
                      refine R_iload_n (pc := 130) dX9_set_130 rfl rfl ?_
                      exact R_iret (pc := 131) dX9_set_131 rfl rfl (Nat.zero_le _) (Nat.zero_le _) ⟨_, rfl, _, rfl, hI⟩
                · skip
                  refine R_iload_n (pc := 85) dX9_set_85 rfl rfl ?_
                  refine R_goto (pc := 86) 93 dX9_set_86 (by decide) ?_
                  refine p_X9_41 (pc := 93) rfl dX9_set_93 (c_140 _) (Nat.le_of_ble_eq_true rfl) rfl rfl (s_140_12 _ _) ?_
                  have hW21 := cor_ci 14012 b (Cor.rfl' σ)
                  refine R_aload_n (pc := 96) dX9_set_96 rfl rfl ?_
                  refine R_iload_n (pc := 97) dX9_set_97 rfl rfl ?_
                  refine R_iconst (pc := 98) (v := 1) dX9_set_98 (by decide) ?_
                  refine R_icne (pc := 99) 106 dX9_set_99 (by decide) (fun b99_22 => ?_) (fun b99_22 => ?_)
                  · skip
                    refine R_aload_n (pc := 106) dX9_set_106 rfl rfl ?_
                    refine g_X9_45 (pc := 107) (v := .int (σ.1 14013)) rfl dX9_set_107 (c_140 _) rfl ?_
                    refine p_X9_45 (pc := 110) rfl dX9_set_110 (c_140 _) (Nat.le_of_ble_eq_true rfl) rfl rfl (s_140_13 _ _) ?_
                    have hW23 := cor_ci 14013 (σ.1 14013) hW21
                    refine R_aload_n (pc := 113) dX9_set_113 rfl rfl ?_
                    refine R_iload_n (pc := 114) dX9_set_114 rfl rfl ?_
                    refine R_iconst (pc := 115) (v := 2) dX9_set_115 (by decide) ?_
                    refine R_icne (pc := 116) 123 dX9_set_116 (by decide) (fun b116_24 => ?_) (fun b116_24 => ?_)
                    · skip
                      refine R_aload_n (pc := 123) dX9_set_123 rfl rfl ?_
                      refine g_X9_48 (pc := 124) (v := .int (σ.1 14014)) rfl dX9_set_124 (c_140 _) rfl ?_
                      refine p_X9_48 (pc := 127) rfl dX9_set_127 (c_140 _) (Nat.le_of_ble_eq_true rfl) rfl rfl (s_140_14 _ _) ?_
                      have hW25 := cor_ci 14014 (σ.1 14014) hW23
                      refine R_iload_n (pc := 130) dX9_set_130 rfl rfl ?_
                      exact R_iret (pc := 131) dX9_set_131 rfl rfl (Nat.zero_le _) (Nat.zero_le _) ⟨_, rfl, _, rfl, hI⟩
                    · skip
                      refine R_iload_n (pc := 119) dX9_set_119 rfl rfl ?_
                      refine R_goto (pc := 120) 127 dX9_set_120 (by decide) ?_
                      refine p_X9_48 (pc := 127) rfl dX9_set_127 (c_140 _) (Nat.le_of_ble_eq_true rfl) rfl rfl (s_140_14 _ _) ?_
                      have hW26 := cor_ci 14014 b hW23
                      refine R_iload_n (pc := 130) dX9_set_130 rfl rfl ?_
                      exact R_iret (pc := 131) dX9_set_131 rfl rfl (Nat.zero_le _) (Nat.zero_le _) ⟨_, rfl, _, rfl, hI⟩
                  · skip
                    refine R_iload_n (pc := 102) dX9_set_102 rfl rfl ?_
                    refine R_goto (pc := 103) 110 dX9_set_103 (by decide) ?_
                    refine p_X9_45 (pc := 110) rfl dX9_set_110 (c_140 _) (Nat.le_of_ble_eq_true rfl) rfl rfl (s_140_13 _ _) ?_
                    have hW27 := cor_ci 14013 b hW21
                    refine R_aload_n (pc := 113) dX9_set_113 rfl rfl ?_
                    refine R_iload_n (pc := 114) dX9_set_114 rfl rfl ?_
                    refine R_iconst (pc := 115) (v := 2) dX9_set_115 (by decide) ?_
                    refine R_icne (pc := 116) 123 dX9_set_116 (by decide) (fun b116_28 => ?_) (fun b116_28 => ?_)
                    · skip
                      refine R_aload_n (pc := 123) dX9_set_123 rfl rfl ?_
                      refine g_X9_48 (pc := 124) (v := .int (σ.1 14014)) rfl dX9_set_124 (c_140 _) rfl ?_
                      refine p_X9_48 (pc := 127) rfl dX9_set_127 (c_140 _) (Nat.le_of_ble_eq_true rfl) rfl rfl (s_140_14 _ _) ?_
                      have hW29 := cor_ci 14014 (σ.1 14014) hW27
                      refine R_iload_n (pc := 130) dX9_set_130 rfl rfl ?_
                      exact R_iret (pc := 131) dX9_set_131 rfl rfl (Nat.zero_le _) (Nat.zero_le _) ⟨_, rfl, _, rfl, hI⟩
                    · skip
                      refine R_iload_n (pc := 119) dX9_set_119 rfl rfl ?_
                      refine R_goto (pc := 120) 127 dX9_set_120 (by decide) ?_
                      refine p_X9_48 (pc := 127) rfl dX9_set_127 (c_140 _) (Nat.le_of_ble_eq_true rfl) rfl rfl (s_140_14 _ _) ?_
                      have hW30 := cor_ci 14014 b hW27
                      refine R_iload_n (pc := 130) dX9_set_130 rfl rfl ?_
                      exact R_iret (pc := 131) dX9_set_131 rfl rfl (Nat.zero_le _) (Nat.zero_le _) ⟨_, rfl, _, rfl, hI⟩
              · skip
                refine R_aload_n (pc := 68) dX9_set_68 rfl rfl ?_
                refine g_X9_45 (pc := 69) (v := .int (σ.1 14013)) rfl dX9_set_69 (c_140 _) rfl ?_
                refine R_goto (pc := 72) 79 dX9_set_72 (by decide) ?_
                refine st_4_3_i_i (pc := 79) dX9_set_79 ?_
                refine R_aload_n (pc := 80) dX9_set_80 rfl rfl ?_
                refine R_iload_n (pc := 81) dX9_set_81 rfl rfl ?_
                refine R_ifne (pc := 82) 89 dX9_set_82 (by decide) (fun b82_31 => ?_) (fun b82_31 => ?_)
                · skip
                  refine R_aload_n (pc := 89) dX9_set_89 rfl rfl ?_
                  refine g_X9_41 (pc := 90) (v := .int (σ.1 14012)) rfl dX9_set_90 (c_140 _) rfl ?_
                  refine p_X9_41 (pc := 93) rfl dX9_set_93 (c_140 _) (Nat.le_of_ble_eq_true rfl) rfl rfl (s_140_12 _ _) ?_
                  have hW32 := cor_ci 14012 (σ.1 14012) (Cor.rfl' σ)
                  refine R_aload_n (pc := 96) dX9_set_96 rfl rfl ?_
                  refine R_iload_n (pc := 97) dX9_set_97 rfl rfl ?_
                  refine R_iconst (pc := 98) (v := 1) dX9_set_98 (by decide) ?_
                  refine R_icne (pc := 99) 106 dX9_set_99 (by decide) (fun b99_33 => ?_) (fun b99_33 => ?_)
                  · skip
                    refine R_aload_n (pc := 106) dX9_set_106 rfl rfl ?_
                    refine g_X9_45 (pc := 107) (v := .int (σ.1 14013)) rfl dX9_set_107 (c_140 _) rfl ?_
                    refine p_X9_45 (pc := 110) rfl dX9_set_110 (c_140 _) (Nat.le_of_ble_eq_true rfl) rfl rfl (s_140_13 _ _) ?_
                    have hW34 := cor_ci 14013 (σ.1 14013) hW32
                    refine R_aload_n (pc := 113) dX9_set_113 rfl rfl ?_
                    refine R_iload_n (pc := 114) dX9_set_114 rfl rfl ?_
                    refine R_iconst (pc := 115) (v := 2) dX9_set_115 (by decide) ?_
                    refine R_icne (pc := 116) 123 dX9_set_116 (by decide) (fun b116_35 => ?_) (fun b116_35 => ?_)
                    · skip
                      refine R_aload_n (pc := 123) dX9_set_123 rfl rfl ?_
                      refine g_X9_48 (pc := 124) (v := .int (σ.1 14014)) rfl dX9_set_124 (c_140 _) rfl ?_
                      refine p_X9_48 (pc := 127) rfl dX9_set_127 (c_140 _) (Nat.le_of_ble_eq_true rfl) rfl rfl (s_140_14 _ _) ?_
                      have hW36 := cor_ci 14014 (σ.1 14014) hW34
                      refine R_iload_n (pc := 130) dX9_set_130 rfl rfl ?_
                      exact R_iret (pc := 131) dX9_set_131 rfl rfl (Nat.zero_le _) (Nat.zero_le _) ⟨_, rfl, _, rfl, hI⟩
                    · skip
                      refine R_iload_n (pc := 119) dX9_set_119 rfl rfl ?_
                      refine R_goto (pc := 120) 127 dX9_set_120 (by decide) ?_
                      refine p_X9_48 (pc := 127) rfl dX9_set_127 (c_140 _) (Nat.le_of_ble_eq_true rfl) rfl rfl (s_140_14 _ _) ?_
                      have hW37 := cor_ci 14014 b hW34
                      refine R_iload_n (pc := 130) dX9_set_130 rfl rfl ?_
                      exact R_iret (pc := 131) dX9_set_131 rfl rfl (Nat.zero_le _) (Nat.zero_le _) ⟨_, rfl, _, rfl, hI⟩
                  · skip
                    refine R_iload_n (pc := 102) dX9_set_102 rfl rfl ?_
                    refine R_goto (pc := 103) 110 dX9_set_103 (by decide) ?_
                    refine p_X9_45 (pc := 110) rfl dX9_set_110 (c_140 _) (Nat.le_of_ble_eq_true rfl) rfl rfl (s_140_13 _ _) ?_
                    have hW38 := cor_ci 14013 b hW32
                    refine R_aload_n (pc := 113) dX9_set_113 rfl rfl ?_
                    refine R_iload_n (pc := 114) dX9_set_114 rfl rfl ?_
                    refine R_iconst (pc := 115) (v := 2) dX9_set_115 (by decide) ?_
                    refine R_icne (pc := 116) 123 dX9_set_116 (by decide) (fun b116_39 => ?_) (fun b116_39 => ?_)
                    · skip
                      refine R_aload_n (pc := 123) dX9_set_123 rfl rfl ?_
                      refine g_X9_48 (pc := 124) (v := .int (σ.1 14014)) rfl dX9_set_124 (c_140 _) rfl ?_
                      refine p_X9_48 (pc := 127) rfl dX9_set_127 (c_140 _) (Nat.le_of_ble_eq_true rfl) rfl rfl (s_140_14 _ _) ?_
                      have hW40 := cor_ci 14014 (σ.1 14014) hW38
                      refine R_iload_n (pc := 130) dX9_set_130 rfl rfl ?_
                      exact R_iret (pc := 131) dX9_set_131 rfl rfl (Nat.zero_le _) (Nat.zero_le _) ⟨_, rfl, _, rfl, hI⟩
                    · skip
                      refine R_iload_n (pc := 119) dX9_set_119 rfl rfl ?_
                      refine R_goto (pc := 120) 127 dX9_set_120 (by decide) ?_
                      refine p_X9_48 (pc := 127) rfl dX9_set_127 (c_140 _) (Nat.le_of_ble_eq_true rfl) rfl rfl (s_140_14 _ _) ?_
                      have hW41 := cor_ci 14014 b hW38
                      refine R_iload_n (pc := 130) dX9_set_130 rfl rfl ?_
                      exact R_iret (pc := 131) dX9_set_131 rfl rfl (Nat.zero_le _) (Nat.zero_le _) ⟨_, rfl, _, rfl, hI⟩
                · skip
                  refine R_iload_n (pc := 85) dX9_set_85 rfl rfl ?_
                  refine R_goto (pc := 86) 93 dX9_set_86 (by decide) ?_
                  refine p_X9_41 (pc := 93) rfl dX9_set_93 (c_140 _) (Nat.le_of_ble_eq_true rfl) rfl rfl (s_140_12 _ _) ?_
                  have hW42 := cor_ci 14012 b (Cor.rfl' σ)
                  refine R_aload_n (pc := 96) dX9_set_96 rfl rfl ?_
                  refine R_iload_n (pc := 97) dX9_set_97 rfl rfl ?_
                  refine R_iconst (pc := 98) (v := 1) dX9_set_98 (by decide) ?_
                  refine R_icne (pc := 99) 106 dX9_set_99 (by decide) (fun b99_43 => ?_) (fun b99_43 => ?_)
                  · skip
                    refine R_aload_n (pc := 106) dX9_set_106 rfl rfl ?_
                    refine g_X9_45 (pc := 107) (v := .int (σ.1 14013)) rfl dX9_set_107 (c_140 _) rfl ?_
                    refine p_X9_45 (pc := 110) rfl dX9_set_110 (c_140 _) (Nat.le_of_ble_eq_true rfl) rfl rfl (s_140_13 _ _) ?_
                    have hW44 := cor_ci 14013 (σ.1 14013) hW42
                    refine R_aload_n (pc := 113) dX9_set_113 rfl rfl ?_
                    refine R_iload_n (pc := 114) dX9_set_114 rfl rfl ?_
                    refine R_iconst (pc := 115) (v := 2) dX9_set_115 (by decide) ?_
                    refine R_icne (pc := 116) 123 dX9_set_116 (by decide) (fun b116_45 => ?_) (fun b116_45 => ?_)
                    · skip
                      refine R_aload_n (pc := 123) dX9_set_123 rfl rfl ?_
                      refine g_X9_48 (pc := 124) (v := .int (σ.1 14014)) rfl dX9_set_124 (c_140 _) rfl ?_
                      refine p_X9_48 (pc := 127) rfl dX9_set_127 (c_140 _) (Nat.le_of_ble_eq_true rfl) rfl rfl (s_140_14 _ _) ?_
                      have hW46 := cor_ci 14014 (σ.1 14014) hW44
                      refine R_iload_n (pc := 130) dX9_set_130 rfl rfl ?_
                      exact R_iret (pc := 131) dX9_set_131 rfl rfl (Nat.zero_le _) (Nat.zero_le _) ⟨_, rfl, _, rfl, hI⟩
                    · skip
                      refine R_iload_n (pc := 119) dX9_set_119 rfl rfl ?_
                      refine R_goto (pc := 120) 127 dX9_set_120 (by decide) ?_
                      refine p_X9_48 (pc := 127) rfl dX9_set_127 (c_140 _) (Nat.le_of_ble_eq_true rfl) rfl rfl (s_140_14 _ _) ?_
                      have hW47 := cor_ci 14014 b hW44
                      refine R_iload_n (pc := 130) dX9_set_130 rfl rfl ?_
                      exact R_iret (pc := 131) dX9_set_131 rfl rfl (Nat.zero_le _) (Nat.zero_le _) ⟨_, rfl, _, rfl, hI⟩
                  · skip
                    refine R_iload_n (pc := 102) dX9_set_102 rfl rfl ?_
                    refine R_goto (pc := 103) 110 dX9_set_103 (by decide) ?_
                    refine p_X9_45 (pc := 110) rfl dX9_set_110 (c_140 _) (Nat.le_of_ble_eq_true rfl) rfl rfl (s_140_13 _ _) ?_
                    have hW48 := cor_ci 14013 b hW42
                    refine R_aload_n (pc := 113) dX9_set_113 rfl rfl ?_
                    refine R_iload_n (pc := 114) dX9_set_114 rfl rfl ?_
                    refine R_iconst (pc := 115) (v := 2) dX9_set_115 (by decide) ?_
                    refine R_icne (pc := 116) 123 dX9_set_116 (by decide) (fun b116_49 => ?_) (fun b116_49 => ?_)
                    · skip
                      refine R_aload_n (pc := 123) dX9_set_123 rfl rfl ?_
                      refine g_X9_48 (pc := 124) (v := .int (σ.1 14014)) rfl dX9_set_124 (c_140 _) rfl ?_
                      refine p_X9_48 (pc := 127) rfl dX9_set_127 (c_140 _) (Nat.le_of_ble_eq_true rfl) rfl rfl (s_140_14 _ _) ?_
                      have hW50 := cor_ci 14014 (σ.1 14014) hW48
                      refine R_iload_n (pc := 130) dX9_set_130 rfl rfl ?_
                      exact R_iret (pc := 131) dX9_set_131 rfl rfl (Nat.zero_le _) (Nat.zero_le _) ⟨_, rfl, _, rfl, hI⟩
                    · skip
                      refine R_iload_n (pc := 119) dX9_set_119 rfl rfl ?_
                      refine R_goto (pc := 120) 127 dX9_set_120 (by decide) ?_
                      refine p_X9_48 (pc := 127) rfl dX9_set_127 (c_140 _) (Nat.le_of_ble_eq_true rfl) rfl rfl (s_140_14 _ _) ?_
                      have hW51 := cor_ci 14014 b hW48
                      refine R_iload_n (pc := 130) dX9_set_130 rfl rfl ?_
                      exact R_iret (pc := 131) dX9_set_131 rfl rfl (Nat.zero_le _) (Nat.zero_le _) ⟨_, rfl, _, rfl, hI⟩
            · skip
              refine R_aload_n (pc := 56) dX9_set_56 rfl rfl ?_
              refine g_X9_41 (pc := 57) (v := .int (σ.1 14012)) rfl dX9_set_57 (c_140 _) rfl ?_
              refine R_goto (pc := 60) 79 dX9_set_60 (by decide) ?_
              refine st_4_3_i_i (pc := 79) dX9_set_79 ?_
              refine R_aload_n (pc := 80) dX9_set_80 rfl rfl ?_
              refine R_iload_n (pc := 81) dX9_set_81 rfl rfl ?_
              refine R_ifne (pc := 82) 89 dX9_set_82 (by decide) (fun b82_52 => ?_) (fun b82_52 => ?_)
              · skip
                refine R_aload_n (pc := 89) dX9_set_89 rfl rfl ?_
                refine g_X9_41 (pc := 90) (v := .int (σ.1 14012)) rfl dX9_set_90 (c_140 _) rfl ?_
                refine p_X9_41 (pc := 93) rfl dX9_set_93 (c_140 _) (Nat.le_of_ble_eq_true rfl) rfl rfl (s_140_12 _ _) ?_
                have hW53 := cor_ci 14012 (σ.1 14012) (Cor.rfl' σ)
                refine R_aload_n (pc := 96) dX9_set_96 rfl rfl ?_
                refine R_iload_n (pc := 97) dX9_set_97 rfl rfl ?_
                refine R_iconst (pc := 98) (v := 1) dX9_set_98 (by decide) ?_
                refine R_icne (pc := 99) 106 dX9_set_99 (by decide) (fun b99_54 => ?_) (fun b99_54 => ?_)
                · skip
                  refine R_aload_n (pc := 106) dX9_set_106 rfl rfl ?_
                  refine g_X9_45 (pc := 107) (v := .int (σ.1 14013)) rfl dX9_set_107 (c_140 _) rfl ?_
                  refine p_X9_45 (pc := 110) rfl dX9_set_110 (c_140 _) (Nat.le_of_ble_eq_true rfl) rfl rfl (s_140_13 _ _) ?_
                  have hW55 := cor_ci 14013 (σ.1 14013) hW53
                  refine R_aload_n (pc := 113) dX9_set_113 rfl rfl ?_
                  refine R_iload_n (pc := 114) dX9_set_114 rfl rfl ?_
                  refine R_iconst (pc := 115) (v := 2) dX9_set_115 (by decide) ?_
                  refine R_icne (pc := 116) 123 dX9_set_116 (by decide) (fun b116_56 => ?_) (fun b116_56 => ?_)
                  · skip
                    refine R_aload_n (pc := 123) dX9_set_123 rfl rfl ?_
                    refine g_X9_48 (pc := 124) (v := .int (σ.1 14014)) rfl dX9_set_124 (c_140 _) rfl ?_
                    refine p_X9_48 (pc := 127) rfl dX9_set_127 (c_140 _) (Nat.le_of_ble_eq_true rfl) rfl rfl (s_140_14 _ _) ?_
                    have hW57 := cor_ci 14014 (σ.1 14014) hW55
                    refine R_iload_n (pc := 130) dX9_set_130 rfl rfl ?_
                    exact R_iret (pc := 131) dX9_set_131 rfl rfl (Nat.zero_le _) (Nat.zero_le _) ⟨_, rfl, _, rfl, hI⟩
                  · skip
                    refine R_iload_n (pc := 119) dX9_set_119 rfl rfl ?_
                    refine R_goto (pc := 120) 127 dX9_set_120 (by decide) ?_
                    refine p_X9_48 (pc := 127) rfl dX9_set_127 (c_140 _) (Nat.le_of_ble_eq_true rfl) rfl rfl (s_140_14 _ _) ?_
                    have hW58 := cor_ci 14014 b hW55
                    refine R_iload_n (pc := 130) dX9_set_130 rfl rfl ?_
                    exact R_iret (pc := 131) dX9_set_131 rfl rfl (Nat.zero_le _) (Nat.zero_le _) ⟨_, rfl, _, rfl, hI⟩
                · skip
                  refine R_iload_n (pc := 102) dX9_set_102 rfl rfl ?_
                  refine R_goto (pc := 103) 110 dX9_set_103 (by decide) ?_
                  refine p_X9_45 (pc := 110) rfl dX9_set_110 (c_140 _) (Nat.le_of_ble_eq_true rfl) rfl rfl (s_140_13 _ _) ?_
                  have hW59 := cor_ci 14013 b hW53
                  refine R_aload_n (pc := 113) dX9_set_113 rfl rfl ?_
                  refine R_iload_n (pc := 114) dX9_set_114 rfl rfl ?_
                  refine R_iconst (pc := 115) (v := 2) dX9_set_115 (by decide) ?_
                  refine R_icne (pc := 116) 123 dX9_set_116 (by decide) (fun b116_60 => ?_) (fun b116_60 => ?_)
                  · skip
                    refine R_aload_n (pc := 123) dX9_set_123 rfl rfl ?_
                    refine g_X9_48 (pc := 124) (v := .int (σ.1 14014)) rfl dX9_set_124 (c_140 _) rfl ?_
                    refine p_X9_48 (pc := 127) rfl dX9_set_127 (c_140 _) (Nat.le_of_ble_eq_true rfl) rfl rfl (s_140_14 _ _) ?_
                    have hW61 := cor_ci 14014 (σ.1 14014) hW59
                    refine R_iload_n (pc := 130) dX9_set_130 rfl rfl ?_
                    exact R_iret (pc := 131) dX9_set_131 rfl rfl (Nat.zero_le _) (Nat.zero_le _) ⟨_, rfl, _, rfl, hI⟩
                  · skip
                    refine R_iload_n (pc := 119) dX9_set_119 rfl rfl ?_
                    refine R_goto (pc := 120) 127 dX9_set_120 (by decide) ?_
                    refine p_X9_48 (pc := 127) rfl dX9_set_127 (c_140 _) (Nat.le_of_ble_eq_true rfl) rfl rfl (s_140_14 _ _) ?_
                    have hW62 := cor_ci 14014 b hW59
                    refine R_iload_n (pc := 130) dX9_set_130 rfl rfl ?_
                    exact R_iret (pc := 131) dX9_set_131 rfl rfl (Nat.zero_le _) (Nat.zero_le _) ⟨_, rfl, _, rfl, hI⟩
              · skip
                refine R_iload_n (pc := 85) dX9_set_85 rfl rfl ?_
                refine R_goto (pc := 86) 93 dX9_set_86 (by decide) ?_
                refine p_X9_41 (pc := 93) rfl dX9_set_93 (c_140 _) (Nat.le_of_ble_eq_true rfl) rfl rfl (s_140_12 _ _) ?_
                have hW63 := cor_ci 14012 b (Cor.rfl' σ)
                refine R_aload_n (pc := 96) dX9_set_96 rfl rfl ?_
                refine R_iload_n (pc := 97) dX9_set_97 rfl rfl ?_
                refine R_iconst (pc := 98) (v := 1) dX9_set_98 (by decide) ?_
                refine R_icne (pc := 99) 106 dX9_set_99 (by decide) (fun b99_64 => ?_) (fun b99_64 => ?_)
                · skip
                  refine R_aload_n (pc := 106) dX9_set_106 rfl rfl ?_
                  refine g_X9_45 (pc := 107) (v := .int (σ.1 14013)) rfl dX9_set_107 (c_140 _) rfl ?_
                  refine p_X9_45 (pc := 110) rfl dX9_set_110 (c_140 _) (Nat.le_of_ble_eq_true rfl) rfl rfl (s_140_13 _ _) ?_
                  have hW65 := cor_ci 14013 (σ.1 14013) hW63
                  refine R_aload_n (pc := 113) dX9_set_113 rfl rfl ?_
                  refine R_iload_n (pc := 114) dX9_set_114 rfl rfl ?_
                  refine R_iconst (pc := 115) (v := 2) dX9_set_115 (by decide) ?_
                  refine R_icne (pc := 116) 123 dX9_set_116 (by decide) (fun b116_66 => ?_) (fun b116_66 => ?_)
                  · skip
                    refine R_aload_n (pc := 123) dX9_set_123 rfl rfl ?_
                    refine g_X9_48 (pc := 124) (v := .int (σ.1 14014)) rfl dX9_set_124 (c_140 _) rfl ?_
                    refine p_X9_48 (pc := 127) rfl dX9_set_127 (c_140 _) (Nat.le_of_ble_eq_true rfl) rfl rfl (s_140_14 _ _) ?_
                    have hW67 := cor_ci 14014 (σ.1 14014) hW65
                    refine R_iload_n (pc := 130) dX9_set_130 rfl rfl ?_
                    exact R_iret (pc := 131) dX9_set_131 rfl rfl (Nat.zero_le _) (Nat.zero_le _) ⟨_, rfl, _, rfl, hI⟩
                  · skip
                    refine R_iload_n (pc := 119) dX9_set_119 rfl rfl ?_
                    refine R_goto (pc := 120) 127 dX9_set_120 (by decide) ?_
                    refine p_X9_48 (pc := 127) rfl dX9_set_127 (c_140 _) (Nat.le_of_ble_eq_true rfl) rfl rfl (s_140_14 _ _) ?_
                    have hW68 := cor_ci 14014 b hW65
                    refine R_iload_n (pc := 130) dX9_set_130 rfl rfl ?_
                    exact R_iret (pc := 131) dX9_set_131 rfl rfl (Nat.zero_le _) (Nat.zero_le _) ⟨_, rfl, _, rfl, hI⟩
                · skip
                  refine R_iload_n (pc := 102) dX9_set_102 rfl rfl ?_
                  refine R_goto (pc := 103) 110 dX9_set_103 (by decide) ?_
                  refine p_X9_45 (pc := 110) rfl dX9_set_110 (c_140 _) (Nat.le_of_ble_eq_true rfl) rfl rfl (s_140_13 _ _) ?_
                  have hW69 := cor_ci 14013 b hW63
                  refine R_aload_n (pc := 113) dX9_set_113 rfl rfl ?_
                  refine R_iload_n (pc := 114) dX9_set_114 rfl rfl ?_
                  refine R_iconst (pc := 115) (v := 2) dX9_set_115 (by decide) ?_
                  refine R_icne (pc := 116) 123 dX9_set_116 (by decide) (fun b116_70 => ?_) (fun b116_70 => ?_)
                  · skip
                    refine R_aload_n (pc := 123) dX9_set_123 rfl rfl ?_
                    refine g_X9_48 (pc := 124) (v := .int (σ.1 14014)) rfl dX9_set_124 (c_140 _) rfl ?_
                    refine p_X9_48 (pc := 127) rfl dX9_set_127 (c_140 _) (Nat.le_of_ble_eq_true rfl) rfl rfl (s_140_14 _ _) ?_
                    have hW71 := cor_ci 14014 (σ.1 14014) hW69
                    refine R_iload_n (pc := 130) dX9_set_130 rfl rfl ?_
                    exact R_iret (pc := 131) dX9_set_131 rfl rfl (Nat.zero_le _) (Nat.zero_le _) ⟨_, rfl, _, rfl, hI⟩
                  · skip
                    refine R_iload_n (pc := 119) dX9_set_119 rfl rfl ?_
                    refine R_goto (pc := 120) 127 dX9_set_120 (by decide) ?_
                    refine p_X9_48 (pc := 127) rfl dX9_set_127 (c_140 _) (Nat.le_of_ble_eq_true rfl) rfl rfl (s_140_14 _ _) ?_
                    have hW72 := cor_ci 14014 b hW69
                    refine R_iload_n (pc := 130) dX9_set_130 rfl rfl ?_
                    exact R_iret (pc := 131) dX9_set_131 rfl rfl (Nat.zero_le _) (Nat.zero_le _) ⟨_, rfl, _, rfl, hI⟩
          · skip
            refine R_ifne (pc := 46) 52 dX9_set_46 (by decide) (fun h => absurd (by decide) h) (fun _ => ?_)
            refine R_bipush (pc := 49) (v := (-3)) dX9_set_49 (by decide) ?_
            exact R_iret (pc := 51) dX9_set_51 rfl rfl (Nat.zero_le _) (Nat.zero_le _) ⟨_, rfl, _, rfl, hI⟩
        · skip
          refine R_sipush (pc := 34) (v := 999) dX9_set_34 (by decide) ?_
          refine R_goto (pc := 37) 43 dX9_set_37 (by decide) ?_
          refine k_X9_124 (pc := 43) (sp_X9_in _ _ _ _) rfl (by decide) (Nat.le_refl _) (Nat.le_refl _) (Nat.le_of_ble_eq_true rfl) dX9_set_43 (fun x w2 h => ?_)
          rcases h with ⟨rfl, ⟨h74, rfl⟩ | ⟨h74, rfl⟩⟩
          · skip
            refine R_ifne (pc := 46) 52 dX9_set_46 (by decide) (fun _ => ?_) (fun h => absurd h (by decide))
            refine R_iload_n (pc := 52) dX9_set_52 rfl rfl ?_
            refine R_ifne (pc := 53) 63 dX9_set_53 (by decide) (fun b53_76 => ?_) (fun b53_76 => ?_)
            · skip
              refine R_iload_n (pc := 63) dX9_set_63 rfl rfl ?_
              refine R_iconst (pc := 64) (v := 1) dX9_set_64 (by decide) ?_
              refine R_icne (pc := 65) 75 dX9_set_65 (by decide) (fun b65_77 => ?_) (fun b65_77 => ?_)
              · skip
                refine R_aload_n (pc := 75) dX9_set_75 rfl rfl ?_
                refine g_X9_48 (pc := 76) (v := .int (σ.1 14014)) rfl dX9_set_76 (c_140 _) rfl ?_
                refine st_4_3_i_i (pc := 79) dX9_set_79 ?_
                refine R_aload_n (pc := 80) dX9_set_80 rfl rfl ?_
                refine R_iload_n (pc := 81) dX9_set_81 rfl rfl ?_
                refine R_ifne (pc := 82) 89 dX9_set_82 (by decide) (fun b82_78 => ?_) (fun b82_78 => ?_)
                · skip
                  refine R_aload_n (pc := 89) dX9_set_89 rfl rfl ?_
                  refine g_X9_41 (pc := 90) (v := .int (σ.1 14012)) rfl dX9_set_90 (c_140 _) rfl ?_
                  refine p_X9_41 (pc := 93) rfl dX9_set_93 (c_140 _) (Nat.le_of_ble_eq_true rfl) rfl rfl (s_140_12 _ _) ?_
                  have hW79 := cor_ci 14012 (σ.1 14012) (Cor.rfl' σ)
                  refine R_aload_n (pc := 96) dX9_set_96 rfl rfl ?_
                  refine R_iload_n (pc := 97) dX9_set_97 rfl rfl ?_
                  refine R_iconst (pc := 98) (v := 1) dX9_set_98 (by decide) ?_
                  refine R_icne (pc := 99) 106 dX9_set_99 (by decide) (fun b99_80 => ?_) (fun b99_80 => ?_)
                  · skip
                    refine R_aload_n (pc := 106) dX9_set_106 rfl rfl ?_
                    refine g_X9_45 (pc := 107) (v := .int (σ.1 14013)) rfl dX9_set_107 (c_140 _) rfl ?_
                    refine p_X9_45 (pc := 110) rfl dX9_set_110 (c_140 _) (Nat.le_of_ble_eq_true rfl) rfl rfl (s_140_13 _ _) ?_
                    have hW81 := cor_ci 14013 (σ.1 14013) hW79
                    refine R_aload_n (pc := 113) dX9_set_113 rfl rfl ?_
                    refine R_iload_n (pc := 114) dX9_set_114 rfl rfl ?_
                    refine R_iconst (pc := 115) (v := 2) dX9_set_115 (by decide) ?_
                    refine R_icne (pc := 116) 123 dX9_set_116 (by decide) (fun b116_82 => ?_) (fun b116_82 => ?_)
                    · skip
                      refine R_aload_n (pc := 123) dX9_set_123 rfl rfl ?_
                      refine g_X9_48 (pc := 124) (v := .int (σ.1 14014)) rfl dX9_set_124 (c_140 _) rfl ?_
                      refine p_X9_48 (pc := 127) rfl dX9_set_127 (c_140 _) (Nat.le_of_ble_eq_true rfl) rfl rfl (s_140_14 _ _) ?_
                      have hW83 := cor_ci 14014 (σ.1 14014) hW81
                      refine R_iload_n (pc := 130) dX9_set_130 rfl rfl ?_
                      exact R_iret (pc := 131) dX9_set_131 rfl rfl (Nat.zero_le _) (Nat.zero_le _) ⟨_, rfl, _, rfl, hI⟩
                    · skip
                      refine R_iload_n (pc := 119) dX9_set_119 rfl rfl ?_
                      refine R_goto (pc := 120) 127 dX9_set_120 (by decide) ?_
                      refine p_X9_48 (pc := 127) rfl dX9_set_127 (c_140 _) (Nat.le_of_ble_eq_true rfl) rfl rfl (s_140_14 _ _) ?_
                      have hW84 := cor_ci 14014 b hW81
                      refine R_iload_n (pc := 130) dX9_set_130 rfl rfl ?_
                      exact R_iret (pc := 131) dX9_set_131 rfl rfl (Nat.zero_le _) (Nat.zero_le _) ⟨_, rfl, _, rfl, hI⟩
                  · skip
                    refine R_iload_n (pc := 102) dX9_set_102 rfl rfl ?_
                    refine R_goto (pc := 103) 110 dX9_set_103 (by decide) ?_
                    refine p_X9_45 (pc := 110) rfl dX9_set_110 (c_140 _) (Nat.le_of_ble_eq_true rfl) rfl rfl (s_140_13 _ _) ?_
                    have hW85 := cor_ci 14013 b hW79
                    refine R_aload_n (pc := 113) dX9_set_113 rfl rfl ?_
                    refine R_iload_n (pc := 114) dX9_set_114 rfl rfl ?_
                    refine R_iconst (pc := 115) (v := 2) dX9_set_115 (by decide) ?_
                    refine R_icne (pc := 116) 123 dX9_set_116 (by decide) (fun b116_86 => ?_) (fun b116_86 => ?_)
                    · skip
                      refine R_aload_n (pc := 123) dX9_set_123 rfl rfl ?_
                      refine g_X9_48 (pc := 124) (v := .int (σ.1 14014)) rfl dX9_set_124 (c_140 _) rfl ?_
                      refine p_X9_48 (pc := 127) rfl dX9_set_127 (c_140 _) (Nat.le_of_ble_eq_true rfl) rfl rfl (s_140_14 _ _) ?_
                      have hW87 := cor_ci 14014 (σ.1 14014) hW85
                      refine R_iload_n (pc := 130) dX9_set_130 rfl rfl ?_
                      exact R_iret (pc := 131) dX9_set_131 rfl rfl (Nat.zero_le _) (Nat.zero_le _) ⟨_, rfl, _, rfl, hI⟩
                    · skip
                      refine R_iload_n (pc := 119) dX9_set_119 rfl rfl ?_
                      refine R_goto (pc := 120) 127 dX9_set_120 (by decide) ?_
                      refine p_X9_48 (pc := 127) rfl dX9_set_127 (c_140 _) (Nat.le_of_ble_eq_true rfl) rfl rfl (s_140_14 _ _) ?_
                      have hW88 := cor_ci 14014 b hW85
                      refine R_iload_n (pc := 130) dX9_set_130 rfl rfl ?_
                      exact R_iret (pc := 131) dX9_set_131 rfl rfl (Nat.zero_le _) (Nat.zero_le _) ⟨_, rfl, _, rfl, hI⟩
                · skip
                  refine R_iload_n (pc := 85) dX9_set_85 rfl rfl ?_
                  refine R_goto (pc := 86) 93 dX9_set_86 (by decide) ?_
                  refine p_X9_41 (pc := 93) rfl dX9_set_93 (c_140 _) (Nat.le_of_ble_eq_true rfl) rfl rfl (s_140_12 _ _) ?_
                  have hW89 := cor_ci 14012 b (Cor.rfl' σ)
                  refine R_aload_n (pc := 96) dX9_set_96 rfl rfl ?_
                  refine R_iload_n (pc := 97) dX9_set_97 rfl rfl ?_
                  refine R_iconst (pc := 98) (v := 1) dX9_set_98 (by decide) ?_
                  refine R_icne (pc := 99) 106 dX9_set_99 (by decide) (fun b99_90 => ?_) (fun b99_90 => ?_)
                  · skip
                    refine R_aload_n (pc := 106) dX9_set_106 rfl rfl ?_
                    refine g_X9_45 (pc := 107) (v := .int (σ.1 14013)) rfl dX9_set_107 (c_140 _) rfl ?_
                    refine p_X9_45 (pc := 110) rfl dX9_set_110 (c_140 _) (Nat.le_of_ble_eq_true rfl) rfl rfl (s_140_13 _ _) ?_
                    have hW91 := cor_ci 14013 (σ.1 14013) hW89
                    refine R_aload_n (pc := 113) dX9_set_113 rfl rfl ?_
                    refine R_iload_n (pc := 114) dX9_set_114 rfl rfl ?_
                    refine R_iconst (pc := 115) (v := 2) dX9_set_115 (by decide) ?_
                    refine R_icne (pc := 116) 123 dX9_set_116 (by decide) (fun b116_92 => ?_) (fun b116_92 => ?_)
                    · skip
                      refine R_aload_n (pc := 123) dX9_set_123 rfl rfl ?_
                      refine g_X9_48 (pc := 124) (v := .int (σ.1 14014)) rfl dX9_set_124 (c_140 _) rfl ?_
                      refine p_X9_48 (pc := 127) rfl dX9_set_127 (c_140 _) (Nat.le_of_ble_eq_true rfl) rfl rfl (s_140_14 _ _) ?_
                      have hW93 := cor_ci 14014 (σ.1 14014) hW91
                      refine R_iload_n (pc := 130) dX9_set_130 rfl rfl ?_
                      exact R_iret (pc := 131) dX9_set_131 rfl rfl (Nat.zero_le _) (Nat.zero_le _) ⟨_, rfl, _, rfl, hI⟩
                    · skip
                      refine R_iload_n (pc := 119) dX9_set_119 rfl rfl ?_
                      refine R_goto (pc := 120) 127 dX9_set_120 (by decide) ?_
                      refine p_X9_48 (pc := 127) rfl dX9_set_127 (c_140 _) (Nat.le_of_ble_eq_true rfl) rfl rfl (s_140_14 _ _) ?_
                      have hW94 := cor_ci 14014 b hW91
                      refine R_iload_n (pc := 130) dX9_set_130 rfl rfl ?_
                      exact R_iret (pc := 131) dX9_set_131 rfl rfl (Nat.zero_le _) (Nat.zero_le _) ⟨_, rfl, _, rfl, hI⟩
                  · skip
                    refine R_iload_n (pc := 102) dX9_set_102 rfl rfl ?_
                    refine R_goto (pc := 103) 110 dX9_set_103 (by decide) ?_
                    refine p_X9_45 (pc := 110) rfl dX9_set_110 (c_140 _) (Nat.le_of_ble_eq_true rfl) rfl rfl (s_140_13 _ _) ?_
                    have hW95 := cor_ci 14013 b hW89
                    refine R_aload_n (pc := 113) dX9_set_113 rfl rfl ?_
                    refine R_iload_n (pc := 114) dX9_set_114 rfl rfl ?_
                    refine R_iconst (pc := 115) (v := 2) dX9_set_115 (by decide) ?_
                    refine R_icne (pc := 116) 123 dX9_set_116 (by decide) (fun b116_96 => ?_) (fun b116_96 => ?_)
                    · skip
                      refine R_aload_n (pc := 123) dX9_set_123 rfl rfl ?_
                      refine g_X9_48 (pc := 124) (v := .int (σ.1 14014)) rfl dX9_set_124 (c_140 _) rfl ?_
                      refine p_X9_48 (pc := 127) rfl dX9_set_127 (c_140 _) (Nat.le_of_ble_eq_true rfl) rfl rfl (s_140_14 _ _) ?_
                      have hW97 := cor_ci 14014 (σ.1 14014) hW95
                      refine R_iload_n (pc := 130) dX9_set_130 rfl rfl ?_
                      exact R_iret (pc := 131) dX9_set_131 rfl rfl (Nat.zero_le _) (Nat.zero_le _) ⟨_, rfl, _, rfl, hI⟩
                    · skip
                      refine R_iload_n (pc := 119) dX9_set_119 rfl rfl ?_
                      refine R_goto (pc := 120) 127 dX9_set_120 (by decide) ?_
                      refine p_X9_48 (pc := 127) rfl dX9_set_127 (c_140 _) (Nat.le_of_ble_eq_true rfl) rfl rfl (s_140_14 _ _) ?_
                      have hW98 := cor_ci 14014 b hW95
                      refine R_iload_n (pc := 130) dX9_set_130 rfl rfl ?_
                      exact R_iret (pc := 131) dX9_set_131 rfl rfl (Nat.zero_le _) (Nat.zero_le _) ⟨_, rfl, _, rfl, hI⟩
              · skip
                refine R_aload_n (pc := 68) dX9_set_68 rfl rfl ?_
                refine g_X9_45 (pc := 69) (v := .int (σ.1 14013)) rfl dX9_set_69 (c_140 _) rfl ?_
                refine R_goto (pc := 72) 79 dX9_set_72 (by decide) ?_
                refine st_4_3_i_i (pc := 79) dX9_set_79 ?_
                refine R_aload_n (pc := 80) dX9_set_80 rfl rfl ?_
                refine R_iload_n (pc := 81) dX9_set_81 rfl rfl ?_
                refine R_ifne (pc := 82) 89 dX9_set_82 (by decide) (fun b82_99 => ?_) (fun b82_99 => ?_)
                · skip
                  refine R_aload_n (pc := 89) dX9_set_89 rfl rfl ?_
                  refine g_X9_41 (pc := 90) (v := .int (σ.1 14012)) rfl dX9_set_90 (c_140 _) rfl ?_
                  refine p_X9_41 (pc := 93) rfl dX9_set_93 (c_140 _) (Nat.le_of_ble_eq_true rfl) rfl rfl (s_140_12 _ _) ?_
                  have hW100 := cor_ci 14012 (σ.1 14012) (Cor.rfl' σ)
                  refine R_aload_n (pc := 96) dX9_set_96 rfl rfl ?_
                  refine R_iload_n (pc := 97) dX9_set_97 rfl rfl ?_
                  refine R_iconst (pc := 98) (v := 1) dX9_set_98 (by decide) ?_
                  refine R_icne (pc := 99) 106 dX9_set_99 (by decide) (fun b99_101 => ?_) (fun b99_101 => ?_)
                  · skip
                    refine R_aload_n (pc := 106) dX9_set_106 rfl rfl ?_
                    refine g_X9_45 (pc := 107) (v := .int (σ.1 14013)) rfl dX9_set_107 (c_140 _) rfl ?_
                    refine p_X9_45 (pc := 110) rfl dX9_set_110 (c_140 _) (Nat.le_of_ble_eq_true rfl) rfl rfl (s_140_13 _ _) ?_
                    have hW102 := cor_ci 14013 (σ.1 14013) hW100
                    refine R_aload_n (pc := 113) dX9_set_113 rfl rfl ?_
                    refine R_iload_n (pc := 114) dX9_set_114 rfl rfl ?_
                    refine R_iconst (pc := 115) (v := 2) dX9_set_115 (by decide) ?_
                    refine R_icne (pc := 116) 123 dX9_set_116 (by decide) (fun b116_103 => ?_) (fun b116_103 => ?_)
                    · skip
                      refine R_aload_n (pc := 123) dX9_set_123 rfl rfl ?_
                      refine g_X9_48 (pc := 124) (v := .int (σ.1 14014)) rfl dX9_set_124 (c_140 _) rfl ?_
                      refine p_X9_48 (pc := 127) rfl dX9_set_127 (c_140 _) (Nat.le_of_ble_eq_true rfl) rfl rfl (s_140_14 _ _) ?_
                      have hW104 := cor_ci 14014 (σ.1 14014) hW102
                      refine R_iload_n (pc := 130) dX9_set_130 rfl rfl ?_
                      exact R_iret (pc := 131) dX9_set_131 rfl rfl (Nat.zero_le _) (Nat.zero_le _) ⟨_, rfl, _, rfl, hI⟩
                    · skip
                      refine R_iload_n (pc := 119) dX9_set_119 rfl rfl ?_
                      refine R_goto (pc := 120) 127 dX9_set_120 (by decide) ?_
                      refine p_X9_48 (pc := 127) rfl dX9_set_127 (c_140 _) (Nat.le_of_ble_eq_true rfl) rfl rfl (s_140_14 _ _) ?_
                      have hW105 := cor_ci 14014 b hW102
                      refine R_iload_n (pc := 130) dX9_set_130 rfl rfl ?_
                      exact R_iret (pc := 131) dX9_set_131 rfl rfl (Nat.zero_le _) (Nat.zero_le _) ⟨_, rfl, _, rfl, hI⟩
                  · skip
                    refine R_iload_n (pc := 102) dX9_set_102 rfl rfl ?_
                    refine R_goto (pc := 103) 110 dX9_set_103 (by decide) ?_
                    refine p_X9_45 (pc := 110) rfl dX9_set_110 (c_140 _) (Nat.le_of_ble_eq_true rfl) rfl rfl (s_140_13 _ _) ?_
                    have hW106 := cor_ci 14013 b hW100
                    refine R_aload_n (pc := 113) dX9_set_113 rfl rfl ?_
                    refine R_iload_n (pc := 114) dX9_set_114 rfl rfl ?_
                    refine R_iconst (pc := 115) (v := 2) dX9_set_115 (by decide) ?_
                    refine R_icne (pc := 116) 123 dX9_set_116 (by decide) (fun b116_107 => ?_) (fun b116_107 => ?_)
                    · skip
                      refine R_aload_n (pc := 123) dX9_set_123 rfl rfl ?_
                      refine g_X9_48 (pc := 124) (v := .int (σ.1 14014)) rfl dX9_set_124 (c_140 _) rfl ?_
                      refine p_X9_48 (pc := 127) rfl dX9_set_127 (c_140 _) (Nat.le_of_ble_eq_true rfl) rfl rfl (s_140_14 _ _) ?_
                      have hW108 := cor_ci 14014 (σ.1 14014) hW106
                      refine R_iload_n (pc := 130) dX9_set_130 rfl rfl ?_
                      exact R_iret (pc := 131) dX9_set_131 rfl rfl (Nat.zero_le _) (Nat.zero_le _) ⟨_, rfl, _, rfl, hI⟩
                    · skip
                      refine R_iload_n (pc := 119) dX9_set_119 rfl rfl ?_
                      refine R_goto (pc := 120) 127 dX9_set_120 (by decide) ?_
                      refine p_X9_48 (pc := 127) rfl dX9_set_127 (c_140 _) (Nat.le_of_ble_eq_true rfl) rfl rfl (s_140_14 _ _) ?_
                      have hW109 := cor_ci 14014 b hW106
                      refine R_iload_n (pc := 130) dX9_set_130 rfl rfl ?_
                      exact R_iret (pc := 131) dX9_set_131 rfl rfl (Nat.zero_le _) (Nat.zero_le _) ⟨_, rfl, _, rfl, hI⟩
                · skip
                  refine R_iload_n (pc := 85) dX9_set_85 rfl rfl ?_
                  refine R_goto (pc := 86) 93 dX9_set_86 (by decide) ?_
                  refine p_X9_41 (pc := 93) rfl dX9_set_93 (c_140 _) (Nat.le_of_ble_eq_true rfl) rfl rfl (s_140_12 _ _) ?_
                  have hW110 := cor_ci 14012 b (Cor.rfl' σ)
                  refine R_aload_n (pc := 96) dX9_set_96 rfl rfl ?_
                  refine R_iload_n (pc := 97) dX9_set_97 rfl rfl ?_
                  refine R_iconst (pc := 98) (v := 1) dX9_set_98 (by decide) ?_
                  refine R_icne (pc := 99) 106 dX9_set_99 (by decide) (fun b99_111 => ?_) (fun b99_111 => ?_)
                  · skip
                    refine R_aload_n (pc := 106) dX9_set_106 rfl rfl ?_
                    refine g_X9_45 (pc := 107) (v := .int (σ.1 14013)) rfl dX9_set_107 (c_140 _) rfl ?_
                    refine p_X9_45 (pc := 110) rfl dX9_set_110 (c_140 _) (Nat.le_of_ble_eq_true rfl) rfl rfl (s_140_13 _ _) ?_
                    have hW112 := cor_ci 14013 (σ.1 14013) hW110
                    refine R_aload_n (pc := 113) dX9_set_113 rfl rfl ?_
                    refine R_iload_n (pc := 114) dX9_set_114 rfl rfl ?_
                    refine R_iconst (pc := 115) (v := 2) dX9_set_115 (by decide) ?_
                    refine R_icne (pc := 116) 123 dX9_set_116 (by decide) (fun b116_113 => ?_) (fun b116_113 => ?_)
                    · skip
                      refine R_aload_n (pc := 123) dX9_set_123 rfl rfl ?_
                      refine g_X9_48 (pc := 124) (v := .int (σ.1 14014)) rfl dX9_set_124 (c_140 _) rfl ?_
                      refine p_X9_48 (pc := 127) rfl dX9_set_127 (c_140 _) (Nat.le_of_ble_eq_true rfl) rfl rfl (s_140_14 _ _) ?_
                      have hW114 := cor_ci 14014 (σ.1 14014) hW112
                      refine R_iload_n (pc := 130) dX9_set_130 rfl rfl ?_
                      exact R_iret (pc := 131) dX9_set_131 rfl rfl (Nat.zero_le _) (Nat.zero_le _) ⟨_, rfl, _, rfl, hI⟩
                    · skip
                      refine R_iload_n (pc := 119) dX9_set_119 rfl rfl ?_
                      refine R_goto (pc := 120) 127 dX9_set_120 (by decide) ?_
                      refine p_X9_48 (pc := 127) rfl dX9_set_127 (c_140 _) (Nat.le_of_ble_eq_true rfl) rfl rfl (s_140_14 _ _) ?_
                      have hW115 := cor_ci 14014 b hW112
                      refine R_iload_n (pc := 130) dX9_set_130 rfl rfl ?_
                      exact R_iret (pc := 131) dX9_set_131 rfl rfl (Nat.zero_le _) (Nat.zero_le _) ⟨_, rfl, _, rfl, hI⟩
                  · skip
                    refine R_iload_n (pc := 102) dX9_set_102 rfl rfl ?_
                    refine R_goto (pc := 103) 110 dX9_set_103 (by decide) ?_
                    refine p_X9_45 (pc := 110) rfl dX9_set_110 (c_140 _) (Nat.le_of_ble_eq_true rfl) rfl rfl (s_140_13 _ _) ?_
                    have hW116 := cor_ci 14013 b hW110
                    refine R_aload_n (pc := 113) dX9_set_113 rfl rfl ?_
                    refine R_iload_n (pc := 114) dX9_set_114 rfl rfl ?_
                    refine R_iconst (pc := 115) (v := 2) dX9_set_115 (by decide) ?_
                    refine R_icne (pc := 116) 123 dX9_set_116 (by decide) (fun b116_117 => ?_) (fun b116_117 => ?_)
                    · skip
                      refine R_aload_n (pc := 123) dX9_set_123 rfl rfl ?_
                      refine g_X9_48 (pc := 124) (v := .int (σ.1 14014)) rfl dX9_set_124 (c_140 _) rfl ?_
                      refine p_X9_48 (pc := 127) rfl dX9_set_127 (c_140 _) (Nat.le_of_ble_eq_true rfl) rfl rfl (s_140_14 _ _) ?_
                      have hW118 := cor_ci 14014 (σ.1 14014) hW116
                      refine R_iload_n (pc := 130) dX9_set_130 rfl rfl ?_
                      exact R_iret (pc := 131) dX9_set_131 rfl rfl (Nat.zero_le _) (Nat.zero_le _) ⟨_, rfl, _, rfl, hI⟩
                    · skip
                      refine R_iload_n (pc := 119) dX9_set_119 rfl rfl ?_
                      refine R_goto (pc := 120) 127 dX9_set_120 (by decide) ?_
                      refine p_X9_48 (pc := 127) rfl dX9_set_127 (c_140 _) (Nat.le_of_ble_eq_true rfl) rfl rfl (s_140_14 _ _) ?_
                      have hW119 := cor_ci 14014 b hW116
                      refine R_iload_n (pc := 130) dX9_set_130 rfl rfl ?_
                      exact R_iret (pc := 131) dX9_set_131 rfl rfl (Nat.zero_le _) (Nat.zero_le _) ⟨_, rfl, _, rfl, hI⟩
            · skip
              refine R_aload_n (pc := 56) dX9_set_56 rfl rfl ?_
              refine g_X9_41 (pc := 57) (v := .int (σ.1 14012)) rfl dX9_set_57 (c_140 _) rfl ?_
              refine R_goto (pc := 60) 79 dX9_set_60 (by decide) ?_
              refine st_4_3_i_i (pc := 79) dX9_set_79 ?_
              refine R_aload_n (pc := 80) dX9_set_80 rfl rfl ?_
              refine R_iload_n (pc := 81) dX9_set_81 rfl rfl ?_
              refine R_ifne (pc := 82) 89 dX9_set_82 (by decide) (fun b82_120 => ?_) (fun b82_120 => ?_)
              · skip
                refine R_aload_n (pc := 89) dX9_set_89 rfl rfl ?_
                refine g_X9_41 (pc := 90) (v := .int (σ.1 14012)) rfl dX9_set_90 (c_140 _) rfl ?_
                refine p_X9_41 (pc := 93) rfl dX9_set_93 (c_140 _) (Nat.le_of_ble_eq_true rfl) rfl rfl (s_140_12 _ _) ?_
                have hW121 := cor_ci 14012 (σ.1 14012) (Cor.rfl' σ)
                refine R_aload_n (pc := 96) dX9_set_96 rfl rfl ?_
                refine R_iload_n (pc := 97) dX9_set_97 rfl rfl ?_
                refine R_iconst (pc := 98) (v := 1) dX9_set_98 (by decide) ?_
                refine R_icne (pc := 99) 106 dX9_set_99 (by decide) (fun b99_122 => ?_) (fun b99_122 => ?_)
                · skip
                  refine R_aload_n (pc := 106) dX9_set_106 rfl rfl ?_
                  refine g_X9_45 (pc := 107) (v := .int (σ.1 14013)) rfl dX9_set_107 (c_140 _) rfl ?_
                  refine p_X9_45 (pc := 110) rfl dX9_set_110 (c_140 _) (Nat.le_of_ble_eq_true rfl) rfl rfl (s_140_13 _ _) ?_
                  have hW123 := cor_ci 14013 (σ.1 14013) hW121
                  refine R_aload_n (pc := 113) dX9_set_113 rfl rfl ?_
                  refine R_iload_n (pc := 114) dX9_set_114 rfl rfl ?_
                  refine R_iconst (pc := 115) (v := 2) dX9_set_115 (by decide) ?_
                  refine R_icne (pc := 116) 123 dX9_set_116 (by decide) (fun b116_124 => ?_) (fun b116_124 => ?_)
                  · skip
                    refine R_aload_n (pc := 123) dX9_set_123 rfl rfl ?_
                    refine g_X9_48 (pc := 124) (v := .int (σ.1 14014)) rfl dX9_set_124 (c_140 _) rfl ?_
                    refine p_X9_48 (pc := 127) rfl dX9_set_127 (c_140 _) (Nat.le_of_ble_eq_true rfl) rfl rfl (s_140_14 _ _) ?_
                    have hW125 := cor_ci 14014 (σ.1 14014) hW123
                    refine R_iload_n (pc := 130) dX9_set_130 rfl rfl ?_
                    exact R_iret (pc := 131) dX9_set_131 rfl rfl (Nat.zero_le _) (Nat.zero_le _) ⟨_, rfl, _, rfl, hI⟩
                  · skip
                    refine R_iload_n (pc := 119) dX9_set_119 rfl rfl ?_
                    refine R_goto (pc := 120) 127 dX9_set_120 (by decide) ?_
                    refine p_X9_48 (pc := 127) rfl dX9_set_127 (c_140 _) (Nat.le_of_ble_eq_true rfl) rfl rfl (s_140_14 _ _) ?_
                    have hW126 := cor_ci 14014 b hW123
                    refine R_iload_n (pc := 130) dX9_set_130 rfl rfl ?_
                    exact R_iret (pc := 131) dX9_set_131 rfl rfl (Nat.zero_le _) (Nat.zero_le _) ⟨_, rfl, _, rfl, hI⟩
                · skip
                  refine R_iload_n (pc := 102) dX9_set_102 rfl rfl ?_
                  refine R_goto (pc := 103) 110 dX9_set_103 (by decide) ?_
                  refine p_X9_45 (pc := 110) rfl dX9_set_110 (c_140 _) (Nat.le_of_ble_eq_true rfl) rfl rfl (s_140_13 _ _) ?_
                  have hW127 := cor_ci 14013 b hW121
                  refine R_aload_n (pc := 113) dX9_set_113 rfl rfl ?_
                  refine R_iload_n (pc := 114) dX9_set_114 rfl rfl ?_
                  refine R_iconst (pc := 115) (v := 2) dX9_set_115 (by decide) ?_
                  refine R_icne (pc := 116) 123 dX9_set_116 (by decide) (fun b116_128 => ?_) (fun b116_128 => ?_)
                  · skip
                    refine R_aload_n (pc := 123) dX9_set_123 rfl rfl ?_
                    refine g_X9_48 (pc := 124) (v := .int (σ.1 14014)) rfl dX9_set_124 (c_140 _) rfl ?_
                    refine p_X9_48 (pc := 127) rfl dX9_set_127 (c_140 _) (Nat.le_of_ble_eq_true rfl) rfl rfl (s_140_14 _ _) ?_
                    have hW129 := cor_ci 14014 (σ.1 14014) hW127
                    refine R_iload_n (pc := 130) dX9_set_130 rfl rfl ?_
                    exact R_iret (pc := 131) dX9_set_131 rfl rfl (Nat.zero_le _) (Nat.zero_le _) ⟨_, rfl, _, rfl, hI⟩
                  · skip
                    refine R_iload_n (pc := 119) dX9_set_119 rfl rfl ?_
                    refine R_goto (pc := 120) 127 dX9_set_120 (by decide) ?_
                    refine p_X9_48 (pc := 127) rfl dX9_set_127 (c_140 _) (Nat.le_of_ble_eq_true rfl) rfl rfl (s_140_14 _ _) ?_
                    have hW130 := cor_ci 14014 b hW127
                    refine R_iload_n (pc := 130) dX9_set_130 rfl rfl ?_
                    exact R_iret (pc := 131) dX9_set_131 rfl rfl (Nat.zero_le _) (Nat.zero_le _) ⟨_, rfl, _, rfl, hI⟩
              · skip
                refine R_iload_n (pc := 85) dX9_set_85 rfl rfl ?_
                refine R_goto (pc := 86) 93 dX9_set_86 (by decide) ?_
                refine p_X9_41 (pc := 93) rfl dX9_set_93 (c_140 _) (Nat.le_of_ble_eq_true rfl) rfl rfl (s_140_12 _ _) ?_
                have hW131 := cor_ci 14012 b (Cor.rfl' σ)
                refine R_aload_n (pc := 96) dX9_set_96 rfl rfl ?_
                refine R_iload_n (pc := 97) dX9_set_97 rfl rfl ?_
                refine R_iconst (pc := 98) (v := 1) dX9_set_98 (by decide) ?_
                refine R_icne (pc := 99) 106 dX9_set_99 (by decide) (fun b99_132 => ?_) (fun b99_132 => ?_)
                · skip
                  refine R_aload_n (pc := 106) dX9_set_106 rfl rfl ?_
                  refine g_X9_45 (pc := 107) (v := .int (σ.1 14013)) rfl dX9_set_107 (c_140 _) rfl ?_
                  refine p_X9_45 (pc := 110) rfl dX9_set_110 (c_140 _) (Nat.le_of_ble_eq_true rfl) rfl rfl (s_140_13 _ _) ?_
                  have hW133 := cor_ci 14013 (σ.1 14013) hW131
                  refine R_aload_n (pc := 113) dX9_set_113 rfl rfl ?_
                  refine R_iload_n (pc := 114) dX9_set_114 rfl rfl ?_
                  refine R_iconst (pc := 115) (v := 2) dX9_set_115 (by decide) ?_
                  refine R_icne (pc := 116) 123 dX9_set_116 (by decide) (fun b116_134 => ?_) (fun b116_134 => ?_)
                  · skip
                    refine R_aload_n (pc := 123) dX9_set_123 rfl rfl ?_
                    refine g_X9_48 (pc := 124) (v := .int (σ.1 14014)) rfl dX9_set_124 (c_140 _) rfl ?_
                    refine p_X9_48 (pc := 127) rfl dX9_set_127 (c_140 _) (Nat.le_of_ble_eq_true rfl) rfl rfl (s_140_14 _ _) ?_
                    have hW135 := cor_ci 14014 (σ.1 14014) hW133
                    refine R_iload_n (pc := 130) dX9_set_130 rfl rfl ?_
                    exact R_iret (pc := 131) dX9_set_131 rfl rfl (Nat.zero_le _) (Nat.zero_le _) ⟨_, rfl, _, rfl, hI⟩
                  · skip
                    refine R_iload_n (pc := 119) dX9_set_119 rfl rfl ?_
                    refine R_goto (pc := 120) 127 dX9_set_120 (by decide) ?_
                    refine p_X9_48 (pc := 127) rfl dX9_set_127 (c_140 _) (Nat.le_of_ble_eq_true rfl) rfl rfl (s_140_14 _ _) ?_
                    have hW136 := cor_ci 14014 b hW133
                    refine R_iload_n (pc := 130) dX9_set_130 rfl rfl ?_
                    exact R_iret (pc := 131) dX9_set_131 rfl rfl (Nat.zero_le _) (Nat.zero_le _) ⟨_, rfl, _, rfl, hI⟩
                · skip
                  refine R_iload_n (pc := 102) dX9_set_102 rfl rfl ?_
                  refine R_goto (pc := 103) 110 dX9_set_103 (by decide) ?_
                  refine p_X9_45 (pc := 110) rfl dX9_set_110 (c_140 _) (Nat.le_of_ble_eq_true rfl) rfl rfl (s_140_13 _ _) ?_
                  have hW137 := cor_ci 14013 b hW131
                  refine R_aload_n (pc := 113) dX9_set_113 rfl rfl ?_
                  refine R_iload_n (pc := 114) dX9_set_114 rfl rfl ?_
                  refine R_iconst (pc := 115) (v := 2) dX9_set_115 (by decide) ?_
                  refine R_icne (pc := 116) 123 dX9_set_116 (by decide) (fun b116_138 => ?_) (fun b116_138 => ?_)
                  · skip
                    refine R_aload_n (pc := 123) dX9_set_123 rfl rfl ?_
                    refine g_X9_48 (pc := 124) (v := .int (σ.1 14014)) rfl dX9_set_124 (c_140 _) rfl ?_
                    refine p_X9_48 (pc := 127) rfl dX9_set_127 (c_140 _) (Nat.le_of_ble_eq_true rfl) rfl rfl (s_140_14 _ _) ?_
                    have hW139 := cor_ci 14014 (σ.1 14014) hW137
                    refine R_iload_n (pc := 130) dX9_set_130 rfl rfl ?_
                    exact R_iret (pc := 131) dX9_set_131 rfl rfl (Nat.zero_le _) (Nat.zero_le _) ⟨_, rfl, _, rfl, hI⟩
                  · skip
                    refine R_iload_n (pc := 119) dX9_set_119 rfl rfl ?_
                    refine R_goto (pc := 120) 127 dX9_set_120 (by decide) ?_
                    refine p_X9_48 (pc := 127) rfl dX9_set_127 (c_140 _) (Nat.le_of_ble_eq_true rfl) rfl rfl (s_140_14 _ _) ?_
                    have hW140 := cor_ci 14014 b hW137
                    refine R_iload_n (pc := 130) dX9_set_130 rfl rfl ?_
                    exact R_iret (pc := 131) dX9_set_131 rfl rfl (Nat.zero_le _) (Nat.zero_le _) ⟨_, rfl, _, rfl, hI⟩
          · skip
            refine R_ifne (pc := 46) 52 dX9_set_46 (by decide) (fun h => absurd (by decide) h) (fun _ => ?_)
            refine R_bipush (pc := 49) (v := (-3)) dX9_set_49 (by decide) ?_
            exact R_iret (pc := 51) dX9_set_51 rfl rfl (Nat.zero_le _) (Nat.zero_le _) ⟨_, rfl, _, rfl, hI⟩
      · skip
        refine R_bipush (pc := 24) (v := 8) dX9_set_24 (by decide) ?_
        refine R_goto (pc := 26) 43 dX9_set_26 (by decide) ?_
        refine k_X9_124 (pc := 43) (sp_X9_in _ _ _ _) rfl (by decide) (Nat.le_refl _) (Nat.le_refl _) (Nat.le_of_ble_eq_true rfl) dX9_set_43 (fun x w2 h => ?_)
        rcases h with ⟨rfl, ⟨h142, rfl⟩ | ⟨h142, rfl⟩⟩
        · skip
          refine R_ifne (pc := 46) 52 dX9_set_46 (by decide) (fun _ => ?_) (fun h => absurd h (by decide))
          refine R_iload_n (pc := 52) dX9_set_52 rfl rfl ?_
          refine R_ifne (pc := 53) 63 dX9_set_53 (by decide) (fun b53_144 => ?_) (fun b53_144 => ?_)
          · skip
            refine R_iload_n (pc := 63) dX9_set_63 rfl rfl ?_
            refine R_iconst (pc := 64) (v := 1) dX9_set_64 (by decide) ?_
            refine R_icne (pc := 65) 75 dX9_set_65 (by decide) (fun b65_145 => ?_) (fun b65_145 => ?_)
            · skip
              refine R_aload_n (pc := 75) dX9_set_75 rfl rfl ?_
              refine g_X9_48 (pc := 76) (v := .int (σ.1 14014)) rfl dX9_set_76 (c_140 _) rfl ?_
              refine st_4_3_i_i (pc := 79) dX9_set_79 ?_
              refine R_aload_n (pc := 80) dX9_set_80 rfl rfl ?_
              refine R_iload_n (pc := 81) dX9_set_81 rfl rfl ?_
              refine R_ifne (pc := 82) 89 dX9_set_82 (by decide) (fun b82_146 => ?_) (fun b82_146 => ?_)
              · skip
                refine R_aload_n (pc := 89) dX9_set_89 rfl rfl ?_
                refine g_X9_41 (pc := 90) (v := .int (σ.1 14012)) rfl dX9_set_90 (c_140 _) rfl ?_
                refine p_X9_41 (pc := 93) rfl dX9_set_93 (c_140 _) (Nat.le_of_ble_eq_true rfl) rfl rfl (s_140_12 _ _) ?_
                have hW147 := cor_ci 14012 (σ.1 14012) (Cor.rfl' σ)
                refine R_aload_n (pc := 96) dX9_set_96 rfl rfl ?_
                refine R_iload_n (pc := 97) dX9_set_97 rfl rfl ?_
                refine R_iconst (pc := 98) (v := 1) dX9_set_98 (by decide) ?_
                refine R_icne (pc := 99) 106 dX9_set_99 (by decide) (fun b99_148 => ?_) (fun b99_148 => ?_)
                · skip
                  refine R_aload_n (pc := 106) dX9_set_106 rfl rfl ?_
                  refine g_X9_45 (pc := 107) (v := .int (σ.1 14013)) rfl dX9_set_107 (c_140 _) rfl ?_
                  refine p_X9_45 (pc := 110) rfl dX9_set_110 (c_140 _) (Nat.le_of_ble_eq_true rfl) rfl rfl (s_140_13 _ _) ?_
                  have hW149 := cor_ci 14013 (σ.1 14013) hW147
                  refine R_aload_n (pc := 113) dX9_set_113 rfl rfl ?_
                  refine R_iload_n (pc := 114) dX9_set_114 rfl rfl ?_
                  refine R_iconst (pc := 115) (v := 2) dX9_set_115 (by decide) ?_
                  refine R_icne (pc := 116) 123 dX9_set_116 (by decide) (fun b116_150 => ?_) (fun b116_150 => ?_)
                  · skip
                    refine R_aload_n (pc := 123) dX9_set_123 rfl rfl ?_
                    refine g_X9_48 (pc := 124) (v := .int (σ.1 14014)) rfl dX9_set_124 (c_140 _) rfl ?_
                    refine p_X9_48 (pc := 127) rfl dX9_set_127 (c_140 _) (Nat.le_of_ble_eq_true rfl) rfl rfl (s_140_14 _ _) ?_
                    have hW151 := cor_ci 14014 (σ.1 14014) hW149
                    refine R_iload_n (pc := 130) dX9_set_130 rfl rfl ?_
                    exact R_iret (pc := 131) dX9_set_131 rfl rfl (Nat.zero_le _) (Nat.zero_le _) ⟨_, rfl, _, rfl, hI⟩
                  · skip
                    refine R_iload_n (pc := 119) dX9_set_119 rfl rfl ?_
                    refine R_goto (pc := 120) 127 dX9_set_120 (by decide) ?_
                    refine p_X9_48 (pc := 127) rfl dX9_set_127 (c_140 _) (Nat.le_of_ble_eq_true rfl) rfl rfl (s_140_14 _ _) ?_
                    have hW152 := cor_ci 14014 b hW149
                    refine R_iload_n (pc := 130) dX9_set_130 rfl rfl ?_
                    exact R_iret (pc := 131) dX9_set_131 rfl rfl (Nat.zero_le _) (Nat.zero_le _) ⟨_, rfl, _, rfl, hI⟩
                · skip
                  refine R_iload_n (pc := 102) dX9_set_102 rfl rfl ?_
                  refine R_goto (pc := 103) 110 dX9_set_103 (by decide) ?_
                  refine p_X9_45 (pc := 110) rfl dX9_set_110 (c_140 _) (Nat.le_of_ble_eq_true rfl) rfl rfl (s_140_13 _ _) ?_
                  have hW153 := cor_ci 14013 b hW147
                  refine R_aload_n (pc := 113) dX9_set_113 rfl rfl ?_
                  refine R_iload_n (pc := 114) dX9_set_114 rfl rfl ?_
                  refine R_iconst (pc := 115) (v := 2) dX9_set_115 (by decide) ?_
                  refine R_icne (pc := 116) 123 dX9_set_116 (by decide) (fun b116_154 => ?_) (fun b116_154 => ?_)
                  · skip
                    refine R_aload_n (pc := 123) dX9_set_123 rfl rfl ?_
                    refine g_X9_48 (pc := 124) (v := .int (σ.1 14014)) rfl dX9_set_124 (c_140 _) rfl ?_
                    refine p_X9_48 (pc := 127) rfl dX9_set_127 (c_140 _) (Nat.le_of_ble_eq_true rfl) rfl rfl (s_140_14 _ _) ?_
                    have hW155 := cor_ci 14014 (σ.1 14014) hW153
                    refine R_iload_n (pc := 130) dX9_set_130 rfl rfl ?_
                    exact R_iret (pc := 131) dX9_set_131 rfl rfl (Nat.zero_le _) (Nat.zero_le _) ⟨_, rfl, _, rfl, hI⟩
                  · skip
                    refine R_iload_n (pc := 119) dX9_set_119 rfl rfl ?_
                    refine R_goto (pc := 120) 127 dX9_set_120 (by decide) ?_
                    refine p_X9_48 (pc := 127) rfl dX9_set_127 (c_140 _) (Nat.le_of_ble_eq_true rfl) rfl rfl (s_140_14 _ _) ?_
                    have hW156 := cor_ci 14014 b hW153
                    refine R_iload_n (pc := 130) dX9_set_130 rfl rfl ?_
                    exact R_iret (pc := 131) dX9_set_131 rfl rfl (Nat.zero_le _) (Nat.zero_le _) ⟨_, rfl, _, rfl, hI⟩
              · skip
                refine R_iload_n (pc := 85) dX9_set_85 rfl rfl ?_
                refine R_goto (pc := 86) 93 dX9_set_86 (by decide) ?_
                refine p_X9_41 (pc := 93) rfl dX9_set_93 (c_140 _) (Nat.le_of_ble_eq_true rfl) rfl rfl (s_140_12 _ _) ?_
                have hW157 := cor_ci 14012 b (Cor.rfl' σ)
                refine R_aload_n (pc := 96) dX9_set_96 rfl rfl ?_
                refine R_iload_n (pc := 97) dX9_set_97 rfl rfl ?_
                refine R_iconst (pc := 98) (v := 1) dX9_set_98 (by decide) ?_
                refine R_icne (pc := 99) 106 dX9_set_99 (by decide) (fun b99_158 => ?_) (fun b99_158 => ?_)
                · skip
                  refine R_aload_n (pc := 106) dX9_set_106 rfl rfl ?_
                  refine g_X9_45 (pc := 107) (v := .int (σ.1 14013)) rfl dX9_set_107 (c_140 _) rfl ?_
                  refine p_X9_45 (pc := 110) rfl dX9_set_110 (c_140 _) (Nat.le_of_ble_eq_true rfl) rfl rfl (s_140_13 _ _) ?_
                  have hW159 := cor_ci 14013 (σ.1 14013) hW157
                  refine R_aload_n (pc := 113) dX9_set_113 rfl rfl ?_
                  refine R_iload_n (pc := 114) dX9_set_114 rfl rfl ?_
                  refine R_iconst (pc := 115) (v := 2) dX9_set_115 (by decide) ?_
                  refine R_icne (pc := 116) 123 dX9_set_116 (by decide) (fun b116_160 => ?_) (fun b116_160 => ?_)
                  · skip
                    refine R_aload_n (pc := 123) dX9_set_123 rfl rfl ?_
                    refine g_X9_48 (pc := 124) (v := .int (σ.1 14014)) rfl dX9_set_124 (c_140 _) rfl ?_
                    refine p_X9_48 (pc := 127) rfl dX9_set_127 (c_140 _) (Nat.le_of_ble_eq_true rfl) rfl rfl (s_140_14 _ _) ?_
                    have hW161 := cor_ci 14014 (σ.1 14014) hW159
                    refine R_iload_n (pc := 130) dX9_set_130 rfl rfl ?_
                    exact R_iret (pc := 131) dX9_set_131 rfl rfl (Nat.zero_le _) (Nat.zero_le _) ⟨_, rfl, _, rfl, hI⟩
                  · skip
                    refine R_iload_n (pc := 119) dX9_set_119 rfl rfl ?_
                    refine R_goto (pc := 120) 127 dX9_set_120 (by decide) ?_
                    refine p_X9_48 (pc := 127) rfl dX9_set_127 (c_140 _) (Nat.le_of_ble_eq_true rfl) rfl rfl (s_140_14 _ _) ?_
                    have hW162 := cor_ci 14014 b hW159
                    refine R_iload_n (pc := 130) dX9_set_130 rfl rfl ?_
                    exact R_iret (pc := 131) dX9_set_131 rfl rfl (Nat.zero_le _) (Nat.zero_le _) ⟨_, rfl, _, rfl, hI⟩
                · skip
                  refine R_iload_n (pc := 102) dX9_set_102 rfl rfl ?_
                  refine R_goto (pc := 103) 110 dX9_set_103 (by decide) ?_
                  refine p_X9_45 (pc := 110) rfl dX9_set_110 (c_140 _) (Nat.le_of_ble_eq_true rfl) rfl rfl (s_140_13 _ _) ?_
                  have hW163 := cor_ci 14013 b hW157
                  refine R_aload_n (pc := 113) dX9_set_113 rfl rfl ?_
                  refine R_iload_n (pc := 114) dX9_set_114 rfl rfl ?_
                  refine R_iconst (pc := 115) (v := 2) dX9_set_115 (by decide) ?_
                  refine R_icne (pc := 116) 123 dX9_set_116 (by decide) (fun b116_164 => ?_) (fun b116_164 => ?_)
                  · skip
                    refine R_aload_n (pc := 123) dX9_set_123 rfl rfl ?_
                    refine g_X9_48 (pc := 124) (v := .int (σ.1 14014)) rfl dX9_set_124 (c_140 _) rfl ?_
                    refine p_X9_48 (pc := 127) rfl dX9_set_127 (c_140 _) (Nat.le_of_ble_eq_true rfl) rfl rfl (s_140_14 _ _) ?_
                    have hW165 := cor_ci 14014 (σ.1 14014) hW163
                    refine R_iload_n (pc := 130) dX9_set_130 rfl rfl ?_
                    exact R_iret (pc := 131) dX9_set_131 rfl rfl (Nat.zero_le _) (Nat.zero_le _) ⟨_, rfl, _, rfl, hI⟩
                  · skip
                    refine R_iload_n (pc := 119) dX9_set_119 rfl rfl ?_
                    refine R_goto (pc := 120) 127 dX9_set_120 (by decide) ?_
                    refine p_X9_48 (pc := 127) rfl dX9_set_127 (c_140 _) (Nat.le_of_ble_eq_true rfl) rfl rfl (s_140_14 _ _) ?_
                    have hW166 := cor_ci 14014 b hW163
                    refine R_iload_n (pc := 130) dX9_set_130 rfl rfl ?_
                    exact R_iret (pc := 131) dX9_set_131 rfl rfl (Nat.zero_le _) (Nat.zero_le _) ⟨_, rfl, _, rfl, hI⟩
            · skip
              refine R_aload_n (pc := 68) dX9_set_68 rfl rfl ?_
              refine g_X9_45 (pc := 69) (v := .int (σ.1 14013)) rfl dX9_set_69 (c_140 _) rfl ?_
              refine R_goto (pc := 72) 79 dX9_set_72 (by decide) ?_
              refine st_4_3_i_i (pc := 79) dX9_set_79 ?_
              refine R_aload_n (pc := 80) dX9_set_80 rfl rfl ?_
              refine R_iload_n (pc := 81) dX9_set_81 rfl rfl ?_
              refine R_ifne (pc := 82) 89 dX9_set_82 (by decide) (fun b82_167 => ?_) (fun b82_167 => ?_)
              · skip
                refine R_aload_n (pc := 89) dX9_set_89 rfl rfl ?_
                refine g_X9_41 (pc := 90) (v := .int (σ.1 14012)) rfl dX9_set_90 (c_140 _) rfl ?_
                refine p_X9_41 (pc := 93) rfl dX9_set_93 (c_140 _) (Nat.le_of_ble_eq_true rfl) rfl rfl (s_140_12 _ _) ?_
                have hW168 := cor_ci 14012 (σ.1 14012) (Cor.rfl' σ)
                refine R_aload_n (pc := 96) dX9_set_96 rfl rfl ?_
                refine R_iload_n (pc := 97) dX9_set_97 rfl rfl ?_
                refine R_iconst (pc := 98) (v := 1) dX9_set_98 (by decide) ?_
                refine R_icne (pc := 99) 106 dX9_set_99 (by decide) (fun b99_169 => ?_) (fun b99_169 => ?_)
                · skip
                  refine R_aload_n (pc := 106) dX9_set_106 rfl rfl ?_
                  refine g_X9_45 (pc := 107) (v := .int (σ.1 14013)) rfl dX9_set_107 (c_140 _) rfl ?_
                  refine p_X9_45 (pc := 110) rfl dX9_set_110 (c_140 _) (Nat.le_of_ble_eq_true rfl) rfl rfl (s_140_13 _ _) ?_
                  have hW170 := cor_ci 14013 (σ.1 14013) hW168
                  refine R_aload_n (pc := 113) dX9_set_113 rfl rfl ?_
                  refine R_iload_n (pc := 114) dX9_set_114 rfl rfl ?_
                  refine R_iconst (pc := 115) (v := 2) dX9_set_115 (by decide) ?_
                  refine R_icne (pc := 116) 123 dX9_set_116 (by decide) (fun b116_171 => ?_) (fun b116_171 => ?_)
                  · skip
                    refine R_aload_n (pc := 123) dX9_set_123 rfl rfl ?_
                    refine g_X9_48 (pc := 124) (v := .int (σ.1 14014)) rfl dX9_set_124 (c_140 _) rfl ?_
                    refine p_X9_48 (pc := 127) rfl dX9_set_127 (c_140 _) (Nat.le_of_ble_eq_true rfl) rfl rfl (s_140_14 _ _) ?_
                    have hW172 := cor_ci 14014 (σ.1 14014) hW170
                    refine R_iload_n (pc := 130) dX9_set_130 rfl rfl ?_
                    exact R_iret (pc := 131) dX9_set_131 rfl rfl (Nat.zero_le _) (Nat.zero_le _) ⟨_, rfl, _, rfl, hI⟩
                  · skip
                    refine R_iload_n (pc := 119) dX9_set_119 rfl rfl ?_
                    refine R_goto (pc := 120) 127 dX9_set_120 (by decide) ?_
                    refine p_X9_48 (pc := 127) rfl dX9_set_127 (c_140 _) (Nat.le_of_ble_eq_true rfl) rfl rfl (s_140_14 _ _) ?_
                    have hW173 := cor_ci 14014 b hW170
                    refine R_iload_n (pc := 130) dX9_set_130 rfl rfl ?_
                    exact R_iret (pc := 131) dX9_set_131 rfl rfl (Nat.zero_le _) (Nat.zero_le _) ⟨_, rfl, _, rfl, hI⟩
                · skip
                  refine R_iload_n (pc := 102) dX9_set_102 rfl rfl ?_
                  refine R_goto (pc := 103) 110 dX9_set_103 (by decide) ?_
                  refine p_X9_45 (pc := 110) rfl dX9_set_110 (c_140 _) (Nat.le_of_ble_eq_true rfl) rfl rfl (s_140_13 _ _) ?_
                  have hW174 := cor_ci 14013 b hW168
                  refine R_aload_n (pc := 113) dX9_set_113 rfl rfl ?_
                  refine R_iload_n (pc := 114) dX9_set_114 rfl rfl ?_
                  refine R_iconst (pc := 115) (v := 2) dX9_set_115 (by decide) ?_
                  refine R_icne (pc := 116) 123 dX9_set_116 (by decide) (fun b116_175 => ?_) (fun b116_175 => ?_)
                  · skip
                    refine R_aload_n (pc := 123) dX9_set_123 rfl rfl ?_
                    refine g_X9_48 (pc := 124) (v := .int (σ.1 14014)) rfl dX9_set_124 (c_140 _) rfl ?_
                    refine p_X9_48 (pc := 127) rfl dX9_set_127 (c_140 _) (Nat.le_of_ble_eq_true rfl) rfl rfl (s_140_14 _ _) ?_
                    have hW176 := cor_ci 14014 (σ.1 14014) hW174
                    refine R_iload_n (pc := 130) dX9_set_130 rfl rfl ?_
                    exact R_iret (pc := 131) dX9_set_131 rfl rfl (Nat.zero_le _) (Nat.zero_le _) ⟨_, rfl, _, rfl, hI⟩
                  · skip
                    refine R_iload_n (pc := 119) dX9_set_119 rfl rfl ?_
                    refine R_goto (pc := 120) 127 dX9_set_120 (by decide) ?_
                    refine p_X9_48 (pc := 127) rfl dX9_set_127 (c_140 _) (Nat.le_of_ble_eq_true rfl) rfl rfl (s_140_14 _ _) ?_
                    have hW177 := cor_ci 14014 b hW174
                    refine R_iload_n (pc := 130) dX9_set_130 rfl rfl ?_
                    exact R_iret (pc := 131) dX9_set_131 rfl rfl (Nat.zero_le _) (Nat.zero_le _) ⟨_, rfl, _, rfl, hI⟩
              · skip
                refine R_iload_n (pc := 85) dX9_set_85 rfl rfl ?_
                refine R_goto (pc := 86) 93 dX9_set_86 (by decide) ?_
                refine p_X9_41 (pc := 93) rfl dX9_set_93 (c_140 _) (Nat.le_of_ble_eq_true rfl) rfl rfl (s_140_12 _ _) ?_
                have hW178 := cor_ci 14012 b (Cor.rfl' σ)
                refine R_aload_n (pc := 96) dX9_set_96 rfl rfl ?_
                refine R_iload_n (pc := 97) dX9_set_97 rfl rfl ?_
                refine R_iconst (pc := 98) (v := 1) dX9_set_98 (by decide) ?_
                refine R_icne (pc := 99) 106 dX9_set_99 (by decide) (fun b99_179 => ?_) (fun b99_179 => ?_)
                · skip
                  refine R_aload_n (pc := 106) dX9_set_106 rfl rfl ?_
                  refine g_X9_45 (pc := 107) (v := .int (σ.1 14013)) rfl dX9_set_107 (c_140 _) rfl ?_
                  refine p_X9_45 (pc := 110) rfl dX9_set_110 (c_140 _) (Nat.le_of_ble_eq_true rfl) rfl rfl (s_140_13 _ _) ?_
                  have hW180 := cor_ci 14013 (σ.1 14013) hW178
                  refine R_aload_n (pc := 113) dX9_set_113 rfl rfl ?_
                  refine R_iload_n (pc := 114) dX9_set_114 rfl rfl ?_
                  refine R_iconst (pc := 115) (v := 2) dX9_set_115 (by decide) ?_
                  refine R_icne (pc := 116) 123 dX9_set_116 (by decide) (fun b116_181 => ?_) (fun b116_181 => ?_)
                  · skip
                    refine R_aload_n (pc := 123) dX9_set_123 rfl rfl ?_
                    refine g_X9_48 (pc := 124) (v := .int (σ.1 14014)) rfl dX9_set_124 (c_140 _) rfl ?_
                    refine p_X9_48 (pc := 127) rfl dX9_set_127 (c_140 _) (Nat.le_of_ble_eq_true rfl) rfl rfl (s_140_14 _ _) ?_
                    have hW182 := cor_ci 14014 (σ.1 14014) hW180
                    refine R_iload_n (pc := 130) dX9_set_130 rfl rfl ?_
                    exact R_iret (pc := 131) dX9_set_131 rfl rfl (Nat.zero_le _) (Nat.zero_le _) ⟨_, rfl, _, rfl, hI⟩
                  · skip
                    refine R_iload_n (pc := 119) dX9_set_119 rfl rfl ?_
                    refine R_goto (pc := 120) 127 dX9_set_120 (by decide) ?_
                    refine p_X9_48 (pc := 127) rfl dX9_set_127 (c_140 _) (Nat.le_of_ble_eq_true rfl) rfl rfl (s_140_14 _ _) ?_
                    have hW183 := cor_ci 14014 b hW180
                    refine R_iload_n (pc := 130) dX9_set_130 rfl rfl ?_
                    exact R_iret (pc := 131) dX9_set_131 rfl rfl (Nat.zero_le _) (Nat.zero_le _) ⟨_, rfl, _, rfl, hI⟩
                · skip
                  refine R_iload_n (pc := 102) dX9_set_102 rfl rfl ?_
                  refine R_goto (pc := 103) 110 dX9_set_103 (by decide) ?_
                  refine p_X9_45 (pc := 110) rfl dX9_set_110 (c_140 _) (Nat.le_of_ble_eq_true rfl) rfl rfl (s_140_13 _ _) ?_
                  have hW184 := cor_ci 14013 b hW178
                  refine R_aload_n (pc := 113) dX9_set_113 rfl rfl ?_
                  refine R_iload_n (pc := 114) dX9_set_114 rfl rfl ?_
                  refine R_iconst (pc := 115) (v := 2) dX9_set_115 (by decide) ?_
                  refine R_icne (pc := 116) 123 dX9_set_116 (by decide) (fun b116_185 => ?_) (fun b116_185 => ?_)
                  · skip
                    refine R_aload_n (pc := 123) dX9_set_123 rfl rfl ?_
                    refine g_X9_48 (pc := 124) (v := .int (σ.1 14014)) rfl dX9_set_124 (c_140 _) rfl ?_
                    refine p_X9_48 (pc := 127) rfl dX9_set_127 (c_140 _) (Nat.le_of_ble_eq_true rfl) rfl rfl (s_140_14 _ _) ?_
                    have hW186 := cor_ci 14014 (σ.1 14014) hW184
                    refine R_iload_n (pc := 130) dX9_set_130 rfl rfl ?_
                    exact R_iret (pc := 131) dX9_set_131 rfl rfl (Nat.zero_le _) (Nat.zero_le _) ⟨_, rfl, _, rfl, hI⟩
                  · skip
                    refine R_iload_n (pc := 119) dX9_set_119 rfl rfl ?_
                    refine R_goto (pc := 120) 127 dX9_set_120 (by decide) ?_
                    refine p_X9_48 (pc := 127) rfl dX9_set_127 (c_140 _) (Nat.le_of_ble_eq_true rfl) rfl rfl (s_140_14 _ _) ?_
                    have hW187 := cor_ci 14014 b hW184
                    refine R_iload_n (pc := 130) dX9_set_130 rfl rfl ?_
                    exact R_iret (pc := 131) dX9_set_131 rfl rfl (Nat.zero_le _) (Nat.zero_le _) ⟨_, rfl, _, rfl, hI⟩
          · skip
            refine R_aload_n (pc := 56) dX9_set_56 rfl rfl ?_
            refine g_X9_41 (pc := 57) (v := .int (σ.1 14012)) rfl dX9_set_57 (c_140 _) rfl ?_
            refine R_goto (pc := 60) 79 dX9_set_60 (by decide) ?_
            refine st_4_3_i_i (pc := 79) dX9_set_79 ?_
            refine R_aload_n (pc := 80) dX9_set_80 rfl rfl ?_
            refine R_iload_n (pc := 81) dX9_set_81 rfl rfl ?_
            refine R_ifne (pc := 82) 89 dX9_set_82 (by decide) (fun b82_188 => ?_) (fun b82_188 => ?_)
            · skip
              refine R_aload_n (pc := 89) dX9_set_89 rfl rfl ?_
              refine g_X9_41 (pc := 90) (v := .int (σ.1 14012)) rfl dX9_set_90 (c_140 _) rfl ?_
              refine p_X9_41 (pc := 93) rfl dX9_set_93 (c_140 _) (Nat.le_of_ble_eq_true rfl) rfl rfl (s_140_12 _ _) ?_
              have hW189 := cor_ci 14012 (σ.1 14012) (Cor.rfl' σ)
              refine R_aload_n (pc := 96) dX9_set_96 rfl rfl ?_
              refine R_iload_n (pc := 97) dX9_set_97 rfl rfl ?_
              refine R_iconst (pc := 98) (v := 1) dX9_set_98 (by decide) ?_
              refine R_icne (pc := 99) 106 dX9_set_99 (by decide) (fun b99_190 => ?_) (fun b99_190 => ?_)
              · skip
                refine R_aload_n (pc := 106) dX9_set_106 rfl rfl ?_
                refine g_X9_45 (pc := 107) (v := .int (σ.1 14013)) rfl dX9_set_107 (c_140 _) rfl ?_
                refine p_X9_45 (pc := 110) rfl dX9_set_110 (c_140 _) (Nat.le_of_ble_eq_true rfl) rfl rfl (s_140_13 _ _) ?_
                have hW191 := cor_ci 14013 (σ.1 14013) hW189
                refine R_aload_n (pc := 113) dX9_set_113 rfl rfl ?_
                refine R_iload_n (pc := 114) dX9_set_114 rfl rfl ?_
                refine R_iconst (pc := 115) (v := 2) dX9_set_115 (by decide) ?_
                refine R_icne (pc := 116) 123 dX9_set_116 (by decide) (fun b116_192 => ?_) (fun b116_192 => ?_)
                · skip
                  refine R_aload_n (pc := 123) dX9_set_123 rfl rfl ?_
                  refine g_X9_48 (pc := 124) (v := .int (σ.1 14014)) rfl dX9_set_124 (c_140 _) rfl ?_
                  refine p_X9_48 (pc := 127) rfl dX9_set_127 (c_140 _) (Nat.le_of_ble_eq_true rfl) rfl rfl (s_140_14 _ _) ?_
                  have hW193 := cor_ci 14014 (σ.1 14014) hW191
                  refine R_iload_n (pc := 130) dX9_set_130 rfl rfl ?_
                  exact R_iret (pc := 131) dX9_set_131 rfl rfl (Nat.zero_le _) (Nat.zero_le _) ⟨_, rfl, _, rfl, hI⟩
                · skip
                  refine R_iload_n (pc := 119) dX9_set_119 rfl rfl ?_
                  refine R_goto (pc := 120) 127 dX9_set_120 (by decide) ?_
                  refine p_X9_48 (pc := 127) rfl dX9_set_127 (c_140 _) (Nat.le_of_ble_eq_true rfl) rfl rfl (s_140_14 _ _) ?_
                  have hW194 := cor_ci 14014 b hW191
                  refine R_iload_n (pc := 130) dX9_set_130 rfl rfl ?_
                  exact R_iret (pc := 131) dX9_set_131 rfl rfl (Nat.zero_le _) (Nat.zero_le _) ⟨_, rfl, _, rfl, hI⟩
              · skip
                refine R_iload_n (pc := 102) dX9_set_102 rfl rfl ?_
                refine R_goto (pc := 103) 110 dX9_set_103 (by decide) ?_
                refine p_X9_45 (pc := 110) rfl dX9_set_110 (c_140 _) (Nat.le_of_ble_eq_true rfl) rfl rfl (s_140_13 _ _) ?_
                have hW195 := cor_ci 14013 b hW189
                refine R_aload_n (pc := 113) dX9_set_113 rfl rfl ?_
                refine R_iload_n (pc := 114) dX9_set_114 rfl rfl ?_
                refine R_iconst (pc := 115) (v := 2) dX9_set_115 (by decide) ?_
                refine R_icne (pc := 116) 123 dX9_set_116 (by decide) (fun b116_196 => ?_) (fun b116_196 => ?_)
                · skip
                  refine R_aload_n (pc := 123) dX9_set_123 rfl rfl ?_
                  refine g_X9_48 (pc := 124) (v := .int (σ.1 14014)) rfl dX9_set_124 (c_140 _) rfl ?_
                  refine p_X9_48 (pc := 127) rfl dX9_set_127 (c_140 _) (Nat.le_of_ble_eq_true rfl) rfl rfl (s_140_14 _ _) ?_
                  have hW197 := cor_ci 14014 (σ.1 14014) hW195
                  refine R_iload_n (pc := 130) dX9_set_130 rfl rfl ?_
                  exact R_iret (pc := 131) dX9_set_131 rfl rfl (Nat.zero_le _) (Nat.zero_le _) ⟨_, rfl, _, rfl, hI⟩
                · skip
                  refine R_iload_n (pc := 119) dX9_set_119 rfl rfl ?_
                  refine R_goto (pc := 120) 127 dX9_set_120 (by decide) ?_
                  refine p_X9_48 (pc := 127) rfl dX9_set_127 (c_140 _) (Nat.le_of_ble_eq_true rfl) rfl rfl (s_140_14 _ _) ?_
                  have hW198 := cor_ci 14014 b hW195
                  refine R_iload_n (pc := 130) dX9_set_130 rfl rfl ?_
                  exact R_iret (pc := 131) dX9_set_131 rfl rfl (Nat.zero_le _) (Nat.zero_le _) ⟨_, rfl, _, rfl, hI⟩
            · skip
              refine R_iload_n (pc := 85) dX9_set_85 rfl rfl ?_
              refine R_goto (pc := 86) 93 dX9_set_86 (by decide) ?_
              refine p_X9_41 (pc := 93) rfl dX9_set_93 (c_140 _) (Nat.le_of_ble_eq_true rfl) rfl rfl (s_140_12 _ _) ?_
              have hW199 := cor_ci 14012 b (Cor.rfl' σ)
              refine R_aload_n (pc := 96) dX9_set_96 rfl rfl ?_
              refine R_iload_n (pc := 97) dX9_set_97 rfl rfl ?_
              refine R_iconst (pc := 98) (v := 1) dX9_set_98 (by decide) ?_
              refine R_icne (pc := 99) 106 dX9_set_99 (by decide) (fun b99_200 => ?_) (fun b99_200 => ?_)
              · skip
                refine R_aload_n (pc := 106) dX9_set_106 rfl rfl ?_
                refine g_X9_45 (pc := 107) (v := .int (σ.1 14013)) rfl dX9_set_107 (c_140 _) rfl ?_
                refine p_X9_45 (pc := 110) rfl dX9_set_110 (c_140 _) (Nat.le_of_ble_eq_true rfl) rfl rfl (s_140_13 _ _) ?_
                have hW201 := cor_ci 14013 (σ.1 14013) hW199
                refine R_aload_n (pc := 113) dX9_set_113 rfl rfl ?_
                refine R_iload_n (pc := 114) dX9_set_114 rfl rfl ?_
                refine R_iconst (pc := 115) (v := 2) dX9_set_115 (by decide) ?_
                refine R_icne (pc := 116) 123 dX9_set_116 (by decide) (fun b116_202 => ?_) (fun b116_202 => ?_)
                · skip
                  refine R_aload_n (pc := 123) dX9_set_123 rfl rfl ?_
                  refine g_X9_48 (pc := 124) (v := .int (σ.1 14014)) rfl dX9_set_124 (c_140 _) rfl ?_
                  refine p_X9_48 (pc := 127) rfl dX9_set_127 (c_140 _) (Nat.le_of_ble_eq_true rfl) rfl rfl (s_140_14 _ _) ?_
                  have hW203 := cor_ci 14014 (σ.1 14014) hW201
                  refine R_iload_n (pc := 130) dX9_set_130 rfl rfl ?_
                  exact R_iret (pc := 131) dX9_set_131 rfl rfl (Nat.zero_le _) (Nat.zero_le _) ⟨_, rfl, _, rfl, hI⟩
                · skip
                  refine R_iload_n (pc := 119) dX9_set_119 rfl rfl ?_
                  refine R_goto (pc := 120) 127 dX9_set_120 (by decide) ?_
                  refine p_X9_48 (pc := 127) rfl dX9_set_127 (c_140 _) (Nat.le_of_ble_eq_true rfl) rfl rfl (s_140_14 _ _) ?_
                  have hW204 := cor_ci 14014 b hW201
                  refine R_iload_n (pc := 130) dX9_set_130 rfl rfl ?_
                  exact R_iret (pc := 131) dX9_set_131 rfl rfl (Nat.zero_le _) (Nat.zero_le _) ⟨_, rfl, _, rfl, hI⟩
              · skip
                refine R_iload_n (pc := 102) dX9_set_102 rfl rfl ?_
                refine R_goto (pc := 103) 110 dX9_set_103 (by decide) ?_
                refine p_X9_45 (pc := 110) rfl dX9_set_110 (c_140 _) (Nat.le_of_ble_eq_true rfl) rfl rfl (s_140_13 _ _) ?_
                have hW205 := cor_ci 14013 b hW199
                refine R_aload_n (pc := 113) dX9_set_113 rfl rfl ?_
                refine R_iload_n (pc := 114) dX9_set_114 rfl rfl ?_
                refine R_iconst (pc := 115) (v := 2) dX9_set_115 (by decide) ?_
                refine R_icne (pc := 116) 123 dX9_set_116 (by decide) (fun b116_206 => ?_) (fun b116_206 => ?_)
                · skip
                  refine R_aload_n (pc := 123) dX9_set_123 rfl rfl ?_
                  refine g_X9_48 (pc := 124) (v := .int (σ.1 14014)) rfl dX9_set_124 (c_140 _) rfl ?_
                  refine p_X9_48 (pc := 127) rfl dX9_set_127 (c_140 _) (Nat.le_of_ble_eq_true rfl) rfl rfl (s_140_14 _ _) ?_
                  have hW207 := cor_ci 14014 (σ.1 14014) hW205
                  refine R_iload_n (pc := 130) dX9_set_130 rfl rfl ?_
                  exact R_iret (pc := 131) dX9_set_131 rfl rfl (Nat.zero_le _) (Nat.zero_le _) ⟨_, rfl, _, rfl, hI⟩
                · skip
                  refine R_iload_n (pc := 119) dX9_set_119 rfl rfl ?_
                  refine R_goto (pc := 120) 127 dX9_set_120 (by decide) ?_
                  refine p_X9_48 (pc := 127) rfl dX9_set_127 (c_140 _) (Nat.le_of_ble_eq_true rfl) rfl rfl (s_140_14 _ _) ?_
                  have hW208 := cor_ci 14014 b hW205
                  refine R_iload_n (pc := 130) dX9_set_130 rfl rfl ?_
                  exact R_iret (pc := 131) dX9_set_131 rfl rfl (Nat.zero_le _) (Nat.zero_le _) ⟨_, rfl, _, rfl, hI⟩
        · skip
          refine R_ifne (pc := 46) 52 dX9_set_46 (by decide) (fun h => absurd (by decide) h) (fun _ => ?_)
          refine R_bipush (pc := 49) (v := (-3)) dX9_set_49 (by decide) ?_
          exact R_iret (pc := 51) dX9_set_51 rfl rfl (Nat.zero_le _) (Nat.zero_le _) ⟨_, rfl, _, rfl, hI⟩
    · skip
      refine R_iconst (pc := 15) (v := 1) dX9_set_15 (by decide) ?_
      refine R_goto (pc := 16) 20 dX9_set_16 (by decide) ?_
      refine R_iload_n (pc := 20) dX9_set_20 rfl rfl ?_
      refine R_ifne (pc := 21) 29 dX9_set_21 (by decide) (fun b21_210 => ?_) (fun b21_210 => ?_)
      · skip
        refine R_iload_n (pc := 29) dX9_set_29 rfl rfl ?_
        refine R_iconst (pc := 30) (v := 1) dX9_set_30 (by decide) ?_
        refine R_icne (pc := 31) 40 dX9_set_31 (by decide) (fun b31_211 => ?_) (fun b31_211 => ?_)
        · skip
          refine R_sipush (pc := 40) (v := 10000) dX9_set_40 (by decide) ?_
          refine k_X9_124 (pc := 43) (sp_X9_in _ _ _ _) rfl (by decide) (Nat.le_refl _) (Nat.le_refl _) (Nat.le_of_ble_eq_true rfl) dX9_set_43 (fun x w2 h => ?_)
          rcases h with ⟨rfl, ⟨h212, rfl⟩ | ⟨h212, rfl⟩⟩
          · skip
            refine R_ifne (pc := 46) 52 dX9_set_46 (by decide) (fun _ => ?_) (fun h => absurd h (by decide))
            refine R_iload_n (pc := 52) dX9_set_52 rfl rfl ?_
            refine R_ifne (pc := 53) 63 dX9_set_53 (by decide) (fun b53_214 => ?_) (fun b53_214 => ?_)
            · skip
              refine R_iload_n (pc := 63) dX9_set_63 rfl rfl ?_
              refine R_iconst (pc := 64) (v := 1) dX9_set_64 (by decide) ?_
              refine R_icne (pc := 65) 75 dX9_set_65 (by decide) (fun b65_215 => ?_) (fun b65_215 => ?_)
              · skip
                refine R_aload_n (pc := 75) dX9_set_75 rfl rfl ?_
                refine g_X9_48 (pc := 76) (v := .int (σ.1 14014)) rfl dX9_set_76 (c_140 _) rfl ?_
                refine st_4_3_i_i (pc := 79) dX9_set_79 ?_
                refine R_aload_n (pc := 80) dX9_set_80 rfl rfl ?_
                refine R_iload_n (pc := 81) dX9_set_81 rfl rfl ?_
                refine R_ifne (pc := 82) 89 dX9_set_82 (by decide) (fun b82_216 => ?_) (fun b82_216 => ?_)
                · skip
                  refine R_aload_n (pc := 89) dX9_set_89 rfl rfl ?_
                  refine g_X9_41 (pc := 90) (v := .int (σ.1 14012)) rfl dX9_set_90 (c_140 _) rfl ?_
                  refine p_X9_41 (pc := 93) rfl dX9_set_93 (c_140 _) (Nat.le_of_ble_eq_true rfl) rfl rfl (s_140_12 _ _) ?_
                  have hW217 := cor_ci 14012 (σ.1 14012) (Cor.rfl' σ)
                  refine R_aload_n (pc := 96) dX9_set_96 rfl rfl ?_
                  refine R_iload_n (pc := 97) dX9_set_97 rfl rfl ?_
                  refine R_iconst (pc := 98) (v := 1) dX9_set_98 (by decide) ?_
                  refine R_icne (pc := 99) 106 dX9_set_99 (by decide) (fun b99_218 => ?_) (fun b99_218 => ?_)
                  · skip
                    refine R_aload_n (pc := 106) dX9_set_106 rfl rfl ?_
                    refine g_X9_45 (pc := 107) (v := .int (σ.1 14013)) rfl dX9_set_107 (c_140 _) rfl ?_
                    refine p_X9_45 (pc := 110) rfl dX9_set_110 (c_140 _) (Nat.le_of_ble_eq_true rfl) rfl rfl (s_140_13 _ _) ?_
                    have hW219 := cor_ci 14013 (σ.1 14013) hW217
                    refine R_aload_n (pc := 113) dX9_set_113 rfl rfl ?_
                    refine R_iload_n (pc := 114) dX9_set_114 rfl rfl ?_
                    refine R_iconst (pc := 115) (v := 2) dX9_set_115 (by decide) ?_
                    refine R_icne (pc := 116) 123 dX9_set_116 (by decide) (fun b116_220 => ?_) (fun b116_220 => ?_)
                    · skip
                      refine R_aload_n (pc := 123) dX9_set_123 rfl rfl ?_
                      refine g_X9_48 (pc := 124) (v := .int (σ.1 14014)) rfl dX9_set_124 (c_140 _) rfl ?_
                      refine p_X9_48 (pc := 127) rfl dX9_set_127 (c_140 _) (Nat.le_of_ble_eq_true rfl) rfl rfl (s_140_14 _ _) ?_
                      have hW221 := cor_ci 14014 (σ.1 14014) hW219
                      refine R_iload_n (pc := 130) dX9_set_130 rfl rfl ?_
                      exact R_iret (pc := 131) dX9_set_131 rfl rfl (Nat.zero_le _) (Nat.zero_le _) ⟨_, rfl, _, rfl, hI⟩
                    · skip
                      refine R_iload_n (pc := 119) dX9_set_119 rfl rfl ?_
                      refine R_goto (pc := 120) 127 dX9_set_120 (by decide) ?_
                      refine p_X9_48 (pc := 127) rfl dX9_set_127 (c_140 _) (Nat.le_of_ble_eq_true rfl) rfl rfl (s_140_14 _ _) ?_
                      have hW222 := cor_ci 14014 b hW219
                      refine R_iload_n (pc := 130) dX9_set_130 rfl rfl ?_
                      exact R_iret (pc := 131) dX9_set_131 rfl rfl (Nat.zero_le _) (Nat.zero_le _) ⟨_, rfl, _, rfl, hI⟩
                  · skip
                    refine R_iload_n (pc := 102) dX9_set_102 rfl rfl ?_
                    refine R_goto (pc := 103) 110 dX9_set_103 (by decide) ?_
                    refine p_X9_45 (pc := 110) rfl dX9_set_110 (c_140 _) (Nat.le_of_ble_eq_true rfl) rfl rfl (s_140_13 _ _) ?_
                    have hW223 := cor_ci 14013 b hW217
                    refine R_aload_n (pc := 113) dX9_set_113 rfl rfl ?_
                    refine R_iload_n (pc := 114) dX9_set_114 rfl rfl ?_
                    refine R_iconst (pc := 115) (v := 2) dX9_set_115 (by decide) ?_
                    refine R_icne (pc := 116) 123 dX9_set_116 (by decide) (fun b116_224 => ?_) (fun b116_224 => ?_)
                    · skip
                      refine R_aload_n (pc := 123) dX9_set_123 rfl rfl ?_
                      refine g_X9_48 (pc := 124) (v := .int (σ.1 14014)) rfl dX9_set_124 (c_140 _) rfl ?_
                      refine p_X9_48 (pc := 127) rfl dX9_set_127 (c_140 _) (Nat.le_of_ble_eq_true rfl) rfl rfl (s_140_14 _ _) ?_
                      have hW225 := cor_ci 14014 (σ.1 14014) hW223
                      refine R_iload_n (pc := 130) dX9_set_130 rfl rfl ?_
                      exact R_iret (pc := 131) dX9_set_131 rfl rfl (Nat.zero_le _) (Nat.zero_le _) ⟨_, rfl, _, rfl, hI⟩
                    · skip
                      refine R_iload_n (pc := 119) dX9_set_119 rfl rfl ?_
                      refine R_goto (pc := 120) 127 dX9_set_120 (by decide) ?_
                      refine p_X9_48 (pc := 127) rfl dX9_set_127 (c_140 _) (Nat.le_of_ble_eq_true rfl) rfl rfl (s_140_14 _ _) ?_
                      have hW226 := cor_ci 14014 b hW223
                      refine R_iload_n (pc := 130) dX9_set_130 rfl rfl ?_
                      exact R_iret (pc := 131) dX9_set_131 rfl rfl (Nat.zero_le _) (Nat.zero_le _) ⟨_, rfl, _, rfl, hI⟩
                · skip
                  refine R_iload_n (pc := 85) dX9_set_85 rfl rfl ?_
                  refine R_goto (pc := 86) 93 dX9_set_86 (by decide) ?_
                  refine p_X9_41 (pc := 93) rfl dX9_set_93 (c_140 _) (Nat.le_of_ble_eq_true rfl) rfl rfl (s_140_12 _ _) ?_
                  have hW227 := cor_ci 14012 b (Cor.rfl' σ)
                  refine R_aload_n (pc := 96) dX9_set_96 rfl rfl ?_
                  refine R_iload_n (pc := 97) dX9_set_97 rfl rfl ?_
                  refine R_iconst (pc := 98) (v := 1) dX9_set_98 (by decide) ?_
                  refine R_icne (pc := 99) 106 dX9_set_99 (by decide) (fun b99_228 => ?_) (fun b99_228 => ?_)
                  · skip
                    refine R_aload_n (pc := 106) dX9_set_106 rfl rfl ?_
                    refine g_X9_45 (pc := 107) (v := .int (σ.1 14013)) rfl dX9_set_107 (c_140 _) rfl ?_
                    refine p_X9_45 (pc := 110) rfl dX9_set_110 (c_140 _) (Nat.le_of_ble_eq_true rfl) rfl rfl (s_140_13 _ _) ?_
                    have hW229 := cor_ci 14013 (σ.1 14013) hW227
                    refine R_aload_n (pc := 113) dX9_set_113 rfl rfl ?_
                    refine R_iload_n (pc := 114) dX9_set_114 rfl rfl ?_
                    refine R_iconst (pc := 115) (v := 2) dX9_set_115 (by decide) ?_
                    refine R_icne (pc := 116) 123 dX9_set_116 (by decide) (fun b116_230 => ?_) (fun b116_230 => ?_)
                    · skip
                      refine R_aload_n (pc := 123) dX9_set_123 rfl rfl ?_
                      refine g_X9_48 (pc := 124) (v := .int (σ.1 14014)) rfl dX9_set_124 (c_140 _) rfl ?_
                      refine p_X9_48 (pc := 127) rfl dX9_set_127 (c_140 _) (Nat.le_of_ble_eq_true rfl) rfl rfl (s_140_14 _ _) ?_
                      have hW231 := cor_ci 14014 (σ.1 14014) hW229
                      refine R_iload_n (pc := 130) dX9_set_130 rfl rfl ?_
                      exact R_iret (pc := 131) dX9_set_131 rfl rfl (Nat.zero_le _) (Nat.zero_le _) ⟨_, rfl, _, rfl, hI⟩
                    · skip
                      refine R_iload_n (pc := 119) dX9_set_119 rfl rfl ?_
                      refine R_goto (pc := 120) 127 dX9_set_120 (by decide) ?_
                      refine p_X9_48 (pc := 127) rfl dX9_set_127 (c_140 _) (Nat.le_of_ble_eq_true rfl) rfl rfl (s_140_14 _ _) ?_
                      have hW232 := cor_ci 14014 b hW229
                      refine R_iload_n (pc := 130) dX9_set_130 rfl rfl ?_
                      exact R_iret (pc := 131) dX9_set_131 rfl rfl (Nat.zero_le _) (Nat.zero_le _) ⟨_, rfl, _, rfl, hI⟩
                  · skip
                    refine R_iload_n (pc := 102) dX9_set_102 rfl rfl ?_
                    refine R_goto (pc := 103) 110 dX9_set_103 (by decide) ?_
                    refine p_X9_45 (pc := 110) rfl dX9_set_110 (c_140 _) (Nat.le_of_ble_eq_true rfl) rfl rfl (s_140_13 _ _) ?_
                    have hW233 := cor_ci 14013 b hW227
                    refine R_aload_n (pc := 113) dX9_set_113 rfl rfl ?_
                    refine R_iload_n (pc := 114) dX9_set_114 rfl rfl ?_
                    refine R_iconst (pc := 115) (v := 2) dX9_set_115 (by decide) ?_
                    refine R_icne (pc := 116) 123 dX9_set_116 (by decide) (fun b116_234 => ?_) (fun b116_234 => ?_)
                    · skip
                      refine R_aload_n (pc := 123) dX9_set_123 rfl rfl ?_
                      refine g_X9_48 (pc := 124) (v := .int (σ.1 14014)) rfl dX9_set_124 (c_140 _) rfl ?_
                      refine p_X9_48 (pc := 127) rfl dX9_set_127 (c_140 _) (Nat.le_of_ble_eq_true rfl) rfl rfl (s_140_14 _ _) ?_
                      have hW235 := cor_ci 14014 (σ.1 14014) hW233
                      refine R_iload_n (pc := 130) dX9_set_130 rfl rfl ?_
                      exact R_iret (pc := 131) dX9_set_131 rfl rfl (Nat.zero_le _) (Nat.zero_le _) ⟨_, rfl, _, rfl, hI⟩
                    · skip
                      refine R_iload_n (pc := 119) dX9_set_119 rfl rfl ?_
                      refine R_goto (pc := 120) 127 dX9_set_120 (by decide) ?_
                      refine p_X9_48 (pc := 127) rfl dX9_set_127 (c_140 _) (Nat.le_of_ble_eq_true rfl) rfl rfl (s_140_14 _ _) ?_
                      have hW236 := cor_ci 14014 b hW233
                      refine R_iload_n (pc := 130) dX9_set_130 rfl rfl ?_
                      exact R_iret (pc := 131) dX9_set_131 rfl rfl (Nat.zero_le _) (Nat.zero_le _) ⟨_, rfl, _, rfl, hI⟩
              · skip
                refine R_aload_n (pc := 68) dX9_set_68 rfl rfl ?_
                refine g_X9_45 (pc := 69) (v := .int (σ.1 14013)) rfl dX9_set_69 (c_140 _) rfl ?_
                refine R_goto (pc := 72) 79 dX9_set_72 (by decide) ?_
                refine st_4_3_i_i (pc := 79) dX9_set_79 ?_
                refine R_aload_n (pc := 80) dX9_set_80 rfl rfl ?_
                refine R_iload_n (pc := 81) dX9_set_81 rfl rfl ?_
                refine R_ifne (pc := 82) 89 dX9_set_82 (by decide) (fun b82_237 => ?_) (fun b82_237 => ?_)
                · skip
                  refine R_aload_n (pc := 89) dX9_set_89 rfl rfl ?_
                  refine g_X9_41 (pc := 90) (v := .int (σ.1 14012)) rfl dX9_set_90 (c_140 _) rfl ?_
                  refine p_X9_41 (pc := 93) rfl dX9_set_93 (c_140 _) (Nat.le_of_ble_eq_true rfl) rfl rfl (s_140_12 _ _) ?_
                  have hW238 := cor_ci 14012 (σ.1 14012) (Cor.rfl' σ)
                  refine R_aload_n (pc := 96) dX9_set_96 rfl rfl ?_
                  refine R_iload_n (pc := 97) dX9_set_97 rfl rfl ?_
                  refine R_iconst (pc := 98) (v := 1) dX9_set_98 (by decide) ?_
                  refine R_icne (pc := 99) 106 dX9_set_99 (by decide) (fun b99_239 => ?_) (fun b99_239 => ?_)
                  · skip
                    refine R_aload_n (pc := 106) dX9_set_106 rfl rfl ?_
                    refine g_X9_45 (pc := 107) (v := .int (σ.1 14013)) rfl dX9_set_107 (c_140 _) rfl ?_
                    refine p_X9_45 (pc := 110) rfl dX9_set_110 (c_140 _) (Nat.le_of_ble_eq_true rfl) rfl rfl (s_140_13 _ _) ?_
                    have hW240 := cor_ci 14013 (σ.1 14013) hW238
                    refine R_aload_n (pc := 113) dX9_set_113 rfl rfl ?_
                    refine R_iload_n (pc := 114) dX9_set_114 rfl rfl ?_
                    refine R_iconst (pc := 115) (v := 2) dX9_set_115 (by decide) ?_
                    refine R_icne (pc := 116) 123 dX9_set_116 (by decide) (fun b116_241 => ?_) (fun b116_241 => ?_)
                    · skip
                      refine R_aload_n (pc := 123) dX9_set_123 rfl rfl ?_
                      refine g_X9_48 (pc := 124) (v := .int (σ.1 14014)) rfl dX9_set_124 (c_140 _) rfl ?_
                      refine p_X9_48 (pc := 127) rfl dX9_set_127 (c_140 _) (Nat.le_of_ble_eq_true rfl) rfl rfl (s_140_14 _ _) ?_
                      have hW242 := cor_ci 14014 (σ.1 14014) hW240
                      refine R_iload_n (pc := 130) dX9_set_130 rfl rfl ?_
                      exact R_iret (pc := 131) dX9_set_131 rfl rfl (Nat.zero_le _) (Nat.zero_le _) ⟨_, rfl, _, rfl, hI⟩
                    · skip
                      refine R_iload_n (pc := 119) dX9_set_119 rfl rfl ?_
                      refine R_goto (pc := 120) 127 dX9_set_120 (by decide) ?_
                      refine p_X9_48 (pc := 127) rfl dX9_set_127 (c_140 _) (Nat.le_of_ble_eq_true rfl) rfl rfl (s_140_14 _ _) ?_
                      have hW243 := cor_ci 14014 b hW240
                      refine R_iload_n (pc := 130) dX9_set_130 rfl rfl ?_
                      exact R_iret (pc := 131) dX9_set_131 rfl rfl (Nat.zero_le _) (Nat.zero_le _) ⟨_, rfl, _, rfl, hI⟩
                  · skip
                    refine R_iload_n (pc := 102) dX9_set_102 rfl rfl ?_
                    refine R_goto (pc := 103) 110 dX9_set_103 (by decide) ?_
                    refine p_X9_45 (pc := 110) rfl dX9_set_110 (c_140 _) (Nat.le_of_ble_eq_true rfl) rfl rfl (s_140_13 _ _) ?_
                    have hW244 := cor_ci 14013 b hW238
                    refine R_aload_n (pc := 113) dX9_set_113 rfl rfl ?_
                    refine R_iload_n (pc := 114) dX9_set_114 rfl rfl ?_
                    refine R_iconst (pc := 115) (v := 2) dX9_set_115 (by decide) ?_
                    refine R_icne (pc := 116) 123 dX9_set_116 (by decide) (fun b116_245 => ?_) (fun b116_245 => ?_)
                    · skip
                      refine R_aload_n (pc := 123) dX9_set_123 rfl rfl ?_
                      refine g_X9_48 (pc := 124) (v := .int (σ.1 14014)) rfl dX9_set_124 (c_140 _) rfl ?_
                      refine p_X9_48 (pc := 127) rfl dX9_set_127 (c_140 _) (Nat.le_of_ble_eq_true rfl) rfl rfl (s_140_14 _ _) ?_
                      have hW246 := cor_ci 14014 (σ.1 14014) hW244
                      refine R_iload_n (pc := 130) dX9_set_130 rfl rfl ?_
                      exact R_iret (pc := 131) dX9_set_131 rfl rfl (Nat.zero_le _) (Nat.zero_le _) ⟨_, rfl, _, rfl, hI⟩
                    · skip
                      refine R_iload_n (pc := 119) dX9_set_119 rfl rfl ?_
                      refine R_goto (pc := 120) 127 dX9_set_120 (by decide) ?_
                      refine p_X9_48 (pc := 127) rfl dX9_set_127 (c_140 _) (Nat.le_of_ble_eq_true rfl) rfl rfl (s_140_14 _ _) ?_
                      have hW247 := cor_ci 14014 b hW244
                      refine R_iload_n (pc := 130) dX9_set_130 rfl rfl ?_
                      exact R_iret (pc := 131) dX9_set_131 rfl rfl (Nat.zero_le _) (Nat.zero_le _) ⟨_, rfl, _, rfl, hI⟩
                · skip
                  refine R_iload_n (pc := 85) dX9_set_85 rfl rfl ?_
                  refine R_goto (pc := 86) 93 dX9_set_86 (by decide) ?_
                  refine p_X9_41 (pc := 93) rfl dX9_set_93 (c_140 _) (Nat.le_of_ble_eq_true rfl) rfl rfl (s_140_12 _ _) ?_
                  have hW248 := cor_ci 14012 b (Cor.rfl' σ)
                  refine R_aload_n (pc := 96) dX9_set_96 rfl rfl ?_
                  refine R_iload_n (pc := 97) dX9_set_97 rfl rfl ?_
                  refine R_iconst (pc := 98) (v := 1) dX9_set_98 (by decide) ?_
                  refine R_icne (pc := 99) 106 dX9_set_99 (by decide) (fun b99_249 => ?_) (fun b99_249 => ?_)
                  · skip
                    refine R_aload_n (pc := 106) dX9_set_106 rfl rfl ?_
                    refine g_X9_45 (pc := 107) (v := .int (σ.1 14013)) rfl dX9_set_107 (c_140 _) rfl ?_
                    refine p_X9_45 (pc := 110) rfl dX9_set_110 (c_140 _) (Nat.le_of_ble_eq_true rfl) rfl rfl (s_140_13 _ _) ?_
                    have hW250 := cor_ci 14013 (σ.1 14013) hW248
                    refine R_aload_n (pc := 113) dX9_set_113 rfl rfl ?_
                    refine R_iload_n (pc := 114) dX9_set_114 rfl rfl ?_
                    refine R_iconst (pc := 115) (v := 2) dX9_set_115 (by decide) ?_
                    refine R_icne (pc := 116) 123 dX9_set_116 (by decide) (fun b116_251 => ?_) (fun b116_251 => ?_)
                    · skip
                      refine R_aload_n (pc := 123) dX9_set_123 rfl rfl ?_
                      refine g_X9_48 (pc := 124) (v := .int (σ.1 14014)) rfl dX9_set_124 (c_140 _) rfl ?_
                      refine p_X9_48 (pc := 127) rfl dX9_set_127 (c_140 _) (Nat.le_of_ble_eq_true rfl) rfl rfl (s_140_14 _ _) ?_
                      have hW252 := cor_ci 14014 (σ.1 14014) hW250
                      refine R_iload_n (pc := 130) dX9_set_130 rfl rfl ?_
                      exact R_iret (pc := 131) dX9_set_131 rfl rfl (Nat.zero_le _) (Nat.zero_le _) ⟨_, rfl, _, rfl, hI⟩
                    · skip
                      refine R_iload_n (pc := 119) dX9_set_119 rfl rfl ?_
                      refine R_goto (pc := 120) 127 dX9_set_120 (by decide) ?_
                      refine p_X9_48 (pc := 127) rfl dX9_set_127 (c_140 _) (Nat.le_of_ble_eq_true rfl) rfl rfl (s_140_14 _ _) ?_
                      have hW253 := cor_ci 14014 b hW250
                      refine R_iload_n (pc := 130) dX9_set_130 rfl rfl ?_
                      exact R_iret (pc := 131) dX9_set_131 rfl rfl (Nat.zero_le _) (Nat.zero_le _) ⟨_, rfl, _, rfl, hI⟩
                  · skip
                    refine R_iload_n (pc := 102) dX9_set_102 rfl rfl ?_
                    refine R_goto (pc := 103) 110 dX9_set_103 (by decide) ?_
                    refine p_X9_45 (pc := 110) rfl dX9_set_110 (c_140 _) (Nat.le_of_ble_eq_true rfl) rfl rfl (s_140_13 _ _) ?_
                    have hW254 := cor_ci 14013 b hW248
                    refine R_aload_n (pc := 113) dX9_set_113 rfl rfl ?_
                    refine R_iload_n (pc := 114) dX9_set_114 rfl rfl ?_
                    refine R_iconst (pc := 115) (v := 2) dX9_set_115 (by decide) ?_
                    refine R_icne (pc := 116) 123 dX9_set_116 (by decide) (fun b116_255 => ?_) (fun b116_255 => ?_)
                    · skip
                      refine R_aload_n (pc := 123) dX9_set_123 rfl rfl ?_
                      refine g_X9_48 (pc := 124) (v := .int (σ.1 14014)) rfl dX9_set_124 (c_140 _) rfl ?_
                      refine p_X9_48 (pc := 127) rfl dX9_set_127 (c_140 _) (Nat.le_of_ble_eq_true rfl) rfl rfl (s_140_14 _ _) ?_
                      have hW256 := cor_ci 14014 (σ.1 14014) hW254
                      refine R_iload_n (pc := 130) dX9_set_130 rfl rfl ?_
                      exact R_iret (pc := 131) dX9_set_131 rfl rfl (Nat.zero_le _) (Nat.zero_le _) ⟨_, rfl, _, rfl, hI⟩
                    · skip
                      refine R_iload_n (pc := 119) dX9_set_119 rfl rfl ?_
                      refine R_goto (pc := 120) 127 dX9_set_120 (by decide) ?_
                      refine p_X9_48 (pc := 127) rfl dX9_set_127 (c_140 _) (Nat.le_of_ble_eq_true rfl) rfl rfl (s_140_14 _ _) ?_
                      have hW257 := cor_ci 14014 b hW254
                      refine R_iload_n (pc := 130) dX9_set_130 rfl rfl ?_
                      exact R_iret (pc := 131) dX9_set_131 rfl rfl (Nat.zero_le _) (Nat.zero_le _) ⟨_, rfl, _, rfl, hI⟩
            · skip
              refine R_aload_n (pc := 56) dX9_set_56 rfl rfl ?_
              refine g_X9_41 (pc := 57) (v := .int (σ.1 14012)) rfl dX9_set_57 (c_140 _) rfl ?_
              refine R_goto (pc := 60) 79 dX9_set_60 (by decide) ?_
              refine st_4_3_i_i (pc := 79) dX9_set_79 ?_
              refine R_aload_n (pc := 80) dX9_set_80 rfl rfl ?_
              refine R_iload_n (pc := 81) dX9_set_81 rfl rfl ?_
              refine R_ifne (pc := 82) 89 dX9_set_82 (by decide) (fun b82_258 => ?_) (fun b82_258 => ?_)
              · skip
                refine R_aload_n (pc := 89) dX9_set_89 rfl rfl ?_
                refine g_X9_41 (pc := 90) (v := .int (σ.1 14012)) rfl dX9_set_90 (c_140 _) rfl ?_
                refine p_X9_41 (pc := 93) rfl dX9_set_93 (c_140 _) (Nat.le_of_ble_eq_true rfl) rfl rfl (s_140_12 _ _) ?_
                have hW259 := cor_ci 14012 (σ.1 14012) (Cor.rfl' σ)
                refine R_aload_n (pc := 96) dX9_set_96 rfl rfl ?_
                refine R_iload_n (pc := 97) dX9_set_97 rfl rfl ?_
                refine R_iconst (pc := 98) (v := 1) dX9_set_98 (by decide) ?_
                refine R_icne (pc := 99) 106 dX9_set_99 (by decide) (fun b99_260 => ?_) (fun b99_260 => ?_)
                · skip
                  refine R_aload_n (pc := 106) dX9_set_106 rfl rfl ?_
                  refine g_X9_45 (pc := 107) (v := .int (σ.1 14013)) rfl dX9_set_107 (c_140 _) rfl ?_
                  refine p_X9_45 (pc := 110) rfl dX9_set_110 (c_140 _) (Nat.le_of_ble_eq_true rfl) rfl rfl (s_140_13 _ _) ?_
                  have hW261 := cor_ci 14013 (σ.1 14013) hW259
                  refine R_aload_n (pc := 113) dX9_set_113 rfl rfl ?_
                  refine R_iload_n (pc := 114) dX9_set_114 rfl rfl ?_
                  refine R_iconst (pc := 115) (v := 2) dX9_set_115 (by decide) ?_
                  refine R_icne (pc := 116) 123 dX9_set_116 (by decide) (fun b116_262 => ?_) (fun b116_262 => ?_)
                  · skip
                    refine R_aload_n (pc := 123) dX9_set_123 rfl rfl ?_
                    refine g_X9_48 (pc := 124) (v := .int (σ.1 14014)) rfl dX9_set_124 (c_140 _) rfl ?_
                    refine p_X9_48 (pc := 127) rfl dX9_set_127 (c_140 _) (Nat.le_of_ble_eq_true rfl) rfl rfl (s_140_14 _ _) ?_
                    have hW263 := cor_ci 14014 (σ.1 14014) hW261
                    refine R_iload_n (pc := 130) dX9_set_130 rfl rfl ?_
                    exact R_iret (pc := 131) dX9_set_131 rfl rfl (Nat.zero_le _) (Nat.zero_le _) ⟨_, rfl, _, rfl, hI⟩
                  · skip
                    refine R_iload_n (pc := 119) dX9_set_119 rfl rfl ?_
                    refine R_goto (pc := 120) 127 dX9_set_120 (by decide) ?_
                    refine p_X9_48 (pc := 127) rfl dX9_set_127 (c_140 _) (Nat.le_of_ble_eq_true rfl) rfl rfl (s_140_14 _ _) ?_
                    have hW264 := cor_ci 14014 b hW261
                    refine R_iload_n (pc := 130) dX9_set_130 rfl rfl ?_
                    exact R_iret (pc := 131) dX9_set_131 rfl rfl (Nat.zero_le _) (Nat.zero_le _) ⟨_, rfl, _, rfl, hI⟩
                · skip
                  refine R_iload_n (pc := 102) dX9_set_102 rfl rfl ?_
                  refine R_goto (pc := 103) 110 dX9_set_103 (by decide) ?_
                  refine p_X9_45 (pc := 110) rfl dX9_set_110 (c_140 _) (Nat.le_of_ble_eq_true rfl) rfl rfl (s_140_13 _ _) ?_
                  have hW265 := cor_ci 14013 b hW259
                  refine R_aload_n (pc := 113) dX9_set_113 rfl rfl ?_
                  refine R_iload_n (pc := 114) dX9_set_114 rfl rfl ?_
                  refine R_iconst (pc := 115) (v := 2) dX9_set_115 (by decide) ?_
                  refine R_icne (pc := 116) 123 dX9_set_116 (by decide) (fun b116_266 => ?_) (fun b116_266 => ?_)
                  · skip
                    refine R_aload_n (pc := 123) dX9_set_123 rfl rfl ?_
                    refine g_X9_48 (pc := 124) (v := .int (σ.1 14014)) rfl dX9_set_124 (c_140 _) rfl ?_
                    refine p_X9_48 (pc := 127) rfl dX9_set_127 (c_140 _) (Nat.le_of_ble_eq_true rfl) rfl rfl (s_140_14 _ _) ?_
                    have hW267 := cor_ci 14014 (σ.1 14014) hW265
                    refine R_iload_n (pc := 130) dX9_set_130 rfl rfl ?_
                    exact R_iret (pc := 131) dX9_set_131 rfl rfl (Nat.zero_le _) (Nat.zero_le _) ⟨_, rfl, _, rfl, hI⟩
                  · skip
                    refine R_iload_n (pc := 119) dX9_set_119 rfl rfl ?_
                    refine R_goto (pc := 120) 127 dX9_set_120 (by decide) ?_
                    refine p_X9_48 (pc := 127) rfl dX9_set_127 (c_140 _) (Nat.le_of_ble_eq_true rfl) rfl rfl (s_140_14 _ _) ?_
                    have hW268 := cor_ci 14014 b hW265
                    refine R_iload_n (pc := 130) dX9_set_130 rfl rfl ?_
                    exact R_iret (pc := 131) dX9_set_131 rfl rfl (Nat.zero_le _) (Nat.zero_le _) ⟨_, rfl, _, rfl, hI⟩
              · skip
                refine R_iload_n (pc := 85) dX9_set_85 rfl rfl ?_
                refine R_goto (pc := 86) 93 dX9_set_86 (by decide) ?_
                refine p_X9_41 (pc := 93) rfl dX9_set_93 (c_140 _) (Nat.le_of_ble_eq_true rfl) rfl rfl (s_140_12 _ _) ?_
                have hW269 := cor_ci 14012 b (Cor.rfl' σ)
                refine R_aload_n (pc := 96) dX9_set_96 rfl rfl ?_
                refine R_iload_n (pc := 97) dX9_set_97 rfl rfl ?_
                refine R_iconst (pc := 98) (v := 1) dX9_set_98 (by decide) ?_
                refine R_icne (pc := 99) 106 dX9_set_99 (by decide) (fun b99_270 => ?_) (fun b99_270 => ?_)
                · skip
                  refine R_aload_n (pc := 106) dX9_set_106 rfl rfl ?_
                  refine g_X9_45 (pc := 107) (v := .int (σ.1 14013)) rfl dX9_set_107 (c_140 _) rfl ?_
                  refine p_X9_45 (pc := 110) rfl dX9_set_110 (c_140 _) (Nat.le_of_ble_eq_true rfl) rfl rfl (s_140_13 _ _) ?_
                  have hW271 := cor_ci 14013 (σ.1 14013) hW269
                  refine R_aload_n (pc := 113) dX9_set_113 rfl rfl ?_
                  refine R_iload_n (pc := 114) dX9_set_114 rfl rfl ?_
                  refine R_iconst (pc := 115) (v := 2) dX9_set_115 (by decide) ?_
                  refine R_icne (pc := 116) 123 dX9_set_116 (by decide) (fun b116_272 => ?_) (fun b116_272 => ?_)
                  · skip
                    refine R_aload_n (pc := 123) dX9_set_123 rfl rfl ?_
                    refine g_X9_48 (pc := 124) (v := .int (σ.1 14014)) rfl dX9_set_124 (c_140 _) rfl ?_
                    refine p_X9_48 (pc := 127) rfl dX9_set_127 (c_140 _) (Nat.le_of_ble_eq_true rfl) rfl rfl (s_140_14 _ _) ?_
                    have hW273 := cor_ci 14014 (σ.1 14014) hW271
                    refine R_iload_n (pc := 130) dX9_set_130 rfl rfl ?_
                    exact R_iret (pc := 131) dX9_set_131 rfl rfl (Nat.zero_le _) (Nat.zero_le _) ⟨_, rfl, _, rfl, hI⟩
                  · skip
                    refine R_iload_n (pc := 119) dX9_set_119 rfl rfl ?_
                    refine R_goto (pc := 120) 127 dX9_set_120 (by decide) ?_
                    refine p_X9_48 (pc := 127) rfl dX9_set_127 (c_140 _) (Nat.le_of_ble_eq_true rfl) rfl rfl (s_140_14 _ _) ?_
                    have hW274 := cor_ci 14014 b hW271
                    refine R_iload_n (pc := 130) dX9_set_130 rfl rfl ?_
                    exact R_iret (pc := 131) dX9_set_131 rfl rfl (Nat.zero_le _) (Nat.zero_le _) ⟨_, rfl, _, rfl, hI⟩
                · skip
                  refine R_iload_n (pc := 102) dX9_set_102 rfl rfl ?_
                  refine R_goto (pc := 103) 110 dX9_set_103 (by decide) ?_
                  refine p_X9_45 (pc := 110) rfl dX9_set_110 (c_140 _) (Nat.le_of_ble_eq_true rfl) rfl rfl (s_140_13 _ _) ?_
                  have hW275 := cor_ci 14013 b hW269
                  refine R_aload_n (pc := 113) dX9_set_113 rfl rfl ?_
                  refine R_iload_n (pc := 114) dX9_set_114 rfl rfl ?_
                  refine R_iconst (pc := 115) (v := 2) dX9_set_115 (by decide) ?_
                  refine R_icne (pc := 116) 123 dX9_set_116 (by decide) (fun b116_276 => ?_) (fun b116_276 => ?_)
                  · skip
                    refine R_aload_n (pc := 123) dX9_set_123 rfl rfl ?_
                    refine g_X9_48 (pc := 124) (v := .int (σ.1 14014)) rfl dX9_set_124 (c_140 _) rfl ?_
                    refine p_X9_48 (pc := 127) rfl dX9_set_127 (c_140 _) (Nat.le_of_ble_eq_true rfl) rfl rfl (s_140_14 _ _) ?_
                    have hW277 := cor_ci 14014 (σ.1 14014) hW275
                    refine R_iload_n (pc := 130) dX9_set_130 rfl rfl ?_
                    exact R_iret (pc := 131) dX9_set_131 rfl rfl (Nat.zero_le _) (Nat.zero_le _) ⟨_, rfl, _, rfl, hI⟩
                  · skip
                    refine R_iload_n (pc := 119) dX9_set_119 rfl rfl ?_
                    refine R_goto (pc := 120) 127 dX9_set_120 (by decide) ?_
                    refine p_X9_48 (pc := 127) rfl dX9_set_127 (c_140 _) (Nat.le_of_ble_eq_true rfl) rfl rfl (s_140_14 _ _) ?_
                    have hW278 := cor_ci 14014 b hW275
                    refine R_iload_n (pc := 130) dX9_set_130 rfl rfl ?_
                    exact R_iret (pc := 131) dX9_set_131 rfl rfl (Nat.zero_le _) (Nat.zero_le _) ⟨_, rfl, _, rfl, hI⟩
          · skip
            refine R_ifne (pc := 46) 52 dX9_set_46 (by decide) (fun h => absurd (by decide) h) (fun _ => ?_)
            refine R_bipush (pc := 49) (v := (-3)) dX9_set_49 (by decide) ?_
            exact R_iret (pc := 51) dX9_set_51 rfl rfl (Nat.zero_le _) (Nat.zero_le _) ⟨_, rfl, _, rfl, hI⟩
        · skip
          refine R_sipush (pc := 34) (v := 999) dX9_set_34 (by decide) ?_
          refine R_goto (pc := 37) 43 dX9_set_37 (by decide) ?_
          refine k_X9_124 (pc := 43) (sp_X9_in _ _ _ _) rfl (by decide) (Nat.le_refl _) (Nat.le_refl _) (Nat.le_of_ble_eq_true rfl) dX9_set_43 (fun x w2 h => ?_)
          rcases h with ⟨rfl, ⟨h280, rfl⟩ | ⟨h280, rfl⟩⟩
          · skip
            refine R_ifne (pc := 46) 52 dX9_set_46 (by decide) (fun _ => ?_) (fun h => absurd h (by decide))
            refine R_iload_n (pc := 52) dX9_set_52 rfl rfl ?_
            refine R_ifne (pc := 53) 63 dX9_set_53 (by decide) (fun b53_282 => ?_) (fun b53_282 => ?_)
            · skip
              refine R_iload_n (pc := 63) dX9_set_63 rfl rfl ?_
              refine R_iconst (pc := 64) (v := 1) dX9_set_64 (by decide) ?_
              refine R_icne (pc := 65) 75 dX9_set_65 (by decide) (fun b65_283 => ?_) (fun b65_283 => ?_)
              · skip
                refine R_aload_n (pc := 75) dX9_set_75 rfl rfl ?_
                refine g_X9_48 (pc := 76) (v := .int (σ.1 14014)) rfl dX9_set_76 (c_140 _) rfl ?_
                refine st_4_3_i_i (pc := 79) dX9_set_79 ?_
                refine R_aload_n (pc := 80) dX9_set_80 rfl rfl ?_
                refine R_iload_n (pc := 81) dX9_set_81 rfl rfl ?_
                refine R_ifne (pc := 82) 89 dX9_set_82 (by decide) (fun b82_284 => ?_) (fun b82_284 => ?_)
                · skip
                  refine R_aload_n (pc := 89) dX9_set_89 rfl rfl ?_
                  refine g_X9_41 (pc := 90) (v := .int (σ.1 14012)) rfl dX9_set_90 (c_140 _) rfl ?_
                  refine p_X9_41 (pc := 93) rfl dX9_set_93 (c_140 _) (Nat.le_of_ble_eq_true rfl) rfl rfl (s_140_12 _ _) ?_
                  have hW285 := cor_ci 14012 (σ.1 14012) (Cor.rfl' σ)
                  refine R_aload_n (pc := 96) dX9_set_96 rfl rfl ?_
                  refine R_iload_n (pc := 97) dX9_set_97 rfl rfl ?_
                  refine R_iconst (pc := 98) (v := 1) dX9_set_98 (by decide) ?_
                  refine R_icne (pc := 99) 106 dX9_set_99 (by decide) (fun b99_286 => ?_) (fun b99_286 => ?_)
                  · skip
                    refine R_aload_n (pc := 106) dX9_set_106 rfl rfl ?_
                    refine g_X9_45 (pc := 107) (v := .int (σ.1 14013)) rfl dX9_set_107 (c_140 _) rfl ?_
                    refine p_X9_45 (pc := 110) rfl dX9_set_110 (c_140 _) (Nat.le_of_ble_eq_true rfl) rfl rfl (s_140_13 _ _) ?_
                    have hW287 := cor_ci 14013 (σ.1 14013) hW285
                    refine R_aload_n (pc := 113) dX9_set_113 rfl rfl ?_
                    refine R_iload_n (pc := 114) dX9_set_114 rfl rfl ?_
                    refine R_iconst (pc := 115) (v := 2) dX9_set_115 (by decide) ?_
                    refine R_icne (pc := 116) 123 dX9_set_116 (by decide) (fun b116_288 => ?_) (fun b116_288 => ?_)
                    · skip
                      refine R_aload_n (pc := 123) dX9_set_123 rfl rfl ?_
                      refine g_X9_48 (pc := 124) (v := .int (σ.1 14014)) rfl dX9_set_124 (c_140 _) rfl ?_
                      refine p_X9_48 (pc := 127) rfl dX9_set_127 (c_140 _) (Nat.le_of_ble_eq_true rfl) rfl rfl (s_140_14 _ _) ?_
                      have hW289 := cor_ci 14014 (σ.1 14014) hW287
                      refine R_iload_n (pc := 130) dX9_set_130 rfl rfl ?_
                      exact R_iret (pc := 131) dX9_set_131 rfl rfl (Nat.zero_le _) (Nat.zero_le _) ⟨_, rfl, _, rfl, hI⟩
                    · skip
                      refine R_iload_n (pc := 119) dX9_set_119 rfl rfl ?_
                      refine R_goto (pc := 120) 127 dX9_set_120 (by decide) ?_
                      refine p_X9_48 (pc := 127) rfl dX9_set_127 (c_140 _) (Nat.le_of_ble_eq_true rfl) rfl rfl (s_140_14 _ _) ?_
                      have hW290 := cor_ci 14014 b hW287
                      refine R_iload_n (pc := 130) dX9_set_130 rfl rfl ?_
                      exact R_iret (pc := 131) dX9_set_131 rfl rfl (Nat.zero_le _) (Nat.zero_le _) ⟨_, rfl, _, rfl, hI⟩
                  · skip
                    refine R_iload_n (pc := 102) dX9_set_102 rfl rfl ?_
                    refine R_goto (pc := 103) 110 dX9_set_103 (by decide) ?_
                    refine p_X9_45 (pc := 110) rfl dX9_set_110 (c_140 _) (Nat.le_of_ble_eq_true rfl) rfl rfl (s_140_13 _ _) ?_
                    have hW291 := cor_ci 14013 b hW285
                    refine R_aload_n (pc := 113) dX9_set_113 rfl rfl ?_
                    refine R_iload_n (pc := 114) dX9_set_114 rfl rfl ?_
                    refine R_iconst (pc := 115) (v := 2) dX9_set_115 (by decide) ?_
                    refine R_icne (pc := 116) 123 dX9_set_116 (by decide) (fun b116_292 => ?_) (fun b116_292 => ?_)
                    · skip
                      refine R_aload_n (pc := 123) dX9_set_123 rfl rfl ?_
                      refine g_X9_48 (pc := 124) (v := .int (σ.1 14014)) rfl dX9_set_124 (c_140 _) rfl ?_
                      refine p_X9_48 (pc := 127) rfl dX9_set_127 (c_140 _) (Nat.le_of_ble_eq_true rfl) rfl rfl (s_140_14 _ _) ?_
                      have hW293 := cor_ci 14014 (σ.1 14014) hW291
                      refine R_iload_n (pc := 130) dX9_set_130 rfl rfl ?_
                      exact R_iret (pc := 131) dX9_set_131 rfl rfl (Nat.zero_le _) (Nat.zero_le _) ⟨_, rfl, _, rfl, hI⟩
                    · skip
                      refine R_iload_n (pc := 119) dX9_set_119 rfl rfl ?_
                      refine R_goto (pc := 120) 127 dX9_set_120 (by decide) ?_
                      refine p_X9_48 (pc := 127) rfl dX9_set_127 (c_140 _) (Nat.le_of_ble_eq_true rfl) rfl rfl (s_140_14 _ _) ?_
                      have hW294 := cor_ci 14014 b hW291
                      refine R_iload_n (pc := 130) dX9_set_130 rfl rfl ?_
                      exact R_iret (pc := 131) dX9_set_131 rfl rfl (Nat.zero_le _) (Nat.zero_le _) ⟨_, rfl, _, rfl, hI⟩
                · skip
                  refine R_iload_n (pc := 85) dX9_set_85 rfl rfl ?_
                  refine R_goto (pc := 86) 93 dX9_set_86 (by decide) ?_
                  refine p_X9_41 (pc := 93) rfl dX9_set_93 (c_140 _) (Nat.le_of_ble_eq_true rfl) rfl rfl (s_140_12 _ _) ?_
                  have hW295 := cor_ci 14012 b (Cor.rfl' σ)
                  refine R_aload_n (pc := 96) dX9_set_96 rfl rfl ?_
                  refine R_iload_n (pc := 97) dX9_set_97 rfl rfl ?_
                  refine R_iconst (pc := 98) (v := 1) dX9_set_98 (by decide) ?_
                  refine R_icne (pc := 99) 106 dX9_set_99 (by decide) (fun b99_296 => ?_) (fun b99_296 => ?_)
                  · skip
                    refine R_aload_n (pc := 106) dX9_set_106 rfl rfl ?_
                    refine g_X9_45 (pc := 107) (v := .int (σ.1 14013)) rfl dX9_set_107 (c_140 _) rfl ?_
                    refine p_X9_45 (pc := 110) rfl dX9_set_110 (c_140 _) (Nat.le_of_ble_eq_true rfl) rfl rfl (s_140_13 _ _) ?_
                    have hW297 := cor_ci 14013 (σ.1 14013) hW295
                    refine R_aload_n (pc := 113) dX9_set_113 rfl rfl ?_
                    refine R_iload_n (pc := 114) dX9_set_114 rfl rfl ?_
                    refine R_iconst (pc := 115) (v := 2) dX9_set_115 (by decide) ?_
                    refine R_icne (pc := 116) 123 dX9_set_116 (by decide) (fun b116_298 => ?_) (fun b116_298 => ?_)
                    · skip
                      refine R_aload_n (pc := 123) dX9_set_123 rfl rfl ?_
                      refine g_X9_48 (pc := 124) (v := .int (σ.1 14014)) rfl dX9_set_124 (c_140 _) rfl ?_
                      refine p_X9_48 (pc := 127) rfl dX9_set_127 (c_140 _) (Nat.le_of_ble_eq_true rfl) rfl rfl (s_140_14 _ _) ?_
                      have hW299 := cor_ci 14014 (σ.1 14014) hW297
                      refine R_iload_n (pc := 130) dX9_set_130 rfl rfl ?_
                      exact R_iret (pc := 131) dX9_set_131 rfl rfl (Nat.zero_le _) (Nat.zero_le _) ⟨_, rfl, _, rfl, hI⟩
                    · skip
                      refine R_iload_n (pc := 119) dX9_set_119 rfl rfl ?_
                      refine R_goto (pc := 120) 127 dX9_set_120 (by decide) ?_
                      refine p_X9_48 (pc := 127) rfl dX9_set_127 (c_140 _) (Nat.le_of_ble_eq_true rfl) rfl rfl (s_140_14 _ _) ?_
                      have hW300 := cor_ci 14014 b hW297
                      refine R_iload_n (pc := 130) dX9_set_130 rfl rfl ?_
                      exact R_iret (pc := 131) dX9_set_131 rfl rfl (Nat.zero_le _) (Nat.zero_le _) ⟨_, rfl, _, rfl, hI⟩
                  · skip
                    refine R_iload_n (pc := 102) dX9_set_102 rfl rfl ?_
                    refine R_goto (pc := 103) 110 dX9_set_103 (by decide) ?_
                    refine p_X9_45 (pc := 110) rfl dX9_set_110 (c_140 _) (Nat.le_of_ble_eq_true rfl) rfl rfl (s_140_13 _ _) ?_
                    have hW301 := cor_ci 14013 b hW295
                    refine R_aload_n (pc := 113) dX9_set_113 rfl rfl ?_
                    refine R_iload_n (pc := 114) dX9_set_114 rfl rfl ?_
                    refine R_iconst (pc := 115) (v := 2) dX9_set_115 (by decide) ?_
                    refine R_icne (pc := 116) 123 dX9_set_116 (by decide) (fun b116_302 => ?_) (fun b116_302 => ?_)
                    · skip
                      refine R_aload_n (pc := 123) dX9_set_123 rfl rfl ?_
                      refine g_X9_48 (pc := 124) (v := .int (σ.1 14014)) rfl dX9_set_124 (c_140 _) rfl ?_
                      refine p_X9_48 (pc := 127) rfl dX9_set_127 (c_140 _) (Nat.le_of_ble_eq_true rfl) rfl rfl (s_140_14 _ _) ?_
                      have hW303 := cor_ci 14014 (σ.1 14014) hW301
                      refine R_iload_n (pc := 130) dX9_set_130 rfl rfl ?_
                      exact R_iret (pc := 131) dX9_set_131 rfl rfl (Nat.zero_le _) (Nat.zero_le _) ⟨_, rfl, _, rfl, hI⟩
                    · skip
                      refine R_iload_n (pc := 119) dX9_set_119 rfl rfl ?_
                      refine R_goto (pc := 120) 127 dX9_set_120 (by decide) ?_
                      refine p_X9_48 (pc := 127) rfl dX9_set_127 (c_140 _) (Nat.le_of_ble_eq_true rfl) rfl rfl (s_140_14 _ _) ?_
                      have hW304 := cor_ci 14014 b hW301
                      refine R_iload_n (pc := 130) dX9_set_130 rfl rfl ?_
                      exact R_iret (pc := 131) dX9_set_131 rfl rfl (Nat.zero_le _) (Nat.zero_le _) ⟨_, rfl, _, rfl, hI⟩
              · skip
                refine R_aload_n (pc := 68) dX9_set_68 rfl rfl ?_
                refine g_X9_45 (pc := 69) (v := .int (σ.1 14013)) rfl dX9_set_69 (c_140 _) rfl ?_
                refine R_goto (pc := 72) 79 dX9_set_72 (by decide) ?_
                refine st_4_3_i_i (pc := 79) dX9_set_79 ?_
                refine R_aload_n (pc := 80) dX9_set_80 rfl rfl ?_
                refine R_iload_n (pc := 81) dX9_set_81 rfl rfl ?_
                refine R_ifne (pc := 82) 89 dX9_set_82 (by decide) (fun b82_305 => ?_) (fun b82_305 => ?_)
                · skip
                  refine R_aload_n (pc := 89) dX9_set_89 rfl rfl ?_
                  refine g_X9_41 (pc := 90) (v := .int (σ.1 14012)) rfl dX9_set_90 (c_140 _) rfl ?_
                  refine p_X9_41 (pc := 93) rfl dX9_set_93 (c_140 _) (Nat.le_of_ble_eq_true rfl) rfl rfl (s_140_12 _ _) ?_
                  have hW306 := cor_ci 14012 (σ.1 14012) (Cor.rfl' σ)
                  refine R_aload_n (pc := 96) dX9_set_96 rfl rfl ?_
                  refine R_iload_n (pc := 97) dX9_set_97 rfl rfl ?_
                  refine R_iconst (pc := 98) (v := 1) dX9_set_98 (by decide) ?_
                  refine R_icne (pc := 99) 106 dX9_set_99 (by decide) (fun b99_307 => ?_) (fun b99_307 => ?_)
                  · skip
                    refine R_aload_n (pc := 106) dX9_set_106 rfl rfl ?_
                    refine g_X9_45 (pc := 107) (v := .int (σ.1 14013)) rfl dX9_set_107 (c_140 _) rfl ?_
                    refine p_X9_45 (pc := 110) rfl dX9_set_110 (c_140 _) (Nat.le_of_ble_eq_true rfl) rfl rfl (s_140_13 _ _) ?_
                    have hW308 := cor_ci 14013 (σ.1 14013) hW306
                    refine R_aload_n (pc := 113) dX9_set_113 rfl rfl ?_
                    refine R_iload_n (pc := 114) dX9_set_114 rfl rfl ?_
                    refine R_iconst (pc := 115) (v := 2) dX9_set_115 (by decide) ?_
                    refine R_icne (pc := 116) 123 dX9_set_116 (by decide) (fun b116_309 => ?_) (fun b116_309 => ?_)
                    · skip
                      refine R_aload_n (pc := 123) dX9_set_123 rfl rfl ?_
                      refine g_X9_48 (pc := 124) (v := .int (σ.1 14014)) rfl dX9_set_124 (c_140 _) rfl ?_
                      refine p_X9_48 (pc := 127) rfl dX9_set_127 (c_140 _) (Nat.le_of_ble_eq_true rfl) rfl rfl (s_140_14 _ _) ?_
                      have hW310 := cor_ci 14014 (σ.1 14014) hW308
                      refine R_iload_n (pc := 130) dX9_set_130 rfl rfl ?_
                      exact R_iret (pc := 131) dX9_set_131 rfl rfl (Nat.zero_le _) (Nat.zero_le _) ⟨_, rfl, _, rfl, hI⟩
                    · skip
                      refine R_iload_n (pc := 119) dX9_set_119 rfl rfl ?_
                      refine R_goto (pc := 120) 127 dX9_set_120 (by decide) ?_
                      refine p_X9_48 (pc := 127) rfl dX9_set_127 (c_140 _) (Nat.le_of_ble_eq_true rfl) rfl rfl (s_140_14 _ _) ?_
                      have hW311 := cor_ci 14014 b hW308
                      refine R_iload_n (pc := 130) dX9_set_130 rfl rfl ?_
                      exact R_iret (pc := 131) dX9_set_131 rfl rfl (Nat.zero_le _) (Nat.zero_le _) ⟨_, rfl, _, rfl, hI⟩
                  · skip
                    refine R_iload_n (pc := 102) dX9_set_102 rfl rfl ?_
                    refine R_goto (pc := 103) 110 dX9_set_103 (by decide) ?_
                    refine p_X9_45 (pc := 110) rfl dX9_set_110 (c_140 _) (Nat.le_of_ble_eq_true rfl) rfl rfl (s_140_13 _ _) ?_
                    have hW312 := cor_ci 14013 b hW306
                    refine R_aload_n (pc := 113) dX9_set_113 rfl rfl ?_
                    refine R_iload_n (pc := 114) dX9_set_114 rfl rfl ?_
                    refine R_iconst (pc := 115) (v := 2) dX9_set_115 (by decide) ?_
                    refine R_icne (pc := 116) 123 dX9_set_116 (by decide) (fun b116_313 => ?_) (fun b116_313 => ?_)
                    · skip
                      refine R_aload_n (pc := 123) dX9_set_123 rfl rfl ?_
                      refine g_X9_48 (pc := 124) (v := .int (σ.1 14014)) rfl dX9_set_124 (c_140 _) rfl ?_
                      refine p_X9_48 (pc := 127) rfl dX9_set_127 (c_140 _) (Nat.le_of_ble_eq_true rfl) rfl rfl (s_140_14 _ _) ?_
                      have hW314 := cor_ci 14014 (σ.1 14014) hW312
                      refine R_iload_n (pc := 130) dX9_set_130 rfl rfl ?_
                      exact R_iret (pc := 131) dX9_set_131 rfl rfl (Nat.zero_le _) (Nat.zero_le _) ⟨_, rfl, _, rfl, hI⟩
                    · skip
                      refine R_iload_n (pc := 119) dX9_set_119 rfl rfl ?_
                      refine R_goto (pc := 120) 127 dX9_set_120 (by decide) ?_
                      refine p_X9_48 (pc := 127) rfl dX9_set_127 (c_140 _) (Nat.le_of_ble_eq_true rfl) rfl rfl (s_140_14 _ _) ?_
                      have hW315 := cor_ci 14014 b hW312
                      refine R_iload_n (pc := 130) dX9_set_130 rfl rfl ?_
                      exact R_iret (pc := 131) dX9_set_131 rfl rfl (Nat.zero_le _) (Nat.zero_le _) ⟨_, rfl, _, rfl, hI⟩
                · skip
                  refine R_iload_n (pc := 85) dX9_set_85 rfl rfl ?_
                  refine R_goto (pc := 86) 93 dX9_set_86 (by decide) ?_
                  refine p_X9_41 (pc := 93) rfl dX9_set_93 (c_140 _) (Nat.le_of_ble_eq_true rfl) rfl rfl (s_140_12 _ _) ?_
                  have hW316 := cor_ci 14012 b (Cor.rfl' σ)
                  refine R_aload_n (pc := 96) dX9_set_96 rfl rfl ?_
                  refine R_iload_n (pc := 97) dX9_set_97 rfl rfl ?_
                  refine R_iconst (pc := 98) (v := 1) dX9_set_98 (by decide) ?_
                  refine R_icne (pc := 99) 106 dX9_set_99 (by decide) (fun b99_317 => ?_) (fun b99_317 => ?_)
                  · skip
                    refine R_aload_n (pc := 106) dX9_set_106 rfl rfl ?_
                    refine g_X9_45 (pc := 107) (v := .int (σ.1 14013)) rfl dX9_set_107 (c_140 _) rfl ?_
                    refine p_X9_45 (pc := 110) rfl dX9_set_110 (c_140 _) (Nat.le_of_ble_eq_true rfl) rfl rfl (s_140_13 _ _) ?_
                    have hW318 := cor_ci 14013 (σ.1 14013) hW316
                    refine R_aload_n (pc := 113) dX9_set_113 rfl rfl ?_
                    refine R_iload_n (pc := 114) dX9_set_114 rfl rfl ?_
                    refine R_iconst (pc := 115) (v := 2) dX9_set_115 (by decide) ?_
                    refine R_icne (pc := 116) 123 dX9_set_116 (by decide) (fun b116_319 => ?_) (fun b116_319 => ?_)
                    · skip
                      refine R_aload_n (pc := 123) dX9_set_123 rfl rfl ?_
                      refine g_X9_48 (pc := 124) (v := .int (σ.1 14014)) rfl dX9_set_124 (c_140 _) rfl ?_
                      refine p_X9_48 (pc := 127) rfl dX9_set_127 (c_140 _) (Nat.le_of_ble_eq_true rfl) rfl rfl (s_140_14 _ _) ?_
                      have hW320 := cor_ci 14014 (σ.1 14014) hW318
                      refine R_iload_n (pc := 130) dX9_set_130 rfl rfl ?_
                      exact R_iret (pc := 131) dX9_set_131 rfl rfl (Nat.zero_le _) (Nat.zero_le _) ⟨_, rfl, _, rfl, hI⟩
                    · skip
                      refine R_iload_n (pc := 119) dX9_set_119 rfl rfl ?_
                      refine R_goto (pc := 120) 127 dX9_set_120 (by decide) ?_
                      refine p_X9_48 (pc := 127) rfl dX9_set_127 (c_140 _) (Nat.le_of_ble_eq_true rfl) rfl rfl (s_140_14 _ _) ?_
                      have hW321 := cor_ci 14014 b hW318
                      refine R_iload_n (pc := 130) dX9_set_130 rfl rfl ?_
                      exact R_iret (pc := 131) dX9_set_131 rfl rfl (Nat.zero_le _) (Nat.zero_le _) ⟨_, rfl, _, rfl, hI⟩
                  · skip
                    refine R_iload_n (pc := 102) dX9_set_102 rfl rfl ?_
                    refine R_goto (pc := 103) 110 dX9_set_103 (by decide) ?_
                    refine p_X9_45 (pc := 110) rfl dX9_set_110 (c_140 _) (Nat.le_of_ble_eq_true rfl) rfl rfl (s_140_13 _ _) ?_
                    have hW322 := cor_ci 14013 b hW316
                    refine R_aload_n (pc := 113) dX9_set_113 rfl rfl ?_
                    refine R_iload_n (pc := 114) dX9_set_114 rfl rfl ?_
                    refine R_iconst (pc := 115) (v := 2) dX9_set_115 (by decide) ?_
                    refine R_icne (pc := 116) 123 dX9_set_116 (by decide) (fun b116_323 => ?_) (fun b116_323 => ?_)
                    · skip
                      refine R_aload_n (pc := 123) dX9_set_123 rfl rfl ?_
                      refine g_X9_48 (pc := 124) (v := .int (σ.1 14014)) rfl dX9_set_124 (c_140 _) rfl ?_
                      refine p_X9_48 (pc := 127) rfl dX9_set_127 (c_140 _) (Nat.le_of_ble_eq_true rfl) rfl rfl (s_140_14 _ _) ?_
                      have hW324 := cor_ci 14014 (σ.1 14014) hW322
                      refine R_iload_n (pc := 130) dX9_set_130 rfl rfl ?_
                      exact R_iret (pc := 131) dX9_set_131 rfl rfl (Nat.zero_le _) (Nat.zero_le _) ⟨_, rfl, _, rfl, hI⟩
                    · skip
                      refine R_iload_n (pc := 119) dX9_set_119 rfl rfl ?_
                      refine R_goto (pc := 120) 127 dX9_set_120 (by decide) ?_
                      refine p_X9_48 (pc := 127) rfl dX9_set_127 (c_140 _) (Nat.le_of_ble_eq_true rfl) rfl rfl (s_140_14 _ _) ?_
                      have hW325 := cor_ci 14014 b hW322
                      refine R_iload_n (pc := 130) dX9_set_130 rfl rfl ?_
                      exact R_iret (pc := 131) dX9_set_131 rfl rfl (Nat.zero_le _) (Nat.zero_le _) ⟨_, rfl, _, rfl, hI⟩
            · skip
              refine R_aload_n (pc := 56) dX9_set_56 rfl rfl ?_
              refine g_X9_41 (pc := 57) (v := .int (σ.1 14012)) rfl dX9_set_57 (c_140 _) rfl ?_
              refine R_goto (pc := 60) 79 dX9_set_60 (by decide) ?_
              refine st_4_3_i_i (pc := 79) dX9_set_79 ?_
              refine R_aload_n (pc := 80) dX9_set_80 rfl rfl ?_
              refine R_iload_n (pc := 81) dX9_set_81 rfl rfl ?_
              refine R_ifne (pc := 82) 89 dX9_set_82 (by decide) (fun b82_326 => ?_) (fun b82_326 => ?_)
              · skip
                refine R_aload_n (pc := 89) dX9_set_89 rfl rfl ?_
                refine g_X9_41 (pc := 90) (v := .int (σ.1 14012)) rfl dX9_set_90 (c_140 _) rfl ?_
                refine p_X9_41 (pc := 93) rfl dX9_set_93 (c_140 _) (Nat.le_of_ble_eq_true rfl) rfl rfl (s_140_12 _ _) ?_
                have hW327 := cor_ci 14012 (σ.1 14012) (Cor.rfl' σ)
                refine R_aload_n (pc := 96) dX9_set_96 rfl rfl ?_
                refine R_iload_n (pc := 97) dX9_set_97 rfl rfl ?_
                refine R_iconst (pc := 98) (v := 1) dX9_set_98 (by decide) ?_
                refine R_icne (pc := 99) 106 dX9_set_99 (by decide) (fun b99_328 => ?_) (fun b99_328 => ?_)
                · skip
                  refine R_aload_n (pc := 106) dX9_set_106 rfl rfl ?_
                  refine g_X9_45 (pc := 107) (v := .int (σ.1 14013)) rfl dX9_set_107 (c_140 _) rfl ?_
                  refine p_X9_45 (pc := 110) rfl dX9_set_110 (c_140 _) (Nat.le_of_ble_eq_true rfl) rfl rfl (s_140_13 _ _) ?_
                  have hW329 := cor_ci 14013 (σ.1 14013) hW327
                  refine R_aload_n (pc := 113) dX9_set_113 rfl rfl ?_
                  refine R_iload_n (pc := 114) dX9_set_114 rfl rfl ?_
                  refine R_iconst (pc := 115) (v := 2) dX9_set_115 (by decide) ?_
                  refine R_icne (pc := 116) 123 dX9_set_116 (by decide) (fun b116_330 => ?_) (fun b116_330 => ?_)
                  · skip
                    refine R_aload_n (pc := 123) dX9_set_123 rfl rfl ?_
                    refine g_X9_48 (pc := 124) (v := .int (σ.1 14014)) rfl dX9_set_124 (c_140 _) rfl ?_
                    refine p_X9_48 (pc := 127) rfl dX9_set_127 (c_140 _) (Nat.le_of_ble_eq_true rfl) rfl rfl (s_140_14 _ _) ?_
                    have hW331 := cor_ci 14014 (σ.1 14014) hW329
                    refine R_iload_n (pc := 130) dX9_set_130 rfl rfl ?_
                    exact R_iret (pc := 131) dX9_set_131 rfl rfl (Nat.zero_le _) (Nat.zero_le _) ⟨_, rfl, _, rfl, hI⟩
                  · skip
                    refine R_iload_n (pc := 119) dX9_set_119 rfl rfl ?_
                    refine R_goto (pc := 120) 127 dX9_set_120 (by decide) ?_
                    refine p_X9_48 (pc := 127) rfl dX9_set_127 (c_140 _) (Nat.le_of_ble_eq_true rfl) rfl rfl (s_140_14 _ _) ?_
                    have hW332 := cor_ci 14014 b hW329
                    refine R_iload_n (pc := 130) dX9_set_130 rfl rfl ?_
                    exact R_iret (pc := 131) dX9_set_131 rfl rfl (Nat.zero_le _) (Nat.zero_le _) ⟨_, rfl, _, rfl, hI⟩
                · skip
                  refine R_iload_n (pc := 102) dX9_set_102 rfl rfl ?_
                  refine R_goto (pc := 103) 110 dX9_set_103 (by decide) ?_
                  refine p_X9_45 (pc := 110) rfl dX9_set_110 (c_140 _) (Nat.le_of_ble_eq_true rfl) rfl rfl (s_140_13 _ _) ?_
                  have hW333 := cor_ci 14013 b hW327
                  refine R_aload_n (pc := 113) dX9_set_113 rfl rfl ?_
                  refine R_iload_n (pc := 114) dX9_set_114 rfl rfl ?_
                  refine R_iconst (pc := 115) (v := 2) dX9_set_115 (by decide) ?_
                  refine R_icne (pc := 116) 123 dX9_set_116 (by decide) (fun b116_334 => ?_) (fun b116_334 => ?_)
                  · skip
                    refine R_aload_n (pc := 123) dX9_set_123 rfl rfl ?_
                    refine g_X9_48 (pc := 124) (v := .int (σ.1 14014)) rfl dX9_set_124 (c_140 _) rfl ?_
                    refine p_X9_48 (pc := 127) rfl dX9_set_127 (c_140 _) (Nat.le_of_ble_eq_true rfl) rfl rfl (s_140_14 _ _) ?_
                    have hW335 := cor_ci 14014 (σ.1 14014) hW333
                    refine R_iload_n (pc := 130) dX9_set_130 rfl rfl ?_
                    exact R_iret (pc := 131) dX9_set_131 rfl rfl (Nat.zero_le _) (Nat.zero_le _) ⟨_, rfl, _, rfl, hI⟩
                  · skip
                    refine R_iload_n (pc := 119) dX9_set_119 rfl rfl ?_
                    refine R_goto (pc := 120) 127 dX9_set_120 (by decide) ?_
                    refine p_X9_48 (pc := 127) rfl dX9_set_127 (c_140 _) (Nat.le_of_ble_eq_true rfl) rfl rfl (s_140_14 _ _) ?_
                    have hW336 := cor_ci 14014 b hW333
                    refine R_iload_n (pc := 130) dX9_set_130 rfl rfl ?_
                    exact R_iret (pc := 131) dX9_set_131 rfl rfl (Nat.zero_le _) (Nat.zero_le _) ⟨_, rfl, _, rfl, hI⟩
              · skip
                refine R_iload_n (pc := 85) dX9_set_85 rfl rfl ?_
                refine R_goto (pc := 86) 93 dX9_set_86 (by decide) ?_
                refine p_X9_41 (pc := 93) rfl dX9_set_93 (c_140 _) (Nat.le_of_ble_eq_true rfl) rfl rfl (s_140_12 _ _) ?_
                have hW337 := cor_ci 14012 b (Cor.rfl' σ)
                refine R_aload_n (pc := 96) dX9_set_96 rfl rfl ?_
                refine R_iload_n (pc := 97) dX9_set_97 rfl rfl ?_
                refine R_iconst (pc := 98) (v := 1) dX9_set_98 (by decide) ?_
                refine R_icne (pc := 99) 106 dX9_set_99 (by decide) (fun b99_338 => ?_) (fun b99_338 => ?_)
                · skip
                  refine R_aload_n (pc := 106) dX9_set_106 rfl rfl ?_
                  refine g_X9_45 (pc := 107) (v := .int (σ.1 14013)) rfl dX9_set_107 (c_140 _) rfl ?_
                  refine p_X9_45 (pc := 110) rfl dX9_set_110 (c_140 _) (Nat.le_of_ble_eq_true rfl) rfl rfl (s_140_13 _ _) ?_
                  have hW339 := cor_ci 14013 (σ.1 14013) hW337
                  refine R_aload_n (pc := 113) dX9_set_113 rfl rfl ?_
                  refine R_iload_n (pc := 114) dX9_set_114 rfl rfl ?_
                  refine R_iconst (pc := 115) (v := 2) dX9_set_115 (by decide) ?_
                  refine R_icne (pc := 116) 123 dX9_set_116 (by decide) (fun b116_340 => ?_) (fun b116_340 => ?_)
                  · skip
                    refine R_aload_n (pc := 123) dX9_set_123 rfl rfl ?_
                    refine g_X9_48 (pc := 124) (v := .int (σ.1 14014)) rfl dX9_set_124 (c_140 _) rfl ?_
                    refine p_X9_48 (pc := 127) rfl dX9_set_127 (c_140 _) (Nat.le_of_ble_eq_true rfl) rfl rfl (s_140_14 _ _) ?_
                    have hW341 := cor_ci 14014 (σ.1 14014) hW339
                    refine R_iload_n (pc := 130) dX9_set_130 rfl rfl ?_
                    exact R_iret (pc := 131) dX9_set_131 rfl rfl (Nat.zero_le _) (Nat.zero_le _) ⟨_, rfl, _, rfl, hI⟩
                  · skip
                    refine R_iload_n (pc := 119) dX9_set_119 rfl rfl ?_
                    refine R_goto (pc := 120) 127 dX9_set_120 (by decide) ?_
                    refine p_X9_48 (pc := 127) rfl dX9_set_127 (c_140 _) (Nat.le_of_ble_eq_true rfl) rfl rfl (s_140_14 _ _) ?_
                    have hW342 := cor_ci 14014 b hW339
                    refine R_iload_n (pc := 130) dX9_set_130 rfl rfl ?_
                    exact R_iret (pc := 131) dX9_set_131 rfl rfl (Nat.zero_le _) (Nat.zero_le _) ⟨_, rfl, _, rfl, hI⟩
                · skip
                  refine R_iload_n (pc := 102) dX9_set_102 rfl rfl ?_
                  refine R_goto (pc := 103) 110 dX9_set_103 (by decide) ?_
                  refine p_X9_45 (pc := 110) rfl dX9_set_110 (c_140 _) (Nat.le_of_ble_eq_true rfl) rfl rfl (s_140_13 _ _) ?_
                  have hW343 := cor_ci 14013 b hW337
                  refine R_aload_n (pc := 113) dX9_set_113 rfl rfl ?_
                  refine R_iload_n (pc := 114) dX9_set_114 rfl rfl ?_
                  refine R_iconst (pc := 115) (v := 2) dX9_set_115 (by decide) ?_
                  refine R_icne (pc := 116) 123 dX9_set_116 (by decide) (fun b116_344 => ?_) (fun b116_344 => ?_)
                  · skip
                    refine R_aload_n (pc := 123) dX9_set_123 rfl rfl ?_
                    refine g_X9_48 (pc := 124) (v := .int (σ.1 14014)) rfl dX9_set_124 (c_140 _) rfl ?_
                    refine p_X9_48 (pc := 127) rfl dX9_set_127 (c_140 _) (Nat.le_of_ble_eq_true rfl) rfl rfl (s_140_14 _ _) ?_
                    have hW345 := cor_ci 14014 (σ.1 14014) hW343
                    refine R_iload_n (pc := 130) dX9_set_130 rfl rfl ?_
                    exact R_iret (pc := 131) dX9_set_131 rfl rfl (Nat.zero_le _) (Nat.zero_le _) ⟨_, rfl, _, rfl, hI⟩
                  · skip
                    refine R_iload_n (pc := 119) dX9_set_119 rfl rfl ?_
                    refine R_goto (pc := 120) 127 dX9_set_120 (by decide) ?_
                    refine p_X9_48 (pc := 127) rfl dX9_set_127 (c_140 _) (Nat.le_of_ble_eq_true rfl) rfl rfl (s_140_14 _ _) ?_
                    have hW346 := cor_ci 14014 b hW343
                    refine R_iload_n (pc := 130) dX9_set_130 rfl rfl ?_
                    exact R_iret (pc := 131) dX9_set_131 rfl rfl (Nat.zero_le _) (Nat.zero_le _) ⟨_, rfl, _, rfl, hI⟩
          · skip
            refine R_ifne (pc := 46) 52 dX9_set_46 (by decide) (fun h => absurd (by decide) h) (fun _ => ?_)
            refine R_bipush (pc := 49) (v := (-3)) dX9_set_49 (by decide) ?_
            exact R_iret (pc := 51) dX9_set_51 rfl rfl (Nat.zero_le _) (Nat.zero_le _) ⟨_, rfl, _, rfl, hI⟩
      · skip
        refine R_bipush (pc := 24) (v := 8) dX9_set_24 (by decide) ?_
        refine R_goto (pc := 26) 43 dX9_set_26 (by decide) ?_
        refine k_X9_124 (pc := 43) (sp_X9_in _ _ _ _) rfl (by decide) (Nat.le_refl _) (Nat.le_refl _) (Nat.le_of_ble_eq_true rfl) dX9_set_43 (fun x w2 h => ?_)
        rcases h with ⟨rfl, ⟨h348, rfl⟩ | ⟨h348, rfl⟩⟩
        · skip
          refine R_ifne (pc := 46) 52 dX9_set_46 (by decide) (fun _ => ?_) (fun h => absurd h (by decide))
          refine R_iload_n (pc := 52) dX9_set_52 rfl rfl ?_
          refine R_ifne (pc := 53) 63 dX9_set_53 (by decide) (fun b53_350 => ?_) (fun b53_350 => ?_)
          · skip
            refine R_iload_n (pc := 63) dX9_set_63 rfl rfl ?_
            refine R_iconst (pc := 64) (v := 1) dX9_set_64 (by decide) ?_
            refine R_icne (pc := 65) 75 dX9_set_65 (by decide) (fun b65_351 => ?_) (fun b65_351 => ?_)
            · skip
              refine R_aload_n (pc := 75) dX9_set_75 rfl rfl ?_
              refine g_X9_48 (pc := 76) (v := .int (σ.1 14014)) rfl dX9_set_76 (c_140 _) rfl ?_
              refine st_4_3_i_i (pc := 79) dX9_set_79 ?_
              refine R_aload_n (pc := 80) dX9_set_80 rfl rfl ?_
              refine R_iload_n (pc := 81) dX9_set_81 rfl rfl ?_
              refine R_ifne (pc := 82) 89 dX9_set_82 (by decide) (fun b82_352 => ?_) (fun b82_352 => ?_)
              · skip
                refine R_aload_n (pc := 89) dX9_set_89 rfl rfl ?_
                refine g_X9_41 (pc := 90) (v := .int (σ.1 14012)) rfl dX9_set_90 (c_140 _) rfl ?_
                refine p_X9_41 (pc := 93) rfl dX9_set_93 (c_140 _) (Nat.le_of_ble_eq_true rfl) rfl rfl (s_140_12 _ _) ?_
                have hW353 := cor_ci 14012 (σ.1 14012) (Cor.rfl' σ)
                refine R_aload_n (pc := 96) dX9_set_96 rfl rfl ?_
                refine R_iload_n (pc := 97) dX9_set_97 rfl rfl ?_
                refine R_iconst (pc := 98) (v := 1) dX9_set_98 (by decide) ?_
                refine R_icne (pc := 99) 106 dX9_set_99 (by decide) (fun b99_354 => ?_) (fun b99_354 => ?_)
                · skip
                  refine R_aload_n (pc := 106) dX9_set_106 rfl rfl ?_
                  refine g_X9_45 (pc := 107) (v := .int (σ.1 14013)) rfl dX9_set_107 (c_140 _) rfl ?_
                  refine p_X9_45 (pc := 110) rfl dX9_set_110 (c_140 _) (Nat.le_of_ble_eq_true rfl) rfl rfl (s_140_13 _ _) ?_
                  have hW355 := cor_ci 14013 (σ.1 14013) hW353
                  refine R_aload_n (pc := 113) dX9_set_113 rfl rfl ?_
                  refine R_iload_n (pc := 114) dX9_set_114 rfl rfl ?_
                  refine R_iconst (pc := 115) (v := 2) dX9_set_115 (by decide) ?_
                  refine R_icne (pc := 116) 123 dX9_set_116 (by decide) (fun b116_356 => ?_) (fun b116_356 => ?_)
                  · skip
                    refine R_aload_n (pc := 123) dX9_set_123 rfl rfl ?_
                    refine g_X9_48 (pc := 124) (v := .int (σ.1 14014)) rfl dX9_set_124 (c_140 _) rfl ?_
                    refine p_X9_48 (pc := 127) rfl dX9_set_127 (c_140 _) (Nat.le_of_ble_eq_true rfl) rfl rfl (s_140_14 _ _) ?_
                    have hW357 := cor_ci 14014 (σ.1 14014) hW355
                    refine R_iload_n (pc := 130) dX9_set_130 rfl rfl ?_
                    exact R_iret (pc := 131) dX9_set_131 rfl rfl (Nat.zero_le _) (Nat.zero_le _) ⟨_, rfl, _, rfl, hI⟩
                  · skip
                    refine R_iload_n (pc := 119) dX9_set_119 rfl rfl ?_
                    refine R_goto (pc := 120) 127 dX9_set_120 (by decide) ?_
                    refine p_X9_48 (pc := 127) rfl dX9_set_127 (c_140 _) (Nat.le_of_ble_eq_true rfl) rfl rfl (s_140_14 _ _) ?_
                    have hW358 := cor_ci 14014 b hW355
                    refine R_iload_n (pc := 130) dX9_set_130 rfl rfl ?_
                    exact R_iret (pc := 131) dX9_set_131 rfl rfl (Nat.zero_le _) (Nat.zero_le _) ⟨_, rfl, _, rfl, hI⟩
                · skip
                  refine R_iload_n (pc := 102) dX9_set_102 rfl rfl ?_
                  refine R_goto (pc := 103) 110 dX9_set_103 (by decide) ?_
                  refine p_X9_45 (pc := 110) rfl dX9_set_110 (c_140 _) (Nat.le_of_ble_eq_true rfl) rfl rfl (s_140_13 _ _) ?_
                  have hW359 := cor_ci 14013 b hW353
                  refine R_aload_n (pc := 113) dX9_set_113 rfl rfl ?_
                  refine R_iload_n (pc := 114) dX9_set_114 rfl rfl ?_
                  refine R_iconst (pc := 115) (v := 2) dX9_set_115 (by decide) ?_
                  refine R_icne (pc := 116) 123 dX9_set_116 (by decide) (fun b116_360 => ?_) (fun b116_360 => ?_)
                  · skip
                    refine R_aload_n (pc := 123) dX9_set_123 rfl rfl ?_
                    refine g_X9_48 (pc := 124) (v := .int (σ.1 14014)) rfl dX9_set_124 (c_140 _) rfl ?_
                    refine p_X9_48 (pc := 127) rfl dX9_set_127 (c_140 _) (Nat.le_of_ble_eq_true rfl) rfl rfl (s_140_14 _ _) ?_
                    have hW361 := cor_ci 14014 (σ.1 14014) hW359
                    refine R_iload_n (pc := 130) dX9_set_130 rfl rfl ?_
                    exact R_iret (pc := 131) dX9_set_131 rfl rfl (Nat.zero_le _) (Nat.zero_le _) ⟨_, rfl, _, rfl, hI⟩
                  · skip
                    refine R_iload_n (pc := 119) dX9_set_119 rfl rfl ?_
                    refine R_goto (pc := 120) 127 dX9_set_120 (by decide) ?_
                    refine p_X9_48 (pc := 127) rfl dX9_set_127 (c_140 _) (Nat.le_of_ble_eq_true rfl) rfl rfl (s_140_14 _ _) ?_
                    have hW362 := cor_ci 14014 b hW359
                    refine R_iload_n (pc := 130) dX9_set_130 rfl rfl ?_
                    exact R_iret (pc := 131) dX9_set_131 rfl rfl (Nat.zero_le _) (Nat.zero_le _) ⟨_, rfl, _, rfl, hI⟩
              · skip
                refine R_iload_n (pc := 85) dX9_set_85 rfl rfl ?_
                refine R_goto (pc := 86) 93 dX9_set_86 (by decide) ?_
                refine p_X9_41 (pc := 93) rfl dX9_set_93 (c_140 _) (Nat.le_of_ble_eq_true rfl) rfl rfl (s_140_12 _ _) ?_
                have hW363 := cor_ci 14012 b (Cor.rfl' σ)
                refine R_aload_n (pc := 96) dX9_set_96 rfl rfl ?_
                refine R_iload_n (pc := 97) dX9_set_97 rfl rfl ?_
                refine R_iconst (pc := 98) (v := 1) dX9_set_98 (by decide) ?_
                refine R_icne (pc := 99) 106 dX9_set_99 (by decide) (fun b99_364 => ?_) (fun b99_364 => ?_)
                · skip
                  refine R_aload_n (pc := 106) dX9_set_106 rfl rfl ?_
                  refine g_X9_45 (pc := 107) (v := .int (σ.1 14013)) rfl dX9_set_107 (c_140 _) rfl ?_
                  refine p_X9_45 (pc := 110) rfl dX9_set_110 (c_140 _) (Nat.le_of_ble_eq_true rfl) rfl rfl (s_140_13 _ _) ?_
                  have hW365 := cor_ci 14013 (σ.1 14013) hW363
                  refine R_aload_n (pc := 113) dX9_set_113 rfl rfl ?_
                  refine R_iload_n (pc := 114) dX9_set_114 rfl rfl ?_
                  refine R_iconst (pc := 115) (v := 2) dX9_set_115 (by decide) ?_
                  refine R_icne (pc := 116) 123 dX9_set_116 (by decide) (fun b116_366 => ?_) (fun b116_366 => ?_)
                  · skip
                    refine R_aload_n (pc := 123) dX9_set_123 rfl rfl ?_
                    refine g_X9_48 (pc := 124) (v := .int (σ.1 14014)) rfl dX9_set_124 (c_140 _) rfl ?_
                    refine p_X9_48 (pc := 127) rfl dX9_set_127 (c_140 _) (Nat.le_of_ble_eq_true rfl) rfl rfl (s_140_14 _ _) ?_
                    have hW367 := cor_ci 14014 (σ.1 14014) hW365
                    refine R_iload_n (pc := 130) dX9_set_130 rfl rfl ?_
                    exact R_iret (pc := 131) dX9_set_131 rfl rfl (Nat.zero_le _) (Nat.zero_le _) ⟨_, rfl, _, rfl, hI⟩
                  · skip
                    refine R_iload_n (pc := 119) dX9_set_119 rfl rfl ?_
                    refine R_goto (pc := 120) 127 dX9_set_120 (by decide) ?_
                    refine p_X9_48 (pc := 127) rfl dX9_set_127 (c_140 _) (Nat.le_of_ble_eq_true rfl) rfl rfl (s_140_14 _ _) ?_
                    have hW368 := cor_ci 14014 b hW365
                    refine R_iload_n (pc := 130) dX9_set_130 rfl rfl ?_
                    exact R_iret (pc := 131) dX9_set_131 rfl rfl (Nat.zero_le _) (Nat.zero_le _) ⟨_, rfl, _, rfl, hI⟩
                · skip
                  refine R_iload_n (pc := 102) dX9_set_102 rfl rfl ?_
                  refine R_goto (pc := 103) 110 dX9_set_103 (by decide) ?_
                  refine p_X9_45 (pc := 110) rfl dX9_set_110 (c_140 _) (Nat.le_of_ble_eq_true rfl) rfl rfl (s_140_13 _ _) ?_
                  have hW369 := cor_ci 14013 b hW363
                  refine R_aload_n (pc := 113) dX9_set_113 rfl rfl ?_
                  refine R_iload_n (pc := 114) dX9_set_114 rfl rfl ?_
                  refine R_iconst (pc := 115) (v := 2) dX9_set_115 (by decide) ?_
                  refine R_icne (pc := 116) 123 dX9_set_116 (by decide) (fun b116_370 => ?_) (fun b116_370 => ?_)
                  · skip
                    refine R_aload_n (pc := 123) dX9_set_123 rfl rfl ?_
                    refine g_X9_48 (pc := 124) (v := .int (σ.1 14014)) rfl dX9_set_124 (c_140 _) rfl ?_
                    refine p_X9_48 (pc := 127) rfl dX9_set_127 (c_140 _) (Nat.le_of_ble_eq_true rfl) rfl rfl (s_140_14 _ _) ?_
                    have hW371 := cor_ci 14014 (σ.1 14014) hW369
                    refine R_iload_n (pc := 130) dX9_set_130 rfl rfl ?_
                    exact R_iret (pc := 131) dX9_set_131 rfl rfl (Nat.zero_le _) (Nat.zero_le _) ⟨_, rfl, _, rfl, hI⟩
                  · skip
                    refine R_iload_n (pc := 119) dX9_set_119 rfl rfl ?_
                    refine R_goto (pc := 120) 127 dX9_set_120 (by decide) ?_
                    refine p_X9_48 (pc := 127) rfl dX9_set_127 (c_140 _) (Nat.le_of_ble_eq_true rfl) rfl rfl (s_140_14 _ _) ?_
                    have hW372 := cor_ci 14014 b hW369
                    refine R_iload_n (pc := 130) dX9_set_130 rfl rfl ?_
                    exact R_iret (pc := 131) dX9_set_131 rfl rfl (Nat.zero_le _) (Nat.zero_le _) ⟨_, rfl, _, rfl, hI⟩
            · skip
              refine R_aload_n (pc := 68) dX9_set_68 rfl rfl ?_
              refine g_X9_45 (pc := 69) (v := .int (σ.1 14013)) rfl dX9_set_69 (c_140 _) rfl ?_
              refine R_goto (pc := 72) 79 dX9_set_72 (by decide) ?_
              refine st_4_3_i_i (pc := 79) dX9_set_79 ?_
              refine R_aload_n (pc := 80) dX9_set_80 rfl rfl ?_
              refine R_iload_n (pc := 81) dX9_set_81 rfl rfl ?_
              refine R_ifne (pc := 82) 89 dX9_set_82 (by decide) (fun b82_373 => ?_) (fun b82_373 => ?_)
              · skip
                refine R_aload_n (pc := 89) dX9_set_89 rfl rfl ?_
                refine g_X9_41 (pc := 90) (v := .int (σ.1 14012)) rfl dX9_set_90 (c_140 _) rfl ?_
                refine p_X9_41 (pc := 93) rfl dX9_set_93 (c_140 _) (Nat.le_of_ble_eq_true rfl) rfl rfl (s_140_12 _ _) ?_
                have hW374 := cor_ci 14012 (σ.1 14012) (Cor.rfl' σ)
                refine R_aload_n (pc := 96) dX9_set_96 rfl rfl ?_
                refine R_iload_n (pc := 97) dX9_set_97 rfl rfl ?_
                refine R_iconst (pc := 98) (v := 1) dX9_set_98 (by decide) ?_
                refine R_icne (pc := 99) 106 dX9_set_99 (by decide) (fun b99_375 => ?_) (fun b99_375 => ?_)
                · skip
                  refine R_aload_n (pc := 106) dX9_set_106 rfl rfl ?_
                  refine g_X9_45 (pc := 107) (v := .int (σ.1 14013)) rfl dX9_set_107 (c_140 _) rfl ?_
                  refine p_X9_45 (pc := 110) rfl dX9_set_110 (c_140 _) (Nat.le_of_ble_eq_true rfl) rfl rfl (s_140_13 _ _) ?_
                  have hW376 := cor_ci 14013 (σ.1 14013) hW374
                  refine R_aload_n (pc := 113) dX9_set_113 rfl rfl ?_
                  refine R_iload_n (pc := 114) dX9_set_114 rfl rfl ?_
                  refine R_iconst (pc := 115) (v := 2) dX9_set_115 (by decide) ?_
                  refine R_icne (pc := 116) 123 dX9_set_116 (by decide) (fun b116_377 => ?_) (fun b116_377 => ?_)
                  · skip
                    refine R_aload_n (pc := 123) dX9_set_123 rfl rfl ?_
                    refine g_X9_48 (pc := 124) (v := .int (σ.1 14014)) rfl dX9_set_124 (c_140 _) rfl ?_
                    refine p_X9_48 (pc := 127) rfl dX9_set_127 (c_140 _) (Nat.le_of_ble_eq_true rfl) rfl rfl (s_140_14 _ _) ?_
                    have hW378 := cor_ci 14014 (σ.1 14014) hW376
                    refine R_iload_n (pc := 130) dX9_set_130 rfl rfl ?_
                    exact R_iret (pc := 131) dX9_set_131 rfl rfl (Nat.zero_le _) (Nat.zero_le _) ⟨_, rfl, _, rfl, hI⟩
                  · skip
                    refine R_iload_n (pc := 119) dX9_set_119 rfl rfl ?_
                    refine R_goto (pc := 120) 127 dX9_set_120 (by decide) ?_
                    refine p_X9_48 (pc := 127) rfl dX9_set_127 (c_140 _) (Nat.le_of_ble_eq_true rfl) rfl rfl (s_140_14 _ _) ?_
                    have hW379 := cor_ci 14014 b hW376
                    refine R_iload_n (pc := 130) dX9_set_130 rfl rfl ?_
                    exact R_iret (pc := 131) dX9_set_131 rfl rfl (Nat.zero_le _) (Nat.zero_le _) ⟨_, rfl, _, rfl, hI⟩
                · skip
                  refine R_iload_n (pc := 102) dX9_set_102 rfl rfl ?_
                  refine R_goto (pc := 103) 110 dX9_set_103 (by decide) ?_
                  refine p_X9_45 (pc := 110) rfl dX9_set_110 (c_140 _) (Nat.le_of_ble_eq_true rfl) rfl rfl (s_140_13 _ _) ?_
                  have hW380 := cor_ci 14013 b hW374
                  refine R_aload_n (pc := 113) dX9_set_113 rfl rfl ?_
                  refine R_iload_n (pc := 114) dX9_set_114 rfl rfl ?_
                  refine R_iconst (pc := 115) (v := 2) dX9_set_115 (by decide) ?_
                  refine R_icne (pc := 116) 123 dX9_set_116 (by decide) (fun b116_381 => ?_) (fun b116_381 => ?_)
                  · skip
                    refine R_aload_n (pc := 123) dX9_set_123 rfl rfl ?_
                    refine g_X9_48 (pc := 124) (v := .int (σ.1 14014)) rfl dX9_set_124 (c_140 _) rfl ?_
                    refine p_X9_48 (pc := 127) rfl dX9_set_127 (c_140 _) (Nat.le_of_ble_eq_true rfl) rfl rfl (s_140_14 _ _) ?_
                    have hW382 := cor_ci 14014 (σ.1 14014) hW380
                    refine R_iload_n (pc := 130) dX9_set_130 rfl rfl ?_
                    exact R_iret (pc := 131) dX9_set_131 rfl rfl (Nat.zero_le _) (Nat.zero_le _) ⟨_, rfl, _, rfl, hI⟩
                  · skip
                    refine R_iload_n (pc := 119) dX9_set_119 rfl rfl ?_
                    refine R_goto (pc := 120) 127 dX9_set_120 (by decide) ?_
                    refine p_X9_48 (pc := 127) rfl dX9_set_127 (c_140 _) (Nat.le_of_ble_eq_true rfl) rfl rfl (s_140_14 _ _) ?_
                    have hW383 := cor_ci 14014 b hW380
                    refine R_iload_n (pc := 130) dX9_set_130 rfl rfl ?_
                    exact R_iret (pc := 131) dX9_set_131 rfl rfl (Nat.zero_le _) (Nat.zero_le _) ⟨_, rfl, _, rfl, hI⟩
              · skip
                refine R_iload_n (pc := 85) dX9_set_85 rfl rfl ?_
                refine R_goto (pc := 86) 93 dX9_set_86 (by decide) ?_
                refine p_X9_41 (pc := 93) rfl dX9_set_93 (c_140 _) (Nat.le_of_ble_eq_true rfl) rfl rfl (s_140_12 _ _) ?_
                have hW384 := cor_ci 14012 b (Cor.rfl' σ)
                refine R_aload_n (pc := 96) dX9_set_96 rfl rfl ?_
                refine R_iload_n (pc := 97) dX9_set_97 rfl rfl ?_
                refine R_iconst (pc := 98) (v := 1) dX9_set_98 (by decide) ?_
                refine R_icne (pc := 99) 106 dX9_set_99 (by decide) (fun b99_385 => ?_) (fun b99_385 => ?_)
                · skip
                  refine R_aload_n (pc := 106) dX9_set_106 rfl rfl ?_
                  refine g_X9_45 (pc := 107) (v := .int (σ.1 14013)) rfl dX9_set_107 (c_140 _) rfl ?_
                  refine p_X9_45 (pc := 110) rfl dX9_set_110 (c_140 _) (Nat.le_of_ble_eq_true rfl) rfl rfl (s_140_13 _ _) ?_
                  have hW386 := cor_ci 14013 (σ.1 14013) hW384
                  refine R_aload_n (pc := 113) dX9_set_113 rfl rfl ?_
                  refine R_iload_n (pc := 114) dX9_set_114 rfl rfl ?_
                  refine R_iconst (pc := 115) (v := 2) dX9_set_115 (by decide) ?_
                  refine R_icne (pc := 116) 123 dX9_set_116 (by decide) (fun b116_387 => ?_) (fun b116_387 => ?_)
                  · skip
                    refine R_aload_n (pc := 123) dX9_set_123 rfl rfl ?_
                    refine g_X9_48 (pc := 124) (v := .int (σ.1 14014)) rfl dX9_set_124 (c_140 _) rfl ?_
                    refine p_X9_48 (pc := 127) rfl dX9_set_127 (c_140 _) (Nat.le_of_ble_eq_true rfl) rfl rfl (s_140_14 _ _) ?_
                    have hW388 := cor_ci 14014 (σ.1 14014) hW386
                    refine R_iload_n (pc := 130) dX9_set_130 rfl rfl ?_
                    exact R_iret (pc := 131) dX9_set_131 rfl rfl (Nat.zero_le _) (Nat.zero_le _) ⟨_, rfl, _, rfl, hI⟩
                  · skip
                    refine R_iload_n (pc := 119) dX9_set_119 rfl rfl ?_
                    refine R_goto (pc := 120) 127 dX9_set_120 (by decide) ?_
                    refine p_X9_48 (pc := 127) rfl dX9_set_127 (c_140 _) (Nat.le_of_ble_eq_true rfl) rfl rfl (s_140_14 _ _) ?_
                    have hW389 := cor_ci 14014 b hW386
                    refine R_iload_n (pc := 130) dX9_set_130 rfl rfl ?_
                    exact R_iret (pc := 131) dX9_set_131 rfl rfl (Nat.zero_le _) (Nat.zero_le _) ⟨_, rfl, _, rfl, hI⟩
                · skip
                  refine R_iload_n (pc := 102) dX9_set_102 rfl rfl ?_
                  refine R_goto (pc := 103) 110 dX9_set_103 (by decide) ?_
                  refine p_X9_45 (pc := 110) rfl dX9_set_110 (c_140 _) (Nat.le_of_ble_eq_true rfl) rfl rfl (s_140_13 _ _) ?_
                  have hW390 := cor_ci 14013 b hW384
                  refine R_aload_n (pc := 113) dX9_set_113 rfl rfl ?_
                  refine R_iload_n (pc := 114) dX9_set_114 rfl rfl ?_
                  refine R_iconst (pc := 115) (v := 2) dX9_set_115 (by decide) ?_
                  refine R_icne (pc := 116) 123 dX9_set_116 (by decide) (fun b116_391 => ?_) (fun b116_391 => ?_)
                  · skip
                    refine R_aload_n (pc := 123) dX9_set_123 rfl rfl ?_
                    refine g_X9_48 (pc := 124) (v := .int (σ.1 14014)) rfl dX9_set_124 (c_140 _) rfl ?_
                    refine p_X9_48 (pc := 127) rfl dX9_set_127 (c_140 _) (Nat.le_of_ble_eq_true rfl) rfl rfl (s_140_14 _ _) ?_
                    have hW392 := cor_ci 14014 (σ.1 14014) hW390
                    refine R_iload_n (pc := 130) dX9_set_130 rfl rfl ?_
                    exact R_iret (pc := 131) dX9_set_131 rfl rfl (Nat.zero_le _) (Nat.zero_le _) ⟨_, rfl, _, rfl, hI⟩
                  · skip
                    refine R_iload_n (pc := 119) dX9_set_119 rfl rfl ?_
                    refine R_goto (pc := 120) 127 dX9_set_120 (by decide) ?_
                    refine p_X9_48 (pc := 127) rfl dX9_set_127 (c_140 _) (Nat.le_of_ble_eq_true rfl) rfl rfl (s_140_14 _ _) ?_
                    have hW393 := cor_ci 14014 b hW390
                    refine R_iload_n (pc := 130) dX9_set_130 rfl rfl ?_
                    exact R_iret (pc := 131) dX9_set_131 rfl rfl (Nat.zero_le _) (Nat.zero_le _) ⟨_, rfl, _, rfl, hI⟩
          · skip
            refine R_aload_n (pc := 56) dX9_set_56 rfl rfl ?_
            refine g_X9_41 (pc := 57) (v := .int (σ.1 14012)) rfl dX9_set_57 (c_140 _) rfl ?_
            refine R_goto (pc := 60) 79 dX9_set_60 (by decide) ?_
            refine st_4_3_i_i (pc := 79) dX9_set_79 ?_
            refine R_aload_n (pc := 80) dX9_set_80 rfl rfl ?_
            refine R_iload_n (pc := 81) dX9_set_81 rfl rfl ?_
            refine R_ifne (pc := 82) 89 dX9_set_82 (by decide) (fun b82_394 => ?_) (fun b82_394 => ?_)
            · skip
              refine R_aload_n (pc := 89) dX9_set_89 rfl rfl ?_
              refine g_X9_41 (pc := 90) (v := .int (σ.1 14012)) rfl dX9_set_90 (c_140 _) rfl ?_
              refine p_X9_41 (pc := 93) rfl dX9_set_93 (c_140 _) (Nat.le_of_ble_eq_true rfl) rfl rfl (s_140_12 _ _) ?_
              have hW395 := cor_ci 14012 (σ.1 14012) (Cor.rfl' σ)
              refine R_aload_n (pc := 96) dX9_set_96 rfl rfl ?_
              refine R_iload_n (pc := 97) dX9_set_97 rfl rfl ?_
              refine R_iconst (pc := 98) (v := 1) dX9_set_98 (by decide) ?_
              refine R_icne (pc := 99) 106 dX9_set_99 (by decide) (fun b99_396 => ?_) (fun b99_396 => ?_)
              · skip
                refine R_aload_n (pc := 106) dX9_set_106 rfl rfl ?_
                refine g_X9_45 (pc := 107) (v := .int (σ.1 14013)) rfl dX9_set_107 (c_140 _) rfl ?_
                refine p_X9_45 (pc := 110) rfl dX9_set_110 (c_140 _) (Nat.le_of_ble_eq_true rfl) rfl rfl (s_140_13 _ _) ?_
                have hW397 := cor_ci 14013 (σ.1 14013) hW395
                refine R_aload_n (pc := 113) dX9_set_113 rfl rfl ?_
                refine R_iload_n (pc := 114) dX9_set_114 rfl rfl ?_
                refine R_iconst (pc := 115) (v := 2) dX9_set_115 (by decide) ?_
                refine R_icne (pc := 116) 123 dX9_set_116 (by decide) (fun b116_398 => ?_) (fun b116_398 => ?_)
                · skip
                  refine R_aload_n (pc := 123) dX9_set_123 rfl rfl ?_
                  refine g_X9_48 (pc := 124) (v := .int (σ.1 14014)) rfl dX9_set_124 (c_140 _) rfl ?_
                  refine p_X9_48 (pc := 127) rfl dX9_set_127 (c_140 _) (Nat.le_of_ble_eq_true rfl) rfl rfl (s_140_14 _ _) ?_
                  have hW399 := cor_ci 14014 (σ.1 14014) hW397
                  refine R_iload_n (pc := 130) dX9_set_130 rfl rfl ?_
                  exact R_iret (pc := 131) dX9_set_131 rfl rfl (Nat.zero_le _) (Nat.zero_le _) ⟨_, rfl, _, rfl, hI⟩
                · skip
                  refine R_iload_n (pc := 119) dX9_set_119 rfl rfl ?_
                  refine R_goto (pc := 120) 127 dX9_set_120 (by decide) ?_
                  refine p_X9_48 (pc := 127) rfl dX9_set_127 (c_140 _) (Nat.le_of_ble_eq_true rfl) rfl rfl (s_140_14 _ _) ?_
                  have hW400 := cor_ci 14014 b hW397
                  refine R_iload_n (pc := 130) dX9_set_130 rfl rfl ?_
                  exact R_iret (pc := 131) dX9_set_131 rfl rfl (Nat.zero_le _) (Nat.zero_le _) ⟨_, rfl, _, rfl, hI⟩
              · skip
                refine R_iload_n (pc := 102) dX9_set_102 rfl rfl ?_
                refine R_goto (pc := 103) 110 dX9_set_103 (by decide) ?_
                refine p_X9_45 (pc := 110) rfl dX9_set_110 (c_140 _) (Nat.le_of_ble_eq_true rfl) rfl rfl (s_140_13 _ _) ?_
                have hW401 := cor_ci 14013 b hW395
                refine R_aload_n (pc := 113) dX9_set_113 rfl rfl ?_
                refine R_iload_n (pc := 114) dX9_set_114 rfl rfl ?_
                refine R_iconst (pc := 115) (v := 2) dX9_set_115 (by decide) ?_
                refine R_icne (pc := 116) 123 dX9_set_116 (by decide) (fun b116_402 => ?_) (fun b116_402 => ?_)
                · skip
                  refine R_aload_n (pc := 123) dX9_set_123 rfl rfl ?_
                  refine g_X9_48 (pc := 124) (v := .int (σ.1 14014)) rfl dX9_set_124 (c_140 _) rfl ?_
                  refine p_X9_48 (pc := 127) rfl dX9_set_127 (c_140 _) (Nat.le_of_ble_eq_true rfl) rfl rfl (s_140_14 _ _) ?_
                  have hW403 := cor_ci 14014 (σ.1 14014) hW401
                  refine R_iload_n (pc := 130) dX9_set_130 rfl rfl ?_
                  exact R_iret (pc := 131) dX9_set_131 rfl rfl (Nat.zero_le _) (Nat.zero_le _) ⟨_, rfl, _, rfl, hI⟩
                · skip
                  refine R_iload_n (pc := 119) dX9_set_119 rfl rfl ?_
                  refine R_goto (pc := 120) 127 dX9_set_120 (by decide) ?_
                  refine p_X9_48 (pc := 127) rfl dX9_set_127 (c_140 _) (Nat.le_of_ble_eq_true rfl) rfl rfl (s_140_14 _ _) ?_
                  have hW404 := cor_ci 14014 b hW401
                  refine R_iload_n (pc := 130) dX9_set_130 rfl rfl ?_
                  exact R_iret (pc := 131) dX9_set_131 rfl rfl (Nat.zero_le _) (Nat.zero_le _) ⟨_, rfl, _, rfl, hI⟩
            · skip
              refine R_iload_n (pc := 85) dX9_set_85 rfl rfl ?_
              refine R_goto (pc := 86) 93 dX9_set_86 (by decide) ?_
              refine p_X9_41 (pc := 93) rfl dX9_set_93 (c_140 _) (Nat.le_of_ble_eq_true rfl) rfl rfl (s_140_12 _ _) ?_
              have hW405 := cor_ci 14012 b (Cor.rfl' σ)
              refine R_aload_n (pc := 96) dX9_set_96 rfl rfl ?_
              refine R_iload_n (pc := 97) dX9_set_97 rfl rfl ?_
              refine R_iconst (pc := 98) (v := 1) dX9_set_98 (by decide) ?_
              refine R_icne (pc := 99) 106 dX9_set_99 (by decide) (fun b99_406 => ?_) (fun b99_406 => ?_)
              · skip
                refine R_aload_n (pc := 106) dX9_set_106 rfl rfl ?_
                refine g_X9_45 (pc := 107) (v := .int (σ.1 14013)) rfl dX9_set_107 (c_140 _) rfl ?_
                refine p_X9_45 (pc := 110) rfl dX9_set_110 (c_140 _) (Nat.le_of_ble_eq_true rfl) rfl rfl (s_140_13 _ _) ?_
                have hW407 := cor_ci 14013 (σ.1 14013) hW405
                refine R_aload_n (pc := 113) dX9_set_113 rfl rfl ?_
                refine R_iload_n (pc := 114) dX9_set_114 rfl rfl ?_
                refine R_iconst (pc := 115) (v := 2) dX9_set_115 (by decide) ?_
                refine R_icne (pc := 116) 123 dX9_set_116 (by decide) (fun b116_408 => ?_) (fun b116_408 => ?_)
                · skip
                  refine R_aload_n (pc := 123) dX9_set_123 rfl rfl ?_
                  refine g_X9_48 (pc := 124) (v := .int (σ.1 14014)) rfl dX9_set_124 (c_140 _) rfl ?_
                  refine p_X9_48 (pc := 127) rfl dX9_set_127 (c_140 _) (Nat.le_of_ble_eq_true rfl) rfl rfl (s_140_14 _ _) ?_
                  have hW409 := cor_ci 14014 (σ.1 14014) hW407
                  refine R_iload_n (pc := 130) dX9_set_130 rfl rfl ?_
                  exact R_iret (pc := 131) dX9_set_131 rfl rfl (Nat.zero_le _) (Nat.zero_le _) ⟨_, rfl, _, rfl, hI⟩
                · skip
                  refine R_iload_n (pc := 119) dX9_set_119 rfl rfl ?_
                  refine R_goto (pc := 120) 127 dX9_set_120 (by decide) ?_
                  refine p_X9_48 (pc := 127) rfl dX9_set_127 (c_140 _) (Nat.le_of_ble_eq_true rfl) rfl rfl (s_140_14 _ _) ?_
                  have hW410 := cor_ci 14014 b hW407
                  refine R_iload_n (pc := 130) dX9_set_130 rfl rfl ?_
                  exact R_iret (pc := 131) dX9_set_131 rfl rfl (Nat.zero_le _) (Nat.zero_le _) ⟨_, rfl, _, rfl, hI⟩
              · skip
                refine R_iload_n (pc := 102) dX9_set_102 rfl rfl ?_
                refine R_goto (pc := 103) 110 dX9_set_103 (by decide) ?_
                refine p_X9_45 (pc := 110) rfl dX9_set_110 (c_140 _) (Nat.le_of_ble_eq_true rfl) rfl rfl (s_140_13 _ _) ?_
                have hW411 := cor_ci 14013 b hW405
                refine R_aload_n (pc := 113) dX9_set_113 rfl rfl ?_
                refine R_iload_n (pc := 114) dX9_set_114 rfl rfl ?_
                refine R_iconst (pc := 115) (v := 2) dX9_set_115 (by decide) ?_
                refine R_icne (pc := 116) 123 dX9_set_116 (by decide) (fun b116_412 => ?_) (fun b116_412 => ?_)
                · skip
                  refine R_aload_n (pc := 123) dX9_set_123 rfl rfl ?_
                  refine g_X9_48 (pc := 124) (v := .int (σ.1 14014)) rfl dX9_set_124 (c_140 _) rfl ?_
                  refine p_X9_48 (pc := 127) rfl dX9_set_127 (c_140 _) (Nat.le_of_ble_eq_true rfl) rfl rfl (s_140_14 _ _) ?_
                  have hW413 := cor_ci 14014 (σ.1 14014) hW411
                  refine R_iload_n (pc := 130) dX9_set_130 rfl rfl ?_
                  exact R_iret (pc := 131) dX9_set_131 rfl rfl (Nat.zero_le _) (Nat.zero_le _) ⟨_, rfl, _, rfl, hI⟩
                · skip
                  refine R_iload_n (pc := 119) dX9_set_119 rfl rfl ?_
                  refine R_goto (pc := 120) 127 dX9_set_120 (by decide) ?_
                  refine p_X9_48 (pc := 127) rfl dX9_set_127 (c_140 _) (Nat.le_of_ble_eq_true rfl) rfl rfl (s_140_14 _ _) ?_
                  have hW414 := cor_ci 14014 b hW411
                  refine R_iload_n (pc := 130) dX9_set_130 rfl rfl ?_
                  exact R_iret (pc := 131) dX9_set_131 rfl rfl (Nat.zero_le _) (Nat.zero_le _) ⟨_, rfl, _, rfl, hI⟩
        · skip
          refine R_ifne (pc := 46) 52 dX9_set_46 (by decide) (fun h => absurd (by decide) h) (fun _ => ?_)
          refine R_bipush (pc := 49) (v := (-3)) dX9_set_49 (by decide) ?_
          exact R_iret (pc := 51) dX9_set_51 rfl rfl (Nat.zero_le _) (Nat.zero_le _) ⟨_, rfl, _, rfl, hI⟩
  · skip
    refine R_ifeq (pc := 6) 49 dX9_set_6 (by decide) (fun _ => ?_) (fun h => absurd (by decide) h)
    refine R_bipush (pc := 49) (v := (-3)) dX9_set_49 (by decide) ?_
    exact R_iret (pc := 51) dX9_set_51 rfl rfl (Nat.zero_le _) (Nat.zero_le _) ⟨_, rfl, _, rfl, hI⟩
