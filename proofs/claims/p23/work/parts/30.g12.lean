/-! methods on any state that keeps the invariant -/
theorem dX9_bit_0 : decode cX9_bit 0 = .ok (.lload_n 0, 1) := by decide +kernel
theorem dX9_bit_1 : decode cX9_bit 1 = .ok (.bipush 8, 2) := by decide +kernel
theorem dX9_bit_3 : decode cX9_bit 3 = .ok (.iload_n 3, 1) := by decide +kernel
theorem dX9_bit_4 : decode cX9_bit 4 = .ok (.imul, 1) := by decide +kernel
theorem dX9_bit_5 : decode cX9_bit 5 = .ok (.iload_n 2, 1) := by decide +kernel
theorem dX9_bit_6 : decode cX9_bit 6 = .ok (.iadd, 1) := by decide +kernel
theorem dX9_bit_7 : decode cX9_bit 7 = .ok (.lshr, 1) := by decide +kernel
theorem dX9_bit_8 : decode cX9_bit 8 = .ok (.lconst 1, 1) := by decide +kernel
theorem dX9_bit_9 : decode cX9_bit 9 = .ok (.land, 1) := by decide +kernel
theorem dX9_bit_10 : decode cX9_bit 10 = .ok (.l2i, 1) := by decide +kernel
theorem dX9_bit_11 : decode cX9_bit 11 = .ok (.ireturn, 1) := by decide +kernel
set_option maxRecDepth 100000 in
set_option maxHeartbeats 40000000 in
theorem gx_X9_bit {G : vG} {l : Launch} (w : VW) (p : Int64) (a b : Int32) : Sp G l yX9_bit cX9_bit 4 (some .int) 0 0 0 [.long p, .int a, .int b] (w) (QI (fun _ w2 => w2 = w)) := by
  refine Sp_of_R [(some (.long p)), none, (some (.int a)), (some (.int b))] [] rfl (by simp) rfl (Nat.le_of_ble_eq_true rfl) ?_
  refine R_lload_n (pc := 0) dX9_bit_0 rfl rfl ?_
  refine R_bipush (pc := 1) (v := 8) dX9_bit_1 (by decide) ?_
  refine R_iload_n (pc := 3) dX9_bit_3 rfl rfl ?_
  refine R_imul (pc := 4) dX9_bit_4 ?_
  refine R_iload_n (pc := 5) dX9_bit_5 rfl rfl ?_
  refine R_iadd (pc := 6) dX9_bit_6 ?_
  refine R_lshr (pc := 7) dX9_bit_7 ?_
  refine R_lconst (pc := 8) (v := 1) dX9_bit_8 (by decide) ?_
  refine R_land (pc := 9) dX9_bit_9 ?_
  refine R_l2i (pc := 10) dX9_bit_10 ?_
  exact R_iret (pc := 11) dX9_bit_11 rfl rfl (Nat.zero_le _) (Nat.zero_le _) ⟨_, rfl, rfl⟩
theorem dX9_unlikeBy_0 : decode cX9_unlikeBy 0 = .ok (.iconst 0, 1) := by decide +kernel
theorem dX9_unlikeBy_1 : decode cX9_unlikeBy 1 = .ok (.istore 5, 2) := by decide +kernel
theorem dX9_unlikeBy_3 : decode cX9_unlikeBy 3 = .ok (.iconst 0, 1) := by decide +kernel
theorem dX9_unlikeBy_4 : decode cX9_unlikeBy 4 = .ok (.istore 6, 2) := by decide +kernel
theorem dX9_unlikeBy_6 : decode cX9_unlikeBy 6 = .ok (.aload_n 0, 1) := by decide +kernel
theorem dX9_unlikeBy_7 : decode cX9_unlikeBy 7 = .ok (.getfield 26, 3) := by decide +kernel
theorem dX9_unlikeBy_10 : decode cX9_unlikeBy 10 = .ok (.iload_n 1, 1) := by decide +kernel
theorem dX9_unlikeBy_11 : decode cX9_unlikeBy 11 = .ok (.iaload, 1) := by decide +kernel
theorem dX9_unlikeBy_12 : decode cX9_unlikeBy 12 = .ok (.istore 7, 2) := by decide +kernel
theorem dX9_unlikeBy_14 : decode cX9_unlikeBy 14 = .ok (.iload 7, 2) := by decide +kernel
theorem dX9_unlikeBy_16 : decode cX9_unlikeBy 16 = .ok (.bipush 8, 2) := by decide +kernel
theorem dX9_unlikeBy_18 : decode cX9_unlikeBy 18 = .ok (.if_icmp .ge 104, 3) := by decide +kernel
theorem dX9_unlikeBy_21 : decode cX9_unlikeBy 21 = .ok (.iconst 0, 1) := by decide +kernel
theorem dX9_unlikeBy_22 : decode cX9_unlikeBy 22 = .ok (.istore 8, 2) := by decide +kernel
theorem dX9_unlikeBy_24 : decode cX9_unlikeBy 24 = .ok (.iload 8, 2) := by decide +kernel
theorem dX9_unlikeBy_26 : decode cX9_unlikeBy 26 = .ok (.bipush 8, 2) := by decide +kernel
theorem dX9_unlikeBy_28 : decode cX9_unlikeBy 28 = .ok (.if_icmp .ge 88, 3) := by decide +kernel
theorem dX9_unlikeBy_31 : decode cX9_unlikeBy 31 = .ok (.iload 8, 2) := by decide +kernel
theorem dX9_unlikeBy_33 : decode cX9_unlikeBy 33 = .ok (.iload_n 3, 1) := by decide +kernel
theorem dX9_unlikeBy_34 : decode cX9_unlikeBy 34 = .ok (.iadd, 1) := by decide +kernel
theorem dX9_unlikeBy_35 : decode cX9_unlikeBy 35 = .ok (.iconst 0, 1) := by decide +kernel
theorem dX9_unlikeBy_36 : decode cX9_unlikeBy 36 = .ok (.bipush 7, 2) := by decide +kernel
theorem dX9_unlikeBy_38 : decode cX9_unlikeBy 38 = .ok (.invokestatic 124, 3) := by decide +kernel
theorem dX9_unlikeBy_41 : decode cX9_unlikeBy 41 = .ok (.ifCond .eq 69, 3) := by decide +kernel
theorem dX9_unlikeBy_44 : decode cX9_unlikeBy 44 = .ok (.iload 7, 2) := by decide +kernel
theorem dX9_unlikeBy_46 : decode cX9_unlikeBy 46 = .ok (.iload 4, 2) := by decide +kernel
theorem dX9_unlikeBy_48 : decode cX9_unlikeBy 48 = .ok (.iadd, 1) := by decide +kernel
theorem dX9_unlikeBy_49 : decode cX9_unlikeBy 49 = .ok (.aload_n 0, 1) := by decide +kernel
theorem dX9_unlikeBy_50 : decode cX9_unlikeBy 50 = .ok (.getfield 26, 3) := by decide +kernel
theorem dX9_unlikeBy_53 : decode cX9_unlikeBy 53 = .ok (.iload_n 2, 1) := by decide +kernel
theorem dX9_unlikeBy_54 : decode cX9_unlikeBy 54 = .ok (.iaload, 1) := by decide +kernel
theorem dX9_unlikeBy_55 : decode cX9_unlikeBy 55 = .ok (.bipush 7, 2) := by decide +kernel
theorem dX9_unlikeBy_57 : decode cX9_unlikeBy 57 = .ok (.invokestatic 124, 3) := by decide +kernel
theorem dX9_unlikeBy_60 : decode cX9_unlikeBy 60 = .ok (.ifCond .eq 50, 3) := by decide +kernel
theorem dX9_unlikeBy_63 : decode cX9_unlikeBy 63 = .ok (.iinc 5 1, 3) := by decide +kernel
theorem dX9_unlikeBy_66 : decode cX9_unlikeBy 66 = .ok (.iload 6, 2) := by decide +kernel
theorem dX9_unlikeBy_68 : decode cX9_unlikeBy 68 = .ok (.aload_n 0, 1) := by decide +kernel
theorem dX9_unlikeBy_69 : decode cX9_unlikeBy 69 = .ok (.getfield 22, 3) := by decide +kernel
theorem dX9_unlikeBy_72 : decode cX9_unlikeBy 72 = .ok (.iload_n 1, 1) := by decide +kernel
theorem dX9_unlikeBy_73 : decode cX9_unlikeBy 73 = .ok (.laload, 1) := by decide +kernel
theorem dX9_unlikeBy_74 : decode cX9_unlikeBy 74 = .ok (.iload 8, 2) := by decide +kernel
theorem dX9_unlikeBy_76 : decode cX9_unlikeBy 76 = .ok (.iload 7, 2) := by decide +kernel
theorem dX9_unlikeBy_78 : decode cX9_unlikeBy 78 = .ok (.invokestatic 140, 3) := by decide +kernel
theorem dX9_unlikeBy_81 : decode cX9_unlikeBy 81 = .ok (.aload_n 0, 1) := by decide +kernel
theorem dX9_unlikeBy_82 : decode cX9_unlikeBy 82 = .ok (.getfield 22, 3) := by decide +kernel
theorem dX9_unlikeBy_85 : decode cX9_unlikeBy 85 = .ok (.iload_n 2, 1) := by decide +kernel
theorem dX9_unlikeBy_86 : decode cX9_unlikeBy 86 = .ok (.laload, 1) := by decide +kernel
theorem dX9_unlikeBy_87 : decode cX9_unlikeBy 87 = .ok (.iload 8, 2) := by decide +kernel
theorem dX9_unlikeBy_89 : decode cX9_unlikeBy 89 = .ok (.iload_n 3, 1) := by decide +kernel
theorem dX9_unlikeBy_90 : decode cX9_unlikeBy 90 = .ok (.iadd, 1) := by decide +kernel
theorem dX9_unlikeBy_91 : decode cX9_unlikeBy 91 = .ok (.iload 7, 2) := by decide +kernel
theorem dX9_unlikeBy_93 : decode cX9_unlikeBy 93 = .ok (.iload 4, 2) := by decide +kernel
theorem dX9_unlikeBy_95 : decode cX9_unlikeBy 95 = .ok (.iadd, 1) := by decide +kernel
theorem dX9_unlikeBy_96 : decode cX9_unlikeBy 96 = .ok (.invokestatic 140, 3) := by decide +kernel
theorem dX9_unlikeBy_99 : decode cX9_unlikeBy 99 = .ok (.if_icmp .eq 7, 3) := by decide +kernel
theorem dX9_unlikeBy_102 : decode cX9_unlikeBy 102 = .ok (.iconst 1, 1) := by decide +kernel
theorem dX9_unlikeBy_103 : decode cX9_unlikeBy 103 = .ok (.goto 4, 3) := by decide +kernel
theorem dX9_unlikeBy_106 : decode cX9_unlikeBy 106 = .ok (.iconst 0, 1) := by decide +kernel
theorem dX9_unlikeBy_107 : decode cX9_unlikeBy 107 = .ok (.iadd, 1) := by decide +kernel
theorem dX9_unlikeBy_108 : decode cX9_unlikeBy 108 = .ok (.istore 6, 2) := by decide +kernel
theorem dX9_unlikeBy_110 : decode cX9_unlikeBy 110 = .ok (.iinc 8 1, 3) := by decide +kernel
theorem dX9_unlikeBy_113 : decode cX9_unlikeBy 113 = .ok (.goto (-89), 3) := by decide +kernel
theorem dX9_unlikeBy_116 : decode cX9_unlikeBy 116 = .ok (.iinc 7 1, 3) := by decide +kernel
theorem dX9_unlikeBy_119 : decode cX9_unlikeBy 119 = .ok (.goto (-105), 3) := by decide +kernel
theorem dX9_unlikeBy_122 : decode cX9_unlikeBy 122 = .ok (.iload 5, 2) := by decide +kernel
theorem dX9_unlikeBy_124 : decode cX9_unlikeBy 124 = .ok (.bipush 24, 2) := by decide +kernel
theorem dX9_unlikeBy_126 : decode cX9_unlikeBy 126 = .ok (.if_icmp .ge 7, 3) := by decide +kernel
theorem dX9_unlikeBy_129 : decode cX9_unlikeBy 129 = .ok (.iconst (-1), 1) := by decide +kernel
theorem dX9_unlikeBy_130 : decode cX9_unlikeBy 130 = .ok (.goto 5, 3) := by decide +kernel
theorem dX9_unlikeBy_133 : decode cX9_unlikeBy 133 = .ok (.iload 6, 2) := by decide +kernel
theorem dX9_unlikeBy_135 : decode cX9_unlikeBy 135 = .ok (.ireturn, 1) := by decide +kernel
set_option maxRecDepth 100000 in
set_option maxHeartbeats 40000000 in
theorem gx_X9_unlikeBy {G : vG} {l : Launch} (σ : Sg) (a b d f : Int32) (hI : Inv σ) (ha : inR a 0 19) (hb : inR b 0 19) : Sp G l yX9_unlikeBy cX9_unlikeBy 9 (some .int) 1 0 0 [.ref 140, .int a, .int b, .int d, .int f] (WW σ) (QI (fun x w2 => w2 = WW σ)) := by
  refine Sp_of_R [(some (.ref 140)), (some (.int a)), (some (.int b)), (some (.int d)), (some (.int f)), none, none, none, none] [none, none, none, none] rfl (by simp) rfl (Nat.le_of_ble_eq_true rfl) ?_
  refine R_iconst (pc := 0) (v := 0) dX9_unlikeBy_0 (by decide) ?_
  refine st_9_5_i_i (pc := 1) dX9_unlikeBy_1 ?_
  refine R_iconst (pc := 3) (v := 0) dX9_unlikeBy_3 (by decide) ?_
  refine st_9_6_i_i (pc := 4) dX9_unlikeBy_4 ?_
  refine R_aload_n (pc := 6) dX9_unlikeBy_6 rfl rfl ?_
  refine g_X9_26 (pc := 7) (v := .ref 146) rfl dX9_unlikeBy_7 (c_140 _) rfl ?_
  refine R_iload_n (pc := 10) dX9_unlikeBy_10 rfl rfl ?_
  have hx1 : vp_in a 20 := (vp_of_inR ha (by decide))
  refine R_iaload (pc := 11) dX9_unlikeBy_11 (c_146 _) hx1 ?_
  refine st_9_7_i_i (pc := 12) dX9_unlikeBy_12 ?_
  have HL14 : ∀ (q : Nat) (i14 : Int32) (g5_14 : Int32) (g6_14 : Int32) (g8_14 : Option Value), i14.toInt + (q : Int) = 8 → inR i14 0 8 → R G l yX9_unlikeBy cX9_unlikeBy 9 (some .int) 1 0 0 (QI (fun x w2 => w2 = WW σ)) 14 [(some (.ref 140)), (some (.int a)), (some (.int b)), (some (.int d)), (some (.int f)), (some (.int g5_14)), (some (.int g6_14)), (some (.int i14)), g8_14] [] (WW σ) 0 0 := by
    intro q
    induction q with
    | zero =>
      intro i14 g5_14 g6_14 g8_14 hj14 hr14
      have hM14_ : inR i14 8 8 := of_ti (by have z : (8 : Int32).toInt = 8 := (by decide); omega) (by have z : (8 : Int32).toInt = 8 := (by decide); omega)
      refine R_iload (pc := 14) dX9_unlikeBy_14 rfl ?_
      refine R_bipush (pc := 16) (v := 8) dX9_unlikeBy_16 (by decide) ?_
      refine R_icge (pc := 18) 122 dX9_unlikeBy_18 (by decide) (fun _ => ?_) (fun h => False.elim (by have q1 := ti_nle h; have q2 := ti_in (show inR i14 8 8 from hM14_); have q3 := ti_in (show inR 8 8 8 from (inR_self _)); have z0 : (8 : Int32).toInt = 8 := (by decide); omega))
      refine R_iload (pc := 122) dX9_unlikeBy_122 rfl ?_
      refine R_bipush (pc := 124) (v := 24) dX9_unlikeBy_124 (by decide) ?_
      refine R_icge (pc := 126) 133 dX9_unlikeBy_126 (by decide) (fun b126_3 => ?_) (fun b126_3 => ?_)
      · skip
        refine R_iload (pc := 133) dX9_unlikeBy_133 rfl ?_
        exact R_iret (pc := 135) dX9_unlikeBy_135 rfl rfl (Nat.zero_le _) (Nat.zero_le _) ⟨_, rfl, rfl⟩
      · skip
        refine R_iconst (pc := 129) (v := (-1)) dX9_unlikeBy_129 (by decide) ?_
        refine R_goto (pc := 130) 135 dX9_unlikeBy_130 (by decide) ?_
        exact R_iret (pc := 135) dX9_unlikeBy_135 rfl rfl (Nat.zero_le _) (Nat.zero_le _) ⟨_, rfl, rfl⟩
    | succ q ih14 =>
      intro i14 g5_14 g6_14 g8_14 hj14 hr14
      have hM14_ : inR i14 0 7 := of_ti (ti_in hr14).1 (by have z : (7 : Int32).toInt = 7 := (by decide); omega)
      refine R_iload (pc := 14) dX9_unlikeBy_14 rfl ?_
      refine R_bipush (pc := 16) (v := 8) dX9_unlikeBy_16 (by decide) ?_
      refine R_icge (pc := 18) 122 dX9_unlikeBy_18 (by decide) (fun h => False.elim (by have q1 := ti_le h; have q2 := ti_in (show inR i14 0 7 from hM14_); have q3 := ti_in (show inR 8 8 8 from (inR_self _)); have z0 : (0 : Int32).toInt = 0 := (by decide);  have z1 : (7 : Int32).toInt = 7 := (by decide);  have z2 : (8 : Int32).toInt = 8 := (by decide); omega)) (fun _ => ?_)
      refine R_iconst (pc := 21) (v := 0) dX9_unlikeBy_21 (by decide) ?_
      refine st_9_8_i_i (pc := 22) dX9_unlikeBy_22 ?_
      have HL24 : ∀ (q j24 : Nat) (g5_24 : Int32) (g6_24 : Int32), j24 + q = 8 → 0 ≤ j24 → R G l yX9_unlikeBy cX9_unlikeBy 9 (some .int) 1 0 0 (QI (fun x w2 => w2 = WW σ)) 24 [(some (.ref 140)), (some (.int a)), (some (.int b)), (some (.int d)), (some (.int f)), (some (.int g5_24)), (some (.int g6_24)), (some (.int i14)), (some (.int (nI j24)))] [] (WW σ) 0 0 := by
        intro q
        induction q with
        | zero =>
          intro j24 g5_24 g6_24 hj hs24
          obtain rfl : j24 = 8 := by omega
          refine R_iload (pc := 24) dX9_unlikeBy_24 rfl ?_
          refine R_bipush (pc := 26) (v := 8) dX9_unlikeBy_26 (by decide) ?_
          refine R_icge (pc := 28) 116 dX9_unlikeBy_28 (by decide) (fun _ => ?_) (fun h => absurd (by decide) h)
          refine inc_9_7_1_i (pc := 116) dX9_unlikeBy_116 ?_
          have r6 : inR (i14 + 1) 1 8 := inR_add (show inR i14 0 7 from hM14_) (show inR 1 1 1 from (inR_self _)) (by decide) (by decide)
          have e7 := ti_add (l := 1) (h := 8) (show inR i14 0 7 from hM14_) (show inR 1 1 1 from (inR_self _)) (by decide) (by decide)
          refine R_goto (pc := 119) 14 dX9_unlikeBy_119 (by decide) ?_
          exact ih14 (i14 + 1) _ _ _ (by have q0 := e7; have q1 := ti_in ha; have q2 := ti_in hb; have q3 := ti_in (iva_146 hI _ (lt_of_vp hx1)); have q4 := ti_in hM14_; have q5 := ti_in r6; have q6 := hj14; have z0 : (0 : Int32).toInt = 0 := (by decide); have z1 : (1 : Int32).toInt = 1 := (by decide); have z2 : (19 : Int32).toInt = 19 := (by decide); have z3 : (4 : Int32).toInt = 4 := (by decide); have z4 : (7 : Int32).toInt = 7 := (by decide); have z5 : (8 : Int32).toInt = 8 := (by decide); omega) (inR_up r6 (by decide) (by decide))
        | succ q ih24 =>
          intro j24 g5_24 g6_24 hj hs24
          have hr24 : inR (nI j24) 0 7 := inR_ix hs24 (show j24 < 8 by omega) (by decide) (by decide) (by decide)
          have hlt24 : j24 < 8 := by omega
          refine R_iload (pc := 24) dX9_unlikeBy_24 rfl ?_
          refine R_bipush (pc := 26) (v := 8) dX9_unlikeBy_26 (by decide) ?_
          refine R_icge (pc := 28) 116 dX9_unlikeBy_28 (by decide) (fun h => False.elim (by have q1 := ti_le h; have q2 := ti_in (show inR (nI j24) 0 7 from hr24); have q3 := ti_in (show inR 8 8 8 from (inR_self _)); have z0 : (0 : Int32).toInt = 0 := (by decide);  have z1 : (7 : Int32).toInt = 7 := (by decide);  have z2 : (8 : Int32).toInt = 8 := (by decide); omega)) (fun _ => ?_)
          refine R_iload (pc := 31) dX9_unlikeBy_31 rfl ?_
          refine R_iload_n (pc := 33) dX9_unlikeBy_33 rfl rfl ?_
          refine R_iadd (pc := 34) dX9_unlikeBy_34 ?_
          refine R_iconst (pc := 35) (v := 0) dX9_unlikeBy_35 (by decide) ?_
          refine R_bipush (pc := 36) (v := 7) dX9_unlikeBy_36 (by decide) ?_
          refine k_X9_124 (pc := 38) (sp_X9_in _ _ _ _) rfl (by decide) (Nat.le_refl _) (Nat.le_refl _) (Nat.le_of_ble_eq_true rfl) dX9_unlikeBy_38 (fun x w2 h => ?_)
          rcases h with ⟨rfl, ⟨h9, rfl⟩ | ⟨h9, rfl⟩⟩
          · skip
            refine R_ifeq (pc := 41) 110 dX9_unlikeBy_41 (by decide) (fun h => absurd h (by decide)) (fun _ => ?_)
            refine R_iload (pc := 44) dX9_unlikeBy_44 rfl ?_
            refine R_iload (pc := 46) dX9_unlikeBy_46 rfl ?_
            refine R_iadd (pc := 48) dX9_unlikeBy_48 ?_
            refine R_aload_n (pc := 49) dX9_unlikeBy_49 rfl rfl ?_
            refine g_X9_26 (pc := 50) (v := .ref 146) rfl dX9_unlikeBy_50 (c_140 _) rfl ?_
            refine R_iload_n (pc := 53) dX9_unlikeBy_53 rfl rfl ?_
            have hx11 : vp_in b 20 := (vp_of_inR hb (by decide))
            refine R_iaload (pc := 54) dX9_unlikeBy_54 (c_146 _) hx11 ?_
            refine R_bipush (pc := 55) (v := 7) dX9_unlikeBy_55 (by decide) ?_
            refine k_X9_124 (pc := 57) (sp_X9_in _ _ _ _) rfl (by decide) (Nat.le_refl _) (Nat.le_refl _) (Nat.le_of_ble_eq_true rfl) dX9_unlikeBy_57 (fun x w2 h => ?_)
            rcases h with ⟨rfl, ⟨h12, rfl⟩ | ⟨h12, rfl⟩⟩
            · skip
              refine R_ifeq (pc := 60) 110 dX9_unlikeBy_60 (by decide) (fun h => absurd h (by decide)) (fun _ => ?_)
              refine inc_9_5_1_i (pc := 63) dX9_unlikeBy_63 ?_
              refine R_iload (pc := 66) dX9_unlikeBy_66 rfl ?_
              refine R_aload_n (pc := 68) dX9_unlikeBy_68 rfl rfl ?_
              refine g_X9_22 (pc := 69) (v := .ref 145) rfl dX9_unlikeBy_69 (c_140 _) rfl ?_
              refine R_iload_n (pc := 72) dX9_unlikeBy_72 rfl rfl ?_
              have hx14 : vp_in a 20 := (vp_of_inR ha (by decide))
              refine R_laload (pc := 73) dX9_unlikeBy_73 (c_145 _) hx14 ?_
              refine R_iload (pc := 74) dX9_unlikeBy_74 rfl ?_
              refine R_iload (pc := 76) dX9_unlikeBy_76 rfl ?_
              refine k_X9_140 (pc := 78) (gx_X9_bit _ _ _ _) rfl (by decide) (Nat.le_refl _) (Nat.le_refl _) (Nat.le_of_ble_eq_true rfl) dX9_unlikeBy_78 (fun y15 w2 h => ?_)
              subst h
              refine R_aload_n (pc := 81) dX9_unlikeBy_81 rfl rfl ?_
              refine g_X9_22 (pc := 82) (v := .ref 145) rfl dX9_unlikeBy_82 (c_140 _) rfl ?_
              refine R_iload_n (pc := 85) dX9_unlikeBy_85 rfl rfl ?_
              have hx16 : vp_in b 20 := (vp_of_inR hb (by decide))
              refine R_laload (pc := 86) dX9_unlikeBy_86 (c_145 _) hx16 ?_
              refine R_iload (pc := 87) dX9_unlikeBy_87 rfl ?_
              refine R_iload_n (pc := 89) dX9_unlikeBy_89 rfl rfl ?_
              refine R_iadd (pc := 90) dX9_unlikeBy_90 ?_
              refine R_iload (pc := 91) dX9_unlikeBy_91 rfl ?_
              refine R_iload (pc := 93) dX9_unlikeBy_93 rfl ?_
              refine R_iadd (pc := 95) dX9_unlikeBy_95 ?_
              refine k_X9_140 (pc := 96) (gx_X9_bit _ _ _ _) rfl (by decide) (Nat.le_refl _) (Nat.le_refl _) (Nat.le_of_ble_eq_true rfl) dX9_unlikeBy_96 (fun y17 w2 h => ?_)
              subst h
              refine R_iceq (pc := 99) 106 dX9_unlikeBy_99 (by decide) (fun b99_18 => ?_) (fun b99_18 => ?_)
              · skip
                refine R_iconst (pc := 106) (v := 0) dX9_unlikeBy_106 (by decide) ?_
                refine R_iadd (pc := 107) dX9_unlikeBy_107 ?_
                refine st_9_6_i_i (pc := 108) dX9_unlikeBy_108 ?_
                refine inc_9_8_1_i (pc := 110) dX9_unlikeBy_110 ?_
                have r19 : inR ((nI j24) + 1) 1 8 := inR_add (show inR (nI j24) 0 7 from hr24) (show inR 1 1 1 from (inR_self _)) (by decide) (by decide)
                have e20 := ti_add (l := 1) (h := 8) (show inR (nI j24) 0 7 from hr24) (show inR 1 1 1 from (inR_self _)) (by decide) (by decide)
                refine R_goto (pc := 113) 24 dX9_unlikeBy_113 (by decide) ?_
                rw [nI_1]
                exact ih24 (j24 + 1) _ _ (by omega) (by omega)
              · skip
                refine R_iconst (pc := 102) (v := 1) dX9_unlikeBy_102 (by decide) ?_
                refine R_goto (pc := 103) 107 dX9_unlikeBy_103 (by decide) ?_
                refine R_iadd (pc := 107) dX9_unlikeBy_107 ?_
                refine st_9_6_i_i (pc := 108) dX9_unlikeBy_108 ?_
                refine inc_9_8_1_i (pc := 110) dX9_unlikeBy_110 ?_
                have r21 : inR ((nI j24) + 1) 1 8 := inR_add (show inR (nI j24) 0 7 from hr24) (show inR 1 1 1 from (inR_self _)) (by decide) (by decide)
                have e22 := ti_add (l := 1) (h := 8) (show inR (nI j24) 0 7 from hr24) (show inR 1 1 1 from (inR_self _)) (by decide) (by decide)
                refine R_goto (pc := 113) 24 dX9_unlikeBy_113 (by decide) ?_
                rw [nI_1]
                exact ih24 (j24 + 1) _ _ (by omega) (by omega)
            · skip
              refine R_ifeq (pc := 60) 110 dX9_unlikeBy_60 (by decide) (fun _ => ?_) (fun h => absurd (by decide) h)
              refine inc_9_8_1_i (pc := 110) dX9_unlikeBy_110 ?_
              have r24 : inR ((nI j24) + 1) 1 8 := inR_add (show inR (nI j24) 0 7 from hr24) (show inR 1 1 1 from (inR_self _)) (by decide) (by decide)
              have e25 := ti_add (l := 1) (h := 8) (show inR (nI j24) 0 7 from hr24) (show inR 1 1 1 from (inR_self _)) (by decide) (by decide)
              refine R_goto (pc := 113) 24 dX9_unlikeBy_113 (by decide) ?_
              rw [nI_1]
              exact ih24 (j24 + 1) _ _ (by omega) (by omega)
          · skip
            refine R_ifeq (pc := 41) 110 dX9_unlikeBy_41 (by decide) (fun _ => ?_) (fun h => absurd (by decide) h)
            refine inc_9_8_1_i (pc := 110) dX9_unlikeBy_110 ?_
            have r27 : inR ((nI j24) + 1) 1 8 := inR_add (show inR (nI j24) 0 7 from hr24) (show inR 1 1 1 from (inR_self _)) (by decide) (by decide)
            have e28 := ti_add (l := 1) (h := 8) (show inR (nI j24) 0 7 from hr24) (show inR 1 1 1 from (inR_self _)) (by decide) (by decide)
            refine R_goto (pc := 113) 24 dX9_unlikeBy_113 (by decide) ?_
            rw [nI_1]
            exact ih24 (j24 + 1) _ _ (by omega) (by omega)
      exact HL24 8 0 _ _ (by omega) (by omega)
  exact HL14 ((8 : Int) - (σ.2.2.1 146 (Int32.toNatClampNeg a)).toInt).toNat (σ.2.2.1 146 (Int32.toNatClampNeg a)) _ _ _ (by have q0 := ti_in ha; have q1 := ti_in hb; have q2 := ti_in (iva_146 hI _ (lt_of_vp hx1)); have z0 : (0 : Int32).toInt = 0 := (by decide); have z1 : (1 : Int32).toInt = 1 := (by decide); have z2 : (19 : Int32).toInt = 19 := (by decide); have z3 : (4 : Int32).toInt = 4 := (by decide); omega) (inR_up (iva_146 hI _ (lt_of_vp hx1)) (by decide) (by decide))
theorem dX9_unlikeOf_0 : decode cX9_unlikeOf 0 = .ok (.iconst (-1), 1) := by decide +kernel
theorem dX9_unlikeOf_1 : decode cX9_unlikeOf 1 = .ok (.istore_n 3, 1) := by decide +kernel
theorem dX9_unlikeOf_2 : decode cX9_unlikeOf 2 = .ok (.iconst 0, 1) := by decide +kernel
theorem dX9_unlikeOf_3 : decode cX9_unlikeOf 3 = .ok (.istore 4, 2) := by decide +kernel
theorem dX9_unlikeOf_5 : decode cX9_unlikeOf 5 = .ok (.iload 4, 2) := by decide +kernel
theorem dX9_unlikeOf_7 : decode cX9_unlikeOf 7 = .ok (.bipush 25, 2) := by decide +kernel
theorem dX9_unlikeOf_9 : decode cX9_unlikeOf 9 = .ok (.if_icmp .ge 53, 3) := by decide +kernel
theorem dX9_unlikeOf_12 : decode cX9_unlikeOf 12 = .ok (.aload_n 0, 1) := by decide +kernel
theorem dX9_unlikeOf_13 : decode cX9_unlikeOf 13 = .ok (.iload_n 1, 1) := by decide +kernel
theorem dX9_unlikeOf_14 : decode cX9_unlikeOf 14 = .ok (.iload_n 2, 1) := by decide +kernel
theorem dX9_unlikeOf_15 : decode cX9_unlikeOf 15 = .ok (.iload 4, 2) := by decide +kernel
theorem dX9_unlikeOf_17 : decode cX9_unlikeOf 17 = .ok (.iconst 5, 1) := by decide +kernel
theorem dX9_unlikeOf_18 : decode cX9_unlikeOf 18 = .ok (.irem, 1) := by decide +kernel
theorem dX9_unlikeOf_19 : decode cX9_unlikeOf 19 = .ok (.iconst 2, 1) := by decide +kernel
theorem dX9_unlikeOf_20 : decode cX9_unlikeOf 20 = .ok (.isub, 1) := by decide +kernel
theorem dX9_unlikeOf_21 : decode cX9_unlikeOf 21 = .ok (.iload 4, 2) := by decide +kernel
theorem dX9_unlikeOf_23 : decode cX9_unlikeOf 23 = .ok (.iconst 5, 1) := by decide +kernel
theorem dX9_unlikeOf_24 : decode cX9_unlikeOf 24 = .ok (.idiv, 1) := by decide +kernel
theorem dX9_unlikeOf_25 : decode cX9_unlikeOf 25 = .ok (.iconst 2, 1) := by decide +kernel
theorem dX9_unlikeOf_26 : decode cX9_unlikeOf 26 = .ok (.isub, 1) := by decide +kernel
theorem dX9_unlikeOf_27 : decode cX9_unlikeOf 27 = .ok (.invokevirtual 144, 3) := by decide +kernel
theorem dX9_unlikeOf_30 : decode cX9_unlikeOf 30 = .ok (.istore 5, 2) := by decide +kernel
theorem dX9_unlikeOf_32 : decode cX9_unlikeOf 32 = .ok (.iload 5, 2) := by decide +kernel
theorem dX9_unlikeOf_34 : decode cX9_unlikeOf 34 = .ok (.iconst (-1), 1) := by decide +kernel
theorem dX9_unlikeOf_35 : decode cX9_unlikeOf 35 = .ok (.if_icmp .eq 19, 3) := by decide +kernel
theorem dX9_unlikeOf_38 : decode cX9_unlikeOf 38 = .ok (.iload_n 3, 1) := by decide +kernel
theorem dX9_unlikeOf_39 : decode cX9_unlikeOf 39 = .ok (.iconst (-1), 1) := by decide +kernel
theorem dX9_unlikeOf_40 : decode cX9_unlikeOf 40 = .ok (.if_icmp .eq 9, 3) := by decide +kernel
theorem dX9_unlikeOf_43 : decode cX9_unlikeOf 43 = .ok (.iload 5, 2) := by decide +kernel
theorem dX9_unlikeOf_45 : decode cX9_unlikeOf 45 = .ok (.iload_n 3, 1) := by decide +kernel
theorem dX9_unlikeOf_46 : decode cX9_unlikeOf 46 = .ok (.if_icmp .ge 8, 3) := by decide +kernel
theorem dX9_unlikeOf_49 : decode cX9_unlikeOf 49 = .ok (.iload 5, 2) := by decide +kernel
theorem dX9_unlikeOf_51 : decode cX9_unlikeOf 51 = .ok (.goto 4, 3) := by decide +kernel
theorem dX9_unlikeOf_54 : decode cX9_unlikeOf 54 = .ok (.iload_n 3, 1) := by decide +kernel
theorem dX9_unlikeOf_55 : decode cX9_unlikeOf 55 = .ok (.istore_n 3, 1) := by decide +kernel
theorem dX9_unlikeOf_56 : decode cX9_unlikeOf 56 = .ok (.iinc 4 1, 3) := by decide +kernel
theorem dX9_unlikeOf_59 : decode cX9_unlikeOf 59 = .ok (.goto (-54), 3) := by decide +kernel
theorem dX9_unlikeOf_62 : decode cX9_unlikeOf 62 = .ok (.iload_n 3, 1) := by decide +kernel
theorem dX9_unlikeOf_63 : decode cX9_unlikeOf 63 = .ok (.ireturn, 1) := by decide +kernel
set_option maxRecDepth 100000 in
set_option maxHeartbeats 40000000 in
theorem gx_X9_unlikeOf {G : vG} {l : Launch} (σ : Sg) (a b : Int32) (hI : Inv σ) (ha : inR a 0 19) (hb : inR b 0 19) : Sp G l yX9_unlikeOf cX9_unlikeOf 6 (some .int) 2 0 0 [.ref 140, .int a, .int b] (WW σ) (QI (fun x w2 => w2 = WW σ)) := by
  refine Sp_of_R [(some (.ref 140)), (some (.int a)), (some (.int b)), none, none, none] [none, none, none] rfl (by simp) rfl (Nat.le_of_ble_eq_true rfl) ?_
  refine R_iconst (pc := 0) (v := (-1)) dX9_unlikeOf_0 (by decide) ?_
  refine st_6_3_i_i (pc := 1) dX9_unlikeOf_1 ?_
  refine R_iconst (pc := 2) (v := 0) dX9_unlikeOf_2 (by decide) ?_
  refine st_6_4_i_i (pc := 3) dX9_unlikeOf_3 ?_
  have HL5 : ∀ (q j5 : Nat) (g3_5 : Int32) (g5_5 : Option Value), j5 + q = 25 → 0 ≤ j5 → R G l yX9_unlikeOf cX9_unlikeOf 6 (some .int) 2 0 0 (QI (fun x w2 => w2 = WW σ)) 5 [(some (.ref 140)), (some (.int a)), (some (.int b)), (some (.int g3_5)), (some (.int (nI j5))), g5_5] [] (WW σ) 0 0 := by
    intro q
    induction q with
    | zero =>
      intro j5 g3_5 g5_5 hj hs5
      obtain rfl : j5 = 25 := by omega
      refine R_iload (pc := 5) dX9_unlikeOf_5 rfl ?_
      refine R_bipush (pc := 7) (v := 25) dX9_unlikeOf_7 (by decide) ?_
      refine R_icge (pc := 9) 62 dX9_unlikeOf_9 (by decide) (fun _ => ?_) (fun h => absurd (by decide) h)
      refine R_iload_n (pc := 62) dX9_unlikeOf_62 rfl rfl ?_
      exact R_iret (pc := 63) dX9_unlikeOf_63 rfl rfl (Nat.zero_le _) (Nat.zero_le _) ⟨_, rfl, rfl⟩
    | succ q ih5 =>
      intro j5 g3_5 g5_5 hj hs5
      have hr5 : inR (nI j5) 0 24 := inR_ix hs5 (show j5 < 25 by omega) (by decide) (by decide) (by decide)
      have hlt5 : j5 < 25 := by omega
      refine R_iload (pc := 5) dX9_unlikeOf_5 rfl ?_
      refine R_bipush (pc := 7) (v := 25) dX9_unlikeOf_7 (by decide) ?_
      refine R_icge (pc := 9) 62 dX9_unlikeOf_9 (by decide) (fun h => False.elim (by have q1 := ti_le h; have q2 := ti_in (show inR (nI j5) 0 24 from hr5); have q3 := ti_in (show inR 25 25 25 from (inR_self _)); have z0 : (0 : Int32).toInt = 0 := (by decide);  have z1 : (24 : Int32).toInt = 24 := (by decide);  have z2 : (25 : Int32).toInt = 25 := (by decide); omega)) (fun _ => ?_)
      refine R_aload_n (pc := 12) dX9_unlikeOf_12 rfl rfl ?_
      refine R_iload_n (pc := 13) dX9_unlikeOf_13 rfl rfl ?_
      refine R_iload_n (pc := 14) dX9_unlikeOf_14 rfl rfl ?_
      refine R_iload (pc := 15) dX9_unlikeOf_15 rfl ?_
      refine R_iconst (pc := 17) (v := 5) dX9_unlikeOf_17 (by decide) ?_
      refine R_irem (pc := 18) dX9_unlikeOf_18 (by decide) ?_
      refine R_iconst (pc := 19) (v := 2) dX9_unlikeOf_19 (by decide) ?_
      refine R_isub (pc := 20) dX9_unlikeOf_20 ?_
      refine R_iload (pc := 21) dX9_unlikeOf_21 rfl ?_
      refine R_iconst (pc := 23) (v := 5) dX9_unlikeOf_23 (by decide) ?_
      refine R_idiv (pc := 24) dX9_unlikeOf_24 (by decide) ?_
      refine R_iconst (pc := 25) (v := 2) dX9_unlikeOf_25 (by decide) ?_
      refine R_isub (pc := 26) dX9_unlikeOf_26 ?_
      refine k_X9_144 (pc := 27) (gx_X9_unlikeBy _ _ _ _ _ hI ha hb) rfl (c_140 _) (by decide) (Nat.le_refl _) (Nat.le_refl _) (Nat.le_of_ble_eq_true rfl) dX9_unlikeOf_27 (fun y3 w2 h => ?_)
      subst h
      refine st_6_5_i_i (pc := 30) dX9_unlikeOf_30 ?_
      refine R_iload (pc := 32) dX9_unlikeOf_32 rfl ?_
      refine R_iconst (pc := 34) (v := (-1)) dX9_unlikeOf_34 (by decide) ?_
      refine R_iceq (pc := 35) 54 dX9_unlikeOf_35 (by decide) (fun b35_4 => ?_) (fun b35_4 => ?_)
      · skip
        refine R_iload_n (pc := 54) dX9_unlikeOf_54 rfl rfl ?_
        refine st_6_3_i_i (pc := 55) dX9_unlikeOf_55 ?_
        refine inc_6_4_1_i (pc := 56) dX9_unlikeOf_56 ?_
        have r5 : inR ((nI j5) + 1) 1 25 := inR_add (show inR (nI j5) 0 24 from hr5) (show inR 1 1 1 from (inR_self _)) (by decide) (by decide)
        have e6 := ti_add (l := 1) (h := 25) (show inR (nI j5) 0 24 from hr5) (show inR 1 1 1 from (inR_self _)) (by decide) (by decide)
        refine R_goto (pc := 59) 5 dX9_unlikeOf_59 (by decide) ?_
        rw [nI_1]
        exact ih5 (j5 + 1) _ _ (by omega) (by omega)
      · skip
        refine R_iload_n (pc := 38) dX9_unlikeOf_38 rfl rfl ?_
        refine R_iconst (pc := 39) (v := (-1)) dX9_unlikeOf_39 (by decide) ?_
        refine R_iceq (pc := 40) 49 dX9_unlikeOf_40 (by decide) (fun b40_7 => ?_) (fun b40_7 => ?_)
        · skip
          refine R_iload (pc := 49) dX9_unlikeOf_49 rfl ?_
          refine R_goto (pc := 51) 55 dX9_unlikeOf_51 (by decide) ?_
          refine st_6_3_i_i (pc := 55) dX9_unlikeOf_55 ?_
          refine inc_6_4_1_i (pc := 56) dX9_unlikeOf_56 ?_
          have r8 : inR ((nI j5) + 1) 1 25 := inR_add (show inR (nI j5) 0 24 from hr5) (show inR 1 1 1 from (inR_self _)) (by decide) (by decide)
          have e9 := ti_add (l := 1) (h := 25) (show inR (nI j5) 0 24 from hr5) (show inR 1 1 1 from (inR_self _)) (by decide) (by decide)
          refine R_goto (pc := 59) 5 dX9_unlikeOf_59 (by decide) ?_
          rw [nI_1]
          exact ih5 (j5 + 1) _ _ (by omega) (by omega)
        · skip
          refine R_iload (pc := 43) dX9_unlikeOf_43 rfl ?_
          refine R_iload_n (pc := 45) dX9_unlikeOf_45 rfl rfl ?_
          refine R_icge (pc := 46) 54 dX9_unlikeOf_46 (by decide) (fun b46_10 => ?_) (fun b46_10 => ?_)
          · skip
            refine R_iload_n (pc := 54) dX9_unlikeOf_54 rfl rfl ?_
            refine st_6_3_i_i (pc := 55) dX9_unlikeOf_55 ?_
            refine inc_6_4_1_i (pc := 56) dX9_unlikeOf_56 ?_
            have r11 : inR ((nI j5) + 1) 1 25 := inR_add (show inR (nI j5) 0 24 from hr5) (show inR 1 1 1 from (inR_self _)) (by decide) (by decide)
            have e12 := ti_add (l := 1) (h := 25) (show inR (nI j5) 0 24 from hr5) (show inR 1 1 1 from (inR_self _)) (by decide) (by decide)
            refine R_goto (pc := 59) 5 dX9_unlikeOf_59 (by decide) ?_
            rw [nI_1]
            exact ih5 (j5 + 1) _ _ (by omega) (by omega)
          · skip
            refine R_iload (pc := 49) dX9_unlikeOf_49 rfl ?_
            refine R_goto (pc := 51) 55 dX9_unlikeOf_51 (by decide) ?_
            refine st_6_3_i_i (pc := 55) dX9_unlikeOf_55 ?_
            refine inc_6_4_1_i (pc := 56) dX9_unlikeOf_56 ?_
            have r13 : inR ((nI j5) + 1) 1 25 := inR_add (show inR (nI j5) 0 24 from hr5) (show inR 1 1 1 from (inR_self _)) (by decide) (by decide)
            have e14 := ti_add (l := 1) (h := 25) (show inR (nI j5) 0 24 from hr5) (show inR 1 1 1 from (inR_self _)) (by decide) (by decide)
            refine R_goto (pc := 59) 5 dX9_unlikeOf_59 (by decide) ?_
            rw [nI_1]
            exact ih5 (j5 + 1) _ _ (by omega) (by omega)
  exact HL5 25 0 _ _ (by omega) (by omega)
theorem dX9_difference_0 : decode cX9_difference 0 = .ok (.aload_n 0, 1) := by decide +kernel
theorem dX9_difference_1 : decode cX9_difference 1 = .ok (.iload_n 1, 1) := by decide +kernel
theorem dX9_difference_2 : decode cX9_difference 2 = .ok (.invokevirtual 135, 3) := by decide +kernel
theorem dX9_difference_5 : decode cX9_difference 5 = .ok (.ifCond .eq 16, 3) := by decide +kernel
theorem dX9_difference_8 : decode cX9_difference 8 = .ok (.aload_n 0, 1) := by decide +kernel
theorem dX9_difference_9 : decode cX9_difference 9 = .ok (.iload_n 2, 1) := by decide +kernel
theorem dX9_difference_10 : decode cX9_difference 10 = .ok (.invokevirtual 135, 3) := by decide +kernel
theorem dX9_difference_13 : decode cX9_difference 13 = .ok (.ifCond .eq 8, 3) := by decide +kernel
theorem dX9_difference_16 : decode cX9_difference 16 = .ok (.iload_n 1, 1) := by decide +kernel
theorem dX9_difference_17 : decode cX9_difference 17 = .ok (.iload_n 2, 1) := by decide +kernel
theorem dX9_difference_18 : decode cX9_difference 18 = .ok (.if_icmp .ne 6, 3) := by decide +kernel
theorem dX9_difference_21 : decode cX9_difference 21 = .ok (.bipush (-2), 2) := by decide +kernel
theorem dX9_difference_23 : decode cX9_difference 23 = .ok (.ireturn, 1) := by decide +kernel
theorem dX9_difference_24 : decode cX9_difference 24 = .ok (.aload_n 0, 1) := by decide +kernel
theorem dX9_difference_25 : decode cX9_difference 25 = .ok (.iload_n 1, 1) := by decide +kernel
theorem dX9_difference_26 : decode cX9_difference 26 = .ok (.iload_n 2, 1) := by decide +kernel
theorem dX9_difference_27 : decode cX9_difference 27 = .ok (.invokevirtual 148, 3) := by decide +kernel
theorem dX9_difference_30 : decode cX9_difference 30 = .ok (.ireturn, 1) := by decide +kernel
set_option maxRecDepth 100000 in
set_option maxHeartbeats 40000000 in
theorem gp_m_difference {G : vG} {l : Launch} (σ : Sg) (a b : Int32) (hI : Inv σ) : Sp G l yX9_difference cX9_difference 3 (some .int) 3 0 0 [.ref 140, .int a, .int b] (WW σ) (QI (fun _ w2 => ∃ σ2, w2 = WW σ2 ∧ Inv σ2)) := by
  refine Sp_of_R [(some (.ref 140)), (some (.int a)), (some (.int b))] [] rfl (by simp) rfl (Nat.le_of_ble_eq_true rfl) ?_
  refine R_aload_n (pc := 0) dX9_difference_0 rfl rfl ?_
  refine R_iload_n (pc := 1) dX9_difference_1 rfl rfl ?_
  refine k_X9_135 (pc := 2) (gx_X9_isThere _ _ hI) rfl (c_140 _) (by decide) (Nat.le_refl _) (Nat.le_refl _) (Nat.le_of_ble_eq_true rfl) dX9_difference_2 (fun x w2 h => ?_)
  rcases h with ⟨rfl, ⟨h1, rfl⟩ | rfl⟩
  · skip
    refine R_ifeq (pc := 5) 21 dX9_difference_5 (by decide) (fun h => absurd h (by decide)) (fun _ => ?_)
    refine R_aload_n (pc := 8) dX9_difference_8 rfl rfl ?_
    refine R_iload_n (pc := 9) dX9_difference_9 rfl rfl ?_
    refine k_X9_135 (pc := 10) (gx_X9_isThere _ _ hI) rfl (c_140 _) (by decide) (Nat.le_refl _) (Nat.le_refl _) (Nat.le_of_ble_eq_true rfl) dX9_difference_10 (fun x w2 h => ?_)
    rcases h with ⟨rfl, ⟨h3, rfl⟩ | rfl⟩
    · skip
      refine R_ifeq (pc := 13) 21 dX9_difference_13 (by decide) (fun h => absurd h (by decide)) (fun _ => ?_)
      refine R_iload_n (pc := 16) dX9_difference_16 rfl rfl ?_
      refine R_iload_n (pc := 17) dX9_difference_17 rfl rfl ?_
      refine R_icne (pc := 18) 24 dX9_difference_18 (by decide) (fun b18_5 => ?_) (fun b18_5 => ?_)
      · skip
        refine R_aload_n (pc := 24) dX9_difference_24 rfl rfl ?_
        refine R_iload_n (pc := 25) dX9_difference_25 rfl rfl ?_
        refine R_iload_n (pc := 26) dX9_difference_26 rfl rfl ?_
        refine k_X9_148 (pc := 27) (gx_X9_unlikeOf _ _ _ hI h1 h3) rfl (c_140 _) (by decide) (Nat.le_refl _) (Nat.le_refl _) (Nat.le_of_ble_eq_true rfl) dX9_difference_27 (fun y6 w2 h => ?_)
        subst h
        exact R_iret (pc := 30) dX9_difference_30 rfl rfl (Nat.zero_le _) (Nat.zero_le _) ⟨_, rfl, _, rfl, hI⟩
      · skip
        refine R_bipush (pc := 21) (v := (-2)) dX9_difference_21 (by decide) ?_
        exact R_iret (pc := 23) dX9_difference_23 rfl rfl (Nat.zero_le _) (Nat.zero_le _) ⟨_, rfl, _, rfl, hI⟩
    · skip
      refine R_ifeq (pc := 13) 21 dX9_difference_13 (by decide) (fun _ => ?_) (fun h => absurd (by decide) h)
      refine R_bipush (pc := 21) (v := (-2)) dX9_difference_21 (by decide) ?_
      exact R_iret (pc := 23) dX9_difference_23 rfl rfl (Nat.zero_le _) (Nat.zero_le _) ⟨_, rfl, _, rfl, hI⟩
  · skip
    refine R_ifeq (pc := 5) 21 dX9_difference_5 (by decide) (fun _ => ?_) (fun h => absurd (by decide) h)
    refine R_bipush (pc := 21) (v := (-2)) dX9_difference_21 (by decide) ?_
    exact R_iret (pc := 23) dX9_difference_23 rfl rfl (Nat.zero_le _) (Nat.zero_le _) ⟨_, rfl, _, rfl, hI⟩
theorem dX9_isLike_0 : decode cX9_isLike 0 = .ok (.aload_n 0, 1) := by decide +kernel
theorem dX9_isLike_1 : decode cX9_isLike 1 = .ok (.getfield 51, 3) := by decide +kernel
theorem dX9_isLike_4 : decode cX9_isLike 4 = .ok (.bipush 20, 2) := by decide +kernel
theorem dX9_isLike_6 : decode cX9_isLike 6 = .ok (.iload_n 1, 1) := by decide +kernel
theorem dX9_isLike_7 : decode cX9_isLike 7 = .ok (.imul, 1) := by decide +kernel
theorem dX9_isLike_8 : decode cX9_isLike 8 = .ok (.iload_n 2, 1) := by decide +kernel
theorem dX9_isLike_9 : decode cX9_isLike 9 = .ok (.iadd, 1) := by decide +kernel
theorem dX9_isLike_10 : decode cX9_isLike 10 = .ok (.iaload, 1) := by decide +kernel
theorem dX9_isLike_11 : decode cX9_isLike 11 = .ok (.iconst 0, 1) := by decide +kernel
theorem dX9_isLike_12 : decode cX9_isLike 12 = .ok (.aload_n 0, 1) := by decide +kernel
theorem dX9_isLike_13 : decode cX9_isLike 13 = .ok (.getfield 41, 3) := by decide +kernel
theorem dX9_isLike_16 : decode cX9_isLike 16 = .ok (.invokestatic 124, 3) := by decide +kernel
theorem dX9_isLike_19 : decode cX9_isLike 19 = .ok (.ireturn, 1) := by decide +kernel
set_option maxRecDepth 100000 in
set_option maxHeartbeats 40000000 in
theorem gx_X9_isLike {G : vG} {l : Launch} (σ : Sg) (a b : Int32) (hI : Inv σ) (ha : inR a 0 19) (hb : inR b 0 19) : Sp G l yX9_isLike cX9_isLike 3 (some .boolean) 1 0 0 [.ref 140, .int a, .int b] (WW σ) (QI (fun x w2 => w2 = WW σ ∧ (x = 1 ∨ x = 0))) := by
  refine Sp_of_R [(some (.ref 140)), (some (.int a)), (some (.int b))] [] rfl (by simp) rfl (Nat.le_of_ble_eq_true rfl) ?_
  refine R_aload_n (pc := 0) dX9_isLike_0 rfl rfl ?_
  refine g_X9_51 (pc := 1) (v := .ref 151) rfl dX9_isLike_1 (c_140 _) rfl ?_
  refine R_bipush (pc := 4) (v := 20) dX9_isLike_4 (by decide) ?_
  refine R_iload_n (pc := 6) dX9_isLike_6 rfl rfl ?_
  refine R_imul (pc := 7) dX9_isLike_7 ?_
  have r1 : inR (20 * a) 0 380 := inR_mulc (c := 20) (l := 0) (h := 380) 20 (by decide) (show inR a 0 19 from ha) (by decide) (by decide)
  have e2 := ti_mulc (c := 20) (l := 0) (h := 380) 20 (by decide) (show inR a 0 19 from ha) (by decide) (by decide)
  refine R_iload_n (pc := 8) dX9_isLike_8 rfl rfl ?_
  refine R_iadd (pc := 9) dX9_isLike_9 ?_
  have r3 : inR ((20 * a) + b) 0 399 := inR_add (show inR (20 * a) 0 380 from r1) (show inR b 0 19 from hb) (by decide) (by decide)
  have e4 := ti_add (l := 0) (h := 399) (show inR (20 * a) 0 380 from r1) (show inR b 0 19 from hb) (by decide) (by decide)
  have hx5 : vp_in ((20 * a) + b) 400 := (vp_of_inR r3 (by decide))
  refine R_iaload (pc := 10) dX9_isLike_10 (c_151 _) hx5 ?_
  refine R_iconst (pc := 11) (v := 0) dX9_isLike_11 (by decide) ?_
  refine R_aload_n (pc := 12) dX9_isLike_12 rfl rfl ?_
  refine g_X9_41 (pc := 13) (v := .int (σ.1 14012)) rfl dX9_isLike_13 (c_140 _) rfl ?_
  refine k_X9_124 (pc := 16) (sp_X9_in _ _ _ _) rfl (by decide) (Nat.le_refl _) (Nat.le_refl _) (Nat.le_of_ble_eq_true rfl) dX9_isLike_16 (fun x w2 h => ?_)
  rcases h with ⟨rfl, ⟨h6, rfl⟩ | ⟨h6, rfl⟩⟩
  · skip
    exact R_iret (pc := 19) dX9_isLike_19 rfl rfl (Nat.zero_le _) (Nat.zero_le _) ⟨_, rfl, rfl, Or.inl rfl⟩
  · skip
    exact R_iret (pc := 19) dX9_isLike_19 rfl rfl (Nat.zero_le _) (Nat.zero_le _) ⟨_, rfl, rfl, Or.inr rfl⟩
theorem dX9_farOf_0 : decode cX9_farOf 0 = .ok (.iconst 0, 1) := by decide +kernel
theorem dX9_farOf_1 : decode cX9_farOf 1 = .ok (.istore_n 3, 1) := by decide +kernel
theorem dX9_farOf_2 : decode cX9_farOf 2 = .ok (.iload_n 3, 1) := by decide +kernel
theorem dX9_farOf_3 : decode cX9_farOf 3 = .ok (.aload_n 0, 1) := by decide +kernel
theorem dX9_farOf_4 : decode cX9_farOf 4 = .ok (.getfield 35, 3) := by decide +kernel
theorem dX9_farOf_7 : decode cX9_farOf 7 = .ok (.iload_n 2, 1) := by decide +kernel
theorem dX9_farOf_8 : decode cX9_farOf 8 = .ok (.iaload, 1) := by decide +kernel
theorem dX9_farOf_9 : decode cX9_farOf 9 = .ok (.if_icmp .gt 16, 3) := by decide +kernel
theorem dX9_farOf_12 : decode cX9_farOf 12 = .ok (.aload_n 0, 1) := by decide +kernel
theorem dX9_farOf_13 : decode cX9_farOf 13 = .ok (.getfield 60, 3) := by decide +kernel
theorem dX9_farOf_16 : decode cX9_farOf 16 = .ok (.iload_n 3, 1) := by decide +kernel
theorem dX9_farOf_17 : decode cX9_farOf 17 = .ok (.iload_n 3, 1) := by decide +kernel
theorem dX9_farOf_18 : decode cX9_farOf 18 = .ok (.iastore, 1) := by decide +kernel
theorem dX9_farOf_19 : decode cX9_farOf 19 = .ok (.iinc 3 1, 3) := by decide +kernel
theorem dX9_farOf_22 : decode cX9_farOf 22 = .ok (.goto (-20), 3) := by decide +kernel
theorem dX9_farOf_25 : decode cX9_farOf 25 = .ok (.iconst 1, 1) := by decide +kernel
theorem dX9_farOf_26 : decode cX9_farOf 26 = .ok (.istore_n 3, 1) := by decide +kernel
theorem dX9_farOf_27 : decode cX9_farOf 27 = .ok (.iload_n 3, 1) := by decide +kernel
theorem dX9_farOf_28 : decode cX9_farOf 28 = .ok (.aload_n 0, 1) := by decide +kernel
theorem dX9_farOf_29 : decode cX9_farOf 29 = .ok (.getfield 35, 3) := by decide +kernel
theorem dX9_farOf_32 : decode cX9_farOf 32 = .ok (.iload_n 1, 1) := by decide +kernel
theorem dX9_farOf_33 : decode cX9_farOf 33 = .ok (.iaload, 1) := by decide +kernel
theorem dX9_farOf_34 : decode cX9_farOf 34 = .ok (.if_icmp .gt 186, 3) := by decide +kernel
theorem dX9_farOf_37 : decode cX9_farOf 37 = .ok (.aload_n 0, 1) := by decide +kernel
theorem dX9_farOf_38 : decode cX9_farOf 38 = .ok (.getfield 63, 3) := by decide +kernel
theorem dX9_farOf_41 : decode cX9_farOf 41 = .ok (.iconst 0, 1) := by decide +kernel
theorem dX9_farOf_42 : decode cX9_farOf 42 = .ok (.iload_n 3, 1) := by decide +kernel
theorem dX9_farOf_43 : decode cX9_farOf 43 = .ok (.iastore, 1) := by decide +kernel
theorem dX9_farOf_44 : decode cX9_farOf 44 = .ok (.iconst 1, 1) := by decide +kernel
theorem dX9_farOf_45 : decode cX9_farOf 45 = .ok (.istore 4, 2) := by decide +kernel
theorem dX9_farOf_47 : decode cX9_farOf 47 = .ok (.iload 4, 2) := by decide +kernel
theorem dX9_farOf_49 : decode cX9_farOf 49 = .ok (.aload_n 0, 1) := by decide +kernel
theorem dX9_farOf_50 : decode cX9_farOf 50 = .ok (.getfield 35, 3) := by decide +kernel
theorem dX9_farOf_53 : decode cX9_farOf 53 = .ok (.iload_n 2, 1) := by decide +kernel
theorem dX9_farOf_54 : decode cX9_farOf 54 = .ok (.iaload, 1) := by decide +kernel
theorem dX9_farOf_55 : decode cX9_farOf 55 = .ok (.if_icmp .gt 125, 3) := by decide +kernel
theorem dX9_farOf_58 : decode cX9_farOf 58 = .ok (.aload_n 0, 1) := by decide +kernel
theorem dX9_farOf_59 : decode cX9_farOf 59 = .ok (.getfield 60, 3) := by decide +kernel
theorem dX9_farOf_62 : decode cX9_farOf 62 = .ok (.iload 4, 2) := by decide +kernel
theorem dX9_farOf_64 : decode cX9_farOf 64 = .ok (.iconst 1, 1) := by decide +kernel
theorem dX9_farOf_65 : decode cX9_farOf 65 = .ok (.isub, 1) := by decide +kernel
theorem dX9_farOf_66 : decode cX9_farOf 66 = .ok (.iaload, 1) := by decide +kernel
theorem dX9_farOf_67 : decode cX9_farOf 67 = .ok (.aload_n 0, 1) := by decide +kernel
theorem dX9_farOf_68 : decode cX9_farOf 68 = .ok (.getfield 38, 3) := by decide +kernel
theorem dX9_farOf_71 : decode cX9_farOf 71 = .ok (.bipush 8, 2) := by decide +kernel
theorem dX9_farOf_73 : decode cX9_farOf 73 = .ok (.iload_n 1, 1) := by decide +kernel
theorem dX9_farOf_74 : decode cX9_farOf 74 = .ok (.imul, 1) := by decide +kernel
theorem dX9_farOf_75 : decode cX9_farOf 75 = .ok (.iload_n 3, 1) := by decide +kernel
theorem dX9_farOf_76 : decode cX9_farOf 76 = .ok (.iadd, 1) := by decide +kernel
theorem dX9_farOf_77 : decode cX9_farOf 77 = .ok (.iconst 1, 1) := by decide +kernel
theorem dX9_farOf_78 : decode cX9_farOf 78 = .ok (.isub, 1) := by decide +kernel
theorem dX9_farOf_79 : decode cX9_farOf 79 = .ok (.iaload, 1) := by decide +kernel
theorem dX9_farOf_80 : decode cX9_farOf 80 = .ok (.aload_n 0, 1) := by decide +kernel
theorem dX9_farOf_81 : decode cX9_farOf 81 = .ok (.getfield 38, 3) := by decide +kernel
theorem dX9_farOf_84 : decode cX9_farOf 84 = .ok (.bipush 8, 2) := by decide +kernel
theorem dX9_farOf_86 : decode cX9_farOf 86 = .ok (.iload_n 2, 1) := by decide +kernel
theorem dX9_farOf_87 : decode cX9_farOf 87 = .ok (.imul, 1) := by decide +kernel
theorem dX9_farOf_88 : decode cX9_farOf 88 = .ok (.iload 4, 2) := by decide +kernel
theorem dX9_farOf_90 : decode cX9_farOf 90 = .ok (.iadd, 1) := by decide +kernel
theorem dX9_farOf_91 : decode cX9_farOf 91 = .ok (.iconst 1, 1) := by decide +kernel
theorem dX9_farOf_92 : decode cX9_farOf 92 = .ok (.isub, 1) := by decide +kernel
theorem dX9_farOf_93 : decode cX9_farOf 93 = .ok (.iaload, 1) := by decide +kernel
theorem dX9_farOf_94 : decode cX9_farOf 94 = .ok (.if_icmp .ne 7, 3) := by decide +kernel
theorem dX9_farOf_97 : decode cX9_farOf 97 = .ok (.iconst 0, 1) := by decide +kernel
theorem dX9_farOf_98 : decode cX9_farOf 98 = .ok (.goto 4, 3) := by decide +kernel
theorem dX9_farOf_101 : decode cX9_farOf 101 = .ok (.iconst 1, 1) := by decide +kernel
theorem dX9_farOf_102 : decode cX9_farOf 102 = .ok (.iadd, 1) := by decide +kernel
theorem dX9_farOf_103 : decode cX9_farOf 103 = .ok (.istore 5, 2) := by decide +kernel
theorem dX9_farOf_105 : decode cX9_farOf 105 = .ok (.aload_n 0, 1) := by decide +kernel
theorem dX9_farOf_106 : decode cX9_farOf 106 = .ok (.getfield 60, 3) := by decide +kernel
theorem dX9_farOf_109 : decode cX9_farOf 109 = .ok (.iload 4, 2) := by decide +kernel
theorem dX9_farOf_111 : decode cX9_farOf 111 = .ok (.iaload, 1) := by decide +kernel
theorem dX9_farOf_112 : decode cX9_farOf 112 = .ok (.iconst 1, 1) := by decide +kernel
theorem dX9_farOf_113 : decode cX9_farOf 113 = .ok (.iadd, 1) := by decide +kernel
theorem dX9_farOf_114 : decode cX9_farOf 114 = .ok (.iload 5, 2) := by decide +kernel
theorem dX9_farOf_116 : decode cX9_farOf 116 = .ok (.if_icmp .ge 15, 3) := by decide +kernel
theorem dX9_farOf_119 : decode cX9_farOf 119 = .ok (.aload_n 0, 1) := by decide +kernel
theorem dX9_farOf_120 : decode cX9_farOf 120 = .ok (.getfield 60, 3) := by decide +kernel
theorem dX9_farOf_123 : decode cX9_farOf 123 = .ok (.iload 4, 2) := by decide +kernel
theorem dX9_farOf_125 : decode cX9_farOf 125 = .ok (.iaload, 1) := by decide +kernel
theorem dX9_farOf_126 : decode cX9_farOf 126 = .ok (.iconst 1, 1) := by decide +kernel
theorem dX9_farOf_127 : decode cX9_farOf 127 = .ok (.iadd, 1) := by decide +kernel
theorem dX9_farOf_128 : decode cX9_farOf 128 = .ok (.goto 5, 3) := by decide +kernel
theorem dX9_farOf_131 : decode cX9_farOf 131 = .ok (.iload 5, 2) := by decide +kernel
theorem dX9_farOf_133 : decode cX9_farOf 133 = .ok (.istore 5, 2) := by decide +kernel
theorem dX9_farOf_135 : decode cX9_farOf 135 = .ok (.aload_n 0, 1) := by decide +kernel
theorem dX9_farOf_136 : decode cX9_farOf 136 = .ok (.getfield 63, 3) := by decide +kernel
theorem dX9_farOf_139 : decode cX9_farOf 139 = .ok (.iload 4, 2) := by decide +kernel
theorem dX9_farOf_141 : decode cX9_farOf 141 = .ok (.aload_n 0, 1) := by decide +kernel
theorem dX9_farOf_142 : decode cX9_farOf 142 = .ok (.getfield 63, 3) := by decide +kernel
theorem dX9_farOf_145 : decode cX9_farOf 145 = .ok (.iload 4, 2) := by decide +kernel
theorem dX9_farOf_147 : decode cX9_farOf 147 = .ok (.iconst 1, 1) := by decide +kernel
theorem dX9_farOf_148 : decode cX9_farOf 148 = .ok (.isub, 1) := by decide +kernel
theorem dX9_farOf_149 : decode cX9_farOf 149 = .ok (.iaload, 1) := by decide +kernel
theorem dX9_farOf_150 : decode cX9_farOf 150 = .ok (.iconst 1, 1) := by decide +kernel
theorem dX9_farOf_151 : decode cX9_farOf 151 = .ok (.iadd, 1) := by decide +kernel
theorem dX9_farOf_152 : decode cX9_farOf 152 = .ok (.iload 5, 2) := by decide +kernel
theorem dX9_farOf_154 : decode cX9_farOf 154 = .ok (.if_icmp .ge 17, 3) := by decide +kernel
theorem dX9_farOf_157 : decode cX9_farOf 157 = .ok (.aload_n 0, 1) := by decide +kernel
theorem dX9_farOf_158 : decode cX9_farOf 158 = .ok (.getfield 63, 3) := by decide +kernel
theorem dX9_farOf_161 : decode cX9_farOf 161 = .ok (.iload 4, 2) := by decide +kernel
theorem dX9_farOf_163 : decode cX9_farOf 163 = .ok (.iconst 1, 1) := by decide +kernel
theorem dX9_farOf_164 : decode cX9_farOf 164 = .ok (.isub, 1) := by decide +kernel
theorem dX9_farOf_165 : decode cX9_farOf 165 = .ok (.iaload, 1) := by decide +kernel
theorem dX9_farOf_166 : decode cX9_farOf 166 = .ok (.iconst 1, 1) := by decide +kernel
theorem dX9_farOf_167 : decode cX9_farOf 167 = .ok (.iadd, 1) := by decide +kernel
theorem dX9_farOf_168 : decode cX9_farOf 168 = .ok (.goto 5, 3) := by decide +kernel
theorem dX9_farOf_171 : decode cX9_farOf 171 = .ok (.iload 5, 2) := by decide +kernel
theorem dX9_farOf_173 : decode cX9_farOf 173 = .ok (.iastore, 1) := by decide +kernel
theorem dX9_farOf_174 : decode cX9_farOf 174 = .ok (.iinc 4 1, 3) := by decide +kernel
theorem dX9_farOf_177 : decode cX9_farOf 177 = .ok (.goto (-130), 3) := by decide +kernel
theorem dX9_farOf_180 : decode cX9_farOf 180 = .ok (.iconst 0, 1) := by decide +kernel
theorem dX9_farOf_181 : decode cX9_farOf 181 = .ok (.istore 4, 2) := by decide +kernel
theorem dX9_farOf_183 : decode cX9_farOf 183 = .ok (.iload 4, 2) := by decide +kernel
theorem dX9_farOf_185 : decode cX9_farOf 185 = .ok (.aload_n 0, 1) := by decide +kernel
theorem dX9_farOf_186 : decode cX9_farOf 186 = .ok (.getfield 35, 3) := by decide +kernel
theorem dX9_farOf_189 : decode cX9_farOf 189 = .ok (.iload_n 2, 1) := by decide +kernel
theorem dX9_farOf_190 : decode cX9_farOf 190 = .ok (.iaload, 1) := by decide +kernel
theorem dX9_farOf_191 : decode cX9_farOf 191 = .ok (.if_icmp .gt 23, 3) := by decide +kernel
theorem dX9_farOf_194 : decode cX9_farOf 194 = .ok (.aload_n 0, 1) := by decide +kernel
theorem dX9_farOf_195 : decode cX9_farOf 195 = .ok (.getfield 60, 3) := by decide +kernel
theorem dX9_farOf_198 : decode cX9_farOf 198 = .ok (.iload 4, 2) := by decide +kernel
theorem dX9_farOf_200 : decode cX9_farOf 200 = .ok (.aload_n 0, 1) := by decide +kernel
theorem dX9_farOf_201 : decode cX9_farOf 201 = .ok (.getfield 63, 3) := by decide +kernel
theorem dX9_farOf_204 : decode cX9_farOf 204 = .ok (.iload 4, 2) := by decide +kernel
theorem dX9_farOf_206 : decode cX9_farOf 206 = .ok (.iaload, 1) := by decide +kernel
theorem dX9_farOf_207 : decode cX9_farOf 207 = .ok (.iastore, 1) := by decide +kernel
theorem dX9_farOf_208 : decode cX9_farOf 208 = .ok (.iinc 4 1, 3) := by decide +kernel
theorem dX9_farOf_211 : decode cX9_farOf 211 = .ok (.goto (-28), 3) := by decide +kernel
theorem dX9_farOf_214 : decode cX9_farOf 214 = .ok (.iinc 3 1, 3) := by decide +kernel
theorem dX9_farOf_217 : decode cX9_farOf 217 = .ok (.goto (-190), 3) := by decide +kernel
theorem dX9_farOf_220 : decode cX9_farOf 220 = .ok (.aload_n 0, 1) := by decide +kernel
theorem dX9_farOf_221 : decode cX9_farOf 221 = .ok (.getfield 60, 3) := by decide +kernel
theorem dX9_farOf_224 : decode cX9_farOf 224 = .ok (.aload_n 0, 1) := by decide +kernel
theorem dX9_farOf_225 : decode cX9_farOf 225 = .ok (.getfield 35, 3) := by decide +kernel
theorem dX9_farOf_228 : decode cX9_farOf 228 = .ok (.iload_n 2, 1) := by decide +kernel
theorem dX9_farOf_229 : decode cX9_farOf 229 = .ok (.iaload, 1) := by decide +kernel
theorem dX9_farOf_230 : decode cX9_farOf 230 = .ok (.iaload, 1) := by decide +kernel
theorem dX9_farOf_231 : decode cX9_farOf 231 = .ok (.ireturn, 1) := by decide +kernel
set_option maxRecDepth 100000 in
set_option maxHeartbeats 40000000 in
theorem gx_X9_farOf {G : vG} {l : Launch} (σ : Sg) (a b : Int32) (hI : Inv σ) (ha : inR a 0 19) (hb : inR b 0 19) : Sp G l yX9_farOf cX9_farOf 6 (some .int) 0 0 0 [.ref 140, .int a, .int b] (WW σ) (QI (fun _ w2 => ∃ σ2, w2 = WW σ2 ∧ Inv σ2)) := by
  refine Sp_of_R [(some (.ref 140)), (some (.int a)), (some (.int b)), none, none, none] [none, none, none] rfl (by simp) rfl (Nat.le_of_ble_eq_true rfl) ?_
  refine R_iconst (pc := 0) (v := 0) dX9_farOf_0 (by decide) ?_
  refine st_6_3_i_i (pc := 1) dX9_farOf_1 ?_
  have HL2 : ∀ (q j2 : Nat) (σ2 : Sg), j2 + q = 9 → 0 ≤ j2 → Inv σ2 → R G l yX9_farOf cX9_farOf 6 (some .int) 0 0 0 (QI (fun _ w2 => ∃ σ2, w2 = WW σ2 ∧ Inv σ2)) 2 [(some (.ref 140)), (some (.int a)), (some (.int b)), (some (.int (nI j2))), none, none] [] (WW σ2) 0 0 := by
    intro q
    induction q with
    | zero =>
      intro j2 σ2 hj hs2 hI2
      obtain rfl : j2 = 9 := by omega
      refine R_iload_n (pc := 2) dX9_farOf_2 rfl rfl ?_
      refine R_aload_n (pc := 3) dX9_farOf_3 rfl rfl ?_
      refine g_X9_35 (pc := 4) (v := .ref 149) rfl dX9_farOf_4 (c_140 _) rfl ?_
      refine R_iload_n (pc := 7) dX9_farOf_7 rfl rfl ?_
      have hx1 : vp_in b 20 := (vp_of_inR hb (by decide))
      refine R_iaload (pc := 8) dX9_farOf_8 (c_149 _) hx1 ?_
      refine R_icgt (pc := 9) 25 dX9_farOf_9 (by decide) (fun _ => ?_) (fun h => False.elim (by have q1 := ti_nlt h; have q2 := ti_in (show inR (nI 9) 9 9 from (inR_self _)); have q3 := ti_in (show inR (σ2.2.2.1 149 (Int32.toNatClampNeg b)) 0 8 from (iva_149 hI2 _ (lt_of_vp hx1))); have z0 : (0 : Int32).toInt = 0 := (by decide);  have z1 : (149 : Int32).toInt = 149 := (by decide);  have z2 : (8 : Int32).toInt = 8 := (by decide);  have z3 : (9 : Int32).toInt = 9 := (by decide); omega))
      refine R_iconst (pc := 25) (v := 1) dX9_farOf_25 (by decide) ?_
      refine st_6_3_i_i (pc := 26) dX9_farOf_26 ?_
      have HL27 : ∀ (q j27 : Nat) (σ27 : Sg) (g4_27 : Option Value) (g5_27 : Option Value), j27 + q = 9 → 1 ≤ j27 → Inv σ27 → R G l yX9_farOf cX9_farOf 6 (some .int) 0 0 0 (QI (fun _ w2 => ∃ σ2, w2 = WW σ2 ∧ Inv σ2)) 27 [(some (.ref 140)), (some (.int a)), (some (.int b)), (some (.int (nI j27))), g4_27, g5_27] [] (WW σ27) 0 0 := by
        intro q
        induction q with
        | zero =>
          intro j27 σ27 g4_27 g5_27 hj hs27 hI27
          obtain rfl : j27 = 9 := by omega
          refine R_iload_n (pc := 27) dX9_farOf_27 rfl rfl ?_
          refine R_aload_n (pc := 28) dX9_farOf_28 rfl rfl ?_
          refine g_X9_35 (pc := 29) (v := .ref 149) rfl dX9_farOf_29 (c_140 _) rfl ?_
          refine R_iload_n (pc := 32) dX9_farOf_32 rfl rfl ?_
          have hx3 : vp_in a 20 := (vp_of_inR ha (by decide))
          refine R_iaload (pc := 33) dX9_farOf_33 (c_149 _) hx3 ?_
          refine R_icgt (pc := 34) 220 dX9_farOf_34 (by decide) (fun _ => ?_) (fun h => False.elim (by have q1 := ti_nlt h; have q2 := ti_in (show inR (nI 9) 9 9 from (inR_self _)); have q3 := ti_in (show inR (σ27.2.2.1 149 (Int32.toNatClampNeg a)) 0 8 from (iva_149 hI27 _ (lt_of_vp hx3))); have z0 : (0 : Int32).toInt = 0 := (by decide);  have z1 : (149 : Int32).toInt = 149 := (by decide);  have z2 : (8 : Int32).toInt = 8 := (by decide);  have z3 : (9 : Int32).toInt = 9 := (by decide); omega))
          refine R_aload_n (pc := 220) dX9_farOf_220 rfl rfl ?_
          refine g_X9_60 (pc := 221) (v := .ref 154) rfl dX9_farOf_221 (c_140 _) rfl ?_
          refine R_aload_n (pc := 224) dX9_farOf_224 rfl rfl ?_
          refine g_X9_35 (pc := 225) (v := .ref 149) rfl dX9_farOf_225 (c_140 _) rfl ?_
          refine R_iload_n (pc := 228) dX9_farOf_228 rfl rfl ?_
          have hx5 : vp_in b 20 := (vp_of_inR hb (by decide))
          refine R_iaload (pc := 229) dX9_farOf_229 (c_149 _) hx5 ?_
          have hx6 : vp_in (σ27.2.2.1 149 (Int32.toNatClampNeg b)) 9 := (vp_of_inR (iva_149 hI27 _ (lt_of_vp hx5)) (by decide))
          refine R_iaload (pc := 230) dX9_farOf_230 (c_154 _) hx6 ?_
          exact R_iret (pc := 231) dX9_farOf_231 rfl rfl (Nat.zero_le _) (Nat.zero_le _) ⟨_, rfl, _, rfl, hI27⟩
        | succ q ih27 =>
          intro j27 σ27 g4_27 g5_27 hj hs27 hI27
          have hr27 : inR (nI j27) 1 8 := inR_ix hs27 (show j27 < 9 by omega) (by decide) (by decide) (by decide)
          have hlt27 : j27 < 9 := by omega
          refine R_iload_n (pc := 27) dX9_farOf_27 rfl rfl ?_
          refine R_aload_n (pc := 28) dX9_farOf_28 rfl rfl ?_
          refine g_X9_35 (pc := 29) (v := .ref 149) rfl dX9_farOf_29 (c_140 _) rfl ?_
          refine R_iload_n (pc := 32) dX9_farOf_32 rfl rfl ?_
          have hx7 : vp_in a 20 := (vp_of_inR ha (by decide))
          refine R_iaload (pc := 33) dX9_farOf_33 (c_149 _) hx7 ?_
          refine R_icgt (pc := 34) 220 dX9_farOf_34 (by decide) (fun b34_8 => ?_) (fun b34_8 => ?_)
          · skip
            refine R_aload_n (pc := 220) dX9_farOf_220 rfl rfl ?_
            refine g_X9_60 (pc := 221) (v := .ref 154) rfl dX9_farOf_221 (c_140 _) rfl ?_
            refine R_aload_n (pc := 224) dX9_farOf_224 rfl rfl ?_
            refine g_X9_35 (pc := 225) (v := .ref 149) rfl dX9_farOf_225 (c_140 _) rfl ?_
            refine R_iload_n (pc := 228) dX9_farOf_228 rfl rfl ?_
            have hx9 : vp_in b 20 := (vp_of_inR hb (by decide))
            refine R_iaload (pc := 229) dX9_farOf_229 (c_149 _) hx9 ?_
            have hx10 : vp_in (σ27.2.2.1 149 (Int32.toNatClampNeg b)) 9 := (vp_of_inR (iva_149 hI27 _ (lt_of_vp hx9)) (by decide))
            refine R_iaload (pc := 230) dX9_farOf_230 (c_154 _) hx10 ?_
            exact R_iret (pc := 231) dX9_farOf_231 rfl rfl (Nat.zero_le _) (Nat.zero_le _) ⟨_, rfl, _, rfl, hI27⟩
          · skip
            refine R_aload_n (pc := 37) dX9_farOf_37 rfl rfl ?_
            refine g_X9_63 (pc := 38) (v := .ref 155) rfl dX9_farOf_38 (c_140 _) rfl ?_
            refine R_iconst (pc := 41) (v := 0) dX9_farOf_41 (by decide) ?_
            refine R_iload_n (pc := 42) dX9_farOf_42 rfl rfl ?_
            have hx11 : vp_in 0 9 := (by unfold vp_in; decide)
            refine W_iastore (pc := 43) dX9_farOf_43 (c_155 _) hx11 (a_155 _ _) ?_
            refine R_iconst (pc := 44) (v := 1) dX9_farOf_44 (by decide) ?_
            refine st_6_4_i_i (pc := 45) dX9_farOf_45 ?_
            have HL47 : ∀ (q j47 : Nat) (σ47 : Sg) (g5_47 : Option Value), j47 + q = 9 → 1 ≤ j47 → Inv σ47 → R G l yX9_farOf cX9_farOf 6 (some .int) 0 0 0 (QI (fun _ w2 => ∃ σ2, w2 = WW σ2 ∧ Inv σ2)) 47 [(some (.ref 140)), (some (.int a)), (some (.int b)), (some (.int (nI j27))), (some (.int (nI j47))), g5_47] [] (WW σ47) 0 0 := by
              intro q
              induction q with
              | zero =>
                intro j47 σ47 g5_47 hj hs47 hI47
                obtain rfl : j47 = 9 := by omega
                refine R_iload (pc := 47) dX9_farOf_47 rfl ?_
                refine R_aload_n (pc := 49) dX9_farOf_49 rfl rfl ?_
                refine g_X9_35 (pc := 50) (v := .ref 149) rfl dX9_farOf_50 (c_140 _) rfl ?_
                refine R_iload_n (pc := 53) dX9_farOf_53 rfl rfl ?_
                have hx12 : vp_in b 20 := (vp_of_inR hb (by decide))
                refine R_iaload (pc := 54) dX9_farOf_54 (c_149 _) hx12 ?_
                refine R_icgt (pc := 55) 180 dX9_farOf_55 (by decide) (fun _ => ?_) (fun h => False.elim (by have q1 := ti_nlt h; have q2 := ti_in (show inR (nI 9) 9 9 from (inR_self _)); have q3 := ti_in (show inR (σ47.2.2.1 149 (Int32.toNatClampNeg b)) 0 8 from (iva_149 hI47 _ (lt_of_vp hx12))); have z0 : (0 : Int32).toInt = 0 := (by decide);  have z1 : (149 : Int32).toInt = 149 := (by decide);  have z2 : (8 : Int32).toInt = 8 := (by decide);  have z3 : (9 : Int32).toInt = 9 := (by decide); omega))
                refine R_iconst (pc := 180) (v := 0) dX9_farOf_180 (by decide) ?_
                refine st_6_4_i_i (pc := 181) dX9_farOf_181 ?_
                have HL183 : ∀ (q j183 : Nat) (σ183 : Sg), j183 + q = 9 → 0 ≤ j183 → Inv σ183 → R G l yX9_farOf cX9_farOf 6 (some .int) 0 0 0 (QI (fun _ w2 => ∃ σ2, w2 = WW σ2 ∧ Inv σ2)) 183 [(some (.ref 140)), (some (.int a)), (some (.int b)), (some (.int (nI j27))), (some (.int (nI j183))), g5_47] [] (WW σ183) 0 0 := by
                  intro q
                  induction q with
                  | zero =>
                    intro j183 σ183 hj hs183 hI183
                    obtain rfl : j183 = 9 := by omega
                    refine R_iload (pc := 183) dX9_farOf_183 rfl ?_
                    refine R_aload_n (pc := 185) dX9_farOf_185 rfl rfl ?_
                    refine g_X9_35 (pc := 186) (v := .ref 149) rfl dX9_farOf_186 (c_140 _) rfl ?_
                    refine R_iload_n (pc := 189) dX9_farOf_189 rfl rfl ?_
                    have hx14 : vp_in b 20 := (vp_of_inR hb (by decide))
                    refine R_iaload (pc := 190) dX9_farOf_190 (c_149 _) hx14 ?_
                    refine R_icgt (pc := 191) 214 dX9_farOf_191 (by decide) (fun _ => ?_) (fun h => False.elim (by have q1 := ti_nlt h; have q2 := ti_in (show inR (nI 9) 9 9 from (inR_self _)); have q3 := ti_in (show inR (σ183.2.2.1 149 (Int32.toNatClampNeg b)) 0 8 from (iva_149 hI183 _ (lt_of_vp hx14))); have z0 : (0 : Int32).toInt = 0 := (by decide);  have z1 : (149 : Int32).toInt = 149 := (by decide);  have z2 : (8 : Int32).toInt = 8 := (by decide);  have z3 : (9 : Int32).toInt = 9 := (by decide); omega))
                    refine inc_6_3_1_i (pc := 214) dX9_farOf_214 ?_
                    have r16 : inR ((nI j27) + 1) 2 9 := inR_add (show inR (nI j27) 1 8 from hr27) (show inR 1 1 1 from (inR_self _)) (by decide) (by decide)
                    have e17 := ti_add (l := 2) (h := 9) (show inR (nI j27) 1 8 from hr27) (show inR 1 1 1 from (inR_self _)) (by decide) (by decide)
                    refine R_goto (pc := 217) 27 dX9_farOf_217 (by decide) ?_
                    rw [nI_1]
                    exact ih27 (j27 + 1) _ _ _ (by omega) (by omega) hI183
                  | succ q ih183 =>
                    intro j183 σ183 hj hs183 hI183
                    have hr183 : inR (nI j183) 0 8 := inR_ix hs183 (show j183 < 9 by omega) (by decide) (by decide) (by decide)
                    have hlt183 : j183 < 9 := by omega
                    refine R_iload (pc := 183) dX9_farOf_183 rfl ?_
                    refine R_aload_n (pc := 185) dX9_farOf_185 rfl rfl ?_
                    refine g_X9_35 (pc := 186) (v := .ref 149) rfl dX9_farOf_186 (c_140 _) rfl ?_
                    refine R_iload_n (pc := 189) dX9_farOf_189 rfl rfl ?_
                    have hx18 : vp_in b 20 := (vp_of_inR hb (by decide))
                    refine R_iaload (pc := 190) dX9_farOf_190 (c_149 _) hx18 ?_
                    refine R_icgt (pc := 191) 214 dX9_farOf_191 (by decide) (fun b191_19 => ?_) (fun b191_19 => ?_)
                    · skip
                      refine inc_6_3_1_i (pc := 214) dX9_farOf_214 ?_
                      have r20 : inR ((nI j27) + 1) 2 9 := inR_add (show inR (nI j27) 1 8 from hr27) (show inR 1 1 1 from (inR_self _)) (by decide) (by decide)
                      have e21 := ti_add (l := 2) (h := 9) (show inR (nI j27) 1 8 from hr27) (show inR 1 1 1 from (inR_self _)) (by decide) (by decide)
                      refine R_goto (pc := 217) 27 dX9_farOf_217 (by decide) ?_
                      rw [nI_1]
                      exact ih27 (j27 + 1) _ _ _ (by omega) (by omega) hI183
                    · skip
                      refine R_aload_n (pc := 194) dX9_farOf_194 rfl rfl ?_
                      refine g_X9_60 (pc := 195) (v := .ref 154) rfl dX9_farOf_195 (c_140 _) rfl ?_
                      refine R_iload (pc := 198) dX9_farOf_198 rfl ?_
                      refine R_aload_n (pc := 200) dX9_farOf_200 rfl rfl ?_
                      refine g_X9_63 (pc := 201) (v := .ref 155) rfl dX9_farOf_201 (c_140 _) rfl ?_
                      refine R_iload (pc := 204) dX9_farOf_204 rfl ?_
                      have hx22 : vp_in (nI j183) 9 := (vp_in_nI (by omega) (by decide))
                      refine R_iaload (pc := 206) dX9_farOf_206 (c_155 _) hx22 ?_
                      have hx23 : vp_in (nI j183) 9 := (vp_in_nI (by omega) (by decide))
                      refine W_iastore (pc := 207) dX9_farOf_207 (c_154 _) hx23 (a_154 _ _) ?_
                      refine inc_6_4_1_i (pc := 208) dX9_farOf_208 ?_
                      have r24 : inR ((nI j183) + 1) 1 9 := inR_add (show inR (nI j183) 0 8 from hr183) (show inR 1 1 1 from (inR_self _)) (by decide) (by decide)
                      have e25 := ti_add (l := 1) (h := 9) (show inR (nI j183) 0 8 from hr183) (show inR 1 1 1 from (inR_self _)) (by decide) (by decide)
                      refine R_goto (pc := 211) 183 dX9_farOf_211 (by decide) ?_
                      rw [nI_1]
                      exact ih183 (j183 + 1) _ (by omega) (by omega) hI183
                exact HL183 9 0 _ (by omega) (by omega) hI47
              | succ q ih47 =>
                intro j47 σ47 g5_47 hj hs47 hI47
                have hr47 : inR (nI j47) 1 8 := inR_ix hs47 (show j47 < 9 by omega) (by decide) (by decide) (by decide)
                have hlt47 : j47 < 9 := by omega
                refine R_iload (pc := 47) dX9_farOf_47 rfl ?_
                refine R_aload_n (pc := 49) dX9_farOf_49 rfl rfl ?_
                refine g_X9_35 (pc := 50) (v := .ref 149) rfl dX9_farOf_50 (c_140 _) rfl ?_
                refine R_iload_n (pc := 53) dX9_farOf_53 rfl rfl ?_
                have hx26 : vp_in b 20 := (vp_of_inR hb (by decide))
                refine R_iaload (pc := 54) dX9_farOf_54 (c_149 _) hx26 ?_
                refine R_icgt (pc := 55) 180 dX9_farOf_55 (by decide) (fun b55_27 => ?_) (fun b55_27 => ?_)
                · skip
                  refine R_iconst (pc := 180) (v := 0) dX9_farOf_180 (by decide) ?_
                  refine st_6_4_i_i (pc := 181) dX9_farOf_181 ?_
                  have HL183 : ∀ (q j183 : Nat) (σ183 : Sg), j183 + q = 9 → 0 ≤ j183 → Inv σ183 → R G l yX9_farOf cX9_farOf 6 (some .int) 0 0 0 (QI (fun _ w2 => ∃ σ2, w2 = WW σ2 ∧ Inv σ2)) 183 [(some (.ref 140)), (some (.int a)), (some (.int b)), (some (.int (nI j27))), (some (.int (nI j183))), g5_47] [] (WW σ183) 0 0 := by
                    intro q
                    induction q with
                    | zero =>
                      intro j183 σ183 hj hs183 hI183
                      obtain rfl : j183 = 9 := by omega
                      refine R_iload (pc := 183) dX9_farOf_183 rfl ?_
                      refine R_aload_n (pc := 185) dX9_farOf_185 rfl rfl ?_
                      refine g_X9_35 (pc := 186) (v := .ref 149) rfl dX9_farOf_186 (c_140 _) rfl ?_
                      refine R_iload_n (pc := 189) dX9_farOf_189 rfl rfl ?_
                      have hx28 : vp_in b 20 := (vp_of_inR hb (by decide))
                      refine R_iaload (pc := 190) dX9_farOf_190 (c_149 _) hx28 ?_
                      refine R_icgt (pc := 191) 214 dX9_farOf_191 (by decide) (fun _ => ?_) (fun h => False.elim (by have q1 := ti_nlt h; have q2 := ti_in (show inR (nI 9) 9 9 from (inR_self _)); have q3 := ti_in (show inR (σ183.2.2.1 149 (Int32.toNatClampNeg b)) 0 8 from (iva_149 hI183 _ (lt_of_vp hx28))); have z0 : (0 : Int32).toInt = 0 := (by decide);  have z1 : (149 : Int32).toInt = 149 := (by decide);  have z2 : (8 : Int32).toInt = 8 := (by decide);  have z3 : (9 : Int32).toInt = 9 := (by decide); omega))
                      refine inc_6_3_1_i (pc := 214) dX9_farOf_214 ?_
                      have r30 : inR ((nI j27) + 1) 2 9 := inR_add (show inR (nI j27) 1 8 from hr27) (show inR 1 1 1 from (inR_self _)) (by decide) (by decide)
                      have e31 := ti_add (l := 2) (h := 9) (show inR (nI j27) 1 8 from hr27) (show inR 1 1 1 from (inR_self _)) (by decide) (by decide)
                      refine R_goto (pc := 217) 27 dX9_farOf_217 (by decide) ?_
                      rw [nI_1]
                      exact ih27 (j27 + 1) _ _ _ (by omega) (by omega) hI183
                    | succ q ih183 =>
                      intro j183 σ183 hj hs183 hI183
                      have hr183 : inR (nI j183) 0 8 := inR_ix hs183 (show j183 < 9 by omega) (by decide) (by decide) (by decide)
                      have hlt183 : j183 < 9 := by omega
                      refine R_iload (pc := 183) dX9_farOf_183 rfl ?_
                      refine R_aload_n (pc := 185) dX9_farOf_185 rfl rfl ?_
                      refine g_X9_35 (pc := 186) (v := .ref 149) rfl dX9_farOf_186 (c_140 _) rfl ?_
                      refine R_iload_n (pc := 189) dX9_farOf_189 rfl rfl ?_
                      have hx32 : vp_in b 20 := (vp_of_inR hb (by decide))
                      refine R_iaload (pc := 190) dX9_farOf_190 (c_149 _) hx32 ?_
                      refine R_icgt (pc := 191) 214 dX9_farOf_191 (by decide) (fun b191_33 => ?_) (fun b191_33 => ?_)
                      · skip
                        refine inc_6_3_1_i (pc := 214) dX9_farOf_214 ?_
                        have r34 : inR ((nI j27) + 1) 2 9 := inR_add (show inR (nI j27) 1 8 from hr27) (show inR 1 1 1 from (inR_self _)) (by decide) (by decide)
                        have e35 := ti_add (l := 2) (h := 9) (show inR (nI j27) 1 8 from hr27) (show inR 1 1 1 from (inR_self _)) (by decide) (by decide)
                        refine R_goto (pc := 217) 27 dX9_farOf_217 (by decide) ?_
                        rw [nI_1]
                        exact ih27 (j27 + 1) _ _ _ (by omega) (by omega) hI183
                      · skip
                        refine R_aload_n (pc := 194) dX9_farOf_194 rfl rfl ?_
                        refine g_X9_60 (pc := 195) (v := .ref 154) rfl dX9_farOf_195 (c_140 _) rfl ?_
                        refine R_iload (pc := 198) dX9_farOf_198 rfl ?_
                        refine R_aload_n (pc := 200) dX9_farOf_200 rfl rfl ?_
                        refine g_X9_63 (pc := 201) (v := .ref 155) rfl dX9_farOf_201 (c_140 _) rfl ?_
                        refine R_iload (pc := 204) dX9_farOf_204 rfl ?_
                        have hx36 : vp_in (nI j183) 9 := (vp_in_nI (by omega) (by decide))
                        refine R_iaload (pc := 206) dX9_farOf_206 (c_155 _) hx36 ?_
                        have hx37 : vp_in (nI j183) 9 := (vp_in_nI (by omega) (by decide))
                        refine W_iastore (pc := 207) dX9_farOf_207 (c_154 _) hx37 (a_154 _ _) ?_
                        refine inc_6_4_1_i (pc := 208) dX9_farOf_208 ?_
                        have r38 : inR ((nI j183) + 1) 1 9 := inR_add (show inR (nI j183) 0 8 from hr183) (show inR 1 1 1 from (inR_self _)) (by decide) (by decide)
                        have e39 := ti_add (l := 1) (h := 9) (show inR (nI j183) 0 8 from hr183) (show inR 1 1 1 from (inR_self _)) (by decide) (by decide)
                        refine R_goto (pc := 211) 183 dX9_farOf_211 (by decide) ?_
                        rw [nI_1]
                        exact ih183 (j183 + 1) _ (by omega) (by omega) hI183
                  exact HL183 9 0 _ (by omega) (by omega) hI47
                · skip
                  refine R_aload_n (pc := 58) dX9_farOf_58 rfl rfl ?_
                  refine g_X9_60 (pc := 59) (v := .ref 154) rfl dX9_farOf_59 (c_140 _) rfl ?_
                  refine R_iload (pc := 62) dX9_farOf_62 rfl ?_
                  refine R_iconst (pc := 64) (v := 1) dX9_farOf_64 (by decide) ?_
                  refine R_isub (pc := 65) dX9_farOf_65 ?_
                  have r40 : inR ((nI j47) - 1) 0 7 := inR_sub (show inR (nI j47) 1 8 from hr47) (show inR 1 1 1 from (inR_self _)) (by decide) (by decide)
                  have e41 := ti_sub (l := 0) (h := 7) (show inR (nI j47) 1 8 from hr47) (show inR 1 1 1 from (inR_self _)) (by decide) (by decide)
                  have hx42 : vp_in ((nI j47) - 1) 9 := (vp_of_inR r40 (by decide))
                  refine R_iaload (pc := 66) dX9_farOf_66 (c_154 _) hx42 ?_
                  refine R_aload_n (pc := 67) dX9_farOf_67 rfl rfl ?_
                  refine g_X9_38 (pc := 68) (v := .ref 150) rfl dX9_farOf_68 (c_140 _) rfl ?_
                  refine R_bipush (pc := 71) (v := 8) dX9_farOf_71 (by decide) ?_
                  refine R_iload_n (pc := 73) dX9_farOf_73 rfl rfl ?_
                  refine R_imul (pc := 74) dX9_farOf_74 ?_
                  have r43 : inR (8 * a) 0 152 := inR_mulc (c := 8) (l := 0) (h := 152) 8 (by decide) (show inR a 0 19 from ha) (by decide) (by decide)
                  have e44 := ti_mulc (c := 8) (l := 0) (h := 152) 8 (by decide) (show inR a 0 19 from ha) (by decide) (by decide)
                  refine R_iload_n (pc := 75) dX9_farOf_75 rfl rfl ?_
                  refine R_iadd (pc := 76) dX9_farOf_76 ?_
                  have r45 : inR ((8 * a) + (nI j27)) 1 160 := inR_add (show inR (8 * a) 0 152 from r43) (show inR (nI j27) 1 8 from hr27) (by decide) (by decide)
                  have e46 := ti_add (l := 1) (h := 160) (show inR (8 * a) 0 152 from r43) (show inR (nI j27) 1 8 from hr27) (by decide) (by decide)
                  refine R_iconst (pc := 77) (v := 1) dX9_farOf_77 (by decide) ?_
                  refine R_isub (pc := 78) dX9_farOf_78 ?_
                  have r47 : inR (((8 * a) + (nI j27)) - 1) 0 159 := inR_sub (show inR ((8 * a) + (nI j27)) 1 160 from r45) (show inR 1 1 1 from (inR_self _)) (by decide) (by decide)
                  have e48 := ti_sub (l := 0) (h := 159) (show inR ((8 * a) + (nI j27)) 1 160 from r45) (show inR 1 1 1 from (inR_self _)) (by decide) (by decide)
                  have hx49 : vp_in (((8 * a) + (nI j27)) - 1) 160 := (vp_of_inR r47 (by decide))
                  refine R_iaload (pc := 79) dX9_farOf_79 (c_150 _) hx49 ?_
                  refine R_aload_n (pc := 80) dX9_farOf_80 rfl rfl ?_
                  refine g_X9_38 (pc := 81) (v := .ref 150) rfl dX9_farOf_81 (c_140 _) rfl ?_
                  refine R_bipush (pc := 84) (v := 8) dX9_farOf_84 (by decide) ?_
                  refine R_iload_n (pc := 86) dX9_farOf_86 rfl rfl ?_
                  refine R_imul (pc := 87) dX9_farOf_87 ?_
                  have r50 : inR (8 * b) 0 152 := inR_mulc (c := 8) (l := 0) (h := 152) 8 (by decide) (show inR b 0 19 from hb) (by decide) (by decide)
                  have e51 := ti_mulc (c := 8) (l := 0) (h := 152) 8 (by decide) (show inR b 0 19 from hb) (by decide) (by decide)
                  refine R_iload (pc := 88) dX9_farOf_88 rfl ?_
                  refine R_iadd (pc := 90) dX9_farOf_90 ?_
                  have r52 : inR ((8 * b) + (nI j47)) 1 160 := inR_add (show inR (8 * b) 0 152 from r50) (show inR (nI j47) 1 8 from hr47) (by decide) (by decide)
                  have e53 := ti_add (l := 1) (h := 160) (show inR (8 * b) 0 152 from r50) (show inR (nI j47) 1 8 from hr47) (by decide) (by decide)
                  refine R_iconst (pc := 91) (v := 1) dX9_farOf_91 (by decide) ?_
                  refine R_isub (pc := 92) dX9_farOf_92 ?_
                  have r54 : inR (((8 * b) + (nI j47)) - 1) 0 159 := inR_sub (show inR ((8 * b) + (nI j47)) 1 160 from r52) (show inR 1 1 1 from (inR_self _)) (by decide) (by decide)
                  have e55 := ti_sub (l := 0) (h := 159) (show inR ((8 * b) + (nI j47)) 1 160 from r52) (show inR 1 1 1 from (inR_self _)) (by decide) (by decide)
                  have hx56 : vp_in (((8 * b) + (nI j47)) - 1) 160 := (vp_of_inR r54 (by decide))
                  refine R_iaload (pc := 93) dX9_farOf_93 (c_150 _) hx56 ?_
                  refine R_icne (pc := 94) 101 dX9_farOf_94 (by decide) (fun b94_57 => ?_) (fun b94_57 => ?_)
                  · skip
                    refine R_iconst (pc := 101) (v := 1) dX9_farOf_101 (by decide) ?_
                    refine R_iadd (pc := 102) dX9_farOf_102 ?_
                    refine st_6_5_i_i (pc := 103) dX9_farOf_103 ?_
                    refine R_aload_n (pc := 105) dX9_farOf_105 rfl rfl ?_
                    refine g_X9_60 (pc := 106) (v := .ref 154) rfl dX9_farOf_106 (c_140 _) rfl ?_
                    refine R_iload (pc := 109) dX9_farOf_109 rfl ?_
                    have hx58 : vp_in (nI j47) 9 := (vp_in_nI (by omega) (by decide))
                    refine R_iaload (pc := 111) dX9_farOf_111 (c_154 _) hx58 ?_
                    refine R_iconst (pc := 112) (v := 1) dX9_farOf_112 (by decide) ?_
                    refine R_iadd (pc := 113) dX9_farOf_113 ?_
                    refine R_iload (pc := 114) dX9_farOf_114 rfl ?_
                    refine R_icge (pc := 116) 131 dX9_farOf_116 (by decide) (fun b116_59 => ?_) (fun b116_59 => ?_)
                    · skip
                      refine R_iload (pc := 131) dX9_farOf_131 rfl ?_
                      refine st_6_5_i_i (pc := 133) dX9_farOf_133 ?_
                      refine R_aload_n (pc := 135) dX9_farOf_135 rfl rfl ?_
                      refine g_X9_63 (pc := 136) (v := .ref 155) rfl dX9_farOf_136 (c_140 _) rfl ?_
                      refine R_iload (pc := 139) dX9_farOf_139 rfl ?_
                      refine R_aload_n (pc := 141) dX9_farOf_141 rfl rfl ?_
                      refine g_X9_63 (pc := 142) (v := .ref 155) rfl dX9_farOf_142 (c_140 _) rfl ?_
                      refine R_iload (pc := 145) dX9_farOf_145 rfl ?_
                      refine R_iconst (pc := 147) (v := 1) dX9_farOf_147 (by decide) ?_
                      refine R_isub (pc := 148) dX9_farOf_148 ?_
                      have r60 : inR ((nI j47) - 1) 0 7 := inR_sub (show inR (nI j47) 1 8 from hr47) (show inR 1 1 1 from (inR_self _)) (by decide) (by decide)
                      have e61 := ti_sub (l := 0) (h := 7) (show inR (nI j47) 1 8 from hr47) (show inR 1 1 1 from (inR_self _)) (by decide) (by decide)
                      have hx62 : vp_in ((nI j47) - 1) 9 := (vp_of_inR r60 (by decide))
                      refine R_iaload (pc := 149) dX9_farOf_149 (c_155 _) hx62 ?_
                      refine R_iconst (pc := 150) (v := 1) dX9_farOf_150 (by decide) ?_
                      refine R_iadd (pc := 151) dX9_farOf_151 ?_
                      refine R_iload (pc := 152) dX9_farOf_152 rfl ?_
                      refine R_icge (pc := 154) 171 dX9_farOf_154 (by decide) (fun b154_63 => ?_) (fun b154_63 => ?_)
                      · skip
                        refine R_iload (pc := 171) dX9_farOf_171 rfl ?_
                        have hx64 : vp_in (nI j47) 9 := (vp_in_nI (by omega) (by decide))
                        refine W_iastore (pc := 173) dX9_farOf_173 (c_155 _) hx64 (a_155 _ _) ?_
                        refine inc_6_4_1_i (pc := 174) dX9_farOf_174 ?_
                        have r65 : inR ((nI j47) + 1) 2 9 := inR_add (show inR (nI j47) 1 8 from hr47) (show inR 1 1 1 from (inR_self _)) (by decide) (by decide)
                        have e66 := ti_add (l := 2) (h := 9) (show inR (nI j47) 1 8 from hr47) (show inR 1 1 1 from (inR_self _)) (by decide) (by decide)
                        refine R_goto (pc := 177) 47 dX9_farOf_177 (by decide) ?_
                        rw [nI_1]
                        exact ih47 (j47 + 1) _ _ (by omega) (by omega) hI47
                      · skip
                        refine R_aload_n (pc := 157) dX9_farOf_157 rfl rfl ?_
                        refine g_X9_63 (pc := 158) (v := .ref 155) rfl dX9_farOf_158 (c_140 _) rfl ?_
                        refine R_iload (pc := 161) dX9_farOf_161 rfl ?_
                        refine R_iconst (pc := 163) (v := 1) dX9_farOf_163 (by decide) ?_
                        refine R_isub (pc := 164) dX9_farOf_164 ?_
                        have r67 : inR ((nI j47) - 1) 0 7 := inR_sub (show inR (nI j47) 1 8 from hr47) (show inR 1 1 1 from (inR_self _)) (by decide) (by decide)
                        have e68 := ti_sub (l := 0) (h := 7) (show inR (nI j47) 1 8 from hr47) (show inR 1 1 1 from (inR_self _)) (by decide) (by decide)
                        have hx69 : vp_in ((nI j47) - 1) 9 := (vp_of_inR r67 (by decide))
                        refine R_iaload (pc := 165) dX9_farOf_165 (c_155 _) hx69 ?_
                        refine R_iconst (pc := 166) (v := 1) dX9_farOf_166 (by decide) ?_
                        refine R_iadd (pc := 167) dX9_farOf_167 ?_
                        refine R_goto (pc := 168) 173 dX9_farOf_168 (by decide) ?_
                        have hx70 : vp_in (nI j47) 9 := (vp_in_nI (by omega) (by decide))
                        refine W_iastore (pc := 173) dX9_farOf_173 (c_155 _) hx70 (a_155 _ _) ?_
                        refine inc_6_4_1_i (pc := 174) dX9_farOf_174 ?_
                        have r71 : inR ((nI j47) + 1) 2 9 := inR_add (show inR (nI j47) 1 8 from hr47) (show inR 1 1 1 from (inR_self _)) (by decide) (by decide)
                        have e72 := ti_add (l := 2) (h := 9) (show inR (nI j47) 1 8 from hr47) (show inR 1 1 1 from (inR_self _)) (by decide) (by decide)
                        refine R_goto (pc := 177) 47 dX9_farOf_177 (by decide) ?_
                        rw [nI_1]
                        exact ih47 (j47 + 1) _ _ (by omega) (by omega) hI47
                    · skip
                      refine R_aload_n (pc := 119) dX9_farOf_119 rfl rfl ?_
                      refine g_X9_60 (pc := 120) (v := .ref 154) rfl dX9_farOf_120 (c_140 _) rfl ?_
                      refine R_iload (pc := 123) dX9_farOf_123 rfl ?_
                      have hx73 : vp_in (nI j47) 9 := (vp_in_nI (by omega) (by decide))
                      refine R_iaload (pc := 125) dX9_farOf_125 (c_154 _) hx73 ?_
                      refine R_iconst (pc := 126) (v := 1) dX9_farOf_126 (by decide) ?_
                      refine R_iadd (pc := 127) dX9_farOf_127 ?_
                      refine R_goto (pc := 128) 133 dX9_farOf_128 (by decide) ?_
                      refine st_6_5_i_i (pc := 133) dX9_farOf_133 ?_
                      refine R_aload_n (pc := 135) dX9_farOf_135 rfl rfl ?_
                      refine g_X9_63 (pc := 136) (v := .ref 155) rfl dX9_farOf_136 (c_140 _) rfl ?_
                      refine R_iload (pc := 139) dX9_farOf_139 rfl ?_
                      refine R_aload_n (pc := 141) dX9_farOf_141 rfl rfl ?_
                      refine g_X9_63 (pc := 142) (v := .ref 155) rfl dX9_farOf_142 (c_140 _) rfl ?_
                      refine R_iload (pc := 145) dX9_farOf_145 rfl ?_
                      refine R_iconst (pc := 147) (v := 1) dX9_farOf_147 (by decide) ?_
                      refine R_isub (pc := 148) dX9_farOf_148 ?_
                      have r74 : inR ((nI j47) - 1) 0 7 := inR_sub (show inR (nI j47) 1 8 from hr47) (show inR 1 1 1 from (inR_self _)) (by decide) (by decide)
                      have e75 := ti_sub (l := 0) (h := 7) (show inR (nI j47) 1 8 from hr47) (show inR 1 1 1 from (inR_self _)) (by decide) (by decide)
                      have hx76 : vp_in ((nI j47) - 1) 9 := (vp_of_inR r74 (by decide))
                      refine R_iaload (pc := 149) dX9_farOf_149 (c_155 _) hx76 ?_
                      refine R_iconst (pc := 150) (v := 1) dX9_farOf_150 (by decide) ?_
                      refine R_iadd (pc := 151) dX9_farOf_151 ?_
                      refine R_iload (pc := 152) dX9_farOf_152 rfl ?_
                      refine R_icge (pc := 154) 171 dX9_farOf_154 (by decide) (fun b154_77 => ?_) (fun b154_77 => ?_)
                      · skip
                        refine R_iload (pc := 171) dX9_farOf_171 rfl ?_
                        have hx78 : vp_in (nI j47) 9 := (vp_in_nI (by omega) (by decide))
                        refine W_iastore (pc := 173) dX9_farOf_173 (c_155 _) hx78 (a_155 _ _) ?_
                        refine inc_6_4_1_i (pc := 174) dX9_farOf_174 ?_
                        have r79 : inR ((nI j47) + 1) 2 9 := inR_add (show inR (nI j47) 1 8 from hr47) (show inR 1 1 1 from (inR_self _)) (by decide) (by decide)
                        have e80 := ti_add (l := 2) (h := 9) (show inR (nI j47) 1 8 from hr47) (show inR 1 1 1 from (inR_self _)) (by decide) (by decide)
                        refine R_goto (pc := 177) 47 dX9_farOf_177 (by decide) ?_
                        rw [nI_1]
                        exact ih47 (j47 + 1) _ _ (by omega) (by omega) hI47
                      · skip
                        refine R_aload_n (pc := 157) dX9_farOf_157 rfl rfl ?_
                        refine g_X9_63 (pc := 158) (v := .ref 155) rfl dX9_farOf_158 (c_140 _) rfl ?_
                        refine R_iload (pc := 161) dX9_farOf_161 rfl ?_
                        refine R_iconst (pc := 163) (v := 1) dX9_farOf_163 (by decide) ?_
                        refine R_isub (pc := 164) dX9_farOf_164 ?_
                        have r81 : inR ((nI j47) - 1) 0 7 := inR_sub (show inR (nI j47) 1 8 from hr47) (show inR 1 1 1 from (inR_self _)) (by decide) (by decide)
                        have e82 := ti_sub (l := 0) (h := 7) (show inR (nI j47) 1 8 from hr47) (show inR 1 1 1 from (inR_self _)) (by decide) (by decide)
                        have hx83 : vp_in ((nI j47) - 1) 9 := (vp_of_inR r81 (by decide))
                        refine R_iaload (pc := 165) dX9_farOf_165 (c_155 _) hx83 ?_
                        refine R_iconst (pc := 166) (v := 1) dX9_farOf_166 (by decide) ?_
                        refine R_iadd (pc := 167) dX9_farOf_167 ?_
                        refine R_goto (pc := 168) 173 dX9_farOf_168 (by decide) ?_
                        have hx84 : vp_in (nI j47) 9 := (vp_in_nI (by omega) (by decide))
                        refine W_iastore (pc := 173) dX9_farOf_173 (c_155 _) hx84 (a_155 _ _) ?_
                        refine inc_6_4_1_i (pc := 174) dX9_farOf_174 ?_
                        have r85 : inR ((nI j47) + 1) 2 9 := inR_add (show inR (nI j47) 1 8 from hr47) (show inR 1 1 1 from (inR_self _)) (by decide) (by decide)
                        have e86 := ti_add (l := 2) (h := 9) (show inR (nI j47) 1 8 from hr47) (show inR 1 1 1 from (inR_self _)) (by decide) (by decide)
                        refine R_goto (pc := 177) 47 dX9_farOf_177 (by decide) ?_
                        rw [nI_1]
                        exact ih47 (j47 + 1) _ _ (by omega) (by omega) hI47
                  · skip
                    refine R_iconst (pc := 97) (v := 0) dX9_farOf_97 (by decide) ?_
                    refine R_goto (pc := 98) 102 dX9_farOf_98 (by decide) ?_
                    refine R_iadd (pc := 102) dX9_farOf_102 ?_
                    refine st_6_5_i_i (pc := 103) dX9_farOf_103 ?_
                    refine R_aload_n (pc := 105) dX9_farOf_105 rfl rfl ?_
                    refine g_X9_60 (pc := 106) (v := .ref 154) rfl dX9_farOf_106 (c_140 _) rfl ?_
                    refine R_iload (pc := 109) dX9_farOf_109 rfl ?_
                    have hx87 : vp_in (nI j47) 9 := (vp_in_nI (by omega) (by decide))
                    refine R_iaload (pc := 111) dX9_farOf_111 (c_154 _) hx87 ?_
                    refine R_iconst (pc := 112) (v := 1) dX9_farOf_112 (by decide) ?_
                    refine R_iadd (pc := 113) dX9_farOf_113 ?_
                    refine R_iload (pc := 114) dX9_farOf_114 rfl ?_
                    refine R_icge (pc := 116) 131 dX9_farOf_116 (by decide) (fun b116_88 => ?_) (fun b116_88 => ?_)
                    · skip
                      refine R_iload (pc := 131) dX9_farOf_131 rfl ?_
                      refine st_6_5_i_i (pc := 133) dX9_farOf_133 ?_
                      refine R_aload_n (pc := 135) dX9_farOf_135 rfl rfl ?_
                      refine g_X9_63 (pc := 136) (v := .ref 155) rfl dX9_farOf_136 (c_140 _) rfl ?_
                      refine R_iload (pc := 139) dX9_farOf_139 rfl ?_
                      refine R_aload_n (pc := 141) dX9_farOf_141 rfl rfl ?_
                      refine g_X9_63 (pc := 142) (v := .ref 155) rfl dX9_farOf_142 (c_140 _) rfl ?_
                      refine R_iload (pc := 145) dX9_farOf_145 rfl ?_
                      refine R_iconst (pc := 147) (v := 1) dX9_farOf_147 (by decide) ?_
                      refine R_isub (pc := 148) dX9_farOf_148 ?_
                      have r89 : inR ((nI j47) - 1) 0 7 := inR_sub (show inR (nI j47) 1 8 from hr47) (show inR 1 1 1 from (inR_self _)) (by decide) (by decide)
                      have e90 := ti_sub (l := 0) (h := 7) (show inR (nI j47) 1 8 from hr47) (show inR 1 1 1 from (inR_self _)) (by decide) (by decide)
                      have hx91 : vp_in ((nI j47) - 1) 9 := (vp_of_inR r89 (by decide))
                      refine R_iaload (pc := 149) dX9_farOf_149 (c_155 _) hx91 ?_
                      refine R_iconst (pc := 150) (v := 1) dX9_farOf_150 (by decide) ?_
                      refine R_iadd (pc := 151) dX9_farOf_151 ?_
                      refine R_iload (pc := 152) dX9_farOf_152 rfl ?_
                      refine R_icge (pc := 154) 171 dX9_farOf_154 (by decide) (fun b154_92 => ?_) (fun b154_92 => ?_)
                      · skip
                        refine R_iload (pc := 171) dX9_farOf_171 rfl ?_
                        have hx93 : vp_in (nI j47) 9 := (vp_in_nI (by omega) (by decide))
                        refine W_iastore (pc := 173) dX9_farOf_173 (c_155 _) hx93 (a_155 _ _) ?_
                        refine inc_6_4_1_i (pc := 174) dX9_farOf_174 ?_
                        have r94 : inR ((nI j47) + 1) 2 9 := inR_add (show inR (nI j47) 1 8 from hr47) (show inR 1 1 1 from (inR_self _)) (by decide) (by decide)
                        have e95 := ti_add (l := 2) (h := 9) (show inR (nI j47) 1 8 from hr47) (show inR 1 1 1 from (inR_self _)) (by decide) (by decide)
                        refine R_goto (pc := 177) 47 dX9_farOf_177 (by decide) ?_
                        rw [nI_1]
                        exact ih47 (j47 + 1) _ _ (by omega) (by omega) hI47
                      · skip
                        refine R_aload_n (pc := 157) dX9_farOf_157 rfl rfl ?_
                        refine g_X9_63 (pc := 158) (v := .ref 155) rfl dX9_farOf_158 (c_140 _) rfl ?_
                        refine R_iload (pc := 161) dX9_farOf_161 rfl ?_
                        refine R_iconst (pc := 163) (v := 1) dX9_farOf_163 (by decide) ?_
                        refine R_isub (pc := 164) dX9_farOf_164 ?_
                        have r96 : inR ((nI j47) - 1) 0 7 := inR_sub (show inR (nI j47) 1 8 from hr47) (show inR 1 1 1 from (inR_self _)) (by decide) (by decide)
                        have e97 := ti_sub (l := 0) (h := 7) (show inR (nI j47) 1 8 from hr47) (show inR 1 1 1 from (inR_self _)) (by decide) (by decide)
                        have hx98 : vp_in ((nI j47) - 1) 9 := (vp_of_inR r96 (by decide))
                        refine R_iaload (pc := 165) dX9_farOf_165 (c_155 _) hx98 ?_
                        refine R_iconst (pc := 166) (v := 1) dX9_farOf_166 (by decide) ?_
                        refine R_iadd (pc := 167) dX9_farOf_167 ?_
                        refine R_goto (pc := 168) 173 dX9_farOf_168 (by decide) ?_
                        have hx99 : vp_in (nI j47) 9 := (vp_in_nI (by omega) (by decide))
                        refine W_iastore (pc := 173) dX9_farOf_173 (c_155 _) hx99 (a_155 _ _) ?_
                        refine inc_6_4_1_i (pc := 174) dX9_farOf_174 ?_
                        have r100 : inR ((nI j47) + 1) 2 9 := inR_add (show inR (nI j47) 1 8 from hr47) (show inR 1 1 1 from (inR_self _)) (by decide) (by decide)
                        have e101 := ti_add (l := 2) (h := 9) (show inR (nI j47) 1 8 from hr47) (show inR 1 1 1 from (inR_self _)) (by decide) (by decide)
                        refine R_goto (pc := 177) 47 dX9_farOf_177 (by decide) ?_
                        rw [nI_1]
                        exact ih47 (j47 + 1) _ _ (by omega) (by omega) hI47
                    · skip
                      refine R_aload_n (pc := 119) dX9_farOf_119 rfl rfl ?_
                      refine g_X9_60 (pc := 120) (v := .ref 154) rfl dX9_farOf_120 (c_140 _) rfl ?_
                      refine R_iload (pc := 123) dX9_farOf_123 rfl ?_
                      have hx102 : vp_in (nI j47) 9 := (vp_in_nI (by omega) (by decide))
                      refine R_iaload (pc := 125) dX9_farOf_125 (c_154 _) hx102 ?_
                      refine R_iconst (pc := 126) (v := 1) dX9_farOf_126 (by decide) ?_
                      refine R_iadd (pc := 127) dX9_farOf_127 ?_
                      refine R_goto (pc := 128) 133 dX9_farOf_128 (by decide) ?_
                      refine st_6_5_i_i (pc := 133) dX9_farOf_133 ?_
                      refine R_aload_n (pc := 135) dX9_farOf_135 rfl rfl ?_
                      refine g_X9_63 (pc := 136) (v := .ref 155) rfl dX9_farOf_136 (c_140 _) rfl ?_
                      refine R_iload (pc := 139) dX9_farOf_139 rfl ?_
                      refine R_aload_n (pc := 141) dX9_farOf_141 rfl rfl ?_
                      refine g_X9_63 (pc := 142) (v := .ref 155) rfl dX9_farOf_142 (c_140 _) rfl ?_
                      refine R_iload (pc := 145) dX9_farOf_145 rfl ?_
                      refine R_iconst (pc := 147) (v := 1) dX9_farOf_147 (by decide) ?_
                      refine R_isub (pc := 148) dX9_farOf_148 ?_
                      have r103 : inR ((nI j47) - 1) 0 7 := inR_sub (show inR (nI j47) 1 8 from hr47) (show inR 1 1 1 from (inR_self _)) (by decide) (by decide)
                      have e104 := ti_sub (l := 0) (h := 7) (show inR (nI j47) 1 8 from hr47) (show inR 1 1 1 from (inR_self _)) (by decide) (by decide)
                      have hx105 : vp_in ((nI j47) - 1) 9 := (vp_of_inR r103 (by decide))
                      refine R_iaload (pc := 149) dX9_farOf_149 (c_155 _) hx105 ?_
                      refine R_iconst (pc := 150) (v := 1) dX9_farOf_150 (by decide) ?_
                      refine R_iadd (pc := 151) dX9_farOf_151 ?_
                      refine R_iload (pc := 152) dX9_farOf_152 rfl ?_
                      refine R_icge (pc := 154) 171 dX9_farOf_154 (by decide) (fun b154_106 => ?_) (fun b154_106 => ?_)
                      · skip
                        refine R_iload (pc := 171) dX9_farOf_171 rfl ?_
                        have hx107 : vp_in (nI j47) 9 := (vp_in_nI (by omega) (by decide))
                        refine W_iastore (pc := 173) dX9_farOf_173 (c_155 _) hx107 (a_155 _ _) ?_
                        refine inc_6_4_1_i (pc := 174) dX9_farOf_174 ?_
                        have r108 : inR ((nI j47) + 1) 2 9 := inR_add (show inR (nI j47) 1 8 from hr47) (show inR 1 1 1 from (inR_self _)) (by decide) (by decide)
                        have e109 := ti_add (l := 2) (h := 9) (show inR (nI j47) 1 8 from hr47) (show inR 1 1 1 from (inR_self _)) (by decide) (by decide)
                        refine R_goto (pc := 177) 47 dX9_farOf_177 (by decide) ?_
                        rw [nI_1]
                        exact ih47 (j47 + 1) _ _ (by omega) (by omega) hI47
                      · skip
                        refine R_aload_n (pc := 157) dX9_farOf_157 rfl rfl ?_
                        refine g_X9_63 (pc := 158) (v := .ref 155) rfl dX9_farOf_158 (c_140 _) rfl ?_
                        refine R_iload (pc := 161) dX9_farOf_161 rfl ?_
                        refine R_iconst (pc := 163) (v := 1) dX9_farOf_163 (by decide) ?_
                        refine R_isub (pc := 164) dX9_farOf_164 ?_
                        have r110 : inR ((nI j47) - 1) 0 7 := inR_sub (show inR (nI j47) 1 8 from hr47) (show inR 1 1 1 from (inR_self _)) (by decide) (by decide)
                        have e111 := ti_sub (l := 0) (h := 7) (show inR (nI j47) 1 8 from hr47) (show inR 1 1 1 from (inR_self _)) (by decide) (by decide)
                        have hx112 : vp_in ((nI j47) - 1) 9 := (vp_of_inR r110 (by decide))
                        refine R_iaload (pc := 165) dX9_farOf_165 (c_155 _) hx112 ?_
                        refine R_iconst (pc := 166) (v := 1) dX9_farOf_166 (by decide) ?_
                        refine R_iadd (pc := 167) dX9_farOf_167 ?_
                        refine R_goto (pc := 168) 173 dX9_farOf_168 (by decide) ?_
                        have hx113 : vp_in (nI j47) 9 := (vp_in_nI (by omega) (by decide))
                        refine W_iastore (pc := 173) dX9_farOf_173 (c_155 _) hx113 (a_155 _ _) ?_
                        refine inc_6_4_1_i (pc := 174) dX9_farOf_174 ?_
                        have r114 : inR ((nI j47) + 1) 2 9 := inR_add (show inR (nI j47) 1 8 from hr47) (show inR 1 1 1 from (inR_self _)) (by decide) (by decide)
                        have e115 := ti_add (l := 2) (h := 9) (show inR (nI j47) 1 8 from hr47) (show inR 1 1 1 from (inR_self _)) (by decide) (by decide)
                        refine R_goto (pc := 177) 47 dX9_farOf_177 (by decide) ?_
                        rw [nI_1]
                        exact ih47 (j47 + 1) _ _ (by omega) (by omega) hI47
            exact HL47 8 1 _ _ (by omega) (by omega) hI27
      exact HL27 8 1 _ _ _ (by omega) (by omega) hI2
    | succ q ih2 =>
      intro j2 σ2 hj hs2 hI2
      have hr2 : inR (nI j2) 0 8 := inR_ix hs2 (show j2 < 9 by omega) (by decide) (by decide) (by decide)
      have hlt2 : j2 < 9 := by omega
      refine R_iload_n (pc := 2) dX9_farOf_2 rfl rfl ?_
      refine R_aload_n (pc := 3) dX9_farOf_3 rfl rfl ?_
      refine g_X9_35 (pc := 4) (v := .ref 149) rfl dX9_farOf_4 (c_140 _) rfl ?_
      refine R_iload_n (pc := 7) dX9_farOf_7 rfl rfl ?_
      have hx116 : vp_in b 20 := (vp_of_inR hb (by decide))
      refine R_iaload (pc := 8) dX9_farOf_8 (c_149 _) hx116 ?_
      refine R_icgt (pc := 9) 25 dX9_farOf_9 (by decide) (fun b9_117 => ?_) (fun b9_117 => ?_)
      · skip
        refine R_iconst (pc := 25) (v := 1) dX9_farOf_25 (by decide) ?_
        refine st_6_3_i_i (pc := 26) dX9_farOf_26 ?_
        have HL27 : ∀ (q j27 : Nat) (σ27 : Sg) (g4_27 : Option Value) (g5_27 : Option Value), j27 + q = 9 → 1 ≤ j27 → Inv σ27 → R G l yX9_farOf cX9_farOf 6 (some .int) 0 0 0 (QI (fun _ w2 => ∃ σ2, w2 = WW σ2 ∧ Inv σ2)) 27 [(some (.ref 140)), (some (.int a)), (some (.int b)), (some (.int (nI j27))), g4_27, g5_27] [] (WW σ27) 0 0 := by
          intro q
          induction q with
          | zero =>
            intro j27 σ27 g4_27 g5_27 hj hs27 hI27
            obtain rfl : j27 = 9 := by omega
            refine R_iload_n (pc := 27) dX9_farOf_27 rfl rfl ?_
            refine R_aload_n (pc := 28) dX9_farOf_28 rfl rfl ?_
            refine g_X9_35 (pc := 29) (v := .ref 149) rfl dX9_farOf_29 (c_140 _) rfl ?_
            refine R_iload_n (pc := 32) dX9_farOf_32 rfl rfl ?_
            have hx118 : vp_in a 20 := (vp_of_inR ha (by decide))
            refine R_iaload (pc := 33) dX9_farOf_33 (c_149 _) hx118 ?_
            refine R_icgt (pc := 34) 220 dX9_farOf_34 (by decide) (fun _ => ?_) (fun h => False.elim (by have q1 := ti_nlt h; have q2 := ti_in (show inR (nI 9) 9 9 from (inR_self _)); have q3 := ti_in (show inR (σ27.2.2.1 149 (Int32.toNatClampNeg a)) 0 8 from (iva_149 hI27 _ (lt_of_vp hx118))); have z0 : (0 : Int32).toInt = 0 := (by decide);  have z1 : (149 : Int32).toInt = 149 := (by decide);  have z2 : (8 : Int32).toInt = 8 := (by decide);  have z3 : (9 : Int32).toInt = 9 := (by decide); omega))
            refine R_aload_n (pc := 220) dX9_farOf_220 rfl rfl ?_
            refine g_X9_60 (pc := 221) (v := .ref 154) rfl dX9_farOf_221 (c_140 _) rfl ?_
            refine R_aload_n (pc := 224) dX9_farOf_224 rfl rfl ?_
            refine g_X9_35 (pc := 225) (v := .ref 149) rfl dX9_farOf_225 (c_140 _) rfl ?_
            refine R_iload_n (pc := 228) dX9_farOf_228 rfl rfl ?_
            have hx120 : vp_in b 20 := (vp_of_inR hb (by decide))
            refine R_iaload (pc := 229) dX9_farOf_229 (c_149 _) hx120 ?_
            have hx121 : vp_in (σ27.2.2.1 149 (Int32.toNatClampNeg b)) 9 := (vp_of_inR (iva_149 hI27 _ (lt_of_vp hx120)) (by decide))
            refine R_iaload (pc := 230) dX9_farOf_230 (c_154 _) hx121 ?_
            exact R_iret (pc := 231) dX9_farOf_231 rfl rfl (Nat.zero_le _) (Nat.zero_le _) ⟨_, rfl, _, rfl, hI27⟩
          | succ q ih27 =>
            intro j27 σ27 g4_27 g5_27 hj hs27 hI27
            have hr27 : inR (nI j27) 1 8 := inR_ix hs27 (show j27 < 9 by omega) (by decide) (by decide) (by decide)
            have hlt27 : j27 < 9 := by omega
            refine R_iload_n (pc := 27) dX9_farOf_27 rfl rfl ?_
            refine R_aload_n (pc := 28) dX9_farOf_28 rfl rfl ?_
            refine g_X9_35 (pc := 29) (v := .ref 149) rfl dX9_farOf_29 (c_140 _) rfl ?_
            refine R_iload_n (pc := 32) dX9_farOf_32 rfl rfl ?_
            have hx122 : vp_in a 20 := (vp_of_inR ha (by decide))
            refine R_iaload (pc := 33) dX9_farOf_33 (c_149 _) hx122 ?_
            refine R_icgt (pc := 34) 220 dX9_farOf_34 (by decide) (fun b34_123 => ?_) (fun b34_123 => ?_)
            · skip
              refine R_aload_n (pc := 220) dX9_farOf_220 rfl rfl ?_
              refine g_X9_60 (pc := 221) (v := .ref 154) rfl dX9_farOf_221 (c_140 _) rfl ?_
              refine R_aload_n (pc := 224) dX9_farOf_224 rfl rfl ?_
              refine g_X9_35 (pc := 225) (v := .ref 149) rfl dX9_farOf_225 (c_140 _) rfl ?_
              refine R_iload_n (pc := 228) dX9_farOf_228 rfl rfl ?_
              have hx124 : vp_in b 20 := (vp_of_inR hb (by decide))
              refine R_iaload (pc := 229) dX9_farOf_229 (c_149 _) hx124 ?_
              have hx125 : vp_in (σ27.2.2.1 149 (Int32.toNatClampNeg b)) 9 := (vp_of_inR (iva_149 hI27 _ (lt_of_vp hx124)) (by decide))
              refine R_iaload (pc := 230) dX9_farOf_230 (c_154 _) hx125 ?_
              exact R_iret (pc := 231) dX9_farOf_231 rfl rfl (Nat.zero_le _) (Nat.zero_le _) ⟨_, rfl, _, rfl, hI27⟩
            · skip
              refine R_aload_n (pc := 37) dX9_farOf_37 rfl rfl ?_
              refine g_X9_63 (pc := 38) (v := .ref 155) rfl dX9_farOf_38 (c_140 _) rfl ?_
              refine R_iconst (pc := 41) (v := 0) dX9_farOf_41 (by decide) ?_
              refine R_iload_n (pc := 42) dX9_farOf_42 rfl rfl ?_
              have hx126 : vp_in 0 9 := (by unfold vp_in; decide)
              refine W_iastore (pc := 43) dX9_farOf_43 (c_155 _) hx126 (a_155 _ _) ?_
              refine R_iconst (pc := 44) (v := 1) dX9_farOf_44 (by decide) ?_
              refine st_6_4_i_i (pc := 45) dX9_farOf_45 ?_
              have HL47 : ∀ (q j47 : Nat) (σ47 : Sg) (g5_47 : Option Value), j47 + q = 9 → 1 ≤ j47 → Inv σ47 → R G l yX9_farOf cX9_farOf 6 (some .int) 0 0 0 (QI (fun _ w2 => ∃ σ2, w2 = WW σ2 ∧ Inv σ2)) 47 [(some (.ref 140)), (some (.int a)), (some (.int b)), (some (.int (nI j27))), (some (.int (nI j47))), g5_47] [] (WW σ47) 0 0 := by
                intro q
                induction q with
                | zero =>
                  intro j47 σ47 g5_47 hj hs47 hI47
                  obtain rfl : j47 = 9 := by omega
                  refine R_iload (pc := 47) dX9_farOf_47 rfl ?_
                  refine R_aload_n (pc := 49) dX9_farOf_49 rfl rfl ?_
                  refine g_X9_35 (pc := 50) (v := .ref 149) rfl dX9_farOf_50 (c_140 _) rfl ?_
                  refine R_iload_n (pc := 53) dX9_farOf_53 rfl rfl ?_
                  have hx127 : vp_in b 20 := (vp_of_inR hb (by decide))
                  refine R_iaload (pc := 54) dX9_farOf_54 (c_149 _) hx127 ?_
                  refine R_icgt (pc := 55) 180 dX9_farOf_55 (by decide) (fun _ => ?_) (fun h => False.elim (by have q1 := ti_nlt h; have q2 := ti_in (show inR (nI 9) 9 9 from (inR_self _)); have q3 := ti_in (show inR (σ47.2.2.1 149 (Int32.toNatClampNeg b)) 0 8 from (iva_149 hI47 _ (lt_of_vp hx127))); have z0 : (0 : Int32).toInt = 0 := (by decide);  have z1 : (149 : Int32).toInt = 149 := (by decide);  have z2 : (8 : Int32).toInt = 8 := (by decide);  have z3 : (9 : Int32).toInt = 9 := (by decide); omega))
                  refine R_iconst (pc := 180) (v := 0) dX9_farOf_180 (by decide) ?_
                  refine st_6_4_i_i (pc := 181) dX9_farOf_181 ?_
                  have HL183 : ∀ (q j183 : Nat) (σ183 : Sg), j183 + q = 9 → 0 ≤ j183 → Inv σ183 → R G l yX9_farOf cX9_farOf 6 (some .int) 0 0 0 (QI (fun _ w2 => ∃ σ2, w2 = WW σ2 ∧ Inv σ2)) 183 [(some (.ref 140)), (some (.int a)), (some (.int b)), (some (.int (nI j27))), (some (.int (nI j183))), g5_47] [] (WW σ183) 0 0 := by
                    intro q
                    induction q with
                    | zero =>
                      intro j183 σ183 hj hs183 hI183
                      obtain rfl : j183 = 9 := by omega
                      refine R_iload (pc := 183) dX9_farOf_183 rfl ?_
                      refine R_aload_n (pc := 185) dX9_farOf_185 rfl rfl ?_
                      refine g_X9_35 (pc := 186) (v := .ref 149) rfl dX9_farOf_186 (c_140 _) rfl ?_
                      refine R_iload_n (pc := 189) dX9_farOf_189 rfl rfl ?_
                      have hx129 : vp_in b 20 := (vp_of_inR hb (by decide))
                      refine R_iaload (pc := 190) dX9_farOf_190 (c_149 _) hx129 ?_
                      refine R_icgt (pc := 191) 214 dX9_farOf_191 (by decide) (fun _ => ?_) (fun h => False.elim (by have q1 := ti_nlt h; have q2 := ti_in (show inR (nI 9) 9 9 from (inR_self _)); have q3 := ti_in (show inR (σ183.2.2.1 149 (Int32.toNatClampNeg b)) 0 8 from (iva_149 hI183 _ (lt_of_vp hx129))); have z0 : (0 : Int32).toInt = 0 := (by decide);  have z1 : (149 : Int32).toInt = 149 := (by decide);  have z2 : (8 : Int32).toInt = 8 := (by decide);  have z3 : (9 : Int32).toInt = 9 := (by decide); omega))
                      refine inc_6_3_1_i (pc := 214) dX9_farOf_214 ?_
                      have r131 : inR ((nI j27) + 1) 2 9 := inR_add (show inR (nI j27) 1 8 from hr27) (show inR 1 1 1 from (inR_self _)) (by decide) (by decide)
                      have e132 := ti_add (l := 2) (h := 9) (show inR (nI j27) 1 8 from hr27) (show inR 1 1 1 from (inR_self _)) (by decide) (by decide)
                      refine R_goto (pc := 217) 27 dX9_farOf_217 (by decide) ?_
                      rw [nI_1]
                      exact ih27 (j27 + 1) _ _ _ (by omega) (by omega) hI183
                    | succ q ih183 =>
                      intro j183 σ183 hj hs183 hI183
                      have hr183 : inR (nI j183) 0 8 := inR_ix hs183 (show j183 < 9 by omega) (by decide) (by decide) (by decide)
                      have hlt183 : j183 < 9 := by omega
                      refine R_iload (pc := 183) dX9_farOf_183 rfl ?_
                      refine R_aload_n (pc := 185) dX9_farOf_185 rfl rfl ?_
                      refine g_X9_35 (pc := 186) (v := .ref 149) rfl dX9_farOf_186 (c_140 _) rfl ?_
                      refine R_iload_n (pc := 189) dX9_farOf_189 rfl rfl ?_
                      have hx133 : vp_in b 20 := (vp_of_inR hb (by decide))
                      refine R_iaload (pc := 190) dX9_farOf_190 (c_149 _) hx133 ?_
                      refine R_icgt (pc := 191) 214 dX9_farOf_191 (by decide) (fun b191_134 => ?_) (fun b191_134 => ?_)
                      · skip
                        refine inc_6_3_1_i (pc := 214) dX9_farOf_214 ?_
                        have r135 : inR ((nI j27) + 1) 2 9 := inR_add (show inR (nI j27) 1 8 from hr27) (show inR 1 1 1 from (inR_self _)) (by decide) (by decide)
                        have e136 := ti_add (l := 2) (h := 9) (show inR (nI j27) 1 8 from hr27) (show inR 1 1 1 from (inR_self _)) (by decide) (by decide)
                        refine R_goto (pc := 217) 27 dX9_farOf_217 (by decide) ?_
                        rw [nI_1]
                        exact ih27 (j27 + 1) _ _ _ (by omega) (by omega) hI183
                      · skip
                        refine R_aload_n (pc := 194) dX9_farOf_194 rfl rfl ?_
                        refine g_X9_60 (pc := 195) (v := .ref 154) rfl dX9_farOf_195 (c_140 _) rfl ?_
                        refine R_iload (pc := 198) dX9_farOf_198 rfl ?_
                        refine R_aload_n (pc := 200) dX9_farOf_200 rfl rfl ?_
                        refine g_X9_63 (pc := 201) (v := .ref 155) rfl dX9_farOf_201 (c_140 _) rfl ?_
                        refine R_iload (pc := 204) dX9_farOf_204 rfl ?_
                        have hx137 : vp_in (nI j183) 9 := (vp_in_nI (by omega) (by decide))
                        refine R_iaload (pc := 206) dX9_farOf_206 (c_155 _) hx137 ?_
                        have hx138 : vp_in (nI j183) 9 := (vp_in_nI (by omega) (by decide))
                        refine W_iastore (pc := 207) dX9_farOf_207 (c_154 _) hx138 (a_154 _ _) ?_
                        refine inc_6_4_1_i (pc := 208) dX9_farOf_208 ?_
                        have r139 : inR ((nI j183) + 1) 1 9 := inR_add (show inR (nI j183) 0 8 from hr183) (show inR 1 1 1 from (inR_self _)) (by decide) (by decide)
                        have e140 := ti_add (l := 1) (h := 9) (show inR (nI j183) 0 8 from hr183) (show inR 1 1 1 from (inR_self _)) (by decide) (by decide)
                        refine R_goto (pc := 211) 183 dX9_farOf_211 (by decide) ?_
                        rw [nI_1]
                        exact ih183 (j183 + 1) _ (by omega) (by omega) hI183
                  exact HL183 9 0 _ (by omega) (by omega) hI47
                | succ q ih47 =>
                  intro j47 σ47 g5_47 hj hs47 hI47
                  have hr47 : inR (nI j47) 1 8 := inR_ix hs47 (show j47 < 9 by omega) (by decide) (by decide) (by decide)
                  have hlt47 : j47 < 9 := by omega
                  refine R_iload (pc := 47) dX9_farOf_47 rfl ?_
                  refine R_aload_n (pc := 49) dX9_farOf_49 rfl rfl ?_
                  refine g_X9_35 (pc := 50) (v := .ref 149) rfl dX9_farOf_50 (c_140 _) rfl ?_
                  refine R_iload_n (pc := 53) dX9_farOf_53 rfl rfl ?_
                  have hx141 : vp_in b 20 := (vp_of_inR hb (by decide))
                  refine R_iaload (pc := 54) dX9_farOf_54 (c_149 _) hx141 ?_
                  refine R_icgt (pc := 55) 180 dX9_farOf_55 (by decide) (fun b55_142 => ?_) (fun b55_142 => ?_)
                  · skip
                    refine R_iconst (pc := 180) (v := 0) dX9_farOf_180 (by decide) ?_
                    refine st_6_4_i_i (pc := 181) dX9_farOf_181 ?_
                    have HL183 : ∀ (q j183 : Nat) (σ183 : Sg), j183 + q = 9 → 0 ≤ j183 → Inv σ183 → R G l yX9_farOf cX9_farOf 6 (some .int) 0 0 0 (QI (fun _ w2 => ∃ σ2, w2 = WW σ2 ∧ Inv σ2)) 183 [(some (.ref 140)), (some (.int a)), (some (.int b)), (some (.int (nI j27))), (some (.int (nI j183))), g5_47] [] (WW σ183) 0 0 := by
                      intro q
                      induction q with
                      | zero =>
                        intro j183 σ183 hj hs183 hI183
                        obtain rfl : j183 = 9 := by omega
                        refine R_iload (pc := 183) dX9_farOf_183 rfl ?_
                        refine R_aload_n (pc := 185) dX9_farOf_185 rfl rfl ?_
                        refine g_X9_35 (pc := 186) (v := .ref 149) rfl dX9_farOf_186 (c_140 _) rfl ?_
                        refine R_iload_n (pc := 189) dX9_farOf_189 rfl rfl ?_
                        have hx143 : vp_in b 20 := (vp_of_inR hb (by decide))
                        refine R_iaload (pc := 190) dX9_farOf_190 (c_149 _) hx143 ?_
                        refine R_icgt (pc := 191) 214 dX9_farOf_191 (by decide) (fun _ => ?_) (fun h => False.elim (by have q1 := ti_nlt h; have q2 := ti_in (show inR (nI 9) 9 9 from (inR_self _)); have q3 := ti_in (show inR (σ183.2.2.1 149 (Int32.toNatClampNeg b)) 0 8 from (iva_149 hI183 _ (lt_of_vp hx143))); have z0 : (0 : Int32).toInt = 0 := (by decide);  have z1 : (149 : Int32).toInt = 149 := (by decide);  have z2 : (8 : Int32).toInt = 8 := (by decide);  have z3 : (9 : Int32).toInt = 9 := (by decide); omega))
                        refine inc_6_3_1_i (pc := 214) dX9_farOf_214 ?_
                        have r145 : inR ((nI j27) + 1) 2 9 := inR_add (show inR (nI j27) 1 8 from hr27) (show inR 1 1 1 from (inR_self _)) (by decide) (by decide)
                        have e146 := ti_add (l := 2) (h := 9) (show inR (nI j27) 1 8 from hr27) (show inR 1 1 1 from (inR_self _)) (by decide) (by decide)
                        refine R_goto (pc := 217) 27 dX9_farOf_217 (by decide) ?_
                        rw [nI_1]
                        exact ih27 (j27 + 1) _ _ _ (by omega) (by omega) hI183
                      | succ q ih183 =>
                        intro j183 σ183 hj hs183 hI183
                        have hr183 : inR (nI j183) 0 8 := inR_ix hs183 (show j183 < 9 by omega) (by decide) (by decide) (by decide)
                        have hlt183 : j183 < 9 := by omega
                        refine R_iload (pc := 183) dX9_farOf_183 rfl ?_
                        refine R_aload_n (pc := 185) dX9_farOf_185 rfl rfl ?_
                        refine g_X9_35 (pc := 186) (v := .ref 149) rfl dX9_farOf_186 (c_140 _) rfl ?_
                        refine R_iload_n (pc := 189) dX9_farOf_189 rfl rfl ?_
                        have hx147 : vp_in b 20 := (vp_of_inR hb (by decide))
                        refine R_iaload (pc := 190) dX9_farOf_190 (c_149 _) hx147 ?_
                        refine R_icgt (pc := 191) 214 dX9_farOf_191 (by decide) (fun b191_148 => ?_) (fun b191_148 => ?_)
                        · skip
                          refine inc_6_3_1_i (pc := 214) dX9_farOf_214 ?_
                          have r149 : inR ((nI j27) + 1) 2 9 := inR_add (show inR (nI j27) 1 8 from hr27) (show inR 1 1 1 from (inR_self _)) (by decide) (by decide)
                          have e150 := ti_add (l := 2) (h := 9) (show inR (nI j27) 1 8 from hr27) (show inR 1 1 1 from (inR_self _)) (by decide) (by decide)
                          refine R_goto (pc := 217) 27 dX9_farOf_217 (by decide) ?_
                          rw [nI_1]
                          exact ih27 (j27 + 1) _ _ _ (by omega) (by omega) hI183
                        · skip
                          refine R_aload_n (pc := 194) dX9_farOf_194 rfl rfl ?_
                          refine g_X9_60 (pc := 195) (v := .ref 154) rfl dX9_farOf_195 (c_140 _) rfl ?_
                          refine R_iload (pc := 198) dX9_farOf_198 rfl ?_
                          refine R_aload_n (pc := 200) dX9_farOf_200 rfl rfl ?_
                          refine g_X9_63 (pc := 201) (v := .ref 155) rfl dX9_farOf_201 (c_140 _) rfl ?_
                          refine R_iload (pc := 204) dX9_farOf_204 rfl ?_
                          have hx151 : vp_in (nI j183) 9 := (vp_in_nI (by omega) (by decide))
                          refine R_iaload (pc := 206) dX9_farOf_206 (c_155 _) hx151 ?_
                          have hx152 : vp_in (nI j183) 9 := (vp_in_nI (by omega) (by decide))
                          refine W_iastore (pc := 207) dX9_farOf_207 (c_154 _) hx152 (a_154 _ _) ?_
                          refine inc_6_4_1_i (pc := 208) dX9_farOf_208 ?_
                          have r153 : inR ((nI j183) + 1) 1 9 := inR_add (show inR (nI j183) 0 8 from hr183) (show inR 1 1 1 from (inR_self _)) (by decide) (by decide)
                          have e154 := ti_add (l := 1) (h := 9) (show inR (nI j183) 0 8 from hr183) (show inR 1 1 1 from (inR_self _)) (by decide) (by decide)
                          refine R_goto (pc := 211) 183 dX9_farOf_211 (by decide) ?_
                          rw [nI_1]
                          exact ih183 (j183 + 1) _ (by omega) (by omega) hI183
                    exact HL183 9 0 _ (by omega) (by omega) hI47
                  · skip
                    refine R_aload_n (pc := 58) dX9_farOf_58 rfl rfl ?_
                    refine g_X9_60 (pc := 59) (v := .ref 154) rfl dX9_farOf_59 (c_140 _) rfl ?_
                    refine R_iload (pc := 62) dX9_farOf_62 rfl ?_
                    refine R_iconst (pc := 64) (v := 1) dX9_farOf_64 (by decide) ?_
                    refine R_isub (pc := 65) dX9_farOf_65 ?_
                    have r155 : inR ((nI j47) - 1) 0 7 := inR_sub (show inR (nI j47) 1 8 from hr47) (show inR 1 1 1 from (inR_self _)) (by decide) (by decide)
                    have e156 := ti_sub (l := 0) (h := 7) (show inR (nI j47) 1 8 from hr47) (show inR 1 1 1 from (inR_self _)) (by decide) (by decide)
                    have hx157 : vp_in ((nI j47) - 1) 9 := (vp_of_inR r155 (by decide))
                    refine R_iaload (pc := 66) dX9_farOf_66 (c_154 _) hx157 ?_
                    refine R_aload_n (pc := 67) dX9_farOf_67 rfl rfl ?_
                    refine g_X9_38 (pc := 68) (v := .ref 150) rfl dX9_farOf_68 (c_140 _) rfl ?_
                    refine R_bipush (pc := 71) (v := 8) dX9_farOf_71 (by decide) ?_
                    refine R_iload_n (pc := 73) dX9_farOf_73 rfl rfl ?_
                    refine R_imul (pc := 74) dX9_farOf_74 ?_
                    have r158 : inR (8 * a) 0 152 := inR_mulc (c := 8) (l := 0) (h := 152) 8 (by decide) (show inR a 0 19 from ha) (by decide) (by decide)
                    have e159 := ti_mulc (c := 8) (l := 0) (h := 152) 8 (by decide) (show inR a 0 19 from ha) (by decide) (by decide)
                    refine R_iload_n (pc := 75) dX9_farOf_75 rfl rfl ?_
                    refine R_iadd (pc := 76) dX9_farOf_76 ?_
                    have r160 : inR ((8 * a) + (nI j27)) 1 160 := inR_add (show inR (8 * a) 0 152 from r158) (show inR (nI j27) 1 8 from hr27) (by decide) (by decide)
                    have e161 := ti_add (l := 1) (h := 160) (show inR (8 * a) 0 152 from r158) (show inR (nI j27) 1 8 from hr27) (by decide) (by decide)
                    refine R_iconst (pc := 77) (v := 1) dX9_farOf_77 (by decide) ?_
                    refine R_isub (pc := 78) dX9_farOf_78 ?_
                    have r162 : inR (((8 * a) + (nI j27)) - 1) 0 159 := inR_sub (show inR ((8 * a) + (nI j27)) 1 160 from r160) (show inR 1 1 1 from (inR_self _)) (by decide) (by decide)
                    have e163 := ti_sub (l := 0) (h := 159) (show inR ((8 * a) + (nI j27)) 1 160 from r160) (show inR 1 1 1 from (inR_self _)) (by decide) (by decide)
                    have hx164 : vp_in (((8 * a) + (nI j27)) - 1) 160 := (vp_of_inR r162 (by decide))
                    refine R_iaload (pc := 79) dX9_farOf_79 (c_150 _) hx164 ?_
                    refine R_aload_n (pc := 80) dX9_farOf_80 rfl rfl ?_
                    refine g_X9_38 (pc := 81) (v := .ref 150) rfl dX9_farOf_81 (c_140 _) rfl ?_
                    refine R_bipush (pc := 84) (v := 8) dX9_farOf_84 (by decide) ?_
                    refine R_iload_n (pc := 86) dX9_farOf_86 rfl rfl ?_
                    refine R_imul (pc := 87) dX9_farOf_87 ?_
                    have r165 : inR (8 * b) 0 152 := inR_mulc (c := 8) (l := 0) (h := 152) 8 (by decide) (show inR b 0 19 from hb) (by decide) (by decide)
                    have e166 := ti_mulc (c := 8) (l := 0) (h := 152) 8 (by decide) (show inR b 0 19 from hb) (by decide) (by decide)
                    refine R_iload (pc := 88) dX9_farOf_88 rfl ?_
                    refine R_iadd (pc := 90) dX9_farOf_90 ?_
                    have r167 : inR ((8 * b) + (nI j47)) 1 160 := inR_add (show inR (8 * b) 0 152 from r165) (show inR (nI j47) 1 8 from hr47) (by decide) (by decide)
                    have e168 := ti_add (l := 1) (h := 160) (show inR (8 * b) 0 152 from r165) (show inR (nI j47) 1 8 from hr47) (by decide) (by decide)
                    refine R_iconst (pc := 91) (v := 1) dX9_farOf_91 (by decide) ?_
                    refine R_isub (pc := 92) dX9_farOf_92 ?_
                    have r169 : inR (((8 * b) + (nI j47)) - 1) 0 159 := inR_sub (show inR ((8 * b) + (nI j47)) 1 160 from r167) (show inR 1 1 1 from (inR_self _)) (by decide) (by decide)
                    have e170 := ti_sub (l := 0) (h := 159) (show inR ((8 * b) + (nI j47)) 1 160 from r167) (show inR 1 1 1 from (inR_self _)) (by decide) (by decide)
                    have hx171 : vp_in (((8 * b) + (nI j47)) - 1) 160 := (vp_of_inR r169 (by decide))
                    refine R_iaload (pc := 93) dX9_farOf_93 (c_150 _) hx171 ?_
                    refine R_icne (pc := 94) 101 dX9_farOf_94 (by decide) (fun b94_172 => ?_) (fun b94_172 => ?_)
                    · skip
                      refine R_iconst (pc := 101) (v := 1) dX9_farOf_101 (by decide) ?_
                      refine R_iadd (pc := 102) dX9_farOf_102 ?_
                      refine st_6_5_i_i (pc := 103) dX9_farOf_103 ?_
                      refine R_aload_n (pc := 105) dX9_farOf_105 rfl rfl ?_
                      refine g_X9_60 (pc := 106) (v := .ref 154) rfl dX9_farOf_106 (c_140 _) rfl ?_
                      refine R_iload (pc := 109) dX9_farOf_109 rfl ?_
                      have hx173 : vp_in (nI j47) 9 := (vp_in_nI (by omega) (by decide))
                      refine R_iaload (pc := 111) dX9_farOf_111 (c_154 _) hx173 ?_
                      refine R_iconst (pc := 112) (v := 1) dX9_farOf_112 (by decide) ?_
                      refine R_iadd (pc := 113) dX9_farOf_113 ?_
                      refine R_iload (pc := 114) dX9_farOf_114 rfl ?_
                      refine R_icge (pc := 116) 131 dX9_farOf_116 (by decide) (fun b116_174 => ?_) (fun b116_174 => ?_)
                      · skip
                        refine R_iload (pc := 131) dX9_farOf_131 rfl ?_
                        refine st_6_5_i_i (pc := 133) dX9_farOf_133 ?_
                        refine R_aload_n (pc := 135) dX9_farOf_135 rfl rfl ?_
                        refine g_X9_63 (pc := 136) (v := .ref 155) rfl dX9_farOf_136 (c_140 _) rfl ?_
                        refine R_iload (pc := 139) dX9_farOf_139 rfl ?_
                        refine R_aload_n (pc := 141) dX9_farOf_141 rfl rfl ?_
                        refine g_X9_63 (pc := 142) (v := .ref 155) rfl dX9_farOf_142 (c_140 _) rfl ?_
                        refine R_iload (pc := 145) dX9_farOf_145 rfl ?_
                        refine R_iconst (pc := 147) (v := 1) dX9_farOf_147 (by decide) ?_
                        refine R_isub (pc := 148) dX9_farOf_148 ?_
                        have r175 : inR ((nI j47) - 1) 0 7 := inR_sub (show inR (nI j47) 1 8 from hr47) (show inR 1 1 1 from (inR_self _)) (by decide) (by decide)
                        have e176 := ti_sub (l := 0) (h := 7) (show inR (nI j47) 1 8 from hr47) (show inR 1 1 1 from (inR_self _)) (by decide) (by decide)
                        have hx177 : vp_in ((nI j47) - 1) 9 := (vp_of_inR r175 (by decide))
                        refine R_iaload (pc := 149) dX9_farOf_149 (c_155 _) hx177 ?_
                        refine R_iconst (pc := 150) (v := 1) dX9_farOf_150 (by decide) ?_
                        refine R_iadd (pc := 151) dX9_farOf_151 ?_
                        refine R_iload (pc := 152) dX9_farOf_152 rfl ?_
                        refine R_icge (pc := 154) 171 dX9_farOf_154 (by decide) (fun b154_178 => ?_) (fun b154_178 => ?_)
                        · skip
                          refine R_iload (pc := 171) dX9_farOf_171 rfl ?_
                          have hx179 : vp_in (nI j47) 9 := (vp_in_nI (by omega) (by decide))
                          refine W_iastore (pc := 173) dX9_farOf_173 (c_155 _) hx179 (a_155 _ _) ?_
                          refine inc_6_4_1_i (pc := 174) dX9_farOf_174 ?_
                          have r180 : inR ((nI j47) + 1) 2 9 := inR_add (show inR (nI j47) 1 8 from hr47) (show inR 1 1 1 from (inR_self _)) (by decide) (by decide)
                          have e181 := ti_add (l := 2) (h := 9) (show inR (nI j47) 1 8 from hr47) (show inR 1 1 1 from (inR_self _)) (by decide) (by decide)
                          refine R_goto (pc := 177) 47 dX9_farOf_177 (by decide) ?_
                          rw [nI_1]
                          exact ih47 (j47 + 1) _ _ (by omega) (by omega) hI47
                        · skip
                          refine R_aload_n (pc := 157) dX9_farOf_157 rfl rfl ?_
                          refine g_X9_63 (pc := 158) (v := .ref 155) rfl dX9_farOf_158 (c_140 _) rfl ?_
                          refine R_iload (pc := 161) dX9_farOf_161 rfl ?_
                          refine R_iconst (pc := 163) (v := 1) dX9_farOf_163 (by decide) ?_
                          refine R_isub (pc := 164) dX9_farOf_164 ?_
                          have r182 : inR ((nI j47) - 1) 0 7 := inR_sub (show inR (nI j47) 1 8 from hr47) (show inR 1 1 1 from (inR_self _)) (by decide) (by decide)
                          have e183 := ti_sub (l := 0) (h := 7) (show inR (nI j47) 1 8 from hr47) (show inR 1 1 1 from (inR_self _)) (by decide) (by decide)
                          have hx184 : vp_in ((nI j47) - 1) 9 := (vp_of_inR r182 (by decide))
                          refine R_iaload (pc := 165) dX9_farOf_165 (c_155 _) hx184 ?_
                          refine R_iconst (pc := 166) (v := 1) dX9_farOf_166 (by decide) ?_
                          refine R_iadd (pc := 167) dX9_farOf_167 ?_
                          refine R_goto (pc := 168) 173 dX9_farOf_168 (by decide) ?_
                          have hx185 : vp_in (nI j47) 9 := (vp_in_nI (by omega) (by decide))
                          refine W_iastore (pc := 173) dX9_farOf_173 (c_155 _) hx185 (a_155 _ _) ?_
                          refine inc_6_4_1_i (pc := 174) dX9_farOf_174 ?_
                          have r186 : inR ((nI j47) + 1) 2 9 := inR_add (show inR (nI j47) 1 8 from hr47) (show inR 1 1 1 from (inR_self _)) (by decide) (by decide)
                          have e187 := ti_add (l := 2) (h := 9) (show inR (nI j47) 1 8 from hr47) (show inR 1 1 1 from (inR_self _)) (by decide) (by decide)
                          refine R_goto (pc := 177) 47 dX9_farOf_177 (by decide) ?_
                          rw [nI_1]
                          exact ih47 (j47 + 1) _ _ (by omega) (by omega) hI47
                      · skip
                        refine R_aload_n (pc := 119) dX9_farOf_119 rfl rfl ?_
                        refine g_X9_60 (pc := 120) (v := .ref 154) rfl dX9_farOf_120 (c_140 _) rfl ?_
                        refine R_iload (pc := 123) dX9_farOf_123 rfl ?_
                        have hx188 : vp_in (nI j47) 9 := (vp_in_nI (by omega) (by decide))
                        refine R_iaload (pc := 125) dX9_farOf_125 (c_154 _) hx188 ?_
                        refine R_iconst (pc := 126) (v := 1) dX9_farOf_126 (by decide) ?_
                        refine R_iadd (pc := 127) dX9_farOf_127 ?_
                        refine R_goto (pc := 128) 133 dX9_farOf_128 (by decide) ?_
                        refine st_6_5_i_i (pc := 133) dX9_farOf_133 ?_
                        refine R_aload_n (pc := 135) dX9_farOf_135 rfl rfl ?_
                        refine g_X9_63 (pc := 136) (v := .ref 155) rfl dX9_farOf_136 (c_140 _) rfl ?_
                        refine R_iload (pc := 139) dX9_farOf_139 rfl ?_
                        refine R_aload_n (pc := 141) dX9_farOf_141 rfl rfl ?_
                        refine g_X9_63 (pc := 142) (v := .ref 155) rfl dX9_farOf_142 (c_140 _) rfl ?_
                        refine R_iload (pc := 145) dX9_farOf_145 rfl ?_
                        refine R_iconst (pc := 147) (v := 1) dX9_farOf_147 (by decide) ?_
                        refine R_isub (pc := 148) dX9_farOf_148 ?_
                        have r189 : inR ((nI j47) - 1) 0 7 := inR_sub (show inR (nI j47) 1 8 from hr47) (show inR 1 1 1 from (inR_self _)) (by decide) (by decide)
                        have e190 := ti_sub (l := 0) (h := 7) (show inR (nI j47) 1 8 from hr47) (show inR 1 1 1 from (inR_self _)) (by decide) (by decide)
                        have hx191 : vp_in ((nI j47) - 1) 9 := (vp_of_inR r189 (by decide))
                        refine R_iaload (pc := 149) dX9_farOf_149 (c_155 _) hx191 ?_
                        refine R_iconst (pc := 150) (v := 1) dX9_farOf_150 (by decide) ?_
                        refine R_iadd (pc := 151) dX9_farOf_151 ?_
                        refine R_iload (pc := 152) dX9_farOf_152 rfl ?_
                        refine R_icge (pc := 154) 171 dX9_farOf_154 (by decide) (fun b154_192 => ?_) (fun b154_192 => ?_)
                        · skip
                          refine R_iload (pc := 171) dX9_farOf_171 rfl ?_
                          have hx193 : vp_in (nI j47) 9 := (vp_in_nI (by omega) (by decide))
                          refine W_iastore (pc := 173) dX9_farOf_173 (c_155 _) hx193 (a_155 _ _) ?_
                          refine inc_6_4_1_i (pc := 174) dX9_farOf_174 ?_
                          have r194 : inR ((nI j47) + 1) 2 9 := inR_add (show inR (nI j47) 1 8 from hr47) (show inR 1 1 1 from (inR_self _)) (by decide) (by decide)
                          have e195 := ti_add (l := 2) (h := 9) (show inR (nI j47) 1 8 from hr47) (show inR 1 1 1 from (inR_self _)) (by decide) (by decide)
                          refine R_goto (pc := 177) 47 dX9_farOf_177 (by decide) ?_
                          rw [nI_1]
                          exact ih47 (j47 + 1) _ _ (by omega) (by omega) hI47
                        · skip
                          refine R_aload_n (pc := 157) dX9_farOf_157 rfl rfl ?_
                          refine g_X9_63 (pc := 158) (v := .ref 155) rfl dX9_farOf_158 (c_140 _) rfl ?_
                          refine R_iload (pc := 161) dX9_farOf_161 rfl ?_
                          refine R_iconst (pc := 163) (v := 1) dX9_farOf_163 (by decide) ?_
                          refine R_isub (pc := 164) dX9_farOf_164 ?_
                          have r196 : inR ((nI j47) - 1) 0 7 := inR_sub (show inR (nI j47) 1 8 from hr47) (show inR 1 1 1 from (inR_self _)) (by decide) (by decide)
                          have e197 := ti_sub (l := 0) (h := 7) (show inR (nI j47) 1 8 from hr47) (show inR 1 1 1 from (inR_self _)) (by decide) (by decide)
                          have hx198 : vp_in ((nI j47) - 1) 9 := (vp_of_inR r196 (by decide))
                          refine R_iaload (pc := 165) dX9_farOf_165 (c_155 _) hx198 ?_
                          refine R_iconst (pc := 166) (v := 1) dX9_farOf_166 (by decide) ?_
                          refine R_iadd (pc := 167) dX9_farOf_167 ?_
                          refine R_goto (pc := 168) 173 dX9_farOf_168 (by decide) ?_
                          have hx199 : vp_in (nI j47) 9 := (vp_in_nI (by omega) (by decide))
                          refine W_iastore (pc := 173) dX9_farOf_173 (c_155 _) hx199 (a_155 _ _) ?_
                          refine inc_6_4_1_i (pc := 174) dX9_farOf_174 ?_
                          have r200 : inR ((nI j47) + 1) 2 9 := inR_add (show inR (nI j47) 1 8 from hr47) (show inR 1 1 1 from (inR_self _)) (by decide) (by decide)
                          have e201 := ti_add (l := 2) (h := 9) (show inR (nI j47) 1 8 from hr47) (show inR 1 1 1 from (inR_self _)) (by decide) (by decide)
                          refine R_goto (pc := 177) 47 dX9_farOf_177 (by decide) ?_
                          rw [nI_1]
                          exact ih47 (j47 + 1) _ _ (by omega) (by omega) hI47
                    · skip
                      refine R_iconst (pc := 97) (v := 0) dX9_farOf_97 (by decide) ?_
                      refine R_goto (pc := 98) 102 dX9_farOf_98 (by decide) ?_
                      refine R_iadd (pc := 102) dX9_farOf_102 ?_
                      refine st_6_5_i_i (pc := 103) dX9_farOf_103 ?_
                      refine R_aload_n (pc := 105) dX9_farOf_105 rfl rfl ?_
                      refine g_X9_60 (pc := 106) (v := .ref 154) rfl dX9_farOf_106 (c_140 _) rfl ?_
                      refine R_iload (pc := 109) dX9_farOf_109 rfl ?_
                      have hx202 : vp_in (nI j47) 9 := (vp_in_nI (by omega) (by decide))
                      refine R_iaload (pc := 111) dX9_farOf_111 (c_154 _) hx202 ?_
                      refine R_iconst (pc := 112) (v := 1) dX9_farOf_112 (by decide) ?_
                      refine R_iadd (pc := 113) dX9_farOf_113 ?_
                      refine R_iload (pc := 114) dX9_farOf_114 rfl ?_
                      refine R_icge (pc := 116) 131 dX9_farOf_116 (by decide) (fun b116_203 => ?_) (fun b116_203 => ?_)
                      · skip
                        refine R_iload (pc := 131) dX9_farOf_131 rfl ?_
                        refine st_6_5_i_i (pc := 133) dX9_farOf_133 ?_
                        refine R_aload_n (pc := 135) dX9_farOf_135 rfl rfl ?_
                        refine g_X9_63 (pc := 136) (v := .ref 155) rfl dX9_farOf_136 (c_140 _) rfl ?_
                        refine R_iload (pc := 139) dX9_farOf_139 rfl ?_
                        refine R_aload_n (pc := 141) dX9_farOf_141 rfl rfl ?_
                        refine g_X9_63 (pc := 142) (v := .ref 155) rfl dX9_farOf_142 (c_140 _) rfl ?_
                        refine R_iload (pc := 145) dX9_farOf_145 rfl ?_
                        refine R_iconst (pc := 147) (v := 1) dX9_farOf_147 (by decide) ?_
                        refine R_isub (pc := 148) dX9_farOf_148 ?_
                        have r204 : inR ((nI j47) - 1) 0 7 := inR_sub (show inR (nI j47) 1 8 from hr47) (show inR 1 1 1 from (inR_self _)) (by decide) (by decide)
                        have e205 := ti_sub (l := 0) (h := 7) (show inR (nI j47) 1 8 from hr47) (show inR 1 1 1 from (inR_self _)) (by decide) (by decide)
                        have hx206 : vp_in ((nI j47) - 1) 9 := (vp_of_inR r204 (by decide))
                        refine R_iaload (pc := 149) dX9_farOf_149 (c_155 _) hx206 ?_
                        refine R_iconst (pc := 150) (v := 1) dX9_farOf_150 (by decide) ?_
                        refine R_iadd (pc := 151) dX9_farOf_151 ?_
                        refine R_iload (pc := 152) dX9_farOf_152 rfl ?_
                        refine R_icge (pc := 154) 171 dX9_farOf_154 (by decide) (fun b154_207 => ?_) (fun b154_207 => ?_)
                        · skip
                          refine R_iload (pc := 171) dX9_farOf_171 rfl ?_
                          have hx208 : vp_in (nI j47) 9 := (vp_in_nI (by omega) (by decide))
                          refine W_iastore (pc := 173) dX9_farOf_173 (c_155 _) hx208 (a_155 _ _) ?_
                          refine inc_6_4_1_i (pc := 174) dX9_farOf_174 ?_
                          have r209 : inR ((nI j47) + 1) 2 9 := inR_add (show inR (nI j47) 1 8 from hr47) (show inR 1 1 1 from (inR_self _)) (by decide) (by decide)
                          have e210 := ti_add (l := 2) (h := 9) (show inR (nI j47) 1 8 from hr47) (show inR 1 1 1 from (inR_self _)) (by decide) (by decide)
                          refine R_goto (pc := 177) 47 dX9_farOf_177 (by decide) ?_
                          rw [nI_1]
                          exact ih47 (j47 + 1) _ _ (by omega) (by omega) hI47
                        · skip
                          refine R_aload_n (pc := 157) dX9_farOf_157 rfl rfl ?_
                          refine g_X9_63 (pc := 158) (v := .ref 155) rfl dX9_farOf_158 (c_140 _) rfl ?_
                          refine R_iload (pc := 161) dX9_farOf_161 rfl ?_
                          refine R_iconst (pc := 163) (v := 1) dX9_farOf_163 (by decide) ?_
                          refine R_isub (pc := 164) dX9_farOf_164 ?_
                          have r211 : inR ((nI j47) - 1) 0 7 := inR_sub (show inR (nI j47) 1 8 from hr47) (show inR 1 1 1 from (inR_self _)) (by decide) (by decide)
                          have e212 := ti_sub (l := 0) (h := 7) (show inR (nI j47) 1 8 from hr47) (show inR 1 1 1 from (inR_self _)) (by decide) (by decide)
                          have hx213 : vp_in ((nI j47) - 1) 9 := (vp_of_inR r211 (by decide))
                          refine R_iaload (pc := 165) dX9_farOf_165 (c_155 _) hx213 ?_
                          refine R_iconst (pc := 166) (v := 1) dX9_farOf_166 (by decide) ?_
                          refine R_iadd (pc := 167) dX9_farOf_167 ?_
                          refine R_goto (pc := 168) 173 dX9_farOf_168 (by decide) ?_
                          have hx214 : vp_in (nI j47) 9 := (vp_in_nI (by omega) (by decide))
                          refine W_iastore (pc := 173) dX9_farOf_173 (c_155 _) hx214 (a_155 _ _) ?_
                          refine inc_6_4_1_i (pc := 174) dX9_farOf_174 ?_
                          have r215 : inR ((nI j47) + 1) 2 9 := inR_add (show inR (nI j47) 1 8 from hr47) (show inR 1 1 1 from (inR_self _)) (by decide) (by decide)
                          have e216 := ti_add (l := 2) (h := 9) (show inR (nI j47) 1 8 from hr47) (show inR 1 1 1 from (inR_self _)) (by decide) (by decide)
                          refine R_goto (pc := 177) 47 dX9_farOf_177 (by decide) ?_
                          rw [nI_1]
                          exact ih47 (j47 + 1) _ _ (by omega) (by omega) hI47
                      · skip
                        refine R_aload_n (pc := 119) dX9_farOf_119 rfl rfl ?_
                        refine g_X9_60 (pc := 120) (v := .ref 154) rfl dX9_farOf_120 (c_140 _) rfl ?_
                        refine R_iload (pc := 123) dX9_farOf_123 rfl ?_
                        have hx217 : vp_in (nI j47) 9 := (vp_in_nI (by omega) (by decide))
                        refine R_iaload (pc := 125) dX9_farOf_125 (c_154 _) hx217 ?_
                        refine R_iconst (pc := 126) (v := 1) dX9_farOf_126 (by decide) ?_
                        refine R_iadd (pc := 127) dX9_farOf_127 ?_
                        refine R_goto (pc := 128) 133 dX9_farOf_128 (by decide) ?_
                        refine st_6_5_i_i (pc := 133) dX9_farOf_133 ?_
                        refine R_aload_n (pc := 135) dX9_farOf_135 rfl rfl ?_
                        refine g_X9_63 (pc := 136) (v := .ref 155) rfl dX9_farOf_136 (c_140 _) rfl ?_
                        refine R_iload (pc := 139) dX9_farOf_139 rfl ?_
                        refine R_aload_n (pc := 141) dX9_farOf_141 rfl rfl ?_
                        refine g_X9_63 (pc := 142) (v := .ref 155) rfl dX9_farOf_142 (c_140 _) rfl ?_
                        refine R_iload (pc := 145) dX9_farOf_145 rfl ?_
                        refine R_iconst (pc := 147) (v := 1) dX9_farOf_147 (by decide) ?_
                        refine R_isub (pc := 148) dX9_farOf_148 ?_
                        have r218 : inR ((nI j47) - 1) 0 7 := inR_sub (show inR (nI j47) 1 8 from hr47) (show inR 1 1 1 from (inR_self _)) (by decide) (by decide)
                        have e219 := ti_sub (l := 0) (h := 7) (show inR (nI j47) 1 8 from hr47) (show inR 1 1 1 from (inR_self _)) (by decide) (by decide)
                        have hx220 : vp_in ((nI j47) - 1) 9 := (vp_of_inR r218 (by decide))
                        refine R_iaload (pc := 149) dX9_farOf_149 (c_155 _) hx220 ?_
                        refine R_iconst (pc := 150) (v := 1) dX9_farOf_150 (by decide) ?_
                        refine R_iadd (pc := 151) dX9_farOf_151 ?_
                        refine R_iload (pc := 152) dX9_farOf_152 rfl ?_
                        refine R_icge (pc := 154) 171 dX9_farOf_154 (by decide) (fun b154_221 => ?_) (fun b154_221 => ?_)
                        · skip
                          refine R_iload (pc := 171) dX9_farOf_171 rfl ?_
                          have hx222 : vp_in (nI j47) 9 := (vp_in_nI (by omega) (by decide))
                          refine W_iastore (pc := 173) dX9_farOf_173 (c_155 _) hx222 (a_155 _ _) ?_
                          refine inc_6_4_1_i (pc := 174) dX9_farOf_174 ?_
                          have r223 : inR ((nI j47) + 1) 2 9 := inR_add (show inR (nI j47) 1 8 from hr47) (show inR 1 1 1 from (inR_self _)) (by decide) (by decide)
                          have e224 := ti_add (l := 2) (h := 9) (show inR (nI j47) 1 8 from hr47) (show inR 1 1 1 from (inR_self _)) (by decide) (by decide)
                          refine R_goto (pc := 177) 47 dX9_farOf_177 (by decide) ?_
                          rw [nI_1]
                          exact ih47 (j47 + 1) _ _ (by omega) (by omega) hI47
                        · skip
                          refine R_aload_n (pc := 157) dX9_farOf_157 rfl rfl ?_
                          refine g_X9_63 (pc := 158) (v := .ref 155) rfl dX9_farOf_158 (c_140 _) rfl ?_
                          refine R_iload (pc := 161) dX9_farOf_161 rfl ?_
                          refine R_iconst (pc := 163) (v := 1) dX9_farOf_163 (by decide) ?_
                          refine R_isub (pc := 164) dX9_farOf_164 ?_
                          have r225 : inR ((nI j47) - 1) 0 7 := inR_sub (show inR (nI j47) 1 8 from hr47) (show inR 1 1 1 from (inR_self _)) (by decide) (by decide)
                          have e226 := ti_sub (l := 0) (h := 7) (show inR (nI j47) 1 8 from hr47) (show inR 1 1 1 from (inR_self _)) (by decide) (by decide)
                          have hx227 : vp_in ((nI j47) - 1) 9 := (vp_of_inR r225 (by decide))
                          refine R_iaload (pc := 165) dX9_farOf_165 (c_155 _) hx227 ?_
                          refine R_iconst (pc := 166) (v := 1) dX9_farOf_166 (by decide) ?_
                          refine R_iadd (pc := 167) dX9_farOf_167 ?_
                          refine R_goto (pc := 168) 173 dX9_farOf_168 (by decide) ?_
                          have hx228 : vp_in (nI j47) 9 := (vp_in_nI (by omega) (by decide))
                          refine W_iastore (pc := 173) dX9_farOf_173 (c_155 _) hx228 (a_155 _ _) ?_
                          refine inc_6_4_1_i (pc := 174) dX9_farOf_174 ?_
                          have r229 : inR ((nI j47) + 1) 2 9 := inR_add (show inR (nI j47) 1 8 from hr47) (show inR 1 1 1 from (inR_self _)) (by decide) (by decide)
                          have e230 := ti_add (l := 2) (h := 9) (show inR (nI j47) 1 8 from hr47) (show inR 1 1 1 from (inR_self _)) (by decide) (by decide)
                          refine R_goto (pc := 177) 47 dX9_farOf_177 (by decide) ?_
                          rw [nI_1]
                          exact ih47 (j47 + 1) _ _ (by omega) (by omega) hI47
              exact HL47 8 1 _ _ (by omega) (by omega) hI27
        exact HL27 8 1 _ _ _ (by omega) (by omega) hI2
      · skip
        refine R_aload_n (pc := 12) dX9_farOf_12 rfl rfl ?_
        refine g_X9_60 (pc := 13) (v := .ref 154) rfl dX9_farOf_13 (c_140 _) rfl ?_
        refine R_iload_n (pc := 16) dX9_farOf_16 rfl rfl ?_
        refine R_iload_n (pc := 17) dX9_farOf_17 rfl rfl ?_
        have hx231 : vp_in (nI j2) 9 := (vp_in_nI (by omega) (by decide))
        refine W_iastore (pc := 18) dX9_farOf_18 (c_154 _) hx231 (a_154 _ _) ?_
        refine inc_6_3_1_i (pc := 19) dX9_farOf_19 ?_
        have r232 : inR ((nI j2) + 1) 1 9 := inR_add (show inR (nI j2) 0 8 from hr2) (show inR 1 1 1 from (inR_self _)) (by decide) (by decide)
        have e233 := ti_add (l := 1) (h := 9) (show inR (nI j2) 0 8 from hr2) (show inR 1 1 1 from (inR_self _)) (by decide) (by decide)
        refine R_goto (pc := 22) 2 dX9_farOf_22 (by decide) ?_
        rw [nI_1]
        exact ih2 (j2 + 1) _ (by omega) (by omega) hI2
  exact HL2 9 0 _ (by omega) (by omega) hI
theorem dX9_far_0 : decode cX9_far 0 = .ok (.aload_n 0, 1) := by decide +kernel
theorem dX9_far_1 : decode cX9_far 1 = .ok (.iload_n 1, 1) := by decide +kernel
theorem dX9_far_2 : decode cX9_far 2 = .ok (.invokevirtual 135, 3) := by decide +kernel
theorem dX9_far_5 : decode cX9_far 5 = .ok (.ifCond .eq 20, 3) := by decide +kernel
theorem dX9_far_8 : decode cX9_far 8 = .ok (.aload_n 0, 1) := by decide +kernel
theorem dX9_far_9 : decode cX9_far 9 = .ok (.iload_n 2, 1) := by decide +kernel
theorem dX9_far_10 : decode cX9_far 10 = .ok (.invokevirtual 135, 3) := by decide +kernel
theorem dX9_far_13 : decode cX9_far 13 = .ok (.ifCond .eq 12, 3) := by decide +kernel
theorem dX9_far_16 : decode cX9_far 16 = .ok (.aload_n 0, 1) := by decide +kernel
theorem dX9_far_17 : decode cX9_far 17 = .ok (.iload_n 1, 1) := by decide +kernel
theorem dX9_far_18 : decode cX9_far 18 = .ok (.iload_n 2, 1) := by decide +kernel
theorem dX9_far_19 : decode cX9_far 19 = .ok (.invokevirtual 152, 3) := by decide +kernel
theorem dX9_far_22 : decode cX9_far 22 = .ok (.goto 5, 3) := by decide +kernel
theorem dX9_far_25 : decode cX9_far 25 = .ok (.bipush (-2), 2) := by decide +kernel
theorem dX9_far_27 : decode cX9_far 27 = .ok (.ireturn, 1) := by decide +kernel
set_option maxRecDepth 100000 in
set_option maxHeartbeats 40000000 in
theorem gp_m_far {G : vG} {l : Launch} (σ : Sg) (a b : Int32) (hI : Inv σ) : Sp G l yX9_far cX9_far 3 (some .int) 2 0 0 [.ref 140, .int a, .int b] (WW σ) (QI (fun _ w2 => ∃ σ2, w2 = WW σ2 ∧ Inv σ2)) := by
  refine Sp_of_R [(some (.ref 140)), (some (.int a)), (some (.int b))] [] rfl (by simp) rfl (Nat.le_of_ble_eq_true rfl) ?_
  refine R_aload_n (pc := 0) dX9_far_0 rfl rfl ?_
  refine R_iload_n (pc := 1) dX9_far_1 rfl rfl ?_
  refine k_X9_135 (pc := 2) (gx_X9_isThere _ _ hI) rfl (c_140 _) (by decide) (Nat.le_refl _) (Nat.le_refl _) (Nat.le_of_ble_eq_true rfl) dX9_far_2 (fun x w2 h => ?_)
  rcases h with ⟨rfl, ⟨h1, rfl⟩ | rfl⟩
  · skip
    refine R_ifeq (pc := 5) 25 dX9_far_5 (by decide) (fun h => absurd h (by decide)) (fun _ => ?_)
    refine R_aload_n (pc := 8) dX9_far_8 rfl rfl ?_
    refine R_iload_n (pc := 9) dX9_far_9 rfl rfl ?_
    refine k_X9_135 (pc := 10) (gx_X9_isThere _ _ hI) rfl (c_140 _) (by decide) (Nat.le_refl _) (Nat.le_refl _) (Nat.le_of_ble_eq_true rfl) dX9_far_10 (fun x w2 h => ?_)
    rcases h with ⟨rfl, ⟨h3, rfl⟩ | rfl⟩
    · skip
      refine R_ifeq (pc := 13) 25 dX9_far_13 (by decide) (fun h => absurd h (by decide)) (fun _ => ?_)
      refine R_aload_n (pc := 16) dX9_far_16 rfl rfl ?_
      refine R_iload_n (pc := 17) dX9_far_17 rfl rfl ?_
      refine R_iload_n (pc := 18) dX9_far_18 rfl rfl ?_
      refine k_X9_152 (pc := 19) (gx_X9_farOf _ _ _ hI h1 h3) rfl (c_140 _) (by decide) (Nat.le_refl _) (Nat.le_refl _) (Nat.le_of_ble_eq_true rfl) dX9_far_19 (fun y5 w2 h => ?_)
      obtain ⟨σx7, rfl, hV6⟩ := h
      refine R_goto (pc := 22) 27 dX9_far_22 (by decide) ?_
      exact R_iret (pc := 27) dX9_far_27 rfl rfl (Nat.zero_le _) (Nat.zero_le _) ⟨_, rfl, _, rfl, hV6⟩
    · skip
      refine R_ifeq (pc := 13) 25 dX9_far_13 (by decide) (fun _ => ?_) (fun h => absurd (by decide) h)
      refine R_bipush (pc := 25) (v := (-2)) dX9_far_25 (by decide) ?_
      exact R_iret (pc := 27) dX9_far_27 rfl rfl (Nat.zero_le _) (Nat.zero_le _) ⟨_, rfl, _, rfl, hI⟩
  · skip
    refine R_ifeq (pc := 5) 25 dX9_far_5 (by decide) (fun _ => ?_) (fun h => absurd (by decide) h)
    refine R_bipush (pc := 25) (v := (-2)) dX9_far_25 (by decide) ?_
    exact R_iret (pc := 27) dX9_far_27 rfl rfl (Nat.zero_le _) (Nat.zero_le _) ⟨_, rfl, _, rfl, hI⟩
theorem dX9_isMatch_0 : decode cX9_isMatch 0 = .ok (.aload_n 0, 1) := by decide +kernel
theorem dX9_isMatch_1 : decode cX9_isMatch 1 = .ok (.getfield 7, 3) := by decide +kernel
theorem dX9_isMatch_4 : decode cX9_isMatch 4 = .ok (.iload_n 1, 1) := by decide +kernel
theorem dX9_isMatch_5 : decode cX9_isMatch 5 = .ok (.iaload, 1) := by decide +kernel
theorem dX9_isMatch_6 : decode cX9_isMatch 6 = .ok (.aload_n 0, 1) := by decide +kernel
theorem dX9_isMatch_7 : decode cX9_isMatch 7 = .ok (.getfield 7, 3) := by decide +kernel
theorem dX9_isMatch_10 : decode cX9_isMatch 10 = .ok (.iload_n 2, 1) := by decide +kernel
theorem dX9_isMatch_11 : decode cX9_isMatch 11 = .ok (.iaload, 1) := by decide +kernel
theorem dX9_isMatch_12 : decode cX9_isMatch 12 = .ok (.if_icmp .eq 37, 3) := by decide +kernel
theorem dX9_isMatch_15 : decode cX9_isMatch 15 = .ok (.aload_n 0, 1) := by decide +kernel
theorem dX9_isMatch_16 : decode cX9_isMatch 16 = .ok (.getfield 13, 3) := by decide +kernel
theorem dX9_isMatch_19 : decode cX9_isMatch 19 = .ok (.iload_n 1, 1) := by decide +kernel
theorem dX9_isMatch_20 : decode cX9_isMatch 20 = .ok (.iaload, 1) := by decide +kernel
theorem dX9_isMatch_21 : decode cX9_isMatch 21 = .ok (.aload_n 0, 1) := by decide +kernel
theorem dX9_isMatch_22 : decode cX9_isMatch 22 = .ok (.getfield 13, 3) := by decide +kernel
theorem dX9_isMatch_25 : decode cX9_isMatch 25 = .ok (.iload_n 2, 1) := by decide +kernel
theorem dX9_isMatch_26 : decode cX9_isMatch 26 = .ok (.iaload, 1) := by decide +kernel
theorem dX9_isMatch_27 : decode cX9_isMatch 27 = .ok (.if_icmp .ne 22, 3) := by decide +kernel
theorem dX9_isMatch_30 : decode cX9_isMatch 30 = .ok (.aload_n 0, 1) := by decide +kernel
theorem dX9_isMatch_31 : decode cX9_isMatch 31 = .ok (.getfield 19, 3) := by decide +kernel
theorem dX9_isMatch_34 : decode cX9_isMatch 34 = .ok (.iload_n 1, 1) := by decide +kernel
theorem dX9_isMatch_35 : decode cX9_isMatch 35 = .ok (.iaload, 1) := by decide +kernel
theorem dX9_isMatch_36 : decode cX9_isMatch 36 = .ok (.aload_n 0, 1) := by decide +kernel
theorem dX9_isMatch_37 : decode cX9_isMatch 37 = .ok (.getfield 19, 3) := by decide +kernel
theorem dX9_isMatch_40 : decode cX9_isMatch 40 = .ok (.iload_n 2, 1) := by decide +kernel
theorem dX9_isMatch_41 : decode cX9_isMatch 41 = .ok (.iaload, 1) := by decide +kernel
theorem dX9_isMatch_42 : decode cX9_isMatch 42 = .ok (.if_icmp .ne 7, 3) := by decide +kernel
theorem dX9_isMatch_45 : decode cX9_isMatch 45 = .ok (.iconst 1, 1) := by decide +kernel
theorem dX9_isMatch_46 : decode cX9_isMatch 46 = .ok (.goto 4, 3) := by decide +kernel
theorem dX9_isMatch_49 : decode cX9_isMatch 49 = .ok (.iconst 0, 1) := by decide +kernel
theorem dX9_isMatch_50 : decode cX9_isMatch 50 = .ok (.istore_n 3, 1) := by decide +kernel
theorem dX9_isMatch_51 : decode cX9_isMatch 51 = .ok (.iload_n 3, 1) := by decide +kernel
theorem dX9_isMatch_52 : decode cX9_isMatch 52 = .ok (.ifCond .eq 40, 3) := by decide +kernel
theorem dX9_isMatch_55 : decode cX9_isMatch 55 = .ok (.aload_n 0, 1) := by decide +kernel
theorem dX9_isMatch_56 : decode cX9_isMatch 56 = .ok (.getfield 16, 3) := by decide +kernel
theorem dX9_isMatch_59 : decode cX9_isMatch 59 = .ok (.iload_n 1, 1) := by decide +kernel
theorem dX9_isMatch_60 : decode cX9_isMatch 60 = .ok (.iaload, 1) := by decide +kernel
theorem dX9_isMatch_61 : decode cX9_isMatch 61 = .ok (.aload_n 0, 1) := by decide +kernel
theorem dX9_isMatch_62 : decode cX9_isMatch 62 = .ok (.getfield 16, 3) := by decide +kernel
theorem dX9_isMatch_65 : decode cX9_isMatch 65 = .ok (.iload_n 2, 1) := by decide +kernel
theorem dX9_isMatch_66 : decode cX9_isMatch 66 = .ok (.iaload, 1) := by decide +kernel
theorem dX9_isMatch_67 : decode cX9_isMatch 67 = .ok (.if_icmp .eq 21, 3) := by decide +kernel
theorem dX9_isMatch_70 : decode cX9_isMatch 70 = .ok (.aload_n 0, 1) := by decide +kernel
theorem dX9_isMatch_71 : decode cX9_isMatch 71 = .ok (.getfield 16, 3) := by decide +kernel
theorem dX9_isMatch_74 : decode cX9_isMatch 74 = .ok (.iload_n 1, 1) := by decide +kernel
theorem dX9_isMatch_75 : decode cX9_isMatch 75 = .ok (.iaload, 1) := by decide +kernel
theorem dX9_isMatch_76 : decode cX9_isMatch 76 = .ok (.ifCond .eq 12, 3) := by decide +kernel
theorem dX9_isMatch_79 : decode cX9_isMatch 79 = .ok (.aload_n 0, 1) := by decide +kernel
theorem dX9_isMatch_80 : decode cX9_isMatch 80 = .ok (.getfield 16, 3) := by decide +kernel
theorem dX9_isMatch_83 : decode cX9_isMatch 83 = .ok (.iload_n 2, 1) := by decide +kernel
theorem dX9_isMatch_84 : decode cX9_isMatch 84 = .ok (.iaload, 1) := by decide +kernel
theorem dX9_isMatch_85 : decode cX9_isMatch 85 = .ok (.ifCond .ne 7, 3) := by decide +kernel
theorem dX9_isMatch_88 : decode cX9_isMatch 88 = .ok (.iconst 1, 1) := by decide +kernel
theorem dX9_isMatch_89 : decode cX9_isMatch 89 = .ok (.goto 4, 3) := by decide +kernel
theorem dX9_isMatch_92 : decode cX9_isMatch 92 = .ok (.iconst 0, 1) := by decide +kernel
theorem dX9_isMatch_93 : decode cX9_isMatch 93 = .ok (.istore_n 3, 1) := by decide +kernel
theorem dX9_isMatch_94 : decode cX9_isMatch 94 = .ok (.iload_n 3, 1) := by decide +kernel
theorem dX9_isMatch_95 : decode cX9_isMatch 95 = .ok (.ifCond .eq 26, 3) := by decide +kernel
theorem dX9_isMatch_98 : decode cX9_isMatch 98 = .ok (.aload_n 0, 1) := by decide +kernel
theorem dX9_isMatch_99 : decode cX9_isMatch 99 = .ok (.iload_n 1, 1) := by decide +kernel
theorem dX9_isMatch_100 : decode cX9_isMatch 100 = .ok (.iload_n 2, 1) := by decide +kernel
theorem dX9_isMatch_101 : decode cX9_isMatch 101 = .ok (.invokevirtual 155, 3) := by decide +kernel
theorem dX9_isMatch_104 : decode cX9_isMatch 104 = .ok (.ifCond .eq 17, 3) := by decide +kernel
theorem dX9_isMatch_107 : decode cX9_isMatch 107 = .ok (.aload_n 0, 1) := by decide +kernel
theorem dX9_isMatch_108 : decode cX9_isMatch 108 = .ok (.iload_n 1, 1) := by decide +kernel
theorem dX9_isMatch_109 : decode cX9_isMatch 109 = .ok (.iload_n 2, 1) := by decide +kernel
theorem dX9_isMatch_110 : decode cX9_isMatch 110 = .ok (.invokevirtual 152, 3) := by decide +kernel
theorem dX9_isMatch_113 : decode cX9_isMatch 113 = .ok (.iconst 2, 1) := by decide +kernel
theorem dX9_isMatch_114 : decode cX9_isMatch 114 = .ok (.if_icmp .gt 7, 3) := by decide +kernel
theorem dX9_isMatch_117 : decode cX9_isMatch 117 = .ok (.iconst 1, 1) := by decide +kernel
theorem dX9_isMatch_118 : decode cX9_isMatch 118 = .ok (.goto 4, 3) := by decide +kernel
theorem dX9_isMatch_121 : decode cX9_isMatch 121 = .ok (.iconst 0, 1) := by decide +kernel
theorem dX9_isMatch_122 : decode cX9_isMatch 122 = .ok (.ireturn, 1) := by decide +kernel
set_option maxRecDepth 100000 in
set_option maxHeartbeats 40000000 in
theorem gx_X9_isMatch {G : vG} {l : Launch} (σ : Sg) (a b : Int32) (hI : Inv σ) (ha : inR a 0 19) (hb : inR b 0 19) : Sp G l yX9_isMatch cX9_isMatch 4 (some .boolean) 2 0 0 [.ref 140, .int a, .int b] (WW σ) (QI (fun _ w2 => ∃ σ2, w2 = WW σ2 ∧ Inv σ2)) := by
  refine Sp_of_R [(some (.ref 140)), (some (.int a)), (some (.int b)), none] [none] rfl (by simp) rfl (Nat.le_of_ble_eq_true rfl) ?_
  refine R_aload_n (pc := 0) dX9_isMatch_0 rfl rfl ?_
  refine g_X9_7 (pc := 1) (v := .ref 141) rfl dX9_isMatch_1 (c_140 _) rfl ?_
  refine R_iload_n (pc := 4) dX9_isMatch_4 rfl rfl ?_
  have hx1 : vp_in a 20 := (vp_of_inR ha (by decide))
  refine R_iaload (pc := 5) dX9_isMatch_5 (c_141 _) hx1 ?_
  refine R_aload_n (pc := 6) dX9_isMatch_6 rfl rfl ?_
  refine g_X9_7 (pc := 7) (v := .ref 141) rfl dX9_isMatch_7 (c_140 _) rfl ?_
  refine R_iload_n (pc := 10) dX9_isMatch_10 rfl rfl ?_
  have hx2 : vp_in b 20 := (vp_of_inR hb (by decide))
  refine R_iaload (pc := 11) dX9_isMatch_11 (c_141 _) hx2 ?_
  refine R_iceq (pc := 12) 49 dX9_isMatch_12 (by decide) (fun b12_3 => ?_) (fun b12_3 => ?_)
  · skip
    refine R_iconst (pc := 49) (v := 0) dX9_isMatch_49 (by decide) ?_
    refine st_4_3_i_i (pc := 50) dX9_isMatch_50 ?_
    refine R_iload_n (pc := 51) dX9_isMatch_51 rfl rfl ?_
    refine R_ifeq (pc := 52) 92 dX9_isMatch_52 (by decide) (fun _ => ?_) (fun h => absurd (by decide) h)
    refine R_iconst (pc := 92) (v := 0) dX9_isMatch_92 (by decide) ?_
    refine st_4_3_i_i (pc := 93) dX9_isMatch_93 ?_
    refine R_iload_n (pc := 94) dX9_isMatch_94 rfl rfl ?_
    refine R_ifeq (pc := 95) 121 dX9_isMatch_95 (by decide) (fun _ => ?_) (fun h => absurd (by decide) h)
    refine R_iconst (pc := 121) (v := 0) dX9_isMatch_121 (by decide) ?_
    exact R_iret (pc := 122) dX9_isMatch_122 rfl rfl (Nat.zero_le _) (Nat.zero_le _) ⟨_, rfl, _, rfl, hI⟩
  · skip
    refine R_aload_n (pc := 15) dX9_isMatch_15 rfl rfl ?_
    refine g_X9_13 (pc := 16) (v := .ref 142) rfl dX9_isMatch_16 (c_140 _) rfl ?_
    refine R_iload_n (pc := 19) dX9_isMatch_19 rfl rfl ?_
    have hx6 : vp_in a 20 := (vp_of_inR ha (by decide))
    refine R_iaload (pc := 20) dX9_isMatch_20 (c_142 _) hx6 ?_
    refine R_aload_n (pc := 21) dX9_isMatch_21 rfl rfl ?_
    refine g_X9_13 (pc := 22) (v := .ref 142) rfl dX9_isMatch_22 (c_140 _) rfl ?_
    refine R_iload_n (pc := 25) dX9_isMatch_25 rfl rfl ?_
    have hx7 : vp_in b 20 := (vp_of_inR hb (by decide))
    refine R_iaload (pc := 26) dX9_isMatch_26 (c_142 _) hx7 ?_
    refine R_icne (pc := 27) 49 dX9_isMatch_27 (by decide) (fun b27_8 => ?_) (fun b27_8 => ?_)
    · skip
      refine R_iconst (pc := 49) (v := 0) dX9_isMatch_49 (by decide) ?_
      refine st_4_3_i_i (pc := 50) dX9_isMatch_50 ?_
      refine R_iload_n (pc := 51) dX9_isMatch_51 rfl rfl ?_
      refine R_ifeq (pc := 52) 92 dX9_isMatch_52 (by decide) (fun _ => ?_) (fun h => absurd (by decide) h)
      refine R_iconst (pc := 92) (v := 0) dX9_isMatch_92 (by decide) ?_
      refine st_4_3_i_i (pc := 93) dX9_isMatch_93 ?_
      refine R_iload_n (pc := 94) dX9_isMatch_94 rfl rfl ?_
      refine R_ifeq (pc := 95) 121 dX9_isMatch_95 (by decide) (fun _ => ?_) (fun h => absurd (by decide) h)
      refine R_iconst (pc := 121) (v := 0) dX9_isMatch_121 (by decide) ?_
      exact R_iret (pc := 122) dX9_isMatch_122 rfl rfl (Nat.zero_le _) (Nat.zero_le _) ⟨_, rfl, _, rfl, hI⟩
    · skip
      refine R_aload_n (pc := 30) dX9_isMatch_30 rfl rfl ?_
      refine g_X9_19 (pc := 31) (v := .ref 144) rfl dX9_isMatch_31 (c_140 _) rfl ?_
      refine R_iload_n (pc := 34) dX9_isMatch_34 rfl rfl ?_
      have hx11 : vp_in a 20 := (vp_of_inR ha (by decide))
      refine R_iaload (pc := 35) dX9_isMatch_35 (c_144 _) hx11 ?_
      refine R_aload_n (pc := 36) dX9_isMatch_36 rfl rfl ?_
      refine g_X9_19 (pc := 37) (v := .ref 144) rfl dX9_isMatch_37 (c_140 _) rfl ?_
      refine R_iload_n (pc := 40) dX9_isMatch_40 rfl rfl ?_
      have hx12 : vp_in b 20 := (vp_of_inR hb (by decide))
      refine R_iaload (pc := 41) dX9_isMatch_41 (c_144 _) hx12 ?_
      refine R_icne (pc := 42) 49 dX9_isMatch_42 (by decide) (fun b42_13 => ?_) (fun b42_13 => ?_)
      · skip
        refine R_iconst (pc := 49) (v := 0) dX9_isMatch_49 (by decide) ?_
        refine st_4_3_i_i (pc := 50) dX9_isMatch_50 ?_
        refine R_iload_n (pc := 51) dX9_isMatch_51 rfl rfl ?_
        refine R_ifeq (pc := 52) 92 dX9_isMatch_52 (by decide) (fun _ => ?_) (fun h => absurd (by decide) h)
        refine R_iconst (pc := 92) (v := 0) dX9_isMatch_92 (by decide) ?_
        refine st_4_3_i_i (pc := 93) dX9_isMatch_93 ?_
        refine R_iload_n (pc := 94) dX9_isMatch_94 rfl rfl ?_
        refine R_ifeq (pc := 95) 121 dX9_isMatch_95 (by decide) (fun _ => ?_) (fun h => absurd (by decide) h)
        refine R_iconst (pc := 121) (v := 0) dX9_isMatch_121 (by decide) ?_
        exact R_iret (pc := 122) dX9_isMatch_122 rfl rfl (Nat.zero_le _) (Nat.zero_le _) ⟨_, rfl, _, rfl, hI⟩
      · skip
        refine R_iconst (pc := 45) (v := 1) dX9_isMatch_45 (by decide) ?_
        refine R_goto (pc := 46) 50 dX9_isMatch_46 (by decide) ?_
        refine st_4_3_i_i (pc := 50) dX9_isMatch_50 ?_
        refine R_iload_n (pc := 51) dX9_isMatch_51 rfl rfl ?_
        refine R_ifeq (pc := 52) 92 dX9_isMatch_52 (by decide) (fun h => absurd h (by decide)) (fun _ => ?_)
        refine R_aload_n (pc := 55) dX9_isMatch_55 rfl rfl ?_
        refine g_X9_16 (pc := 56) (v := .ref 143) rfl dX9_isMatch_56 (c_140 _) rfl ?_
        refine R_iload_n (pc := 59) dX9_isMatch_59 rfl rfl ?_
        have hx17 : vp_in a 20 := (vp_of_inR ha (by decide))
        refine R_iaload (pc := 60) dX9_isMatch_60 (c_143 _) hx17 ?_
        refine R_aload_n (pc := 61) dX9_isMatch_61 rfl rfl ?_
        refine g_X9_16 (pc := 62) (v := .ref 143) rfl dX9_isMatch_62 (c_140 _) rfl ?_
        refine R_iload_n (pc := 65) dX9_isMatch_65 rfl rfl ?_
        have hx18 : vp_in b 20 := (vp_of_inR hb (by decide))
        refine R_iaload (pc := 66) dX9_isMatch_66 (c_143 _) hx18 ?_
        refine R_iceq (pc := 67) 88 dX9_isMatch_67 (by decide) (fun b67_19 => ?_) (fun b67_19 => ?_)
        · skip
          refine R_iconst (pc := 88) (v := 1) dX9_isMatch_88 (by decide) ?_
          refine R_goto (pc := 89) 93 dX9_isMatch_89 (by decide) ?_
          refine st_4_3_i_i (pc := 93) dX9_isMatch_93 ?_
          refine R_iload_n (pc := 94) dX9_isMatch_94 rfl rfl ?_
          refine R_ifeq (pc := 95) 121 dX9_isMatch_95 (by decide) (fun h => absurd h (by decide)) (fun _ => ?_)
          refine R_aload_n (pc := 98) dX9_isMatch_98 rfl rfl ?_
          refine R_iload_n (pc := 99) dX9_isMatch_99 rfl rfl ?_
          refine R_iload_n (pc := 100) dX9_isMatch_100 rfl rfl ?_
          refine k_X9_155 (pc := 101) (gx_X9_isLike _ _ _ hI ha hb) rfl (c_140 _) (by decide) (Nat.le_refl _) (Nat.le_refl _) (Nat.le_of_ble_eq_true rfl) dX9_isMatch_101 (fun x w2 h => ?_)
          rcases h with ⟨rfl, rfl | rfl⟩
          · skip
            refine R_ifeq (pc := 104) 121 dX9_isMatch_104 (by decide) (fun h => absurd h (by decide)) (fun _ => ?_)
            refine R_aload_n (pc := 107) dX9_isMatch_107 rfl rfl ?_
            refine R_iload_n (pc := 108) dX9_isMatch_108 rfl rfl ?_
            refine R_iload_n (pc := 109) dX9_isMatch_109 rfl rfl ?_
            refine k_X9_152 (pc := 110) (gx_X9_farOf _ _ _ hI ha hb) rfl (c_140 _) (by decide) (Nat.le_refl _) (Nat.le_refl _) (Nat.le_of_ble_eq_true rfl) dX9_isMatch_110 (fun y23 w2 h => ?_)
            obtain ⟨σx25, rfl, hV24⟩ := h
            refine R_iconst (pc := 113) (v := 2) dX9_isMatch_113 (by decide) ?_
            refine R_icgt (pc := 114) 121 dX9_isMatch_114 (by decide) (fun b114_26 => ?_) (fun b114_26 => ?_)
            · skip
              refine R_iconst (pc := 121) (v := 0) dX9_isMatch_121 (by decide) ?_
              exact R_iret (pc := 122) dX9_isMatch_122 rfl rfl (Nat.zero_le _) (Nat.zero_le _) ⟨_, rfl, _, rfl, hV24⟩
            · skip
              refine R_iconst (pc := 117) (v := 1) dX9_isMatch_117 (by decide) ?_
              refine R_goto (pc := 118) 122 dX9_isMatch_118 (by decide) ?_
              exact R_iret (pc := 122) dX9_isMatch_122 rfl rfl (Nat.zero_le _) (Nat.zero_le _) ⟨_, rfl, _, rfl, hV24⟩
          · skip
            refine R_ifeq (pc := 104) 121 dX9_isMatch_104 (by decide) (fun _ => ?_) (fun h => absurd (by decide) h)
            refine R_iconst (pc := 121) (v := 0) dX9_isMatch_121 (by decide) ?_
            exact R_iret (pc := 122) dX9_isMatch_122 rfl rfl (Nat.zero_le _) (Nat.zero_le _) ⟨_, rfl, _, rfl, hI⟩
        · skip
          refine R_aload_n (pc := 70) dX9_isMatch_70 rfl rfl ?_
          refine g_X9_16 (pc := 71) (v := .ref 143) rfl dX9_isMatch_71 (c_140 _) rfl ?_
          refine R_iload_n (pc := 74) dX9_isMatch_74 rfl rfl ?_
          have hx28 : vp_in a 20 := (vp_of_inR ha (by decide))
          refine R_iaload (pc := 75) dX9_isMatch_75 (c_143 _) hx28 ?_
          refine R_ifeq (pc := 76) 88 dX9_isMatch_76 (by decide) (fun b76_29 => ?_) (fun b76_29 => ?_)
          · skip
            refine R_iconst (pc := 88) (v := 1) dX9_isMatch_88 (by decide) ?_
            refine R_goto (pc := 89) 93 dX9_isMatch_89 (by decide) ?_
            refine st_4_3_i_i (pc := 93) dX9_isMatch_93 ?_
            refine R_iload_n (pc := 94) dX9_isMatch_94 rfl rfl ?_
            refine R_ifeq (pc := 95) 121 dX9_isMatch_95 (by decide) (fun h => absurd h (by decide)) (fun _ => ?_)
            refine R_aload_n (pc := 98) dX9_isMatch_98 rfl rfl ?_
            refine R_iload_n (pc := 99) dX9_isMatch_99 rfl rfl ?_
            refine R_iload_n (pc := 100) dX9_isMatch_100 rfl rfl ?_
            refine k_X9_155 (pc := 101) (gx_X9_isLike _ _ _ hI ha hb) rfl (c_140 _) (by decide) (Nat.le_refl _) (Nat.le_refl _) (Nat.le_of_ble_eq_true rfl) dX9_isMatch_101 (fun x w2 h => ?_)
            rcases h with ⟨rfl, rfl | rfl⟩
            · skip
              refine R_ifeq (pc := 104) 121 dX9_isMatch_104 (by decide) (fun h => absurd h (by decide)) (fun _ => ?_)
              refine R_aload_n (pc := 107) dX9_isMatch_107 rfl rfl ?_
              refine R_iload_n (pc := 108) dX9_isMatch_108 rfl rfl ?_
              refine R_iload_n (pc := 109) dX9_isMatch_109 rfl rfl ?_
              refine k_X9_152 (pc := 110) (gx_X9_farOf _ _ _ hI ha hb) rfl (c_140 _) (by decide) (Nat.le_refl _) (Nat.le_refl _) (Nat.le_of_ble_eq_true rfl) dX9_isMatch_110 (fun y33 w2 h => ?_)
              obtain ⟨σx35, rfl, hV34⟩ := h
              refine R_iconst (pc := 113) (v := 2) dX9_isMatch_113 (by decide) ?_
              refine R_icgt (pc := 114) 121 dX9_isMatch_114 (by decide) (fun b114_36 => ?_) (fun b114_36 => ?_)
              · skip
                refine R_iconst (pc := 121) (v := 0) dX9_isMatch_121 (by decide) ?_
                exact R_iret (pc := 122) dX9_isMatch_122 rfl rfl (Nat.zero_le _) (Nat.zero_le _) ⟨_, rfl, _, rfl, hV34⟩
              · skip
                refine R_iconst (pc := 117) (v := 1) dX9_isMatch_117 (by decide) ?_
                refine R_goto (pc := 118) 122 dX9_isMatch_118 (by decide) ?_
                exact R_iret (pc := 122) dX9_isMatch_122 rfl rfl (Nat.zero_le _) (Nat.zero_le _) ⟨_, rfl, _, rfl, hV34⟩
            · skip
              refine R_ifeq (pc := 104) 121 dX9_isMatch_104 (by decide) (fun _ => ?_) (fun h => absurd (by decide) h)
              refine R_iconst (pc := 121) (v := 0) dX9_isMatch_121 (by decide) ?_
              exact R_iret (pc := 122) dX9_isMatch_122 rfl rfl (Nat.zero_le _) (Nat.zero_le _) ⟨_, rfl, _, rfl, hI⟩
          · skip
            refine R_aload_n (pc := 79) dX9_isMatch_79 rfl rfl ?_
            refine g_X9_16 (pc := 80) (v := .ref 143) rfl dX9_isMatch_80 (c_140 _) rfl ?_
            refine R_iload_n (pc := 83) dX9_isMatch_83 rfl rfl ?_
            have hx38 : vp_in b 20 := (vp_of_inR hb (by decide))
            refine R_iaload (pc := 84) dX9_isMatch_84 (c_143 _) hx38 ?_
            refine R_ifne (pc := 85) 92 dX9_isMatch_85 (by decide) (fun b85_39 => ?_) (fun b85_39 => ?_)
            · skip
              refine R_iconst (pc := 92) (v := 0) dX9_isMatch_92 (by decide) ?_
              refine st_4_3_i_i (pc := 93) dX9_isMatch_93 ?_
              refine R_iload_n (pc := 94) dX9_isMatch_94 rfl rfl ?_
              refine R_ifeq (pc := 95) 121 dX9_isMatch_95 (by decide) (fun _ => ?_) (fun h => absurd (by decide) h)
              refine R_iconst (pc := 121) (v := 0) dX9_isMatch_121 (by decide) ?_
              exact R_iret (pc := 122) dX9_isMatch_122 rfl rfl (Nat.zero_le _) (Nat.zero_le _) ⟨_, rfl, _, rfl, hI⟩
            · skip
              refine R_iconst (pc := 88) (v := 1) dX9_isMatch_88 (by decide) ?_
              refine R_goto (pc := 89) 93 dX9_isMatch_89 (by decide) ?_
              refine st_4_3_i_i (pc := 93) dX9_isMatch_93 ?_
              refine R_iload_n (pc := 94) dX9_isMatch_94 rfl rfl ?_
              refine R_ifeq (pc := 95) 121 dX9_isMatch_95 (by decide) (fun h => absurd h (by decide)) (fun _ => ?_)
              refine R_aload_n (pc := 98) dX9_isMatch_98 rfl rfl ?_
              refine R_iload_n (pc := 99) dX9_isMatch_99 rfl rfl ?_
              refine R_iload_n (pc := 100) dX9_isMatch_100 rfl rfl ?_
              refine k_X9_155 (pc := 101) (gx_X9_isLike _ _ _ hI ha hb) rfl (c_140 _) (by decide) (Nat.le_refl _) (Nat.le_refl _) (Nat.le_of_ble_eq_true rfl) dX9_isMatch_101 (fun x w2 h => ?_)
              rcases h with ⟨rfl, rfl | rfl⟩
              · skip
                refine R_ifeq (pc := 104) 121 dX9_isMatch_104 (by decide) (fun h => absurd h (by decide)) (fun _ => ?_)
                refine R_aload_n (pc := 107) dX9_isMatch_107 rfl rfl ?_
                refine R_iload_n (pc := 108) dX9_isMatch_108 rfl rfl ?_
                refine R_iload_n (pc := 109) dX9_isMatch_109 rfl rfl ?_
                refine k_X9_152 (pc := 110) (gx_X9_farOf _ _ _ hI ha hb) rfl (c_140 _) (by decide) (Nat.le_refl _) (Nat.le_refl _) (Nat.le_of_ble_eq_true rfl) dX9_isMatch_110 (fun y44 w2 h => ?_)
                obtain ⟨σx46, rfl, hV45⟩ := h
                refine R_iconst (pc := 113) (v := 2) dX9_isMatch_113 (by decide) ?_
                refine R_icgt (pc := 114) 121 dX9_isMatch_114 (by decide) (fun b114_47 => ?_) (fun b114_47 => ?_)
                · skip
                  refine R_iconst (pc := 121) (v := 0) dX9_isMatch_121 (by decide) ?_
                  exact R_iret (pc := 122) dX9_isMatch_122 rfl rfl (Nat.zero_le _) (Nat.zero_le _) ⟨_, rfl, _, rfl, hV45⟩
                · skip
                  refine R_iconst (pc := 117) (v := 1) dX9_isMatch_117 (by decide) ?_
                  refine R_goto (pc := 118) 122 dX9_isMatch_118 (by decide) ?_
                  exact R_iret (pc := 122) dX9_isMatch_122 rfl rfl (Nat.zero_le _) (Nat.zero_le _) ⟨_, rfl, _, rfl, hV45⟩
              · skip
                refine R_ifeq (pc := 104) 121 dX9_isMatch_104 (by decide) (fun _ => ?_) (fun h => absurd (by decide) h)
                refine R_iconst (pc := 121) (v := 0) dX9_isMatch_121 (by decide) ?_
                exact R_iret (pc := 122) dX9_isMatch_122 rfl rfl (Nat.zero_le _) (Nat.zero_le _) ⟨_, rfl, _, rfl, hI⟩
theorem dX9_findUnlike_0 : decode cX9_findUnlike 0 = .ok (.iconst 0, 1) := by decide +kernel
theorem dX9_findUnlike_1 : decode cX9_findUnlike 1 = .ok (.istore_n 1, 1) := by decide +kernel
theorem dX9_findUnlike_2 : decode cX9_findUnlike 2 = .ok (.iload_n 1, 1) := by decide +kernel
theorem dX9_findUnlike_3 : decode cX9_findUnlike 3 = .ok (.aload_n 0, 1) := by decide +kernel
theorem dX9_findUnlike_4 : decode cX9_findUnlike 4 = .ok (.getfield 117, 3) := by decide +kernel
theorem dX9_findUnlike_7 : decode cX9_findUnlike 7 = .ok (.if_icmp .ge 61, 3) := by decide +kernel
theorem dX9_findUnlike_10 : decode cX9_findUnlike 10 = .ok (.iconst 0, 1) := by decide +kernel
theorem dX9_findUnlike_11 : decode cX9_findUnlike 11 = .ok (.istore_n 2, 1) := by decide +kernel
theorem dX9_findUnlike_12 : decode cX9_findUnlike 12 = .ok (.iload_n 2, 1) := by decide +kernel
theorem dX9_findUnlike_13 : decode cX9_findUnlike 13 = .ok (.iload_n 1, 1) := by decide +kernel
theorem dX9_findUnlike_14 : decode cX9_findUnlike 14 = .ok (.if_icmp .ge 48, 3) := by decide +kernel
theorem dX9_findUnlike_17 : decode cX9_findUnlike 17 = .ok (.aload_n 0, 1) := by decide +kernel
theorem dX9_findUnlike_18 : decode cX9_findUnlike 18 = .ok (.getfield 51, 3) := by decide +kernel
theorem dX9_findUnlike_21 : decode cX9_findUnlike 21 = .ok (.bipush 20, 2) := by decide +kernel
theorem dX9_findUnlike_23 : decode cX9_findUnlike 23 = .ok (.iload_n 1, 1) := by decide +kernel
theorem dX9_findUnlike_24 : decode cX9_findUnlike 24 = .ok (.imul, 1) := by decide +kernel
theorem dX9_findUnlike_25 : decode cX9_findUnlike 25 = .ok (.iload_n 2, 1) := by decide +kernel
theorem dX9_findUnlike_26 : decode cX9_findUnlike 26 = .ok (.iadd, 1) := by decide +kernel
theorem dX9_findUnlike_27 : decode cX9_findUnlike 27 = .ok (.aload_n 0, 1) := by decide +kernel
theorem dX9_findUnlike_28 : decode cX9_findUnlike 28 = .ok (.iload_n 1, 1) := by decide +kernel
theorem dX9_findUnlike_29 : decode cX9_findUnlike 29 = .ok (.iload_n 2, 1) := by decide +kernel
theorem dX9_findUnlike_30 : decode cX9_findUnlike 30 = .ok (.invokevirtual 148, 3) := by decide +kernel
theorem dX9_findUnlike_33 : decode cX9_findUnlike 33 = .ok (.iastore, 1) := by decide +kernel
theorem dX9_findUnlike_34 : decode cX9_findUnlike 34 = .ok (.aload_n 0, 1) := by decide +kernel
theorem dX9_findUnlike_35 : decode cX9_findUnlike 35 = .ok (.getfield 51, 3) := by decide +kernel
theorem dX9_findUnlike_38 : decode cX9_findUnlike 38 = .ok (.bipush 20, 2) := by decide +kernel
theorem dX9_findUnlike_40 : decode cX9_findUnlike 40 = .ok (.iload_n 2, 1) := by decide +kernel
theorem dX9_findUnlike_41 : decode cX9_findUnlike 41 = .ok (.imul, 1) := by decide +kernel
theorem dX9_findUnlike_42 : decode cX9_findUnlike 42 = .ok (.iload_n 1, 1) := by decide +kernel
theorem dX9_findUnlike_43 : decode cX9_findUnlike 43 = .ok (.iadd, 1) := by decide +kernel
theorem dX9_findUnlike_44 : decode cX9_findUnlike 44 = .ok (.aload_n 0, 1) := by decide +kernel
theorem dX9_findUnlike_45 : decode cX9_findUnlike 45 = .ok (.getfield 51, 3) := by decide +kernel
theorem dX9_findUnlike_48 : decode cX9_findUnlike 48 = .ok (.bipush 20, 2) := by decide +kernel
theorem dX9_findUnlike_50 : decode cX9_findUnlike 50 = .ok (.iload_n 1, 1) := by decide +kernel
theorem dX9_findUnlike_51 : decode cX9_findUnlike 51 = .ok (.imul, 1) := by decide +kernel
theorem dX9_findUnlike_52 : decode cX9_findUnlike 52 = .ok (.iload_n 2, 1) := by decide +kernel
theorem dX9_findUnlike_53 : decode cX9_findUnlike 53 = .ok (.iadd, 1) := by decide +kernel
theorem dX9_findUnlike_54 : decode cX9_findUnlike 54 = .ok (.iaload, 1) := by decide +kernel
theorem dX9_findUnlike_55 : decode cX9_findUnlike 55 = .ok (.iastore, 1) := by decide +kernel
theorem dX9_findUnlike_56 : decode cX9_findUnlike 56 = .ok (.iinc 2 1, 3) := by decide +kernel
theorem dX9_findUnlike_59 : decode cX9_findUnlike 59 = .ok (.goto (-47), 3) := by decide +kernel
theorem dX9_findUnlike_62 : decode cX9_findUnlike 62 = .ok (.iinc 1 1, 3) := by decide +kernel
theorem dX9_findUnlike_65 : decode cX9_findUnlike 65 = .ok (.goto (-63), 3) := by decide +kernel
theorem dX9_findUnlike_68 : decode cX9_findUnlike 68 = .ok (.return_, 1) := by decide +kernel
set_option maxRecDepth 100000 in
set_option maxHeartbeats 40000000 in
theorem gx_X9_findUnlike {G : vG} {l : Launch} (σ : Sg)  (hI : Inv σ) : Sp G l yX9_findUnlike cX9_findUnlike 3 none 3 0 0 [.ref 140] (WW σ) (QV (fun w2 => ∃ σ2, w2 = WW σ2 ∧ Inv σ2)) := by
  refine Sp_of_R [(some (.ref 140)), none, none] [none, none] rfl (by simp) rfl (Nat.le_of_ble_eq_true rfl) ?_
  refine R_iconst (pc := 0) (v := 0) dX9_findUnlike_0 (by decide) ?_
  refine st_3_1_i_a (pc := 1) dX9_findUnlike_1 ?_
  have HL2 : ∀ (q j2 : Nat) (σ2 : Sg) (g2_2 : Option Value), j2 + q = 20 → 0 ≤ j2 → Inv σ2 → R G l yX9_findUnlike cX9_findUnlike 3 none 3 0 0 (QV (fun w2 => ∃ σ2, w2 = WW σ2 ∧ Inv σ2)) 2 [(some (.ref 140)), (some (.int (nI j2))), g2_2] [] (WW σ2) 0 0 := by
    intro q
    induction q with
    | zero =>
      intro j2 σ2 g2_2 hj hs2 hI2
      obtain rfl : j2 = 20 := by omega
      refine R_iload_n (pc := 2) dX9_findUnlike_2 rfl rfl ?_
      refine R_aload_n (pc := 3) dX9_findUnlike_3 rfl rfl ?_
      refine g_X9_117 (pc := 4) (v := .int (σ2.1 14000)) rfl dX9_findUnlike_4 (c_140 _) rfl ?_
      refine R_icge (pc := 7) 68 dX9_findUnlike_7 (by decide) (fun _ => ?_) (fun h => absurd (Int32.not_lt.mp (inR_up (iv_14000 hI2) (Int32.le_refl _) (by decide)).2) h)
      exact R_vret (pc := 68) dX9_findUnlike_68 rfl (Nat.zero_le _) (Nat.zero_le _) ⟨rfl, _, rfl, hI2⟩
    | succ q ih2 =>
      intro j2 σ2 g2_2 hj hs2 hI2
      have hr2 : inR (nI j2) 0 19 := inR_ix hs2 (show j2 < 20 by omega) (by decide) (by decide) (by decide)
      have hlt2 : j2 < 20 := by omega
      refine R_iload_n (pc := 2) dX9_findUnlike_2 rfl rfl ?_
      refine R_aload_n (pc := 3) dX9_findUnlike_3 rfl rfl ?_
      refine g_X9_117 (pc := 4) (v := .int (σ2.1 14000)) rfl dX9_findUnlike_4 (c_140 _) rfl ?_
      refine R_icge (pc := 7) 68 dX9_findUnlike_7 (by decide) (fun b7_2 => ?_) (fun b7_2 => ?_)
      · skip
        exact R_vret (pc := 68) dX9_findUnlike_68 rfl (Nat.zero_le _) (Nat.zero_le _) ⟨rfl, _, rfl, hI2⟩
      · skip
        refine R_iconst (pc := 10) (v := 0) dX9_findUnlike_10 (by decide) ?_
        refine st_3_2_i_i (pc := 11) dX9_findUnlike_11 ?_
        have HL12 : ∀ (q j12 : Nat) (σ12 : Sg), j12 + q = 20 → 0 ≤ j12 → Inv σ12 → R G l yX9_findUnlike cX9_findUnlike 3 none 3 0 0 (QV (fun w2 => ∃ σ2, w2 = WW σ2 ∧ Inv σ2)) 12 [(some (.ref 140)), (some (.int (nI j2))), (some (.int (nI j12)))] [] (WW σ12) 0 0 := by
          intro q
          induction q with
          | zero =>
            intro j12 σ12 hj hs12 hI12
            obtain rfl : j12 = 20 := by omega
            refine R_iload_n (pc := 12) dX9_findUnlike_12 rfl rfl ?_
            refine R_iload_n (pc := 13) dX9_findUnlike_13 rfl rfl ?_
            refine R_icge (pc := 14) 62 dX9_findUnlike_14 (by decide) (fun _ => ?_) (fun h => absurd (Int32.not_lt.mp (inR_up hr2 (Int32.le_refl _) (by decide)).2) h)
            refine inc_3_1_1_a (pc := 62) dX9_findUnlike_62 ?_
            have r4 : inR ((nI j2) + 1) 1 20 := inR_add (show inR (nI j2) 0 19 from hr2) (show inR 1 1 1 from (inR_self _)) (by decide) (by decide)
            have e5 := ti_add (l := 1) (h := 20) (show inR (nI j2) 0 19 from hr2) (show inR 1 1 1 from (inR_self _)) (by decide) (by decide)
            refine R_goto (pc := 65) 2 dX9_findUnlike_65 (by decide) ?_
            rw [nI_1]
            exact ih2 (j2 + 1) _ _ (by omega) (by omega) hI12
          | succ q ih12 =>
            intro j12 σ12 hj hs12 hI12
            have hr12 : inR (nI j12) 0 19 := inR_ix hs12 (show j12 < 20 by omega) (by decide) (by decide) (by decide)
            have hlt12 : j12 < 20 := by omega
            refine R_iload_n (pc := 12) dX9_findUnlike_12 rfl rfl ?_
            refine R_iload_n (pc := 13) dX9_findUnlike_13 rfl rfl ?_
            refine R_icge (pc := 14) 62 dX9_findUnlike_14 (by decide) (fun b14_6 => ?_) (fun b14_6 => ?_)
            · skip
              refine inc_3_1_1_a (pc := 62) dX9_findUnlike_62 ?_
              have r7 : inR ((nI j2) + 1) 1 20 := inR_add (show inR (nI j2) 0 19 from hr2) (show inR 1 1 1 from (inR_self _)) (by decide) (by decide)
              have e8 := ti_add (l := 1) (h := 20) (show inR (nI j2) 0 19 from hr2) (show inR 1 1 1 from (inR_self _)) (by decide) (by decide)
              refine R_goto (pc := 65) 2 dX9_findUnlike_65 (by decide) ?_
              rw [nI_1]
              exact ih2 (j2 + 1) _ _ (by omega) (by omega) hI12
            · skip
              refine R_aload_n (pc := 17) dX9_findUnlike_17 rfl rfl ?_
              refine g_X9_51 (pc := 18) (v := .ref 151) rfl dX9_findUnlike_18 (c_140 _) rfl ?_
              refine R_bipush (pc := 21) (v := 20) dX9_findUnlike_21 (by decide) ?_
              refine R_iload_n (pc := 23) dX9_findUnlike_23 rfl rfl ?_
              refine R_imul (pc := 24) dX9_findUnlike_24 ?_
              have r9 : inR (20 * (nI j2)) 0 380 := inR_mulc (c := 20) (l := 0) (h := 380) 20 (by decide) (show inR (nI j2) 0 19 from hr2) (by decide) (by decide)
              have e10 := ti_mulc (c := 20) (l := 0) (h := 380) 20 (by decide) (show inR (nI j2) 0 19 from hr2) (by decide) (by decide)
              refine R_iload_n (pc := 25) dX9_findUnlike_25 rfl rfl ?_
              refine R_iadd (pc := 26) dX9_findUnlike_26 ?_
              have r11 : inR ((20 * (nI j2)) + (nI j12)) 0 399 := inR_add (show inR (20 * (nI j2)) 0 380 from r9) (show inR (nI j12) 0 19 from hr12) (by decide) (by decide)
              have e12 := ti_add (l := 0) (h := 399) (show inR (20 * (nI j2)) 0 380 from r9) (show inR (nI j12) 0 19 from hr12) (by decide) (by decide)
              refine R_aload_n (pc := 27) dX9_findUnlike_27 rfl rfl ?_
              refine R_iload_n (pc := 28) dX9_findUnlike_28 rfl rfl ?_
              refine R_iload_n (pc := 29) dX9_findUnlike_29 rfl rfl ?_
              refine k_X9_148 (pc := 30) (gx_X9_unlikeOf _ _ _ hI12 hr2 hr12) rfl (c_140 _) (by decide) (Nat.le_refl _) (Nat.le_refl _) (Nat.le_of_ble_eq_true rfl) dX9_findUnlike_30 (fun y13 w2 h => ?_)
              subst h
              have hx14 : vp_in ((20 * (nI j2)) + (nI j12)) 400 := (vp_of_inR r11 (by decide))
              refine W_iastore (pc := 33) dX9_findUnlike_33 (c_151 _) hx14 (a_151 _ _) ?_
              refine R_aload_n (pc := 34) dX9_findUnlike_34 rfl rfl ?_
              refine g_X9_51 (pc := 35) (v := .ref 151) rfl dX9_findUnlike_35 (c_140 _) rfl ?_
              refine R_bipush (pc := 38) (v := 20) dX9_findUnlike_38 (by decide) ?_
              refine R_iload_n (pc := 40) dX9_findUnlike_40 rfl rfl ?_
              refine R_imul (pc := 41) dX9_findUnlike_41 ?_
              have r15 : inR (20 * (nI j12)) 0 380 := inR_mulc (c := 20) (l := 0) (h := 380) 20 (by decide) (show inR (nI j12) 0 19 from hr12) (by decide) (by decide)
              have e16 := ti_mulc (c := 20) (l := 0) (h := 380) 20 (by decide) (show inR (nI j12) 0 19 from hr12) (by decide) (by decide)
              refine R_iload_n (pc := 42) dX9_findUnlike_42 rfl rfl ?_
              refine R_iadd (pc := 43) dX9_findUnlike_43 ?_
              have r17 : inR ((20 * (nI j12)) + (nI j2)) 0 399 := inR_add (show inR (20 * (nI j12)) 0 380 from r15) (show inR (nI j2) 0 19 from hr2) (by decide) (by decide)
              have e18 := ti_add (l := 0) (h := 399) (show inR (20 * (nI j12)) 0 380 from r15) (show inR (nI j2) 0 19 from hr2) (by decide) (by decide)
              refine R_aload_n (pc := 44) dX9_findUnlike_44 rfl rfl ?_
              refine g_X9_51 (pc := 45) (v := .ref 151) rfl dX9_findUnlike_45 (c_140 _) rfl ?_
              refine R_bipush (pc := 48) (v := 20) dX9_findUnlike_48 (by decide) ?_
              refine R_iload_n (pc := 50) dX9_findUnlike_50 rfl rfl ?_
              refine R_imul (pc := 51) dX9_findUnlike_51 ?_
              have r19 : inR (20 * (nI j2)) 0 380 := inR_mulc (c := 20) (l := 0) (h := 380) 20 (by decide) (show inR (nI j2) 0 19 from hr2) (by decide) (by decide)
              have e20 := ti_mulc (c := 20) (l := 0) (h := 380) 20 (by decide) (show inR (nI j2) 0 19 from hr2) (by decide) (by decide)
              refine R_iload_n (pc := 52) dX9_findUnlike_52 rfl rfl ?_
              refine R_iadd (pc := 53) dX9_findUnlike_53 ?_
              have r21 : inR ((20 * (nI j2)) + (nI j12)) 0 399 := inR_add (show inR (20 * (nI j2)) 0 380 from r19) (show inR (nI j12) 0 19 from hr12) (by decide) (by decide)
              have e22 := ti_add (l := 0) (h := 399) (show inR (20 * (nI j2)) 0 380 from r19) (show inR (nI j12) 0 19 from hr12) (by decide) (by decide)
              have hx23 : vp_in ((20 * (nI j2)) + (nI j12)) 400 := (vp_of_inR r21 (by decide))
              refine R_iaload (pc := 54) dX9_findUnlike_54 (c_151 _) hx23 ?_
              have hx24 : vp_in ((20 * (nI j12)) + (nI j2)) 400 := (vp_of_inR r17 (by decide))
              refine W_iastore (pc := 55) dX9_findUnlike_55 (c_151 _) hx24 (a_151 _ _) ?_
              refine inc_3_2_1_i (pc := 56) dX9_findUnlike_56 ?_
              have r25 : inR ((nI j12) + 1) 1 20 := inR_add (show inR (nI j12) 0 19 from hr12) (show inR 1 1 1 from (inR_self _)) (by decide) (by decide)
              have e26 := ti_add (l := 1) (h := 20) (show inR (nI j12) 0 19 from hr12) (show inR 1 1 1 from (inR_self _)) (by decide) (by decide)
              refine R_goto (pc := 59) 12 dX9_findUnlike_59 (by decide) ?_
              rw [nI_1]
              exact ih12 (j12 + 1) _ (by omega) (by omega) hI12
        exact HL12 20 0 _ (by omega) (by omega) hI2
  exact HL2 20 0 _ _ (by omega) (by omega) hI
theorem dX9_findChains_0 : decode cX9_findChains 0 = .ok (.aload_n 0, 1) := by decide +kernel
theorem dX9_findChains_1 : decode cX9_findChains 1 = .ok (.invokevirtual 120, 3) := by decide +kernel
theorem dX9_findChains_4 : decode cX9_findChains 4 = .ok (.istore 4, 2) := by decide +kernel
theorem dX9_findChains_6 : decode cX9_findChains 6 = .ok (.iconst 0, 1) := by decide +kernel
theorem dX9_findChains_7 : decode cX9_findChains 7 = .ok (.istore 5, 2) := by decide +kernel
theorem dX9_findChains_9 : decode cX9_findChains 9 = .ok (.iload 5, 2) := by decide +kernel
theorem dX9_findChains_11 : decode cX9_findChains 11 = .ok (.iload 4, 2) := by decide +kernel
theorem dX9_findChains_13 : decode cX9_findChains 13 = .ok (.if_icmp .ge 15, 3) := by decide +kernel
theorem dX9_findChains_16 : decode cX9_findChains 16 = .ok (.aload_n 1, 1) := by decide +kernel
theorem dX9_findChains_17 : decode cX9_findChains 17 = .ok (.iload 5, 2) := by decide +kernel
theorem dX9_findChains_19 : decode cX9_findChains 19 = .ok (.iload 5, 2) := by decide +kernel
theorem dX9_findChains_21 : decode cX9_findChains 21 = .ok (.iastore, 1) := by decide +kernel
theorem dX9_findChains_22 : decode cX9_findChains 22 = .ok (.iinc 5 1, 3) := by decide +kernel
theorem dX9_findChains_25 : decode cX9_findChains 25 = .ok (.goto (-16), 3) := by decide +kernel
theorem dX9_findChains_28 : decode cX9_findChains 28 = .ok (.iconst 0, 1) := by decide +kernel
theorem dX9_findChains_29 : decode cX9_findChains 29 = .ok (.istore 5, 2) := by decide +kernel
theorem dX9_findChains_31 : decode cX9_findChains 31 = .ok (.iload 5, 2) := by decide +kernel
theorem dX9_findChains_33 : decode cX9_findChains 33 = .ok (.iload 4, 2) := by decide +kernel
theorem dX9_findChains_35 : decode cX9_findChains 35 = .ok (.if_icmp .ge 175, 3) := by decide +kernel
theorem dX9_findChains_38 : decode cX9_findChains 38 = .ok (.iconst 0, 1) := by decide +kernel
theorem dX9_findChains_39 : decode cX9_findChains 39 = .ok (.istore 6, 2) := by decide +kernel
theorem dX9_findChains_41 : decode cX9_findChains 41 = .ok (.iload 6, 2) := by decide +kernel
theorem dX9_findChains_43 : decode cX9_findChains 43 = .ok (.iload 5, 2) := by decide +kernel
theorem dX9_findChains_45 : decode cX9_findChains 45 = .ok (.if_icmp .ge 159, 3) := by decide +kernel
theorem dX9_findChains_48 : decode cX9_findChains 48 = .ok (.iload 5, 2) := by decide +kernel
theorem dX9_findChains_50 : decode cX9_findChains 50 = .ok (.iload_n 3, 1) := by decide +kernel
theorem dX9_findChains_51 : decode cX9_findChains 51 = .ok (.if_icmp .eq 53, 3) := by decide +kernel
theorem dX9_findChains_54 : decode cX9_findChains 54 = .ok (.iload 6, 2) := by decide +kernel
theorem dX9_findChains_56 : decode cX9_findChains 56 = .ok (.iload_n 3, 1) := by decide +kernel
theorem dX9_findChains_57 : decode cX9_findChains 57 = .ok (.if_icmp .eq 47, 3) := by decide +kernel
theorem dX9_findChains_60 : decode cX9_findChains 60 = .ok (.aload_n 1, 1) := by decide +kernel
theorem dX9_findChains_61 : decode cX9_findChains 61 = .ok (.iload 5, 2) := by decide +kernel
theorem dX9_findChains_63 : decode cX9_findChains 63 = .ok (.iaload, 1) := by decide +kernel
theorem dX9_findChains_64 : decode cX9_findChains 64 = .ok (.aload_n 1, 1) := by decide +kernel
theorem dX9_findChains_65 : decode cX9_findChains 65 = .ok (.iload 6, 2) := by decide +kernel
theorem dX9_findChains_67 : decode cX9_findChains 67 = .ok (.iaload, 1) := by decide +kernel
theorem dX9_findChains_68 : decode cX9_findChains 68 = .ok (.if_icmp .eq 36, 3) := by decide +kernel
theorem dX9_findChains_71 : decode cX9_findChains 71 = .ok (.iload_n 2, 1) := by decide +kernel
theorem dX9_findChains_72 : decode cX9_findChains 72 = .ok (.ifCond .eq 17, 3) := by decide +kernel
theorem dX9_findChains_75 : decode cX9_findChains 75 = .ok (.aload_n 0, 1) := by decide +kernel
theorem dX9_findChains_76 : decode cX9_findChains 76 = .ok (.iload 5, 2) := by decide +kernel
theorem dX9_findChains_78 : decode cX9_findChains 78 = .ok (.iload 6, 2) := by decide +kernel
theorem dX9_findChains_80 : decode cX9_findChains 80 = .ok (.invokevirtual 159, 3) := by decide +kernel
theorem dX9_findChains_83 : decode cX9_findChains 83 = .ok (.ifCond .eq 21, 3) := by decide +kernel
theorem dX9_findChains_86 : decode cX9_findChains 86 = .ok (.goto 14, 3) := by decide +kernel
theorem dX9_findChains_89 : decode cX9_findChains 89 = .ok (.aload_n 0, 1) := by decide +kernel
theorem dX9_findChains_90 : decode cX9_findChains 90 = .ok (.iload 5, 2) := by decide +kernel
theorem dX9_findChains_92 : decode cX9_findChains 92 = .ok (.iload 6, 2) := by decide +kernel
theorem dX9_findChains_94 : decode cX9_findChains 94 = .ok (.invokevirtual 155, 3) := by decide +kernel
theorem dX9_findChains_97 : decode cX9_findChains 97 = .ok (.ifCond .eq 7, 3) := by decide +kernel
theorem dX9_findChains_100 : decode cX9_findChains 100 = .ok (.iconst 1, 1) := by decide +kernel
theorem dX9_findChains_101 : decode cX9_findChains 101 = .ok (.goto 4, 3) := by decide +kernel
theorem dX9_findChains_104 : decode cX9_findChains 104 = .ok (.iconst 0, 1) := by decide +kernel
theorem dX9_findChains_105 : decode cX9_findChains 105 = .ok (.istore 7, 2) := by decide +kernel
theorem dX9_findChains_107 : decode cX9_findChains 107 = .ok (.aload_n 1, 1) := by decide +kernel
theorem dX9_findChains_108 : decode cX9_findChains 108 = .ok (.iload 5, 2) := by decide +kernel
theorem dX9_findChains_110 : decode cX9_findChains 110 = .ok (.iaload, 1) := by decide +kernel
theorem dX9_findChains_111 : decode cX9_findChains 111 = .ok (.aload_n 1, 1) := by decide +kernel
theorem dX9_findChains_112 : decode cX9_findChains 112 = .ok (.iload 6, 2) := by decide +kernel
theorem dX9_findChains_114 : decode cX9_findChains 114 = .ok (.iaload, 1) := by decide +kernel
theorem dX9_findChains_115 : decode cX9_findChains 115 = .ok (.if_icmp .ge 10, 3) := by decide +kernel
theorem dX9_findChains_118 : decode cX9_findChains 118 = .ok (.aload_n 1, 1) := by decide +kernel
theorem dX9_findChains_119 : decode cX9_findChains 119 = .ok (.iload 5, 2) := by decide +kernel
theorem dX9_findChains_121 : decode cX9_findChains 121 = .ok (.iaload, 1) := by decide +kernel
theorem dX9_findChains_122 : decode cX9_findChains 122 = .ok (.goto 7, 3) := by decide +kernel
theorem dX9_findChains_125 : decode cX9_findChains 125 = .ok (.aload_n 1, 1) := by decide +kernel
theorem dX9_findChains_126 : decode cX9_findChains 126 = .ok (.iload 6, 2) := by decide +kernel
theorem dX9_findChains_128 : decode cX9_findChains 128 = .ok (.iaload, 1) := by decide +kernel
theorem dX9_findChains_129 : decode cX9_findChains 129 = .ok (.istore 8, 2) := by decide +kernel
theorem dX9_findChains_131 : decode cX9_findChains 131 = .ok (.aload_n 1, 1) := by decide +kernel
theorem dX9_findChains_132 : decode cX9_findChains 132 = .ok (.iload 5, 2) := by decide +kernel
theorem dX9_findChains_134 : decode cX9_findChains 134 = .ok (.iaload, 1) := by decide +kernel
theorem dX9_findChains_135 : decode cX9_findChains 135 = .ok (.aload_n 1, 1) := by decide +kernel
theorem dX9_findChains_136 : decode cX9_findChains 136 = .ok (.iload 6, 2) := by decide +kernel
theorem dX9_findChains_138 : decode cX9_findChains 138 = .ok (.iaload, 1) := by decide +kernel
theorem dX9_findChains_139 : decode cX9_findChains 139 = .ok (.if_icmp .ge 10, 3) := by decide +kernel
theorem dX9_findChains_142 : decode cX9_findChains 142 = .ok (.aload_n 1, 1) := by decide +kernel
theorem dX9_findChains_143 : decode cX9_findChains 143 = .ok (.iload 6, 2) := by decide +kernel
theorem dX9_findChains_145 : decode cX9_findChains 145 = .ok (.iaload, 1) := by decide +kernel
theorem dX9_findChains_146 : decode cX9_findChains 146 = .ok (.goto 7, 3) := by decide +kernel
theorem dX9_findChains_149 : decode cX9_findChains 149 = .ok (.aload_n 1, 1) := by decide +kernel
theorem dX9_findChains_150 : decode cX9_findChains 150 = .ok (.iload 5, 2) := by decide +kernel
theorem dX9_findChains_152 : decode cX9_findChains 152 = .ok (.iaload, 1) := by decide +kernel
theorem dX9_findChains_153 : decode cX9_findChains 153 = .ok (.istore 9, 2) := by decide +kernel
theorem dX9_findChains_155 : decode cX9_findChains 155 = .ok (.iconst 0, 1) := by decide +kernel
theorem dX9_findChains_156 : decode cX9_findChains 156 = .ok (.istore 10, 2) := by decide +kernel
theorem dX9_findChains_158 : decode cX9_findChains 158 = .ok (.iload 10, 2) := by decide +kernel
theorem dX9_findChains_160 : decode cX9_findChains 160 = .ok (.iload 4, 2) := by decide +kernel
theorem dX9_findChains_162 : decode cX9_findChains 162 = .ok (.if_icmp .ge 36, 3) := by decide +kernel
theorem dX9_findChains_165 : decode cX9_findChains 165 = .ok (.iload 7, 2) := by decide +kernel
theorem dX9_findChains_167 : decode cX9_findChains 167 = .ok (.ifCond .eq 31, 3) := by decide +kernel
theorem dX9_findChains_170 : decode cX9_findChains 170 = .ok (.aload_n 1, 1) := by decide +kernel
theorem dX9_findChains_171 : decode cX9_findChains 171 = .ok (.iload 10, 2) := by decide +kernel
theorem dX9_findChains_173 : decode cX9_findChains 173 = .ok (.aload_n 1, 1) := by decide +kernel
theorem dX9_findChains_174 : decode cX9_findChains 174 = .ok (.iload 10, 2) := by decide +kernel
theorem dX9_findChains_176 : decode cX9_findChains 176 = .ok (.iaload, 1) := by decide +kernel
theorem dX9_findChains_177 : decode cX9_findChains 177 = .ok (.iload 9, 2) := by decide +kernel
theorem dX9_findChains_179 : decode cX9_findChains 179 = .ok (.if_icmp .ne 8, 3) := by decide +kernel
theorem dX9_findChains_182 : decode cX9_findChains 182 = .ok (.iload 8, 2) := by decide +kernel
theorem dX9_findChains_184 : decode cX9_findChains 184 = .ok (.goto 7, 3) := by decide +kernel
theorem dX9_findChains_187 : decode cX9_findChains 187 = .ok (.aload_n 1, 1) := by decide +kernel
theorem dX9_findChains_188 : decode cX9_findChains 188 = .ok (.iload 10, 2) := by decide +kernel
theorem dX9_findChains_190 : decode cX9_findChains 190 = .ok (.iaload, 1) := by decide +kernel
theorem dX9_findChains_191 : decode cX9_findChains 191 = .ok (.iastore, 1) := by decide +kernel
theorem dX9_findChains_192 : decode cX9_findChains 192 = .ok (.iinc 10 1, 3) := by decide +kernel
theorem dX9_findChains_195 : decode cX9_findChains 195 = .ok (.goto (-37), 3) := by decide +kernel
theorem dX9_findChains_198 : decode cX9_findChains 198 = .ok (.iinc 6 1, 3) := by decide +kernel
theorem dX9_findChains_201 : decode cX9_findChains 201 = .ok (.goto (-160), 3) := by decide +kernel
theorem dX9_findChains_204 : decode cX9_findChains 204 = .ok (.iinc 5 1, 3) := by decide +kernel
theorem dX9_findChains_207 : decode cX9_findChains 207 = .ok (.goto (-176), 3) := by decide +kernel
theorem dX9_findChains_210 : decode cX9_findChains 210 = .ok (.return_, 1) := by decide +kernel
set_option maxRecDepth 100000 in
set_option maxHeartbeats 40000000 in
theorem gx_X9_findChains_152 {G : vG} {l : Launch} (σ : Sg) (m u : Int32) (hI : Inv σ) : Sp G l yX9_findChains cX9_findChains 11 none 3 0 0 [.ref 140, .ref 152, .int m, .int u] (WW σ) (QV (fun w2 => ∃ σ2, w2 = WW σ2 ∧ Inv σ2)) := by
  refine Sp_of_R [(some (.ref 140)), (some (.ref 152)), (some (.int m)), (some (.int u)), none, none, none, none, none, none, none] [none, none, none, none, none, none, none] rfl (by simp) rfl (Nat.le_of_ble_eq_true rfl) ?_
  refine R_aload_n (pc := 0) dX9_findChains_0 rfl rfl ?_
  refine k_X9_120 (pc := 1) (gx_X9_thereMany _ hI) rfl (c_140 _) (by decide) (Nat.le_refl _) (Nat.le_refl _) (Nat.le_of_ble_eq_true rfl) dX9_findChains_1 (fun y1 w2 h => ?_)
  obtain ⟨rfl, hr2⟩ := h
  refine st_11_4_i_i (pc := 4) dX9_findChains_4 ?_
  refine R_iconst (pc := 6) (v := 0) dX9_findChains_6 (by decide) ?_
  refine st_11_5_i_i (pc := 7) dX9_findChains_7 ?_
  have HL9 : ∀ (q j9 : Nat) (σ9 : Sg), j9 + q = 20 → 0 ≤ j9 → Inv σ9 → R G l yX9_findChains cX9_findChains 11 none 3 0 0 (QV (fun w2 => ∃ σ2, w2 = WW σ2 ∧ Inv σ2)) 9 [(some (.ref 140)), (some (.ref 152)), (some (.int m)), (some (.int u)), (some (.int y1)), (some (.int (nI j9))), none, none, none, none, none] [] (WW σ9) 0 0 := by
    intro q
    induction q with
    | zero =>
      intro j9 σ9 hj hs9 hI9
      obtain rfl : j9 = 20 := by omega
      refine R_iload (pc := 9) dX9_findChains_9 rfl ?_
      refine R_iload (pc := 11) dX9_findChains_11 rfl ?_
      refine R_icge (pc := 13) 28 dX9_findChains_13 (by decide) (fun _ => ?_) (fun h => absurd (Int32.not_lt.mp (inR_up hr2 (Int32.le_refl _) (by decide)).2) h)
      refine R_iconst (pc := 28) (v := 0) dX9_findChains_28 (by decide) ?_
      refine st_11_5_i_i (pc := 29) dX9_findChains_29 ?_
      have HL31 : ∀ (q j31 : Nat) (σ31 : Sg) (g6_31 : Option Value) (g7_31 : Option Value) (g8_31 : Option Value) (g9_31 : Option Value) (g10_31 : Option Value), j31 + q = 20 → 0 ≤ j31 → Inv σ31 → R G l yX9_findChains cX9_findChains 11 none 3 0 0 (QV (fun w2 => ∃ σ2, w2 = WW σ2 ∧ Inv σ2)) 31 [(some (.ref 140)), (some (.ref 152)), (some (.int m)), (some (.int u)), (some (.int y1)), (some (.int (nI j31))), g6_31, g7_31, g8_31, g9_31, g10_31] [] (WW σ31) 0 0 := by
        intro q
        induction q with
        | zero =>
          intro j31 σ31 g6_31 g7_31 g8_31 g9_31 g10_31 hj hs31 hI31
          obtain rfl : j31 = 20 := by omega
          refine R_iload (pc := 31) dX9_findChains_31 rfl ?_
          refine R_iload (pc := 33) dX9_findChains_33 rfl ?_
          refine R_icge (pc := 35) 210 dX9_findChains_35 (by decide) (fun _ => ?_) (fun h => absurd (Int32.not_lt.mp (inR_up hr2 (Int32.le_refl _) (by decide)).2) h)
          exact R_vret (pc := 210) dX9_findChains_210 rfl (Nat.zero_le _) (Nat.zero_le _) ⟨rfl, _, rfl, hI31⟩
        | succ q ih31 =>
          intro j31 σ31 g6_31 g7_31 g8_31 g9_31 g10_31 hj hs31 hI31
          have hr31 : inR (nI j31) 0 19 := inR_ix hs31 (show j31 < 20 by omega) (by decide) (by decide) (by decide)
          have hlt31 : j31 < 20 := by omega
          refine R_iload (pc := 31) dX9_findChains_31 rfl ?_
          refine R_iload (pc := 33) dX9_findChains_33 rfl ?_
          refine R_icge (pc := 35) 210 dX9_findChains_35 (by decide) (fun b35_5 => ?_) (fun b35_5 => ?_)
          · skip
            exact R_vret (pc := 210) dX9_findChains_210 rfl (Nat.zero_le _) (Nat.zero_le _) ⟨rfl, _, rfl, hI31⟩
          · skip
            refine R_iconst (pc := 38) (v := 0) dX9_findChains_38 (by decide) ?_
            refine st_11_6_i_i (pc := 39) dX9_findChains_39 ?_
            have HL41 : ∀ (q j41 : Nat) (σ41 : Sg) (g7_41 : Option Value) (g8_41 : Option Value) (g9_41 : Option Value) (g10_41 : Option Value), j41 + q = 20 → 0 ≤ j41 → Inv σ41 → R G l yX9_findChains cX9_findChains 11 none 3 0 0 (QV (fun w2 => ∃ σ2, w2 = WW σ2 ∧ Inv σ2)) 41 [(some (.ref 140)), (some (.ref 152)), (some (.int m)), (some (.int u)), (some (.int y1)), (some (.int (nI j31))), (some (.int (nI j41))), g7_41, g8_41, g9_41, g10_41] [] (WW σ41) 0 0 := by
              intro q
              induction q with
              | zero =>
                intro j41 σ41 g7_41 g8_41 g9_41 g10_41 hj hs41 hI41
                obtain rfl : j41 = 20 := by omega
                refine R_iload (pc := 41) dX9_findChains_41 rfl ?_
                refine R_iload (pc := 43) dX9_findChains_43 rfl ?_
                refine R_icge (pc := 45) 204 dX9_findChains_45 (by decide) (fun _ => ?_) (fun h => absurd (Int32.not_lt.mp (inR_up hr31 (Int32.le_refl _) (by decide)).2) h)
                refine inc_11_5_1_i (pc := 204) dX9_findChains_204 ?_
                have r7 : inR ((nI j31) + 1) 1 20 := inR_add (show inR (nI j31) 0 19 from hr31) (show inR 1 1 1 from (inR_self _)) (by decide) (by decide)
                have e8 := ti_add (l := 1) (h := 20) (show inR (nI j31) 0 19 from hr31) (show inR 1 1 1 from (inR_self _)) (by decide) (by decide)
                refine R_goto (pc := 207) 31 dX9_findChains_207 (by decide) ?_
                rw [nI_1]
                exact ih31 (j31 + 1) _ _ _ _ _ _ (by omega) (by omega) hI41
              | succ q ih41 =>
                intro j41 σ41 g7_41 g8_41 g9_41 g10_41 hj hs41 hI41
                have hr41 : inR (nI j41) 0 19 := inR_ix hs41 (show j41 < 20 by omega) (by decide) (by decide) (by decide)
                have hlt41 : j41 < 20 := by omega
                refine R_iload (pc := 41) dX9_findChains_41 rfl ?_
                refine R_iload (pc := 43) dX9_findChains_43 rfl ?_
                refine R_icge (pc := 45) 204 dX9_findChains_45 (by decide) (fun b45_9 => ?_) (fun b45_9 => ?_)
                · skip
                  refine inc_11_5_1_i (pc := 204) dX9_findChains_204 ?_
                  have r10 : inR ((nI j31) + 1) 1 20 := inR_add (show inR (nI j31) 0 19 from hr31) (show inR 1 1 1 from (inR_self _)) (by decide) (by decide)
                  have e11 := ti_add (l := 1) (h := 20) (show inR (nI j31) 0 19 from hr31) (show inR 1 1 1 from (inR_self _)) (by decide) (by decide)
                  refine R_goto (pc := 207) 31 dX9_findChains_207 (by decide) ?_
                  rw [nI_1]
                  exact ih31 (j31 + 1) _ _ _ _ _ _ (by omega) (by omega) hI41
                · skip
                  refine R_iload (pc := 48) dX9_findChains_48 rfl ?_
                  refine R_iload_n (pc := 50) dX9_findChains_50 rfl rfl ?_
                  refine R_iceq (pc := 51) 104 dX9_findChains_51 (by decide) (fun b51_12 => ?_) (fun b51_12 => ?_)
                  · skip
                    refine R_iconst (pc := 104) (v := 0) dX9_findChains_104 (by decide) ?_
                    refine st_11_7_i_i (pc := 105) dX9_findChains_105 ?_
                    refine R_aload_n (pc := 107) dX9_findChains_107 rfl rfl ?_
                    refine R_iload (pc := 108) dX9_findChains_108 rfl ?_
                    have hx13 : vp_in (nI j31) 20 := (vp_in_nI (by omega) (by decide))
                    refine R_iaload (pc := 110) dX9_findChains_110 (c_152 _) hx13 ?_
                    refine R_aload_n (pc := 111) dX9_findChains_111 rfl rfl ?_
                    refine R_iload (pc := 112) dX9_findChains_112 rfl ?_
                    have hx14 : vp_in (nI j41) 20 := (vp_in_nI (by omega) (by decide))
                    refine R_iaload (pc := 114) dX9_findChains_114 (c_152 _) hx14 ?_
                    refine R_icge (pc := 115) 125 dX9_findChains_115 (by decide) (fun b115_15 => ?_) (fun b115_15 => ?_)
                    · skip
                      refine R_aload_n (pc := 125) dX9_findChains_125 rfl rfl ?_
                      refine R_iload (pc := 126) dX9_findChains_126 rfl ?_
                      have hx16 : vp_in (nI j41) 20 := (vp_in_nI (by omega) (by decide))
                      refine R_iaload (pc := 128) dX9_findChains_128 (c_152 _) hx16 ?_
                      refine st_11_8_i_i (pc := 129) dX9_findChains_129 ?_
                      refine R_aload_n (pc := 131) dX9_findChains_131 rfl rfl ?_
                      refine R_iload (pc := 132) dX9_findChains_132 rfl ?_
                      have hx17 : vp_in (nI j31) 20 := (vp_in_nI (by omega) (by decide))
                      refine R_iaload (pc := 134) dX9_findChains_134 (c_152 _) hx17 ?_
                      refine R_aload_n (pc := 135) dX9_findChains_135 rfl rfl ?_
                      refine R_iload (pc := 136) dX9_findChains_136 rfl ?_
                      have hx18 : vp_in (nI j41) 20 := (vp_in_nI (by omega) (by decide))
                      refine R_iaload (pc := 138) dX9_findChains_138 (c_152 _) hx18 ?_
                      refine R_icge (pc := 139) 149 dX9_findChains_139 (by decide) (fun b139_19 => ?_) (fun b139_19 => ?_)
                      · skip
                        refine R_aload_n (pc := 149) dX9_findChains_149 rfl rfl ?_
                        refine R_iload (pc := 150) dX9_findChains_150 rfl ?_
                        have hx20 : vp_in (nI j31) 20 := (vp_in_nI (by omega) (by decide))
                        refine R_iaload (pc := 152) dX9_findChains_152 (c_152 _) hx20 ?_
                        refine st_11_9_i_i (pc := 153) dX9_findChains_153 ?_
                        refine R_iconst (pc := 155) (v := 0) dX9_findChains_155 (by decide) ?_
                        refine st_11_10_i_i (pc := 156) dX9_findChains_156 ?_
                        have HL158 : ∀ (q j158 : Nat) (σ158 : Sg), j158 + q = 20 → 0 ≤ j158 → Inv σ158 → R G l yX9_findChains cX9_findChains 11 none 3 0 0 (QV (fun w2 => ∃ σ2, w2 = WW σ2 ∧ Inv σ2)) 158 [(some (.ref 140)), (some (.ref 152)), (some (.int m)), (some (.int u)), (some (.int y1)), (some (.int (nI j31))), (some (.int (nI j41))), (some (.int 0)), (some (.int (σ41.2.2.1 152 (Int32.toNatClampNeg (nI j41))))), (some (.int (σ41.2.2.1 152 (Int32.toNatClampNeg (nI j31))))), (some (.int (nI j158)))] [] (WW σ158) 0 0 := by
                          intro q
                          induction q with
                          | zero =>
                            intro j158 σ158 hj hs158 hI158
                            obtain rfl : j158 = 20 := by omega
                            refine R_iload (pc := 158) dX9_findChains_158 rfl ?_
                            refine R_iload (pc := 160) dX9_findChains_160 rfl ?_
                            refine R_icge (pc := 162) 198 dX9_findChains_162 (by decide) (fun _ => ?_) (fun h => absurd (Int32.not_lt.mp (inR_up hr2 (Int32.le_refl _) (by decide)).2) h)
                            refine inc_11_6_1_i (pc := 198) dX9_findChains_198 ?_
                            have r22 : inR ((nI j41) + 1) 1 20 := inR_add (show inR (nI j41) 0 19 from hr41) (show inR 1 1 1 from (inR_self _)) (by decide) (by decide)
                            have e23 := ti_add (l := 1) (h := 20) (show inR (nI j41) 0 19 from hr41) (show inR 1 1 1 from (inR_self _)) (by decide) (by decide)
                            refine R_goto (pc := 201) 41 dX9_findChains_201 (by decide) ?_
                            rw [nI_1]
                            exact ih41 (j41 + 1) _ _ _ _ _ (by omega) (by omega) hI158
                          | succ q ih158 =>
                            intro j158 σ158 hj hs158 hI158
                            have hr158 : inR (nI j158) 0 19 := inR_ix hs158 (show j158 < 20 by omega) (by decide) (by decide) (by decide)
                            have hlt158 : j158 < 20 := by omega
                            refine R_iload (pc := 158) dX9_findChains_158 rfl ?_
                            refine R_iload (pc := 160) dX9_findChains_160 rfl ?_
                            refine R_icge (pc := 162) 198 dX9_findChains_162 (by decide) (fun b162_24 => ?_) (fun b162_24 => ?_)
                            · skip
                              refine inc_11_6_1_i (pc := 198) dX9_findChains_198 ?_
                              have r25 : inR ((nI j41) + 1) 1 20 := inR_add (show inR (nI j41) 0 19 from hr41) (show inR 1 1 1 from (inR_self _)) (by decide) (by decide)
                              have e26 := ti_add (l := 1) (h := 20) (show inR (nI j41) 0 19 from hr41) (show inR 1 1 1 from (inR_self _)) (by decide) (by decide)
                              refine R_goto (pc := 201) 41 dX9_findChains_201 (by decide) ?_
                              rw [nI_1]
                              exact ih41 (j41 + 1) _ _ _ _ _ (by omega) (by omega) hI158
                            · skip
                              refine R_iload (pc := 165) dX9_findChains_165 rfl ?_
                              refine R_ifeq (pc := 167) 198 dX9_findChains_167 (by decide) (fun _ => ?_) (fun h => absurd (by decide) h)
                              refine inc_11_6_1_i (pc := 198) dX9_findChains_198 ?_
                              have r28 : inR ((nI j41) + 1) 1 20 := inR_add (show inR (nI j41) 0 19 from hr41) (show inR 1 1 1 from (inR_self _)) (by decide) (by decide)
                              have e29 := ti_add (l := 1) (h := 20) (show inR (nI j41) 0 19 from hr41) (show inR 1 1 1 from (inR_self _)) (by decide) (by decide)
                              refine R_goto (pc := 201) 41 dX9_findChains_201 (by decide) ?_
                              rw [nI_1]
                              exact ih41 (j41 + 1) _ _ _ _ _ (by omega) (by omega) hI158
                        exact HL158 20 0 _ (by omega) (by omega) hI41
                      · skip
                        refine R_aload_n (pc := 142) dX9_findChains_142 rfl rfl ?_
                        refine R_iload (pc := 143) dX9_findChains_143 rfl ?_
                        have hx30 : vp_in (nI j41) 20 := (vp_in_nI (by omega) (by decide))
                        refine R_iaload (pc := 145) dX9_findChains_145 (c_152 _) hx30 ?_
                        refine R_goto (pc := 146) 153 dX9_findChains_146 (by decide) ?_
                        refine st_11_9_i_i (pc := 153) dX9_findChains_153 ?_
                        refine R_iconst (pc := 155) (v := 0) dX9_findChains_155 (by decide) ?_
                        refine st_11_10_i_i (pc := 156) dX9_findChains_156 ?_
                        have HL158 : ∀ (q j158 : Nat) (σ158 : Sg), j158 + q = 20 → 0 ≤ j158 → Inv σ158 → R G l yX9_findChains cX9_findChains 11 none 3 0 0 (QV (fun w2 => ∃ σ2, w2 = WW σ2 ∧ Inv σ2)) 158 [(some (.ref 140)), (some (.ref 152)), (some (.int m)), (some (.int u)), (some (.int y1)), (some (.int (nI j31))), (some (.int (nI j41))), (some (.int 0)), (some (.int (σ41.2.2.1 152 (Int32.toNatClampNeg (nI j41))))), (some (.int (σ41.2.2.1 152 (Int32.toNatClampNeg (nI j41))))), (some (.int (nI j158)))] [] (WW σ158) 0 0 := by
                          intro q
                          induction q with
                          | zero =>
                            intro j158 σ158 hj hs158 hI158
                            obtain rfl : j158 = 20 := by omega
                            refine R_iload (pc := 158) dX9_findChains_158 rfl ?_
                            refine R_iload (pc := 160) dX9_findChains_160 rfl ?_
                            refine R_icge (pc := 162) 198 dX9_findChains_162 (by decide) (fun _ => ?_) (fun h => absurd (Int32.not_lt.mp (inR_up hr2 (Int32.le_refl _) (by decide)).2) h)
                            refine inc_11_6_1_i (pc := 198) dX9_findChains_198 ?_
                            have r32 : inR ((nI j41) + 1) 1 20 := inR_add (show inR (nI j41) 0 19 from hr41) (show inR 1 1 1 from (inR_self _)) (by decide) (by decide)
                            have e33 := ti_add (l := 1) (h := 20) (show inR (nI j41) 0 19 from hr41) (show inR 1 1 1 from (inR_self _)) (by decide) (by decide)
                            refine R_goto (pc := 201) 41 dX9_findChains_201 (by decide) ?_
                            rw [nI_1]
                            exact ih41 (j41 + 1) _ _ _ _ _ (by omega) (by omega) hI158
                          | succ q ih158 =>
                            intro j158 σ158 hj hs158 hI158
                            have hr158 : inR (nI j158) 0 19 := inR_ix hs158 (show j158 < 20 by omega) (by decide) (by decide) (by decide)
                            have hlt158 : j158 < 20 := by omega
                            refine R_iload (pc := 158) dX9_findChains_158 rfl ?_
                            refine R_iload (pc := 160) dX9_findChains_160 rfl ?_
                            refine R_icge (pc := 162) 198 dX9_findChains_162 (by decide) (fun b162_34 => ?_) (fun b162_34 => ?_)
                            · skip
                              refine inc_11_6_1_i (pc := 198) dX9_findChains_198 ?_
                              have r35 : inR ((nI j41) + 1) 1 20 := inR_add (show inR (nI j41) 0 19 from hr41) (show inR 1 1 1 from (inR_self _)) (by decide) (by decide)
                              have e36 := ti_add (l := 1) (h := 20) (show inR (nI j41) 0 19 from hr41) (show inR 1 1 1 from (inR_self _)) (by decide) (by decide)
                              refine R_goto (pc := 201) 41 dX9_findChains_201 (by decide) ?_
                              rw [nI_1]
                              exact ih41 (j41 + 1) _ _ _ _ _ (by omega) (by omega) hI158
                            · skip
                              refine R_iload (pc := 165) dX9_findChains_165 rfl ?_
                              refine R_ifeq (pc := 167) 198 dX9_findChains_167 (by decide) (fun _ => ?_) (fun h => absurd (by decide) h)
                              refine inc_11_6_1_i (pc := 198) dX9_findChains_198 ?_
                              have r38 : inR ((nI j41) + 1) 1 20 := inR_add (show inR (nI j41) 0 19 from hr41) (show inR 1 1 1 from (inR_self _)) (by decide) (by decide)
                              have e39 := ti_add (l := 1) (h := 20) (show inR (nI j41) 0 19 from hr41) (show inR 1 1 1 from (inR_self _)) (by decide) (by decide)
                              refine R_goto (pc := 201) 41 dX9_findChains_201 (by decide) ?_
                              rw [nI_1]
                              exact ih41 (j41 + 1) _ _ _ _ _ (by omega) (by omega) hI158
                        exact HL158 20 0 _ (by omega) (by omega) hI41
                    · skip
                      refine R_aload_n (pc := 118) dX9_findChains_118 rfl rfl ?_
                      refine R_iload (pc := 119) dX9_findChains_119 rfl ?_
                      have hx40 : vp_in (nI j31) 20 := (vp_in_nI (by omega) (by decide))
                      refine R_iaload (pc := 121) dX9_findChains_121 (c_152 _) hx40 ?_
                      refine R_goto (pc := 122) 129 dX9_findChains_122 (by decide) ?_
                      refine st_11_8_i_i (pc := 129) dX9_findChains_129 ?_
                      refine R_aload_n (pc := 131) dX9_findChains_131 rfl rfl ?_
                      refine R_iload (pc := 132) dX9_findChains_132 rfl ?_
                      have hx41 : vp_in (nI j31) 20 := (vp_in_nI (by omega) (by decide))
                      refine R_iaload (pc := 134) dX9_findChains_134 (c_152 _) hx41 ?_
                      refine R_aload_n (pc := 135) dX9_findChains_135 rfl rfl ?_
                      refine R_iload (pc := 136) dX9_findChains_136 rfl ?_
                      have hx42 : vp_in (nI j41) 20 := (vp_in_nI (by omega) (by decide))
                      refine R_iaload (pc := 138) dX9_findChains_138 (c_152 _) hx42 ?_
                      refine R_icge (pc := 139) 149 dX9_findChains_139 (by decide) (fun b139_43 => ?_) (fun b139_43 => ?_)
                      · skip
                        refine R_aload_n (pc := 149) dX9_findChains_149 rfl rfl ?_
                        refine R_iload (pc := 150) dX9_findChains_150 rfl ?_
                        have hx44 : vp_in (nI j31) 20 := (vp_in_nI (by omega) (by decide))
                        refine R_iaload (pc := 152) dX9_findChains_152 (c_152 _) hx44 ?_
                        refine st_11_9_i_i (pc := 153) dX9_findChains_153 ?_
                        refine R_iconst (pc := 155) (v := 0) dX9_findChains_155 (by decide) ?_
                        refine st_11_10_i_i (pc := 156) dX9_findChains_156 ?_
                        have HL158 : ∀ (q j158 : Nat) (σ158 : Sg), j158 + q = 20 → 0 ≤ j158 → Inv σ158 → R G l yX9_findChains cX9_findChains 11 none 3 0 0 (QV (fun w2 => ∃ σ2, w2 = WW σ2 ∧ Inv σ2)) 158 [(some (.ref 140)), (some (.ref 152)), (some (.int m)), (some (.int u)), (some (.int y1)), (some (.int (nI j31))), (some (.int (nI j41))), (some (.int 0)), (some (.int (σ41.2.2.1 152 (Int32.toNatClampNeg (nI j31))))), (some (.int (σ41.2.2.1 152 (Int32.toNatClampNeg (nI j31))))), (some (.int (nI j158)))] [] (WW σ158) 0 0 := by
                          intro q
                          induction q with
                          | zero =>
                            intro j158 σ158 hj hs158 hI158
                            obtain rfl : j158 = 20 := by omega
                            refine R_iload (pc := 158) dX9_findChains_158 rfl ?_
                            refine R_iload (pc := 160) dX9_findChains_160 rfl ?_
                            refine R_icge (pc := 162) 198 dX9_findChains_162 (by decide) (fun _ => ?_) (fun h => absurd (Int32.not_lt.mp (inR_up hr2 (Int32.le_refl _) (by decide)).2) h)
                            refine inc_11_6_1_i (pc := 198) dX9_findChains_198 ?_
                            have r46 : inR ((nI j41) + 1) 1 20 := inR_add (show inR (nI j41) 0 19 from hr41) (show inR 1 1 1 from (inR_self _)) (by decide) (by decide)
                            have e47 := ti_add (l := 1) (h := 20) (show inR (nI j41) 0 19 from hr41) (show inR 1 1 1 from (inR_self _)) (by decide) (by decide)
                            refine R_goto (pc := 201) 41 dX9_findChains_201 (by decide) ?_
                            rw [nI_1]
                            exact ih41 (j41 + 1) _ _ _ _ _ (by omega) (by omega) hI158
                          | succ q ih158 =>
                            intro j158 σ158 hj hs158 hI158
                            have hr158 : inR (nI j158) 0 19 := inR_ix hs158 (show j158 < 20 by omega) (by decide) (by decide) (by decide)
                            have hlt158 : j158 < 20 := by omega
                            refine R_iload (pc := 158) dX9_findChains_158 rfl ?_
                            refine R_iload (pc := 160) dX9_findChains_160 rfl ?_
                            refine R_icge (pc := 162) 198 dX9_findChains_162 (by decide) (fun b162_48 => ?_) (fun b162_48 => ?_)
                            · skip
                              refine inc_11_6_1_i (pc := 198) dX9_findChains_198 ?_
                              have r49 : inR ((nI j41) + 1) 1 20 := inR_add (show inR (nI j41) 0 19 from hr41) (show inR 1 1 1 from (inR_self _)) (by decide) (by decide)
                              have e50 := ti_add (l := 1) (h := 20) (show inR (nI j41) 0 19 from hr41) (show inR 1 1 1 from (inR_self _)) (by decide) (by decide)
                              refine R_goto (pc := 201) 41 dX9_findChains_201 (by decide) ?_
                              rw [nI_1]
                              exact ih41 (j41 + 1) _ _ _ _ _ (by omega) (by omega) hI158
                            · skip
                              refine R_iload (pc := 165) dX9_findChains_165 rfl ?_
                              refine R_ifeq (pc := 167) 198 dX9_findChains_167 (by decide) (fun _ => ?_) (fun h => absurd (by decide) h)
                              refine inc_11_6_1_i (pc := 198) dX9_findChains_198 ?_
                              have r52 : inR ((nI j41) + 1) 1 20 := inR_add (show inR (nI j41) 0 19 from hr41) (show inR 1 1 1 from (inR_self _)) (by decide) (by decide)
                              have e53 := ti_add (l := 1) (h := 20) (show inR (nI j41) 0 19 from hr41) (show inR 1 1 1 from (inR_self _)) (by decide) (by decide)
                              refine R_goto (pc := 201) 41 dX9_findChains_201 (by decide) ?_
                              rw [nI_1]
                              exact ih41 (j41 + 1) _ _ _ _ _ (by omega) (by omega) hI158
                        exact HL158 20 0 _ (by omega) (by omega) hI41
                      · skip
                        refine R_aload_n (pc := 142) dX9_findChains_142 rfl rfl ?_
                        refine R_iload (pc := 143) dX9_findChains_143 rfl ?_
                        have hx54 : vp_in (nI j41) 20 := (vp_in_nI (by omega) (by decide))
                        refine R_iaload (pc := 145) dX9_findChains_145 (c_152 _) hx54 ?_
                        refine R_goto (pc := 146) 153 dX9_findChains_146 (by decide) ?_
                        refine st_11_9_i_i (pc := 153) dX9_findChains_153 ?_
                        refine R_iconst (pc := 155) (v := 0) dX9_findChains_155 (by decide) ?_
                        refine st_11_10_i_i (pc := 156) dX9_findChains_156 ?_
                        have HL158 : ∀ (q j158 : Nat) (σ158 : Sg), j158 + q = 20 → 0 ≤ j158 → Inv σ158 → R G l yX9_findChains cX9_findChains 11 none 3 0 0 (QV (fun w2 => ∃ σ2, w2 = WW σ2 ∧ Inv σ2)) 158 [(some (.ref 140)), (some (.ref 152)), (some (.int m)), (some (.int u)), (some (.int y1)), (some (.int (nI j31))), (some (.int (nI j41))), (some (.int 0)), (some (.int (σ41.2.2.1 152 (Int32.toNatClampNeg (nI j31))))), (some (.int (σ41.2.2.1 152 (Int32.toNatClampNeg (nI j41))))), (some (.int (nI j158)))] [] (WW σ158) 0 0 := by
                          intro q
                          induction q with
                          | zero =>
                            intro j158 σ158 hj hs158 hI158
                            obtain rfl : j158 = 20 := by omega
                            refine R_iload (pc := 158) dX9_findChains_158 rfl ?_
                            refine R_iload (pc := 160) dX9_findChains_160 rfl ?_
                            refine R_icge (pc := 162) 198 dX9_findChains_162 (by decide) (fun _ => ?_) (fun h => absurd (Int32.not_lt.mp (inR_up hr2 (Int32.le_refl _) (by decide)).2) h)
                            refine inc_11_6_1_i (pc := 198) dX9_findChains_198 ?_
                            have r56 : inR ((nI j41) + 1) 1 20 := inR_add (show inR (nI j41) 0 19 from hr41) (show inR 1 1 1 from (inR_self _)) (by decide) (by decide)
                            have e57 := ti_add (l := 1) (h := 20) (show inR (nI j41) 0 19 from hr41) (show inR 1 1 1 from (inR_self _)) (by decide) (by decide)
                            refine R_goto (pc := 201) 41 dX9_findChains_201 (by decide) ?_
                            rw [nI_1]
                            exact ih41 (j41 + 1) _ _ _ _ _ (by omega) (by omega) hI158
                          | succ q ih158 =>
                            intro j158 σ158 hj hs158 hI158
                            have hr158 : inR (nI j158) 0 19 := inR_ix hs158 (show j158 < 20 by omega) (by decide) (by decide) (by decide)
                            have hlt158 : j158 < 20 := by omega
                            refine R_iload (pc := 158) dX9_findChains_158 rfl ?_
                            refine R_iload (pc := 160) dX9_findChains_160 rfl ?_
                            refine R_icge (pc := 162) 198 dX9_findChains_162 (by decide) (fun b162_58 => ?_) (fun b162_58 => ?_)
                            · skip
                              refine inc_11_6_1_i (pc := 198) dX9_findChains_198 ?_
                              have r59 : inR ((nI j41) + 1) 1 20 := inR_add (show inR (nI j41) 0 19 from hr41) (show inR 1 1 1 from (inR_self _)) (by decide) (by decide)
                              have e60 := ti_add (l := 1) (h := 20) (show inR (nI j41) 0 19 from hr41) (show inR 1 1 1 from (inR_self _)) (by decide) (by decide)
                              refine R_goto (pc := 201) 41 dX9_findChains_201 (by decide) ?_
                              rw [nI_1]
                              exact ih41 (j41 + 1) _ _ _ _ _ (by omega) (by omega) hI158
                            · skip
                              refine R_iload (pc := 165) dX9_findChains_165 rfl ?_
                              refine R_ifeq (pc := 167) 198 dX9_findChains_167 (by decide) (fun _ => ?_) (fun h => absurd (by decide) h)
                              refine inc_11_6_1_i (pc := 198) dX9_findChains_198 ?_
                              have r62 : inR ((nI j41) + 1) 1 20 := inR_add (show inR (nI j41) 0 19 from hr41) (show inR 1 1 1 from (inR_self _)) (by decide) (by decide)
                              have e63 := ti_add (l := 1) (h := 20) (show inR (nI j41) 0 19 from hr41) (show inR 1 1 1 from (inR_self _)) (by decide) (by decide)
                              refine R_goto (pc := 201) 41 dX9_findChains_201 (by decide) ?_
                              rw [nI_1]
                              exact ih41 (j41 + 1) _ _ _ _ _ (by omega) (by omega) hI158
                        exact HL158 20 0 _ (by omega) (by omega) hI41
                  · skip
                    refine R_iload (pc := 54) dX9_findChains_54 rfl ?_
                    refine R_iload_n (pc := 56) dX9_findChains_56 rfl rfl ?_
                    refine R_iceq (pc := 57) 104 dX9_findChains_57 (by decide) (fun b57_64 => ?_) (fun b57_64 => ?_)
                    · skip
                      refine R_iconst (pc := 104) (v := 0) dX9_findChains_104 (by decide) ?_
                      refine st_11_7_i_i (pc := 105) dX9_findChains_105 ?_
                      refine R_aload_n (pc := 107) dX9_findChains_107 rfl rfl ?_
                      refine R_iload (pc := 108) dX9_findChains_108 rfl ?_
                      have hx65 : vp_in (nI j31) 20 := (vp_in_nI (by omega) (by decide))
                      refine R_iaload (pc := 110) dX9_findChains_110 (c_152 _) hx65 ?_
                      refine R_aload_n (pc := 111) dX9_findChains_111 rfl rfl ?_
                      refine R_iload (pc := 112) dX9_findChains_112 rfl ?_
                      have hx66 : vp_in (nI j41) 20 := (vp_in_nI (by omega) (by decide))
                      refine R_iaload (pc := 114) dX9_findChains_114 (c_152 _) hx66 ?_
                      refine R_icge (pc := 115) 125 dX9_findChains_115 (by decide) (fun b115_67 => ?_) (fun b115_67 => ?_)
                      · skip
                        refine R_aload_n (pc := 125) dX9_findChains_125 rfl rfl ?_
                        refine R_iload (pc := 126) dX9_findChains_126 rfl ?_
                        have hx68 : vp_in (nI j41) 20 := (vp_in_nI (by omega) (by decide))
                        refine R_iaload (pc := 128) dX9_findChains_128 (c_152 _) hx68 ?_
                        refine st_11_8_i_i (pc := 129) dX9_findChains_129 ?_
                        refine R_aload_n (pc := 131) dX9_findChains_131 rfl rfl ?_
                        refine R_iload (pc := 132) dX9_findChains_132 rfl ?_
                        have hx69 : vp_in (nI j31) 20 := (vp_in_nI (by omega) (by decide))
                        refine R_iaload (pc := 134) dX9_findChains_134 (c_152 _) hx69 ?_
                        refine R_aload_n (pc := 135) dX9_findChains_135 rfl rfl ?_
                        refine R_iload (pc := 136) dX9_findChains_136 rfl ?_
                        have hx70 : vp_in (nI j41) 20 := (vp_in_nI (by omega) (by decide))
                        refine R_iaload (pc := 138) dX9_findChains_138 (c_152 _) hx70 ?_
                        refine R_icge (pc := 139) 149 dX9_findChains_139 (by decide) (fun b139_71 => ?_) (fun b139_71 => ?_)
                        · skip
                          refine R_aload_n (pc := 149) dX9_findChains_149 rfl rfl ?_
                          refine R_iload (pc := 150) dX9_findChains_150 rfl ?_
                          have hx72 : vp_in (nI j31) 20 := (vp_in_nI (by omega) (by decide))
                          refine R_iaload (pc := 152) dX9_findChains_152 (c_152 _) hx72 ?_
                          refine st_11_9_i_i (pc := 153) dX9_findChains_153 ?_
                          refine R_iconst (pc := 155) (v := 0) dX9_findChains_155 (by decide) ?_
                          refine st_11_10_i_i (pc := 156) dX9_findChains_156 ?_
                          have HL158 : ∀ (q j158 : Nat) (σ158 : Sg), j158 + q = 20 → 0 ≤ j158 → Inv σ158 → R G l yX9_findChains cX9_findChains 11 none 3 0 0 (QV (fun w2 => ∃ σ2, w2 = WW σ2 ∧ Inv σ2)) 158 [(some (.ref 140)), (some (.ref 152)), (some (.int m)), (some (.int u)), (some (.int y1)), (some (.int (nI j31))), (some (.int (nI j41))), (some (.int 0)), (some (.int (σ41.2.2.1 152 (Int32.toNatClampNeg (nI j41))))), (some (.int (σ41.2.2.1 152 (Int32.toNatClampNeg (nI j31))))), (some (.int (nI j158)))] [] (WW σ158) 0 0 := by
                            intro q
                            induction q with
                            | zero =>
                              intro j158 σ158 hj hs158 hI158
                              obtain rfl : j158 = 20 := by omega
                              refine R_iload (pc := 158) dX9_findChains_158 rfl ?_
                              refine R_iload (pc := 160) dX9_findChains_160 rfl ?_
                              refine R_icge (pc := 162) 198 dX9_findChains_162 (by decide) (fun _ => ?_) (fun h => absurd (Int32.not_lt.mp (inR_up hr2 (Int32.le_refl _) (by decide)).2) h)
                              refine inc_11_6_1_i (pc := 198) dX9_findChains_198 ?_
                              have r74 : inR ((nI j41) + 1) 1 20 := inR_add (show inR (nI j41) 0 19 from hr41) (show inR 1 1 1 from (inR_self _)) (by decide) (by decide)
                              have e75 := ti_add (l := 1) (h := 20) (show inR (nI j41) 0 19 from hr41) (show inR 1 1 1 from (inR_self _)) (by decide) (by decide)
                              refine R_goto (pc := 201) 41 dX9_findChains_201 (by decide) ?_
                              rw [nI_1]
                              exact ih41 (j41 + 1) _ _ _ _ _ (by omega) (by omega) hI158
                            | succ q ih158 =>
                              intro j158 σ158 hj hs158 hI158
                              have hr158 : inR (nI j158) 0 19 := inR_ix hs158 (show j158 < 20 by omega) (by decide) (by decide) (by decide)
                              have hlt158 : j158 < 20 := by omega
                              refine R_iload (pc := 158) dX9_findChains_158 rfl ?_
                              refine R_iload (pc := 160) dX9_findChains_160 rfl ?_
                              refine R_icge (pc := 162) 198 dX9_findChains_162 (by decide) (fun b162_76 => ?_) (fun b162_76 => ?_)
                              · skip
                                refine inc_11_6_1_i (pc := 198) dX9_findChains_198 ?_
                                have r77 : inR ((nI j41) + 1) 1 20 := inR_add (show inR (nI j41) 0 19 from hr41) (show inR 1 1 1 from (inR_self _)) (by decide) (by decide)
                                have e78 := ti_add (l := 1) (h := 20) (show inR (nI j41) 0 19 from hr41) (show inR 1 1 1 from (inR_self _)) (by decide) (by decide)
                                refine R_goto (pc := 201) 41 dX9_findChains_201 (by decide) ?_
                                rw [nI_1]
                                exact ih41 (j41 + 1) _ _ _ _ _ (by omega) (by omega) hI158
                              · skip
                                refine R_iload (pc := 165) dX9_findChains_165 rfl ?_
                                refine R_ifeq (pc := 167) 198 dX9_findChains_167 (by decide) (fun _ => ?_) (fun h => absurd (by decide) h)
                                refine inc_11_6_1_i (pc := 198) dX9_findChains_198 ?_
                                have r80 : inR ((nI j41) + 1) 1 20 := inR_add (show inR (nI j41) 0 19 from hr41) (show inR 1 1 1 from (inR_self _)) (by decide) (by decide)
                                have e81 := ti_add (l := 1) (h := 20) (show inR (nI j41) 0 19 from hr41) (show inR 1 1 1 from (inR_self _)) (by decide) (by decide)
                                refine R_goto (pc := 201) 41 dX9_findChains_201 (by decide) ?_
                                rw [nI_1]
                                exact ih41 (j41 + 1) _ _ _ _ _ (by omega) (by omega) hI158
                          exact HL158 20 0 _ (by omega) (by omega) hI41
                        · skip
                          refine R_aload_n (pc := 142) dX9_findChains_142 rfl rfl ?_
                          refine R_iload (pc := 143) dX9_findChains_143 rfl ?_
                          have hx82 : vp_in (nI j41) 20 := (vp_in_nI (by omega) (by decide))
                          refine R_iaload (pc := 145) dX9_findChains_145 (c_152 _) hx82 ?_
                          refine R_goto (pc := 146) 153 dX9_findChains_146 (by decide) ?_
                          refine st_11_9_i_i (pc := 153) dX9_findChains_153 ?_
                          refine R_iconst (pc := 155) (v := 0) dX9_findChains_155 (by decide) ?_
                          refine st_11_10_i_i (pc := 156) dX9_findChains_156 ?_
                          have HL158 : ∀ (q j158 : Nat) (σ158 : Sg), j158 + q = 20 → 0 ≤ j158 → Inv σ158 → R G l yX9_findChains cX9_findChains 11 none 3 0 0 (QV (fun w2 => ∃ σ2, w2 = WW σ2 ∧ Inv σ2)) 158 [(some (.ref 140)), (some (.ref 152)), (some (.int m)), (some (.int u)), (some (.int y1)), (some (.int (nI j31))), (some (.int (nI j41))), (some (.int 0)), (some (.int (σ41.2.2.1 152 (Int32.toNatClampNeg (nI j41))))), (some (.int (σ41.2.2.1 152 (Int32.toNatClampNeg (nI j41))))), (some (.int (nI j158)))] [] (WW σ158) 0 0 := by
                            intro q
                            induction q with
                            | zero =>
                              intro j158 σ158 hj hs158 hI158
                              obtain rfl : j158 = 20 := by omega
                              refine R_iload (pc := 158) dX9_findChains_158 rfl ?_
                              refine R_iload (pc := 160) dX9_findChains_160 rfl ?_
                              refine R_icge (pc := 162) 198 dX9_findChains_162 (by decide) (fun _ => ?_) (fun h => absurd (Int32.not_lt.mp (inR_up hr2 (Int32.le_refl _) (by decide)).2) h)
                              refine inc_11_6_1_i (pc := 198) dX9_findChains_198 ?_
                              have r84 : inR ((nI j41) + 1) 1 20 := inR_add (show inR (nI j41) 0 19 from hr41) (show inR 1 1 1 from (inR_self _)) (by decide) (by decide)
                              have e85 := ti_add (l := 1) (h := 20) (show inR (nI j41) 0 19 from hr41) (show inR 1 1 1 from (inR_self _)) (by decide) (by decide)
                              refine R_goto (pc := 201) 41 dX9_findChains_201 (by decide) ?_
                              rw [nI_1]
                              exact ih41 (j41 + 1) _ _ _ _ _ (by omega) (by omega) hI158
                            | succ q ih158 =>
                              intro j158 σ158 hj hs158 hI158
                              have hr158 : inR (nI j158) 0 19 := inR_ix hs158 (show j158 < 20 by omega) (by decide) (by decide) (by decide)
                              have hlt158 : j158 < 20 := by omega
                              refine R_iload (pc := 158) dX9_findChains_158 rfl ?_
                              refine R_iload (pc := 160) dX9_findChains_160 rfl ?_
                              refine R_icge (pc := 162) 198 dX9_findChains_162 (by decide) (fun b162_86 => ?_) (fun b162_86 => ?_)
                              · skip
                                refine inc_11_6_1_i (pc := 198) dX9_findChains_198 ?_
                                have r87 : inR ((nI j41) + 1) 1 20 := inR_add (show inR (nI j41) 0 19 from hr41) (show inR 1 1 1 from (inR_self _)) (by decide) (by decide)
                                have e88 := ti_add (l := 1) (h := 20) (show inR (nI j41) 0 19 from hr41) (show inR 1 1 1 from (inR_self _)) (by decide) (by decide)
                                refine R_goto (pc := 201) 41 dX9_findChains_201 (by decide) ?_
                                rw [nI_1]
                                exact ih41 (j41 + 1) _ _ _ _ _ (by omega) (by omega) hI158
                              · skip
                                refine R_iload (pc := 165) dX9_findChains_165 rfl ?_
                                refine R_ifeq (pc := 167) 198 dX9_findChains_167 (by decide) (fun _ => ?_) (fun h => absurd (by decide) h)
                                refine inc_11_6_1_i (pc := 198) dX9_findChains_198 ?_
                                have r90 : inR ((nI j41) + 1) 1 20 := inR_add (show inR (nI j41) 0 19 from hr41) (show inR 1 1 1 from (inR_self _)) (by decide) (by decide)
                                have e91 := ti_add (l := 1) (h := 20) (show inR (nI j41) 0 19 from hr41) (show inR 1 1 1 from (inR_self _)) (by decide) (by decide)
                                refine R_goto (pc := 201) 41 dX9_findChains_201 (by decide) ?_
                                rw [nI_1]
                                exact ih41 (j41 + 1) _ _ _ _ _ (by omega) (by omega) hI158
                          exact HL158 20 0 _ (by omega) (by omega) hI41
                      · skip
                        refine R_aload_n (pc := 118) dX9_findChains_118 rfl rfl ?_
                        refine R_iload (pc := 119) dX9_findChains_119 rfl ?_
                        have hx92 : vp_in (nI j31) 20 := (vp_in_nI (by omega) (by decide))
                        refine R_iaload (pc := 121) dX9_findChains_121 (c_152 _) hx92 ?_
                        refine R_goto (pc := 122) 129 dX9_findChains_122 (by decide) ?_
                        refine st_11_8_i_i (pc := 129) dX9_findChains_129 ?_
                        refine R_aload_n (pc := 131) dX9_findChains_131 rfl rfl ?_
                        refine R_iload (pc := 132) dX9_findChains_132 rfl ?_
                        have hx93 : vp_in (nI j31) 20 := (vp_in_nI (by omega) (by decide))
                        refine R_iaload (pc := 134) dX9_findChains_134 (c_152 _) hx93 ?_
                        refine R_aload_n (pc := 135) dX9_findChains_135 rfl rfl ?_
                        refine R_iload (pc := 136) dX9_findChains_136 rfl ?_
                        have hx94 : vp_in (nI j41) 20 := (vp_in_nI (by omega) (by decide))
                        refine R_iaload (pc := 138) dX9_findChains_138 (c_152 _) hx94 ?_
                        refine R_icge (pc := 139) 149 dX9_findChains_139 (by decide) (fun b139_95 => ?_) (fun b139_95 => ?_)
                        · skip
                          refine R_aload_n (pc := 149) dX9_findChains_149 rfl rfl ?_
                          refine R_iload (pc := 150) dX9_findChains_150 rfl ?_
                          have hx96 : vp_in (nI j31) 20 := (vp_in_nI (by omega) (by decide))
                          refine R_iaload (pc := 152) dX9_findChains_152 (c_152 _) hx96 ?_
                          refine st_11_9_i_i (pc := 153) dX9_findChains_153 ?_
                          refine R_iconst (pc := 155) (v := 0) dX9_findChains_155 (by decide) ?_
                          refine st_11_10_i_i (pc := 156) dX9_findChains_156 ?_
                          have HL158 : ∀ (q j158 : Nat) (σ158 : Sg), j158 + q = 20 → 0 ≤ j158 → Inv σ158 → R G l yX9_findChains cX9_findChains 11 none 3 0 0 (QV (fun w2 => ∃ σ2, w2 = WW σ2 ∧ Inv σ2)) 158 [(some (.ref 140)), (some (.ref 152)), (some (.int m)), (some (.int u)), (some (.int y1)), (some (.int (nI j31))), (some (.int (nI j41))), (some (.int 0)), (some (.int (σ41.2.2.1 152 (Int32.toNatClampNeg (nI j31))))), (some (.int (σ41.2.2.1 152 (Int32.toNatClampNeg (nI j31))))), (some (.int (nI j158)))] [] (WW σ158) 0 0 := by
                            intro q
                            induction q with
                            | zero =>
                              intro j158 σ158 hj hs158 hI158
                              obtain rfl : j158 = 20 := by omega
                              refine R_iload (pc := 158) dX9_findChains_158 rfl ?_
                              refine R_iload (pc := 160) dX9_findChains_160 rfl ?_
                              refine R_icge (pc := 162) 198 dX9_findChains_162 (by decide) (fun _ => ?_) (fun h => absurd (Int32.not_lt.mp (inR_up hr2 (Int32.le_refl _) (by decide)).2) h)
                              refine inc_11_6_1_i (pc := 198) dX9_findChains_198 ?_
                              have r98 : inR ((nI j41) + 1) 1 20 := inR_add (show inR (nI j41) 0 19 from hr41) (show inR 1 1 1 from (inR_self _)) (by decide) (by decide)
                              have e99 := ti_add (l := 1) (h := 20) (show inR (nI j41) 0 19 from hr41) (show inR 1 1 1 from (inR_self _)) (by decide) (by decide)
                              refine R_goto (pc := 201) 41 dX9_findChains_201 (by decide) ?_
                              rw [nI_1]
                              exact ih41 (j41 + 1) _ _ _ _ _ (by omega) (by omega) hI158
                            | succ q ih158 =>
                              intro j158 σ158 hj hs158 hI158
                              have hr158 : inR (nI j158) 0 19 := inR_ix hs158 (show j158 < 20 by omega) (by decide) (by decide) (by decide)
                              have hlt158 : j158 < 20 := by omega
                              refine R_iload (pc := 158) dX9_findChains_158 rfl ?_
                              refine R_iload (pc := 160) dX9_findChains_160 rfl ?_
                              refine R_icge (pc := 162) 198 dX9_findChains_162 (by decide) (fun b162_100 => ?_) (fun b162_100 => ?_)
                              · skip
                                refine inc_11_6_1_i (pc := 198) dX9_findChains_198 ?_
                                have r101 : inR ((nI j41) + 1) 1 20 := inR_add (show inR (nI j41) 0 19 from hr41) (show inR 1 1 1 from (inR_self _)) (by decide) (by decide)
                                have e102 := ti_add (l := 1) (h := 20) (show inR (nI j41) 0 19 from hr41) (show inR 1 1 1 from (inR_self _)) (by decide) (by decide)
                                refine R_goto (pc := 201) 41 dX9_findChains_201 (by decide) ?_
                                rw [nI_1]
                                exact ih41 (j41 + 1) _ _ _ _ _ (by omega) (by omega) hI158
                              · skip
                                refine R_iload (pc := 165) dX9_findChains_165 rfl ?_
                                refine R_ifeq (pc := 167) 198 dX9_findChains_167 (by decide) (fun _ => ?_) (fun h => absurd (by decide) h)
                                refine inc_11_6_1_i (pc := 198) dX9_findChains_198 ?_
                                have r104 : inR ((nI j41) + 1) 1 20 := inR_add (show inR (nI j41) 0 19 from hr41) (show inR 1 1 1 from (inR_self _)) (by decide) (by decide)
                                have e105 := ti_add (l := 1) (h := 20) (show inR (nI j41) 0 19 from hr41) (show inR 1 1 1 from (inR_self _)) (by decide) (by decide)
                                refine R_goto (pc := 201) 41 dX9_findChains_201 (by decide) ?_
                                rw [nI_1]
                                exact ih41 (j41 + 1) _ _ _ _ _ (by omega) (by omega) hI158
                          exact HL158 20 0 _ (by omega) (by omega) hI41
                        · skip
                          refine R_aload_n (pc := 142) dX9_findChains_142 rfl rfl ?_
                          refine R_iload (pc := 143) dX9_findChains_143 rfl ?_
                          have hx106 : vp_in (nI j41) 20 := (vp_in_nI (by omega) (by decide))
                          refine R_iaload (pc := 145) dX9_findChains_145 (c_152 _) hx106 ?_
                          refine R_goto (pc := 146) 153 dX9_findChains_146 (by decide) ?_
                          refine st_11_9_i_i (pc := 153) dX9_findChains_153 ?_
                          refine R_iconst (pc := 155) (v := 0) dX9_findChains_155 (by decide) ?_
                          refine st_11_10_i_i (pc := 156) dX9_findChains_156 ?_
                          have HL158 : ∀ (q j158 : Nat) (σ158 : Sg), j158 + q = 20 → 0 ≤ j158 → Inv σ158 → R G l yX9_findChains cX9_findChains 11 none 3 0 0 (QV (fun w2 => ∃ σ2, w2 = WW σ2 ∧ Inv σ2)) 158 [(some (.ref 140)), (some (.ref 152)), (some (.int m)), (some (.int u)), (some (.int y1)), (some (.int (nI j31))), (some (.int (nI j41))), (some (.int 0)), (some (.int (σ41.2.2.1 152 (Int32.toNatClampNeg (nI j31))))), (some (.int (σ41.2.2.1 152 (Int32.toNatClampNeg (nI j41))))), (some (.int (nI j158)))] [] (WW σ158) 0 0 := by
                            intro q
                            induction q with
                            | zero =>
                              intro j158 σ158 hj hs158 hI158
                              obtain rfl : j158 = 20 := by omega
                              refine R_iload (pc := 158) dX9_findChains_158 rfl ?_
                              refine R_iload (pc := 160) dX9_findChains_160 rfl ?_
                              refine R_icge (pc := 162) 198 dX9_findChains_162 (by decide) (fun _ => ?_) (fun h => absurd (Int32.not_lt.mp (inR_up hr2 (Int32.le_refl _) (by decide)).2) h)
                              refine inc_11_6_1_i (pc := 198) dX9_findChains_198 ?_
                              have r108 : inR ((nI j41) + 1) 1 20 := inR_add (show inR (nI j41) 0 19 from hr41) (show inR 1 1 1 from (inR_self _)) (by decide) (by decide)
                              have e109 := ti_add (l := 1) (h := 20) (show inR (nI j41) 0 19 from hr41) (show inR 1 1 1 from (inR_self _)) (by decide) (by decide)
                              refine R_goto (pc := 201) 41 dX9_findChains_201 (by decide) ?_
                              rw [nI_1]
                              exact ih41 (j41 + 1) _ _ _ _ _ (by omega) (by omega) hI158
                            | succ q ih158 =>
                              intro j158 σ158 hj hs158 hI158
                              have hr158 : inR (nI j158) 0 19 := inR_ix hs158 (show j158 < 20 by omega) (by decide) (by decide) (by decide)
                              have hlt158 : j158 < 20 := by omega
                              refine R_iload (pc := 158) dX9_findChains_158 rfl ?_
                              refine R_iload (pc := 160) dX9_findChains_160 rfl ?_
                              refine R_icge (pc := 162) 198 dX9_findChains_162 (by decide) (fun b162_110 => ?_) (fun b162_110 => ?_)
                              · skip
                                refine inc_11_6_1_i (pc := 198) dX9_findChains_198 ?_
                                have r111 : inR ((nI j41) + 1) 1 20 := inR_add (show inR (nI j41) 0 19 from hr41) (show inR 1 1 1 from (inR_self _)) (by decide) (by decide)
                                have e112 := ti_add (l := 1) (h := 20) (show inR (nI j41) 0 19 from hr41) (show inR 1 1 1 from (inR_self _)) (by decide) (by decide)
                                refine R_goto (pc := 201) 41 dX9_findChains_201 (by decide) ?_
                                rw [nI_1]
                                exact ih41 (j41 + 1) _ _ _ _ _ (by omega) (by omega) hI158
                              · skip
                                refine R_iload (pc := 165) dX9_findChains_165 rfl ?_
                                refine R_ifeq (pc := 167) 198 dX9_findChains_167 (by decide) (fun _ => ?_) (fun h => absurd (by decide) h)
                                refine inc_11_6_1_i (pc := 198) dX9_findChains_198 ?_
                                have r114 : inR ((nI j41) + 1) 1 20 := inR_add (show inR (nI j41) 0 19 from hr41) (show inR 1 1 1 from (inR_self _)) (by decide) (by decide)
                                have e115 := ti_add (l := 1) (h := 20) (show inR (nI j41) 0 19 from hr41) (show inR 1 1 1 from (inR_self _)) (by decide) (by decide)
                                refine R_goto (pc := 201) 41 dX9_findChains_201 (by decide) ?_
                                rw [nI_1]
                                exact ih41 (j41 + 1) _ _ _ _ _ (by omega) (by omega) hI158
                          exact HL158 20 0 _ (by omega) (by omega) hI41
                    · skip
                      refine R_aload_n (pc := 60) dX9_findChains_60 rfl rfl ?_
                      refine R_iload (pc := 61) dX9_findChains_61 rfl ?_
                      have hx116 : vp_in (nI j31) 20 := (vp_in_nI (by omega) (by decide))
                      refine R_iaload (pc := 63) dX9_findChains_63 (c_152 _) hx116 ?_
                      refine R_aload_n (pc := 64) dX9_findChains_64 rfl rfl ?_
                      refine R_iload (pc := 65) dX9_findChains_65 rfl ?_
                      have hx117 : vp_in (nI j41) 20 := (vp_in_nI (by omega) (by decide))
                      refine R_iaload (pc := 67) dX9_findChains_67 (c_152 _) hx117 ?_
                      refine R_iceq (pc := 68) 104 dX9_findChains_68 (by decide) (fun b68_118 => ?_) (fun b68_118 => ?_)
                      · skip
                        refine R_iconst (pc := 104) (v := 0) dX9_findChains_104 (by decide) ?_
                        refine st_11_7_i_i (pc := 105) dX9_findChains_105 ?_
                        refine R_aload_n (pc := 107) dX9_findChains_107 rfl rfl ?_
                        refine R_iload (pc := 108) dX9_findChains_108 rfl ?_
                        have hx119 : vp_in (nI j31) 20 := (vp_in_nI (by omega) (by decide))
                        refine R_iaload (pc := 110) dX9_findChains_110 (c_152 _) hx119 ?_
                        refine R_aload_n (pc := 111) dX9_findChains_111 rfl rfl ?_
                        refine R_iload (pc := 112) dX9_findChains_112 rfl ?_
                        have hx120 : vp_in (nI j41) 20 := (vp_in_nI (by omega) (by decide))
                        refine R_iaload (pc := 114) dX9_findChains_114 (c_152 _) hx120 ?_
                        refine R_icge (pc := 115) 125 dX9_findChains_115 (by decide) (fun b115_121 => ?_) (fun b115_121 => ?_)
                        · skip
                          refine R_aload_n (pc := 125) dX9_findChains_125 rfl rfl ?_
                          refine R_iload (pc := 126) dX9_findChains_126 rfl ?_
                          have hx122 : vp_in (nI j41) 20 := (vp_in_nI (by omega) (by decide))
                          refine R_iaload (pc := 128) dX9_findChains_128 (c_152 _) hx122 ?_
                          refine st_11_8_i_i (pc := 129) dX9_findChains_129 ?_
                          refine R_aload_n (pc := 131) dX9_findChains_131 rfl rfl ?_
                          refine R_iload (pc := 132) dX9_findChains_132 rfl ?_
                          have hx123 : vp_in (nI j31) 20 := (vp_in_nI (by omega) (by decide))
                          refine R_iaload (pc := 134) dX9_findChains_134 (c_152 _) hx123 ?_
                          refine R_aload_n (pc := 135) dX9_findChains_135 rfl rfl ?_
                          refine R_iload (pc := 136) dX9_findChains_136 rfl ?_
                          have hx124 : vp_in (nI j41) 20 := (vp_in_nI (by omega) (by decide))
                          refine R_iaload (pc := 138) dX9_findChains_138 (c_152 _) hx124 ?_
                          refine R_icge (pc := 139) 149 dX9_findChains_139 (by decide) (fun b139_125 => ?_) (fun b139_125 => ?_)
                          · skip
                            refine R_aload_n (pc := 149) dX9_findChains_149 rfl rfl ?_
                            refine R_iload (pc := 150) dX9_findChains_150 rfl ?_
                            have hx126 : vp_in (nI j31) 20 := (vp_in_nI (by omega) (by decide))
                            refine R_iaload (pc := 152) dX9_findChains_152 (c_152 _) hx126 ?_
                            refine st_11_9_i_i (pc := 153) dX9_findChains_153 ?_
                            refine R_iconst (pc := 155) (v := 0) dX9_findChains_155 (by decide) ?_
                            refine st_11_10_i_i (pc := 156) dX9_findChains_156 ?_
                            have HL158 : ∀ (q j158 : Nat) (σ158 : Sg), j158 + q = 20 → 0 ≤ j158 → Inv σ158 → R G l yX9_findChains cX9_findChains 11 none 3 0 0 (QV (fun w2 => ∃ σ2, w2 = WW σ2 ∧ Inv σ2)) 158 [(some (.ref 140)), (some (.ref 152)), (some (.int m)), (some (.int u)), (some (.int y1)), (some (.int (nI j31))), (some (.int (nI j41))), (some (.int 0)), (some (.int (σ41.2.2.1 152 (Int32.toNatClampNeg (nI j41))))), (some (.int (σ41.2.2.1 152 (Int32.toNatClampNeg (nI j31))))), (some (.int (nI j158)))] [] (WW σ158) 0 0 := by
                              intro q
                              induction q with
                              | zero =>
                                intro j158 σ158 hj hs158 hI158
                                obtain rfl : j158 = 20 := by omega
                                refine R_iload (pc := 158) dX9_findChains_158 rfl ?_
                                refine R_iload (pc := 160) dX9_findChains_160 rfl ?_
                                refine R_icge (pc := 162) 198 dX9_findChains_162 (by decide) (fun _ => ?_) (fun h => absurd (Int32.not_lt.mp (inR_up hr2 (Int32.le_refl _) (by decide)).2) h)
                                refine inc_11_6_1_i (pc := 198) dX9_findChains_198 ?_
                                have r128 : inR ((nI j41) + 1) 1 20 := inR_add (show inR (nI j41) 0 19 from hr41) (show inR 1 1 1 from (inR_self _)) (by decide) (by decide)
                                have e129 := ti_add (l := 1) (h := 20) (show inR (nI j41) 0 19 from hr41) (show inR 1 1 1 from (inR_self _)) (by decide) (by decide)
                                refine R_goto (pc := 201) 41 dX9_findChains_201 (by decide) ?_
                                rw [nI_1]
                                exact ih41 (j41 + 1) _ _ _ _ _ (by omega) (by omega) hI158
                              | succ q ih158 =>
                                intro j158 σ158 hj hs158 hI158
                                have hr158 : inR (nI j158) 0 19 := inR_ix hs158 (show j158 < 20 by omega) (by decide) (by decide) (by decide)
                                have hlt158 : j158 < 20 := by omega
                                refine R_iload (pc := 158) dX9_findChains_158 rfl ?_
                                refine R_iload (pc := 160) dX9_findChains_160 rfl ?_
                                refine R_icge (pc := 162) 198 dX9_findChains_162 (by decide) (fun b162_130 => ?_) (fun b162_130 => ?_)
                                · skip
                                  refine inc_11_6_1_i (pc := 198) dX9_findChains_198 ?_
                                  have r131 : inR ((nI j41) + 1) 1 20 := inR_add (show inR (nI j41) 0 19 from hr41) (show inR 1 1 1 from (inR_self _)) (by decide) (by decide)
                                  have e132 := ti_add (l := 1) (h := 20) (show inR (nI j41) 0 19 from hr41) (show inR 1 1 1 from (inR_self _)) (by decide) (by decide)
                                  refine R_goto (pc := 201) 41 dX9_findChains_201 (by decide) ?_
                                  rw [nI_1]
                                  exact ih41 (j41 + 1) _ _ _ _ _ (by omega) (by omega) hI158
                                · skip
                                  refine R_iload (pc := 165) dX9_findChains_165 rfl ?_
                                  refine R_ifeq (pc := 167) 198 dX9_findChains_167 (by decide) (fun _ => ?_) (fun h => absurd (by decide) h)
                                  refine inc_11_6_1_i (pc := 198) dX9_findChains_198 ?_
                                  have r134 : inR ((nI j41) + 1) 1 20 := inR_add (show inR (nI j41) 0 19 from hr41) (show inR 1 1 1 from (inR_self _)) (by decide) (by decide)
                                  have e135 := ti_add (l := 1) (h := 20) (show inR (nI j41) 0 19 from hr41) (show inR 1 1 1 from (inR_self _)) (by decide) (by decide)
                                  refine R_goto (pc := 201) 41 dX9_findChains_201 (by decide) ?_
                                  rw [nI_1]
                                  exact ih41 (j41 + 1) _ _ _ _ _ (by omega) (by omega) hI158
                            exact HL158 20 0 _ (by omega) (by omega) hI41
                          · skip
                            refine R_aload_n (pc := 142) dX9_findChains_142 rfl rfl ?_
                            refine R_iload (pc := 143) dX9_findChains_143 rfl ?_
                            have hx136 : vp_in (nI j41) 20 := (vp_in_nI (by omega) (by decide))
                            refine R_iaload (pc := 145) dX9_findChains_145 (c_152 _) hx136 ?_
                            refine R_goto (pc := 146) 153 dX9_findChains_146 (by decide) ?_
                            refine st_11_9_i_i (pc := 153) dX9_findChains_153 ?_
                            refine R_iconst (pc := 155) (v := 0) dX9_findChains_155 (by decide) ?_
                            refine st_11_10_i_i (pc := 156) dX9_findChains_156 ?_
                            have HL158 : ∀ (q j158 : Nat) (σ158 : Sg), j158 + q = 20 → 0 ≤ j158 → Inv σ158 → R G l yX9_findChains cX9_findChains 11 none 3 0 0 (QV (fun w2 => ∃ σ2, w2 = WW σ2 ∧ Inv σ2)) 158 [(some (.ref 140)), (some (.ref 152)), (some (.int m)), (some (.int u)), (some (.int y1)), (some (.int (nI j31))), (some (.int (nI j41))), (some (.int 0)), (some (.int (σ41.2.2.1 152 (Int32.toNatClampNeg (nI j41))))), (some (.int (σ41.2.2.1 152 (Int32.toNatClampNeg (nI j41))))), (some (.int (nI j158)))] [] (WW σ158) 0 0 := by
                              intro q
                              induction q with
                              | zero =>
                                intro j158 σ158 hj hs158 hI158
                                obtain rfl : j158 = 20 := by omega
                                refine R_iload (pc := 158) dX9_findChains_158 rfl ?_
                                refine R_iload (pc := 160) dX9_findChains_160 rfl ?_
                                refine R_icge (pc := 162) 198 dX9_findChains_162 (by decide) (fun _ => ?_) (fun h => absurd (Int32.not_lt.mp (inR_up hr2 (Int32.le_refl _) (by decide)).2) h)
                                refine inc_11_6_1_i (pc := 198) dX9_findChains_198 ?_
                                have r138 : inR ((nI j41) + 1) 1 20 := inR_add (show inR (nI j41) 0 19 from hr41) (show inR 1 1 1 from (inR_self _)) (by decide) (by decide)
                                have e139 := ti_add (l := 1) (h := 20) (show inR (nI j41) 0 19 from hr41) (show inR 1 1 1 from (inR_self _)) (by decide) (by decide)
                                refine R_goto (pc := 201) 41 dX9_findChains_201 (by decide) ?_
                                rw [nI_1]
                                exact ih41 (j41 + 1) _ _ _ _ _ (by omega) (by omega) hI158
                              | succ q ih158 =>
                                intro j158 σ158 hj hs158 hI158
                                have hr158 : inR (nI j158) 0 19 := inR_ix hs158 (show j158 < 20 by omega) (by decide) (by decide) (by decide)
                                have hlt158 : j158 < 20 := by omega
                                refine R_iload (pc := 158) dX9_findChains_158 rfl ?_
                                refine R_iload (pc := 160) dX9_findChains_160 rfl ?_
                                refine R_icge (pc := 162) 198 dX9_findChains_162 (by decide) (fun b162_140 => ?_) (fun b162_140 => ?_)
                                · skip
                                  refine inc_11_6_1_i (pc := 198) dX9_findChains_198 ?_
                                  have r141 : inR ((nI j41) + 1) 1 20 := inR_add (show inR (nI j41) 0 19 from hr41) (show inR 1 1 1 from (inR_self _)) (by decide) (by decide)
                                  have e142 := ti_add (l := 1) (h := 20) (show inR (nI j41) 0 19 from hr41) (show inR 1 1 1 from (inR_self _)) (by decide) (by decide)
                                  refine R_goto (pc := 201) 41 dX9_findChains_201 (by decide) ?_
                                  rw [nI_1]
                                  exact ih41 (j41 + 1) _ _ _ _ _ (by omega) (by omega) hI158
                                · skip
                                  refine R_iload (pc := 165) dX9_findChains_165 rfl ?_
                                  refine R_ifeq (pc := 167) 198 dX9_findChains_167 (by decide) (fun _ => ?_) (fun h => absurd (by decide) h)
                                  refine inc_11_6_1_i (pc := 198) dX9_findChains_198 ?_
                                  have r144 : inR ((nI j41) + 1) 1 20 := inR_add (show inR (nI j41) 0 19 from hr41) (show inR 1 1 1 from (inR_self _)) (by decide) (by decide)
                                  have e145 := ti_add (l := 1) (h := 20) (show inR (nI j41) 0 19 from hr41) (show inR 1 1 1 from (inR_self _)) (by decide) (by decide)
                                  refine R_goto (pc := 201) 41 dX9_findChains_201 (by decide) ?_
                                  rw [nI_1]
                                  exact ih41 (j41 + 1) _ _ _ _ _ (by omega) (by omega) hI158
                            exact HL158 20 0 _ (by omega) (by omega) hI41
                        · skip
                          refine R_aload_n (pc := 118) dX9_findChains_118 rfl rfl ?_
                          refine R_iload (pc := 119) dX9_findChains_119 rfl ?_
                          have hx146 : vp_in (nI j31) 20 := (vp_in_nI (by omega) (by decide))
                          refine R_iaload (pc := 121) dX9_findChains_121 (c_152 _) hx146 ?_
                          refine R_goto (pc := 122) 129 dX9_findChains_122 (by decide) ?_
                          refine st_11_8_i_i (pc := 129) dX9_findChains_129 ?_
                          refine R_aload_n (pc := 131) dX9_findChains_131 rfl rfl ?_
                          refine R_iload (pc := 132) dX9_findChains_132 rfl ?_
                          have hx147 : vp_in (nI j31) 20 := (vp_in_nI (by omega) (by decide))
                          refine R_iaload (pc := 134) dX9_findChains_134 (c_152 _) hx147 ?_
                          refine R_aload_n (pc := 135) dX9_findChains_135 rfl rfl ?_
                          refine R_iload (pc := 136) dX9_findChains_136 rfl ?_
                          have hx148 : vp_in (nI j41) 20 := (vp_in_nI (by omega) (by decide))
                          refine R_iaload (pc := 138) dX9_findChains_138 (c_152 _) hx148 ?_
                          refine R_icge (pc := 139) 149 dX9_findChains_139 (by decide) (fun b139_149 => ?_) (fun b139_149 => ?_)
                          · skip
                            refine R_aload_n (pc := 149) dX9_findChains_149 rfl rfl ?_
                            refine R_iload (pc := 150) dX9_findChains_150 rfl ?_
                            have hx150 : vp_in (nI j31) 20 := (vp_in_nI (by omega) (by decide))
                            refine R_iaload (pc := 152) dX9_findChains_152 (c_152 _) hx150 ?_
                            refine st_11_9_i_i (pc := 153) dX9_findChains_153 ?_
                            refine R_iconst (pc := 155) (v := 0) dX9_findChains_155 (by decide) ?_
                            refine st_11_10_i_i (pc := 156) dX9_findChains_156 ?_
                            have HL158 : ∀ (q j158 : Nat) (σ158 : Sg), j158 + q = 20 → 0 ≤ j158 → Inv σ158 → R G l yX9_findChains cX9_findChains 11 none 3 0 0 (QV (fun w2 => ∃ σ2, w2 = WW σ2 ∧ Inv σ2)) 158 [(some (.ref 140)), (some (.ref 152)), (some (.int m)), (some (.int u)), (some (.int y1)), (some (.int (nI j31))), (some (.int (nI j41))), (some (.int 0)), (some (.int (σ41.2.2.1 152 (Int32.toNatClampNeg (nI j31))))), (some (.int (σ41.2.2.1 152 (Int32.toNatClampNeg (nI j31))))), (some (.int (nI j158)))] [] (WW σ158) 0 0 := by
                              intro q
                              induction q with
                              | zero =>
                                intro j158 σ158 hj hs158 hI158
                                obtain rfl : j158 = 20 := by omega
                                refine R_iload (pc := 158) dX9_findChains_158 rfl ?_
                                refine R_iload (pc := 160) dX9_findChains_160 rfl ?_
                                refine R_icge (pc := 162) 198 dX9_findChains_162 (by decide) (fun _ => ?_) (fun h => absurd (Int32.not_lt.mp (inR_up hr2 (Int32.le_refl _) (by decide)).2) h)
                                refine inc_11_6_1_i (pc := 198) dX9_findChains_198 ?_
                                have r152 : inR ((nI j41) + 1) 1 20 := inR_add (show inR (nI j41) 0 19 from hr41) (show inR 1 1 1 from (inR_self _)) (by decide) (by decide)
                                have e153 := ti_add (l := 1) (h := 20) (show inR (nI j41) 0 19 from hr41) (show inR 1 1 1 from (inR_self _)) (by decide) (by decide)
                                refine R_goto (pc := 201) 41 dX9_findChains_201 (by decide) ?_
                                rw [nI_1]
                                exact ih41 (j41 + 1) _ _ _ _ _ (by omega) (by omega) hI158
                              | succ q ih158 =>
                                intro j158 σ158 hj hs158 hI158
                                have hr158 : inR (nI j158) 0 19 := inR_ix hs158 (show j158 < 20 by omega) (by decide) (by decide) (by decide)
                                have hlt158 : j158 < 20 := by omega
                                refine R_iload (pc := 158) dX9_findChains_158 rfl ?_
                                refine R_iload (pc := 160) dX9_findChains_160 rfl ?_
                                refine R_icge (pc := 162) 198 dX9_findChains_162 (by decide) (fun b162_154 => ?_) (fun b162_154 => ?_)
                                · skip
                                  refine inc_11_6_1_i (pc := 198) dX9_findChains_198 ?_
                                  have r155 : inR ((nI j41) + 1) 1 20 := inR_add (show inR (nI j41) 0 19 from hr41) (show inR 1 1 1 from (inR_self _)) (by decide) (by decide)
                                  have e156 := ti_add (l := 1) (h := 20) (show inR (nI j41) 0 19 from hr41) (show inR 1 1 1 from (inR_self _)) (by decide) (by decide)
                                  refine R_goto (pc := 201) 41 dX9_findChains_201 (by decide) ?_
                                  rw [nI_1]
                                  exact ih41 (j41 + 1) _ _ _ _ _ (by omega) (by omega) hI158
                                · skip
                                  refine R_iload (pc := 165) dX9_findChains_165 rfl ?_
                                  refine R_ifeq (pc := 167) 198 dX9_findChains_167 (by decide) (fun _ => ?_) (fun h => absurd (by decide) h)
                                  refine inc_11_6_1_i (pc := 198) dX9_findChains_198 ?_
                                  have r158 : inR ((nI j41) + 1) 1 20 := inR_add (show inR (nI j41) 0 19 from hr41) (show inR 1 1 1 from (inR_self _)) (by decide) (by decide)
                                  have e159 := ti_add (l := 1) (h := 20) (show inR (nI j41) 0 19 from hr41) (show inR 1 1 1 from (inR_self _)) (by decide) (by decide)
                                  refine R_goto (pc := 201) 41 dX9_findChains_201 (by decide) ?_
                                  rw [nI_1]
                                  exact ih41 (j41 + 1) _ _ _ _ _ (by omega) (by omega) hI158
                            exact HL158 20 0 _ (by omega) (by omega) hI41
                          · skip
                            refine R_aload_n (pc := 142) dX9_findChains_142 rfl rfl ?_
                            refine R_iload (pc := 143) dX9_findChains_143 rfl ?_
                            have hx160 : vp_in (nI j41) 20 := (vp_in_nI (by omega) (by decide))
                            refine R_iaload (pc := 145) dX9_findChains_145 (c_152 _) hx160 ?_
                            refine R_goto (pc := 146) 153 dX9_findChains_146 (by decide) ?_
                            refine st_11_9_i_i (pc := 153) dX9_findChains_153 ?_
                            refine R_iconst (pc := 155) (v := 0) dX9_findChains_155 (by decide) ?_
                            refine st_11_10_i_i (pc := 156) dX9_findChains_156 ?_
                            have HL158 : ∀ (q j158 : Nat) (σ158 : Sg), j158 + q = 20 → 0 ≤ j158 → Inv σ158 → R G l yX9_findChains cX9_findChains 11 none 3 0 0 (QV (fun w2 => ∃ σ2, w2 = WW σ2 ∧ Inv σ2)) 158 [(some (.ref 140)), (some (.ref 152)), (some (.int m)), (some (.int u)), (some (.int y1)), (some (.int (nI j31))), (some (.int (nI j41))), (some (.int 0)), (some (.int (σ41.2.2.1 152 (Int32.toNatClampNeg (nI j31))))), (some (.int (σ41.2.2.1 152 (Int32.toNatClampNeg (nI j41))))), (some (.int (nI j158)))] [] (WW σ158) 0 0 := by
                              intro q
                              induction q with
                              | zero =>
                                intro j158 σ158 hj hs158 hI158
                                obtain rfl : j158 = 20 := by omega
                                refine R_iload (pc := 158) dX9_findChains_158 rfl ?_
                                refine R_iload (pc := 160) dX9_findChains_160 rfl ?_
                                refine R_icge (pc := 162) 198 dX9_findChains_162 (by decide) (fun _ => ?_) (fun h => absurd (Int32.not_lt.mp (inR_up hr2 (Int32.le_refl _) (by decide)).2) h)
                                refine inc_11_6_1_i (pc := 198) dX9_findChains_198 ?_
                                have r162 : inR ((nI j41) + 1) 1 20 := inR_add (show inR (nI j41) 0 19 from hr41) (show inR 1 1 1 from (inR_self _)) (by decide) (by decide)
                                have e163 := ti_add (l := 1) (h := 20) (show inR (nI j41) 0 19 from hr41) (show inR 1 1 1 from (inR_self _)) (by decide) (by decide)
                                refine R_goto (pc := 201) 41 dX9_findChains_201 (by decide) ?_
                                rw [nI_1]
                                exact ih41 (j41 + 1) _ _ _ _ _ (by omega) (by omega) hI158
                              | succ q ih158 =>
                                intro j158 σ158 hj hs158 hI158
                                have hr158 : inR (nI j158) 0 19 := inR_ix hs158 (show j158 < 20 by omega) (by decide) (by decide) (by decide)
                                have hlt158 : j158 < 20 := by omega
                                refine R_iload (pc := 158) dX9_findChains_158 rfl ?_
                                refine R_iload (pc := 160) dX9_findChains_160 rfl ?_
                                refine R_icge (pc := 162) 198 dX9_findChains_162 (by decide) (fun b162_164 => ?_) (fun b162_164 => ?_)
                                · skip
                                  refine inc_11_6_1_i (pc := 198) dX9_findChains_198 ?_
                                  have r165 : inR ((nI j41) + 1) 1 20 := inR_add (show inR (nI j41) 0 19 from hr41) (show inR 1 1 1 from (inR_self _)) (by decide) (by decide)
                                  have e166 := ti_add (l := 1) (h := 20) (show inR (nI j41) 0 19 from hr41) (show inR 1 1 1 from (inR_self _)) (by decide) (by decide)
                                  refine R_goto (pc := 201) 41 dX9_findChains_201 (by decide) ?_
                                  rw [nI_1]
                                  exact ih41 (j41 + 1) _ _ _ _ _ (by omega) (by omega) hI158
                                · skip
                                  refine R_iload (pc := 165) dX9_findChains_165 rfl ?_
                                  refine R_ifeq (pc := 167) 198 dX9_findChains_167 (by decide) (fun _ => ?_) (fun h => absurd (by decide) h)
                                  refine inc_11_6_1_i (pc := 198) dX9_findChains_198 ?_
                                  have r168 : inR ((nI j41) + 1) 1 20 := inR_add (show inR (nI j41) 0 19 from hr41) (show inR 1 1 1 from (inR_self _)) (by decide) (by decide)
                                  have e169 := ti_add (l := 1) (h := 20) (show inR (nI j41) 0 19 from hr41) (show inR 1 1 1 from (inR_self _)) (by decide) (by decide)
                                  refine R_goto (pc := 201) 41 dX9_findChains_201 (by decide) ?_
                                  rw [nI_1]
                                  exact ih41 (j41 + 1) _ _ _ _ _ (by omega) (by omega) hI158
                            exact HL158 20 0 _ (by omega) (by omega) hI41
                      · skip
                        refine R_iload_n (pc := 71) dX9_findChains_71 rfl rfl ?_
                        refine R_ifeq (pc := 72) 89 dX9_findChains_72 (by decide) (fun b72_170 => ?_) (fun b72_170 => ?_)
                        · skip
                          refine R_aload_n (pc := 89) dX9_findChains_89 rfl rfl ?_
                          refine R_iload (pc := 90) dX9_findChains_90 rfl ?_
                          refine R_iload (pc := 92) dX9_findChains_92 rfl ?_
                          refine k_X9_155 (pc := 94) (gx_X9_isLike _ _ _ hI41 hr31 hr41) rfl (c_140 _) (by decide) (Nat.le_refl _) (Nat.le_refl _) (Nat.le_of_ble_eq_true rfl) dX9_findChains_94 (fun x w2 h => ?_)
                          rcases h with ⟨rfl, rfl | rfl⟩
                          · skip
                            refine R_ifeq (pc := 97) 104 dX9_findChains_97 (by decide) (fun h => absurd h (by decide)) (fun _ => ?_)
                            refine R_iconst (pc := 100) (v := 1) dX9_findChains_100 (by decide) ?_
                            refine R_goto (pc := 101) 105 dX9_findChains_101 (by decide) ?_
                            refine st_11_7_i_i (pc := 105) dX9_findChains_105 ?_
                            refine R_aload_n (pc := 107) dX9_findChains_107 rfl rfl ?_
                            refine R_iload (pc := 108) dX9_findChains_108 rfl ?_
                            have hx173 : vp_in (nI j31) 20 := (vp_in_nI (by omega) (by decide))
                            refine R_iaload (pc := 110) dX9_findChains_110 (c_152 _) hx173 ?_
                            refine R_aload_n (pc := 111) dX9_findChains_111 rfl rfl ?_
                            refine R_iload (pc := 112) dX9_findChains_112 rfl ?_
                            have hx174 : vp_in (nI j41) 20 := (vp_in_nI (by omega) (by decide))
                            refine R_iaload (pc := 114) dX9_findChains_114 (c_152 _) hx174 ?_
                            refine R_icge (pc := 115) 125 dX9_findChains_115 (by decide) (fun b115_175 => ?_) (fun b115_175 => ?_)
                            · skip
                              refine R_aload_n (pc := 125) dX9_findChains_125 rfl rfl ?_
                              refine R_iload (pc := 126) dX9_findChains_126 rfl ?_
                              have hx176 : vp_in (nI j41) 20 := (vp_in_nI (by omega) (by decide))
                              refine R_iaload (pc := 128) dX9_findChains_128 (c_152 _) hx176 ?_
                              refine st_11_8_i_i (pc := 129) dX9_findChains_129 ?_
                              refine R_aload_n (pc := 131) dX9_findChains_131 rfl rfl ?_
                              refine R_iload (pc := 132) dX9_findChains_132 rfl ?_
                              have hx177 : vp_in (nI j31) 20 := (vp_in_nI (by omega) (by decide))
                              refine R_iaload (pc := 134) dX9_findChains_134 (c_152 _) hx177 ?_
                              refine R_aload_n (pc := 135) dX9_findChains_135 rfl rfl ?_
                              refine R_iload (pc := 136) dX9_findChains_136 rfl ?_
                              have hx178 : vp_in (nI j41) 20 := (vp_in_nI (by omega) (by decide))
                              refine R_iaload (pc := 138) dX9_findChains_138 (c_152 _) hx178 ?_
                              refine R_icge (pc := 139) 149 dX9_findChains_139 (by decide) (fun b139_179 => ?_) (fun b139_179 => ?_)
                              · skip
                                refine R_aload_n (pc := 149) dX9_findChains_149 rfl rfl ?_
                                refine R_iload (pc := 150) dX9_findChains_150 rfl ?_
                                have hx180 : vp_in (nI j31) 20 := (vp_in_nI (by omega) (by decide))
                                refine R_iaload (pc := 152) dX9_findChains_152 (c_152 _) hx180 ?_
                                refine st_11_9_i_i (pc := 153) dX9_findChains_153 ?_
                                refine R_iconst (pc := 155) (v := 0) dX9_findChains_155 (by decide) ?_
                                refine st_11_10_i_i (pc := 156) dX9_findChains_156 ?_
                                have HL158 : ∀ (q j158 : Nat) (σ158 : Sg), j158 + q = 20 → 0 ≤ j158 → Inv σ158 → R G l yX9_findChains cX9_findChains 11 none 3 0 0 (QV (fun w2 => ∃ σ2, w2 = WW σ2 ∧ Inv σ2)) 158 [(some (.ref 140)), (some (.ref 152)), (some (.int m)), (some (.int u)), (some (.int y1)), (some (.int (nI j31))), (some (.int (nI j41))), (some (.int 1)), (some (.int (σ41.2.2.1 152 (Int32.toNatClampNeg (nI j41))))), (some (.int (σ41.2.2.1 152 (Int32.toNatClampNeg (nI j31))))), (some (.int (nI j158)))] [] (WW σ158) 0 0 := by
                                  intro q
                                  induction q with
                                  | zero =>
                                    intro j158 σ158 hj hs158 hI158
                                    obtain rfl : j158 = 20 := by omega
                                    refine R_iload (pc := 158) dX9_findChains_158 rfl ?_
                                    refine R_iload (pc := 160) dX9_findChains_160 rfl ?_
                                    refine R_icge (pc := 162) 198 dX9_findChains_162 (by decide) (fun _ => ?_) (fun h => absurd (Int32.not_lt.mp (inR_up hr2 (Int32.le_refl _) (by decide)).2) h)
                                    refine inc_11_6_1_i (pc := 198) dX9_findChains_198 ?_
                                    have r182 : inR ((nI j41) + 1) 1 20 := inR_add (show inR (nI j41) 0 19 from hr41) (show inR 1 1 1 from (inR_self _)) (by decide) (by decide)
                                    have e183 := ti_add (l := 1) (h := 20) (show inR (nI j41) 0 19 from hr41) (show inR 1 1 1 from (inR_self _)) (by decide) (by decide)
                                    refine R_goto (pc := 201) 41 dX9_findChains_201 (by decide) ?_
                                    rw [nI_1]
                                    exact ih41 (j41 + 1) _ _ _ _ _ (by omega) (by omega) hI158
                                  | succ q ih158 =>
                                    intro j158 σ158 hj hs158 hI158
                                    have hr158 : inR (nI j158) 0 19 := inR_ix hs158 (show j158 < 20 by omega) (by decide) (by decide) (by decide)
                                    have hlt158 : j158 < 20 := by omega
                                    refine R_iload (pc := 158) dX9_findChains_158 rfl ?_
                                    refine R_iload (pc := 160) dX9_findChains_160 rfl ?_
                                    refine R_icge (pc := 162) 198 dX9_findChains_162 (by decide) (fun b162_184 => ?_) (fun b162_184 => ?_)
                                    · skip
                                      refine inc_11_6_1_i (pc := 198) dX9_findChains_198 ?_
                                      have r185 : inR ((nI j41) + 1) 1 20 := inR_add (show inR (nI j41) 0 19 from hr41) (show inR 1 1 1 from (inR_self _)) (by decide) (by decide)
                                      have e186 := ti_add (l := 1) (h := 20) (show inR (nI j41) 0 19 from hr41) (show inR 1 1 1 from (inR_self _)) (by decide) (by decide)
                                      refine R_goto (pc := 201) 41 dX9_findChains_201 (by decide) ?_
                                      rw [nI_1]
                                      exact ih41 (j41 + 1) _ _ _ _ _ (by omega) (by omega) hI158
                                    · skip
                                      refine R_iload (pc := 165) dX9_findChains_165 rfl ?_
                                      refine R_ifeq (pc := 167) 198 dX9_findChains_167 (by decide) (fun h => absurd h (by decide)) (fun _ => ?_)
                                      refine R_aload_n (pc := 170) dX9_findChains_170 rfl rfl ?_
                                      refine R_iload (pc := 171) dX9_findChains_171 rfl ?_
                                      refine R_aload_n (pc := 173) dX9_findChains_173 rfl rfl ?_
                                      refine R_iload (pc := 174) dX9_findChains_174 rfl ?_
                                      have hx188 : vp_in (nI j158) 20 := (vp_in_nI (by omega) (by decide))
                                      refine R_iaload (pc := 176) dX9_findChains_176 (c_152 _) hx188 ?_
                                      refine R_iload (pc := 177) dX9_findChains_177 rfl ?_
                                      refine R_icne (pc := 179) 187 dX9_findChains_179 (by decide) (fun b179_189 => ?_) (fun b179_189 => ?_)
                                      · skip
                                        refine R_aload_n (pc := 187) dX9_findChains_187 rfl rfl ?_
                                        refine R_iload (pc := 188) dX9_findChains_188 rfl ?_
                                        have hx190 : vp_in (nI j158) 20 := (vp_in_nI (by omega) (by decide))
                                        refine R_iaload (pc := 190) dX9_findChains_190 (c_152 _) hx190 ?_
                                        have hx191 : vp_in (nI j158) 20 := (vp_in_nI (by omega) (by decide))
                                        refine W_iastore (pc := 191) dX9_findChains_191 (c_152 _) hx191 (a_152 _ _) ?_
                                        have hV192 := sa_152 hI158 (Int32.toNatClampNeg (nI j158)) (iva_152 hI158 _ (lt_of_vp hx188))
                                        refine inc_11_10_1_i (pc := 192) dX9_findChains_192 ?_
                                        have r193 : inR ((nI j158) + 1) 1 20 := inR_add (show inR (nI j158) 0 19 from hr158) (show inR 1 1 1 from (inR_self _)) (by decide) (by decide)
                                        have e194 := ti_add (l := 1) (h := 20) (show inR (nI j158) 0 19 from hr158) (show inR 1 1 1 from (inR_self _)) (by decide) (by decide)
                                        refine R_goto (pc := 195) 158 dX9_findChains_195 (by decide) ?_
                                        rw [nI_1]
                                        exact ih158 (j158 + 1) _ (by omega) (by omega) hV192
                                      · skip
                                        refine R_iload (pc := 182) dX9_findChains_182 rfl ?_
                                        refine R_goto (pc := 184) 191 dX9_findChains_184 (by decide) ?_
                                        have hx195 : vp_in (nI j158) 20 := (vp_in_nI (by omega) (by decide))
                                        refine W_iastore (pc := 191) dX9_findChains_191 (c_152 _) hx195 (a_152 _ _) ?_
                                        have hV196 := sa_152 hI158 (Int32.toNatClampNeg (nI j158)) (iva_152 hI41 _ (lt_of_vp hx117))
                                        refine inc_11_10_1_i (pc := 192) dX9_findChains_192 ?_
                                        have r197 : inR ((nI j158) + 1) 1 20 := inR_add (show inR (nI j158) 0 19 from hr158) (show inR 1 1 1 from (inR_self _)) (by decide) (by decide)
                                        have e198 := ti_add (l := 1) (h := 20) (show inR (nI j158) 0 19 from hr158) (show inR 1 1 1 from (inR_self _)) (by decide) (by decide)
                                        refine R_goto (pc := 195) 158 dX9_findChains_195 (by decide) ?_
                                        rw [nI_1]
                                        exact ih158 (j158 + 1) _ (by omega) (by omega) hV196
                                exact HL158 20 0 _ (by omega) (by omega) hI41
                              · skip
                                refine R_aload_n (pc := 142) dX9_findChains_142 rfl rfl ?_
                                refine R_iload (pc := 143) dX9_findChains_143 rfl ?_
                                have hx199 : vp_in (nI j41) 20 := (vp_in_nI (by omega) (by decide))
                                refine R_iaload (pc := 145) dX9_findChains_145 (c_152 _) hx199 ?_
                                refine R_goto (pc := 146) 153 dX9_findChains_146 (by decide) ?_
                                refine st_11_9_i_i (pc := 153) dX9_findChains_153 ?_
                                refine R_iconst (pc := 155) (v := 0) dX9_findChains_155 (by decide) ?_
                                refine st_11_10_i_i (pc := 156) dX9_findChains_156 ?_
                                have HL158 : ∀ (q j158 : Nat) (σ158 : Sg), j158 + q = 20 → 0 ≤ j158 → Inv σ158 → R G l yX9_findChains cX9_findChains 11 none 3 0 0 (QV (fun w2 => ∃ σ2, w2 = WW σ2 ∧ Inv σ2)) 158 [(some (.ref 140)), (some (.ref 152)), (some (.int m)), (some (.int u)), (some (.int y1)), (some (.int (nI j31))), (some (.int (nI j41))), (some (.int 1)), (some (.int (σ41.2.2.1 152 (Int32.toNatClampNeg (nI j41))))), (some (.int (σ41.2.2.1 152 (Int32.toNatClampNeg (nI j41))))), (some (.int (nI j158)))] [] (WW σ158) 0 0 := by
                                  intro q
                                  induction q with
                                  | zero =>
                                    intro j158 σ158 hj hs158 hI158
                                    obtain rfl : j158 = 20 := by omega
                                    refine R_iload (pc := 158) dX9_findChains_158 rfl ?_
                                    refine R_iload (pc := 160) dX9_findChains_160 rfl ?_
                                    refine R_icge (pc := 162) 198 dX9_findChains_162 (by decide) (fun _ => ?_) (fun h => absurd (Int32.not_lt.mp (inR_up hr2 (Int32.le_refl _) (by decide)).2) h)
                                    refine inc_11_6_1_i (pc := 198) dX9_findChains_198 ?_
                                    have r201 : inR ((nI j41) + 1) 1 20 := inR_add (show inR (nI j41) 0 19 from hr41) (show inR 1 1 1 from (inR_self _)) (by decide) (by decide)
                                    have e202 := ti_add (l := 1) (h := 20) (show inR (nI j41) 0 19 from hr41) (show inR 1 1 1 from (inR_self _)) (by decide) (by decide)
                                    refine R_goto (pc := 201) 41 dX9_findChains_201 (by decide) ?_
                                    rw [nI_1]
                                    exact ih41 (j41 + 1) _ _ _ _ _ (by omega) (by omega) hI158
                                  | succ q ih158 =>
                                    intro j158 σ158 hj hs158 hI158
                                    have hr158 : inR (nI j158) 0 19 := inR_ix hs158 (show j158 < 20 by omega) (by decide) (by decide) (by decide)
                                    have hlt158 : j158 < 20 := by omega
                                    refine R_iload (pc := 158) dX9_findChains_158 rfl ?_
                                    refine R_iload (pc := 160) dX9_findChains_160 rfl ?_
                                    refine R_icge (pc := 162) 198 dX9_findChains_162 (by decide) (fun b162_203 => ?_) (fun b162_203 => ?_)
                                    · skip
                                      refine inc_11_6_1_i (pc := 198) dX9_findChains_198 ?_
                                      have r204 : inR ((nI j41) + 1) 1 20 := inR_add (show inR (nI j41) 0 19 from hr41) (show inR 1 1 1 from (inR_self _)) (by decide) (by decide)
                                      have e205 := ti_add (l := 1) (h := 20) (show inR (nI j41) 0 19 from hr41) (show inR 1 1 1 from (inR_self _)) (by decide) (by decide)
                                      refine R_goto (pc := 201) 41 dX9_findChains_201 (by decide) ?_
                                      rw [nI_1]
                                      exact ih41 (j41 + 1) _ _ _ _ _ (by omega) (by omega) hI158
                                    · skip
                                      refine R_iload (pc := 165) dX9_findChains_165 rfl ?_
                                      refine R_ifeq (pc := 167) 198 dX9_findChains_167 (by decide) (fun h => absurd h (by decide)) (fun _ => ?_)
                                      refine R_aload_n (pc := 170) dX9_findChains_170 rfl rfl ?_
                                      refine R_iload (pc := 171) dX9_findChains_171 rfl ?_
                                      refine R_aload_n (pc := 173) dX9_findChains_173 rfl rfl ?_
                                      refine R_iload (pc := 174) dX9_findChains_174 rfl ?_
                                      have hx207 : vp_in (nI j158) 20 := (vp_in_nI (by omega) (by decide))
                                      refine R_iaload (pc := 176) dX9_findChains_176 (c_152 _) hx207 ?_
                                      refine R_iload (pc := 177) dX9_findChains_177 rfl ?_
                                      refine R_icne (pc := 179) 187 dX9_findChains_179 (by decide) (fun b179_208 => ?_) (fun b179_208 => ?_)
                                      · skip
                                        refine R_aload_n (pc := 187) dX9_findChains_187 rfl rfl ?_
                                        refine R_iload (pc := 188) dX9_findChains_188 rfl ?_
                                        have hx209 : vp_in (nI j158) 20 := (vp_in_nI (by omega) (by decide))
                                        refine R_iaload (pc := 190) dX9_findChains_190 (c_152 _) hx209 ?_
                                        have hx210 : vp_in (nI j158) 20 := (vp_in_nI (by omega) (by decide))
                                        refine W_iastore (pc := 191) dX9_findChains_191 (c_152 _) hx210 (a_152 _ _) ?_
                                        have hV211 := sa_152 hI158 (Int32.toNatClampNeg (nI j158)) (iva_152 hI158 _ (lt_of_vp hx207))
                                        refine inc_11_10_1_i (pc := 192) dX9_findChains_192 ?_
                                        have r212 : inR ((nI j158) + 1) 1 20 := inR_add (show inR (nI j158) 0 19 from hr158) (show inR 1 1 1 from (inR_self _)) (by decide) (by decide)
                                        have e213 := ti_add (l := 1) (h := 20) (show inR (nI j158) 0 19 from hr158) (show inR 1 1 1 from (inR_self _)) (by decide) (by decide)
                                        refine R_goto (pc := 195) 158 dX9_findChains_195 (by decide) ?_
                                        rw [nI_1]
                                        exact ih158 (j158 + 1) _ (by omega) (by omega) hV211
                                      · skip
                                        refine R_iload (pc := 182) dX9_findChains_182 rfl ?_
                                        refine R_goto (pc := 184) 191 dX9_findChains_184 (by decide) ?_
                                        have hx214 : vp_in (nI j158) 20 := (vp_in_nI (by omega) (by decide))
                                        refine W_iastore (pc := 191) dX9_findChains_191 (c_152 _) hx214 (a_152 _ _) ?_
                                        have hV215 := sa_152 hI158 (Int32.toNatClampNeg (nI j158)) (iva_152 hI41 _ (lt_of_vp hx117))
                                        refine inc_11_10_1_i (pc := 192) dX9_findChains_192 ?_
                                        have r216 : inR ((nI j158) + 1) 1 20 := inR_add (show inR (nI j158) 0 19 from hr158) (show inR 1 1 1 from (inR_self _)) (by decide) (by decide)
                                        have e217 := ti_add (l := 1) (h := 20) (show inR (nI j158) 0 19 from hr158) (show inR 1 1 1 from (inR_self _)) (by decide) (by decide)
                                        refine R_goto (pc := 195) 158 dX9_findChains_195 (by decide) ?_
                                        rw [nI_1]
                                        exact ih158 (j158 + 1) _ (by omega) (by omega) hV215
                                exact HL158 20 0 _ (by omega) (by omega) hI41
                            · skip
                              refine R_aload_n (pc := 118) dX9_findChains_118 rfl rfl ?_
                              refine R_iload (pc := 119) dX9_findChains_119 rfl ?_
                              have hx218 : vp_in (nI j31) 20 := (vp_in_nI (by omega) (by decide))
                              refine R_iaload (pc := 121) dX9_findChains_121 (c_152 _) hx218 ?_
                              refine R_goto (pc := 122) 129 dX9_findChains_122 (by decide) ?_
                              refine st_11_8_i_i (pc := 129) dX9_findChains_129 ?_
                              refine R_aload_n (pc := 131) dX9_findChains_131 rfl rfl ?_
                              refine R_iload (pc := 132) dX9_findChains_132 rfl ?_
                              have hx219 : vp_in (nI j31) 20 := (vp_in_nI (by omega) (by decide))
                              refine R_iaload (pc := 134) dX9_findChains_134 (c_152 _) hx219 ?_
                              refine R_aload_n (pc := 135) dX9_findChains_135 rfl rfl ?_
                              refine R_iload (pc := 136) dX9_findChains_136 rfl ?_
                              have hx220 : vp_in (nI j41) 20 := (vp_in_nI (by omega) (by decide))
                              refine R_iaload (pc := 138) dX9_findChains_138 (c_152 _) hx220 ?_
                              refine R_icge (pc := 139) 149 dX9_findChains_139 (by decide) (fun b139_221 => ?_) (fun b139_221 => ?_)
                              · skip
                                refine R_aload_n (pc := 149) dX9_findChains_149 rfl rfl ?_
                                refine R_iload (pc := 150) dX9_findChains_150 rfl ?_
                                have hx222 : vp_in (nI j31) 20 := (vp_in_nI (by omega) (by decide))
                                refine R_iaload (pc := 152) dX9_findChains_152 (c_152 _) hx222 ?_
                                refine st_11_9_i_i (pc := 153) dX9_findChains_153 ?_
                                refine R_iconst (pc := 155) (v := 0) dX9_findChains_155 (by decide) ?_
                                refine st_11_10_i_i (pc := 156) dX9_findChains_156 ?_
                                have HL158 : ∀ (q j158 : Nat) (σ158 : Sg), j158 + q = 20 → 0 ≤ j158 → Inv σ158 → R G l yX9_findChains cX9_findChains 11 none 3 0 0 (QV (fun w2 => ∃ σ2, w2 = WW σ2 ∧ Inv σ2)) 158 [(some (.ref 140)), (some (.ref 152)), (some (.int m)), (some (.int u)), (some (.int y1)), (some (.int (nI j31))), (some (.int (nI j41))), (some (.int 1)), (some (.int (σ41.2.2.1 152 (Int32.toNatClampNeg (nI j31))))), (some (.int (σ41.2.2.1 152 (Int32.toNatClampNeg (nI j31))))), (some (.int (nI j158)))] [] (WW σ158) 0 0 := by
                                  intro q
                                  induction q with
                                  | zero =>
                                    intro j158 σ158 hj hs158 hI158
                                    obtain rfl : j158 = 20 := by omega
                                    refine R_iload (pc := 158) dX9_findChains_158 rfl ?_
                                    refine R_iload (pc := 160) dX9_findChains_160 rfl ?_
                                    refine R_icge (pc := 162) 198 dX9_findChains_162 (by decide) (fun _ => ?_) (fun h => absurd (Int32.not_lt.mp (inR_up hr2 (Int32.le_refl _) (by decide)).2) h)
                                    refine inc_11_6_1_i (pc := 198) dX9_findChains_198 ?_
                                    have r224 : inR ((nI j41) + 1) 1 20 := inR_add (show inR (nI j41) 0 19 from hr41) (show inR 1 1 1 from (inR_self _)) (by decide) (by decide)
                                    have e225 := ti_add (l := 1) (h := 20) (show inR (nI j41) 0 19 from hr41) (show inR 1 1 1 from (inR_self _)) (by decide) (by decide)
                                    refine R_goto (pc := 201) 41 dX9_findChains_201 (by decide) ?_
                                    rw [nI_1]
                                    exact ih41 (j41 + 1) _ _ _ _ _ (by omega) (by omega) hI158
                                  | succ q ih158 =>
                                    intro j158 σ158 hj hs158 hI158
                                    have hr158 : inR (nI j158) 0 19 := inR_ix hs158 (show j158 < 20 by omega) (by decide) (by decide) (by decide)
                                    have hlt158 : j158 < 20 := by omega
                                    refine R_iload (pc := 158) dX9_findChains_158 rfl ?_
                                    refine R_iload (pc := 160) dX9_findChains_160 rfl ?_
                                    refine R_icge (pc := 162) 198 dX9_findChains_162 (by decide) (fun b162_226 => ?_) (fun b162_226 => ?_)
                                    · skip
                                      refine inc_11_6_1_i (pc := 198) dX9_findChains_198 ?_
                                      have r227 : inR ((nI j41) + 1) 1 20 := inR_add (show inR (nI j41) 0 19 from hr41) (show inR 1 1 1 from (inR_self _)) (by decide) (by decide)
                                      have e228 := ti_add (l := 1) (h := 20) (show inR (nI j41) 0 19 from hr41) (show inR 1 1 1 from (inR_self _)) (by decide) (by decide)
                                      refine R_goto (pc := 201) 41 dX9_findChains_201 (by decide) ?_
                                      rw [nI_1]
                                      exact ih41 (j41 + 1) _ _ _ _ _ (by omega) (by omega) hI158
                                    · skip
                                      refine R_iload (pc := 165) dX9_findChains_165 rfl ?_
                                      refine R_ifeq (pc := 167) 198 dX9_findChains_167 (by decide) (fun h => absurd h (by decide)) (fun _ => ?_)
                                      refine R_aload_n (pc := 170) dX9_findChains_170 rfl rfl ?_
                                      refine R_iload (pc := 171) dX9_findChains_171 rfl ?_
                                      refine R_aload_n (pc := 173) dX9_findChains_173 rfl rfl ?_
                                      refine R_iload (pc := 174) dX9_findChains_174 rfl ?_
                                      have hx230 : vp_in (nI j158) 20 := (vp_in_nI (by omega) (by decide))
                                      refine R_iaload (pc := 176) dX9_findChains_176 (c_152 _) hx230 ?_
                                      refine R_iload (pc := 177) dX9_findChains_177 rfl ?_
                                      refine R_icne (pc := 179) 187 dX9_findChains_179 (by decide) (fun b179_231 => ?_) (fun b179_231 => ?_)
                                      · skip
                                        refine R_aload_n (pc := 187) dX9_findChains_187 rfl rfl ?_
                                        refine R_iload (pc := 188) dX9_findChains_188 rfl ?_
                                        have hx232 : vp_in (nI j158) 20 := (vp_in_nI (by omega) (by decide))
                                        refine R_iaload (pc := 190) dX9_findChains_190 (c_152 _) hx232 ?_
                                        have hx233 : vp_in (nI j158) 20 := (vp_in_nI (by omega) (by decide))
                                        refine W_iastore (pc := 191) dX9_findChains_191 (c_152 _) hx233 (a_152 _ _) ?_
                                        have hV234 := sa_152 hI158 (Int32.toNatClampNeg (nI j158)) (iva_152 hI158 _ (lt_of_vp hx230))
                                        refine inc_11_10_1_i (pc := 192) dX9_findChains_192 ?_
                                        have r235 : inR ((nI j158) + 1) 1 20 := inR_add (show inR (nI j158) 0 19 from hr158) (show inR 1 1 1 from (inR_self _)) (by decide) (by decide)
                                        have e236 := ti_add (l := 1) (h := 20) (show inR (nI j158) 0 19 from hr158) (show inR 1 1 1 from (inR_self _)) (by decide) (by decide)
                                        refine R_goto (pc := 195) 158 dX9_findChains_195 (by decide) ?_
                                        rw [nI_1]
                                        exact ih158 (j158 + 1) _ (by omega) (by omega) hV234
                                      · skip
                                        refine R_iload (pc := 182) dX9_findChains_182 rfl ?_
                                        refine R_goto (pc := 184) 191 dX9_findChains_184 (by decide) ?_
                                        have hx237 : vp_in (nI j158) 20 := (vp_in_nI (by omega) (by decide))
                                        refine W_iastore (pc := 191) dX9_findChains_191 (c_152 _) hx237 (a_152 _ _) ?_
                                        have hV238 := sa_152 hI158 (Int32.toNatClampNeg (nI j158)) (iva_152 hI41 _ (lt_of_vp hx116))
                                        refine inc_11_10_1_i (pc := 192) dX9_findChains_192 ?_
                                        have r239 : inR ((nI j158) + 1) 1 20 := inR_add (show inR (nI j158) 0 19 from hr158) (show inR 1 1 1 from (inR_self _)) (by decide) (by decide)
                                        have e240 := ti_add (l := 1) (h := 20) (show inR (nI j158) 0 19 from hr158) (show inR 1 1 1 from (inR_self _)) (by decide) (by decide)
                                        refine R_goto (pc := 195) 158 dX9_findChains_195 (by decide) ?_
                                        rw [nI_1]
                                        exact ih158 (j158 + 1) _ (by omega) (by omega) hV238
                                exact HL158 20 0 _ (by omega) (by omega) hI41
                              · skip
                                refine R_aload_n (pc := 142) dX9_findChains_142 rfl rfl ?_
                                refine R_iload (pc := 143) dX9_findChains_143 rfl ?_
                                have hx241 : vp_in (nI j41) 20 := (vp_in_nI (by omega) (by decide))
                                refine R_iaload (pc := 145) dX9_findChains_145 (c_152 _) hx241 ?_
                                refine R_goto (pc := 146) 153 dX9_findChains_146 (by decide) ?_
                                refine st_11_9_i_i (pc := 153) dX9_findChains_153 ?_
                                refine R_iconst (pc := 155) (v := 0) dX9_findChains_155 (by decide) ?_
                                refine st_11_10_i_i (pc := 156) dX9_findChains_156 ?_
                                have HL158 : ∀ (q j158 : Nat) (σ158 : Sg), j158 + q = 20 → 0 ≤ j158 → Inv σ158 → R G l yX9_findChains cX9_findChains 11 none 3 0 0 (QV (fun w2 => ∃ σ2, w2 = WW σ2 ∧ Inv σ2)) 158 [(some (.ref 140)), (some (.ref 152)), (some (.int m)), (some (.int u)), (some (.int y1)), (some (.int (nI j31))), (some (.int (nI j41))), (some (.int 1)), (some (.int (σ41.2.2.1 152 (Int32.toNatClampNeg (nI j31))))), (some (.int (σ41.2.2.1 152 (Int32.toNatClampNeg (nI j41))))), (some (.int (nI j158)))] [] (WW σ158) 0 0 := by
                                  intro q
                                  induction q with
                                  | zero =>
                                    intro j158 σ158 hj hs158 hI158
                                    obtain rfl : j158 = 20 := by omega
                                    refine R_iload (pc := 158) dX9_findChains_158 rfl ?_
                                    refine R_iload (pc := 160) dX9_findChains_160 rfl ?_
                                    refine R_icge (pc := 162) 198 dX9_findChains_162 (by decide) (fun _ => ?_) (fun h => absurd (Int32.not_lt.mp (inR_up hr2 (Int32.le_refl _) (by decide)).2) h)
                                    refine inc_11_6_1_i (pc := 198) dX9_findChains_198 ?_
                                    have r243 : inR ((nI j41) + 1) 1 20 := inR_add (show inR (nI j41) 0 19 from hr41) (show inR 1 1 1 from (inR_self _)) (by decide) (by decide)
                                    have e244 := ti_add (l := 1) (h := 20) (show inR (nI j41) 0 19 from hr41) (show inR 1 1 1 from (inR_self _)) (by decide) (by decide)
                                    refine R_goto (pc := 201) 41 dX9_findChains_201 (by decide) ?_
                                    rw [nI_1]
                                    exact ih41 (j41 + 1) _ _ _ _ _ (by omega) (by omega) hI158
                                  | succ q ih158 =>
                                    intro j158 σ158 hj hs158 hI158
                                    have hr158 : inR (nI j158) 0 19 := inR_ix hs158 (show j158 < 20 by omega) (by decide) (by decide) (by decide)
                                    have hlt158 : j158 < 20 := by omega
                                    refine R_iload (pc := 158) dX9_findChains_158 rfl ?_
                                    refine R_iload (pc := 160) dX9_findChains_160 rfl ?_
                                    refine R_icge (pc := 162) 198 dX9_findChains_162 (by decide) (fun b162_245 => ?_) (fun b162_245 => ?_)
                                    · skip
                                      refine inc_11_6_1_i (pc := 198) dX9_findChains_198 ?_
                                      have r246 : inR ((nI j41) + 1) 1 20 := inR_add (show inR (nI j41) 0 19 from hr41) (show inR 1 1 1 from (inR_self _)) (by decide) (by decide)
                                      have e247 := ti_add (l := 1) (h := 20) (show inR (nI j41) 0 19 from hr41) (show inR 1 1 1 from (inR_self _)) (by decide) (by decide)
                                      refine R_goto (pc := 201) 41 dX9_findChains_201 (by decide) ?_
                                      rw [nI_1]
                                      exact ih41 (j41 + 1) _ _ _ _ _ (by omega) (by omega) hI158
                                    · skip
                                      refine R_iload (pc := 165) dX9_findChains_165 rfl ?_
                                      refine R_ifeq (pc := 167) 198 dX9_findChains_167 (by decide) (fun h => absurd h (by decide)) (fun _ => ?_)
                                      refine R_aload_n (pc := 170) dX9_findChains_170 rfl rfl ?_
                                      refine R_iload (pc := 171) dX9_findChains_171 rfl ?_
                                      refine R_aload_n (pc := 173) dX9_findChains_173 rfl rfl ?_
                                      refine R_iload (pc := 174) dX9_findChains_174 rfl ?_
                                      have hx249 : vp_in (nI j158) 20 := (vp_in_nI (by omega) (by decide))
                                      refine R_iaload (pc := 176) dX9_findChains_176 (c_152 _) hx249 ?_
                                      refine R_iload (pc := 177) dX9_findChains_177 rfl ?_
                                      refine R_icne (pc := 179) 187 dX9_findChains_179 (by decide) (fun b179_250 => ?_) (fun b179_250 => ?_)
                                      · skip
                                        refine R_aload_n (pc := 187) dX9_findChains_187 rfl rfl ?_
                                        refine R_iload (pc := 188) dX9_findChains_188 rfl ?_
                                        have hx251 : vp_in (nI j158) 20 := (vp_in_nI (by omega) (by decide))
                                        refine R_iaload (pc := 190) dX9_findChains_190 (c_152 _) hx251 ?_
                                        have hx252 : vp_in (nI j158) 20 := (vp_in_nI (by omega) (by decide))
                                        refine W_iastore (pc := 191) dX9_findChains_191 (c_152 _) hx252 (a_152 _ _) ?_
                                        have hV253 := sa_152 hI158 (Int32.toNatClampNeg (nI j158)) (iva_152 hI158 _ (lt_of_vp hx249))
                                        refine inc_11_10_1_i (pc := 192) dX9_findChains_192 ?_
                                        have r254 : inR ((nI j158) + 1) 1 20 := inR_add (show inR (nI j158) 0 19 from hr158) (show inR 1 1 1 from (inR_self _)) (by decide) (by decide)
                                        have e255 := ti_add (l := 1) (h := 20) (show inR (nI j158) 0 19 from hr158) (show inR 1 1 1 from (inR_self _)) (by decide) (by decide)
                                        refine R_goto (pc := 195) 158 dX9_findChains_195 (by decide) ?_
                                        rw [nI_1]
                                        exact ih158 (j158 + 1) _ (by omega) (by omega) hV253
                                      · skip
                                        refine R_iload (pc := 182) dX9_findChains_182 rfl ?_
                                        refine R_goto (pc := 184) 191 dX9_findChains_184 (by decide) ?_
                                        have hx256 : vp_in (nI j158) 20 := (vp_in_nI (by omega) (by decide))
                                        refine W_iastore (pc := 191) dX9_findChains_191 (c_152 _) hx256 (a_152 _ _) ?_
                                        have hV257 := sa_152 hI158 (Int32.toNatClampNeg (nI j158)) (iva_152 hI41 _ (lt_of_vp hx116))
                                        refine inc_11_10_1_i (pc := 192) dX9_findChains_192 ?_
                                        have r258 : inR ((nI j158) + 1) 1 20 := inR_add (show inR (nI j158) 0 19 from hr158) (show inR 1 1 1 from (inR_self _)) (by decide) (by decide)
                                        have e259 := ti_add (l := 1) (h := 20) (show inR (nI j158) 0 19 from hr158) (show inR 1 1 1 from (inR_self _)) (by decide) (by decide)
                                        refine R_goto (pc := 195) 158 dX9_findChains_195 (by decide) ?_
                                        rw [nI_1]
                                        exact ih158 (j158 + 1) _ (by omega) (by omega) hV257
                                exact HL158 20 0 _ (by omega) (by omega) hI41
                          · skip
                            refine R_ifeq (pc := 97) 104 dX9_findChains_97 (by decide) (fun _ => ?_) (fun h => absurd (by decide) h)
                            refine R_iconst (pc := 104) (v := 0) dX9_findChains_104 (by decide) ?_
                            refine st_11_7_i_i (pc := 105) dX9_findChains_105 ?_
                            refine R_aload_n (pc := 107) dX9_findChains_107 rfl rfl ?_
                            refine R_iload (pc := 108) dX9_findChains_108 rfl ?_
                            have hx261 : vp_in (nI j31) 20 := (vp_in_nI (by omega) (by decide))
                            refine R_iaload (pc := 110) dX9_findChains_110 (c_152 _) hx261 ?_
                            refine R_aload_n (pc := 111) dX9_findChains_111 rfl rfl ?_
                            refine R_iload (pc := 112) dX9_findChains_112 rfl ?_
                            have hx262 : vp_in (nI j41) 20 := (vp_in_nI (by omega) (by decide))
                            refine R_iaload (pc := 114) dX9_findChains_114 (c_152 _) hx262 ?_
                            refine R_icge (pc := 115) 125 dX9_findChains_115 (by decide) (fun b115_263 => ?_) (fun b115_263 => ?_)
                            · skip
                              refine R_aload_n (pc := 125) dX9_findChains_125 rfl rfl ?_
                              refine R_iload (pc := 126) dX9_findChains_126 rfl ?_
                              have hx264 : vp_in (nI j41) 20 := (vp_in_nI (by omega) (by decide))
                              refine R_iaload (pc := 128) dX9_findChains_128 (c_152 _) hx264 ?_
                              refine st_11_8_i_i (pc := 129) dX9_findChains_129 ?_
                              refine R_aload_n (pc := 131) dX9_findChains_131 rfl rfl ?_
                              refine R_iload (pc := 132) dX9_findChains_132 rfl ?_
                              have hx265 : vp_in (nI j31) 20 := (vp_in_nI (by omega) (by decide))
                              refine R_iaload (pc := 134) dX9_findChains_134 (c_152 _) hx265 ?_
                              refine R_aload_n (pc := 135) dX9_findChains_135 rfl rfl ?_
                              refine R_iload (pc := 136) dX9_findChains_136 rfl ?_
                              have hx266 : vp_in (nI j41) 20 := (vp_in_nI (by omega) (by decide))
                              refine R_iaload (pc := 138) dX9_findChains_138 (c_152 _) hx266 ?_
                              refine R_icge (pc := 139) 149 dX9_findChains_139 (by decide) (fun b139_267 => ?_) (fun b139_267 => ?_)
                              · skip
                                refine R_aload_n (pc := 149) dX9_findChains_149 rfl rfl ?_
                                refine R_iload (pc := 150) dX9_findChains_150 rfl ?_
                                have hx268 : vp_in (nI j31) 20 := (vp_in_nI (by omega) (by decide))
                                refine R_iaload (pc := 152) dX9_findChains_152 (c_152 _) hx268 ?_
                                refine st_11_9_i_i (pc := 153) dX9_findChains_153 ?_
                                refine R_iconst (pc := 155) (v := 0) dX9_findChains_155 (by decide) ?_
                                refine st_11_10_i_i (pc := 156) dX9_findChains_156 ?_
                                have HL158 : ∀ (q j158 : Nat) (σ158 : Sg), j158 + q = 20 → 0 ≤ j158 → Inv σ158 → R G l yX9_findChains cX9_findChains 11 none 3 0 0 (QV (fun w2 => ∃ σ2, w2 = WW σ2 ∧ Inv σ2)) 158 [(some (.ref 140)), (some (.ref 152)), (some (.int m)), (some (.int u)), (some (.int y1)), (some (.int (nI j31))), (some (.int (nI j41))), (some (.int 0)), (some (.int (σ41.2.2.1 152 (Int32.toNatClampNeg (nI j41))))), (some (.int (σ41.2.2.1 152 (Int32.toNatClampNeg (nI j31))))), (some (.int (nI j158)))] [] (WW σ158) 0 0 := by
                                  intro q
                                  induction q with
                                  | zero =>
                                    intro j158 σ158 hj hs158 hI158
                                    obtain rfl : j158 = 20 := by omega
                                    refine R_iload (pc := 158) dX9_findChains_158 rfl ?_
                                    refine R_iload (pc := 160) dX9_findChains_160 rfl ?_
                                    refine R_icge (pc := 162) 198 dX9_findChains_162 (by decide) (fun _ => ?_) (fun h => absurd (Int32.not_lt.mp (inR_up hr2 (Int32.le_refl _) (by decide)).2) h)
                                    refine inc_11_6_1_i (pc := 198) dX9_findChains_198 ?_
                                    have r270 : inR ((nI j41) + 1) 1 20 := inR_add (show inR (nI j41) 0 19 from hr41) (show inR 1 1 1 from (inR_self _)) (by decide) (by decide)
                                    have e271 := ti_add (l := 1) (h := 20) (show inR (nI j41) 0 19 from hr41) (show inR 1 1 1 from (inR_self _)) (by decide) (by decide)
                                    refine R_goto (pc := 201) 41 dX9_findChains_201 (by decide) ?_
                                    rw [nI_1]
                                    exact ih41 (j41 + 1) _ _ _ _ _ (by omega) (by omega) hI158
                                  | succ q ih158 =>
                                    intro j158 σ158 hj hs158 hI158
                                    have hr158 : inR (nI j158) 0 19 := inR_ix hs158 (show j158 < 20 by omega) (by decide) (by decide) (by decide)
                                    have hlt158 : j158 < 20 := by omega
                                    refine R_iload (pc := 158) dX9_findChains_158 rfl ?_
                                    refine R_iload (pc := 160) dX9_findChains_160 rfl ?_
                                    refine R_icge (pc := 162) 198 dX9_findChains_162 (by decide) (fun b162_272 => ?_) (fun b162_272 => ?_)
                                    · skip
                                      refine inc_11_6_1_i (pc := 198) dX9_findChains_198 ?_
                                      have r273 : inR ((nI j41) + 1) 1 20 := inR_add (show inR (nI j41) 0 19 from hr41) (show inR 1 1 1 from (inR_self _)) (by decide) (by decide)
                                      have e274 := ti_add (l := 1) (h := 20) (show inR (nI j41) 0 19 from hr41) (show inR 1 1 1 from (inR_self _)) (by decide) (by decide)
                                      refine R_goto (pc := 201) 41 dX9_findChains_201 (by decide) ?_
                                      rw [nI_1]
                                      exact ih41 (j41 + 1) _ _ _ _ _ (by omega) (by omega) hI158
                                    · skip
                                      refine R_iload (pc := 165) dX9_findChains_165 rfl ?_
                                      refine R_ifeq (pc := 167) 198 dX9_findChains_167 (by decide) (fun _ => ?_) (fun h => absurd (by decide) h)
                                      refine inc_11_6_1_i (pc := 198) dX9_findChains_198 ?_
                                      have r276 : inR ((nI j41) + 1) 1 20 := inR_add (show inR (nI j41) 0 19 from hr41) (show inR 1 1 1 from (inR_self _)) (by decide) (by decide)
                                      have e277 := ti_add (l := 1) (h := 20) (show inR (nI j41) 0 19 from hr41) (show inR 1 1 1 from (inR_self _)) (by decide) (by decide)
                                      refine R_goto (pc := 201) 41 dX9_findChains_201 (by decide) ?_
                                      rw [nI_1]
                                      exact ih41 (j41 + 1) _ _ _ _ _ (by omega) (by omega) hI158
                                exact HL158 20 0 _ (by omega) (by omega) hI41
                              · skip
                                refine R_aload_n (pc := 142) dX9_findChains_142 rfl rfl ?_
                                refine R_iload (pc := 143) dX9_findChains_143 rfl ?_
                                have hx278 : vp_in (nI j41) 20 := (vp_in_nI (by omega) (by decide))
                                refine R_iaload (pc := 145) dX9_findChains_145 (c_152 _) hx278 ?_
                                refine R_goto (pc := 146) 153 dX9_findChains_146 (by decide) ?_
                                refine st_11_9_i_i (pc := 153) dX9_findChains_153 ?_
                                refine R_iconst (pc := 155) (v := 0) dX9_findChains_155 (by decide) ?_
                                refine st_11_10_i_i (pc := 156) dX9_findChains_156 ?_
                                have HL158 : ∀ (q j158 : Nat) (σ158 : Sg), j158 + q = 20 → 0 ≤ j158 → Inv σ158 → R G l yX9_findChains cX9_findChains 11 none 3 0 0 (QV (fun w2 => ∃ σ2, w2 = WW σ2 ∧ Inv σ2)) 158 [(some (.ref 140)), (some (.ref 152)), (some (.int m)), (some (.int u)), (some (.int y1)), (some (.int (nI j31))), (some (.int (nI j41))), (some (.int 0)), (some (.int (σ41.2.2.1 152 (Int32.toNatClampNeg (nI j41))))), (some (.int (σ41.2.2.1 152 (Int32.toNatClampNeg (nI j41))))), (some (.int (nI j158)))] [] (WW σ158) 0 0 := by
                                  intro q
                                  induction q with
                                  | zero =>
                                    intro j158 σ158 hj hs158 hI158
                                    obtain rfl : j158 = 20 := by omega
                                    refine R_iload (pc := 158) dX9_findChains_158 rfl ?_
                                    refine R_iload (pc := 160) dX9_findChains_160 rfl ?_
                                    refine R_icge (pc := 162) 198 dX9_findChains_162 (by decide) (fun _ => ?_) (fun h => absurd (Int32.not_lt.mp (inR_up hr2 (Int32.le_refl _) (by decide)).2) h)
                                    refine inc_11_6_1_i (pc := 198) dX9_findChains_198 ?_
                                    have r280 : inR ((nI j41) + 1) 1 20 := inR_add (show inR (nI j41) 0 19 from hr41) (show inR 1 1 1 from (inR_self _)) (by decide) (by decide)
                                    have e281 := ti_add (l := 1) (h := 20) (show inR (nI j41) 0 19 from hr41) (show inR 1 1 1 from (inR_self _)) (by decide) (by decide)
                                    refine R_goto (pc := 201) 41 dX9_findChains_201 (by decide) ?_
                                    rw [nI_1]
                                    exact ih41 (j41 + 1) _ _ _ _ _ (by omega) (by omega) hI158
                                  | succ q ih158 =>
                                    intro j158 σ158 hj hs158 hI158
                                    have hr158 : inR (nI j158) 0 19 := inR_ix hs158 (show j158 < 20 by omega) (by decide) (by decide) (by decide)
                                    have hlt158 : j158 < 20 := by omega
                                    refine R_iload (pc := 158) dX9_findChains_158 rfl ?_
                                    refine R_iload (pc := 160) dX9_findChains_160 rfl ?_
                                    refine R_icge (pc := 162) 198 dX9_findChains_162 (by decide) (fun b162_282 => ?_) (fun b162_282 => ?_)
                                    · skip
                                      refine inc_11_6_1_i (pc := 198) dX9_findChains_198 ?_
                                      have r283 : inR ((nI j41) + 1) 1 20 := inR_add (show inR (nI j41) 0 19 from hr41) (show inR 1 1 1 from (inR_self _)) (by decide) (by decide)
                                      have e284 := ti_add (l := 1) (h := 20) (show inR (nI j41) 0 19 from hr41) (show inR 1 1 1 from (inR_self _)) (by decide) (by decide)
                                      refine R_goto (pc := 201) 41 dX9_findChains_201 (by decide) ?_
                                      rw [nI_1]
                                      exact ih41 (j41 + 1) _ _ _ _ _ (by omega) (by omega) hI158
                                    · skip
                                      refine R_iload (pc := 165) dX9_findChains_165 rfl ?_
                                      refine R_ifeq (pc := 167) 198 dX9_findChains_167 (by decide) (fun _ => ?_) (fun h => absurd (by decide) h)
                                      refine inc_11_6_1_i (pc := 198) dX9_findChains_198 ?_
                                      have r286 : inR ((nI j41) + 1) 1 20 := inR_add (show inR (nI j41) 0 19 from hr41) (show inR 1 1 1 from (inR_self _)) (by decide) (by decide)
                                      have e287 := ti_add (l := 1) (h := 20) (show inR (nI j41) 0 19 from hr41) (show inR 1 1 1 from (inR_self _)) (by decide) (by decide)
                                      refine R_goto (pc := 201) 41 dX9_findChains_201 (by decide) ?_
                                      rw [nI_1]
                                      exact ih41 (j41 + 1) _ _ _ _ _ (by omega) (by omega) hI158
                                exact HL158 20 0 _ (by omega) (by omega) hI41
                            · skip
                              refine R_aload_n (pc := 118) dX9_findChains_118 rfl rfl ?_
                              refine R_iload (pc := 119) dX9_findChains_119 rfl ?_
                              have hx288 : vp_in (nI j31) 20 := (vp_in_nI (by omega) (by decide))
                              refine R_iaload (pc := 121) dX9_findChains_121 (c_152 _) hx288 ?_
                              refine R_goto (pc := 122) 129 dX9_findChains_122 (by decide) ?_
                              refine st_11_8_i_i (pc := 129) dX9_findChains_129 ?_
                              refine R_aload_n (pc := 131) dX9_findChains_131 rfl rfl ?_
                              refine R_iload (pc := 132) dX9_findChains_132 rfl ?_
                              have hx289 : vp_in (nI j31) 20 := (vp_in_nI (by omega) (by decide))
                              refine R_iaload (pc := 134) dX9_findChains_134 (c_152 _) hx289 ?_
                              refine R_aload_n (pc := 135) dX9_findChains_135 rfl rfl ?_
                              refine R_iload (pc := 136) dX9_findChains_136 rfl ?_
                              have hx290 : vp_in (nI j41) 20 := (vp_in_nI (by omega) (by decide))
                              refine R_iaload (pc := 138) dX9_findChains_138 (c_152 _) hx290 ?_
                              refine R_icge (pc := 139) 149 dX9_findChains_139 (by decide) (fun b139_291 => ?_) (fun b139_291 => ?_)
                              · skip
                                refine R_aload_n (pc := 149) dX9_findChains_149 rfl rfl ?_
                                refine R_iload (pc := 150) dX9_findChains_150 rfl ?_
                                have hx292 : vp_in (nI j31) 20 := (vp_in_nI (by omega) (by decide))
                                refine R_iaload (pc := 152) dX9_findChains_152 (c_152 _) hx292 ?_
                                refine st_11_9_i_i (pc := 153) dX9_findChains_153 ?_
                                refine R_iconst (pc := 155) (v := 0) dX9_findChains_155 (by decide) ?_
                                refine st_11_10_i_i (pc := 156) dX9_findChains_156 ?_
                                have HL158 : ∀ (q j158 : Nat) (σ158 : Sg), j158 + q = 20 → 0 ≤ j158 → Inv σ158 → R G l yX9_findChains cX9_findChains 11 none 3 0 0 (QV (fun w2 => ∃ σ2, w2 = WW σ2 ∧ Inv σ2)) 158 [(some (.ref 140)), (some (.ref 152)), (some (.int m)), (some (.int u)), (some (.int y1)), (some (.int (nI j31))), (some (.int (nI j41))), (some (.int 0)), (some (.int (σ41.2.2.1 152 (Int32.toNatClampNeg (nI j31))))), (some (.int (σ41.2.2.1 152 (Int32.toNatClampNeg (nI j31))))), (some (.int (nI j158)))] [] (WW σ158) 0 0 := by
                                  intro q
                                  induction q with
                                  | zero =>
                                    intro j158 σ158 hj hs158 hI158
                                    obtain rfl : j158 = 20 := by omega
                                    refine R_iload (pc := 158) dX9_findChains_158 rfl ?_
                                    refine R_iload (pc := 160) dX9_findChains_160 rfl ?_
                                    refine R_icge (pc := 162) 198 dX9_findChains_162 (by decide) (fun _ => ?_) (fun h => absurd (Int32.not_lt.mp (inR_up hr2 (Int32.le_refl _) (by decide)).2) h)
                                    refine inc_11_6_1_i (pc := 198) dX9_findChains_198 ?_
                                    have r294 : inR ((nI j41) + 1) 1 20 := inR_add (show inR (nI j41) 0 19 from hr41) (show inR 1 1 1 from (inR_self _)) (by decide) (by decide)
                                    have e295 := ti_add (l := 1) (h := 20) (show inR (nI j41) 0 19 from hr41) (show inR 1 1 1 from (inR_self _)) (by decide) (by decide)
                                    refine R_goto (pc := 201) 41 dX9_findChains_201 (by decide) ?_
                                    rw [nI_1]
                                    exact ih41 (j41 + 1) _ _ _ _ _ (by omega) (by omega) hI158
                                  | succ q ih158 =>
                                    intro j158 σ158 hj hs158 hI158
                                    have hr158 : inR (nI j158) 0 19 := inR_ix hs158 (show j158 < 20 by omega) (by decide) (by decide) (by decide)
                                    have hlt158 : j158 < 20 := by omega
                                    refine R_iload (pc := 158) dX9_findChains_158 rfl ?_
                                    refine R_iload (pc := 160) dX9_findChains_160 rfl ?_
                                    refine R_icge (pc := 162) 198 dX9_findChains_162 (by decide) (fun b162_296 => ?_) (fun b162_296 => ?_)
                                    · skip
                                      refine inc_11_6_1_i (pc := 198) dX9_findChains_198 ?_
                                      have r297 : inR ((nI j41) + 1) 1 20 := inR_add (show inR (nI j41) 0 19 from hr41) (show inR 1 1 1 from (inR_self _)) (by decide) (by decide)
                                      have e298 := ti_add (l := 1) (h := 20) (show inR (nI j41) 0 19 from hr41) (show inR 1 1 1 from (inR_self _)) (by decide) (by decide)
                                      refine R_goto (pc := 201) 41 dX9_findChains_201 (by decide) ?_
                                      rw [nI_1]
                                      exact ih41 (j41 + 1) _ _ _ _ _ (by omega) (by omega) hI158
                                    · skip
                                      refine R_iload (pc := 165) dX9_findChains_165 rfl ?_
                                      refine R_ifeq (pc := 167) 198 dX9_findChains_167 (by decide) (fun _ => ?_) (fun h => absurd (by decide) h)
                                      refine inc_11_6_1_i (pc := 198) dX9_findChains_198 ?_
                                      have r300 : inR ((nI j41) + 1) 1 20 := inR_add (show inR (nI j41) 0 19 from hr41) (show inR 1 1 1 from (inR_self _)) (by decide) (by decide)
                                      have e301 := ti_add (l := 1) (h := 20) (show inR (nI j41) 0 19 from hr41) (show inR 1 1 1 from (inR_self _)) (by decide) (by decide)
                                      refine R_goto (pc := 201) 41 dX9_findChains_201 (by decide) ?_
                                      rw [nI_1]
                                      exact ih41 (j41 + 1) _ _ _ _ _ (by omega) (by omega) hI158
                                exact HL158 20 0 _ (by omega) (by omega) hI41
                              · skip
                                refine R_aload_n (pc := 142) dX9_findChains_142 rfl rfl ?_
                                refine R_iload (pc := 143) dX9_findChains_143 rfl ?_
                                have hx302 : vp_in (nI j41) 20 := (vp_in_nI (by omega) (by decide))
                                refine R_iaload (pc := 145) dX9_findChains_145 (c_152 _) hx302 ?_
                                refine R_goto (pc := 146) 153 dX9_findChains_146 (by decide) ?_
                                refine st_11_9_i_i (pc := 153) dX9_findChains_153 ?_
                                refine R_iconst (pc := 155) (v := 0) dX9_findChains_155 (by decide) ?_
                                refine st_11_10_i_i (pc := 156) dX9_findChains_156 ?_
                                have HL158 : ∀ (q j158 : Nat) (σ158 : Sg), j158 + q = 20 → 0 ≤ j158 → Inv σ158 → R G l yX9_findChains cX9_findChains 11 none 3 0 0 (QV (fun w2 => ∃ σ2, w2 = WW σ2 ∧ Inv σ2)) 158 [(some (.ref 140)), (some (.ref 152)), (some (.int m)), (some (.int u)), (some (.int y1)), (some (.int (nI j31))), (some (.int (nI j41))), (some (.int 0)), (some (.int (σ41.2.2.1 152 (Int32.toNatClampNeg (nI j31))))), (some (.int (σ41.2.2.1 152 (Int32.toNatClampNeg (nI j41))))), (some (.int (nI j158)))] [] (WW σ158) 0 0 := by
                                  intro q
                                  induction q with
                                  | zero =>
                                    intro j158 σ158 hj hs158 hI158
                                    obtain rfl : j158 = 20 := by omega
                                    refine R_iload (pc := 158) dX9_findChains_158 rfl ?_
                                    refine R_iload (pc := 160) dX9_findChains_160 rfl ?_
                                    refine R_icge (pc := 162) 198 dX9_findChains_162 (by decide) (fun _ => ?_) (fun h => absurd (Int32.not_lt.mp (inR_up hr2 (Int32.le_refl _) (by decide)).2) h)
                                    refine inc_11_6_1_i (pc := 198) dX9_findChains_198 ?_
                                    have r304 : inR ((nI j41) + 1) 1 20 := inR_add (show inR (nI j41) 0 19 from hr41) (show inR 1 1 1 from (inR_self _)) (by decide) (by decide)
                                    have e305 := ti_add (l := 1) (h := 20) (show inR (nI j41) 0 19 from hr41) (show inR 1 1 1 from (inR_self _)) (by decide) (by decide)
                                    refine R_goto (pc := 201) 41 dX9_findChains_201 (by decide) ?_
                                    rw [nI_1]
                                    exact ih41 (j41 + 1) _ _ _ _ _ (by omega) (by omega) hI158
                                  | succ q ih158 =>
                                    intro j158 σ158 hj hs158 hI158
                                    have hr158 : inR (nI j158) 0 19 := inR_ix hs158 (show j158 < 20 by omega) (by decide) (by decide) (by decide)
                                    have hlt158 : j158 < 20 := by omega
                                    refine R_iload (pc := 158) dX9_findChains_158 rfl ?_
                                    refine R_iload (pc := 160) dX9_findChains_160 rfl ?_
                                    refine R_icge (pc := 162) 198 dX9_findChains_162 (by decide) (fun b162_306 => ?_) (fun b162_306 => ?_)
                                    · skip
                                      refine inc_11_6_1_i (pc := 198) dX9_findChains_198 ?_
                                      have r307 : inR ((nI j41) + 1) 1 20 := inR_add (show inR (nI j41) 0 19 from hr41) (show inR 1 1 1 from (inR_self _)) (by decide) (by decide)
                                      have e308 := ti_add (l := 1) (h := 20) (show inR (nI j41) 0 19 from hr41) (show inR 1 1 1 from (inR_self _)) (by decide) (by decide)
                                      refine R_goto (pc := 201) 41 dX9_findChains_201 (by decide) ?_
                                      rw [nI_1]
                                      exact ih41 (j41 + 1) _ _ _ _ _ (by omega) (by omega) hI158
                                    · skip
                                      refine R_iload (pc := 165) dX9_findChains_165 rfl ?_
                                      refine R_ifeq (pc := 167) 198 dX9_findChains_167 (by decide) (fun _ => ?_) (fun h => absurd (by decide) h)
                                      refine inc_11_6_1_i (pc := 198) dX9_findChains_198 ?_
                                      have r310 : inR ((nI j41) + 1) 1 20 := inR_add (show inR (nI j41) 0 19 from hr41) (show inR 1 1 1 from (inR_self _)) (by decide) (by decide)
                                      have e311 := ti_add (l := 1) (h := 20) (show inR (nI j41) 0 19 from hr41) (show inR 1 1 1 from (inR_self _)) (by decide) (by decide)
                                      refine R_goto (pc := 201) 41 dX9_findChains_201 (by decide) ?_
                                      rw [nI_1]
                                      exact ih41 (j41 + 1) _ _ _ _ _ (by omega) (by omega) hI158
                                exact HL158 20 0 _ (by omega) (by omega) hI41
                        · skip
                          refine R_aload_n (pc := 75) dX9_findChains_75 rfl rfl ?_
                          refine R_iload (pc := 76) dX9_findChains_76 rfl ?_
                          refine R_iload (pc := 78) dX9_findChains_78 rfl ?_
                          refine k_X9_159 (pc := 80) (gx_X9_isMatch _ _ _ hI41 hr31 hr41) rfl (c_140 _) (by decide) (Nat.le_refl _) (Nat.le_refl _) (Nat.le_of_ble_eq_true rfl) dX9_findChains_80 (fun y312 w2 h => ?_)
                          obtain ⟨σx314, rfl, hV313⟩ := h
                          refine R_ifeq (pc := 83) 104 dX9_findChains_83 (by decide) (fun b83_315 => ?_) (fun b83_315 => ?_)
                          · skip
                            refine R_iconst (pc := 104) (v := 0) dX9_findChains_104 (by decide) ?_
                            refine st_11_7_i_i (pc := 105) dX9_findChains_105 ?_
                            refine R_aload_n (pc := 107) dX9_findChains_107 rfl rfl ?_
                            refine R_iload (pc := 108) dX9_findChains_108 rfl ?_
                            have hx316 : vp_in (nI j31) 20 := (vp_in_nI (by omega) (by decide))
                            refine R_iaload (pc := 110) dX9_findChains_110 (c_152 _) hx316 ?_
                            refine R_aload_n (pc := 111) dX9_findChains_111 rfl rfl ?_
                            refine R_iload (pc := 112) dX9_findChains_112 rfl ?_
                            have hx317 : vp_in (nI j41) 20 := (vp_in_nI (by omega) (by decide))
                            refine R_iaload (pc := 114) dX9_findChains_114 (c_152 _) hx317 ?_
                            refine R_icge (pc := 115) 125 dX9_findChains_115 (by decide) (fun b115_318 => ?_) (fun b115_318 => ?_)
                            · skip
                              refine R_aload_n (pc := 125) dX9_findChains_125 rfl rfl ?_
                              refine R_iload (pc := 126) dX9_findChains_126 rfl ?_
                              have hx319 : vp_in (nI j41) 20 := (vp_in_nI (by omega) (by decide))
                              refine R_iaload (pc := 128) dX9_findChains_128 (c_152 _) hx319 ?_
                              refine st_11_8_i_i (pc := 129) dX9_findChains_129 ?_
                              refine R_aload_n (pc := 131) dX9_findChains_131 rfl rfl ?_
                              refine R_iload (pc := 132) dX9_findChains_132 rfl ?_
                              have hx320 : vp_in (nI j31) 20 := (vp_in_nI (by omega) (by decide))
                              refine R_iaload (pc := 134) dX9_findChains_134 (c_152 _) hx320 ?_
                              refine R_aload_n (pc := 135) dX9_findChains_135 rfl rfl ?_
                              refine R_iload (pc := 136) dX9_findChains_136 rfl ?_
                              have hx321 : vp_in (nI j41) 20 := (vp_in_nI (by omega) (by decide))
                              refine R_iaload (pc := 138) dX9_findChains_138 (c_152 _) hx321 ?_
                              refine R_icge (pc := 139) 149 dX9_findChains_139 (by decide) (fun b139_322 => ?_) (fun b139_322 => ?_)
                              · skip
                                refine R_aload_n (pc := 149) dX9_findChains_149 rfl rfl ?_
                                refine R_iload (pc := 150) dX9_findChains_150 rfl ?_
                                have hx323 : vp_in (nI j31) 20 := (vp_in_nI (by omega) (by decide))
                                refine R_iaload (pc := 152) dX9_findChains_152 (c_152 _) hx323 ?_
                                refine st_11_9_i_i (pc := 153) dX9_findChains_153 ?_
                                refine R_iconst (pc := 155) (v := 0) dX9_findChains_155 (by decide) ?_
                                refine st_11_10_i_i (pc := 156) dX9_findChains_156 ?_
                                have HL158 : ∀ (q j158 : Nat) (σ158 : Sg), j158 + q = 20 → 0 ≤ j158 → Inv σ158 → R G l yX9_findChains cX9_findChains 11 none 3 0 0 (QV (fun w2 => ∃ σ2, w2 = WW σ2 ∧ Inv σ2)) 158 [(some (.ref 140)), (some (.ref 152)), (some (.int m)), (some (.int u)), (some (.int y1)), (some (.int (nI j31))), (some (.int (nI j41))), (some (.int 0)), (some (.int (σx314.2.2.1 152 (Int32.toNatClampNeg (nI j41))))), (some (.int (σx314.2.2.1 152 (Int32.toNatClampNeg (nI j31))))), (some (.int (nI j158)))] [] (WW σ158) 0 0 := by
                                  intro q
                                  induction q with
                                  | zero =>
                                    intro j158 σ158 hj hs158 hI158
                                    obtain rfl : j158 = 20 := by omega
                                    refine R_iload (pc := 158) dX9_findChains_158 rfl ?_
                                    refine R_iload (pc := 160) dX9_findChains_160 rfl ?_
                                    refine R_icge (pc := 162) 198 dX9_findChains_162 (by decide) (fun _ => ?_) (fun h => absurd (Int32.not_lt.mp (inR_up hr2 (Int32.le_refl _) (by decide)).2) h)
                                    refine inc_11_6_1_i (pc := 198) dX9_findChains_198 ?_
                                    have r325 : inR ((nI j41) + 1) 1 20 := inR_add (show inR (nI j41) 0 19 from hr41) (show inR 1 1 1 from (inR_self _)) (by decide) (by decide)
                                    have e326 := ti_add (l := 1) (h := 20) (show inR (nI j41) 0 19 from hr41) (show inR 1 1 1 from (inR_self _)) (by decide) (by decide)
                                    refine R_goto (pc := 201) 41 dX9_findChains_201 (by decide) ?_
                                    rw [nI_1]
                                    exact ih41 (j41 + 1) _ _ _ _ _ (by omega) (by omega) hI158
                                  | succ q ih158 =>
                                    intro j158 σ158 hj hs158 hI158
                                    have hr158 : inR (nI j158) 0 19 := inR_ix hs158 (show j158 < 20 by omega) (by decide) (by decide) (by decide)
                                    have hlt158 : j158 < 20 := by omega
                                    refine R_iload (pc := 158) dX9_findChains_158 rfl ?_
                                    refine R_iload (pc := 160) dX9_findChains_160 rfl ?_
                                    refine R_icge (pc := 162) 198 dX9_findChains_162 (by decide) (fun b162_327 => ?_) (fun b162_327 => ?_)
                                    · skip
                                      refine inc_11_6_1_i (pc := 198) dX9_findChains_198 ?_
                                      have r328 : inR ((nI j41) + 1) 1 20 := inR_add (show inR (nI j41) 0 19 from hr41) (show inR 1 1 1 from (inR_self _)) (by decide) (by decide)
                                      have e329 := ti_add (l := 1) (h := 20) (show inR (nI j41) 0 19 from hr41) (show inR 1 1 1 from (inR_self _)) (by decide) (by decide)
                                      refine R_goto (pc := 201) 41 dX9_findChains_201 (by decide) ?_
                                      rw [nI_1]
                                      exact ih41 (j41 + 1) _ _ _ _ _ (by omega) (by omega) hI158
                                    · skip
                                      refine R_iload (pc := 165) dX9_findChains_165 rfl ?_
                                      refine R_ifeq (pc := 167) 198 dX9_findChains_167 (by decide) (fun _ => ?_) (fun h => absurd (by decide) h)
                                      refine inc_11_6_1_i (pc := 198) dX9_findChains_198 ?_
                                      have r331 : inR ((nI j41) + 1) 1 20 := inR_add (show inR (nI j41) 0 19 from hr41) (show inR 1 1 1 from (inR_self _)) (by decide) (by decide)
                                      have e332 := ti_add (l := 1) (h := 20) (show inR (nI j41) 0 19 from hr41) (show inR 1 1 1 from (inR_self _)) (by decide) (by decide)
                                      refine R_goto (pc := 201) 41 dX9_findChains_201 (by decide) ?_
                                      rw [nI_1]
                                      exact ih41 (j41 + 1) _ _ _ _ _ (by omega) (by omega) hI158
                                exact HL158 20 0 _ (by omega) (by omega) hV313
                              · skip
                                refine R_aload_n (pc := 142) dX9_findChains_142 rfl rfl ?_
                                refine R_iload (pc := 143) dX9_findChains_143 rfl ?_
                                have hx333 : vp_in (nI j41) 20 := (vp_in_nI (by omega) (by decide))
                                refine R_iaload (pc := 145) dX9_findChains_145 (c_152 _) hx333 ?_
                                refine R_goto (pc := 146) 153 dX9_findChains_146 (by decide) ?_
                                refine st_11_9_i_i (pc := 153) dX9_findChains_153 ?_
                                refine R_iconst (pc := 155) (v := 0) dX9_findChains_155 (by decide) ?_
                                refine st_11_10_i_i (pc := 156) dX9_findChains_156 ?_
                                have HL158 : ∀ (q j158 : Nat) (σ158 : Sg), j158 + q = 20 → 0 ≤ j158 → Inv σ158 → R G l yX9_findChains cX9_findChains 11 none 3 0 0 (QV (fun w2 => ∃ σ2, w2 = WW σ2 ∧ Inv σ2)) 158 [(some (.ref 140)), (some (.ref 152)), (some (.int m)), (some (.int u)), (some (.int y1)), (some (.int (nI j31))), (some (.int (nI j41))), (some (.int 0)), (some (.int (σx314.2.2.1 152 (Int32.toNatClampNeg (nI j41))))), (some (.int (σx314.2.2.1 152 (Int32.toNatClampNeg (nI j41))))), (some (.int (nI j158)))] [] (WW σ158) 0 0 := by
                                  intro q
                                  induction q with
                                  | zero =>
                                    intro j158 σ158 hj hs158 hI158
                                    obtain rfl : j158 = 20 := by omega
                                    refine R_iload (pc := 158) dX9_findChains_158 rfl ?_
                                    refine R_iload (pc := 160) dX9_findChains_160 rfl ?_
                                    refine R_icge (pc := 162) 198 dX9_findChains_162 (by decide) (fun _ => ?_) (fun h => absurd (Int32.not_lt.mp (inR_up hr2 (Int32.le_refl _) (by decide)).2) h)
                                    refine inc_11_6_1_i (pc := 198) dX9_findChains_198 ?_
                                    have r335 : inR ((nI j41) + 1) 1 20 := inR_add (show inR (nI j41) 0 19 from hr41) (show inR 1 1 1 from (inR_self _)) (by decide) (by decide)
                                    have e336 := ti_add (l := 1) (h := 20) (show inR (nI j41) 0 19 from hr41) (show inR 1 1 1 from (inR_self _)) (by decide) (by decide)
                                    refine R_goto (pc := 201) 41 dX9_findChains_201 (by decide) ?_
                                    rw [nI_1]
                                    exact ih41 (j41 + 1) _ _ _ _ _ (by omega) (by omega) hI158
                                  | succ q ih158 =>
                                    intro j158 σ158 hj hs158 hI158
                                    have hr158 : inR (nI j158) 0 19 := inR_ix hs158 (show j158 < 20 by omega) (by decide) (by decide) (by decide)
                                    have hlt158 : j158 < 20 := by omega
                                    refine R_iload (pc := 158) dX9_findChains_158 rfl ?_
                                    refine R_iload (pc := 160) dX9_findChains_160 rfl ?_
                                    refine R_icge (pc := 162) 198 dX9_findChains_162 (by decide) (fun b162_337 => ?_) (fun b162_337 => ?_)
                                    · skip
                                      refine inc_11_6_1_i (pc := 198) dX9_findChains_198 ?_
                                      have r338 : inR ((nI j41) + 1) 1 20 := inR_add (show inR (nI j41) 0 19 from hr41) (show inR 1 1 1 from (inR_self _)) (by decide) (by decide)
                                      have e339 := ti_add (l := 1) (h := 20) (show inR (nI j41) 0 19 from hr41) (show inR 1 1 1 from (inR_self _)) (by decide) (by decide)
                                      refine R_goto (pc := 201) 41 dX9_findChains_201 (by decide) ?_
                                      rw [nI_1]
                                      exact ih41 (j41 + 1) _ _ _ _ _ (by omega) (by omega) hI158
                                    · skip
                                      refine R_iload (pc := 165) dX9_findChains_165 rfl ?_
                                      refine R_ifeq (pc := 167) 198 dX9_findChains_167 (by decide) (fun _ => ?_) (fun h => absurd (by decide) h)
                                      refine inc_11_6_1_i (pc := 198) dX9_findChains_198 ?_
                                      have r341 : inR ((nI j41) + 1) 1 20 := inR_add (show inR (nI j41) 0 19 from hr41) (show inR 1 1 1 from (inR_self _)) (by decide) (by decide)
                                      have e342 := ti_add (l := 1) (h := 20) (show inR (nI j41) 0 19 from hr41) (show inR 1 1 1 from (inR_self _)) (by decide) (by decide)
                                      refine R_goto (pc := 201) 41 dX9_findChains_201 (by decide) ?_
                                      rw [nI_1]
                                      exact ih41 (j41 + 1) _ _ _ _ _ (by omega) (by omega) hI158
                                exact HL158 20 0 _ (by omega) (by omega) hV313
                            · skip
                              refine R_aload_n (pc := 118) dX9_findChains_118 rfl rfl ?_
                              refine R_iload (pc := 119) dX9_findChains_119 rfl ?_
                              have hx343 : vp_in (nI j31) 20 := (vp_in_nI (by omega) (by decide))
                              refine R_iaload (pc := 121) dX9_findChains_121 (c_152 _) hx343 ?_
                              refine R_goto (pc := 122) 129 dX9_findChains_122 (by decide) ?_
                              refine st_11_8_i_i (pc := 129) dX9_findChains_129 ?_
                              refine R_aload_n (pc := 131) dX9_findChains_131 rfl rfl ?_
                              refine R_iload (pc := 132) dX9_findChains_132 rfl ?_
                              have hx344 : vp_in (nI j31) 20 := (vp_in_nI (by omega) (by decide))
                              refine R_iaload (pc := 134) dX9_findChains_134 (c_152 _) hx344 ?_
                              refine R_aload_n (pc := 135) dX9_findChains_135 rfl rfl ?_
                              refine R_iload (pc := 136) dX9_findChains_136 rfl ?_
                              have hx345 : vp_in (nI j41) 20 := (vp_in_nI (by omega) (by decide))
                              refine R_iaload (pc := 138) dX9_findChains_138 (c_152 _) hx345 ?_
                              refine R_icge (pc := 139) 149 dX9_findChains_139 (by decide) (fun b139_346 => ?_) (fun b139_346 => ?_)
                              · skip
                                refine R_aload_n (pc := 149) dX9_findChains_149 rfl rfl ?_
                                refine R_iload (pc := 150) dX9_findChains_150 rfl ?_
                                have hx347 : vp_in (nI j31) 20 := (vp_in_nI (by omega) (by decide))
                                refine R_iaload (pc := 152) dX9_findChains_152 (c_152 _) hx347 ?_
                                refine st_11_9_i_i (pc := 153) dX9_findChains_153 ?_
                                refine R_iconst (pc := 155) (v := 0) dX9_findChains_155 (by decide) ?_
                                refine st_11_10_i_i (pc := 156) dX9_findChains_156 ?_
                                have HL158 : ∀ (q j158 : Nat) (σ158 : Sg), j158 + q = 20 → 0 ≤ j158 → Inv σ158 → R G l yX9_findChains cX9_findChains 11 none 3 0 0 (QV (fun w2 => ∃ σ2, w2 = WW σ2 ∧ Inv σ2)) 158 [(some (.ref 140)), (some (.ref 152)), (some (.int m)), (some (.int u)), (some (.int y1)), (some (.int (nI j31))), (some (.int (nI j41))), (some (.int 0)), (some (.int (σx314.2.2.1 152 (Int32.toNatClampNeg (nI j31))))), (some (.int (σx314.2.2.1 152 (Int32.toNatClampNeg (nI j31))))), (some (.int (nI j158)))] [] (WW σ158) 0 0 := by
                                  intro q
                                  induction q with
                                  | zero =>
                                    intro j158 σ158 hj hs158 hI158
                                    obtain rfl : j158 = 20 := by omega
                                    refine R_iload (pc := 158) dX9_findChains_158 rfl ?_
                                    refine R_iload (pc := 160) dX9_findChains_160 rfl ?_
                                    refine R_icge (pc := 162) 198 dX9_findChains_162 (by decide) (fun _ => ?_) (fun h => absurd (Int32.not_lt.mp (inR_up hr2 (Int32.le_refl _) (by decide)).2) h)
                                    refine inc_11_6_1_i (pc := 198) dX9_findChains_198 ?_
                                    have r349 : inR ((nI j41) + 1) 1 20 := inR_add (show inR (nI j41) 0 19 from hr41) (show inR 1 1 1 from (inR_self _)) (by decide) (by decide)
                                    have e350 := ti_add (l := 1) (h := 20) (show inR (nI j41) 0 19 from hr41) (show inR 1 1 1 from (inR_self _)) (by decide) (by decide)
                                    refine R_goto (pc := 201) 41 dX9_findChains_201 (by decide) ?_
                                    rw [nI_1]
                                    exact ih41 (j41 + 1) _ _ _ _ _ (by omega) (by omega) hI158
                                  | succ q ih158 =>
                                    intro j158 σ158 hj hs158 hI158
                                    have hr158 : inR (nI j158) 0 19 := inR_ix hs158 (show j158 < 20 by omega) (by decide) (by decide) (by decide)
                                    have hlt158 : j158 < 20 := by omega
                                    refine R_iload (pc := 158) dX9_findChains_158 rfl ?_
                                    refine R_iload (pc := 160) dX9_findChains_160 rfl ?_
                                    refine R_icge (pc := 162) 198 dX9_findChains_162 (by decide) (fun b162_351 => ?_) (fun b162_351 => ?_)
                                    · skip
                                      refine inc_11_6_1_i (pc := 198) dX9_findChains_198 ?_
                                      have r352 : inR ((nI j41) + 1) 1 20 := inR_add (show inR (nI j41) 0 19 from hr41) (show inR 1 1 1 from (inR_self _)) (by decide) (by decide)
                                      have e353 := ti_add (l := 1) (h := 20) (show inR (nI j41) 0 19 from hr41) (show inR 1 1 1 from (inR_self _)) (by decide) (by decide)
                                      refine R_goto (pc := 201) 41 dX9_findChains_201 (by decide) ?_
                                      rw [nI_1]
                                      exact ih41 (j41 + 1) _ _ _ _ _ (by omega) (by omega) hI158
                                    · skip
                                      refine R_iload (pc := 165) dX9_findChains_165 rfl ?_
                                      refine R_ifeq (pc := 167) 198 dX9_findChains_167 (by decide) (fun _ => ?_) (fun h => absurd (by decide) h)
                                      refine inc_11_6_1_i (pc := 198) dX9_findChains_198 ?_
                                      have r355 : inR ((nI j41) + 1) 1 20 := inR_add (show inR (nI j41) 0 19 from hr41) (show inR 1 1 1 from (inR_self _)) (by decide) (by decide)
                                      have e356 := ti_add (l := 1) (h := 20) (show inR (nI j41) 0 19 from hr41) (show inR 1 1 1 from (inR_self _)) (by decide) (by decide)
                                      refine R_goto (pc := 201) 41 dX9_findChains_201 (by decide) ?_
                                      rw [nI_1]
                                      exact ih41 (j41 + 1) _ _ _ _ _ (by omega) (by omega) hI158
                                exact HL158 20 0 _ (by omega) (by omega) hV313
                              · skip
                                refine R_aload_n (pc := 142) dX9_findChains_142 rfl rfl ?_
                                refine R_iload (pc := 143) dX9_findChains_143 rfl ?_
                                have hx357 : vp_in (nI j41) 20 := (vp_in_nI (by omega) (by decide))
                                refine R_iaload (pc := 145) dX9_findChains_145 (c_152 _) hx357 ?_
                                refine R_goto (pc := 146) 153 dX9_findChains_146 (by decide) ?_
                                refine st_11_9_i_i (pc := 153) dX9_findChains_153 ?_
                                refine R_iconst (pc := 155) (v := 0) dX9_findChains_155 (by decide) ?_
                                refine st_11_10_i_i (pc := 156) dX9_findChains_156 ?_
                                have HL158 : ∀ (q j158 : Nat) (σ158 : Sg), j158 + q = 20 → 0 ≤ j158 → Inv σ158 → R G l yX9_findChains cX9_findChains 11 none 3 0 0 (QV (fun w2 => ∃ σ2, w2 = WW σ2 ∧ Inv σ2)) 158 [(some (.ref 140)), (some (.ref 152)), (some (.int m)), (some (.int u)), (some (.int y1)), (some (.int (nI j31))), (some (.int (nI j41))), (some (.int 0)), (some (.int (σx314.2.2.1 152 (Int32.toNatClampNeg (nI j31))))), (some (.int (σx314.2.2.1 152 (Int32.toNatClampNeg (nI j41))))), (some (.int (nI j158)))] [] (WW σ158) 0 0 := by
                                  intro q
                                  induction q with
                                  | zero =>
                                    intro j158 σ158 hj hs158 hI158
                                    obtain rfl : j158 = 20 := by omega
                                    refine R_iload (pc := 158) dX9_findChains_158 rfl ?_
                                    refine R_iload (pc := 160) dX9_findChains_160 rfl ?_
                                    refine R_icge (pc := 162) 198 dX9_findChains_162 (by decide) (fun _ => ?_) (fun h => absurd (Int32.not_lt.mp (inR_up hr2 (Int32.le_refl _) (by decide)).2) h)
                                    refine inc_11_6_1_i (pc := 198) dX9_findChains_198 ?_
                                    have r359 : inR ((nI j41) + 1) 1 20 := inR_add (show inR (nI j41) 0 19 from hr41) (show inR 1 1 1 from (inR_self _)) (by decide) (by decide)
                                    have e360 := ti_add (l := 1) (h := 20) (show inR (nI j41) 0 19 from hr41) (show inR 1 1 1 from (inR_self _)) (by decide) (by decide)
                                    refine R_goto (pc := 201) 41 dX9_findChains_201 (by decide) ?_
                                    rw [nI_1]
                                    exact ih41 (j41 + 1) _ _ _ _ _ (by omega) (by omega) hI158
                                  | succ q ih158 =>
                                    intro j158 σ158 hj hs158 hI158
                                    have hr158 : inR (nI j158) 0 19 := inR_ix hs158 (show j158 < 20 by omega) (by decide) (by decide) (by decide)
                                    have hlt158 : j158 < 20 := by omega
                                    refine R_iload (pc := 158) dX9_findChains_158 rfl ?_
                                    refine R_iload (pc := 160) dX9_findChains_160 rfl ?_
                                    refine R_icge (pc := 162) 198 dX9_findChains_162 (by decide) (fun b162_361 => ?_) (fun b162_361 => ?_)
                                    · skip
                                      refine inc_11_6_1_i (pc := 198) dX9_findChains_198 ?_
                                      have r362 : inR ((nI j41) + 1) 1 20 := inR_add (show inR (nI j41) 0 19 from hr41) (show inR 1 1 1 from (inR_self _)) (by decide) (by decide)
                                      have e363 := ti_add (l := 1) (h := 20) (show inR (nI j41) 0 19 from hr41) (show inR 1 1 1 from (inR_self _)) (by decide) (by decide)
                                      refine R_goto (pc := 201) 41 dX9_findChains_201 (by decide) ?_
                                      rw [nI_1]
                                      exact ih41 (j41 + 1) _ _ _ _ _ (by omega) (by omega) hI158
                                    · skip
                                      refine R_iload (pc := 165) dX9_findChains_165 rfl ?_
                                      refine R_ifeq (pc := 167) 198 dX9_findChains_167 (by decide) (fun _ => ?_) (fun h => absurd (by decide) h)
                                      refine inc_11_6_1_i (pc := 198) dX9_findChains_198 ?_
                                      have r365 : inR ((nI j41) + 1) 1 20 := inR_add (show inR (nI j41) 0 19 from hr41) (show inR 1 1 1 from (inR_self _)) (by decide) (by decide)
                                      have e366 := ti_add (l := 1) (h := 20) (show inR (nI j41) 0 19 from hr41) (show inR 1 1 1 from (inR_self _)) (by decide) (by decide)
                                      refine R_goto (pc := 201) 41 dX9_findChains_201 (by decide) ?_
                                      rw [nI_1]
                                      exact ih41 (j41 + 1) _ _ _ _ _ (by omega) (by omega) hI158
                                exact HL158 20 0 _ (by omega) (by omega) hV313
                          · skip
                            refine R_goto (pc := 86) 100 dX9_findChains_86 (by decide) ?_
                            refine R_iconst (pc := 100) (v := 1) dX9_findChains_100 (by decide) ?_
                            refine R_goto (pc := 101) 105 dX9_findChains_101 (by decide) ?_
                            refine st_11_7_i_i (pc := 105) dX9_findChains_105 ?_
                            refine R_aload_n (pc := 107) dX9_findChains_107 rfl rfl ?_
                            refine R_iload (pc := 108) dX9_findChains_108 rfl ?_
                            have hx367 : vp_in (nI j31) 20 := (vp_in_nI (by omega) (by decide))
                            refine R_iaload (pc := 110) dX9_findChains_110 (c_152 _) hx367 ?_
                            refine R_aload_n (pc := 111) dX9_findChains_111 rfl rfl ?_
                            refine R_iload (pc := 112) dX9_findChains_112 rfl ?_
                            have hx368 : vp_in (nI j41) 20 := (vp_in_nI (by omega) (by decide))
                            refine R_iaload (pc := 114) dX9_findChains_114 (c_152 _) hx368 ?_
                            refine R_icge (pc := 115) 125 dX9_findChains_115 (by decide) (fun b115_369 => ?_) (fun b115_369 => ?_)
                            · skip
                              refine R_aload_n (pc := 125) dX9_findChains_125 rfl rfl ?_
                              refine R_iload (pc := 126) dX9_findChains_126 rfl ?_
                              have hx370 : vp_in (nI j41) 20 := (vp_in_nI (by omega) (by decide))
                              refine R_iaload (pc := 128) dX9_findChains_128 (c_152 _) hx370 ?_
                              refine st_11_8_i_i (pc := 129) dX9_findChains_129 ?_
                              refine R_aload_n (pc := 131) dX9_findChains_131 rfl rfl ?_
                              refine R_iload (pc := 132) dX9_findChains_132 rfl ?_
                              have hx371 : vp_in (nI j31) 20 := (vp_in_nI (by omega) (by decide))
                              refine R_iaload (pc := 134) dX9_findChains_134 (c_152 _) hx371 ?_
                              refine R_aload_n (pc := 135) dX9_findChains_135 rfl rfl ?_
                              refine R_iload (pc := 136) dX9_findChains_136 rfl ?_
                              have hx372 : vp_in (nI j41) 20 := (vp_in_nI (by omega) (by decide))
                              refine R_iaload (pc := 138) dX9_findChains_138 (c_152 _) hx372 ?_
                              refine R_icge (pc := 139) 149 dX9_findChains_139 (by decide) (fun b139_373 => ?_) (fun b139_373 => ?_)
                              · skip
                                refine R_aload_n (pc := 149) dX9_findChains_149 rfl rfl ?_
                                refine R_iload (pc := 150) dX9_findChains_150 rfl ?_
                                have hx374 : vp_in (nI j31) 20 := (vp_in_nI (by omega) (by decide))
                                refine R_iaload (pc := 152) dX9_findChains_152 (c_152 _) hx374 ?_
                                refine st_11_9_i_i (pc := 153) dX9_findChains_153 ?_
                                refine R_iconst (pc := 155) (v := 0) dX9_findChains_155 (by decide) ?_
                                refine st_11_10_i_i (pc := 156) dX9_findChains_156 ?_
                                have HL158 : ∀ (q j158 : Nat) (σ158 : Sg), j158 + q = 20 → 0 ≤ j158 → Inv σ158 → R G l yX9_findChains cX9_findChains 11 none 3 0 0 (QV (fun w2 => ∃ σ2, w2 = WW σ2 ∧ Inv σ2)) 158 [(some (.ref 140)), (some (.ref 152)), (some (.int m)), (some (.int u)), (some (.int y1)), (some (.int (nI j31))), (some (.int (nI j41))), (some (.int 1)), (some (.int (σx314.2.2.1 152 (Int32.toNatClampNeg (nI j41))))), (some (.int (σx314.2.2.1 152 (Int32.toNatClampNeg (nI j31))))), (some (.int (nI j158)))] [] (WW σ158) 0 0 := by
                                  intro q
                                  induction q with
                                  | zero =>
                                    intro j158 σ158 hj hs158 hI158
                                    obtain rfl : j158 = 20 := by omega
                                    refine R_iload (pc := 158) dX9_findChains_158 rfl ?_
                                    refine R_iload (pc := 160) dX9_findChains_160 rfl ?_
                                    refine R_icge (pc := 162) 198 dX9_findChains_162 (by decide) (fun _ => ?_) (fun h => absurd (Int32.not_lt.mp (inR_up hr2 (Int32.le_refl _) (by decide)).2) h)
                                    refine inc_11_6_1_i (pc := 198) dX9_findChains_198 ?_
                                    have r376 : inR ((nI j41) + 1) 1 20 := inR_add (show inR (nI j41) 0 19 from hr41) (show inR 1 1 1 from (inR_self _)) (by decide) (by decide)
                                    have e377 := ti_add (l := 1) (h := 20) (show inR (nI j41) 0 19 from hr41) (show inR 1 1 1 from (inR_self _)) (by decide) (by decide)
                                    refine R_goto (pc := 201) 41 dX9_findChains_201 (by decide) ?_
                                    rw [nI_1]
                                    exact ih41 (j41 + 1) _ _ _ _ _ (by omega) (by omega) hI158
                                  | succ q ih158 =>
                                    intro j158 σ158 hj hs158 hI158
                                    have hr158 : inR (nI j158) 0 19 := inR_ix hs158 (show j158 < 20 by omega) (by decide) (by decide) (by decide)
                                    have hlt158 : j158 < 20 := by omega
                                    refine R_iload (pc := 158) dX9_findChains_158 rfl ?_
                                    refine R_iload (pc := 160) dX9_findChains_160 rfl ?_
                                    refine R_icge (pc := 162) 198 dX9_findChains_162 (by decide) (fun b162_378 => ?_) (fun b162_378 => ?_)
                                    · skip
                                      refine inc_11_6_1_i (pc := 198) dX9_findChains_198 ?_
                                      have r379 : inR ((nI j41) + 1) 1 20 := inR_add (show inR (nI j41) 0 19 from hr41) (show inR 1 1 1 from (inR_self _)) (by decide) (by decide)
                                      have e380 := ti_add (l := 1) (h := 20) (show inR (nI j41) 0 19 from hr41) (show inR 1 1 1 from (inR_self _)) (by decide) (by decide)
                                      refine R_goto (pc := 201) 41 dX9_findChains_201 (by decide) ?_
                                      rw [nI_1]
                                      exact ih41 (j41 + 1) _ _ _ _ _ (by omega) (by omega) hI158
                                    · skip
                                      refine R_iload (pc := 165) dX9_findChains_165 rfl ?_
                                      refine R_ifeq (pc := 167) 198 dX9_findChains_167 (by decide) (fun h => absurd h (by decide)) (fun _ => ?_)
                                      refine R_aload_n (pc := 170) dX9_findChains_170 rfl rfl ?_
                                      refine R_iload (pc := 171) dX9_findChains_171 rfl ?_
                                      refine R_aload_n (pc := 173) dX9_findChains_173 rfl rfl ?_
                                      refine R_iload (pc := 174) dX9_findChains_174 rfl ?_
                                      have hx382 : vp_in (nI j158) 20 := (vp_in_nI (by omega) (by decide))
                                      refine R_iaload (pc := 176) dX9_findChains_176 (c_152 _) hx382 ?_
                                      refine R_iload (pc := 177) dX9_findChains_177 rfl ?_
                                      refine R_icne (pc := 179) 187 dX9_findChains_179 (by decide) (fun b179_383 => ?_) (fun b179_383 => ?_)
                                      · skip
                                        refine R_aload_n (pc := 187) dX9_findChains_187 rfl rfl ?_
                                        refine R_iload (pc := 188) dX9_findChains_188 rfl ?_
                                        have hx384 : vp_in (nI j158) 20 := (vp_in_nI (by omega) (by decide))
                                        refine R_iaload (pc := 190) dX9_findChains_190 (c_152 _) hx384 ?_
                                        have hx385 : vp_in (nI j158) 20 := (vp_in_nI (by omega) (by decide))
                                        refine W_iastore (pc := 191) dX9_findChains_191 (c_152 _) hx385 (a_152 _ _) ?_
                                        have hV386 := sa_152 hI158 (Int32.toNatClampNeg (nI j158)) (iva_152 hI158 _ (lt_of_vp hx382))
                                        refine inc_11_10_1_i (pc := 192) dX9_findChains_192 ?_
                                        have r387 : inR ((nI j158) + 1) 1 20 := inR_add (show inR (nI j158) 0 19 from hr158) (show inR 1 1 1 from (inR_self _)) (by decide) (by decide)
                                        have e388 := ti_add (l := 1) (h := 20) (show inR (nI j158) 0 19 from hr158) (show inR 1 1 1 from (inR_self _)) (by decide) (by decide)
                                        refine R_goto (pc := 195) 158 dX9_findChains_195 (by decide) ?_
                                        rw [nI_1]
                                        exact ih158 (j158 + 1) _ (by omega) (by omega) hV386
                                      · skip
                                        refine R_iload (pc := 182) dX9_findChains_182 rfl ?_
                                        refine R_goto (pc := 184) 191 dX9_findChains_184 (by decide) ?_
                                        have hx389 : vp_in (nI j158) 20 := (vp_in_nI (by omega) (by decide))
                                        refine W_iastore (pc := 191) dX9_findChains_191 (c_152 _) hx389 (a_152 _ _) ?_
                                        have hV390 := sa_152 hI158 (Int32.toNatClampNeg (nI j158)) (iva_152 hV313 _ (lt_of_vp hx368))
                                        refine inc_11_10_1_i (pc := 192) dX9_findChains_192 ?_
                                        have r391 : inR ((nI j158) + 1) 1 20 := inR_add (show inR (nI j158) 0 19 from hr158) (show inR 1 1 1 from (inR_self _)) (by decide) (by decide)
                                        have e392 := ti_add (l := 1) (h := 20) (show inR (nI j158) 0 19 from hr158) (show inR 1 1 1 from (inR_self _)) (by decide) (by decide)
                                        refine R_goto (pc := 195) 158 dX9_findChains_195 (by decide) ?_
                                        rw [nI_1]
                                        exact ih158 (j158 + 1) _ (by omega) (by omega) hV390
                                exact HL158 20 0 _ (by omega) (by omega) hV313
                              · skip
                                refine R_aload_n (pc := 142) dX9_findChains_142 rfl rfl ?_
                                refine R_iload (pc := 143) dX9_findChains_143 rfl ?_
                                have hx393 : vp_in (nI j41) 20 := (vp_in_nI (by omega) (by decide))
                                refine R_iaload (pc := 145) dX9_findChains_145 (c_152 _) hx393 ?_
                                refine R_goto (pc := 146) 153 dX9_findChains_146 (by decide) ?_
                                refine st_11_9_i_i (pc := 153) dX9_findChains_153 ?_
                                refine R_iconst (pc := 155) (v := 0) dX9_findChains_155 (by decide) ?_
                                refine st_11_10_i_i (pc := 156) dX9_findChains_156 ?_
                                have HL158 : ∀ (q j158 : Nat) (σ158 : Sg), j158 + q = 20 → 0 ≤ j158 → Inv σ158 → R G l yX9_findChains cX9_findChains 11 none 3 0 0 (QV (fun w2 => ∃ σ2, w2 = WW σ2 ∧ Inv σ2)) 158 [(some (.ref 140)), (some (.ref 152)), (some (.int m)), (some (.int u)), (some (.int y1)), (some (.int (nI j31))), (some (.int (nI j41))), (some (.int 1)), (some (.int (σx314.2.2.1 152 (Int32.toNatClampNeg (nI j41))))), (some (.int (σx314.2.2.1 152 (Int32.toNatClampNeg (nI j41))))), (some (.int (nI j158)))] [] (WW σ158) 0 0 := by
                                  intro q
                                  induction q with
                                  | zero =>
                                    intro j158 σ158 hj hs158 hI158
                                    obtain rfl : j158 = 20 := by omega
                                    refine R_iload (pc := 158) dX9_findChains_158 rfl ?_
                                    refine R_iload (pc := 160) dX9_findChains_160 rfl ?_
                                    refine R_icge (pc := 162) 198 dX9_findChains_162 (by decide) (fun _ => ?_) (fun h => absurd (Int32.not_lt.mp (inR_up hr2 (Int32.le_refl _) (by decide)).2) h)
                                    refine inc_11_6_1_i (pc := 198) dX9_findChains_198 ?_
                                    have r395 : inR ((nI j41) + 1) 1 20 := inR_add (show inR (nI j41) 0 19 from hr41) (show inR 1 1 1 from (inR_self _)) (by decide) (by decide)
                                    have e396 := ti_add (l := 1) (h := 20) (show inR (nI j41) 0 19 from hr41) (show inR 1 1 1 from (inR_self _)) (by decide) (by decide)
                                    refine R_goto (pc := 201) 41 dX9_findChains_201 (by decide) ?_
                                    rw [nI_1]
                                    exact ih41 (j41 + 1) _ _ _ _ _ (by omega) (by omega) hI158
                                  | succ q ih158 =>
                                    intro j158 σ158 hj hs158 hI158
                                    have hr158 : inR (nI j158) 0 19 := inR_ix hs158 (show j158 < 20 by omega) (by decide) (by decide) (by decide)
                                    have hlt158 : j158 < 20 := by omega
                                    refine R_iload (pc := 158) dX9_findChains_158 rfl ?_
                                    refine R_iload (pc := 160) dX9_findChains_160 rfl ?_
                                    refine R_icge (pc := 162) 198 dX9_findChains_162 (by decide) (fun b162_397 => ?_) (fun b162_397 => ?_)
                                    · skip
                                      refine inc_11_6_1_i (pc := 198) dX9_findChains_198 ?_
                                      have r398 : inR ((nI j41) + 1) 1 20 := inR_add (show inR (nI j41) 0 19 from hr41) (show inR 1 1 1 from (inR_self _)) (by decide) (by decide)
                                      have e399 := ti_add (l := 1) (h := 20) (show inR (nI j41) 0 19 from hr41) (show inR 1 1 1 from (inR_self _)) (by decide) (by decide)
                                      refine R_goto (pc := 201) 41 dX9_findChains_201 (by decide) ?_
                                      rw [nI_1]
                                      exact ih41 (j41 + 1) _ _ _ _ _ (by omega) (by omega) hI158
                                    · skip
                                      refine R_iload (pc := 165) dX9_findChains_165 rfl ?_
                                      refine R_ifeq (pc := 167) 198 dX9_findChains_167 (by decide) (fun h => absurd h (by decide)) (fun _ => ?_)
                                      refine R_aload_n (pc := 170) dX9_findChains_170 rfl rfl ?_
                                      refine R_iload (pc := 171) dX9_findChains_171 rfl ?_
                                      refine R_aload_n (pc := 173) dX9_findChains_173 rfl rfl ?_
                                      refine R_iload (pc := 174) dX9_findChains_174 rfl ?_
                                      have hx401 : vp_in (nI j158) 20 := (vp_in_nI (by omega) (by decide))
                                      refine R_iaload (pc := 176) dX9_findChains_176 (c_152 _) hx401 ?_
                                      refine R_iload (pc := 177) dX9_findChains_177 rfl ?_
                                      refine R_icne (pc := 179) 187 dX9_findChains_179 (by decide) (fun b179_402 => ?_) (fun b179_402 => ?_)
                                      · skip
                                        refine R_aload_n (pc := 187) dX9_findChains_187 rfl rfl ?_
                                        refine R_iload (pc := 188) dX9_findChains_188 rfl ?_
                                        have hx403 : vp_in (nI j158) 20 := (vp_in_nI (by omega) (by decide))
                                        refine R_iaload (pc := 190) dX9_findChains_190 (c_152 _) hx403 ?_
                                        have hx404 : vp_in (nI j158) 20 := (vp_in_nI (by omega) (by decide))
                                        refine W_iastore (pc := 191) dX9_findChains_191 (c_152 _) hx404 (a_152 _ _) ?_
                                        have hV405 := sa_152 hI158 (Int32.toNatClampNeg (nI j158)) (iva_152 hI158 _ (lt_of_vp hx401))
                                        refine inc_11_10_1_i (pc := 192) dX9_findChains_192 ?_
                                        have r406 : inR ((nI j158) + 1) 1 20 := inR_add (show inR (nI j158) 0 19 from hr158) (show inR 1 1 1 from (inR_self _)) (by decide) (by decide)
                                        have e407 := ti_add (l := 1) (h := 20) (show inR (nI j158) 0 19 from hr158) (show inR 1 1 1 from (inR_self _)) (by decide) (by decide)
                                        refine R_goto (pc := 195) 158 dX9_findChains_195 (by decide) ?_
                                        rw [nI_1]
                                        exact ih158 (j158 + 1) _ (by omega) (by omega) hV405
                                      · skip
                                        refine R_iload (pc := 182) dX9_findChains_182 rfl ?_
                                        refine R_goto (pc := 184) 191 dX9_findChains_184 (by decide) ?_
                                        have hx408 : vp_in (nI j158) 20 := (vp_in_nI (by omega) (by decide))
                                        refine W_iastore (pc := 191) dX9_findChains_191 (c_152 _) hx408 (a_152 _ _) ?_
                                        have hV409 := sa_152 hI158 (Int32.toNatClampNeg (nI j158)) (iva_152 hV313 _ (lt_of_vp hx368))
                                        refine inc_11_10_1_i (pc := 192) dX9_findChains_192 ?_
                                        have r410 : inR ((nI j158) + 1) 1 20 := inR_add (show inR (nI j158) 0 19 from hr158) (show inR 1 1 1 from (inR_self _)) (by decide) (by decide)
                                        have e411 := ti_add (l := 1) (h := 20) (show inR (nI j158) 0 19 from hr158) (show inR 1 1 1 from (inR_self _)) (by decide) (by decide)
                                        refine R_goto (pc := 195) 158 dX9_findChains_195 (by decide) ?_
                                        rw [nI_1]
                                        exact ih158 (j158 + 1) _ (by omega) (by omega) hV409
                                exact HL158 20 0 _ (by omega) (by omega) hV313
                            · skip
                              refine R_aload_n (pc := 118) dX9_findChains_118 rfl rfl ?_
                              refine R_iload (pc := 119) dX9_findChains_119 rfl ?_
                              have hx412 : vp_in (nI j31) 20 := (vp_in_nI (by omega) (by decide))
                              refine R_iaload (pc := 121) dX9_findChains_121 (c_152 _) hx412 ?_
                              refine R_goto (pc := 122) 129 dX9_findChains_122 (by decide) ?_
                              refine st_11_8_i_i (pc := 129) dX9_findChains_129 ?_
                              refine R_aload_n (pc := 131) dX9_findChains_131 rfl rfl ?_
                              refine R_iload (pc := 132) dX9_findChains_132 rfl ?_
                              have hx413 : vp_in (nI j31) 20 := (vp_in_nI (by omega) (by decide))
                              refine R_iaload (pc := 134) dX9_findChains_134 (c_152 _) hx413 ?_
                              refine R_aload_n (pc := 135) dX9_findChains_135 rfl rfl ?_
                              refine R_iload (pc := 136) dX9_findChains_136 rfl ?_
                              have hx414 : vp_in (nI j41) 20 := (vp_in_nI (by omega) (by decide))
                              refine R_iaload (pc := 138) dX9_findChains_138 (c_152 _) hx414 ?_
                              refine R_icge (pc := 139) 149 dX9_findChains_139 (by decide) (fun b139_415 => ?_) (fun b139_415 => ?_)
                              · skip
                                refine R_aload_n (pc := 149) dX9_findChains_149 rfl rfl ?_
                                refine R_iload (pc := 150) dX9_findChains_150 rfl ?_
                                have hx416 : vp_in (nI j31) 20 := (vp_in_nI (by omega) (by decide))
                                refine R_iaload (pc := 152) dX9_findChains_152 (c_152 _) hx416 ?_
                                refine st_11_9_i_i (pc := 153) dX9_findChains_153 ?_
                                refine R_iconst (pc := 155) (v := 0) dX9_findChains_155 (by decide) ?_
                                refine st_11_10_i_i (pc := 156) dX9_findChains_156 ?_
                                have HL158 : ∀ (q j158 : Nat) (σ158 : Sg), j158 + q = 20 → 0 ≤ j158 → Inv σ158 → R G l yX9_findChains cX9_findChains 11 none 3 0 0 (QV (fun w2 => ∃ σ2, w2 = WW σ2 ∧ Inv σ2)) 158 [(some (.ref 140)), (some (.ref 152)), (some (.int m)), (some (.int u)), (some (.int y1)), (some (.int (nI j31))), (some (.int (nI j41))), (some (.int 1)), (some (.int (σx314.2.2.1 152 (Int32.toNatClampNeg (nI j31))))), (some (.int (σx314.2.2.1 152 (Int32.toNatClampNeg (nI j31))))), (some (.int (nI j158)))] [] (WW σ158) 0 0 := by
                                  intro q
                                  induction q with
                                  | zero =>
                                    intro j158 σ158 hj hs158 hI158
                                    obtain rfl : j158 = 20 := by omega
                                    refine R_iload (pc := 158) dX9_findChains_158 rfl ?_
                                    refine R_iload (pc := 160) dX9_findChains_160 rfl ?_
                                    refine R_icge (pc := 162) 198 dX9_findChains_162 (by decide) (fun _ => ?_) (fun h => absurd (Int32.not_lt.mp (inR_up hr2 (Int32.le_refl _) (by decide)).2) h)
                                    refine inc_11_6_1_i (pc := 198) dX9_findChains_198 ?_
                                    have r418 : inR ((nI j41) + 1) 1 20 := inR_add (show inR (nI j41) 0 19 from hr41) (show inR 1 1 1 from (inR_self _)) (by decide) (by decide)
                                    have e419 := ti_add (l := 1) (h := 20) (show inR (nI j41) 0 19 from hr41) (show inR 1 1 1 from (inR_self _)) (by decide) (by decide)
                                    refine R_goto (pc := 201) 41 dX9_findChains_201 (by decide) ?_
                                    rw [nI_1]
                                    exact ih41 (j41 + 1) _ _ _ _ _ (by omega) (by omega) hI158
                                  | succ q ih158 =>
                                    intro j158 σ158 hj hs158 hI158
                                    have hr158 : inR (nI j158) 0 19 := inR_ix hs158 (show j158 < 20 by omega) (by decide) (by decide) (by decide)
                                    have hlt158 : j158 < 20 := by omega
                                    refine R_iload (pc := 158) dX9_findChains_158 rfl ?_
                                    refine R_iload (pc := 160) dX9_findChains_160 rfl ?_
                                    refine R_icge (pc := 162) 198 dX9_findChains_162 (by decide) (fun b162_420 => ?_) (fun b162_420 => ?_)
                                    · skip
                                      refine inc_11_6_1_i (pc := 198) dX9_findChains_198 ?_
                                      have r421 : inR ((nI j41) + 1) 1 20 := inR_add (show inR (nI j41) 0 19 from hr41) (show inR 1 1 1 from (inR_self _)) (by decide) (by decide)
                                      have e422 := ti_add (l := 1) (h := 20) (show inR (nI j41) 0 19 from hr41) (show inR 1 1 1 from (inR_self _)) (by decide) (by decide)
                                      refine R_goto (pc := 201) 41 dX9_findChains_201 (by decide) ?_
                                      rw [nI_1]
                                      exact ih41 (j41 + 1) _ _ _ _ _ (by omega) (by omega) hI158
                                    · skip
                                      refine R_iload (pc := 165) dX9_findChains_165 rfl ?_
                                      refine R_ifeq (pc := 167) 198 dX9_findChains_167 (by decide) (fun h => absurd h (by decide)) (fun _ => ?_)
                                      refine R_aload_n (pc := 170) dX9_findChains_170 rfl rfl ?_
                                      refine R_iload (pc := 171) dX9_findChains_171 rfl ?_
                                      refine R_aload_n (pc := 173) dX9_findChains_173 rfl rfl ?_
                                      refine R_iload (pc := 174) dX9_findChains_174 rfl ?_
                                      have hx424 : vp_in (nI j158) 20 := (vp_in_nI (by omega) (by decide))
                                      refine R_iaload (pc := 176) dX9_findChains_176 (c_152 _) hx424 ?_
                                      refine R_iload (pc := 177) dX9_findChains_177 rfl ?_
                                      refine R_icne (pc := 179) 187 dX9_findChains_179 (by decide) (fun b179_425 => ?_) (fun b179_425 => ?_)
                                      · skip
                                        refine R_aload_n (pc := 187) dX9_findChains_187 rfl rfl ?_
                                        refine R_iload (pc := 188) dX9_findChains_188 rfl ?_
                                        have hx426 : vp_in (nI j158) 20 := (vp_in_nI (by omega) (by decide))
                                        refine R_iaload (pc := 190) dX9_findChains_190 (c_152 _) hx426 ?_
                                        have hx427 : vp_in (nI j158) 20 := (vp_in_nI (by omega) (by decide))
                                        refine W_iastore (pc := 191) dX9_findChains_191 (c_152 _) hx427 (a_152 _ _) ?_
                                        have hV428 := sa_152 hI158 (Int32.toNatClampNeg (nI j158)) (iva_152 hI158 _ (lt_of_vp hx424))
                                        refine inc_11_10_1_i (pc := 192) dX9_findChains_192 ?_
                                        have r429 : inR ((nI j158) + 1) 1 20 := inR_add (show inR (nI j158) 0 19 from hr158) (show inR 1 1 1 from (inR_self _)) (by decide) (by decide)
                                        have e430 := ti_add (l := 1) (h := 20) (show inR (nI j158) 0 19 from hr158) (show inR 1 1 1 from (inR_self _)) (by decide) (by decide)
                                        refine R_goto (pc := 195) 158 dX9_findChains_195 (by decide) ?_
                                        rw [nI_1]
                                        exact ih158 (j158 + 1) _ (by omega) (by omega) hV428
                                      · skip
                                        refine R_iload (pc := 182) dX9_findChains_182 rfl ?_
                                        refine R_goto (pc := 184) 191 dX9_findChains_184 (by decide) ?_
                                        have hx431 : vp_in (nI j158) 20 := (vp_in_nI (by omega) (by decide))
                                        refine W_iastore (pc := 191) dX9_findChains_191 (c_152 _) hx431 (a_152 _ _) ?_
                                        have hV432 := sa_152 hI158 (Int32.toNatClampNeg (nI j158)) (iva_152 hV313 _ (lt_of_vp hx367))
                                        refine inc_11_10_1_i (pc := 192) dX9_findChains_192 ?_
                                        have r433 : inR ((nI j158) + 1) 1 20 := inR_add (show inR (nI j158) 0 19 from hr158) (show inR 1 1 1 from (inR_self _)) (by decide) (by decide)
                                        have e434 := ti_add (l := 1) (h := 20) (show inR (nI j158) 0 19 from hr158) (show inR 1 1 1 from (inR_self _)) (by decide) (by decide)
                                        refine R_goto (pc := 195) 158 dX9_findChains_195 (by decide) ?_
                                        rw [nI_1]
                                        exact ih158 (j158 + 1) _ (by omega) (by omega) hV432
                                exact HL158 20 0 _ (by omega) (by omega) hV313
                              · skip
                                refine R_aload_n (pc := 142) dX9_findChains_142 rfl rfl ?_
                                refine R_iload (pc := 143) dX9_findChains_143 rfl ?_
                                have hx435 : vp_in (nI j41) 20 := (vp_in_nI (by omega) (by decide))
                                refine R_iaload (pc := 145) dX9_findChains_145 (c_152 _) hx435 ?_
                                refine R_goto (pc := 146) 153 dX9_findChains_146 (by decide) ?_
                                refine st_11_9_i_i (pc := 153) dX9_findChains_153 ?_
                                refine R_iconst (pc := 155) (v := 0) dX9_findChains_155 (by decide) ?_
                                refine st_11_10_i_i (pc := 156) dX9_findChains_156 ?_
                                have HL158 : ∀ (q j158 : Nat) (σ158 : Sg), j158 + q = 20 → 0 ≤ j158 → Inv σ158 → R G l yX9_findChains cX9_findChains 11 none 3 0 0 (QV (fun w2 => ∃ σ2, w2 = WW σ2 ∧ Inv σ2)) 158 [(some (.ref 140)), (some (.ref 152)), (some (.int m)), (some (.int u)), (some (.int y1)), (some (.int (nI j31))), (some (.int (nI j41))), (some (.int 1)), (some (.int (σx314.2.2.1 152 (Int32.toNatClampNeg (nI j31))))), (some (.int (σx314.2.2.1 152 (Int32.toNatClampNeg (nI j41))))), (some (.int (nI j158)))] [] (WW σ158) 0 0 := by
                                  intro q
                                  induction q with
                                  | zero =>
                                    intro j158 σ158 hj hs158 hI158
                                    obtain rfl : j158 = 20 := by omega
                                    refine R_iload (pc := 158) dX9_findChains_158 rfl ?_
                                    refine R_iload (pc := 160) dX9_findChains_160 rfl ?_
                                    refine R_icge (pc := 162) 198 dX9_findChains_162 (by decide) (fun _ => ?_) (fun h => absurd (Int32.not_lt.mp (inR_up hr2 (Int32.le_refl _) (by decide)).2) h)
                                    refine inc_11_6_1_i (pc := 198) dX9_findChains_198 ?_
                                    have r437 : inR ((nI j41) + 1) 1 20 := inR_add (show inR (nI j41) 0 19 from hr41) (show inR 1 1 1 from (inR_self _)) (by decide) (by decide)
                                    have e438 := ti_add (l := 1) (h := 20) (show inR (nI j41) 0 19 from hr41) (show inR 1 1 1 from (inR_self _)) (by decide) (by decide)
                                    refine R_goto (pc := 201) 41 dX9_findChains_201 (by decide) ?_
                                    rw [nI_1]
                                    exact ih41 (j41 + 1) _ _ _ _ _ (by omega) (by omega) hI158
                                  | succ q ih158 =>
                                    intro j158 σ158 hj hs158 hI158
                                    have hr158 : inR (nI j158) 0 19 := inR_ix hs158 (show j158 < 20 by omega) (by decide) (by decide) (by decide)
                                    have hlt158 : j158 < 20 := by omega
                                    refine R_iload (pc := 158) dX9_findChains_158 rfl ?_
                                    refine R_iload (pc := 160) dX9_findChains_160 rfl ?_
                                    refine R_icge (pc := 162) 198 dX9_findChains_162 (by decide) (fun b162_439 => ?_) (fun b162_439 => ?_)
                                    · skip
                                      refine inc_11_6_1_i (pc := 198) dX9_findChains_198 ?_
                                      have r440 : inR ((nI j41) + 1) 1 20 := inR_add (show inR (nI j41) 0 19 from hr41) (show inR 1 1 1 from (inR_self _)) (by decide) (by decide)
                                      have e441 := ti_add (l := 1) (h := 20) (show inR (nI j41) 0 19 from hr41) (show inR 1 1 1 from (inR_self _)) (by decide) (by decide)
                                      refine R_goto (pc := 201) 41 dX9_findChains_201 (by decide) ?_
                                      rw [nI_1]
                                      exact ih41 (j41 + 1) _ _ _ _ _ (by omega) (by omega) hI158
                                    · skip
                                      refine R_iload (pc := 165) dX9_findChains_165 rfl ?_
                                      refine R_ifeq (pc := 167) 198 dX9_findChains_167 (by decide) (fun h => absurd h (by decide)) (fun _ => ?_)
                                      refine R_aload_n (pc := 170) dX9_findChains_170 rfl rfl ?_
                                      refine R_iload (pc := 171) dX9_findChains_171 rfl ?_
                                      refine R_aload_n (pc := 173) dX9_findChains_173 rfl rfl ?_
                                      refine R_iload (pc := 174) dX9_findChains_174 rfl ?_
                                      have hx443 : vp_in (nI j158) 20 := (vp_in_nI (by omega) (by decide))
                                      refine R_iaload (pc := 176) dX9_findChains_176 (c_152 _) hx443 ?_
                                      refine R_iload (pc := 177) dX9_findChains_177 rfl ?_
                                      refine R_icne (pc := 179) 187 dX9_findChains_179 (by decide) (fun b179_444 => ?_) (fun b179_444 => ?_)
                                      · skip
                                        refine R_aload_n (pc := 187) dX9_findChains_187 rfl rfl ?_
                                        refine R_iload (pc := 188) dX9_findChains_188 rfl ?_
                                        have hx445 : vp_in (nI j158) 20 := (vp_in_nI (by omega) (by decide))
                                        refine R_iaload (pc := 190) dX9_findChains_190 (c_152 _) hx445 ?_
                                        have hx446 : vp_in (nI j158) 20 := (vp_in_nI (by omega) (by decide))
                                        refine W_iastore (pc := 191) dX9_findChains_191 (c_152 _) hx446 (a_152 _ _) ?_
                                        have hV447 := sa_152 hI158 (Int32.toNatClampNeg (nI j158)) (iva_152 hI158 _ (lt_of_vp hx443))
                                        refine inc_11_10_1_i (pc := 192) dX9_findChains_192 ?_
                                        have r448 : inR ((nI j158) + 1) 1 20 := inR_add (show inR (nI j158) 0 19 from hr158) (show inR 1 1 1 from (inR_self _)) (by decide) (by decide)
                                        have e449 := ti_add (l := 1) (h := 20) (show inR (nI j158) 0 19 from hr158) (show inR 1 1 1 from (inR_self _)) (by decide) (by decide)
                                        refine R_goto (pc := 195) 158 dX9_findChains_195 (by decide) ?_
                                        rw [nI_1]
                                        exact ih158 (j158 + 1) _ (by omega) (by omega) hV447
                                      · skip
                                        refine R_iload (pc := 182) dX9_findChains_182 rfl ?_
                                        refine R_goto (pc := 184) 191 dX9_findChains_184 (by decide) ?_
                                        have hx450 : vp_in (nI j158) 20 := (vp_in_nI (by omega) (by decide))
                                        refine W_iastore (pc := 191) dX9_findChains_191 (c_152 _) hx450 (a_152 _ _) ?_
                                        have hV451 := sa_152 hI158 (Int32.toNatClampNeg (nI j158)) (iva_152 hV313 _ (lt_of_vp hx367))
                                        refine inc_11_10_1_i (pc := 192) dX9_findChains_192 ?_
                                        have r452 : inR ((nI j158) + 1) 1 20 := inR_add (show inR (nI j158) 0 19 from hr158) (show inR 1 1 1 from (inR_self _)) (by decide) (by decide)
                                        have e453 := ti_add (l := 1) (h := 20) (show inR (nI j158) 0 19 from hr158) (show inR 1 1 1 from (inR_self _)) (by decide) (by decide)
                                        refine R_goto (pc := 195) 158 dX9_findChains_195 (by decide) ?_
                                        rw [nI_1]
                                        exact ih158 (j158 + 1) _ (by omega) (by omega) hV451
                                exact HL158 20 0 _ (by omega) (by omega) hV313
            exact HL41 20 0 _ _ _ _ _ (by omega) (by omega) hI31
      exact HL31 20 0 _ _ _ _ _ _ (by omega) (by omega) hI9
    | succ q ih9 =>
      intro j9 σ9 hj hs9 hI9
      have hr9 : inR (nI j9) 0 19 := inR_ix hs9 (show j9 < 20 by omega) (by decide) (by decide) (by decide)
      have hlt9 : j9 < 20 := by omega
      refine R_iload (pc := 9) dX9_findChains_9 rfl ?_
      refine R_iload (pc := 11) dX9_findChains_11 rfl ?_
      refine R_icge (pc := 13) 28 dX9_findChains_13 (by decide) (fun b13_454 => ?_) (fun b13_454 => ?_)
      · skip
        refine R_iconst (pc := 28) (v := 0) dX9_findChains_28 (by decide) ?_
        refine st_11_5_i_i (pc := 29) dX9_findChains_29 ?_
        have HL31 : ∀ (q j31 : Nat) (σ31 : Sg) (g6_31 : Option Value) (g7_31 : Option Value) (g8_31 : Option Value) (g9_31 : Option Value) (g10_31 : Option Value), j31 + q = 20 → 0 ≤ j31 → Inv σ31 → R G l yX9_findChains cX9_findChains 11 none 3 0 0 (QV (fun w2 => ∃ σ2, w2 = WW σ2 ∧ Inv σ2)) 31 [(some (.ref 140)), (some (.ref 152)), (some (.int m)), (some (.int u)), (some (.int y1)), (some (.int (nI j31))), g6_31, g7_31, g8_31, g9_31, g10_31] [] (WW σ31) 0 0 := by
          intro q
          induction q with
          | zero =>
            intro j31 σ31 g6_31 g7_31 g8_31 g9_31 g10_31 hj hs31 hI31
            obtain rfl : j31 = 20 := by omega
            refine R_iload (pc := 31) dX9_findChains_31 rfl ?_
            refine R_iload (pc := 33) dX9_findChains_33 rfl ?_
            refine R_icge (pc := 35) 210 dX9_findChains_35 (by decide) (fun _ => ?_) (fun h => absurd (Int32.not_lt.mp (inR_up hr2 (Int32.le_refl _) (by decide)).2) h)
            exact R_vret (pc := 210) dX9_findChains_210 rfl (Nat.zero_le _) (Nat.zero_le _) ⟨rfl, _, rfl, hI31⟩
          | succ q ih31 =>
            intro j31 σ31 g6_31 g7_31 g8_31 g9_31 g10_31 hj hs31 hI31
            have hr31 : inR (nI j31) 0 19 := inR_ix hs31 (show j31 < 20 by omega) (by decide) (by decide) (by decide)
            have hlt31 : j31 < 20 := by omega
            refine R_iload (pc := 31) dX9_findChains_31 rfl ?_
            refine R_iload (pc := 33) dX9_findChains_33 rfl ?_
            refine R_icge (pc := 35) 210 dX9_findChains_35 (by decide) (fun b35_456 => ?_) (fun b35_456 => ?_)
            · skip
              exact R_vret (pc := 210) dX9_findChains_210 rfl (Nat.zero_le _) (Nat.zero_le _) ⟨rfl, _, rfl, hI31⟩
            · skip
              refine R_iconst (pc := 38) (v := 0) dX9_findChains_38 (by decide) ?_
              refine st_11_6_i_i (pc := 39) dX9_findChains_39 ?_
              have HL41 : ∀ (q j41 : Nat) (σ41 : Sg) (g7_41 : Option Value) (g8_41 : Option Value) (g9_41 : Option Value) (g10_41 : Option Value), j41 + q = 20 → 0 ≤ j41 → Inv σ41 → R G l yX9_findChains cX9_findChains 11 none 3 0 0 (QV (fun w2 => ∃ σ2, w2 = WW σ2 ∧ Inv σ2)) 41 [(some (.ref 140)), (some (.ref 152)), (some (.int m)), (some (.int u)), (some (.int y1)), (some (.int (nI j31))), (some (.int (nI j41))), g7_41, g8_41, g9_41, g10_41] [] (WW σ41) 0 0 := by
                intro q
                induction q with
                | zero =>
                  intro j41 σ41 g7_41 g8_41 g9_41 g10_41 hj hs41 hI41
                  obtain rfl : j41 = 20 := by omega
                  refine R_iload (pc := 41) dX9_findChains_41 rfl ?_
                  refine R_iload (pc := 43) dX9_findChains_43 rfl ?_
                  refine R_icge (pc := 45) 204 dX9_findChains_45 (by decide) (fun _ => ?_) (fun h => absurd (Int32.not_lt.mp (inR_up hr31 (Int32.le_refl _) (by decide)).2) h)
                  refine inc_11_5_1_i (pc := 204) dX9_findChains_204 ?_
                  have r458 : inR ((nI j31) + 1) 1 20 := inR_add (show inR (nI j31) 0 19 from hr31) (show inR 1 1 1 from (inR_self _)) (by decide) (by decide)
                  have e459 := ti_add (l := 1) (h := 20) (show inR (nI j31) 0 19 from hr31) (show inR 1 1 1 from (inR_self _)) (by decide) (by decide)
                  refine R_goto (pc := 207) 31 dX9_findChains_207 (by decide) ?_
                  rw [nI_1]
                  exact ih31 (j31 + 1) _ _ _ _ _ _ (by omega) (by omega) hI41
                | succ q ih41 =>
                  intro j41 σ41 g7_41 g8_41 g9_41 g10_41 hj hs41 hI41
                  have hr41 : inR (nI j41) 0 19 := inR_ix hs41 (show j41 < 20 by omega) (by decide) (by decide) (by decide)
                  have hlt41 : j41 < 20 := by omega
                  refine R_iload (pc := 41) dX9_findChains_41 rfl ?_
                  refine R_iload (pc := 43) dX9_findChains_43 rfl ?_
                  refine R_icge (pc := 45) 204 dX9_findChains_45 (by decide) (fun b45_460 => ?_) (fun b45_460 => ?_)
                  · skip
                    refine inc_11_5_1_i (pc := 204) dX9_findChains_204 ?_
                    have r461 : inR ((nI j31) + 1) 1 20 := inR_add (show inR (nI j31) 0 19 from hr31) (show inR 1 1 1 from (inR_self _)) (by decide) (by decide)
                    have e462 := ti_add (l := 1) (h := 20) (show inR (nI j31) 0 19 from hr31) (show inR 1 1 1 from (inR_self _)) (by decide) (by decide)
                    refine R_goto (pc := 207) 31 dX9_findChains_207 (by decide) ?_
                    rw [nI_1]
                    exact ih31 (j31 + 1) _ _ _ _ _ _ (by omega) (by omega) hI41
                  · skip
                    refine R_iload (pc := 48) dX9_findChains_48 rfl ?_
                    refine R_iload_n (pc := 50) dX9_findChains_50 rfl rfl ?_
                    refine R_iceq (pc := 51) 104 dX9_findChains_51 (by decide) (fun b51_463 => ?_) (fun b51_463 => ?_)
                    · skip
                      refine R_iconst (pc := 104) (v := 0) dX9_findChains_104 (by decide) ?_
                      refine st_11_7_i_i (pc := 105) dX9_findChains_105 ?_
                      refine R_aload_n (pc := 107) dX9_findChains_107 rfl rfl ?_
                      refine R_iload (pc := 108) dX9_findChains_108 rfl ?_
                      have hx464 : vp_in (nI j31) 20 := (vp_in_nI (by omega) (by decide))
                      refine R_iaload (pc := 110) dX9_findChains_110 (c_152 _) hx464 ?_
                      refine R_aload_n (pc := 111) dX9_findChains_111 rfl rfl ?_
                      refine R_iload (pc := 112) dX9_findChains_112 rfl ?_
                      have hx465 : vp_in (nI j41) 20 := (vp_in_nI (by omega) (by decide))
                      refine R_iaload (pc := 114) dX9_findChains_114 (c_152 _) hx465 ?_
                      refine R_icge (pc := 115) 125 dX9_findChains_115 (by decide) (fun b115_466 => ?_) (fun b115_466 => ?_)
                      · skip
                        refine R_aload_n (pc := 125) dX9_findChains_125 rfl rfl ?_
                        refine R_iload (pc := 126) dX9_findChains_126 rfl ?_
                        have hx467 : vp_in (nI j41) 20 := (vp_in_nI (by omega) (by decide))
                        refine R_iaload (pc := 128) dX9_findChains_128 (c_152 _) hx467 ?_
                        refine st_11_8_i_i (pc := 129) dX9_findChains_129 ?_
                        refine R_aload_n (pc := 131) dX9_findChains_131 rfl rfl ?_
                        refine R_iload (pc := 132) dX9_findChains_132 rfl ?_
                        have hx468 : vp_in (nI j31) 20 := (vp_in_nI (by omega) (by decide))
                        refine R_iaload (pc := 134) dX9_findChains_134 (c_152 _) hx468 ?_
                        refine R_aload_n (pc := 135) dX9_findChains_135 rfl rfl ?_
                        refine R_iload (pc := 136) dX9_findChains_136 rfl ?_
                        have hx469 : vp_in (nI j41) 20 := (vp_in_nI (by omega) (by decide))
                        refine R_iaload (pc := 138) dX9_findChains_138 (c_152 _) hx469 ?_
                        refine R_icge (pc := 139) 149 dX9_findChains_139 (by decide) (fun b139_470 => ?_) (fun b139_470 => ?_)
                        · skip
                          refine R_aload_n (pc := 149) dX9_findChains_149 rfl rfl ?_
                          refine R_iload (pc := 150) dX9_findChains_150 rfl ?_
                          have hx471 : vp_in (nI j31) 20 := (vp_in_nI (by omega) (by decide))
                          refine R_iaload (pc := 152) dX9_findChains_152 (c_152 _) hx471 ?_
                          refine st_11_9_i_i (pc := 153) dX9_findChains_153 ?_
                          refine R_iconst (pc := 155) (v := 0) dX9_findChains_155 (by decide) ?_
                          refine st_11_10_i_i (pc := 156) dX9_findChains_156 ?_
                          have HL158 : ∀ (q j158 : Nat) (σ158 : Sg), j158 + q = 20 → 0 ≤ j158 → Inv σ158 → R G l yX9_findChains cX9_findChains 11 none 3 0 0 (QV (fun w2 => ∃ σ2, w2 = WW σ2 ∧ Inv σ2)) 158 [(some (.ref 140)), (some (.ref 152)), (some (.int m)), (some (.int u)), (some (.int y1)), (some (.int (nI j31))), (some (.int (nI j41))), (some (.int 0)), (some (.int (σ41.2.2.1 152 (Int32.toNatClampNeg (nI j41))))), (some (.int (σ41.2.2.1 152 (Int32.toNatClampNeg (nI j31))))), (some (.int (nI j158)))] [] (WW σ158) 0 0 := by
                            intro q
                            induction q with
                            | zero =>
                              intro j158 σ158 hj hs158 hI158
                              obtain rfl : j158 = 20 := by omega
                              refine R_iload (pc := 158) dX9_findChains_158 rfl ?_
                              refine R_iload (pc := 160) dX9_findChains_160 rfl ?_
                              refine R_icge (pc := 162) 198 dX9_findChains_162 (by decide) (fun _ => ?_) (fun h => absurd (Int32.not_lt.mp (inR_up hr2 (Int32.le_refl _) (by decide)).2) h)
                              refine inc_11_6_1_i (pc := 198) dX9_findChains_198 ?_
                              have r473 : inR ((nI j41) + 1) 1 20 := inR_add (show inR (nI j41) 0 19 from hr41) (show inR 1 1 1 from (inR_self _)) (by decide) (by decide)
                              have e474 := ti_add (l := 1) (h := 20) (show inR (nI j41) 0 19 from hr41) (show inR 1 1 1 from (inR_self _)) (by decide) (by decide)
                              refine R_goto (pc := 201) 41 dX9_findChains_201 (by decide) ?_
                              rw [nI_1]
                              exact ih41 (j41 + 1) _ _ _ _ _ (by omega) (by omega) hI158
                            | succ q ih158 =>
                              intro j158 σ158 hj hs158 hI158
                              have hr158 : inR (nI j158) 0 19 := inR_ix hs158 (show j158 < 20 by omega) (by decide) (by decide) (by decide)
                              have hlt158 : j158 < 20 := by omega
                              refine R_iload (pc := 158) dX9_findChains_158 rfl ?_
                              refine R_iload (pc := 160) dX9_findChains_160 rfl ?_
                              refine R_icge (pc := 162) 198 dX9_findChains_162 (by decide) (fun b162_475 => ?_) (fun b162_475 => ?_)
                              · skip
                                refine inc_11_6_1_i (pc := 198) dX9_findChains_198 ?_
                                have r476 : inR ((nI j41) + 1) 1 20 := inR_add (show inR (nI j41) 0 19 from hr41) (show inR 1 1 1 from (inR_self _)) (by decide) (by decide)
                                have e477 := ti_add (l := 1) (h := 20) (show inR (nI j41) 0 19 from hr41) (show inR 1 1 1 from (inR_self _)) (by decide) (by decide)
                                refine R_goto (pc := 201) 41 dX9_findChains_201 (by decide) ?_
                                rw [nI_1]
                                exact ih41 (j41 + 1) _ _ _ _ _ (by omega) (by omega) hI158
                              · skip
                                refine R_iload (pc := 165) dX9_findChains_165 rfl ?_
                                refine R_ifeq (pc := 167) 198 dX9_findChains_167 (by decide) (fun _ => ?_) (fun h => absurd (by decide) h)
                                refine inc_11_6_1_i (pc := 198) dX9_findChains_198 ?_
                                have r479 : inR ((nI j41) + 1) 1 20 := inR_add (show inR (nI j41) 0 19 from hr41) (show inR 1 1 1 from (inR_self _)) (by decide) (by decide)
                                have e480 := ti_add (l := 1) (h := 20) (show inR (nI j41) 0 19 from hr41) (show inR 1 1 1 from (inR_self _)) (by decide) (by decide)
                                refine R_goto (pc := 201) 41 dX9_findChains_201 (by decide) ?_
                                rw [nI_1]
                                exact ih41 (j41 + 1) _ _ _ _ _ (by omega) (by omega) hI158
                          exact HL158 20 0 _ (by omega) (by omega) hI41
                        · skip
                          refine R_aload_n (pc := 142) dX9_findChains_142 rfl rfl ?_
                          refine R_iload (pc := 143) dX9_findChains_143 rfl ?_
                          have hx481 : vp_in (nI j41) 20 := (vp_in_nI (by omega) (by decide))
                          refine R_iaload (pc := 145) dX9_findChains_145 (c_152 _) hx481 ?_
                          refine R_goto (pc := 146) 153 dX9_findChains_146 (by decide) ?_
                          refine st_11_9_i_i (pc := 153) dX9_findChains_153 ?_
                          refine R_iconst (pc := 155) (v := 0) dX9_findChains_155 (by decide) ?_
                          refine st_11_10_i_i (pc := 156) dX9_findChains_156 ?_
                          have HL158 : ∀ (q j158 : Nat) (σ158 : Sg), j158 + q = 20 → 0 ≤ j158 → Inv σ158 → R G l yX9_findChains cX9_findChains 11 none 3 0 0 (QV (fun w2 => ∃ σ2, w2 = WW σ2 ∧ Inv σ2)) 158 [(some (.ref 140)), (some (.ref 152)), (some (.int m)), (some (.int u)), (some (.int y1)), (some (.int (nI j31))), (some (.int (nI j41))), (some (.int 0)), (some (.int (σ41.2.2.1 152 (Int32.toNatClampNeg (nI j41))))), (some (.int (σ41.2.2.1 152 (Int32.toNatClampNeg (nI j41))))), (some (.int (nI j158)))] [] (WW σ158) 0 0 := by
                            intro q
                            induction q with
                            | zero =>
                              intro j158 σ158 hj hs158 hI158
                              obtain rfl : j158 = 20 := by omega
                              refine R_iload (pc := 158) dX9_findChains_158 rfl ?_
                              refine R_iload (pc := 160) dX9_findChains_160 rfl ?_
                              refine R_icge (pc := 162) 198 dX9_findChains_162 (by decide) (fun _ => ?_) (fun h => absurd (Int32.not_lt.mp (inR_up hr2 (Int32.le_refl _) (by decide)).2) h)
                              refine inc_11_6_1_i (pc := 198) dX9_findChains_198 ?_
                              have r483 : inR ((nI j41) + 1) 1 20 := inR_add (show inR (nI j41) 0 19 from hr41) (show inR 1 1 1 from (inR_self _)) (by decide) (by decide)
                              have e484 := ti_add (l := 1) (h := 20) (show inR (nI j41) 0 19 from hr41) (show inR 1 1 1 from (inR_self _)) (by decide) (by decide)
                              refine R_goto (pc := 201) 41 dX9_findChains_201 (by decide) ?_
                              rw [nI_1]
                              exact ih41 (j41 + 1) _ _ _ _ _ (by omega) (by omega) hI158
                            | succ q ih158 =>
                              intro j158 σ158 hj hs158 hI158
                              have hr158 : inR (nI j158) 0 19 := inR_ix hs158 (show j158 < 20 by omega) (by decide) (by decide) (by decide)
                              have hlt158 : j158 < 20 := by omega
                              refine R_iload (pc := 158) dX9_findChains_158 rfl ?_
                              refine R_iload (pc := 160) dX9_findChains_160 rfl ?_
                              refine R_icge (pc := 162) 198 dX9_findChains_162 (by decide) (fun b162_485 => ?_) (fun b162_485 => ?_)
                              · skip
                                refine inc_11_6_1_i (pc := 198) dX9_findChains_198 ?_
                                have r486 : inR ((nI j41) + 1) 1 20 := inR_add (show inR (nI j41) 0 19 from hr41) (show inR 1 1 1 from (inR_self _)) (by decide) (by decide)
                                have e487 := ti_add (l := 1) (h := 20) (show inR (nI j41) 0 19 from hr41) (show inR 1 1 1 from (inR_self _)) (by decide) (by decide)
                                refine R_goto (pc := 201) 41 dX9_findChains_201 (by decide) ?_
                                rw [nI_1]
                                exact ih41 (j41 + 1) _ _ _ _ _ (by omega) (by omega) hI158
                              · skip
                                refine R_iload (pc := 165) dX9_findChains_165 rfl ?_
                                refine R_ifeq (pc := 167) 198 dX9_findChains_167 (by decide) (fun _ => ?_) (fun h => absurd (by decide) h)
                                refine inc_11_6_1_i (pc := 198) dX9_findChains_198 ?_
                                have r489 : inR ((nI j41) + 1) 1 20 := inR_add (show inR (nI j41) 0 19 from hr41) (show inR 1 1 1 from (inR_self _)) (by decide) (by decide)
                                have e490 := ti_add (l := 1) (h := 20) (show inR (nI j41) 0 19 from hr41) (show inR 1 1 1 from (inR_self _)) (by decide) (by decide)
                                refine R_goto (pc := 201) 41 dX9_findChains_201 (by decide) ?_
                                rw [nI_1]
                                exact ih41 (j41 + 1) _ _ _ _ _ (by omega) (by omega) hI158
                          exact HL158 20 0 _ (by omega) (by omega) hI41
                      · skip
                        refine R_aload_n (pc := 118) dX9_findChains_118 rfl rfl ?_
                        refine R_iload (pc := 119) dX9_findChains_119 rfl ?_
                        have hx491 : vp_in (nI j31) 20 := (vp_in_nI (by omega) (by decide))
                        refine R_iaload (pc := 121) dX9_findChains_121 (c_152 _) hx491 ?_
                        refine R_goto (pc := 122) 129 dX9_findChains_122 (by decide) ?_
                        refine st_11_8_i_i (pc := 129) dX9_findChains_129 ?_
                        refine R_aload_n (pc := 131) dX9_findChains_131 rfl rfl ?_
                        refine R_iload (pc := 132) dX9_findChains_132 rfl ?_
                        have hx492 : vp_in (nI j31) 20 := (vp_in_nI (by omega) (by decide))
                        refine R_iaload (pc := 134) dX9_findChains_134 (c_152 _) hx492 ?_
                        refine R_aload_n (pc := 135) dX9_findChains_135 rfl rfl ?_
                        refine R_iload (pc := 136) dX9_findChains_136 rfl ?_
                        have hx493 : vp_in (nI j41) 20 := (vp_in_nI (by omega) (by decide))
                        refine R_iaload (pc := 138) dX9_findChains_138 (c_152 _) hx493 ?_
                        refine R_icge (pc := 139) 149 dX9_findChains_139 (by decide) (fun b139_494 => ?_) (fun b139_494 => ?_)
                        · skip
                          refine R_aload_n (pc := 149) dX9_findChains_149 rfl rfl ?_
                          refine R_iload (pc := 150) dX9_findChains_150 rfl ?_
                          have hx495 : vp_in (nI j31) 20 := (vp_in_nI (by omega) (by decide))
                          refine R_iaload (pc := 152) dX9_findChains_152 (c_152 _) hx495 ?_
                          refine st_11_9_i_i (pc := 153) dX9_findChains_153 ?_
                          refine R_iconst (pc := 155) (v := 0) dX9_findChains_155 (by decide) ?_
                          refine st_11_10_i_i (pc := 156) dX9_findChains_156 ?_
                          have HL158 : ∀ (q j158 : Nat) (σ158 : Sg), j158 + q = 20 → 0 ≤ j158 → Inv σ158 → R G l yX9_findChains cX9_findChains 11 none 3 0 0 (QV (fun w2 => ∃ σ2, w2 = WW σ2 ∧ Inv σ2)) 158 [(some (.ref 140)), (some (.ref 152)), (some (.int m)), (some (.int u)), (some (.int y1)), (some (.int (nI j31))), (some (.int (nI j41))), (some (.int 0)), (some (.int (σ41.2.2.1 152 (Int32.toNatClampNeg (nI j31))))), (some (.int (σ41.2.2.1 152 (Int32.toNatClampNeg (nI j31))))), (some (.int (nI j158)))] [] (WW σ158) 0 0 := by
                            intro q
                            induction q with
                            | zero =>
                              intro j158 σ158 hj hs158 hI158
                              obtain rfl : j158 = 20 := by omega
                              refine R_iload (pc := 158) dX9_findChains_158 rfl ?_
                              refine R_iload (pc := 160) dX9_findChains_160 rfl ?_
                              refine R_icge (pc := 162) 198 dX9_findChains_162 (by decide) (fun _ => ?_) (fun h => absurd (Int32.not_lt.mp (inR_up hr2 (Int32.le_refl _) (by decide)).2) h)
                              refine inc_11_6_1_i (pc := 198) dX9_findChains_198 ?_
                              have r497 : inR ((nI j41) + 1) 1 20 := inR_add (show inR (nI j41) 0 19 from hr41) (show inR 1 1 1 from (inR_self _)) (by decide) (by decide)
                              have e498 := ti_add (l := 1) (h := 20) (show inR (nI j41) 0 19 from hr41) (show inR 1 1 1 from (inR_self _)) (by decide) (by decide)
                              refine R_goto (pc := 201) 41 dX9_findChains_201 (by decide) ?_
                              rw [nI_1]
                              exact ih41 (j41 + 1) _ _ _ _ _ (by omega) (by omega) hI158
                            | succ q ih158 =>
                              intro j158 σ158 hj hs158 hI158
                              have hr158 : inR (nI j158) 0 19 := inR_ix hs158 (show j158 < 20 by omega) (by decide) (by decide) (by decide)
                              have hlt158 : j158 < 20 := by omega
                              refine R_iload (pc := 158) dX9_findChains_158 rfl ?_
                              refine R_iload (pc := 160) dX9_findChains_160 rfl ?_
                              refine R_icge (pc := 162) 198 dX9_findChains_162 (by decide) (fun b162_499 => ?_) (fun b162_499 => ?_)
                              · skip
                                refine inc_11_6_1_i (pc := 198) dX9_findChains_198 ?_
                                have r500 : inR ((nI j41) + 1) 1 20 := inR_add (show inR (nI j41) 0 19 from hr41) (show inR 1 1 1 from (inR_self _)) (by decide) (by decide)
                                have e501 := ti_add (l := 1) (h := 20) (show inR (nI j41) 0 19 from hr41) (show inR 1 1 1 from (inR_self _)) (by decide) (by decide)
                                refine R_goto (pc := 201) 41 dX9_findChains_201 (by decide) ?_
                                rw [nI_1]
                                exact ih41 (j41 + 1) _ _ _ _ _ (by omega) (by omega) hI158
                              · skip
                                refine R_iload (pc := 165) dX9_findChains_165 rfl ?_
                                refine R_ifeq (pc := 167) 198 dX9_findChains_167 (by decide) (fun _ => ?_) (fun h => absurd (by decide) h)
                                refine inc_11_6_1_i (pc := 198) dX9_findChains_198 ?_
                                have r503 : inR ((nI j41) + 1) 1 20 := inR_add (show inR (nI j41) 0 19 from hr41) (show inR 1 1 1 from (inR_self _)) (by decide) (by decide)
                                have e504 := ti_add (l := 1) (h := 20) (show inR (nI j41) 0 19 from hr41) (show inR 1 1 1 from (inR_self _)) (by decide) (by decide)
                                refine R_goto (pc := 201) 41 dX9_findChains_201 (by decide) ?_
                                rw [nI_1]
                                exact ih41 (j41 + 1) _ _ _ _ _ (by omega) (by omega) hI158
                          exact HL158 20 0 _ (by omega) (by omega) hI41
                        · skip
                          refine R_aload_n (pc := 142) dX9_findChains_142 rfl rfl ?_
                          refine R_iload (pc := 143) dX9_findChains_143 rfl ?_
                          have hx505 : vp_in (nI j41) 20 := (vp_in_nI (by omega) (by decide))
                          refine R_iaload (pc := 145) dX9_findChains_145 (c_152 _) hx505 ?_
                          refine R_goto (pc := 146) 153 dX9_findChains_146 (by decide) ?_
                          refine st_11_9_i_i (pc := 153) dX9_findChains_153 ?_
                          refine R_iconst (pc := 155) (v := 0) dX9_findChains_155 (by decide) ?_
                          refine st_11_10_i_i (pc := 156) dX9_findChains_156 ?_
                          have HL158 : ∀ (q j158 : Nat) (σ158 : Sg), j158 + q = 20 → 0 ≤ j158 → Inv σ158 → R G l yX9_findChains cX9_findChains 11 none 3 0 0 (QV (fun w2 => ∃ σ2, w2 = WW σ2 ∧ Inv σ2)) 158 [(some (.ref 140)), (some (.ref 152)), (some (.int m)), (some (.int u)), (some (.int y1)), (some (.int (nI j31))), (some (.int (nI j41))), (some (.int 0)), (some (.int (σ41.2.2.1 152 (Int32.toNatClampNeg (nI j31))))), (some (.int (σ41.2.2.1 152 (Int32.toNatClampNeg (nI j41))))), (some (.int (nI j158)))] [] (WW σ158) 0 0 := by
                            intro q
                            induction q with
                            | zero =>
                              intro j158 σ158 hj hs158 hI158
                              obtain rfl : j158 = 20 := by omega
                              refine R_iload (pc := 158) dX9_findChains_158 rfl ?_
                              refine R_iload (pc := 160) dX9_findChains_160 rfl ?_
                              refine R_icge (pc := 162) 198 dX9_findChains_162 (by decide) (fun _ => ?_) (fun h => absurd (Int32.not_lt.mp (inR_up hr2 (Int32.le_refl _) (by decide)).2) h)
                              refine inc_11_6_1_i (pc := 198) dX9_findChains_198 ?_
                              have r507 : inR ((nI j41) + 1) 1 20 := inR_add (show inR (nI j41) 0 19 from hr41) (show inR 1 1 1 from (inR_self _)) (by decide) (by decide)
                              have e508 := ti_add (l := 1) (h := 20) (show inR (nI j41) 0 19 from hr41) (show inR 1 1 1 from (inR_self _)) (by decide) (by decide)
                              refine R_goto (pc := 201) 41 dX9_findChains_201 (by decide) ?_
                              rw [nI_1]
                              exact ih41 (j41 + 1) _ _ _ _ _ (by omega) (by omega) hI158
                            | succ q ih158 =>
                              intro j158 σ158 hj hs158 hI158
                              have hr158 : inR (nI j158) 0 19 := inR_ix hs158 (show j158 < 20 by omega) (by decide) (by decide) (by decide)
                              have hlt158 : j158 < 20 := by omega
                              refine R_iload (pc := 158) dX9_findChains_158 rfl ?_
                              refine R_iload (pc := 160) dX9_findChains_160 rfl ?_
                              refine R_icge (pc := 162) 198 dX9_findChains_162 (by decide) (fun b162_509 => ?_) (fun b162_509 => ?_)
                              · skip
                                refine inc_11_6_1_i (pc := 198) dX9_findChains_198 ?_
                                have r510 : inR ((nI j41) + 1) 1 20 := inR_add (show inR (nI j41) 0 19 from hr41) (show inR 1 1 1 from (inR_self _)) (by decide) (by decide)
                                have e511 := ti_add (l := 1) (h := 20) (show inR (nI j41) 0 19 from hr41) (show inR 1 1 1 from (inR_self _)) (by decide) (by decide)
                                refine R_goto (pc := 201) 41 dX9_findChains_201 (by decide) ?_
                                rw [nI_1]
                                exact ih41 (j41 + 1) _ _ _ _ _ (by omega) (by omega) hI158
                              · skip
                                refine R_iload (pc := 165) dX9_findChains_165 rfl ?_
                                refine R_ifeq (pc := 167) 198 dX9_findChains_167 (by decide) (fun _ => ?_) (fun h => absurd (by decide) h)
                                refine inc_11_6_1_i (pc := 198) dX9_findChains_198 ?_
                                have r513 : inR ((nI j41) + 1) 1 20 := inR_add (show inR (nI j41) 0 19 from hr41) (show inR 1 1 1 from (inR_self _)) (by decide) (by decide)
                                have e514 := ti_add (l := 1) (h := 20) (show inR (nI j41) 0 19 from hr41) (show inR 1 1 1 from (inR_self _)) (by decide) (by decide)
                                refine R_goto (pc := 201) 41 dX9_findChains_201 (by decide) ?_
                                rw [nI_1]
                                exact ih41 (j41 + 1) _ _ _ _ _ (by omega) (by omega) hI158
                          exact HL158 20 0 _ (by omega) (by omega) hI41
                    · skip
                      refine R_iload (pc := 54) dX9_findChains_54 rfl ?_
                      refine R_iload_n (pc := 56) dX9_findChains_56 rfl rfl ?_
                      refine R_iceq (pc := 57) 104 dX9_findChains_57 (by decide) (fun b57_515 => ?_) (fun b57_515 => ?_)
                      · skip
                        refine R_iconst (pc := 104) (v := 0) dX9_findChains_104 (by decide) ?_
                        refine st_11_7_i_i (pc := 105) dX9_findChains_105 ?_
                        refine R_aload_n (pc := 107) dX9_findChains_107 rfl rfl ?_
                        refine R_iload (pc := 108) dX9_findChains_108 rfl ?_
                        have hx516 : vp_in (nI j31) 20 := (vp_in_nI (by omega) (by decide))
                        refine R_iaload (pc := 110) dX9_findChains_110 (c_152 _) hx516 ?_
                        refine R_aload_n (pc := 111) dX9_findChains_111 rfl rfl ?_
                        refine R_iload (pc := 112) dX9_findChains_112 rfl ?_
                        have hx517 : vp_in (nI j41) 20 := (vp_in_nI (by omega) (by decide))
                        refine R_iaload (pc := 114) dX9_findChains_114 (c_152 _) hx517 ?_
                        refine R_icge (pc := 115) 125 dX9_findChains_115 (by decide) (fun b115_518 => ?_) (fun b115_518 => ?_)
                        · skip
                          refine R_aload_n (pc := 125) dX9_findChains_125 rfl rfl ?_
                          refine R_iload (pc := 126) dX9_findChains_126 rfl ?_
                          have hx519 : vp_in (nI j41) 20 := (vp_in_nI (by omega) (by decide))
                          refine R_iaload (pc := 128) dX9_findChains_128 (c_152 _) hx519 ?_
                          refine st_11_8_i_i (pc := 129) dX9_findChains_129 ?_
                          refine R_aload_n (pc := 131) dX9_findChains_131 rfl rfl ?_
                          refine R_iload (pc := 132) dX9_findChains_132 rfl ?_
                          have hx520 : vp_in (nI j31) 20 := (vp_in_nI (by omega) (by decide))
                          refine R_iaload (pc := 134) dX9_findChains_134 (c_152 _) hx520 ?_
                          refine R_aload_n (pc := 135) dX9_findChains_135 rfl rfl ?_
                          refine R_iload (pc := 136) dX9_findChains_136 rfl ?_
                          have hx521 : vp_in (nI j41) 20 := (vp_in_nI (by omega) (by decide))
                          refine R_iaload (pc := 138) dX9_findChains_138 (c_152 _) hx521 ?_
                          refine R_icge (pc := 139) 149 dX9_findChains_139 (by decide) (fun b139_522 => ?_) (fun b139_522 => ?_)
                          · skip
                            refine R_aload_n (pc := 149) dX9_findChains_149 rfl rfl ?_
                            refine R_iload (pc := 150) dX9_findChains_150 rfl ?_
                            have hx523 : vp_in (nI j31) 20 := (vp_in_nI (by omega) (by decide))
                            refine R_iaload (pc := 152) dX9_findChains_152 (c_152 _) hx523 ?_
                            refine st_11_9_i_i (pc := 153) dX9_findChains_153 ?_
                            refine R_iconst (pc := 155) (v := 0) dX9_findChains_155 (by decide) ?_
                            refine st_11_10_i_i (pc := 156) dX9_findChains_156 ?_
                            have HL158 : ∀ (q j158 : Nat) (σ158 : Sg), j158 + q = 20 → 0 ≤ j158 → Inv σ158 → R G l yX9_findChains cX9_findChains 11 none 3 0 0 (QV (fun w2 => ∃ σ2, w2 = WW σ2 ∧ Inv σ2)) 158 [(some (.ref 140)), (some (.ref 152)), (some (.int m)), (some (.int u)), (some (.int y1)), (some (.int (nI j31))), (some (.int (nI j41))), (some (.int 0)), (some (.int (σ41.2.2.1 152 (Int32.toNatClampNeg (nI j41))))), (some (.int (σ41.2.2.1 152 (Int32.toNatClampNeg (nI j31))))), (some (.int (nI j158)))] [] (WW σ158) 0 0 := by
                              intro q
                              induction q with
                              | zero =>
                                intro j158 σ158 hj hs158 hI158
                                obtain rfl : j158 = 20 := by omega
                                refine R_iload (pc := 158) dX9_findChains_158 rfl ?_
                                refine R_iload (pc := 160) dX9_findChains_160 rfl ?_
                                refine R_icge (pc := 162) 198 dX9_findChains_162 (by decide) (fun _ => ?_) (fun h => absurd (Int32.not_lt.mp (inR_up hr2 (Int32.le_refl _) (by decide)).2) h)
                                refine inc_11_6_1_i (pc := 198) dX9_findChains_198 ?_
                                have r525 : inR ((nI j41) + 1) 1 20 := inR_add (show inR (nI j41) 0 19 from hr41) (show inR 1 1 1 from (inR_self _)) (by decide) (by decide)
                                have e526 := ti_add (l := 1) (h := 20) (show inR (nI j41) 0 19 from hr41) (show inR 1 1 1 from (inR_self _)) (by decide) (by decide)
                                refine R_goto (pc := 201) 41 dX9_findChains_201 (by decide) ?_
                                rw [nI_1]
                                exact ih41 (j41 + 1) _ _ _ _ _ (by omega) (by omega) hI158
                              | succ q ih158 =>
                                intro j158 σ158 hj hs158 hI158
                                have hr158 : inR (nI j158) 0 19 := inR_ix hs158 (show j158 < 20 by omega) (by decide) (by decide) (by decide)
                                have hlt158 : j158 < 20 := by omega
                                refine R_iload (pc := 158) dX9_findChains_158 rfl ?_
                                refine R_iload (pc := 160) dX9_findChains_160 rfl ?_
                                refine R_icge (pc := 162) 198 dX9_findChains_162 (by decide) (fun b162_527 => ?_) (fun b162_527 => ?_)
                                · skip
                                  refine inc_11_6_1_i (pc := 198) dX9_findChains_198 ?_
                                  have r528 : inR ((nI j41) + 1) 1 20 := inR_add (show inR (nI j41) 0 19 from hr41) (show inR 1 1 1 from (inR_self _)) (by decide) (by decide)
                                  have e529 := ti_add (l := 1) (h := 20) (show inR (nI j41) 0 19 from hr41) (show inR 1 1 1 from (inR_self _)) (by decide) (by decide)
                                  refine R_goto (pc := 201) 41 dX9_findChains_201 (by decide) ?_
                                  rw [nI_1]
                                  exact ih41 (j41 + 1) _ _ _ _ _ (by omega) (by omega) hI158
                                · skip
                                  refine R_iload (pc := 165) dX9_findChains_165 rfl ?_
                                  refine R_ifeq (pc := 167) 198 dX9_findChains_167 (by decide) (fun _ => ?_) (fun h => absurd (by decide) h)
                                  refine inc_11_6_1_i (pc := 198) dX9_findChains_198 ?_
                                  have r531 : inR ((nI j41) + 1) 1 20 := inR_add (show inR (nI j41) 0 19 from hr41) (show inR 1 1 1 from (inR_self _)) (by decide) (by decide)
                                  have e532 := ti_add (l := 1) (h := 20) (show inR (nI j41) 0 19 from hr41) (show inR 1 1 1 from (inR_self _)) (by decide) (by decide)
                                  refine R_goto (pc := 201) 41 dX9_findChains_201 (by decide) ?_
                                  rw [nI_1]
                                  exact ih41 (j41 + 1) _ _ _ _ _ (by omega) (by omega) hI158
                            exact HL158 20 0 _ (by omega) (by omega) hI41
                          · skip
                            refine R_aload_n (pc := 142) dX9_findChains_142 rfl rfl ?_
                            refine R_iload (pc := 143) dX9_findChains_143 rfl ?_
                            have hx533 : vp_in (nI j41) 20 := (vp_in_nI (by omega) (by decide))
                            refine R_iaload (pc := 145) dX9_findChains_145 (c_152 _) hx533 ?_
                            refine R_goto (pc := 146) 153 dX9_findChains_146 (by decide) ?_
                            refine st_11_9_i_i (pc := 153) dX9_findChains_153 ?_
                            refine R_iconst (pc := 155) (v := 0) dX9_findChains_155 (by decide) ?_
                            refine st_11_10_i_i (pc := 156) dX9_findChains_156 ?_
                            have HL158 : ∀ (q j158 : Nat) (σ158 : Sg), j158 + q = 20 → 0 ≤ j158 → Inv σ158 → R G l yX9_findChains cX9_findChains 11 none 3 0 0 (QV (fun w2 => ∃ σ2, w2 = WW σ2 ∧ Inv σ2)) 158 [(some (.ref 140)), (some (.ref 152)), (some (.int m)), (some (.int u)), (some (.int y1)), (some (.int (nI j31))), (some (.int (nI j41))), (some (.int 0)), (some (.int (σ41.2.2.1 152 (Int32.toNatClampNeg (nI j41))))), (some (.int (σ41.2.2.1 152 (Int32.toNatClampNeg (nI j41))))), (some (.int (nI j158)))] [] (WW σ158) 0 0 := by
                              intro q
                              induction q with
                              | zero =>
                                intro j158 σ158 hj hs158 hI158
                                obtain rfl : j158 = 20 := by omega
                                refine R_iload (pc := 158) dX9_findChains_158 rfl ?_
                                refine R_iload (pc := 160) dX9_findChains_160 rfl ?_
                                refine R_icge (pc := 162) 198 dX9_findChains_162 (by decide) (fun _ => ?_) (fun h => absurd (Int32.not_lt.mp (inR_up hr2 (Int32.le_refl _) (by decide)).2) h)
                                refine inc_11_6_1_i (pc := 198) dX9_findChains_198 ?_
                                have r535 : inR ((nI j41) + 1) 1 20 := inR_add (show inR (nI j41) 0 19 from hr41) (show inR 1 1 1 from (inR_self _)) (by decide) (by decide)
                                have e536 := ti_add (l := 1) (h := 20) (show inR (nI j41) 0 19 from hr41) (show inR 1 1 1 from (inR_self _)) (by decide) (by decide)
                                refine R_goto (pc := 201) 41 dX9_findChains_201 (by decide) ?_
                                rw [nI_1]
                                exact ih41 (j41 + 1) _ _ _ _ _ (by omega) (by omega) hI158
                              | succ q ih158 =>
                                intro j158 σ158 hj hs158 hI158
                                have hr158 : inR (nI j158) 0 19 := inR_ix hs158 (show j158 < 20 by omega) (by decide) (by decide) (by decide)
                                have hlt158 : j158 < 20 := by omega
                                refine R_iload (pc := 158) dX9_findChains_158 rfl ?_
                                refine R_iload (pc := 160) dX9_findChains_160 rfl ?_
                                refine R_icge (pc := 162) 198 dX9_findChains_162 (by decide) (fun b162_537 => ?_) (fun b162_537 => ?_)
                                · skip
                                  refine inc_11_6_1_i (pc := 198) dX9_findChains_198 ?_
                                  have r538 : inR ((nI j41) + 1) 1 20 := inR_add (show inR (nI j41) 0 19 from hr41) (show inR 1 1 1 from (inR_self _)) (by decide) (by decide)
                                  have e539 := ti_add (l := 1) (h := 20) (show inR (nI j41) 0 19 from hr41) (show inR 1 1 1 from (inR_self _)) (by decide) (by decide)
                                  refine R_goto (pc := 201) 41 dX9_findChains_201 (by decide) ?_
                                  rw [nI_1]
                                  exact ih41 (j41 + 1) _ _ _ _ _ (by omega) (by omega) hI158
                                · skip
                                  refine R_iload (pc := 165) dX9_findChains_165 rfl ?_
                                  refine R_ifeq (pc := 167) 198 dX9_findChains_167 (by decide) (fun _ => ?_) (fun h => absurd (by decide) h)
                                  refine inc_11_6_1_i (pc := 198) dX9_findChains_198 ?_
                                  have r541 : inR ((nI j41) + 1) 1 20 := inR_add (show inR (nI j41) 0 19 from hr41) (show inR 1 1 1 from (inR_self _)) (by decide) (by decide)
                                  have e542 := ti_add (l := 1) (h := 20) (show inR (nI j41) 0 19 from hr41) (show inR 1 1 1 from (inR_self _)) (by decide) (by decide)
                                  refine R_goto (pc := 201) 41 dX9_findChains_201 (by decide) ?_
                                  rw [nI_1]
                                  exact ih41 (j41 + 1) _ _ _ _ _ (by omega) (by omega) hI158
                            exact HL158 20 0 _ (by omega) (by omega) hI41
                        · skip
                          refine R_aload_n (pc := 118) dX9_findChains_118 rfl rfl ?_
                          refine R_iload (pc := 119) dX9_findChains_119 rfl ?_
                          have hx543 : vp_in (nI j31) 20 := (vp_in_nI (by omega) (by decide))
                          refine R_iaload (pc := 121) dX9_findChains_121 (c_152 _) hx543 ?_
                          refine R_goto (pc := 122) 129 dX9_findChains_122 (by decide) ?_
                          refine st_11_8_i_i (pc := 129) dX9_findChains_129 ?_
                          refine R_aload_n (pc := 131) dX9_findChains_131 rfl rfl ?_
                          refine R_iload (pc := 132) dX9_findChains_132 rfl ?_
                          have hx544 : vp_in (nI j31) 20 := (vp_in_nI (by omega) (by decide))
                          refine R_iaload (pc := 134) dX9_findChains_134 (c_152 _) hx544 ?_
                          refine R_aload_n (pc := 135) dX9_findChains_135 rfl rfl ?_
                          refine R_iload (pc := 136) dX9_findChains_136 rfl ?_
                          have hx545 : vp_in (nI j41) 20 := (vp_in_nI (by omega) (by decide))
                          refine R_iaload (pc := 138) dX9_findChains_138 (c_152 _) hx545 ?_
                          refine R_icge (pc := 139) 149 dX9_findChains_139 (by decide) (fun b139_546 => ?_) (fun b139_546 => ?_)
                          · skip
                            refine R_aload_n (pc := 149) dX9_findChains_149 rfl rfl ?_
                            refine R_iload (pc := 150) dX9_findChains_150 rfl ?_
                            have hx547 : vp_in (nI j31) 20 := (vp_in_nI (by omega) (by decide))
                            refine R_iaload (pc := 152) dX9_findChains_152 (c_152 _) hx547 ?_
                            refine st_11_9_i_i (pc := 153) dX9_findChains_153 ?_
                            refine R_iconst (pc := 155) (v := 0) dX9_findChains_155 (by decide) ?_
                            refine st_11_10_i_i (pc := 156) dX9_findChains_156 ?_
                            have HL158 : ∀ (q j158 : Nat) (σ158 : Sg), j158 + q = 20 → 0 ≤ j158 → Inv σ158 → R G l yX9_findChains cX9_findChains 11 none 3 0 0 (QV (fun w2 => ∃ σ2, w2 = WW σ2 ∧ Inv σ2)) 158 [(some (.ref 140)), (some (.ref 152)), (some (.int m)), (some (.int u)), (some (.int y1)), (some (.int (nI j31))), (some (.int (nI j41))), (some (.int 0)), (some (.int (σ41.2.2.1 152 (Int32.toNatClampNeg (nI j31))))), (some (.int (σ41.2.2.1 152 (Int32.toNatClampNeg (nI j31))))), (some (.int (nI j158)))] [] (WW σ158) 0 0 := by
                              intro q
                              induction q with
                              | zero =>
                                intro j158 σ158 hj hs158 hI158
                                obtain rfl : j158 = 20 := by omega
                                refine R_iload (pc := 158) dX9_findChains_158 rfl ?_
                                refine R_iload (pc := 160) dX9_findChains_160 rfl ?_
                                refine R_icge (pc := 162) 198 dX9_findChains_162 (by decide) (fun _ => ?_) (fun h => absurd (Int32.not_lt.mp (inR_up hr2 (Int32.le_refl _) (by decide)).2) h)
                                refine inc_11_6_1_i (pc := 198) dX9_findChains_198 ?_
                                have r549 : inR ((nI j41) + 1) 1 20 := inR_add (show inR (nI j41) 0 19 from hr41) (show inR 1 1 1 from (inR_self _)) (by decide) (by decide)
                                have e550 := ti_add (l := 1) (h := 20) (show inR (nI j41) 0 19 from hr41) (show inR 1 1 1 from (inR_self _)) (by decide) (by decide)
                                refine R_goto (pc := 201) 41 dX9_findChains_201 (by decide) ?_
                                rw [nI_1]
                                exact ih41 (j41 + 1) _ _ _ _ _ (by omega) (by omega) hI158
                              | succ q ih158 =>
                                intro j158 σ158 hj hs158 hI158
                                have hr158 : inR (nI j158) 0 19 := inR_ix hs158 (show j158 < 20 by omega) (by decide) (by decide) (by decide)
                                have hlt158 : j158 < 20 := by omega
                                refine R_iload (pc := 158) dX9_findChains_158 rfl ?_
                                refine R_iload (pc := 160) dX9_findChains_160 rfl ?_
                                refine R_icge (pc := 162) 198 dX9_findChains_162 (by decide) (fun b162_551 => ?_) (fun b162_551 => ?_)
                                · skip
                                  refine inc_11_6_1_i (pc := 198) dX9_findChains_198 ?_
                                  have r552 : inR ((nI j41) + 1) 1 20 := inR_add (show inR (nI j41) 0 19 from hr41) (show inR 1 1 1 from (inR_self _)) (by decide) (by decide)
                                  have e553 := ti_add (l := 1) (h := 20) (show inR (nI j41) 0 19 from hr41) (show inR 1 1 1 from (inR_self _)) (by decide) (by decide)
                                  refine R_goto (pc := 201) 41 dX9_findChains_201 (by decide) ?_
                                  rw [nI_1]
                                  exact ih41 (j41 + 1) _ _ _ _ _ (by omega) (by omega) hI158
                                · skip
                                  refine R_iload (pc := 165) dX9_findChains_165 rfl ?_
                                  refine R_ifeq (pc := 167) 198 dX9_findChains_167 (by decide) (fun _ => ?_) (fun h => absurd (by decide) h)
                                  refine inc_11_6_1_i (pc := 198) dX9_findChains_198 ?_
                                  have r555 : inR ((nI j41) + 1) 1 20 := inR_add (show inR (nI j41) 0 19 from hr41) (show inR 1 1 1 from (inR_self _)) (by decide) (by decide)
                                  have e556 := ti_add (l := 1) (h := 20) (show inR (nI j41) 0 19 from hr41) (show inR 1 1 1 from (inR_self _)) (by decide) (by decide)
                                  refine R_goto (pc := 201) 41 dX9_findChains_201 (by decide) ?_
                                  rw [nI_1]
                                  exact ih41 (j41 + 1) _ _ _ _ _ (by omega) (by omega) hI158
                            exact HL158 20 0 _ (by omega) (by omega) hI41
                          · skip
                            refine R_aload_n (pc := 142) dX9_findChains_142 rfl rfl ?_
                            refine R_iload (pc := 143) dX9_findChains_143 rfl ?_
                            have hx557 : vp_in (nI j41) 20 := (vp_in_nI (by omega) (by decide))
                            refine R_iaload (pc := 145) dX9_findChains_145 (c_152 _) hx557 ?_
                            refine R_goto (pc := 146) 153 dX9_findChains_146 (by decide) ?_
                            refine st_11_9_i_i (pc := 153) dX9_findChains_153 ?_
                            refine R_iconst (pc := 155) (v := 0) dX9_findChains_155 (by decide) ?_
                            refine st_11_10_i_i (pc := 156) dX9_findChains_156 ?_
                            have HL158 : ∀ (q j158 : Nat) (σ158 : Sg), j158 + q = 20 → 0 ≤ j158 → Inv σ158 → R G l yX9_findChains cX9_findChains 11 none 3 0 0 (QV (fun w2 => ∃ σ2, w2 = WW σ2 ∧ Inv σ2)) 158 [(some (.ref 140)), (some (.ref 152)), (some (.int m)), (some (.int u)), (some (.int y1)), (some (.int (nI j31))), (some (.int (nI j41))), (some (.int 0)), (some (.int (σ41.2.2.1 152 (Int32.toNatClampNeg (nI j31))))), (some (.int (σ41.2.2.1 152 (Int32.toNatClampNeg (nI j41))))), (some (.int (nI j158)))] [] (WW σ158) 0 0 := by
                              intro q
                              induction q with
                              | zero =>
                                intro j158 σ158 hj hs158 hI158
                                obtain rfl : j158 = 20 := by omega
                                refine R_iload (pc := 158) dX9_findChains_158 rfl ?_
                                refine R_iload (pc := 160) dX9_findChains_160 rfl ?_
                                refine R_icge (pc := 162) 198 dX9_findChains_162 (by decide) (fun _ => ?_) (fun h => absurd (Int32.not_lt.mp (inR_up hr2 (Int32.le_refl _) (by decide)).2) h)
                                refine inc_11_6_1_i (pc := 198) dX9_findChains_198 ?_
                                have r559 : inR ((nI j41) + 1) 1 20 := inR_add (show inR (nI j41) 0 19 from hr41) (show inR 1 1 1 from (inR_self _)) (by decide) (by decide)
                                have e560 := ti_add (l := 1) (h := 20) (show inR (nI j41) 0 19 from hr41) (show inR 1 1 1 from (inR_self _)) (by decide) (by decide)
                                refine R_goto (pc := 201) 41 dX9_findChains_201 (by decide) ?_
                                rw [nI_1]
                                exact ih41 (j41 + 1) _ _ _ _ _ (by omega) (by omega) hI158
                              | succ q ih158 =>
                                intro j158 σ158 hj hs158 hI158
                                have hr158 : inR (nI j158) 0 19 := inR_ix hs158 (show j158 < 20 by omega) (by decide) (by decide) (by decide)
                                have hlt158 : j158 < 20 := by omega
                                refine R_iload (pc := 158) dX9_findChains_158 rfl ?_
                                refine R_iload (pc := 160) dX9_findChains_160 rfl ?_
                                refine R_icge (pc := 162) 198 dX9_findChains_162 (by decide) (fun b162_561 => ?_) (fun b162_561 => ?_)
                                · skip
                                  refine inc_11_6_1_i (pc := 198) dX9_findChains_198 ?_
                                  have r562 : inR ((nI j41) + 1) 1 20 := inR_add (show inR (nI j41) 0 19 from hr41) (show inR 1 1 1 from (inR_self _)) (by decide) (by decide)
                                  have e563 := ti_add (l := 1) (h := 20) (show inR (nI j41) 0 19 from hr41) (show inR 1 1 1 from (inR_self _)) (by decide) (by decide)
                                  refine R_goto (pc := 201) 41 dX9_findChains_201 (by decide) ?_
                                  rw [nI_1]
                                  exact ih41 (j41 + 1) _ _ _ _ _ (by omega) (by omega) hI158
                                · skip
                                  refine R_iload (pc := 165) dX9_findChains_165 rfl ?_
                                  refine R_ifeq (pc := 167) 198 dX9_findChains_167 (by decide) (fun _ => ?_) (fun h => absurd (by decide) h)
                                  refine inc_11_6_1_i (pc := 198) dX9_findChains_198 ?_
                                  have r565 : inR ((nI j41) + 1) 1 20 := inR_add (show inR (nI j41) 0 19 from hr41) (show inR 1 1 1 from (inR_self _)) (by decide) (by decide)
                                  have e566 := ti_add (l := 1) (h := 20) (show inR (nI j41) 0 19 from hr41) (show inR 1 1 1 from (inR_self _)) (by decide) (by decide)
                                  refine R_goto (pc := 201) 41 dX9_findChains_201 (by decide) ?_
                                  rw [nI_1]
                                  exact ih41 (j41 + 1) _ _ _ _ _ (by omega) (by omega) hI158
                            exact HL158 20 0 _ (by omega) (by omega) hI41
                      · skip
                        refine R_aload_n (pc := 60) dX9_findChains_60 rfl rfl ?_
                        refine R_iload (pc := 61) dX9_findChains_61 rfl ?_
                        have hx567 : vp_in (nI j31) 20 := (vp_in_nI (by omega) (by decide))
                        refine R_iaload (pc := 63) dX9_findChains_63 (c_152 _) hx567 ?_
                        refine R_aload_n (pc := 64) dX9_findChains_64 rfl rfl ?_
                        refine R_iload (pc := 65) dX9_findChains_65 rfl ?_
                        have hx568 : vp_in (nI j41) 20 := (vp_in_nI (by omega) (by decide))
                        refine R_iaload (pc := 67) dX9_findChains_67 (c_152 _) hx568 ?_
                        refine R_iceq (pc := 68) 104 dX9_findChains_68 (by decide) (fun b68_569 => ?_) (fun b68_569 => ?_)
                        · skip
                          refine R_iconst (pc := 104) (v := 0) dX9_findChains_104 (by decide) ?_
                          refine st_11_7_i_i (pc := 105) dX9_findChains_105 ?_
                          refine R_aload_n (pc := 107) dX9_findChains_107 rfl rfl ?_
                          refine R_iload (pc := 108) dX9_findChains_108 rfl ?_
                          have hx570 : vp_in (nI j31) 20 := (vp_in_nI (by omega) (by decide))
                          refine R_iaload (pc := 110) dX9_findChains_110 (c_152 _) hx570 ?_
                          refine R_aload_n (pc := 111) dX9_findChains_111 rfl rfl ?_
                          refine R_iload (pc := 112) dX9_findChains_112 rfl ?_
                          have hx571 : vp_in (nI j41) 20 := (vp_in_nI (by omega) (by decide))
                          refine R_iaload (pc := 114) dX9_findChains_114 (c_152 _) hx571 ?_
                          refine R_icge (pc := 115) 125 dX9_findChains_115 (by decide) (fun b115_572 => ?_) (fun b115_572 => ?_)
                          · skip
                            refine R_aload_n (pc := 125) dX9_findChains_125 rfl rfl ?_
                            refine R_iload (pc := 126) dX9_findChains_126 rfl ?_
                            have hx573 : vp_in (nI j41) 20 := (vp_in_nI (by omega) (by decide))
                            refine R_iaload (pc := 128) dX9_findChains_128 (c_152 _) hx573 ?_
                            refine st_11_8_i_i (pc := 129) dX9_findChains_129 ?_
                            refine R_aload_n (pc := 131) dX9_findChains_131 rfl rfl ?_
                            refine R_iload (pc := 132) dX9_findChains_132 rfl ?_
                            have hx574 : vp_in (nI j31) 20 := (vp_in_nI (by omega) (by decide))
                            refine R_iaload (pc := 134) dX9_findChains_134 (c_152 _) hx574 ?_
                            refine R_aload_n (pc := 135) dX9_findChains_135 rfl rfl ?_
                            refine R_iload (pc := 136) dX9_findChains_136 rfl ?_
                            have hx575 : vp_in (nI j41) 20 := (vp_in_nI (by omega) (by decide))
                            refine R_iaload (pc := 138) dX9_findChains_138 (c_152 _) hx575 ?_
                            refine R_icge (pc := 139) 149 dX9_findChains_139 (by decide) (fun b139_576 => ?_) (fun b139_576 => ?_)
                            · skip
                              refine R_aload_n (pc := 149) dX9_findChains_149 rfl rfl ?_
                              refine R_iload (pc := 150) dX9_findChains_150 rfl ?_
                              have hx577 : vp_in (nI j31) 20 := (vp_in_nI (by omega) (by decide))
                              refine R_iaload (pc := 152) dX9_findChains_152 (c_152 _) hx577 ?_
                              refine st_11_9_i_i (pc := 153) dX9_findChains_153 ?_
                              refine R_iconst (pc := 155) (v := 0) dX9_findChains_155 (by decide) ?_
                              refine st_11_10_i_i (pc := 156) dX9_findChains_156 ?_
                              have HL158 : ∀ (q j158 : Nat) (σ158 : Sg), j158 + q = 20 → 0 ≤ j158 → Inv σ158 → R G l yX9_findChains cX9_findChains 11 none 3 0 0 (QV (fun w2 => ∃ σ2, w2 = WW σ2 ∧ Inv σ2)) 158 [(some (.ref 140)), (some (.ref 152)), (some (.int m)), (some (.int u)), (some (.int y1)), (some (.int (nI j31))), (some (.int (nI j41))), (some (.int 0)), (some (.int (σ41.2.2.1 152 (Int32.toNatClampNeg (nI j41))))), (some (.int (σ41.2.2.1 152 (Int32.toNatClampNeg (nI j31))))), (some (.int (nI j158)))] [] (WW σ158) 0 0 := by
                                intro q
                                induction q with
                                | zero =>
                                  intro j158 σ158 hj hs158 hI158
                                  obtain rfl : j158 = 20 := by omega
                                  refine R_iload (pc := 158) dX9_findChains_158 rfl ?_
                                  refine R_iload (pc := 160) dX9_findChains_160 rfl ?_
                                  refine R_icge (pc := 162) 198 dX9_findChains_162 (by decide) (fun _ => ?_) (fun h => absurd (Int32.not_lt.mp (inR_up hr2 (Int32.le_refl _) (by decide)).2) h)
                                  refine inc_11_6_1_i (pc := 198) dX9_findChains_198 ?_
                                  have r579 : inR ((nI j41) + 1) 1 20 := inR_add (show inR (nI j41) 0 19 from hr41) (show inR 1 1 1 from (inR_self _)) (by decide) (by decide)
                                  have e580 := ti_add (l := 1) (h := 20) (show inR (nI j41) 0 19 from hr41) (show inR 1 1 1 from (inR_self _)) (by decide) (by decide)
                                  refine R_goto (pc := 201) 41 dX9_findChains_201 (by decide) ?_
                                  rw [nI_1]
                                  exact ih41 (j41 + 1) _ _ _ _ _ (by omega) (by omega) hI158
                                | succ q ih158 =>
                                  intro j158 σ158 hj hs158 hI158
                                  have hr158 : inR (nI j158) 0 19 := inR_ix hs158 (show j158 < 20 by omega) (by decide) (by decide) (by decide)
                                  have hlt158 : j158 < 20 := by omega
                                  refine R_iload (pc := 158) dX9_findChains_158 rfl ?_
                                  refine R_iload (pc := 160) dX9_findChains_160 rfl ?_
                                  refine R_icge (pc := 162) 198 dX9_findChains_162 (by decide) (fun b162_581 => ?_) (fun b162_581 => ?_)
                                  · skip
                                    refine inc_11_6_1_i (pc := 198) dX9_findChains_198 ?_
                                    have r582 : inR ((nI j41) + 1) 1 20 := inR_add (show inR (nI j41) 0 19 from hr41) (show inR 1 1 1 from (inR_self _)) (by decide) (by decide)
                                    have e583 := ti_add (l := 1) (h := 20) (show inR (nI j41) 0 19 from hr41) (show inR 1 1 1 from (inR_self _)) (by decide) (by decide)
                                    refine R_goto (pc := 201) 41 dX9_findChains_201 (by decide) ?_
                                    rw [nI_1]
                                    exact ih41 (j41 + 1) _ _ _ _ _ (by omega) (by omega) hI158
                                  · skip
                                    refine R_iload (pc := 165) dX9_findChains_165 rfl ?_
                                    refine R_ifeq (pc := 167) 198 dX9_findChains_167 (by decide) (fun _ => ?_) (fun h => absurd (by decide) h)
                                    refine inc_11_6_1_i (pc := 198) dX9_findChains_198 ?_
                                    have r585 : inR ((nI j41) + 1) 1 20 := inR_add (show inR (nI j41) 0 19 from hr41) (show inR 1 1 1 from (inR_self _)) (by decide) (by decide)
                                    have e586 := ti_add (l := 1) (h := 20) (show inR (nI j41) 0 19 from hr41) (show inR 1 1 1 from (inR_self _)) (by decide) (by decide)
                                    refine R_goto (pc := 201) 41 dX9_findChains_201 (by decide) ?_
                                    rw [nI_1]
                                    exact ih41 (j41 + 1) _ _ _ _ _ (by omega) (by omega) hI158
                              exact HL158 20 0 _ (by omega) (by omega) hI41
                            · skip
                              refine R_aload_n (pc := 142) dX9_findChains_142 rfl rfl ?_
                              refine R_iload (pc := 143) dX9_findChains_143 rfl ?_
                              have hx587 : vp_in (nI j41) 20 := (vp_in_nI (by omega) (by decide))
                              refine R_iaload (pc := 145) dX9_findChains_145 (c_152 _) hx587 ?_
                              refine R_goto (pc := 146) 153 dX9_findChains_146 (by decide) ?_
                              refine st_11_9_i_i (pc := 153) dX9_findChains_153 ?_
                              refine R_iconst (pc := 155) (v := 0) dX9_findChains_155 (by decide) ?_
                              refine st_11_10_i_i (pc := 156) dX9_findChains_156 ?_
                              have HL158 : ∀ (q j158 : Nat) (σ158 : Sg), j158 + q = 20 → 0 ≤ j158 → Inv σ158 → R G l yX9_findChains cX9_findChains 11 none 3 0 0 (QV (fun w2 => ∃ σ2, w2 = WW σ2 ∧ Inv σ2)) 158 [(some (.ref 140)), (some (.ref 152)), (some (.int m)), (some (.int u)), (some (.int y1)), (some (.int (nI j31))), (some (.int (nI j41))), (some (.int 0)), (some (.int (σ41.2.2.1 152 (Int32.toNatClampNeg (nI j41))))), (some (.int (σ41.2.2.1 152 (Int32.toNatClampNeg (nI j41))))), (some (.int (nI j158)))] [] (WW σ158) 0 0 := by
                                intro q
                                induction q with
                                | zero =>
                                  intro j158 σ158 hj hs158 hI158
                                  obtain rfl : j158 = 20 := by omega
                                  refine R_iload (pc := 158) dX9_findChains_158 rfl ?_
                                  refine R_iload (pc := 160) dX9_findChains_160 rfl ?_
                                  refine R_icge (pc := 162) 198 dX9_findChains_162 (by decide) (fun _ => ?_) (fun h => absurd (Int32.not_lt.mp (inR_up hr2 (Int32.le_refl _) (by decide)).2) h)
                                  refine inc_11_6_1_i (pc := 198) dX9_findChains_198 ?_
                                  have r589 : inR ((nI j41) + 1) 1 20 := inR_add (show inR (nI j41) 0 19 from hr41) (show inR 1 1 1 from (inR_self _)) (by decide) (by decide)
                                  have e590 := ti_add (l := 1) (h := 20) (show inR (nI j41) 0 19 from hr41) (show inR 1 1 1 from (inR_self _)) (by decide) (by decide)
                                  refine R_goto (pc := 201) 41 dX9_findChains_201 (by decide) ?_
                                  rw [nI_1]
                                  exact ih41 (j41 + 1) _ _ _ _ _ (by omega) (by omega) hI158
                                | succ q ih158 =>
                                  intro j158 σ158 hj hs158 hI158
                                  have hr158 : inR (nI j158) 0 19 := inR_ix hs158 (show j158 < 20 by omega) (by decide) (by decide) (by decide)
                                  have hlt158 : j158 < 20 := by omega
                                  refine R_iload (pc := 158) dX9_findChains_158 rfl ?_
                                  refine R_iload (pc := 160) dX9_findChains_160 rfl ?_
                                  refine R_icge (pc := 162) 198 dX9_findChains_162 (by decide) (fun b162_591 => ?_) (fun b162_591 => ?_)
                                  · skip
                                    refine inc_11_6_1_i (pc := 198) dX9_findChains_198 ?_
                                    have r592 : inR ((nI j41) + 1) 1 20 := inR_add (show inR (nI j41) 0 19 from hr41) (show inR 1 1 1 from (inR_self _)) (by decide) (by decide)
                                    have e593 := ti_add (l := 1) (h := 20) (show inR (nI j41) 0 19 from hr41) (show inR 1 1 1 from (inR_self _)) (by decide) (by decide)
                                    refine R_goto (pc := 201) 41 dX9_findChains_201 (by decide) ?_
                                    rw [nI_1]
                                    exact ih41 (j41 + 1) _ _ _ _ _ (by omega) (by omega) hI158
                                  · skip
                                    refine R_iload (pc := 165) dX9_findChains_165 rfl ?_
                                    refine R_ifeq (pc := 167) 198 dX9_findChains_167 (by decide) (fun _ => ?_) (fun h => absurd (by decide) h)
                                    refine inc_11_6_1_i (pc := 198) dX9_findChains_198 ?_
                                    have r595 : inR ((nI j41) + 1) 1 20 := inR_add (show inR (nI j41) 0 19 from hr41) (show inR 1 1 1 from (inR_self _)) (by decide) (by decide)
                                    have e596 := ti_add (l := 1) (h := 20) (show inR (nI j41) 0 19 from hr41) (show inR 1 1 1 from (inR_self _)) (by decide) (by decide)
                                    refine R_goto (pc := 201) 41 dX9_findChains_201 (by decide) ?_
                                    rw [nI_1]
                                    exact ih41 (j41 + 1) _ _ _ _ _ (by omega) (by omega) hI158
                              exact HL158 20 0 _ (by omega) (by omega) hI41
                          · skip
                            refine R_aload_n (pc := 118) dX9_findChains_118 rfl rfl ?_
                            refine R_iload (pc := 119) dX9_findChains_119 rfl ?_
                            have hx597 : vp_in (nI j31) 20 := (vp_in_nI (by omega) (by decide))
                            refine R_iaload (pc := 121) dX9_findChains_121 (c_152 _) hx597 ?_
                            refine R_goto (pc := 122) 129 dX9_findChains_122 (by decide) ?_
                            refine st_11_8_i_i (pc := 129) dX9_findChains_129 ?_
                            refine R_aload_n (pc := 131) dX9_findChains_131 rfl rfl ?_
                            refine R_iload (pc := 132) dX9_findChains_132 rfl ?_
                            have hx598 : vp_in (nI j31) 20 := (vp_in_nI (by omega) (by decide))
                            refine R_iaload (pc := 134) dX9_findChains_134 (c_152 _) hx598 ?_
                            refine R_aload_n (pc := 135) dX9_findChains_135 rfl rfl ?_
                            refine R_iload (pc := 136) dX9_findChains_136 rfl ?_
                            have hx599 : vp_in (nI j41) 20 := (vp_in_nI (by omega) (by decide))
                            refine R_iaload (pc := 138) dX9_findChains_138 (c_152 _) hx599 ?_
                            refine R_icge (pc := 139) 149 dX9_findChains_139 (by decide) (fun b139_600 => ?_) (fun b139_600 => ?_)
                            · skip
                              refine R_aload_n (pc := 149) dX9_findChains_149 rfl rfl ?_
                              refine R_iload (pc := 150) dX9_findChains_150 rfl ?_
                              have hx601 : vp_in (nI j31) 20 := (vp_in_nI (by omega) (by decide))
                              refine R_iaload (pc := 152) dX9_findChains_152 (c_152 _) hx601 ?_
                              refine st_11_9_i_i (pc := 153) dX9_findChains_153 ?_
                              refine R_iconst (pc := 155) (v := 0) dX9_findChains_155 (by decide) ?_
                              refine st_11_10_i_i (pc := 156) dX9_findChains_156 ?_
                              have HL158 : ∀ (q j158 : Nat) (σ158 : Sg), j158 + q = 20 → 0 ≤ j158 → Inv σ158 → R G l yX9_findChains cX9_findChains 11 none 3 0 0 (QV (fun w2 => ∃ σ2, w2 = WW σ2 ∧ Inv σ2)) 158 [(some (.ref 140)), (some (.ref 152)), (some (.int m)), (some (.int u)), (some (.int y1)), (some (.int (nI j31))), (some (.int (nI j41))), (some (.int 0)), (some (.int (σ41.2.2.1 152 (Int32.toNatClampNeg (nI j31))))), (some (.int (σ41.2.2.1 152 (Int32.toNatClampNeg (nI j31))))), (some (.int (nI j158)))] [] (WW σ158) 0 0 := by
                                intro q
                                induction q with
                                | zero =>
                                  intro j158 σ158 hj hs158 hI158
                                  obtain rfl : j158 = 20 := by omega
                                  refine R_iload (pc := 158) dX9_findChains_158 rfl ?_
                                  refine R_iload (pc := 160) dX9_findChains_160 rfl ?_
                                  refine R_icge (pc := 162) 198 dX9_findChains_162 (by decide) (fun _ => ?_) (fun h => absurd (Int32.not_lt.mp (inR_up hr2 (Int32.le_refl _) (by decide)).2) h)
                                  refine inc_11_6_1_i (pc := 198) dX9_findChains_198 ?_
                                  have r603 : inR ((nI j41) + 1) 1 20 := inR_add (show inR (nI j41) 0 19 from hr41) (show inR 1 1 1 from (inR_self _)) (by decide) (by decide)
                                  have e604 := ti_add (l := 1) (h := 20) (show inR (nI j41) 0 19 from hr41) (show inR 1 1 1 from (inR_self _)) (by decide) (by decide)
                                  refine R_goto (pc := 201) 41 dX9_findChains_201 (by decide) ?_
                                  rw [nI_1]
                                  exact ih41 (j41 + 1) _ _ _ _ _ (by omega) (by omega) hI158
                                | succ q ih158 =>
                                  intro j158 σ158 hj hs158 hI158
                                  have hr158 : inR (nI j158) 0 19 := inR_ix hs158 (show j158 < 20 by omega) (by decide) (by decide) (by decide)
                                  have hlt158 : j158 < 20 := by omega
                                  refine R_iload (pc := 158) dX9_findChains_158 rfl ?_
                                  refine R_iload (pc := 160) dX9_findChains_160 rfl ?_
                                  refine R_icge (pc := 162) 198 dX9_findChains_162 (by decide) (fun b162_605 => ?_) (fun b162_605 => ?_)
                                  · skip
                                    refine inc_11_6_1_i (pc := 198) dX9_findChains_198 ?_
                                    have r606 : inR ((nI j41) + 1) 1 20 := inR_add (show inR (nI j41) 0 19 from hr41) (show inR 1 1 1 from (inR_self _)) (by decide) (by decide)
                                    have e607 := ti_add (l := 1) (h := 20) (show inR (nI j41) 0 19 from hr41) (show inR 1 1 1 from (inR_self _)) (by decide) (by decide)
                                    refine R_goto (pc := 201) 41 dX9_findChains_201 (by decide) ?_
                                    rw [nI_1]
                                    exact ih41 (j41 + 1) _ _ _ _ _ (by omega) (by omega) hI158
                                  · skip
                                    refine R_iload (pc := 165) dX9_findChains_165 rfl ?_
                                    refine R_ifeq (pc := 167) 198 dX9_findChains_167 (by decide) (fun _ => ?_) (fun h => absurd (by decide) h)
                                    refine inc_11_6_1_i (pc := 198) dX9_findChains_198 ?_
                                    have r609 : inR ((nI j41) + 1) 1 20 := inR_add (show inR (nI j41) 0 19 from hr41) (show inR 1 1 1 from (inR_self _)) (by decide) (by decide)
                                    have e610 := ti_add (l := 1) (h := 20) (show inR (nI j41) 0 19 from hr41) (show inR 1 1 1 from (inR_self _)) (by decide) (by decide)
                                    refine R_goto (pc := 201) 41 dX9_findChains_201 (by decide) ?_
                                    rw [nI_1]
                                    exact ih41 (j41 + 1) _ _ _ _ _ (by omega) (by omega) hI158
                              exact HL158 20 0 _ (by omega) (by omega) hI41
                            · skip
                              refine R_aload_n (pc := 142) dX9_findChains_142 rfl rfl ?_
                              refine R_iload (pc := 143) dX9_findChains_143 rfl ?_
                              have hx611 : vp_in (nI j41) 20 := (vp_in_nI (by omega) (by decide))
                              refine R_iaload (pc := 145) dX9_findChains_145 (c_152 _) hx611 ?_
                              refine R_goto (pc := 146) 153 dX9_findChains_146 (by decide) ?_
                              refine st_11_9_i_i (pc := 153) dX9_findChains_153 ?_
                              refine R_iconst (pc := 155) (v := 0) dX9_findChains_155 (by decide) ?_
                              refine st_11_10_i_i (pc := 156) dX9_findChains_156 ?_
                              have HL158 : ∀ (q j158 : Nat) (σ158 : Sg), j158 + q = 20 → 0 ≤ j158 → Inv σ158 → R G l yX9_findChains cX9_findChains 11 none 3 0 0 (QV (fun w2 => ∃ σ2, w2 = WW σ2 ∧ Inv σ2)) 158 [(some (.ref 140)), (some (.ref 152)), (some (.int m)), (some (.int u)), (some (.int y1)), (some (.int (nI j31))), (some (.int (nI j41))), (some (.int 0)), (some (.int (σ41.2.2.1 152 (Int32.toNatClampNeg (nI j31))))), (some (.int (σ41.2.2.1 152 (Int32.toNatClampNeg (nI j41))))), (some (.int (nI j158)))] [] (WW σ158) 0 0 := by
                                intro q
                                induction q with
                                | zero =>
                                  intro j158 σ158 hj hs158 hI158
                                  obtain rfl : j158 = 20 := by omega
                                  refine R_iload (pc := 158) dX9_findChains_158 rfl ?_
                                  refine R_iload (pc := 160) dX9_findChains_160 rfl ?_
                                  refine R_icge (pc := 162) 198 dX9_findChains_162 (by decide) (fun _ => ?_) (fun h => absurd (Int32.not_lt.mp (inR_up hr2 (Int32.le_refl _) (by decide)).2) h)
                                  refine inc_11_6_1_i (pc := 198) dX9_findChains_198 ?_
                                  have r613 : inR ((nI j41) + 1) 1 20 := inR_add (show inR (nI j41) 0 19 from hr41) (show inR 1 1 1 from (inR_self _)) (by decide) (by decide)
                                  have e614 := ti_add (l := 1) (h := 20) (show inR (nI j41) 0 19 from hr41) (show inR 1 1 1 from (inR_self _)) (by decide) (by decide)
                                  refine R_goto (pc := 201) 41 dX9_findChains_201 (by decide) ?_
                                  rw [nI_1]
                                  exact ih41 (j41 + 1) _ _ _ _ _ (by omega) (by omega) hI158
                                | succ q ih158 =>
                                  intro j158 σ158 hj hs158 hI158
                                  have hr158 : inR (nI j158) 0 19 := inR_ix hs158 (show j158 < 20 by omega) (by decide) (by decide) (by decide)
                                  have hlt158 : j158 < 20 := by omega
                                  refine R_iload (pc := 158) dX9_findChains_158 rfl ?_
                                  refine R_iload (pc := 160) dX9_findChains_160 rfl ?_
                                  refine R_icge (pc := 162) 198 dX9_findChains_162 (by decide) (fun b162_615 => ?_) (fun b162_615 => ?_)
                                  · skip
                                    refine inc_11_6_1_i (pc := 198) dX9_findChains_198 ?_
                                    have r616 : inR ((nI j41) + 1) 1 20 := inR_add (show inR (nI j41) 0 19 from hr41) (show inR 1 1 1 from (inR_self _)) (by decide) (by decide)
                                    have e617 := ti_add (l := 1) (h := 20) (show inR (nI j41) 0 19 from hr41) (show inR 1 1 1 from (inR_self _)) (by decide) (by decide)
                                    refine R_goto (pc := 201) 41 dX9_findChains_201 (by decide) ?_
                                    rw [nI_1]
                                    exact ih41 (j41 + 1) _ _ _ _ _ (by omega) (by omega) hI158
                                  · skip
                                    refine R_iload (pc := 165) dX9_findChains_165 rfl ?_
                                    refine R_ifeq (pc := 167) 198 dX9_findChains_167 (by decide) (fun _ => ?_) (fun h => absurd (by decide) h)
                                    refine inc_11_6_1_i (pc := 198) dX9_findChains_198 ?_
                                    have r619 : inR ((nI j41) + 1) 1 20 := inR_add (show inR (nI j41) 0 19 from hr41) (show inR 1 1 1 from (inR_self _)) (by decide) (by decide)
                                    have e620 := ti_add (l := 1) (h := 20) (show inR (nI j41) 0 19 from hr41) (show inR 1 1 1 from (inR_self _)) (by decide) (by decide)
                                    refine R_goto (pc := 201) 41 dX9_findChains_201 (by decide) ?_
                                    rw [nI_1]
                                    exact ih41 (j41 + 1) _ _ _ _ _ (by omega) (by omega) hI158
                              exact HL158 20 0 _ (by omega) (by omega) hI41
                        · skip
                          refine R_iload_n (pc := 71) dX9_findChains_71 rfl rfl ?_
                          refine R_ifeq (pc := 72) 89 dX9_findChains_72 (by decide) (fun b72_621 => ?_) (fun b72_621 => ?_)
                          · skip
                            refine R_aload_n (pc := 89) dX9_findChains_89 rfl rfl ?_
                            refine R_iload (pc := 90) dX9_findChains_90 rfl ?_
                            refine R_iload (pc := 92) dX9_findChains_92 rfl ?_
                            refine k_X9_155 (pc := 94) (gx_X9_isLike _ _ _ hI41 hr31 hr41) rfl (c_140 _) (by decide) (Nat.le_refl _) (Nat.le_refl _) (Nat.le_of_ble_eq_true rfl) dX9_findChains_94 (fun x w2 h => ?_)
                            rcases h with ⟨rfl, rfl | rfl⟩
                            · skip
                              refine R_ifeq (pc := 97) 104 dX9_findChains_97 (by decide) (fun h => absurd h (by decide)) (fun _ => ?_)
                              refine R_iconst (pc := 100) (v := 1) dX9_findChains_100 (by decide) ?_
                              refine R_goto (pc := 101) 105 dX9_findChains_101 (by decide) ?_
                              refine st_11_7_i_i (pc := 105) dX9_findChains_105 ?_
                              refine R_aload_n (pc := 107) dX9_findChains_107 rfl rfl ?_
                              refine R_iload (pc := 108) dX9_findChains_108 rfl ?_
                              have hx624 : vp_in (nI j31) 20 := (vp_in_nI (by omega) (by decide))
                              refine R_iaload (pc := 110) dX9_findChains_110 (c_152 _) hx624 ?_
                              refine R_aload_n (pc := 111) dX9_findChains_111 rfl rfl ?_
                              refine R_iload (pc := 112) dX9_findChains_112 rfl ?_
                              have hx625 : vp_in (nI j41) 20 := (vp_in_nI (by omega) (by decide))
                              refine R_iaload (pc := 114) dX9_findChains_114 (c_152 _) hx625 ?_
                              refine R_icge (pc := 115) 125 dX9_findChains_115 (by decide) (fun b115_626 => ?_) (fun b115_626 => ?_)
                              · skip
                                refine R_aload_n (pc := 125) dX9_findChains_125 rfl rfl ?_
                                refine R_iload (pc := 126) dX9_findChains_126 rfl ?_
                                have hx627 : vp_in (nI j41) 20 := (vp_in_nI (by omega) (by decide))
                                refine R_iaload (pc := 128) dX9_findChains_128 (c_152 _) hx627 ?_
                                refine st_11_8_i_i (pc := 129) dX9_findChains_129 ?_
                                refine R_aload_n (pc := 131) dX9_findChains_131 rfl rfl ?_
                                refine R_iload (pc := 132) dX9_findChains_132 rfl ?_
                                have hx628 : vp_in (nI j31) 20 := (vp_in_nI (by omega) (by decide))
                                refine R_iaload (pc := 134) dX9_findChains_134 (c_152 _) hx628 ?_
                                refine R_aload_n (pc := 135) dX9_findChains_135 rfl rfl ?_
                                refine R_iload (pc := 136) dX9_findChains_136 rfl ?_
                                have hx629 : vp_in (nI j41) 20 := (vp_in_nI (by omega) (by decide))
                                refine R_iaload (pc := 138) dX9_findChains_138 (c_152 _) hx629 ?_
                                refine R_icge (pc := 139) 149 dX9_findChains_139 (by decide) (fun b139_630 => ?_) (fun b139_630 => ?_)
                                · skip
                                  refine R_aload_n (pc := 149) dX9_findChains_149 rfl rfl ?_
                                  refine R_iload (pc := 150) dX9_findChains_150 rfl ?_
                                  have hx631 : vp_in (nI j31) 20 := (vp_in_nI (by omega) (by decide))
                                  refine R_iaload (pc := 152) dX9_findChains_152 (c_152 _) hx631 ?_
                                  refine st_11_9_i_i (pc := 153) dX9_findChains_153 ?_
                                  refine R_iconst (pc := 155) (v := 0) dX9_findChains_155 (by decide) ?_
                                  refine st_11_10_i_i (pc := 156) dX9_findChains_156 ?_
                                  have HL158 : ∀ (q j158 : Nat) (σ158 : Sg), j158 + q = 20 → 0 ≤ j158 → Inv σ158 → R G l yX9_findChains cX9_findChains 11 none 3 0 0 (QV (fun w2 => ∃ σ2, w2 = WW σ2 ∧ Inv σ2)) 158 [(some (.ref 140)), (some (.ref 152)), (some (.int m)), (some (.int u)), (some (.int y1)), (some (.int (nI j31))), (some (.int (nI j41))), (some (.int 1)), (some (.int (σ41.2.2.1 152 (Int32.toNatClampNeg (nI j41))))), (some (.int (σ41.2.2.1 152 (Int32.toNatClampNeg (nI j31))))), (some (.int (nI j158)))] [] (WW σ158) 0 0 := by
                                    intro q
                                    induction q with
                                    | zero =>
                                      intro j158 σ158 hj hs158 hI158
                                      obtain rfl : j158 = 20 := by omega
                                      refine R_iload (pc := 158) dX9_findChains_158 rfl ?_
                                      refine R_iload (pc := 160) dX9_findChains_160 rfl ?_
                                      refine R_icge (pc := 162) 198 dX9_findChains_162 (by decide) (fun _ => ?_) (fun h => absurd (Int32.not_lt.mp (inR_up hr2 (Int32.le_refl _) (by decide)).2) h)
                                      refine inc_11_6_1_i (pc := 198) dX9_findChains_198 ?_
                                      have r633 : inR ((nI j41) + 1) 1 20 := inR_add (show inR (nI j41) 0 19 from hr41) (show inR 1 1 1 from (inR_self _)) (by decide) (by decide)
                                      have e634 := ti_add (l := 1) (h := 20) (show inR (nI j41) 0 19 from hr41) (show inR 1 1 1 from (inR_self _)) (by decide) (by decide)
                                      refine R_goto (pc := 201) 41 dX9_findChains_201 (by decide) ?_
                                      rw [nI_1]
                                      exact ih41 (j41 + 1) _ _ _ _ _ (by omega) (by omega) hI158
                                    | succ q ih158 =>
                                      intro j158 σ158 hj hs158 hI158
                                      have hr158 : inR (nI j158) 0 19 := inR_ix hs158 (show j158 < 20 by omega) (by decide) (by decide) (by decide)
                                      have hlt158 : j158 < 20 := by omega
                                      refine R_iload (pc := 158) dX9_findChains_158 rfl ?_
                                      refine R_iload (pc := 160) dX9_findChains_160 rfl ?_
                                      refine R_icge (pc := 162) 198 dX9_findChains_162 (by decide) (fun b162_635 => ?_) (fun b162_635 => ?_)
                                      · skip
                                        refine inc_11_6_1_i (pc := 198) dX9_findChains_198 ?_
                                        have r636 : inR ((nI j41) + 1) 1 20 := inR_add (show inR (nI j41) 0 19 from hr41) (show inR 1 1 1 from (inR_self _)) (by decide) (by decide)
                                        have e637 := ti_add (l := 1) (h := 20) (show inR (nI j41) 0 19 from hr41) (show inR 1 1 1 from (inR_self _)) (by decide) (by decide)
                                        refine R_goto (pc := 201) 41 dX9_findChains_201 (by decide) ?_
                                        rw [nI_1]
                                        exact ih41 (j41 + 1) _ _ _ _ _ (by omega) (by omega) hI158
                                      · skip
                                        refine R_iload (pc := 165) dX9_findChains_165 rfl ?_
                                        refine R_ifeq (pc := 167) 198 dX9_findChains_167 (by decide) (fun h => absurd h (by decide)) (fun _ => ?_)
                                        refine R_aload_n (pc := 170) dX9_findChains_170 rfl rfl ?_
                                        refine R_iload (pc := 171) dX9_findChains_171 rfl ?_
                                        refine R_aload_n (pc := 173) dX9_findChains_173 rfl rfl ?_
                                        refine R_iload (pc := 174) dX9_findChains_174 rfl ?_
                                        have hx639 : vp_in (nI j158) 20 := (vp_in_nI (by omega) (by decide))
                                        refine R_iaload (pc := 176) dX9_findChains_176 (c_152 _) hx639 ?_
                                        refine R_iload (pc := 177) dX9_findChains_177 rfl ?_
                                        refine R_icne (pc := 179) 187 dX9_findChains_179 (by decide) (fun b179_640 => ?_) (fun b179_640 => ?_)
                                        · skip
                                          refine R_aload_n (pc := 187) dX9_findChains_187 rfl rfl ?_
                                          refine R_iload (pc := 188) dX9_findChains_188 rfl ?_
                                          have hx641 : vp_in (nI j158) 20 := (vp_in_nI (by omega) (by decide))
                                          refine R_iaload (pc := 190) dX9_findChains_190 (c_152 _) hx641 ?_
                                          have hx642 : vp_in (nI j158) 20 := (vp_in_nI (by omega) (by decide))
                                          refine W_iastore (pc := 191) dX9_findChains_191 (c_152 _) hx642 (a_152 _ _) ?_
                                          have hV643 := sa_152 hI158 (Int32.toNatClampNeg (nI j158)) (iva_152 hI158 _ (lt_of_vp hx639))
                                          refine inc_11_10_1_i (pc := 192) dX9_findChains_192 ?_
                                          have r644 : inR ((nI j158) + 1) 1 20 := inR_add (show inR (nI j158) 0 19 from hr158) (show inR 1 1 1 from (inR_self _)) (by decide) (by decide)
                                          have e645 := ti_add (l := 1) (h := 20) (show inR (nI j158) 0 19 from hr158) (show inR 1 1 1 from (inR_self _)) (by decide) (by decide)
                                          refine R_goto (pc := 195) 158 dX9_findChains_195 (by decide) ?_
                                          rw [nI_1]
                                          exact ih158 (j158 + 1) _ (by omega) (by omega) hV643
                                        · skip
                                          refine R_iload (pc := 182) dX9_findChains_182 rfl ?_
                                          refine R_goto (pc := 184) 191 dX9_findChains_184 (by decide) ?_
                                          have hx646 : vp_in (nI j158) 20 := (vp_in_nI (by omega) (by decide))
                                          refine W_iastore (pc := 191) dX9_findChains_191 (c_152 _) hx646 (a_152 _ _) ?_
                                          have hV647 := sa_152 hI158 (Int32.toNatClampNeg (nI j158)) (iva_152 hI41 _ (lt_of_vp hx568))
                                          refine inc_11_10_1_i (pc := 192) dX9_findChains_192 ?_
                                          have r648 : inR ((nI j158) + 1) 1 20 := inR_add (show inR (nI j158) 0 19 from hr158) (show inR 1 1 1 from (inR_self _)) (by decide) (by decide)
                                          have e649 := ti_add (l := 1) (h := 20) (show inR (nI j158) 0 19 from hr158) (show inR 1 1 1 from (inR_self _)) (by decide) (by decide)
                                          refine R_goto (pc := 195) 158 dX9_findChains_195 (by decide) ?_
                                          rw [nI_1]
                                          exact ih158 (j158 + 1) _ (by omega) (by omega) hV647
                                  exact HL158 20 0 _ (by omega) (by omega) hI41
                                · skip
                                  refine R_aload_n (pc := 142) dX9_findChains_142 rfl rfl ?_
                                  refine R_iload (pc := 143) dX9_findChains_143 rfl ?_
                                  have hx650 : vp_in (nI j41) 20 := (vp_in_nI (by omega) (by decide))
                                  refine R_iaload (pc := 145) dX9_findChains_145 (c_152 _) hx650 ?_
                                  refine R_goto (pc := 146) 153 dX9_findChains_146 (by decide) ?_
                                  refine st_11_9_i_i (pc := 153) dX9_findChains_153 ?_
                                  refine R_iconst (pc := 155) (v := 0) dX9_findChains_155 (by decide) ?_
                                  refine st_11_10_i_i (pc := 156) dX9_findChains_156 ?_
                                  have HL158 : ∀ (q j158 : Nat) (σ158 : Sg), j158 + q = 20 → 0 ≤ j158 → Inv σ158 → R G l yX9_findChains cX9_findChains 11 none 3 0 0 (QV (fun w2 => ∃ σ2, w2 = WW σ2 ∧ Inv σ2)) 158 [(some (.ref 140)), (some (.ref 152)), (some (.int m)), (some (.int u)), (some (.int y1)), (some (.int (nI j31))), (some (.int (nI j41))), (some (.int 1)), (some (.int (σ41.2.2.1 152 (Int32.toNatClampNeg (nI j41))))), (some (.int (σ41.2.2.1 152 (Int32.toNatClampNeg (nI j41))))), (some (.int (nI j158)))] [] (WW σ158) 0 0 := by
                                    intro q
                                    induction q with
                                    | zero =>
                                      intro j158 σ158 hj hs158 hI158
                                      obtain rfl : j158 = 20 := by omega
                                      refine R_iload (pc := 158) dX9_findChains_158 rfl ?_
                                      refine R_iload (pc := 160) dX9_findChains_160 rfl ?_
                                      refine R_icge (pc := 162) 198 dX9_findChains_162 (by decide) (fun _ => ?_) (fun h => absurd (Int32.not_lt.mp (inR_up hr2 (Int32.le_refl _) (by decide)).2) h)
                                      refine inc_11_6_1_i (pc := 198) dX9_findChains_198 ?_
                                      have r652 : inR ((nI j41) + 1) 1 20 := inR_add (show inR (nI j41) 0 19 from hr41) (show inR 1 1 1 from (inR_self _)) (by decide) (by decide)
                                      have e653 := ti_add (l := 1) (h := 20) (show inR (nI j41) 0 19 from hr41) (show inR 1 1 1 from (inR_self _)) (by decide) (by decide)
                                      refine R_goto (pc := 201) 41 dX9_findChains_201 (by decide) ?_
                                      rw [nI_1]
                                      exact ih41 (j41 + 1) _ _ _ _ _ (by omega) (by omega) hI158
                                    | succ q ih158 =>
                                      intro j158 σ158 hj hs158 hI158
                                      have hr158 : inR (nI j158) 0 19 := inR_ix hs158 (show j158 < 20 by omega) (by decide) (by decide) (by decide)
                                      have hlt158 : j158 < 20 := by omega
                                      refine R_iload (pc := 158) dX9_findChains_158 rfl ?_
                                      refine R_iload (pc := 160) dX9_findChains_160 rfl ?_
                                      refine R_icge (pc := 162) 198 dX9_findChains_162 (by decide) (fun b162_654 => ?_) (fun b162_654 => ?_)
                                      · skip
                                        refine inc_11_6_1_i (pc := 198) dX9_findChains_198 ?_
                                        have r655 : inR ((nI j41) + 1) 1 20 := inR_add (show inR (nI j41) 0 19 from hr41) (show inR 1 1 1 from (inR_self _)) (by decide) (by decide)
                                        have e656 := ti_add (l := 1) (h := 20) (show inR (nI j41) 0 19 from hr41) (show inR 1 1 1 from (inR_self _)) (by decide) (by decide)
                                        refine R_goto (pc := 201) 41 dX9_findChains_201 (by decide) ?_
                                        rw [nI_1]
                                        exact ih41 (j41 + 1) _ _ _ _ _ (by omega) (by omega) hI158
                                      · skip
                                        refine R_iload (pc := 165) dX9_findChains_165 rfl ?_
                                        refine R_ifeq (pc := 167) 198 dX9_findChains_167 (by decide) (fun h => absurd h (by decide)) (fun _ => ?_)
                                        refine R_aload_n (pc := 170) dX9_findChains_170 rfl rfl ?_
                                        refine R_iload (pc := 171) dX9_findChains_171 rfl ?_
                                        refine R_aload_n (pc := 173) dX9_findChains_173 rfl rfl ?_
                                        refine R_iload (pc := 174) dX9_findChains_174 rfl ?_
                                        have hx658 : vp_in (nI j158) 20 := (vp_in_nI (by omega) (by decide))
                                        refine R_iaload (pc := 176) dX9_findChains_176 (c_152 _) hx658 ?_
                                        refine R_iload (pc := 177) dX9_findChains_177 rfl ?_
                                        refine R_icne (pc := 179) 187 dX9_findChains_179 (by decide) (fun b179_659 => ?_) (fun b179_659 => ?_)
                                        · skip
                                          refine R_aload_n (pc := 187) dX9_findChains_187 rfl rfl ?_
                                          refine R_iload (pc := 188) dX9_findChains_188 rfl ?_
                                          have hx660 : vp_in (nI j158) 20 := (vp_in_nI (by omega) (by decide))
                                          refine R_iaload (pc := 190) dX9_findChains_190 (c_152 _) hx660 ?_
                                          have hx661 : vp_in (nI j158) 20 := (vp_in_nI (by omega) (by decide))
                                          refine W_iastore (pc := 191) dX9_findChains_191 (c_152 _) hx661 (a_152 _ _) ?_
                                          have hV662 := sa_152 hI158 (Int32.toNatClampNeg (nI j158)) (iva_152 hI158 _ (lt_of_vp hx658))
                                          refine inc_11_10_1_i (pc := 192) dX9_findChains_192 ?_
                                          have r663 : inR ((nI j158) + 1) 1 20 := inR_add (show inR (nI j158) 0 19 from hr158) (show inR 1 1 1 from (inR_self _)) (by decide) (by decide)
                                          have e664 := ti_add (l := 1) (h := 20) (show inR (nI j158) 0 19 from hr158) (show inR 1 1 1 from (inR_self _)) (by decide) (by decide)
                                          refine R_goto (pc := 195) 158 dX9_findChains_195 (by decide) ?_
                                          rw [nI_1]
                                          exact ih158 (j158 + 1) _ (by omega) (by omega) hV662
                                        · skip
                                          refine R_iload (pc := 182) dX9_findChains_182 rfl ?_
                                          refine R_goto (pc := 184) 191 dX9_findChains_184 (by decide) ?_
                                          have hx665 : vp_in (nI j158) 20 := (vp_in_nI (by omega) (by decide))
                                          refine W_iastore (pc := 191) dX9_findChains_191 (c_152 _) hx665 (a_152 _ _) ?_
                                          have hV666 := sa_152 hI158 (Int32.toNatClampNeg (nI j158)) (iva_152 hI41 _ (lt_of_vp hx568))
                                          refine inc_11_10_1_i (pc := 192) dX9_findChains_192 ?_
                                          have r667 : inR ((nI j158) + 1) 1 20 := inR_add (show inR (nI j158) 0 19 from hr158) (show inR 1 1 1 from (inR_self _)) (by decide) (by decide)
                                          have e668 := ti_add (l := 1) (h := 20) (show inR (nI j158) 0 19 from hr158) (show inR 1 1 1 from (inR_self _)) (by decide) (by decide)
                                          refine R_goto (pc := 195) 158 dX9_findChains_195 (by decide) ?_
                                          rw [nI_1]
                                          exact ih158 (j158 + 1) _ (by omega) (by omega) hV666
                                  exact HL158 20 0 _ (by omega) (by omega) hI41
                              · skip
                                refine R_aload_n (pc := 118) dX9_findChains_118 rfl rfl ?_
                                refine R_iload (pc := 119) dX9_findChains_119 rfl ?_
                                have hx669 : vp_in (nI j31) 20 := (vp_in_nI (by omega) (by decide))
                                refine R_iaload (pc := 121) dX9_findChains_121 (c_152 _) hx669 ?_
                                refine R_goto (pc := 122) 129 dX9_findChains_122 (by decide) ?_
                                refine st_11_8_i_i (pc := 129) dX9_findChains_129 ?_
                                refine R_aload_n (pc := 131) dX9_findChains_131 rfl rfl ?_
                                refine R_iload (pc := 132) dX9_findChains_132 rfl ?_
                                have hx670 : vp_in (nI j31) 20 := (vp_in_nI (by omega) (by decide))
                                refine R_iaload (pc := 134) dX9_findChains_134 (c_152 _) hx670 ?_
                                refine R_aload_n (pc := 135) dX9_findChains_135 rfl rfl ?_
                                refine R_iload (pc := 136) dX9_findChains_136 rfl ?_
                                have hx671 : vp_in (nI j41) 20 := (vp_in_nI (by omega) (by decide))
                                refine R_iaload (pc := 138) dX9_findChains_138 (c_152 _) hx671 ?_
                                refine R_icge (pc := 139) 149 dX9_findChains_139 (by decide) (fun b139_672 => ?_) (fun b139_672 => ?_)
                                · skip
                                  refine R_aload_n (pc := 149) dX9_findChains_149 rfl rfl ?_
                                  refine R_iload (pc := 150) dX9_findChains_150 rfl ?_
                                  have hx673 : vp_in (nI j31) 20 := (vp_in_nI (by omega) (by decide))
                                  refine R_iaload (pc := 152) dX9_findChains_152 (c_152 _) hx673 ?_
                                  refine st_11_9_i_i (pc := 153) dX9_findChains_153 ?_
                                  refine R_iconst (pc := 155) (v := 0) dX9_findChains_155 (by decide) ?_
                                  refine st_11_10_i_i (pc := 156) dX9_findChains_156 ?_
                                  have HL158 : ∀ (q j158 : Nat) (σ158 : Sg), j158 + q = 20 → 0 ≤ j158 → Inv σ158 → R G l yX9_findChains cX9_findChains 11 none 3 0 0 (QV (fun w2 => ∃ σ2, w2 = WW σ2 ∧ Inv σ2)) 158 [(some (.ref 140)), (some (.ref 152)), (some (.int m)), (some (.int u)), (some (.int y1)), (some (.int (nI j31))), (some (.int (nI j41))), (some (.int 1)), (some (.int (σ41.2.2.1 152 (Int32.toNatClampNeg (nI j31))))), (some (.int (σ41.2.2.1 152 (Int32.toNatClampNeg (nI j31))))), (some (.int (nI j158)))] [] (WW σ158) 0 0 := by
                                    intro q
                                    induction q with
                                    | zero =>
                                      intro j158 σ158 hj hs158 hI158
                                      obtain rfl : j158 = 20 := by omega
                                      refine R_iload (pc := 158) dX9_findChains_158 rfl ?_
                                      refine R_iload (pc := 160) dX9_findChains_160 rfl ?_
                                      refine R_icge (pc := 162) 198 dX9_findChains_162 (by decide) (fun _ => ?_) (fun h => absurd (Int32.not_lt.mp (inR_up hr2 (Int32.le_refl _) (by decide)).2) h)
                                      refine inc_11_6_1_i (pc := 198) dX9_findChains_198 ?_
                                      have r675 : inR ((nI j41) + 1) 1 20 := inR_add (show inR (nI j41) 0 19 from hr41) (show inR 1 1 1 from (inR_self _)) (by decide) (by decide)
                                      have e676 := ti_add (l := 1) (h := 20) (show inR (nI j41) 0 19 from hr41) (show inR 1 1 1 from (inR_self _)) (by decide) (by decide)
                                      refine R_goto (pc := 201) 41 dX9_findChains_201 (by decide) ?_
                                      rw [nI_1]
                                      exact ih41 (j41 + 1) _ _ _ _ _ (by omega) (by omega) hI158
                                    | succ q ih158 =>
                                      intro j158 σ158 hj hs158 hI158
                                      have hr158 : inR (nI j158) 0 19 := inR_ix hs158 (show j158 < 20 by omega) (by decide) (by decide) (by decide)
                                      have hlt158 : j158 < 20 := by omega
                                      refine R_iload (pc := 158) dX9_findChains_158 rfl ?_
                                      refine R_iload (pc := 160) dX9_findChains_160 rfl ?_
                                      refine R_icge (pc := 162) 198 dX9_findChains_162 (by decide) (fun b162_677 => ?_) (fun b162_677 => ?_)
                                      · skip
                                        refine inc_11_6_1_i (pc := 198) dX9_findChains_198 ?_
                                        have r678 : inR ((nI j41) + 1) 1 20 := inR_add (show inR (nI j41) 0 19 from hr41) (show inR 1 1 1 from (inR_self _)) (by decide) (by decide)
                                        have e679 := ti_add (l := 1) (h := 20) (show inR (nI j41) 0 19 from hr41) (show inR 1 1 1 from (inR_self _)) (by decide) (by decide)
                                        refine R_goto (pc := 201) 41 dX9_findChains_201 (by decide) ?_
                                        rw [nI_1]
                                        exact ih41 (j41 + 1) _ _ _ _ _ (by omega) (by omega) hI158
                                      · skip
                                        refine R_iload (pc := 165) dX9_findChains_165 rfl ?_
                                        refine R_ifeq (pc := 167) 198 dX9_findChains_167 (by decide) (fun h => absurd h (by decide)) (fun _ => ?_)
                                        refine R_aload_n (pc := 170) dX9_findChains_170 rfl rfl ?_
                                        refine R_iload (pc := 171) dX9_findChains_171 rfl ?_
                                        refine R_aload_n (pc := 173) dX9_findChains_173 rfl rfl ?_
                                        refine R_iload (pc := 174) dX9_findChains_174 rfl ?_
                                        have hx681 : vp_in (nI j158) 20 := (vp_in_nI (by omega) (by decide))
                                        refine R_iaload (pc := 176) dX9_findChains_176 (c_152 _) hx681 ?_
                                        refine R_iload (pc := 177) dX9_findChains_177 rfl ?_
                                        refine R_icne (pc := 179) 187 dX9_findChains_179 (by decide) (fun b179_682 => ?_) (fun b179_682 => ?_)
                                        · skip
                                          refine R_aload_n (pc := 187) dX9_findChains_187 rfl rfl ?_
                                          refine R_iload (pc := 188) dX9_findChains_188 rfl ?_
                                          have hx683 : vp_in (nI j158) 20 := (vp_in_nI (by omega) (by decide))
                                          refine R_iaload (pc := 190) dX9_findChains_190 (c_152 _) hx683 ?_
                                          have hx684 : vp_in (nI j158) 20 := (vp_in_nI (by omega) (by decide))
                                          refine W_iastore (pc := 191) dX9_findChains_191 (c_152 _) hx684 (a_152 _ _) ?_
                                          have hV685 := sa_152 hI158 (Int32.toNatClampNeg (nI j158)) (iva_152 hI158 _ (lt_of_vp hx681))
                                          refine inc_11_10_1_i (pc := 192) dX9_findChains_192 ?_
                                          have r686 : inR ((nI j158) + 1) 1 20 := inR_add (show inR (nI j158) 0 19 from hr158) (show inR 1 1 1 from (inR_self _)) (by decide) (by decide)
                                          have e687 := ti_add (l := 1) (h := 20) (show inR (nI j158) 0 19 from hr158) (show inR 1 1 1 from (inR_self _)) (by decide) (by decide)
                                          refine R_goto (pc := 195) 158 dX9_findChains_195 (by decide) ?_
                                          rw [nI_1]
                                          exact ih158 (j158 + 1) _ (by omega) (by omega) hV685
                                        · skip
                                          refine R_iload (pc := 182) dX9_findChains_182 rfl ?_
                                          refine R_goto (pc := 184) 191 dX9_findChains_184 (by decide) ?_
                                          have hx688 : vp_in (nI j158) 20 := (vp_in_nI (by omega) (by decide))
                                          refine W_iastore (pc := 191) dX9_findChains_191 (c_152 _) hx688 (a_152 _ _) ?_
                                          have hV689 := sa_152 hI158 (Int32.toNatClampNeg (nI j158)) (iva_152 hI41 _ (lt_of_vp hx567))
                                          refine inc_11_10_1_i (pc := 192) dX9_findChains_192 ?_
                                          have r690 : inR ((nI j158) + 1) 1 20 := inR_add (show inR (nI j158) 0 19 from hr158) (show inR 1 1 1 from (inR_self _)) (by decide) (by decide)
                                          have e691 := ti_add (l := 1) (h := 20) (show inR (nI j158) 0 19 from hr158) (show inR 1 1 1 from (inR_self _)) (by decide) (by decide)
                                          refine R_goto (pc := 195) 158 dX9_findChains_195 (by decide) ?_
                                          rw [nI_1]
                                          exact ih158 (j158 + 1) _ (by omega) (by omega) hV689
                                  exact HL158 20 0 _ (by omega) (by omega) hI41
                                · skip
                                  refine R_aload_n (pc := 142) dX9_findChains_142 rfl rfl ?_
                                  refine R_iload (pc := 143) dX9_findChains_143 rfl ?_
                                  have hx692 : vp_in (nI j41) 20 := (vp_in_nI (by omega) (by decide))
                                  refine R_iaload (pc := 145) dX9_findChains_145 (c_152 _) hx692 ?_
                                  refine R_goto (pc := 146) 153 dX9_findChains_146 (by decide) ?_
                                  refine st_11_9_i_i (pc := 153) dX9_findChains_153 ?_
                                  refine R_iconst (pc := 155) (v := 0) dX9_findChains_155 (by decide) ?_
                                  refine st_11_10_i_i (pc := 156) dX9_findChains_156 ?_
                                  have HL158 : ∀ (q j158 : Nat) (σ158 : Sg), j158 + q = 20 → 0 ≤ j158 → Inv σ158 → R G l yX9_findChains cX9_findChains 11 none 3 0 0 (QV (fun w2 => ∃ σ2, w2 = WW σ2 ∧ Inv σ2)) 158 [(some (.ref 140)), (some (.ref 152)), (some (.int m)), (some (.int u)), (some (.int y1)), (some (.int (nI j31))), (some (.int (nI j41))), (some (.int 1)), (some (.int (σ41.2.2.1 152 (Int32.toNatClampNeg (nI j31))))), (some (.int (σ41.2.2.1 152 (Int32.toNatClampNeg (nI j41))))), (some (.int (nI j158)))] [] (WW σ158) 0 0 := by
                                    intro q
                                    induction q with
                                    | zero =>
                                      intro j158 σ158 hj hs158 hI158
                                      obtain rfl : j158 = 20 := by omega
                                      refine R_iload (pc := 158) dX9_findChains_158 rfl ?_
                                      refine R_iload (pc := 160) dX9_findChains_160 rfl ?_
                                      refine R_icge (pc := 162) 198 dX9_findChains_162 (by decide) (fun _ => ?_) (fun h => absurd (Int32.not_lt.mp (inR_up hr2 (Int32.le_refl _) (by decide)).2) h)
                                      refine inc_11_6_1_i (pc := 198) dX9_findChains_198 ?_
                                      have r694 : inR ((nI j41) + 1) 1 20 := inR_add (show inR (nI j41) 0 19 from hr41) (show inR 1 1 1 from (inR_self _)) (by decide) (by decide)
                                      have e695 := ti_add (l := 1) (h := 20) (show inR (nI j41) 0 19 from hr41) (show inR 1 1 1 from (inR_self _)) (by decide) (by decide)
                                      refine R_goto (pc := 201) 41 dX9_findChains_201 (by decide) ?_
                                      rw [nI_1]
                                      exact ih41 (j41 + 1) _ _ _ _ _ (by omega) (by omega) hI158
                                    | succ q ih158 =>
                                      intro j158 σ158 hj hs158 hI158
                                      have hr158 : inR (nI j158) 0 19 := inR_ix hs158 (show j158 < 20 by omega) (by decide) (by decide) (by decide)
                                      have hlt158 : j158 < 20 := by omega
                                      refine R_iload (pc := 158) dX9_findChains_158 rfl ?_
                                      refine R_iload (pc := 160) dX9_findChains_160 rfl ?_
                                      refine R_icge (pc := 162) 198 dX9_findChains_162 (by decide) (fun b162_696 => ?_) (fun b162_696 => ?_)
                                      · skip
                                        refine inc_11_6_1_i (pc := 198) dX9_findChains_198 ?_
                                        have r697 : inR ((nI j41) + 1) 1 20 := inR_add (show inR (nI j41) 0 19 from hr41) (show inR 1 1 1 from (inR_self _)) (by decide) (by decide)
                                        have e698 := ti_add (l := 1) (h := 20) (show inR (nI j41) 0 19 from hr41) (show inR 1 1 1 from (inR_self _)) (by decide) (by decide)
                                        refine R_goto (pc := 201) 41 dX9_findChains_201 (by decide) ?_
                                        rw [nI_1]
                                        exact ih41 (j41 + 1) _ _ _ _ _ (by omega) (by omega) hI158
                                      · skip
                                        refine R_iload (pc := 165) dX9_findChains_165 rfl ?_
                                        refine R_ifeq (pc := 167) 198 dX9_findChains_167 (by decide) (fun h => absurd h (by decide)) (fun _ => ?_)
                                        refine R_aload_n (pc := 170) dX9_findChains_170 rfl rfl ?_
                                        refine R_iload (pc := 171) dX9_findChains_171 rfl ?_
                                        refine R_aload_n (pc := 173) dX9_findChains_173 rfl rfl ?_
                                        refine R_iload (pc := 174) dX9_findChains_174 rfl ?_
                                        have hx700 : vp_in (nI j158) 20 := (vp_in_nI (by omega) (by decide))
                                        refine R_iaload (pc := 176) dX9_findChains_176 (c_152 _) hx700 ?_
                                        refine R_iload (pc := 177) dX9_findChains_177 rfl ?_
                                        refine R_icne (pc := 179) 187 dX9_findChains_179 (by decide) (fun b179_701 => ?_) (fun b179_701 => ?_)
                                        · skip
                                          refine R_aload_n (pc := 187) dX9_findChains_187 rfl rfl ?_
                                          refine R_iload (pc := 188) dX9_findChains_188 rfl ?_
                                          have hx702 : vp_in (nI j158) 20 := (vp_in_nI (by omega) (by decide))
                                          refine R_iaload (pc := 190) dX9_findChains_190 (c_152 _) hx702 ?_
                                          have hx703 : vp_in (nI j158) 20 := (vp_in_nI (by omega) (by decide))
                                          refine W_iastore (pc := 191) dX9_findChains_191 (c_152 _) hx703 (a_152 _ _) ?_
                                          have hV704 := sa_152 hI158 (Int32.toNatClampNeg (nI j158)) (iva_152 hI158 _ (lt_of_vp hx700))
                                          refine inc_11_10_1_i (pc := 192) dX9_findChains_192 ?_
                                          have r705 : inR ((nI j158) + 1) 1 20 := inR_add (show inR (nI j158) 0 19 from hr158) (show inR 1 1 1 from (inR_self _)) (by decide) (by decide)
                                          have e706 := ti_add (l := 1) (h := 20) (show inR (nI j158) 0 19 from hr158) (show inR 1 1 1 from (inR_self _)) (by decide) (by decide)
                                          refine R_goto (pc := 195) 158 dX9_findChains_195 (by decide) ?_
                                          rw [nI_1]
                                          exact ih158 (j158 + 1) _ (by omega) (by omega) hV704
                                        · skip
                                          refine R_iload (pc := 182) dX9_findChains_182 rfl ?_
                                          refine R_goto (pc := 184) 191 dX9_findChains_184 (by decide) ?_
                                          have hx707 : vp_in (nI j158) 20 := (vp_in_nI (by omega) (by decide))
                                          refine W_iastore (pc := 191) dX9_findChains_191 (c_152 _) hx707 (a_152 _ _) ?_
                                          have hV708 := sa_152 hI158 (Int32.toNatClampNeg (nI j158)) (iva_152 hI41 _ (lt_of_vp hx567))
                                          refine inc_11_10_1_i (pc := 192) dX9_findChains_192 ?_
                                          have r709 : inR ((nI j158) + 1) 1 20 := inR_add (show inR (nI j158) 0 19 from hr158) (show inR 1 1 1 from (inR_self _)) (by decide) (by decide)
                                          have e710 := ti_add (l := 1) (h := 20) (show inR (nI j158) 0 19 from hr158) (show inR 1 1 1 from (inR_self _)) (by decide) (by decide)
                                          refine R_goto (pc := 195) 158 dX9_findChains_195 (by decide) ?_
                                          rw [nI_1]
                                          exact ih158 (j158 + 1) _ (by omega) (by omega) hV708
                                  exact HL158 20 0 _ (by omega) (by omega) hI41
                            · skip
                              refine R_ifeq (pc := 97) 104 dX9_findChains_97 (by decide) (fun _ => ?_) (fun h => absurd (by decide) h)
                              refine R_iconst (pc := 104) (v := 0) dX9_findChains_104 (by decide) ?_
                              refine st_11_7_i_i (pc := 105) dX9_findChains_105 ?_
                              refine R_aload_n (pc := 107) dX9_findChains_107 rfl rfl ?_
                              refine R_iload (pc := 108) dX9_findChains_108 rfl ?_
                              have hx712 : vp_in (nI j31) 20 := (vp_in_nI (by omega) (by decide))
                              refine R_iaload (pc := 110) dX9_findChains_110 (c_152 _) hx712 ?_
                              refine R_aload_n (pc := 111) dX9_findChains_111 rfl rfl ?_
                              refine R_iload (pc := 112) dX9_findChains_112 rfl ?_
                              have hx713 : vp_in (nI j41) 20 := (vp_in_nI (by omega) (by decide))
                              refine R_iaload (pc := 114) dX9_findChains_114 (c_152 _) hx713 ?_
                              refine R_icge (pc := 115) 125 dX9_findChains_115 (by decide) (fun b115_714 => ?_) (fun b115_714 => ?_)
                              · skip
                                refine R_aload_n (pc := 125) dX9_findChains_125 rfl rfl ?_
                                refine R_iload (pc := 126) dX9_findChains_126 rfl ?_
                                have hx715 : vp_in (nI j41) 20 := (vp_in_nI (by omega) (by decide))
                                refine R_iaload (pc := 128) dX9_findChains_128 (c_152 _) hx715 ?_
                                refine st_11_8_i_i (pc := 129) dX9_findChains_129 ?_
                                refine R_aload_n (pc := 131) dX9_findChains_131 rfl rfl ?_
                                refine R_iload (pc := 132) dX9_findChains_132 rfl ?_
                                have hx716 : vp_in (nI j31) 20 := (vp_in_nI (by omega) (by decide))
                                refine R_iaload (pc := 134) dX9_findChains_134 (c_152 _) hx716 ?_
                                refine R_aload_n (pc := 135) dX9_findChains_135 rfl rfl ?_
                                refine R_iload (pc := 136) dX9_findChains_136 rfl ?_
                                have hx717 : vp_in (nI j41) 20 := (vp_in_nI (by omega) (by decide))
                                refine R_iaload (pc := 138) dX9_findChains_138 (c_152 _) hx717 ?_
                                refine R_icge (pc := 139) 149 dX9_findChains_139 (by decide) (fun b139_718 => ?_) (fun b139_718 => ?_)
                                · skip
                                  refine R_aload_n (pc := 149) dX9_findChains_149 rfl rfl ?_
                                  refine R_iload (pc := 150) dX9_findChains_150 rfl ?_
                                  have hx719 : vp_in (nI j31) 20 := (vp_in_nI (by omega) (by decide))
                                  refine R_iaload (pc := 152) dX9_findChains_152 (c_152 _) hx719 ?_
                                  refine st_11_9_i_i (pc := 153) dX9_findChains_153 ?_
                                  refine R_iconst (pc := 155) (v := 0) dX9_findChains_155 (by decide) ?_
                                  refine st_11_10_i_i (pc := 156) dX9_findChains_156 ?_
                                  have HL158 : ∀ (q j158 : Nat) (σ158 : Sg), j158 + q = 20 → 0 ≤ j158 → Inv σ158 → R G l yX9_findChains cX9_findChains 11 none 3 0 0 (QV (fun w2 => ∃ σ2, w2 = WW σ2 ∧ Inv σ2)) 158 [(some (.ref 140)), (some (.ref 152)), (some (.int m)), (some (.int u)), (some (.int y1)), (some (.int (nI j31))), (some (.int (nI j41))), (some (.int 0)), (some (.int (σ41.2.2.1 152 (Int32.toNatClampNeg (nI j41))))), (some (.int (σ41.2.2.1 152 (Int32.toNatClampNeg (nI j31))))), (some (.int (nI j158)))] [] (WW σ158) 0 0 := by
                                    intro q
                                    induction q with
                                    | zero =>
                                      intro j158 σ158 hj hs158 hI158
                                      obtain rfl : j158 = 20 := by omega
                                      refine R_iload (pc := 158) dX9_findChains_158 rfl ?_
                                      refine R_iload (pc := 160) dX9_findChains_160 rfl ?_
                                      refine R_icge (pc := 162) 198 dX9_findChains_162 (by decide) (fun _ => ?_) (fun h => absurd (Int32.not_lt.mp (inR_up hr2 (Int32.le_refl _) (by decide)).2) h)
                                      refine inc_11_6_1_i (pc := 198) dX9_findChains_198 ?_
                                      have r721 : inR ((nI j41) + 1) 1 20 := inR_add (show inR (nI j41) 0 19 from hr41) (show inR 1 1 1 from (inR_self _)) (by decide) (by decide)
                                      have e722 := ti_add (l := 1) (h := 20) (show inR (nI j41) 0 19 from hr41) (show inR 1 1 1 from (inR_self _)) (by decide) (by decide)
                                      refine R_goto (pc := 201) 41 dX9_findChains_201 (by decide) ?_
                                      rw [nI_1]
                                      exact ih41 (j41 + 1) _ _ _ _ _ (by omega) (by omega) hI158
                                    | succ q ih158 =>
                                      intro j158 σ158 hj hs158 hI158
                                      have hr158 : inR (nI j158) 0 19 := inR_ix hs158 (show j158 < 20 by omega) (by decide) (by decide) (by decide)
                                      have hlt158 : j158 < 20 := by omega
                                      refine R_iload (pc := 158) dX9_findChains_158 rfl ?_
                                      refine R_iload (pc := 160) dX9_findChains_160 rfl ?_
                                      refine R_icge (pc := 162) 198 dX9_findChains_162 (by decide) (fun b162_723 => ?_) (fun b162_723 => ?_)
                                      · skip
                                        refine inc_11_6_1_i (pc := 198) dX9_findChains_198 ?_
                                        have r724 : inR ((nI j41) + 1) 1 20 := inR_add (show inR (nI j41) 0 19 from hr41) (show inR 1 1 1 from (inR_self _)) (by decide) (by decide)
                                        have e725 := ti_add (l := 1) (h := 20) (show inR (nI j41) 0 19 from hr41) (show inR 1 1 1 from (inR_self _)) (by decide) (by decide)
                                        refine R_goto (pc := 201) 41 dX9_findChains_201 (by decide) ?_
                                        rw [nI_1]
                                        exact ih41 (j41 + 1) _ _ _ _ _ (by omega) (by omega) hI158
                                      · skip
                                        refine R_iload (pc := 165) dX9_findChains_165 rfl ?_
                                        refine R_ifeq (pc := 167) 198 dX9_findChains_167 (by decide) (fun _ => ?_) (fun h => absurd (by decide) h)
                                        refine inc_11_6_1_i (pc := 198) dX9_findChains_198 ?_
                                        have r727 : inR ((nI j41) + 1) 1 20 := inR_add (show inR (nI j41) 0 19 from hr41) (show inR 1 1 1 from (inR_self _)) (by decide) (by decide)
                                        have e728 := ti_add (l := 1) (h := 20) (show inR (nI j41) 0 19 from hr41) (show inR 1 1 1 from (inR_self _)) (by decide) (by decide)
                                        refine R_goto (pc := 201) 41 dX9_findChains_201 (by decide) ?_
                                        rw [nI_1]
                                        exact ih41 (j41 + 1) _ _ _ _ _ (by omega) (by omega) hI158
                                  exact HL158 20 0 _ (by omega) (by omega) hI41
                                · skip
                                  refine R_aload_n (pc := 142) dX9_findChains_142 rfl rfl ?_
                                  refine R_iload (pc := 143) dX9_findChains_143 rfl ?_
                                  have hx729 : vp_in (nI j41) 20 := (vp_in_nI (by omega) (by decide))
                                  refine R_iaload (pc := 145) dX9_findChains_145 (c_152 _) hx729 ?_
                                  refine R_goto (pc := 146) 153 dX9_findChains_146 (by decide) ?_
                                  refine st_11_9_i_i (pc := 153) dX9_findChains_153 ?_
                                  refine R_iconst (pc := 155) (v := 0) dX9_findChains_155 (by decide) ?_
                                  refine st_11_10_i_i (pc := 156) dX9_findChains_156 ?_
                                  have HL158 : ∀ (q j158 : Nat) (σ158 : Sg), j158 + q = 20 → 0 ≤ j158 → Inv σ158 → R G l yX9_findChains cX9_findChains 11 none 3 0 0 (QV (fun w2 => ∃ σ2, w2 = WW σ2 ∧ Inv σ2)) 158 [(some (.ref 140)), (some (.ref 152)), (some (.int m)), (some (.int u)), (some (.int y1)), (some (.int (nI j31))), (some (.int (nI j41))), (some (.int 0)), (some (.int (σ41.2.2.1 152 (Int32.toNatClampNeg (nI j41))))), (some (.int (σ41.2.2.1 152 (Int32.toNatClampNeg (nI j41))))), (some (.int (nI j158)))] [] (WW σ158) 0 0 := by
                                    intro q
                                    induction q with
                                    | zero =>
                                      intro j158 σ158 hj hs158 hI158
                                      obtain rfl : j158 = 20 := by omega
                                      refine R_iload (pc := 158) dX9_findChains_158 rfl ?_
                                      refine R_iload (pc := 160) dX9_findChains_160 rfl ?_
                                      refine R_icge (pc := 162) 198 dX9_findChains_162 (by decide) (fun _ => ?_) (fun h => absurd (Int32.not_lt.mp (inR_up hr2 (Int32.le_refl _) (by decide)).2) h)
                                      refine inc_11_6_1_i (pc := 198) dX9_findChains_198 ?_
                                      have r731 : inR ((nI j41) + 1) 1 20 := inR_add (show inR (nI j41) 0 19 from hr41) (show inR 1 1 1 from (inR_self _)) (by decide) (by decide)
                                      have e732 := ti_add (l := 1) (h := 20) (show inR (nI j41) 0 19 from hr41) (show inR 1 1 1 from (inR_self _)) (by decide) (by decide)
                                      refine R_goto (pc := 201) 41 dX9_findChains_201 (by decide) ?_
                                      rw [nI_1]
                                      exact ih41 (j41 + 1) _ _ _ _ _ (by omega) (by omega) hI158
                                    | succ q ih158 =>
                                      intro j158 σ158 hj hs158 hI158
                                      have hr158 : inR (nI j158) 0 19 := inR_ix hs158 (show j158 < 20 by omega) (by decide) (by decide) (by decide)
                                      have hlt158 : j158 < 20 := by omega
                                      refine R_iload (pc := 158) dX9_findChains_158 rfl ?_
                                      refine R_iload (pc := 160) dX9_findChains_160 rfl ?_
                                      refine R_icge (pc := 162) 198 dX9_findChains_162 (by decide) (fun b162_733 => ?_) (fun b162_733 => ?_)
                                      · skip
                                        refine inc_11_6_1_i (pc := 198) dX9_findChains_198 ?_
                                        have r734 : inR ((nI j41) + 1) 1 20 := inR_add (show inR (nI j41) 0 19 from hr41) (show inR 1 1 1 from (inR_self _)) (by decide) (by decide)
                                        have e735 := ti_add (l := 1) (h := 20) (show inR (nI j41) 0 19 from hr41) (show inR 1 1 1 from (inR_self _)) (by decide) (by decide)
                                        refine R_goto (pc := 201) 41 dX9_findChains_201 (by decide) ?_
                                        rw [nI_1]
                                        exact ih41 (j41 + 1) _ _ _ _ _ (by omega) (by omega) hI158
                                      · skip
                                        refine R_iload (pc := 165) dX9_findChains_165 rfl ?_
                                        refine R_ifeq (pc := 167) 198 dX9_findChains_167 (by decide) (fun _ => ?_) (fun h => absurd (by decide) h)
                                        refine inc_11_6_1_i (pc := 198) dX9_findChains_198 ?_
                                        have r737 : inR ((nI j41) + 1) 1 20 := inR_add (show inR (nI j41) 0 19 from hr41) (show inR 1 1 1 from (inR_self _)) (by decide) (by decide)
                                        have e738 := ti_add (l := 1) (h := 20) (show inR (nI j41) 0 19 from hr41) (show inR 1 1 1 from (inR_self _)) (by decide) (by decide)
                                        refine R_goto (pc := 201) 41 dX9_findChains_201 (by decide) ?_
                                        rw [nI_1]
                                        exact ih41 (j41 + 1) _ _ _ _ _ (by omega) (by omega) hI158
                                  exact HL158 20 0 _ (by omega) (by omega) hI41
                              · skip
                                refine R_aload_n (pc := 118) dX9_findChains_118 rfl rfl ?_
                                refine R_iload (pc := 119) dX9_findChains_119 rfl ?_
                                have hx739 : vp_in (nI j31) 20 := (vp_in_nI (by omega) (by decide))
                                refine R_iaload (pc := 121) dX9_findChains_121 (c_152 _) hx739 ?_
                                refine R_goto (pc := 122) 129 dX9_findChains_122 (by decide) ?_
                                refine st_11_8_i_i (pc := 129) dX9_findChains_129 ?_
                                refine R_aload_n (pc := 131) dX9_findChains_131 rfl rfl ?_
                                refine R_iload (pc := 132) dX9_findChains_132 rfl ?_
                                have hx740 : vp_in (nI j31) 20 := (vp_in_nI (by omega) (by decide))
                                refine R_iaload (pc := 134) dX9_findChains_134 (c_152 _) hx740 ?_
                                refine R_aload_n (pc := 135) dX9_findChains_135 rfl rfl ?_
                                refine R_iload (pc := 136) dX9_findChains_136 rfl ?_
                                have hx741 : vp_in (nI j41) 20 := (vp_in_nI (by omega) (by decide))
                                refine R_iaload (pc := 138) dX9_findChains_138 (c_152 _) hx741 ?_
                                refine R_icge (pc := 139) 149 dX9_findChains_139 (by decide) (fun b139_742 => ?_) (fun b139_742 => ?_)
                                · skip
                                  refine R_aload_n (pc := 149) dX9_findChains_149 rfl rfl ?_
                                  refine R_iload (pc := 150) dX9_findChains_150 rfl ?_
                                  have hx743 : vp_in (nI j31) 20 := (vp_in_nI (by omega) (by decide))
                                  refine R_iaload (pc := 152) dX9_findChains_152 (c_152 _) hx743 ?_
                                  refine st_11_9_i_i (pc := 153) dX9_findChains_153 ?_
                                  refine R_iconst (pc := 155) (v := 0) dX9_findChains_155 (by decide) ?_
                                  refine st_11_10_i_i (pc := 156) dX9_findChains_156 ?_
                                  have HL158 : ∀ (q j158 : Nat) (σ158 : Sg), j158 + q = 20 → 0 ≤ j158 → Inv σ158 → R G l yX9_findChains cX9_findChains 11 none 3 0 0 (QV (fun w2 => ∃ σ2, w2 = WW σ2 ∧ Inv σ2)) 158 [(some (.ref 140)), (some (.ref 152)), (some (.int m)), (some (.int u)), (some (.int y1)), (some (.int (nI j31))), (some (.int (nI j41))), (some (.int 0)), (some (.int (σ41.2.2.1 152 (Int32.toNatClampNeg (nI j31))))), (some (.int (σ41.2.2.1 152 (Int32.toNatClampNeg (nI j31))))), (some (.int (nI j158)))] [] (WW σ158) 0 0 := by
                                    intro q
                                    induction q with
                                    | zero =>
                                      intro j158 σ158 hj hs158 hI158
                                      obtain rfl : j158 = 20 := by omega
                                      refine R_iload (pc := 158) dX9_findChains_158 rfl ?_
                                      refine R_iload (pc := 160) dX9_findChains_160 rfl ?_
                                      refine R_icge (pc := 162) 198 dX9_findChains_162 (by decide) (fun _ => ?_) (fun h => absurd (Int32.not_lt.mp (inR_up hr2 (Int32.le_refl _) (by decide)).2) h)
                                      refine inc_11_6_1_i (pc := 198) dX9_findChains_198 ?_
                                      have r745 : inR ((nI j41) + 1) 1 20 := inR_add (show inR (nI j41) 0 19 from hr41) (show inR 1 1 1 from (inR_self _)) (by decide) (by decide)
                                      have e746 := ti_add (l := 1) (h := 20) (show inR (nI j41) 0 19 from hr41) (show inR 1 1 1 from (inR_self _)) (by decide) (by decide)
                                      refine R_goto (pc := 201) 41 dX9_findChains_201 (by decide) ?_
                                      rw [nI_1]
                                      exact ih41 (j41 + 1) _ _ _ _ _ (by omega) (by omega) hI158
                                    | succ q ih158 =>
                                      intro j158 σ158 hj hs158 hI158
                                      have hr158 : inR (nI j158) 0 19 := inR_ix hs158 (show j158 < 20 by omega) (by decide) (by decide) (by decide)
                                      have hlt158 : j158 < 20 := by omega
                                      refine R_iload (pc := 158) dX9_findChains_158 rfl ?_
                                      refine R_iload (pc := 160) dX9_findChains_160 rfl ?_
                                      refine R_icge (pc := 162) 198 dX9_findChains_162 (by decide) (fun b162_747 => ?_) (fun b162_747 => ?_)
                                      · skip
                                        refine inc_11_6_1_i (pc := 198) dX9_findChains_198 ?_
                                        have r748 : inR ((nI j41) + 1) 1 20 := inR_add (show inR (nI j41) 0 19 from hr41) (show inR 1 1 1 from (inR_self _)) (by decide) (by decide)
                                        have e749 := ti_add (l := 1) (h := 20) (show inR (nI j41) 0 19 from hr41) (show inR 1 1 1 from (inR_self _)) (by decide) (by decide)
                                        refine R_goto (pc := 201) 41 dX9_findChains_201 (by decide) ?_
                                        rw [nI_1]
                                        exact ih41 (j41 + 1) _ _ _ _ _ (by omega) (by omega) hI158
                                      · skip
                                        refine R_iload (pc := 165) dX9_findChains_165 rfl ?_
                                        refine R_ifeq (pc := 167) 198 dX9_findChains_167 (by decide) (fun _ => ?_) (fun h => absurd (by decide) h)
                                        refine inc_11_6_1_i (pc := 198) dX9_findChains_198 ?_
                                        have r751 : inR ((nI j41) + 1) 1 20 := inR_add (show inR (nI j41) 0 19 from hr41) (show inR 1 1 1 from (inR_self _)) (by decide) (by decide)
                                        have e752 := ti_add (l := 1) (h := 20) (show inR (nI j41) 0 19 from hr41) (show inR 1 1 1 from (inR_self _)) (by decide) (by decide)
                                        refine R_goto (pc := 201) 41 dX9_findChains_201 (by decide) ?_
                                        rw [nI_1]
                                        exact ih41 (j41 + 1) _ _ _ _ _ (by omega) (by omega) hI158
                                  exact HL158 20 0 _ (by omega) (by omega) hI41
                                · skip
                                  refine R_aload_n (pc := 142) dX9_findChains_142 rfl rfl ?_
                                  refine R_iload (pc := 143) dX9_findChains_143 rfl ?_
                                  have hx753 : vp_in (nI j41) 20 := (vp_in_nI (by omega) (by decide))
                                  refine R_iaload (pc := 145) dX9_findChains_145 (c_152 _) hx753 ?_
                                  refine R_goto (pc := 146) 153 dX9_findChains_146 (by decide) ?_
                                  refine st_11_9_i_i (pc := 153) dX9_findChains_153 ?_
                                  refine R_iconst (pc := 155) (v := 0) dX9_findChains_155 (by decide) ?_
                                  refine st_11_10_i_i (pc := 156) dX9_findChains_156 ?_
                                  have HL158 : ∀ (q j158 : Nat) (σ158 : Sg), j158 + q = 20 → 0 ≤ j158 → Inv σ158 → R G l yX9_findChains cX9_findChains 11 none 3 0 0 (QV (fun w2 => ∃ σ2, w2 = WW σ2 ∧ Inv σ2)) 158 [(some (.ref 140)), (some (.ref 152)), (some (.int m)), (some (.int u)), (some (.int y1)), (some (.int (nI j31))), (some (.int (nI j41))), (some (.int 0)), (some (.int (σ41.2.2.1 152 (Int32.toNatClampNeg (nI j31))))), (some (.int (σ41.2.2.1 152 (Int32.toNatClampNeg (nI j41))))), (some (.int (nI j158)))] [] (WW σ158) 0 0 := by
                                    intro q
                                    induction q with
                                    | zero =>
                                      intro j158 σ158 hj hs158 hI158
                                      obtain rfl : j158 = 20 := by omega
                                      refine R_iload (pc := 158) dX9_findChains_158 rfl ?_
                                      refine R_iload (pc := 160) dX9_findChains_160 rfl ?_
                                      refine R_icge (pc := 162) 198 dX9_findChains_162 (by decide) (fun _ => ?_) (fun h => absurd (Int32.not_lt.mp (inR_up hr2 (Int32.le_refl _) (by decide)).2) h)
                                      refine inc_11_6_1_i (pc := 198) dX9_findChains_198 ?_
                                      have r755 : inR ((nI j41) + 1) 1 20 := inR_add (show inR (nI j41) 0 19 from hr41) (show inR 1 1 1 from (inR_self _)) (by decide) (by decide)
                                      have e756 := ti_add (l := 1) (h := 20) (show inR (nI j41) 0 19 from hr41) (show inR 1 1 1 from (inR_self _)) (by decide) (by decide)
                                      refine R_goto (pc := 201) 41 dX9_findChains_201 (by decide) ?_
                                      rw [nI_1]
                                      exact ih41 (j41 + 1) _ _ _ _ _ (by omega) (by omega) hI158
                                    | succ q ih158 =>
                                      intro j158 σ158 hj hs158 hI158
                                      have hr158 : inR (nI j158) 0 19 := inR_ix hs158 (show j158 < 20 by omega) (by decide) (by decide) (by decide)
                                      have hlt158 : j158 < 20 := by omega
                                      refine R_iload (pc := 158) dX9_findChains_158 rfl ?_
                                      refine R_iload (pc := 160) dX9_findChains_160 rfl ?_
                                      refine R_icge (pc := 162) 198 dX9_findChains_162 (by decide) (fun b162_757 => ?_) (fun b162_757 => ?_)
                                      · skip
                                        refine inc_11_6_1_i (pc := 198) dX9_findChains_198 ?_
                                        have r758 : inR ((nI j41) + 1) 1 20 := inR_add (show inR (nI j41) 0 19 from hr41) (show inR 1 1 1 from (inR_self _)) (by decide) (by decide)
                                        have e759 := ti_add (l := 1) (h := 20) (show inR (nI j41) 0 19 from hr41) (show inR 1 1 1 from (inR_self _)) (by decide) (by decide)
                                        refine R_goto (pc := 201) 41 dX9_findChains_201 (by decide) ?_
                                        rw [nI_1]
                                        exact ih41 (j41 + 1) _ _ _ _ _ (by omega) (by omega) hI158
                                      · skip
                                        refine R_iload (pc := 165) dX9_findChains_165 rfl ?_
                                        refine R_ifeq (pc := 167) 198 dX9_findChains_167 (by decide) (fun _ => ?_) (fun h => absurd (by decide) h)
                                        refine inc_11_6_1_i (pc := 198) dX9_findChains_198 ?_
                                        have r761 : inR ((nI j41) + 1) 1 20 := inR_add (show inR (nI j41) 0 19 from hr41) (show inR 1 1 1 from (inR_self _)) (by decide) (by decide)
                                        have e762 := ti_add (l := 1) (h := 20) (show inR (nI j41) 0 19 from hr41) (show inR 1 1 1 from (inR_self _)) (by decide) (by decide)
                                        refine R_goto (pc := 201) 41 dX9_findChains_201 (by decide) ?_
                                        rw [nI_1]
                                        exact ih41 (j41 + 1) _ _ _ _ _ (by omega) (by omega) hI158
                                  exact HL158 20 0 _ (by omega) (by omega) hI41
                          · skip
                            refine R_aload_n (pc := 75) dX9_findChains_75 rfl rfl ?_
                            refine R_iload (pc := 76) dX9_findChains_76 rfl ?_
                            refine R_iload (pc := 78) dX9_findChains_78 rfl ?_
                            refine k_X9_159 (pc := 80) (gx_X9_isMatch _ _ _ hI41 hr31 hr41) rfl (c_140 _) (by decide) (Nat.le_refl _) (Nat.le_refl _) (Nat.le_of_ble_eq_true rfl) dX9_findChains_80 (fun y763 w2 h => ?_)
                            obtain ⟨σx765, rfl, hV764⟩ := h
                            refine R_ifeq (pc := 83) 104 dX9_findChains_83 (by decide) (fun b83_766 => ?_) (fun b83_766 => ?_)
                            · skip
                              refine R_iconst (pc := 104) (v := 0) dX9_findChains_104 (by decide) ?_
                              refine st_11_7_i_i (pc := 105) dX9_findChains_105 ?_
                              refine R_aload_n (pc := 107) dX9_findChains_107 rfl rfl ?_
                              refine R_iload (pc := 108) dX9_findChains_108 rfl ?_
                              have hx767 : vp_in (nI j31) 20 := (vp_in_nI (by omega) (by decide))
                              refine R_iaload (pc := 110) dX9_findChains_110 (c_152 _) hx767 ?_
                              refine R_aload_n (pc := 111) dX9_findChains_111 rfl rfl ?_
                              refine R_iload (pc := 112) dX9_findChains_112 rfl ?_
                              have hx768 : vp_in (nI j41) 20 := (vp_in_nI (by omega) (by decide))
                              refine R_iaload (pc := 114) dX9_findChains_114 (c_152 _) hx768 ?_
                              refine R_icge (pc := 115) 125 dX9_findChains_115 (by decide) (fun b115_769 => ?_) (fun b115_769 => ?_)
                              · skip
                                refine R_aload_n (pc := 125) dX9_findChains_125 rfl rfl ?_
                                refine R_iload (pc := 126) dX9_findChains_126 rfl ?_
                                have hx770 : vp_in (nI j41) 20 := (vp_in_nI (by omega) (by decide))
                                refine R_iaload (pc := 128) dX9_findChains_128 (c_152 _) hx770 ?_
                                refine st_11_8_i_i (pc := 129) dX9_findChains_129 ?_
                                refine R_aload_n (pc := 131) dX9_findChains_131 rfl rfl ?_
                                refine R_iload (pc := 132) dX9_findChains_132 rfl ?_
                                have hx771 : vp_in (nI j31) 20 := (vp_in_nI (by omega) (by decide))
                                refine R_iaload (pc := 134) dX9_findChains_134 (c_152 _) hx771 ?_
                                refine R_aload_n (pc := 135) dX9_findChains_135 rfl rfl ?_
                                refine R_iload (pc := 136) dX9_findChains_136 rfl ?_
                                have hx772 : vp_in (nI j41) 20 := (vp_in_nI (by omega) (by decide))
                                refine R_iaload (pc := 138) dX9_findChains_138 (c_152 _) hx772 ?_
                                refine R_icge (pc := 139) 149 dX9_findChains_139 (by decide) (fun b139_773 => ?_) (fun b139_773 => ?_)
                                · skip
                                  refine R_aload_n (pc := 149) dX9_findChains_149 rfl rfl ?_
                                  refine R_iload (pc := 150) dX9_findChains_150 rfl ?_
                                  have hx774 : vp_in (nI j31) 20 := (vp_in_nI (by omega) (by decide))
                                  refine R_iaload (pc := 152) dX9_findChains_152 (c_152 _) hx774 ?_
                                  refine st_11_9_i_i (pc := 153) dX9_findChains_153 ?_
                                  refine R_iconst (pc := 155) (v := 0) dX9_findChains_155 (by decide) ?_
                                  refine st_11_10_i_i (pc := 156) dX9_findChains_156 ?_
                                  have HL158 : ∀ (q j158 : Nat) (σ158 : Sg), j158 + q = 20 → 0 ≤ j158 → Inv σ158 → R G l yX9_findChains cX9_findChains 11 none 3 0 0 (QV (fun w2 => ∃ σ2, w2 = WW σ2 ∧ Inv σ2)) 158 [(some (.ref 140)), (some (.ref 152)), (some (.int m)), (some (.int u)), (some (.int y1)), (some (.int (nI j31))), (some (.int (nI j41))), (some (.int 0)), (some (.int (σx765.2.2.1 152 (Int32.toNatClampNeg (nI j41))))), (some (.int (σx765.2.2.1 152 (Int32.toNatClampNeg (nI j31))))), (some (.int (nI j158)))] [] (WW σ158) 0 0 := by
                                    intro q
                                    induction q with
                                    | zero =>
                                      intro j158 σ158 hj hs158 hI158
                                      obtain rfl : j158 = 20 := by omega
                                      refine R_iload (pc := 158) dX9_findChains_158 rfl ?_
                                      refine R_iload (pc := 160) dX9_findChains_160 rfl ?_
                                      refine R_icge (pc := 162) 198 dX9_findChains_162 (by decide) (fun _ => ?_) (fun h => absurd (Int32.not_lt.mp (inR_up hr2 (Int32.le_refl _) (by decide)).2) h)
                                      refine inc_11_6_1_i (pc := 198) dX9_findChains_198 ?_
                                      have r776 : inR ((nI j41) + 1) 1 20 := inR_add (show inR (nI j41) 0 19 from hr41) (show inR 1 1 1 from (inR_self _)) (by decide) (by decide)
                                      have e777 := ti_add (l := 1) (h := 20) (show inR (nI j41) 0 19 from hr41) (show inR 1 1 1 from (inR_self _)) (by decide) (by decide)
                                      refine R_goto (pc := 201) 41 dX9_findChains_201 (by decide) ?_
                                      rw [nI_1]
                                      exact ih41 (j41 + 1) _ _ _ _ _ (by omega) (by omega) hI158
                                    | succ q ih158 =>
                                      intro j158 σ158 hj hs158 hI158
                                      have hr158 : inR (nI j158) 0 19 := inR_ix hs158 (show j158 < 20 by omega) (by decide) (by decide) (by decide)
                                      have hlt158 : j158 < 20 := by omega
                                      refine R_iload (pc := 158) dX9_findChains_158 rfl ?_
                                      refine R_iload (pc := 160) dX9_findChains_160 rfl ?_
                                      refine R_icge (pc := 162) 198 dX9_findChains_162 (by decide) (fun b162_778 => ?_) (fun b162_778 => ?_)
                                      · skip
                                        refine inc_11_6_1_i (pc := 198) dX9_findChains_198 ?_
                                        have r779 : inR ((nI j41) + 1) 1 20 := inR_add (show inR (nI j41) 0 19 from hr41) (show inR 1 1 1 from (inR_self _)) (by decide) (by decide)
                                        have e780 := ti_add (l := 1) (h := 20) (show inR (nI j41) 0 19 from hr41) (show inR 1 1 1 from (inR_self _)) (by decide) (by decide)
                                        refine R_goto (pc := 201) 41 dX9_findChains_201 (by decide) ?_
                                        rw [nI_1]
                                        exact ih41 (j41 + 1) _ _ _ _ _ (by omega) (by omega) hI158
                                      · skip
                                        refine R_iload (pc := 165) dX9_findChains_165 rfl ?_
                                        refine R_ifeq (pc := 167) 198 dX9_findChains_167 (by decide) (fun _ => ?_) (fun h => absurd (by decide) h)
                                        refine inc_11_6_1_i (pc := 198) dX9_findChains_198 ?_
                                        have r782 : inR ((nI j41) + 1) 1 20 := inR_add (show inR (nI j41) 0 19 from hr41) (show inR 1 1 1 from (inR_self _)) (by decide) (by decide)
                                        have e783 := ti_add (l := 1) (h := 20) (show inR (nI j41) 0 19 from hr41) (show inR 1 1 1 from (inR_self _)) (by decide) (by decide)
                                        refine R_goto (pc := 201) 41 dX9_findChains_201 (by decide) ?_
                                        rw [nI_1]
                                        exact ih41 (j41 + 1) _ _ _ _ _ (by omega) (by omega) hI158
                                  exact HL158 20 0 _ (by omega) (by omega) hV764
                                · skip
                                  refine R_aload_n (pc := 142) dX9_findChains_142 rfl rfl ?_
                                  refine R_iload (pc := 143) dX9_findChains_143 rfl ?_
                                  have hx784 : vp_in (nI j41) 20 := (vp_in_nI (by omega) (by decide))
                                  refine R_iaload (pc := 145) dX9_findChains_145 (c_152 _) hx784 ?_
                                  refine R_goto (pc := 146) 153 dX9_findChains_146 (by decide) ?_
                                  refine st_11_9_i_i (pc := 153) dX9_findChains_153 ?_
                                  refine R_iconst (pc := 155) (v := 0) dX9_findChains_155 (by decide) ?_
                                  refine st_11_10_i_i (pc := 156) dX9_findChains_156 ?_
                                  have HL158 : ∀ (q j158 : Nat) (σ158 : Sg), j158 + q = 20 → 0 ≤ j158 → Inv σ158 → R G l yX9_findChains cX9_findChains 11 none 3 0 0 (QV (fun w2 => ∃ σ2, w2 = WW σ2 ∧ Inv σ2)) 158 [(some (.ref 140)), (some (.ref 152)), (some (.int m)), (some (.int u)), (some (.int y1)), (some (.int (nI j31))), (some (.int (nI j41))), (some (.int 0)), (some (.int (σx765.2.2.1 152 (Int32.toNatClampNeg (nI j41))))), (some (.int (σx765.2.2.1 152 (Int32.toNatClampNeg (nI j41))))), (some (.int (nI j158)))] [] (WW σ158) 0 0 := by
                                    intro q
                                    induction q with
                                    | zero =>
                                      intro j158 σ158 hj hs158 hI158
                                      obtain rfl : j158 = 20 := by omega
                                      refine R_iload (pc := 158) dX9_findChains_158 rfl ?_
                                      refine R_iload (pc := 160) dX9_findChains_160 rfl ?_
                                      refine R_icge (pc := 162) 198 dX9_findChains_162 (by decide) (fun _ => ?_) (fun h => absurd (Int32.not_lt.mp (inR_up hr2 (Int32.le_refl _) (by decide)).2) h)
                                      refine inc_11_6_1_i (pc := 198) dX9_findChains_198 ?_
                                      have r786 : inR ((nI j41) + 1) 1 20 := inR_add (show inR (nI j41) 0 19 from hr41) (show inR 1 1 1 from (inR_self _)) (by decide) (by decide)
                                      have e787 := ti_add (l := 1) (h := 20) (show inR (nI j41) 0 19 from hr41) (show inR 1 1 1 from (inR_self _)) (by decide) (by decide)
                                      refine R_goto (pc := 201) 41 dX9_findChains_201 (by decide) ?_
                                      rw [nI_1]
                                      exact ih41 (j41 + 1) _ _ _ _ _ (by omega) (by omega) hI158
                                    | succ q ih158 =>
                                      intro j158 σ158 hj hs158 hI158
                                      have hr158 : inR (nI j158) 0 19 := inR_ix hs158 (show j158 < 20 by omega) (by decide) (by decide) (by decide)
                                      have hlt158 : j158 < 20 := by omega
                                      refine R_iload (pc := 158) dX9_findChains_158 rfl ?_
                                      refine R_iload (pc := 160) dX9_findChains_160 rfl ?_
                                      refine R_icge (pc := 162) 198 dX9_findChains_162 (by decide) (fun b162_788 => ?_) (fun b162_788 => ?_)
                                      · skip
                                        refine inc_11_6_1_i (pc := 198) dX9_findChains_198 ?_
                                        have r789 : inR ((nI j41) + 1) 1 20 := inR_add (show inR (nI j41) 0 19 from hr41) (show inR 1 1 1 from (inR_self _)) (by decide) (by decide)
                                        have e790 := ti_add (l := 1) (h := 20) (show inR (nI j41) 0 19 from hr41) (show inR 1 1 1 from (inR_self _)) (by decide) (by decide)
                                        refine R_goto (pc := 201) 41 dX9_findChains_201 (by decide) ?_
                                        rw [nI_1]
                                        exact ih41 (j41 + 1) _ _ _ _ _ (by omega) (by omega) hI158
                                      · skip
                                        refine R_iload (pc := 165) dX9_findChains_165 rfl ?_
                                        refine R_ifeq (pc := 167) 198 dX9_findChains_167 (by decide) (fun _ => ?_) (fun h => absurd (by decide) h)
                                        refine inc_11_6_1_i (pc := 198) dX9_findChains_198 ?_
                                        have r792 : inR ((nI j41) + 1) 1 20 := inR_add (show inR (nI j41) 0 19 from hr41) (show inR 1 1 1 from (inR_self _)) (by decide) (by decide)
                                        have e793 := ti_add (l := 1) (h := 20) (show inR (nI j41) 0 19 from hr41) (show inR 1 1 1 from (inR_self _)) (by decide) (by decide)
                                        refine R_goto (pc := 201) 41 dX9_findChains_201 (by decide) ?_
                                        rw [nI_1]
                                        exact ih41 (j41 + 1) _ _ _ _ _ (by omega) (by omega) hI158
                                  exact HL158 20 0 _ (by omega) (by omega) hV764
                              · skip
                                refine R_aload_n (pc := 118) dX9_findChains_118 rfl rfl ?_
                                refine R_iload (pc := 119) dX9_findChains_119 rfl ?_
                                have hx794 : vp_in (nI j31) 20 := (vp_in_nI (by omega) (by decide))
                                refine R_iaload (pc := 121) dX9_findChains_121 (c_152 _) hx794 ?_
                                refine R_goto (pc := 122) 129 dX9_findChains_122 (by decide) ?_
                                refine st_11_8_i_i (pc := 129) dX9_findChains_129 ?_
                                refine R_aload_n (pc := 131) dX9_findChains_131 rfl rfl ?_
                                refine R_iload (pc := 132) dX9_findChains_132 rfl ?_
                                have hx795 : vp_in (nI j31) 20 := (vp_in_nI (by omega) (by decide))
                                refine R_iaload (pc := 134) dX9_findChains_134 (c_152 _) hx795 ?_
                                refine R_aload_n (pc := 135) dX9_findChains_135 rfl rfl ?_
                                refine R_iload (pc := 136) dX9_findChains_136 rfl ?_
                                have hx796 : vp_in (nI j41) 20 := (vp_in_nI (by omega) (by decide))
                                refine R_iaload (pc := 138) dX9_findChains_138 (c_152 _) hx796 ?_
                                refine R_icge (pc := 139) 149 dX9_findChains_139 (by decide) (fun b139_797 => ?_) (fun b139_797 => ?_)
                                · skip
                                  refine R_aload_n (pc := 149) dX9_findChains_149 rfl rfl ?_
                                  refine R_iload (pc := 150) dX9_findChains_150 rfl ?_
                                  have hx798 : vp_in (nI j31) 20 := (vp_in_nI (by omega) (by decide))
                                  refine R_iaload (pc := 152) dX9_findChains_152 (c_152 _) hx798 ?_
                                  refine st_11_9_i_i (pc := 153) dX9_findChains_153 ?_
                                  refine R_iconst (pc := 155) (v := 0) dX9_findChains_155 (by decide) ?_
                                  refine st_11_10_i_i (pc := 156) dX9_findChains_156 ?_
                                  have HL158 : ∀ (q j158 : Nat) (σ158 : Sg), j158 + q = 20 → 0 ≤ j158 → Inv σ158 → R G l yX9_findChains cX9_findChains 11 none 3 0 0 (QV (fun w2 => ∃ σ2, w2 = WW σ2 ∧ Inv σ2)) 158 [(some (.ref 140)), (some (.ref 152)), (some (.int m)), (some (.int u)), (some (.int y1)), (some (.int (nI j31))), (some (.int (nI j41))), (some (.int 0)), (some (.int (σx765.2.2.1 152 (Int32.toNatClampNeg (nI j31))))), (some (.int (σx765.2.2.1 152 (Int32.toNatClampNeg (nI j31))))), (some (.int (nI j158)))] [] (WW σ158) 0 0 := by
                                    intro q
                                    induction q with
                                    | zero =>
                                      intro j158 σ158 hj hs158 hI158
                                      obtain rfl : j158 = 20 := by omega
                                      refine R_iload (pc := 158) dX9_findChains_158 rfl ?_
                                      refine R_iload (pc := 160) dX9_findChains_160 rfl ?_
                                      refine R_icge (pc := 162) 198 dX9_findChains_162 (by decide) (fun _ => ?_) (fun h => absurd (Int32.not_lt.mp (inR_up hr2 (Int32.le_refl _) (by decide)).2) h)
                                      refine inc_11_6_1_i (pc := 198) dX9_findChains_198 ?_
                                      have r800 : inR ((nI j41) + 1) 1 20 := inR_add (show inR (nI j41) 0 19 from hr41) (show inR 1 1 1 from (inR_self _)) (by decide) (by decide)
                                      have e801 := ti_add (l := 1) (h := 20) (show inR (nI j41) 0 19 from hr41) (show inR 1 1 1 from (inR_self _)) (by decide) (by decide)
                                      refine R_goto (pc := 201) 41 dX9_findChains_201 (by decide) ?_
                                      rw [nI_1]
                                      exact ih41 (j41 + 1) _ _ _ _ _ (by omega) (by omega) hI158
                                    | succ q ih158 =>
                                      intro j158 σ158 hj hs158 hI158
                                      have hr158 : inR (nI j158) 0 19 := inR_ix hs158 (show j158 < 20 by omega) (by decide) (by decide) (by decide)
                                      have hlt158 : j158 < 20 := by omega
                                      refine R_iload (pc := 158) dX9_findChains_158 rfl ?_
                                      refine R_iload (pc := 160) dX9_findChains_160 rfl ?_
                                      refine R_icge (pc := 162) 198 dX9_findChains_162 (by decide) (fun b162_802 => ?_) (fun b162_802 => ?_)
                                      · skip
                                        refine inc_11_6_1_i (pc := 198) dX9_findChains_198 ?_
                                        have r803 : inR ((nI j41) + 1) 1 20 := inR_add (show inR (nI j41) 0 19 from hr41) (show inR 1 1 1 from (inR_self _)) (by decide) (by decide)
                                        have e804 := ti_add (l := 1) (h := 20) (show inR (nI j41) 0 19 from hr41) (show inR 1 1 1 from (inR_self _)) (by decide) (by decide)
                                        refine R_goto (pc := 201) 41 dX9_findChains_201 (by decide) ?_
                                        rw [nI_1]
                                        exact ih41 (j41 + 1) _ _ _ _ _ (by omega) (by omega) hI158
                                      · skip
                                        refine R_iload (pc := 165) dX9_findChains_165 rfl ?_
                                        refine R_ifeq (pc := 167) 198 dX9_findChains_167 (by decide) (fun _ => ?_) (fun h => absurd (by decide) h)
                                        refine inc_11_6_1_i (pc := 198) dX9_findChains_198 ?_
                                        have r806 : inR ((nI j41) + 1) 1 20 := inR_add (show inR (nI j41) 0 19 from hr41) (show inR 1 1 1 from (inR_self _)) (by decide) (by decide)
                                        have e807 := ti_add (l := 1) (h := 20) (show inR (nI j41) 0 19 from hr41) (show inR 1 1 1 from (inR_self _)) (by decide) (by decide)
                                        refine R_goto (pc := 201) 41 dX9_findChains_201 (by decide) ?_
                                        rw [nI_1]
                                        exact ih41 (j41 + 1) _ _ _ _ _ (by omega) (by omega) hI158
                                  exact HL158 20 0 _ (by omega) (by omega) hV764
                                · skip
                                  refine R_aload_n (pc := 142) dX9_findChains_142 rfl rfl ?_
                                  refine R_iload (pc := 143) dX9_findChains_143 rfl ?_
                                  have hx808 : vp_in (nI j41) 20 := (vp_in_nI (by omega) (by decide))
                                  refine R_iaload (pc := 145) dX9_findChains_145 (c_152 _) hx808 ?_
                                  refine R_goto (pc := 146) 153 dX9_findChains_146 (by decide) ?_
                                  refine st_11_9_i_i (pc := 153) dX9_findChains_153 ?_
                                  refine R_iconst (pc := 155) (v := 0) dX9_findChains_155 (by decide) ?_
                                  refine st_11_10_i_i (pc := 156) dX9_findChains_156 ?_
                                  have HL158 : ∀ (q j158 : Nat) (σ158 : Sg), j158 + q = 20 → 0 ≤ j158 → Inv σ158 → R G l yX9_findChains cX9_findChains 11 none 3 0 0 (QV (fun w2 => ∃ σ2, w2 = WW σ2 ∧ Inv σ2)) 158 [(some (.ref 140)), (some (.ref 152)), (some (.int m)), (some (.int u)), (some (.int y1)), (some (.int (nI j31))), (some (.int (nI j41))), (some (.int 0)), (some (.int (σx765.2.2.1 152 (Int32.toNatClampNeg (nI j31))))), (some (.int (σx765.2.2.1 152 (Int32.toNatClampNeg (nI j41))))), (some (.int (nI j158)))] [] (WW σ158) 0 0 := by
                                    intro q
                                    induction q with
                                    | zero =>
                                      intro j158 σ158 hj hs158 hI158
                                      obtain rfl : j158 = 20 := by omega
                                      refine R_iload (pc := 158) dX9_findChains_158 rfl ?_
                                      refine R_iload (pc := 160) dX9_findChains_160 rfl ?_
                                      refine R_icge (pc := 162) 198 dX9_findChains_162 (by decide) (fun _ => ?_) (fun h => absurd (Int32.not_lt.mp (inR_up hr2 (Int32.le_refl _) (by decide)).2) h)
                                      refine inc_11_6_1_i (pc := 198) dX9_findChains_198 ?_
                                      have r810 : inR ((nI j41) + 1) 1 20 := inR_add (show inR (nI j41) 0 19 from hr41) (show inR 1 1 1 from (inR_self _)) (by decide) (by decide)
                                      have e811 := ti_add (l := 1) (h := 20) (show inR (nI j41) 0 19 from hr41) (show inR 1 1 1 from (inR_self _)) (by decide) (by decide)
                                      refine R_goto (pc := 201) 41 dX9_findChains_201 (by decide) ?_
                                      rw [nI_1]
                                      exact ih41 (j41 + 1) _ _ _ _ _ (by omega) (by omega) hI158
                                    | succ q ih158 =>
                                      intro j158 σ158 hj hs158 hI158
                                      have hr158 : inR (nI j158) 0 19 := inR_ix hs158 (show j158 < 20 by omega) (by decide) (by decide) (by decide)
                                      have hlt158 : j158 < 20 := by omega
                                      refine R_iload (pc := 158) dX9_findChains_158 rfl ?_
                                      refine R_iload (pc := 160) dX9_findChains_160 rfl ?_
                                      refine R_icge (pc := 162) 198 dX9_findChains_162 (by decide) (fun b162_812 => ?_) (fun b162_812 => ?_)
                                      · skip
                                        refine inc_11_6_1_i (pc := 198) dX9_findChains_198 ?_
                                        have r813 : inR ((nI j41) + 1) 1 20 := inR_add (show inR (nI j41) 0 19 from hr41) (show inR 1 1 1 from (inR_self _)) (by decide) (by decide)
                                        have e814 := ti_add (l := 1) (h := 20) (show inR (nI j41) 0 19 from hr41) (show inR 1 1 1 from (inR_self _)) (by decide) (by decide)
                                        refine R_goto (pc := 201) 41 dX9_findChains_201 (by decide) ?_
                                        rw [nI_1]
                                        exact ih41 (j41 + 1) _ _ _ _ _ (by omega) (by omega) hI158
                                      · skip
                                        refine R_iload (pc := 165) dX9_findChains_165 rfl ?_
                                        refine R_ifeq (pc := 167) 198 dX9_findChains_167 (by decide) (fun _ => ?_) (fun h => absurd (by decide) h)
                                        refine inc_11_6_1_i (pc := 198) dX9_findChains_198 ?_
                                        have r816 : inR ((nI j41) + 1) 1 20 := inR_add (show inR (nI j41) 0 19 from hr41) (show inR 1 1 1 from (inR_self _)) (by decide) (by decide)
                                        have e817 := ti_add (l := 1) (h := 20) (show inR (nI j41) 0 19 from hr41) (show inR 1 1 1 from (inR_self _)) (by decide) (by decide)
                                        refine R_goto (pc := 201) 41 dX9_findChains_201 (by decide) ?_
                                        rw [nI_1]
                                        exact ih41 (j41 + 1) _ _ _ _ _ (by omega) (by omega) hI158
                                  exact HL158 20 0 _ (by omega) (by omega) hV764
                            · skip
                              refine R_goto (pc := 86) 100 dX9_findChains_86 (by decide) ?_
                              refine R_iconst (pc := 100) (v := 1) dX9_findChains_100 (by decide) ?_
                              refine R_goto (pc := 101) 105 dX9_findChains_101 (by decide) ?_
                              refine st_11_7_i_i (pc := 105) dX9_findChains_105 ?_
                              refine R_aload_n (pc := 107) dX9_findChains_107 rfl rfl ?_
                              refine R_iload (pc := 108) dX9_findChains_108 rfl ?_
                              have hx818 : vp_in (nI j31) 20 := (vp_in_nI (by omega) (by decide))
                              refine R_iaload (pc := 110) dX9_findChains_110 (c_152 _) hx818 ?_
                              refine R_aload_n (pc := 111) dX9_findChains_111 rfl rfl ?_
                              refine R_iload (pc := 112) dX9_findChains_112 rfl ?_
                              have hx819 : vp_in (nI j41) 20 := (vp_in_nI (by omega) (by decide))
                              refine R_iaload (pc := 114) dX9_findChains_114 (c_152 _) hx819 ?_
                              refine R_icge (pc := 115) 125 dX9_findChains_115 (by decide) (fun b115_820 => ?_) (fun b115_820 => ?_)
                              · skip
                                refine R_aload_n (pc := 125) dX9_findChains_125 rfl rfl ?_
                                refine R_iload (pc := 126) dX9_findChains_126 rfl ?_
                                have hx821 : vp_in (nI j41) 20 := (vp_in_nI (by omega) (by decide))
                                refine R_iaload (pc := 128) dX9_findChains_128 (c_152 _) hx821 ?_
                                refine st_11_8_i_i (pc := 129) dX9_findChains_129 ?_
                                refine R_aload_n (pc := 131) dX9_findChains_131 rfl rfl ?_
                                refine R_iload (pc := 132) dX9_findChains_132 rfl ?_
                                have hx822 : vp_in (nI j31) 20 := (vp_in_nI (by omega) (by decide))
                                refine R_iaload (pc := 134) dX9_findChains_134 (c_152 _) hx822 ?_
                                refine R_aload_n (pc := 135) dX9_findChains_135 rfl rfl ?_
                                refine R_iload (pc := 136) dX9_findChains_136 rfl ?_
                                have hx823 : vp_in (nI j41) 20 := (vp_in_nI (by omega) (by decide))
                                refine R_iaload (pc := 138) dX9_findChains_138 (c_152 _) hx823 ?_
                                refine R_icge (pc := 139) 149 dX9_findChains_139 (by decide) (fun b139_824 => ?_) (fun b139_824 => ?_)
                                · skip
                                  refine R_aload_n (pc := 149) dX9_findChains_149 rfl rfl ?_
                                  refine R_iload (pc := 150) dX9_findChains_150 rfl ?_
                                  have hx825 : vp_in (nI j31) 20 := (vp_in_nI (by omega) (by decide))
                                  refine R_iaload (pc := 152) dX9_findChains_152 (c_152 _) hx825 ?_
                                  refine st_11_9_i_i (pc := 153) dX9_findChains_153 ?_
                                  refine R_iconst (pc := 155) (v := 0) dX9_findChains_155 (by decide) ?_
                                  refine st_11_10_i_i (pc := 156) dX9_findChains_156 ?_
                                  have HL158 : ∀ (q j158 : Nat) (σ158 : Sg), j158 + q = 20 → 0 ≤ j158 → Inv σ158 → R G l yX9_findChains cX9_findChains 11 none 3 0 0 (QV (fun w2 => ∃ σ2, w2 = WW σ2 ∧ Inv σ2)) 158 [(some (.ref 140)), (some (.ref 152)), (some (.int m)), (some (.int u)), (some (.int y1)), (some (.int (nI j31))), (some (.int (nI j41))), (some (.int 1)), (some (.int (σx765.2.2.1 152 (Int32.toNatClampNeg (nI j41))))), (some (.int (σx765.2.2.1 152 (Int32.toNatClampNeg (nI j31))))), (some (.int (nI j158)))] [] (WW σ158) 0 0 := by
                                    intro q
                                    induction q with
                                    | zero =>
                                      intro j158 σ158 hj hs158 hI158
                                      obtain rfl : j158 = 20 := by omega
                                      refine R_iload (pc := 158) dX9_findChains_158 rfl ?_
                                      refine R_iload (pc := 160) dX9_findChains_160 rfl ?_
                                      refine R_icge (pc := 162) 198 dX9_findChains_162 (by decide) (fun _ => ?_) (fun h => absurd (Int32.not_lt.mp (inR_up hr2 (Int32.le_refl _) (by decide)).2) h)
                                      refine inc_11_6_1_i (pc := 198) dX9_findChains_198 ?_
                                      have r827 : inR ((nI j41) + 1) 1 20 := inR_add (show inR (nI j41) 0 19 from hr41) (show inR 1 1 1 from (inR_self _)) (by decide) (by decide)
                                      have e828 := ti_add (l := 1) (h := 20) (show inR (nI j41) 0 19 from hr41) (show inR 1 1 1 from (inR_self _)) (by decide) (by decide)
                                      refine R_goto (pc := 201) 41 dX9_findChains_201 (by decide) ?_
                                      rw [nI_1]
                                      exact ih41 (j41 + 1) _ _ _ _ _ (by omega) (by omega) hI158
                                    | succ q ih158 =>
                                      intro j158 σ158 hj hs158 hI158
                                      have hr158 : inR (nI j158) 0 19 := inR_ix hs158 (show j158 < 20 by omega) (by decide) (by decide) (by decide)
                                      have hlt158 : j158 < 20 := by omega
                                      refine R_iload (pc := 158) dX9_findChains_158 rfl ?_
                                      refine R_iload (pc := 160) dX9_findChains_160 rfl ?_
                                      refine R_icge (pc := 162) 198 dX9_findChains_162 (by decide) (fun b162_829 => ?_) (fun b162_829 => ?_)
                                      · skip
                                        refine inc_11_6_1_i (pc := 198) dX9_findChains_198 ?_
                                        have r830 : inR ((nI j41) + 1) 1 20 := inR_add (show inR (nI j41) 0 19 from hr41) (show inR 1 1 1 from (inR_self _)) (by decide) (by decide)
                                        have e831 := ti_add (l := 1) (h := 20) (show inR (nI j41) 0 19 from hr41) (show inR 1 1 1 from (inR_self _)) (by decide) (by decide)
                                        refine R_goto (pc := 201) 41 dX9_findChains_201 (by decide) ?_
                                        rw [nI_1]
                                        exact ih41 (j41 + 1) _ _ _ _ _ (by omega) (by omega) hI158
                                      · skip
                                        refine R_iload (pc := 165) dX9_findChains_165 rfl ?_
                                        refine R_ifeq (pc := 167) 198 dX9_findChains_167 (by decide) (fun h => absurd h (by decide)) (fun _ => ?_)
                                        refine R_aload_n (pc := 170) dX9_findChains_170 rfl rfl ?_
                                        refine R_iload (pc := 171) dX9_findChains_171 rfl ?_
                                        refine R_aload_n (pc := 173) dX9_findChains_173 rfl rfl ?_
                                        refine R_iload (pc := 174) dX9_findChains_174 rfl ?_
                                        have hx833 : vp_in (nI j158) 20 := (vp_in_nI (by omega) (by decide))
                                        refine R_iaload (pc := 176) dX9_findChains_176 (c_152 _) hx833 ?_
                                        refine R_iload (pc := 177) dX9_findChains_177 rfl ?_
                                        refine R_icne (pc := 179) 187 dX9_findChains_179 (by decide) (fun b179_834 => ?_) (fun b179_834 => ?_)
                                        · skip
                                          refine R_aload_n (pc := 187) dX9_findChains_187 rfl rfl ?_
                                          refine R_iload (pc := 188) dX9_findChains_188 rfl ?_
                                          have hx835 : vp_in (nI j158) 20 := (vp_in_nI (by omega) (by decide))
                                          refine R_iaload (pc := 190) dX9_findChains_190 (c_152 _) hx835 ?_
                                          have hx836 : vp_in (nI j158) 20 := (vp_in_nI (by omega) (by decide))
                                          refine W_iastore (pc := 191) dX9_findChains_191 (c_152 _) hx836 (a_152 _ _) ?_
                                          have hV837 := sa_152 hI158 (Int32.toNatClampNeg (nI j158)) (iva_152 hI158 _ (lt_of_vp hx833))
                                          refine inc_11_10_1_i (pc := 192) dX9_findChains_192 ?_
                                          have r838 : inR ((nI j158) + 1) 1 20 := inR_add (show inR (nI j158) 0 19 from hr158) (show inR 1 1 1 from (inR_self _)) (by decide) (by decide)
                                          have e839 := ti_add (l := 1) (h := 20) (show inR (nI j158) 0 19 from hr158) (show inR 1 1 1 from (inR_self _)) (by decide) (by decide)
                                          refine R_goto (pc := 195) 158 dX9_findChains_195 (by decide) ?_
                                          rw [nI_1]
                                          exact ih158 (j158 + 1) _ (by omega) (by omega) hV837
                                        · skip
                                          refine R_iload (pc := 182) dX9_findChains_182 rfl ?_
                                          refine R_goto (pc := 184) 191 dX9_findChains_184 (by decide) ?_
                                          have hx840 : vp_in (nI j158) 20 := (vp_in_nI (by omega) (by decide))
                                          refine W_iastore (pc := 191) dX9_findChains_191 (c_152 _) hx840 (a_152 _ _) ?_
                                          have hV841 := sa_152 hI158 (Int32.toNatClampNeg (nI j158)) (iva_152 hV764 _ (lt_of_vp hx819))
                                          refine inc_11_10_1_i (pc := 192) dX9_findChains_192 ?_
                                          have r842 : inR ((nI j158) + 1) 1 20 := inR_add (show inR (nI j158) 0 19 from hr158) (show inR 1 1 1 from (inR_self _)) (by decide) (by decide)
                                          have e843 := ti_add (l := 1) (h := 20) (show inR (nI j158) 0 19 from hr158) (show inR 1 1 1 from (inR_self _)) (by decide) (by decide)
                                          refine R_goto (pc := 195) 158 dX9_findChains_195 (by decide) ?_
                                          rw [nI_1]
                                          exact ih158 (j158 + 1) _ (by omega) (by omega) hV841
                                  exact HL158 20 0 _ (by omega) (by omega) hV764
                                · skip
                                  refine R_aload_n (pc := 142) dX9_findChains_142 rfl rfl ?_
                                  refine R_iload (pc := 143) dX9_findChains_143 rfl ?_
                                  have hx844 : vp_in (nI j41) 20 := (vp_in_nI (by omega) (by decide))
                                  refine R_iaload (pc := 145) dX9_findChains_145 (c_152 _) hx844 ?_
                                  refine R_goto (pc := 146) 153 dX9_findChains_146 (by decide) ?_
                                  refine st_11_9_i_i (pc := 153) dX9_findChains_153 ?_
                                  refine R_iconst (pc := 155) (v := 0) dX9_findChains_155 (by decide) ?_
                                  refine st_11_10_i_i (pc := 156) dX9_findChains_156 ?_
                                  have HL158 : ∀ (q j158 : Nat) (σ158 : Sg), j158 + q = 20 → 0 ≤ j158 → Inv σ158 → R G l yX9_findChains cX9_findChains 11 none 3 0 0 (QV (fun w2 => ∃ σ2, w2 = WW σ2 ∧ Inv σ2)) 158 [(some (.ref 140)), (some (.ref 152)), (some (.int m)), (some (.int u)), (some (.int y1)), (some (.int (nI j31))), (some (.int (nI j41))), (some (.int 1)), (some (.int (σx765.2.2.1 152 (Int32.toNatClampNeg (nI j41))))), (some (.int (σx765.2.2.1 152 (Int32.toNatClampNeg (nI j41))))), (some (.int (nI j158)))] [] (WW σ158) 0 0 := by
                                    intro q
                                    induction q with
                                    | zero =>
                                      intro j158 σ158 hj hs158 hI158
                                      obtain rfl : j158 = 20 := by omega
                                      refine R_iload (pc := 158) dX9_findChains_158 rfl ?_
                                      refine R_iload (pc := 160) dX9_findChains_160 rfl ?_
                                      refine R_icge (pc := 162) 198 dX9_findChains_162 (by decide) (fun _ => ?_) (fun h => absurd (Int32.not_lt.mp (inR_up hr2 (Int32.le_refl _) (by decide)).2) h)
                                      refine inc_11_6_1_i (pc := 198) dX9_findChains_198 ?_
                                      have r846 : inR ((nI j41) + 1) 1 20 := inR_add (show inR (nI j41) 0 19 from hr41) (show inR 1 1 1 from (inR_self _)) (by decide) (by decide)
                                      have e847 := ti_add (l := 1) (h := 20) (show inR (nI j41) 0 19 from hr41) (show inR 1 1 1 from (inR_self _)) (by decide) (by decide)
                                      refine R_goto (pc := 201) 41 dX9_findChains_201 (by decide) ?_
                                      rw [nI_1]
                                      exact ih41 (j41 + 1) _ _ _ _ _ (by omega) (by omega) hI158
                                    | succ q ih158 =>
                                      intro j158 σ158 hj hs158 hI158
                                      have hr158 : inR (nI j158) 0 19 := inR_ix hs158 (show j158 < 20 by omega) (by decide) (by decide) (by decide)
                                      have hlt158 : j158 < 20 := by omega
                                      refine R_iload (pc := 158) dX9_findChains_158 rfl ?_
                                      refine R_iload (pc := 160) dX9_findChains_160 rfl ?_
                                      refine R_icge (pc := 162) 198 dX9_findChains_162 (by decide) (fun b162_848 => ?_) (fun b162_848 => ?_)
                                      · skip
                                        refine inc_11_6_1_i (pc := 198) dX9_findChains_198 ?_
                                        have r849 : inR ((nI j41) + 1) 1 20 := inR_add (show inR (nI j41) 0 19 from hr41) (show inR 1 1 1 from (inR_self _)) (by decide) (by decide)
                                        have e850 := ti_add (l := 1) (h := 20) (show inR (nI j41) 0 19 from hr41) (show inR 1 1 1 from (inR_self _)) (by decide) (by decide)
                                        refine R_goto (pc := 201) 41 dX9_findChains_201 (by decide) ?_
                                        rw [nI_1]
                                        exact ih41 (j41 + 1) _ _ _ _ _ (by omega) (by omega) hI158
                                      · skip
                                        refine R_iload (pc := 165) dX9_findChains_165 rfl ?_
                                        refine R_ifeq (pc := 167) 198 dX9_findChains_167 (by decide) (fun h => absurd h (by decide)) (fun _ => ?_)
                                        refine R_aload_n (pc := 170) dX9_findChains_170 rfl rfl ?_
                                        refine R_iload (pc := 171) dX9_findChains_171 rfl ?_
                                        refine R_aload_n (pc := 173) dX9_findChains_173 rfl rfl ?_
                                        refine R_iload (pc := 174) dX9_findChains_174 rfl ?_
                                        have hx852 : vp_in (nI j158) 20 := (vp_in_nI (by omega) (by decide))
                                        refine R_iaload (pc := 176) dX9_findChains_176 (c_152 _) hx852 ?_
                                        refine R_iload (pc := 177) dX9_findChains_177 rfl ?_
                                        refine R_icne (pc := 179) 187 dX9_findChains_179 (by decide) (fun b179_853 => ?_) (fun b179_853 => ?_)
                                        · skip
                                          refine R_aload_n (pc := 187) dX9_findChains_187 rfl rfl ?_
                                          refine R_iload (pc := 188) dX9_findChains_188 rfl ?_
                                          have hx854 : vp_in (nI j158) 20 := (vp_in_nI (by omega) (by decide))
                                          refine R_iaload (pc := 190) dX9_findChains_190 (c_152 _) hx854 ?_
                                          have hx855 : vp_in (nI j158) 20 := (vp_in_nI (by omega) (by decide))
                                          refine W_iastore (pc := 191) dX9_findChains_191 (c_152 _) hx855 (a_152 _ _) ?_
                                          have hV856 := sa_152 hI158 (Int32.toNatClampNeg (nI j158)) (iva_152 hI158 _ (lt_of_vp hx852))
                                          refine inc_11_10_1_i (pc := 192) dX9_findChains_192 ?_
                                          have r857 : inR ((nI j158) + 1) 1 20 := inR_add (show inR (nI j158) 0 19 from hr158) (show inR 1 1 1 from (inR_self _)) (by decide) (by decide)
                                          have e858 := ti_add (l := 1) (h := 20) (show inR (nI j158) 0 19 from hr158) (show inR 1 1 1 from (inR_self _)) (by decide) (by decide)
                                          refine R_goto (pc := 195) 158 dX9_findChains_195 (by decide) ?_
                                          rw [nI_1]
                                          exact ih158 (j158 + 1) _ (by omega) (by omega) hV856
                                        · skip
                                          refine R_iload (pc := 182) dX9_findChains_182 rfl ?_
                                          refine R_goto (pc := 184) 191 dX9_findChains_184 (by decide) ?_
                                          have hx859 : vp_in (nI j158) 20 := (vp_in_nI (by omega) (by decide))
                                          refine W_iastore (pc := 191) dX9_findChains_191 (c_152 _) hx859 (a_152 _ _) ?_
                                          have hV860 := sa_152 hI158 (Int32.toNatClampNeg (nI j158)) (iva_152 hV764 _ (lt_of_vp hx819))
                                          refine inc_11_10_1_i (pc := 192) dX9_findChains_192 ?_
                                          have r861 : inR ((nI j158) + 1) 1 20 := inR_add (show inR (nI j158) 0 19 from hr158) (show inR 1 1 1 from (inR_self _)) (by decide) (by decide)
                                          have e862 := ti_add (l := 1) (h := 20) (show inR (nI j158) 0 19 from hr158) (show inR 1 1 1 from (inR_self _)) (by decide) (by decide)
                                          refine R_goto (pc := 195) 158 dX9_findChains_195 (by decide) ?_
                                          rw [nI_1]
                                          exact ih158 (j158 + 1) _ (by omega) (by omega) hV860
                                  exact HL158 20 0 _ (by omega) (by omega) hV764
                              · skip
                                refine R_aload_n (pc := 118) dX9_findChains_118 rfl rfl ?_
                                refine R_iload (pc := 119) dX9_findChains_119 rfl ?_
                                have hx863 : vp_in (nI j31) 20 := (vp_in_nI (by omega) (by decide))
                                refine R_iaload (pc := 121) dX9_findChains_121 (c_152 _) hx863 ?_
                                refine R_goto (pc := 122) 129 dX9_findChains_122 (by decide) ?_
                                refine st_11_8_i_i (pc := 129) dX9_findChains_129 ?_
                                refine R_aload_n (pc := 131) dX9_findChains_131 rfl rfl ?_
                                refine R_iload (pc := 132) dX9_findChains_132 rfl ?_
                                have hx864 : vp_in (nI j31) 20 := (vp_in_nI (by omega) (by decide))
                                refine R_iaload (pc := 134) dX9_findChains_134 (c_152 _) hx864 ?_
                                refine R_aload_n (pc := 135) dX9_findChains_135 rfl rfl ?_
                                refine R_iload (pc := 136) dX9_findChains_136 rfl ?_
                                have hx865 : vp_in (nI j41) 20 := (vp_in_nI (by omega) (by decide))
                                refine R_iaload (pc := 138) dX9_findChains_138 (c_152 _) hx865 ?_
                                refine R_icge (pc := 139) 149 dX9_findChains_139 (by decide) (fun b139_866 => ?_) (fun b139_866 => ?_)
                                · skip
                                  refine R_aload_n (pc := 149) dX9_findChains_149 rfl rfl ?_
                                  refine R_iload (pc := 150) dX9_findChains_150 rfl ?_
                                  have hx867 : vp_in (nI j31) 20 := (vp_in_nI (by omega) (by decide))
                                  refine R_iaload (pc := 152) dX9_findChains_152 (c_152 _) hx867 ?_
                                  refine st_11_9_i_i (pc := 153) dX9_findChains_153 ?_
                                  refine R_iconst (pc := 155) (v := 0) dX9_findChains_155 (by decide) ?_
                                  refine st_11_10_i_i (pc := 156) dX9_findChains_156 ?_
                                  have HL158 : ∀ (q j158 : Nat) (σ158 : Sg), j158 + q = 20 → 0 ≤ j158 → Inv σ158 → R G l yX9_findChains cX9_findChains 11 none 3 0 0 (QV (fun w2 => ∃ σ2, w2 = WW σ2 ∧ Inv σ2)) 158 [(some (.ref 140)), (some (.ref 152)), (some (.int m)), (some (.int u)), (some (.int y1)), (some (.int (nI j31))), (some (.int (nI j41))), (some (.int 1)), (some (.int (σx765.2.2.1 152 (Int32.toNatClampNeg (nI j31))))), (some (.int (σx765.2.2.1 152 (Int32.toNatClampNeg (nI j31))))), (some (.int (nI j158)))] [] (WW σ158) 0 0 := by
                                    intro q
                                    induction q with
                                    | zero =>
                                      intro j158 σ158 hj hs158 hI158
                                      obtain rfl : j158 = 20 := by omega
                                      refine R_iload (pc := 158) dX9_findChains_158 rfl ?_
                                      refine R_iload (pc := 160) dX9_findChains_160 rfl ?_
                                      refine R_icge (pc := 162) 198 dX9_findChains_162 (by decide) (fun _ => ?_) (fun h => absurd (Int32.not_lt.mp (inR_up hr2 (Int32.le_refl _) (by decide)).2) h)
                                      refine inc_11_6_1_i (pc := 198) dX9_findChains_198 ?_
                                      have r869 : inR ((nI j41) + 1) 1 20 := inR_add (show inR (nI j41) 0 19 from hr41) (show inR 1 1 1 from (inR_self _)) (by decide) (by decide)
                                      have e870 := ti_add (l := 1) (h := 20) (show inR (nI j41) 0 19 from hr41) (show inR 1 1 1 from (inR_self _)) (by decide) (by decide)
                                      refine R_goto (pc := 201) 41 dX9_findChains_201 (by decide) ?_
                                      rw [nI_1]
                                      exact ih41 (j41 + 1) _ _ _ _ _ (by omega) (by omega) hI158
                                    | succ q ih158 =>
                                      intro j158 σ158 hj hs158 hI158
                                      have hr158 : inR (nI j158) 0 19 := inR_ix hs158 (show j158 < 20 by omega) (by decide) (by decide) (by decide)
                                      have hlt158 : j158 < 20 := by omega
                                      refine R_iload (pc := 158) dX9_findChains_158 rfl ?_
                                      refine R_iload (pc := 160) dX9_findChains_160 rfl ?_
                                      refine R_icge (pc := 162) 198 dX9_findChains_162 (by decide) (fun b162_871 => ?_) (fun b162_871 => ?_)
                                      · skip
                                        refine inc_11_6_1_i (pc := 198) dX9_findChains_198 ?_
                                        have r872 : inR ((nI j41) + 1) 1 20 := inR_add (show inR (nI j41) 0 19 from hr41) (show inR 1 1 1 from (inR_self _)) (by decide) (by decide)
                                        have e873 := ti_add (l := 1) (h := 20) (show inR (nI j41) 0 19 from hr41) (show inR 1 1 1 from (inR_self _)) (by decide) (by decide)
                                        refine R_goto (pc := 201) 41 dX9_findChains_201 (by decide) ?_
                                        rw [nI_1]
                                        exact ih41 (j41 + 1) _ _ _ _ _ (by omega) (by omega) hI158
                                      · skip
                                        refine R_iload (pc := 165) dX9_findChains_165 rfl ?_
                                        refine R_ifeq (pc := 167) 198 dX9_findChains_167 (by decide) (fun h => absurd h (by decide)) (fun _ => ?_)
                                        refine R_aload_n (pc := 170) dX9_findChains_170 rfl rfl ?_
                                        refine R_iload (pc := 171) dX9_findChains_171 rfl ?_
                                        refine R_aload_n (pc := 173) dX9_findChains_173 rfl rfl ?_
                                        refine R_iload (pc := 174) dX9_findChains_174 rfl ?_
                                        have hx875 : vp_in (nI j158) 20 := (vp_in_nI (by omega) (by decide))
                                        refine R_iaload (pc := 176) dX9_findChains_176 (c_152 _) hx875 ?_
                                        refine R_iload (pc := 177) dX9_findChains_177 rfl ?_
                                        refine R_icne (pc := 179) 187 dX9_findChains_179 (by decide) (fun b179_876 => ?_) (fun b179_876 => ?_)
                                        · skip
                                          refine R_aload_n (pc := 187) dX9_findChains_187 rfl rfl ?_
                                          refine R_iload (pc := 188) dX9_findChains_188 rfl ?_
                                          have hx877 : vp_in (nI j158) 20 := (vp_in_nI (by omega) (by decide))
                                          refine R_iaload (pc := 190) dX9_findChains_190 (c_152 _) hx877 ?_
                                          have hx878 : vp_in (nI j158) 20 := (vp_in_nI (by omega) (by decide))
                                          refine W_iastore (pc := 191) dX9_findChains_191 (c_152 _) hx878 (a_152 _ _) ?_
                                          have hV879 := sa_152 hI158 (Int32.toNatClampNeg (nI j158)) (iva_152 hI158 _ (lt_of_vp hx875))
                                          refine inc_11_10_1_i (pc := 192) dX9_findChains_192 ?_
                                          have r880 : inR ((nI j158) + 1) 1 20 := inR_add (show inR (nI j158) 0 19 from hr158) (show inR 1 1 1 from (inR_self _)) (by decide) (by decide)
                                          have e881 := ti_add (l := 1) (h := 20) (show inR (nI j158) 0 19 from hr158) (show inR 1 1 1 from (inR_self _)) (by decide) (by decide)
                                          refine R_goto (pc := 195) 158 dX9_findChains_195 (by decide) ?_
                                          rw [nI_1]
                                          exact ih158 (j158 + 1) _ (by omega) (by omega) hV879
                                        · skip
                                          refine R_iload (pc := 182) dX9_findChains_182 rfl ?_
                                          refine R_goto (pc := 184) 191 dX9_findChains_184 (by decide) ?_
                                          have hx882 : vp_in (nI j158) 20 := (vp_in_nI (by omega) (by decide))
                                          refine W_iastore (pc := 191) dX9_findChains_191 (c_152 _) hx882 (a_152 _ _) ?_
                                          have hV883 := sa_152 hI158 (Int32.toNatClampNeg (nI j158)) (iva_152 hV764 _ (lt_of_vp hx818))
                                          refine inc_11_10_1_i (pc := 192) dX9_findChains_192 ?_
                                          have r884 : inR ((nI j158) + 1) 1 20 := inR_add (show inR (nI j158) 0 19 from hr158) (show inR 1 1 1 from (inR_self _)) (by decide) (by decide)
                                          have e885 := ti_add (l := 1) (h := 20) (show inR (nI j158) 0 19 from hr158) (show inR 1 1 1 from (inR_self _)) (by decide) (by decide)
                                          refine R_goto (pc := 195) 158 dX9_findChains_195 (by decide) ?_
                                          rw [nI_1]
                                          exact ih158 (j158 + 1) _ (by omega) (by omega) hV883
                                  exact HL158 20 0 _ (by omega) (by omega) hV764
                                · skip
                                  refine R_aload_n (pc := 142) dX9_findChains_142 rfl rfl ?_
                                  refine R_iload (pc := 143) dX9_findChains_143 rfl ?_
                                  have hx886 : vp_in (nI j41) 20 := (vp_in_nI (by omega) (by decide))
                                  refine R_iaload (pc := 145) dX9_findChains_145 (c_152 _) hx886 ?_
                                  refine R_goto (pc := 146) 153 dX9_findChains_146 (by decide) ?_
                                  refine st_11_9_i_i (pc := 153) dX9_findChains_153 ?_
                                  refine R_iconst (pc := 155) (v := 0) dX9_findChains_155 (by decide) ?_
                                  refine st_11_10_i_i (pc := 156) dX9_findChains_156 ?_
                                  have HL158 : ∀ (q j158 : Nat) (σ158 : Sg), j158 + q = 20 → 0 ≤ j158 → Inv σ158 → R G l yX9_findChains cX9_findChains 11 none 3 0 0 (QV (fun w2 => ∃ σ2, w2 = WW σ2 ∧ Inv σ2)) 158 [(some (.ref 140)), (some (.ref 152)), (some (.int m)), (some (.int u)), (some (.int y1)), (some (.int (nI j31))), (some (.int (nI j41))), (some (.int 1)), (some (.int (σx765.2.2.1 152 (Int32.toNatClampNeg (nI j31))))), (some (.int (σx765.2.2.1 152 (Int32.toNatClampNeg (nI j41))))), (some (.int (nI j158)))] [] (WW σ158) 0 0 := by
                                    intro q
                                    induction q with
                                    | zero =>
                                      intro j158 σ158 hj hs158 hI158
                                      obtain rfl : j158 = 20 := by omega
                                      refine R_iload (pc := 158) dX9_findChains_158 rfl ?_
                                      refine R_iload (pc := 160) dX9_findChains_160 rfl ?_
                                      refine R_icge (pc := 162) 198 dX9_findChains_162 (by decide) (fun _ => ?_) (fun h => absurd (Int32.not_lt.mp (inR_up hr2 (Int32.le_refl _) (by decide)).2) h)
                                      refine inc_11_6_1_i (pc := 198) dX9_findChains_198 ?_
                                      have r888 : inR ((nI j41) + 1) 1 20 := inR_add (show inR (nI j41) 0 19 from hr41) (show inR 1 1 1 from (inR_self _)) (by decide) (by decide)
                                      have e889 := ti_add (l := 1) (h := 20) (show inR (nI j41) 0 19 from hr41) (show inR 1 1 1 from (inR_self _)) (by decide) (by decide)
                                      refine R_goto (pc := 201) 41 dX9_findChains_201 (by decide) ?_
                                      rw [nI_1]
                                      exact ih41 (j41 + 1) _ _ _ _ _ (by omega) (by omega) hI158
                                    | succ q ih158 =>
                                      intro j158 σ158 hj hs158 hI158
                                      have hr158 : inR (nI j158) 0 19 := inR_ix hs158 (show j158 < 20 by omega) (by decide) (by decide) (by decide)
                                      have hlt158 : j158 < 20 := by omega
                                      refine R_iload (pc := 158) dX9_findChains_158 rfl ?_
                                      refine R_iload (pc := 160) dX9_findChains_160 rfl ?_
                                      refine R_icge (pc := 162) 198 dX9_findChains_162 (by decide) (fun b162_890 => ?_) (fun b162_890 => ?_)
                                      · skip
                                        refine inc_11_6_1_i (pc := 198) dX9_findChains_198 ?_
                                        have r891 : inR ((nI j41) + 1) 1 20 := inR_add (show inR (nI j41) 0 19 from hr41) (show inR 1 1 1 from (inR_self _)) (by decide) (by decide)
                                        have e892 := ti_add (l := 1) (h := 20) (show inR (nI j41) 0 19 from hr41) (show inR 1 1 1 from (inR_self _)) (by decide) (by decide)
                                        refine R_goto (pc := 201) 41 dX9_findChains_201 (by decide) ?_
                                        rw [nI_1]
                                        exact ih41 (j41 + 1) _ _ _ _ _ (by omega) (by omega) hI158
                                      · skip
                                        refine R_iload (pc := 165) dX9_findChains_165 rfl ?_
                                        refine R_ifeq (pc := 167) 198 dX9_findChains_167 (by decide) (fun h => absurd h (by decide)) (fun _ => ?_)
                                        refine R_aload_n (pc := 170) dX9_findChains_170 rfl rfl ?_
                                        refine R_iload (pc := 171) dX9_findChains_171 rfl ?_
                                        refine R_aload_n (pc := 173) dX9_findChains_173 rfl rfl ?_
                                        refine R_iload (pc := 174) dX9_findChains_174 rfl ?_
                                        have hx894 : vp_in (nI j158) 20 := (vp_in_nI (by omega) (by decide))
                                        refine R_iaload (pc := 176) dX9_findChains_176 (c_152 _) hx894 ?_
                                        refine R_iload (pc := 177) dX9_findChains_177 rfl ?_
                                        refine R_icne (pc := 179) 187 dX9_findChains_179 (by decide) (fun b179_895 => ?_) (fun b179_895 => ?_)
                                        · skip
                                          refine R_aload_n (pc := 187) dX9_findChains_187 rfl rfl ?_
                                          refine R_iload (pc := 188) dX9_findChains_188 rfl ?_
                                          have hx896 : vp_in (nI j158) 20 := (vp_in_nI (by omega) (by decide))
                                          refine R_iaload (pc := 190) dX9_findChains_190 (c_152 _) hx896 ?_
                                          have hx897 : vp_in (nI j158) 20 := (vp_in_nI (by omega) (by decide))
                                          refine W_iastore (pc := 191) dX9_findChains_191 (c_152 _) hx897 (a_152 _ _) ?_
                                          have hV898 := sa_152 hI158 (Int32.toNatClampNeg (nI j158)) (iva_152 hI158 _ (lt_of_vp hx894))
                                          refine inc_11_10_1_i (pc := 192) dX9_findChains_192 ?_
                                          have r899 : inR ((nI j158) + 1) 1 20 := inR_add (show inR (nI j158) 0 19 from hr158) (show inR 1 1 1 from (inR_self _)) (by decide) (by decide)
                                          have e900 := ti_add (l := 1) (h := 20) (show inR (nI j158) 0 19 from hr158) (show inR 1 1 1 from (inR_self _)) (by decide) (by decide)
                                          refine R_goto (pc := 195) 158 dX9_findChains_195 (by decide) ?_
                                          rw [nI_1]
                                          exact ih158 (j158 + 1) _ (by omega) (by omega) hV898
                                        · skip
                                          refine R_iload (pc := 182) dX9_findChains_182 rfl ?_
                                          refine R_goto (pc := 184) 191 dX9_findChains_184 (by decide) ?_
                                          have hx901 : vp_in (nI j158) 20 := (vp_in_nI (by omega) (by decide))
                                          refine W_iastore (pc := 191) dX9_findChains_191 (c_152 _) hx901 (a_152 _ _) ?_
                                          have hV902 := sa_152 hI158 (Int32.toNatClampNeg (nI j158)) (iva_152 hV764 _ (lt_of_vp hx818))
                                          refine inc_11_10_1_i (pc := 192) dX9_findChains_192 ?_
                                          have r903 : inR ((nI j158) + 1) 1 20 := inR_add (show inR (nI j158) 0 19 from hr158) (show inR 1 1 1 from (inR_self _)) (by decide) (by decide)
                                          have e904 := ti_add (l := 1) (h := 20) (show inR (nI j158) 0 19 from hr158) (show inR 1 1 1 from (inR_self _)) (by decide) (by decide)
                                          refine R_goto (pc := 195) 158 dX9_findChains_195 (by decide) ?_
                                          rw [nI_1]
                                          exact ih158 (j158 + 1) _ (by omega) (by omega) hV902
                                  exact HL158 20 0 _ (by omega) (by omega) hV764
              exact HL41 20 0 _ _ _ _ _ (by omega) (by omega) hI31
        exact HL31 20 0 _ _ _ _ _ _ (by omega) (by omega) hI9
      · skip
        refine R_aload_n (pc := 16) dX9_findChains_16 rfl rfl ?_
        refine R_iload (pc := 17) dX9_findChains_17 rfl ?_
        refine R_iload (pc := 19) dX9_findChains_19 rfl ?_
        have hx905 : vp_in (nI j9) 20 := (vp_in_nI (by omega) (by decide))
        refine W_iastore (pc := 21) dX9_findChains_21 (c_152 _) hx905 (a_152 _ _) ?_
        have hV906 := sa_152 hI9 (Int32.toNatClampNeg (nI j9)) hr9
        refine inc_11_5_1_i (pc := 22) dX9_findChains_22 ?_
        have r907 : inR ((nI j9) + 1) 1 20 := inR_add (show inR (nI j9) 0 19 from hr9) (show inR 1 1 1 from (inR_self _)) (by decide) (by decide)
        have e908 := ti_add (l := 1) (h := 20) (show inR (nI j9) 0 19 from hr9) (show inR 1 1 1 from (inR_self _)) (by decide) (by decide)
        refine R_goto (pc := 25) 9 dX9_findChains_25 (by decide) ?_
        rw [nI_1]
        exact ih9 (j9 + 1) _ (by omega) (by omega) hV906
  exact HL9 20 0 _ (by omega) (by omega) hI
set_option maxRecDepth 100000 in
set_option maxHeartbeats 40000000 in
theorem gx_X9_findChains_153 {G : vG} {l : Launch} (σ : Sg) (m u : Int32) (hI : Inv σ) : Sp G l yX9_findChains cX9_findChains 11 none 3 0 0 [.ref 140, .ref 153, .int m, .int u] (WW σ) (QV (fun w2 => ∃ σ2, w2 = WW σ2 ∧ Inv σ2)) := by
  refine Sp_of_R [(some (.ref 140)), (some (.ref 153)), (some (.int m)), (some (.int u)), none, none, none, none, none, none, none] [none, none, none, none, none, none, none] rfl (by simp) rfl (Nat.le_of_ble_eq_true rfl) ?_
  refine R_aload_n (pc := 0) dX9_findChains_0 rfl rfl ?_
  refine k_X9_120 (pc := 1) (gx_X9_thereMany _ hI) rfl (c_140 _) (by decide) (Nat.le_refl _) (Nat.le_refl _) (Nat.le_of_ble_eq_true rfl) dX9_findChains_1 (fun y1 w2 h => ?_)
  obtain ⟨rfl, hr2⟩ := h
  refine st_11_4_i_i (pc := 4) dX9_findChains_4 ?_
  refine R_iconst (pc := 6) (v := 0) dX9_findChains_6 (by decide) ?_
  refine st_11_5_i_i (pc := 7) dX9_findChains_7 ?_
  have HL9 : ∀ (q j9 : Nat) (σ9 : Sg), j9 + q = 20 → 0 ≤ j9 → Inv σ9 → R G l yX9_findChains cX9_findChains 11 none 3 0 0 (QV (fun w2 => ∃ σ2, w2 = WW σ2 ∧ Inv σ2)) 9 [(some (.ref 140)), (some (.ref 153)), (some (.int m)), (some (.int u)), (some (.int y1)), (some (.int (nI j9))), none, none, none, none, none] [] (WW σ9) 0 0 := by
    intro q
    induction q with
    | zero =>
      intro j9 σ9 hj hs9 hI9
      obtain rfl : j9 = 20 := by omega
      refine R_iload (pc := 9) dX9_findChains_9 rfl ?_
      refine R_iload (pc := 11) dX9_findChains_11 rfl ?_
      refine R_icge (pc := 13) 28 dX9_findChains_13 (by decide) (fun _ => ?_) (fun h => absurd (Int32.not_lt.mp (inR_up hr2 (Int32.le_refl _) (by decide)).2) h)
      refine R_iconst (pc := 28) (v := 0) dX9_findChains_28 (by decide) ?_
      refine st_11_5_i_i (pc := 29) dX9_findChains_29 ?_
      have HL31 : ∀ (q j31 : Nat) (σ31 : Sg) (g6_31 : Option Value) (g7_31 : Option Value) (g8_31 : Option Value) (g9_31 : Option Value) (g10_31 : Option Value), j31 + q = 20 → 0 ≤ j31 → Inv σ31 → R G l yX9_findChains cX9_findChains 11 none 3 0 0 (QV (fun w2 => ∃ σ2, w2 = WW σ2 ∧ Inv σ2)) 31 [(some (.ref 140)), (some (.ref 153)), (some (.int m)), (some (.int u)), (some (.int y1)), (some (.int (nI j31))), g6_31, g7_31, g8_31, g9_31, g10_31] [] (WW σ31) 0 0 := by
        intro q
        induction q with
        | zero =>
          intro j31 σ31 g6_31 g7_31 g8_31 g9_31 g10_31 hj hs31 hI31
          obtain rfl : j31 = 20 := by omega
          refine R_iload (pc := 31) dX9_findChains_31 rfl ?_
          refine R_iload (pc := 33) dX9_findChains_33 rfl ?_
          refine R_icge (pc := 35) 210 dX9_findChains_35 (by decide) (fun _ => ?_) (fun h => absurd (Int32.not_lt.mp (inR_up hr2 (Int32.le_refl _) (by decide)).2) h)
          exact R_vret (pc := 210) dX9_findChains_210 rfl (Nat.zero_le _) (Nat.zero_le _) ⟨rfl, _, rfl, hI31⟩
        | succ q ih31 =>
          intro j31 σ31 g6_31 g7_31 g8_31 g9_31 g10_31 hj hs31 hI31
          have hr31 : inR (nI j31) 0 19 := inR_ix hs31 (show j31 < 20 by omega) (by decide) (by decide) (by decide)
          have hlt31 : j31 < 20 := by omega
          refine R_iload (pc := 31) dX9_findChains_31 rfl ?_
          refine R_iload (pc := 33) dX9_findChains_33 rfl ?_
          refine R_icge (pc := 35) 210 dX9_findChains_35 (by decide) (fun b35_5 => ?_) (fun b35_5 => ?_)
          · skip
            exact R_vret (pc := 210) dX9_findChains_210 rfl (Nat.zero_le _) (Nat.zero_le _) ⟨rfl, _, rfl, hI31⟩
          · skip
            refine R_iconst (pc := 38) (v := 0) dX9_findChains_38 (by decide) ?_
            refine st_11_6_i_i (pc := 39) dX9_findChains_39 ?_
            have HL41 : ∀ (q j41 : Nat) (σ41 : Sg) (g7_41 : Option Value) (g8_41 : Option Value) (g9_41 : Option Value) (g10_41 : Option Value), j41 + q = 20 → 0 ≤ j41 → Inv σ41 → R G l yX9_findChains cX9_findChains 11 none 3 0 0 (QV (fun w2 => ∃ σ2, w2 = WW σ2 ∧ Inv σ2)) 41 [(some (.ref 140)), (some (.ref 153)), (some (.int m)), (some (.int u)), (some (.int y1)), (some (.int (nI j31))), (some (.int (nI j41))), g7_41, g8_41, g9_41, g10_41] [] (WW σ41) 0 0 := by
              intro q
              induction q with
              | zero =>
                intro j41 σ41 g7_41 g8_41 g9_41 g10_41 hj hs41 hI41
                obtain rfl : j41 = 20 := by omega
                refine R_iload (pc := 41) dX9_findChains_41 rfl ?_
                refine R_iload (pc := 43) dX9_findChains_43 rfl ?_
                refine R_icge (pc := 45) 204 dX9_findChains_45 (by decide) (fun _ => ?_) (fun h => absurd (Int32.not_lt.mp (inR_up hr31 (Int32.le_refl _) (by decide)).2) h)
                refine inc_11_5_1_i (pc := 204) dX9_findChains_204 ?_
                have r7 : inR ((nI j31) + 1) 1 20 := inR_add (show inR (nI j31) 0 19 from hr31) (show inR 1 1 1 from (inR_self _)) (by decide) (by decide)
                have e8 := ti_add (l := 1) (h := 20) (show inR (nI j31) 0 19 from hr31) (show inR 1 1 1 from (inR_self _)) (by decide) (by decide)
                refine R_goto (pc := 207) 31 dX9_findChains_207 (by decide) ?_
                rw [nI_1]
                exact ih31 (j31 + 1) _ _ _ _ _ _ (by omega) (by omega) hI41
              | succ q ih41 =>
                intro j41 σ41 g7_41 g8_41 g9_41 g10_41 hj hs41 hI41
                have hr41 : inR (nI j41) 0 19 := inR_ix hs41 (show j41 < 20 by omega) (by decide) (by decide) (by decide)
                have hlt41 : j41 < 20 := by omega
                refine R_iload (pc := 41) dX9_findChains_41 rfl ?_
                refine R_iload (pc := 43) dX9_findChains_43 rfl ?_
                refine R_icge (pc := 45) 204 dX9_findChains_45 (by decide) (fun b45_9 => ?_) (fun b45_9 => ?_)
                · skip
                  refine inc_11_5_1_i (pc := 204) dX9_findChains_204 ?_
                  have r10 : inR ((nI j31) + 1) 1 20 := inR_add (show inR (nI j31) 0 19 from hr31) (show inR 1 1 1 from (inR_self _)) (by decide) (by decide)
                  have e11 := ti_add (l := 1) (h := 20) (show inR (nI j31) 0 19 from hr31) (show inR 1 1 1 from (inR_self _)) (by decide) (by decide)
                  refine R_goto (pc := 207) 31 dX9_findChains_207 (by decide) ?_
                  rw [nI_1]
                  exact ih31 (j31 + 1) _ _ _ _ _ _ (by omega) (by omega) hI41
                · skip
                  refine R_iload (pc := 48) dX9_findChains_48 rfl ?_
                  refine R_iload_n (pc := 50) dX9_findChains_50 rfl rfl ?_
                  refine R_iceq (pc := 51) 104 dX9_findChains_51 (by decide) (fun b51_12 => ?_) (fun b51_12 => ?_)
                  · skip
                    refine R_iconst (pc := 104) (v := 0) dX9_findChains_104 (by decide) ?_
                    refine st_11_7_i_i (pc := 105) dX9_findChains_105 ?_
                    refine R_aload_n (pc := 107) dX9_findChains_107 rfl rfl ?_
                    refine R_iload (pc := 108) dX9_findChains_108 rfl ?_
                    have hx13 : vp_in (nI j31) 20 := (vp_in_nI (by omega) (by decide))
                    refine R_iaload (pc := 110) dX9_findChains_110 (c_153 _) hx13 ?_
                    refine R_aload_n (pc := 111) dX9_findChains_111 rfl rfl ?_
                    refine R_iload (pc := 112) dX9_findChains_112 rfl ?_
                    have hx14 : vp_in (nI j41) 20 := (vp_in_nI (by omega) (by decide))
                    refine R_iaload (pc := 114) dX9_findChains_114 (c_153 _) hx14 ?_
                    refine R_icge (pc := 115) 125 dX9_findChains_115 (by decide) (fun b115_15 => ?_) (fun b115_15 => ?_)
                    · skip
                      refine R_aload_n (pc := 125) dX9_findChains_125 rfl rfl ?_
                      refine R_iload (pc := 126) dX9_findChains_126 rfl ?_
                      have hx16 : vp_in (nI j41) 20 := (vp_in_nI (by omega) (by decide))
                      refine R_iaload (pc := 128) dX9_findChains_128 (c_153 _) hx16 ?_
                      refine st_11_8_i_i (pc := 129) dX9_findChains_129 ?_
                      refine R_aload_n (pc := 131) dX9_findChains_131 rfl rfl ?_
                      refine R_iload (pc := 132) dX9_findChains_132 rfl ?_
                      have hx17 : vp_in (nI j31) 20 := (vp_in_nI (by omega) (by decide))
                      refine R_iaload (pc := 134) dX9_findChains_134 (c_153 _) hx17 ?_
                      refine R_aload_n (pc := 135) dX9_findChains_135 rfl rfl ?_
                      refine R_iload (pc := 136) dX9_findChains_136 rfl ?_
                      have hx18 : vp_in (nI j41) 20 := (vp_in_nI (by omega) (by decide))
                      refine R_iaload (pc := 138) dX9_findChains_138 (c_153 _) hx18 ?_
                      refine R_icge (pc := 139) 149 dX9_findChains_139 (by decide) (fun b139_19 => ?_) (fun b139_19 => ?_)
                      · skip
                        refine R_aload_n (pc := 149) dX9_findChains_149 rfl rfl ?_
                        refine R_iload (pc := 150) dX9_findChains_150 rfl ?_
                        have hx20 : vp_in (nI j31) 20 := (vp_in_nI (by omega) (by decide))
                        refine R_iaload (pc := 152) dX9_findChains_152 (c_153 _) hx20 ?_
                        refine st_11_9_i_i (pc := 153) dX9_findChains_153 ?_
                        refine R_iconst (pc := 155) (v := 0) dX9_findChains_155 (by decide) ?_
                        refine st_11_10_i_i (pc := 156) dX9_findChains_156 ?_
                        have HL158 : ∀ (q j158 : Nat) (σ158 : Sg), j158 + q = 20 → 0 ≤ j158 → Inv σ158 → R G l yX9_findChains cX9_findChains 11 none 3 0 0 (QV (fun w2 => ∃ σ2, w2 = WW σ2 ∧ Inv σ2)) 158 [(some (.ref 140)), (some (.ref 153)), (some (.int m)), (some (.int u)), (some (.int y1)), (some (.int (nI j31))), (some (.int (nI j41))), (some (.int 0)), (some (.int (σ41.2.2.1 153 (Int32.toNatClampNeg (nI j41))))), (some (.int (σ41.2.2.1 153 (Int32.toNatClampNeg (nI j31))))), (some (.int (nI j158)))] [] (WW σ158) 0 0 := by
                          intro q
                          induction q with
                          | zero =>
                            intro j158 σ158 hj hs158 hI158
                            obtain rfl : j158 = 20 := by omega
                            refine R_iload (pc := 158) dX9_findChains_158 rfl ?_
                            refine R_iload (pc := 160) dX9_findChains_160 rfl ?_
                            refine R_icge (pc := 162) 198 dX9_findChains_162 (by decide) (fun _ => ?_) (fun h => absurd (Int32.not_lt.mp (inR_up hr2 (Int32.le_refl _) (by decide)).2) h)
                            refine inc_11_6_1_i (pc := 198) dX9_findChains_198 ?_
                            have r22 : inR ((nI j41) + 1) 1 20 := inR_add (show inR (nI j41) 0 19 from hr41) (show inR 1 1 1 from (inR_self _)) (by decide) (by decide)
                            have e23 := ti_add (l := 1) (h := 20) (show inR (nI j41) 0 19 from hr41) (show inR 1 1 1 from (inR_self _)) (by decide) (by decide)
                            refine R_goto (pc := 201) 41 dX9_findChains_201 (by decide) ?_
                            rw [nI_1]
                            exact ih41 (j41 + 1) _ _ _ _ _ (by omega) (by omega) hI158
                          | succ q ih158 =>
                            intro j158 σ158 hj hs158 hI158
                            have hr158 : inR (nI j158) 0 19 := inR_ix hs158 (show j158 < 20 by omega) (by decide) (by decide) (by decide)
                            have hlt158 : j158 < 20 := by omega
                            refine R_iload (pc := 158) dX9_findChains_158 rfl ?_
                            refine R_iload (pc := 160) dX9_findChains_160 rfl ?_
                            refine R_icge (pc := 162) 198 dX9_findChains_162 (by decide) (fun b162_24 => ?_) (fun b162_24 => ?_)
                            · skip
                              refine inc_11_6_1_i (pc := 198) dX9_findChains_198 ?_
                              have r25 : inR ((nI j41) + 1) 1 20 := inR_add (show inR (nI j41) 0 19 from hr41) (show inR 1 1 1 from (inR_self _)) (by decide) (by decide)
                              have e26 := ti_add (l := 1) (h := 20) (show inR (nI j41) 0 19 from hr41) (show inR 1 1 1 from (inR_self _)) (by decide) (by decide)
                              refine R_goto (pc := 201) 41 dX9_findChains_201 (by decide) ?_
                              rw [nI_1]
                              exact ih41 (j41 + 1) _ _ _ _ _ (by omega) (by omega) hI158
                            · skip
                              refine R_iload (pc := 165) dX9_findChains_165 rfl ?_
                              refine R_ifeq (pc := 167) 198 dX9_findChains_167 (by decide) (fun _ => ?_) (fun h => absurd (by decide) h)
                              refine inc_11_6_1_i (pc := 198) dX9_findChains_198 ?_
                              have r28 : inR ((nI j41) + 1) 1 20 := inR_add (show inR (nI j41) 0 19 from hr41) (show inR 1 1 1 from (inR_self _)) (by decide) (by decide)
                              have e29 := ti_add (l := 1) (h := 20) (show inR (nI j41) 0 19 from hr41) (show inR 1 1 1 from (inR_self _)) (by decide) (by decide)
                              refine R_goto (pc := 201) 41 dX9_findChains_201 (by decide) ?_
                              rw [nI_1]
                              exact ih41 (j41 + 1) _ _ _ _ _ (by omega) (by omega) hI158
                        exact HL158 20 0 _ (by omega) (by omega) hI41
                      · skip
                        refine R_aload_n (pc := 142) dX9_findChains_142 rfl rfl ?_
                        refine R_iload (pc := 143) dX9_findChains_143 rfl ?_
                        have hx30 : vp_in (nI j41) 20 := (vp_in_nI (by omega) (by decide))
                        refine R_iaload (pc := 145) dX9_findChains_145 (c_153 _) hx30 ?_
                        refine R_goto (pc := 146) 153 dX9_findChains_146 (by decide) ?_
                        refine st_11_9_i_i (pc := 153) dX9_findChains_153 ?_
                        refine R_iconst (pc := 155) (v := 0) dX9_findChains_155 (by decide) ?_
                        refine st_11_10_i_i (pc := 156) dX9_findChains_156 ?_
                        have HL158 : ∀ (q j158 : Nat) (σ158 : Sg), j158 + q = 20 → 0 ≤ j158 → Inv σ158 → R G l yX9_findChains cX9_findChains 11 none 3 0 0 (QV (fun w2 => ∃ σ2, w2 = WW σ2 ∧ Inv σ2)) 158 [(some (.ref 140)), (some (.ref 153)), (some (.int m)), (some (.int u)), (some (.int y1)), (some (.int (nI j31))), (some (.int (nI j41))), (some (.int 0)), (some (.int (σ41.2.2.1 153 (Int32.toNatClampNeg (nI j41))))), (some (.int (σ41.2.2.1 153 (Int32.toNatClampNeg (nI j41))))), (some (.int (nI j158)))] [] (WW σ158) 0 0 := by
                          intro q
                          induction q with
                          | zero =>
                            intro j158 σ158 hj hs158 hI158
                            obtain rfl : j158 = 20 := by omega
                            refine R_iload (pc := 158) dX9_findChains_158 rfl ?_
                            refine R_iload (pc := 160) dX9_findChains_160 rfl ?_
                            refine R_icge (pc := 162) 198 dX9_findChains_162 (by decide) (fun _ => ?_) (fun h => absurd (Int32.not_lt.mp (inR_up hr2 (Int32.le_refl _) (by decide)).2) h)
                            refine inc_11_6_1_i (pc := 198) dX9_findChains_198 ?_
                            have r32 : inR ((nI j41) + 1) 1 20 := inR_add (show inR (nI j41) 0 19 from hr41) (show inR 1 1 1 from (inR_self _)) (by decide) (by decide)
                            have e33 := ti_add (l := 1) (h := 20) (show inR (nI j41) 0 19 from hr41) (show inR 1 1 1 from (inR_self _)) (by decide) (by decide)
                            refine R_goto (pc := 201) 41 dX9_findChains_201 (by decide) ?_
                            rw [nI_1]
                            exact ih41 (j41 + 1) _ _ _ _ _ (by omega) (by omega) hI158
                          | succ q ih158 =>
                            intro j158 σ158 hj hs158 hI158
                            have hr158 : inR (nI j158) 0 19 := inR_ix hs158 (show j158 < 20 by omega) (by decide) (by decide) (by decide)
                            have hlt158 : j158 < 20 := by omega
                            refine R_iload (pc := 158) dX9_findChains_158 rfl ?_
                            refine R_iload (pc := 160) dX9_findChains_160 rfl ?_
                            refine R_icge (pc := 162) 198 dX9_findChains_162 (by decide) (fun b162_34 => ?_) (fun b162_34 => ?_)
                            · skip
                              refine inc_11_6_1_i (pc := 198) dX9_findChains_198 ?_
                              have r35 : inR ((nI j41) + 1) 1 20 := inR_add (show inR (nI j41) 0 19 from hr41) (show inR 1 1 1 from (inR_self _)) (by decide) (by decide)
                              have e36 := ti_add (l := 1) (h := 20) (show inR (nI j41) 0 19 from hr41) (show inR 1 1 1 from (inR_self _)) (by decide) (by decide)
                              refine R_goto (pc := 201) 41 dX9_findChains_201 (by decide) ?_
                              rw [nI_1]
                              exact ih41 (j41 + 1) _ _ _ _ _ (by omega) (by omega) hI158
                            · skip
                              refine R_iload (pc := 165) dX9_findChains_165 rfl ?_
                              refine R_ifeq (pc := 167) 198 dX9_findChains_167 (by decide) (fun _ => ?_) (fun h => absurd (by decide) h)
                              refine inc_11_6_1_i (pc := 198) dX9_findChains_198 ?_
                              have r38 : inR ((nI j41) + 1) 1 20 := inR_add (show inR (nI j41) 0 19 from hr41) (show inR 1 1 1 from (inR_self _)) (by decide) (by decide)
                              have e39 := ti_add (l := 1) (h := 20) (show inR (nI j41) 0 19 from hr41) (show inR 1 1 1 from (inR_self _)) (by decide) (by decide)
                              refine R_goto (pc := 201) 41 dX9_findChains_201 (by decide) ?_
                              rw [nI_1]
                              exact ih41 (j41 + 1) _ _ _ _ _ (by omega) (by omega) hI158
                        exact HL158 20 0 _ (by omega) (by omega) hI41
                    · skip
                      refine R_aload_n (pc := 118) dX9_findChains_118 rfl rfl ?_
                      refine R_iload (pc := 119) dX9_findChains_119 rfl ?_
                      have hx40 : vp_in (nI j31) 20 := (vp_in_nI (by omega) (by decide))
                      refine R_iaload (pc := 121) dX9_findChains_121 (c_153 _) hx40 ?_
                      refine R_goto (pc := 122) 129 dX9_findChains_122 (by decide) ?_
                      refine st_11_8_i_i (pc := 129) dX9_findChains_129 ?_
                      refine R_aload_n (pc := 131) dX9_findChains_131 rfl rfl ?_
                      refine R_iload (pc := 132) dX9_findChains_132 rfl ?_
                      have hx41 : vp_in (nI j31) 20 := (vp_in_nI (by omega) (by decide))
                      refine R_iaload (pc := 134) dX9_findChains_134 (c_153 _) hx41 ?_
                      refine R_aload_n (pc := 135) dX9_findChains_135 rfl rfl ?_
                      refine R_iload (pc := 136) dX9_findChains_136 rfl ?_
                      have hx42 : vp_in (nI j41) 20 := (vp_in_nI (by omega) (by decide))
                      refine R_iaload (pc := 138) dX9_findChains_138 (c_153 _) hx42 ?_
                      refine R_icge (pc := 139) 149 dX9_findChains_139 (by decide) (fun b139_43 => ?_) (fun b139_43 => ?_)
                      · skip
                        refine R_aload_n (pc := 149) dX9_findChains_149 rfl rfl ?_
                        refine R_iload (pc := 150) dX9_findChains_150 rfl ?_
                        have hx44 : vp_in (nI j31) 20 := (vp_in_nI (by omega) (by decide))
                        refine R_iaload (pc := 152) dX9_findChains_152 (c_153 _) hx44 ?_
                        refine st_11_9_i_i (pc := 153) dX9_findChains_153 ?_
                        refine R_iconst (pc := 155) (v := 0) dX9_findChains_155 (by decide) ?_
                        refine st_11_10_i_i (pc := 156) dX9_findChains_156 ?_
                        have HL158 : ∀ (q j158 : Nat) (σ158 : Sg), j158 + q = 20 → 0 ≤ j158 → Inv σ158 → R G l yX9_findChains cX9_findChains 11 none 3 0 0 (QV (fun w2 => ∃ σ2, w2 = WW σ2 ∧ Inv σ2)) 158 [(some (.ref 140)), (some (.ref 153)), (some (.int m)), (some (.int u)), (some (.int y1)), (some (.int (nI j31))), (some (.int (nI j41))), (some (.int 0)), (some (.int (σ41.2.2.1 153 (Int32.toNatClampNeg (nI j31))))), (some (.int (σ41.2.2.1 153 (Int32.toNatClampNeg (nI j31))))), (some (.int (nI j158)))] [] (WW σ158) 0 0 := by
                          intro q
                          induction q with
                          | zero =>
                            intro j158 σ158 hj hs158 hI158
                            obtain rfl : j158 = 20 := by omega
                            refine R_iload (pc := 158) dX9_findChains_158 rfl ?_
                            refine R_iload (pc := 160) dX9_findChains_160 rfl ?_
                            refine R_icge (pc := 162) 198 dX9_findChains_162 (by decide) (fun _ => ?_) (fun h => absurd (Int32.not_lt.mp (inR_up hr2 (Int32.le_refl _) (by decide)).2) h)
                            refine inc_11_6_1_i (pc := 198) dX9_findChains_198 ?_
                            have r46 : inR ((nI j41) + 1) 1 20 := inR_add (show inR (nI j41) 0 19 from hr41) (show inR 1 1 1 from (inR_self _)) (by decide) (by decide)
                            have e47 := ti_add (l := 1) (h := 20) (show inR (nI j41) 0 19 from hr41) (show inR 1 1 1 from (inR_self _)) (by decide) (by decide)
                            refine R_goto (pc := 201) 41 dX9_findChains_201 (by decide) ?_
                            rw [nI_1]
                            exact ih41 (j41 + 1) _ _ _ _ _ (by omega) (by omega) hI158
                          | succ q ih158 =>
                            intro j158 σ158 hj hs158 hI158
                            have hr158 : inR (nI j158) 0 19 := inR_ix hs158 (show j158 < 20 by omega) (by decide) (by decide) (by decide)
                            have hlt158 : j158 < 20 := by omega
                            refine R_iload (pc := 158) dX9_findChains_158 rfl ?_
                            refine R_iload (pc := 160) dX9_findChains_160 rfl ?_
                            refine R_icge (pc := 162) 198 dX9_findChains_162 (by decide) (fun b162_48 => ?_) (fun b162_48 => ?_)
                            · skip
                              refine inc_11_6_1_i (pc := 198) dX9_findChains_198 ?_
                              have r49 : inR ((nI j41) + 1) 1 20 := inR_add (show inR (nI j41) 0 19 from hr41) (show inR 1 1 1 from (inR_self _)) (by decide) (by decide)
                              have e50 := ti_add (l := 1) (h := 20) (show inR (nI j41) 0 19 from hr41) (show inR 1 1 1 from (inR_self _)) (by decide) (by decide)
                              refine R_goto (pc := 201) 41 dX9_findChains_201 (by decide) ?_
                              rw [nI_1]
                              exact ih41 (j41 + 1) _ _ _ _ _ (by omega) (by omega) hI158
                            · skip
                              refine R_iload (pc := 165) dX9_findChains_165 rfl ?_
                              refine R_ifeq (pc := 167) 198 dX9_findChains_167 (by decide) (fun _ => ?_) (fun h => absurd (by decide) h)
                              refine inc_11_6_1_i (pc := 198) dX9_findChains_198 ?_
                              have r52 : inR ((nI j41) + 1) 1 20 := inR_add (show inR (nI j41) 0 19 from hr41) (show inR 1 1 1 from (inR_self _)) (by decide) (by decide)
                              have e53 := ti_add (l := 1) (h := 20) (show inR (nI j41) 0 19 from hr41) (show inR 1 1 1 from (inR_self _)) (by decide) (by decide)
                              refine R_goto (pc := 201) 41 dX9_findChains_201 (by decide) ?_
                              rw [nI_1]
                              exact ih41 (j41 + 1) _ _ _ _ _ (by omega) (by omega) hI158
                        exact HL158 20 0 _ (by omega) (by omega) hI41
                      · skip
                        refine R_aload_n (pc := 142) dX9_findChains_142 rfl rfl ?_
                        refine R_iload (pc := 143) dX9_findChains_143 rfl ?_
                        have hx54 : vp_in (nI j41) 20 := (vp_in_nI (by omega) (by decide))
                        refine R_iaload (pc := 145) dX9_findChains_145 (c_153 _) hx54 ?_
                        refine R_goto (pc := 146) 153 dX9_findChains_146 (by decide) ?_
                        refine st_11_9_i_i (pc := 153) dX9_findChains_153 ?_
                        refine R_iconst (pc := 155) (v := 0) dX9_findChains_155 (by decide) ?_
                        refine st_11_10_i_i (pc := 156) dX9_findChains_156 ?_
                        have HL158 : ∀ (q j158 : Nat) (σ158 : Sg), j158 + q = 20 → 0 ≤ j158 → Inv σ158 → R G l yX9_findChains cX9_findChains 11 none 3 0 0 (QV (fun w2 => ∃ σ2, w2 = WW σ2 ∧ Inv σ2)) 158 [(some (.ref 140)), (some (.ref 153)), (some (.int m)), (some (.int u)), (some (.int y1)), (some (.int (nI j31))), (some (.int (nI j41))), (some (.int 0)), (some (.int (σ41.2.2.1 153 (Int32.toNatClampNeg (nI j31))))), (some (.int (σ41.2.2.1 153 (Int32.toNatClampNeg (nI j41))))), (some (.int (nI j158)))] [] (WW σ158) 0 0 := by
                          intro q
                          induction q with
                          | zero =>
                            intro j158 σ158 hj hs158 hI158
                            obtain rfl : j158 = 20 := by omega
                            refine R_iload (pc := 158) dX9_findChains_158 rfl ?_
                            refine R_iload (pc := 160) dX9_findChains_160 rfl ?_
                            refine R_icge (pc := 162) 198 dX9_findChains_162 (by decide) (fun _ => ?_) (fun h => absurd (Int32.not_lt.mp (inR_up hr2 (Int32.le_refl _) (by decide)).2) h)
                            refine inc_11_6_1_i (pc := 198) dX9_findChains_198 ?_
                            have r56 : inR ((nI j41) + 1) 1 20 := inR_add (show inR (nI j41) 0 19 from hr41) (show inR 1 1 1 from (inR_self _)) (by decide) (by decide)
                            have e57 := ti_add (l := 1) (h := 20) (show inR (nI j41) 0 19 from hr41) (show inR 1 1 1 from (inR_self _)) (by decide) (by decide)
                            refine R_goto (pc := 201) 41 dX9_findChains_201 (by decide) ?_
                            rw [nI_1]
                            exact ih41 (j41 + 1) _ _ _ _ _ (by omega) (by omega) hI158
                          | succ q ih158 =>
                            intro j158 σ158 hj hs158 hI158
                            have hr158 : inR (nI j158) 0 19 := inR_ix hs158 (show j158 < 20 by omega) (by decide) (by decide) (by decide)
                            have hlt158 : j158 < 20 := by omega
                            refine R_iload (pc := 158) dX9_findChains_158 rfl ?_
                            refine R_iload (pc := 160) dX9_findChains_160 rfl ?_
                            refine R_icge (pc := 162) 198 dX9_findChains_162 (by decide) (fun b162_58 => ?_) (fun b162_58 => ?_)
                            · skip
                              refine inc_11_6_1_i (pc := 198) dX9_findChains_198 ?_
                              have r59 : inR ((nI j41) + 1) 1 20 := inR_add (show inR (nI j41) 0 19 from hr41) (show inR 1 1 1 from (inR_self _)) (by decide) (by decide)
                              have e60 := ti_add (l := 1) (h := 20) (show inR (nI j41) 0 19 from hr41) (show inR 1 1 1 from (inR_self _)) (by decide) (by decide)
                              refine R_goto (pc := 201) 41 dX9_findChains_201 (by decide) ?_
                              rw [nI_1]
                              exact ih41 (j41 + 1) _ _ _ _ _ (by omega) (by omega) hI158
                            · skip
                              refine R_iload (pc := 165) dX9_findChains_165 rfl ?_
                              refine R_ifeq (pc := 167) 198 dX9_findChains_167 (by decide) (fun _ => ?_) (fun h => absurd (by decide) h)
                              refine inc_11_6_1_i (pc := 198) dX9_findChains_198 ?_
                              have r62 : inR ((nI j41) + 1) 1 20 := inR_add (show inR (nI j41) 0 19 from hr41) (show inR 1 1 1 from (inR_self _)) (by decide) (by decide)
                              have e63 := ti_add (l := 1) (h := 20) (show inR (nI j41) 0 19 from hr41) (show inR 1 1 1 from (inR_self _)) (by decide) (by decide)
                              refine R_goto (pc := 201) 41 dX9_findChains_201 (by decide) ?_
                              rw [nI_1]
                              exact ih41 (j41 + 1) _ _ _ _ _ (by omega) (by omega) hI158
                        exact HL158 20 0 _ (by omega) (by omega) hI41
                  · skip
                    refine R_iload (pc := 54) dX9_findChains_54 rfl ?_
                    refine R_iload_n (pc := 56) dX9_findChains_56 rfl rfl ?_
                    refine R_iceq (pc := 57) 104 dX9_findChains_57 (by decide) (fun b57_64 => ?_) (fun b57_64 => ?_)
                    · skip
                      refine R_iconst (pc := 104) (v := 0) dX9_findChains_104 (by decide) ?_
                      refine st_11_7_i_i (pc := 105) dX9_findChains_105 ?_
                      refine R_aload_n (pc := 107) dX9_findChains_107 rfl rfl ?_
                      refine R_iload (pc := 108) dX9_findChains_108 rfl ?_
                      have hx65 : vp_in (nI j31) 20 := (vp_in_nI (by omega) (by decide))
                      refine R_iaload (pc := 110) dX9_findChains_110 (c_153 _) hx65 ?_
                      refine R_aload_n (pc := 111) dX9_findChains_111 rfl rfl ?_
                      refine R_iload (pc := 112) dX9_findChains_112 rfl ?_
                      have hx66 : vp_in (nI j41) 20 := (vp_in_nI (by omega) (by decide))
                      refine R_iaload (pc := 114) dX9_findChains_114 (c_153 _) hx66 ?_
                      refine R_icge (pc := 115) 125 dX9_findChains_115 (by decide) (fun b115_67 => ?_) (fun b115_67 => ?_)
                      · skip
                        refine R_aload_n (pc := 125) dX9_findChains_125 rfl rfl ?_
                        refine R_iload (pc := 126) dX9_findChains_126 rfl ?_
                        have hx68 : vp_in (nI j41) 20 := (vp_in_nI (by omega) (by decide))
                        refine R_iaload (pc := 128) dX9_findChains_128 (c_153 _) hx68 ?_
                        refine st_11_8_i_i (pc := 129) dX9_findChains_129 ?_
                        refine R_aload_n (pc := 131) dX9_findChains_131 rfl rfl ?_
                        refine R_iload (pc := 132) dX9_findChains_132 rfl ?_
                        have hx69 : vp_in (nI j31) 20 := (vp_in_nI (by omega) (by decide))
                        refine R_iaload (pc := 134) dX9_findChains_134 (c_153 _) hx69 ?_
                        refine R_aload_n (pc := 135) dX9_findChains_135 rfl rfl ?_
                        refine R_iload (pc := 136) dX9_findChains_136 rfl ?_
                        have hx70 : vp_in (nI j41) 20 := (vp_in_nI (by omega) (by decide))
                        refine R_iaload (pc := 138) dX9_findChains_138 (c_153 _) hx70 ?_
                        refine R_icge (pc := 139) 149 dX9_findChains_139 (by decide) (fun b139_71 => ?_) (fun b139_71 => ?_)
                        · skip
                          refine R_aload_n (pc := 149) dX9_findChains_149 rfl rfl ?_
                          refine R_iload (pc := 150) dX9_findChains_150 rfl ?_
                          have hx72 : vp_in (nI j31) 20 := (vp_in_nI (by omega) (by decide))
                          refine R_iaload (pc := 152) dX9_findChains_152 (c_153 _) hx72 ?_
                          refine st_11_9_i_i (pc := 153) dX9_findChains_153 ?_
                          refine R_iconst (pc := 155) (v := 0) dX9_findChains_155 (by decide) ?_
                          refine st_11_10_i_i (pc := 156) dX9_findChains_156 ?_
                          have HL158 : ∀ (q j158 : Nat) (σ158 : Sg), j158 + q = 20 → 0 ≤ j158 → Inv σ158 → R G l yX9_findChains cX9_findChains 11 none 3 0 0 (QV (fun w2 => ∃ σ2, w2 = WW σ2 ∧ Inv σ2)) 158 [(some (.ref 140)), (some (.ref 153)), (some (.int m)), (some (.int u)), (some (.int y1)), (some (.int (nI j31))), (some (.int (nI j41))), (some (.int 0)), (some (.int (σ41.2.2.1 153 (Int32.toNatClampNeg (nI j41))))), (some (.int (σ41.2.2.1 153 (Int32.toNatClampNeg (nI j31))))), (some (.int (nI j158)))] [] (WW σ158) 0 0 := by
                            intro q
                            induction q with
                            | zero =>
                              intro j158 σ158 hj hs158 hI158
                              obtain rfl : j158 = 20 := by omega
                              refine R_iload (pc := 158) dX9_findChains_158 rfl ?_
                              refine R_iload (pc := 160) dX9_findChains_160 rfl ?_
                              refine R_icge (pc := 162) 198 dX9_findChains_162 (by decide) (fun _ => ?_) (fun h => absurd (Int32.not_lt.mp (inR_up hr2 (Int32.le_refl _) (by decide)).2) h)
                              refine inc_11_6_1_i (pc := 198) dX9_findChains_198 ?_
                              have r74 : inR ((nI j41) + 1) 1 20 := inR_add (show inR (nI j41) 0 19 from hr41) (show inR 1 1 1 from (inR_self _)) (by decide) (by decide)
                              have e75 := ti_add (l := 1) (h := 20) (show inR (nI j41) 0 19 from hr41) (show inR 1 1 1 from (inR_self _)) (by decide) (by decide)
                              refine R_goto (pc := 201) 41 dX9_findChains_201 (by decide) ?_
                              rw [nI_1]
                              exact ih41 (j41 + 1) _ _ _ _ _ (by omega) (by omega) hI158
                            | succ q ih158 =>
                              intro j158 σ158 hj hs158 hI158
                              have hr158 : inR (nI j158) 0 19 := inR_ix hs158 (show j158 < 20 by omega) (by decide) (by decide) (by decide)
                              have hlt158 : j158 < 20 := by omega
                              refine R_iload (pc := 158) dX9_findChains_158 rfl ?_
                              refine R_iload (pc := 160) dX9_findChains_160 rfl ?_
                              refine R_icge (pc := 162) 198 dX9_findChains_162 (by decide) (fun b162_76 => ?_) (fun b162_76 => ?_)
                              · skip
                                refine inc_11_6_1_i (pc := 198) dX9_findChains_198 ?_
                                have r77 : inR ((nI j41) + 1) 1 20 := inR_add (show inR (nI j41) 0 19 from hr41) (show inR 1 1 1 from (inR_self _)) (by decide) (by decide)
                                have e78 := ti_add (l := 1) (h := 20) (show inR (nI j41) 0 19 from hr41) (show inR 1 1 1 from (inR_self _)) (by decide) (by decide)
                                refine R_goto (pc := 201) 41 dX9_findChains_201 (by decide) ?_
                                rw [nI_1]
                                exact ih41 (j41 + 1) _ _ _ _ _ (by omega) (by omega) hI158
                              · skip
                                refine R_iload (pc := 165) dX9_findChains_165 rfl ?_
                                refine R_ifeq (pc := 167) 198 dX9_findChains_167 (by decide) (fun _ => ?_) (fun h => absurd (by decide) h)
                                refine inc_11_6_1_i (pc := 198) dX9_findChains_198 ?_
                                have r80 : inR ((nI j41) + 1) 1 20 := inR_add (show inR (nI j41) 0 19 from hr41) (show inR 1 1 1 from (inR_self _)) (by decide) (by decide)
                                have e81 := ti_add (l := 1) (h := 20) (show inR (nI j41) 0 19 from hr41) (show inR 1 1 1 from (inR_self _)) (by decide) (by decide)
                                refine R_goto (pc := 201) 41 dX9_findChains_201 (by decide) ?_
                                rw [nI_1]
                                exact ih41 (j41 + 1) _ _ _ _ _ (by omega) (by omega) hI158
                          exact HL158 20 0 _ (by omega) (by omega) hI41
                        · skip
                          refine R_aload_n (pc := 142) dX9_findChains_142 rfl rfl ?_
                          refine R_iload (pc := 143) dX9_findChains_143 rfl ?_
                          have hx82 : vp_in (nI j41) 20 := (vp_in_nI (by omega) (by decide))
                          refine R_iaload (pc := 145) dX9_findChains_145 (c_153 _) hx82 ?_
                          refine R_goto (pc := 146) 153 dX9_findChains_146 (by decide) ?_
                          refine st_11_9_i_i (pc := 153) dX9_findChains_153 ?_
                          refine R_iconst (pc := 155) (v := 0) dX9_findChains_155 (by decide) ?_
                          refine st_11_10_i_i (pc := 156) dX9_findChains_156 ?_
                          have HL158 : ∀ (q j158 : Nat) (σ158 : Sg), j158 + q = 20 → 0 ≤ j158 → Inv σ158 → R G l yX9_findChains cX9_findChains 11 none 3 0 0 (QV (fun w2 => ∃ σ2, w2 = WW σ2 ∧ Inv σ2)) 158 [(some (.ref 140)), (some (.ref 153)), (some (.int m)), (some (.int u)), (some (.int y1)), (some (.int (nI j31))), (some (.int (nI j41))), (some (.int 0)), (some (.int (σ41.2.2.1 153 (Int32.toNatClampNeg (nI j41))))), (some (.int (σ41.2.2.1 153 (Int32.toNatClampNeg (nI j41))))), (some (.int (nI j158)))] [] (WW σ158) 0 0 := by
                            intro q
                            induction q with
                            | zero =>
                              intro j158 σ158 hj hs158 hI158
                              obtain rfl : j158 = 20 := by omega
                              refine R_iload (pc := 158) dX9_findChains_158 rfl ?_
                              refine R_iload (pc := 160) dX9_findChains_160 rfl ?_
                              refine R_icge (pc := 162) 198 dX9_findChains_162 (by decide) (fun _ => ?_) (fun h => absurd (Int32.not_lt.mp (inR_up hr2 (Int32.le_refl _) (by decide)).2) h)
                              refine inc_11_6_1_i (pc := 198) dX9_findChains_198 ?_
                              have r84 : inR ((nI j41) + 1) 1 20 := inR_add (show inR (nI j41) 0 19 from hr41) (show inR 1 1 1 from (inR_self _)) (by decide) (by decide)
                              have e85 := ti_add (l := 1) (h := 20) (show inR (nI j41) 0 19 from hr41) (show inR 1 1 1 from (inR_self _)) (by decide) (by decide)
                              refine R_goto (pc := 201) 41 dX9_findChains_201 (by decide) ?_
                              rw [nI_1]
                              exact ih41 (j41 + 1) _ _ _ _ _ (by omega) (by omega) hI158
                            | succ q ih158 =>
                              intro j158 σ158 hj hs158 hI158
                              have hr158 : inR (nI j158) 0 19 := inR_ix hs158 (show j158 < 20 by omega) (by decide) (by decide) (by decide)
                              have hlt158 : j158 < 20 := by omega
                              refine R_iload (pc := 158) dX9_findChains_158 rfl ?_
                              refine R_iload (pc := 160) dX9_findChains_160 rfl ?_
                              refine R_icge (pc := 162) 198 dX9_findChains_162 (by decide) (fun b162_86 => ?_) (fun b162_86 => ?_)
                              · skip
                                refine inc_11_6_1_i (pc := 198) dX9_findChains_198 ?_
                                have r87 : inR ((nI j41) + 1) 1 20 := inR_add (show inR (nI j41) 0 19 from hr41) (show inR 1 1 1 from (inR_self _)) (by decide) (by decide)
                                have e88 := ti_add (l := 1) (h := 20) (show inR (nI j41) 0 19 from hr41) (show inR 1 1 1 from (inR_self _)) (by decide) (by decide)
                                refine R_goto (pc := 201) 41 dX9_findChains_201 (by decide) ?_
                                rw [nI_1]
                                exact ih41 (j41 + 1) _ _ _ _ _ (by omega) (by omega) hI158
                              · skip
                                refine R_iload (pc := 165) dX9_findChains_165 rfl ?_
                                refine R_ifeq (pc := 167) 198 dX9_findChains_167 (by decide) (fun _ => ?_) (fun h => absurd (by decide) h)
                                refine inc_11_6_1_i (pc := 198) dX9_findChains_198 ?_
                                have r90 : inR ((nI j41) + 1) 1 20 := inR_add (show inR (nI j41) 0 19 from hr41) (show inR 1 1 1 from (inR_self _)) (by decide) (by decide)
                                have e91 := ti_add (l := 1) (h := 20) (show inR (nI j41) 0 19 from hr41) (show inR 1 1 1 from (inR_self _)) (by decide) (by decide)
                                refine R_goto (pc := 201) 41 dX9_findChains_201 (by decide) ?_
                                rw [nI_1]
                                exact ih41 (j41 + 1) _ _ _ _ _ (by omega) (by omega) hI158
                          exact HL158 20 0 _ (by omega) (by omega) hI41
                      · skip
                        refine R_aload_n (pc := 118) dX9_findChains_118 rfl rfl ?_
                        refine R_iload (pc := 119) dX9_findChains_119 rfl ?_
                        have hx92 : vp_in (nI j31) 20 := (vp_in_nI (by omega) (by decide))
                        refine R_iaload (pc := 121) dX9_findChains_121 (c_153 _) hx92 ?_
                        refine R_goto (pc := 122) 129 dX9_findChains_122 (by decide) ?_
                        refine st_11_8_i_i (pc := 129) dX9_findChains_129 ?_
                        refine R_aload_n (pc := 131) dX9_findChains_131 rfl rfl ?_
                        refine R_iload (pc := 132) dX9_findChains_132 rfl ?_
                        have hx93 : vp_in (nI j31) 20 := (vp_in_nI (by omega) (by decide))
                        refine R_iaload (pc := 134) dX9_findChains_134 (c_153 _) hx93 ?_
                        refine R_aload_n (pc := 135) dX9_findChains_135 rfl rfl ?_
                        refine R_iload (pc := 136) dX9_findChains_136 rfl ?_
                        have hx94 : vp_in (nI j41) 20 := (vp_in_nI (by omega) (by decide))
                        refine R_iaload (pc := 138) dX9_findChains_138 (c_153 _) hx94 ?_
                        refine R_icge (pc := 139) 149 dX9_findChains_139 (by decide) (fun b139_95 => ?_) (fun b139_95 => ?_)
                        · skip
                          refine R_aload_n (pc := 149) dX9_findChains_149 rfl rfl ?_
                          refine R_iload (pc := 150) dX9_findChains_150 rfl ?_
                          have hx96 : vp_in (nI j31) 20 := (vp_in_nI (by omega) (by decide))
                          refine R_iaload (pc := 152) dX9_findChains_152 (c_153 _) hx96 ?_
                          refine st_11_9_i_i (pc := 153) dX9_findChains_153 ?_
                          refine R_iconst (pc := 155) (v := 0) dX9_findChains_155 (by decide) ?_
                          refine st_11_10_i_i (pc := 156) dX9_findChains_156 ?_
                          have HL158 : ∀ (q j158 : Nat) (σ158 : Sg), j158 + q = 20 → 0 ≤ j158 → Inv σ158 → R G l yX9_findChains cX9_findChains 11 none 3 0 0 (QV (fun w2 => ∃ σ2, w2 = WW σ2 ∧ Inv σ2)) 158 [(some (.ref 140)), (some (.ref 153)), (some (.int m)), (some (.int u)), (some (.int y1)), (some (.int (nI j31))), (some (.int (nI j41))), (some (.int 0)), (some (.int (σ41.2.2.1 153 (Int32.toNatClampNeg (nI j31))))), (some (.int (σ41.2.2.1 153 (Int32.toNatClampNeg (nI j31))))), (some (.int (nI j158)))] [] (WW σ158) 0 0 := by
                            intro q
                            induction q with
                            | zero =>
                              intro j158 σ158 hj hs158 hI158
                              obtain rfl : j158 = 20 := by omega
                              refine R_iload (pc := 158) dX9_findChains_158 rfl ?_
                              refine R_iload (pc := 160) dX9_findChains_160 rfl ?_
                              refine R_icge (pc := 162) 198 dX9_findChains_162 (by decide) (fun _ => ?_) (fun h => absurd (Int32.not_lt.mp (inR_up hr2 (Int32.le_refl _) (by decide)).2) h)
                              refine inc_11_6_1_i (pc := 198) dX9_findChains_198 ?_
                              have r98 : inR ((nI j41) + 1) 1 20 := inR_add (show inR (nI j41) 0 19 from hr41) (show inR 1 1 1 from (inR_self _)) (by decide) (by decide)
                              have e99 := ti_add (l := 1) (h := 20) (show inR (nI j41) 0 19 from hr41) (show inR 1 1 1 from (inR_self _)) (by decide) (by decide)
                              refine R_goto (pc := 201) 41 dX9_findChains_201 (by decide) ?_
                              rw [nI_1]
                              exact ih41 (j41 + 1) _ _ _ _ _ (by omega) (by omega) hI158
                            | succ q ih158 =>
                              intro j158 σ158 hj hs158 hI158
                              have hr158 : inR (nI j158) 0 19 := inR_ix hs158 (show j158 < 20 by omega) (by decide) (by decide) (by decide)
                              have hlt158 : j158 < 20 := by omega
                              refine R_iload (pc := 158) dX9_findChains_158 rfl ?_
                              refine R_iload (pc := 160) dX9_findChains_160 rfl ?_
                              refine R_icge (pc := 162) 198 dX9_findChains_162 (by decide) (fun b162_100 => ?_) (fun b162_100 => ?_)
                              · skip
                                refine inc_11_6_1_i (pc := 198) dX9_findChains_198 ?_
                                have r101 : inR ((nI j41) + 1) 1 20 := inR_add (show inR (nI j41) 0 19 from hr41) (show inR 1 1 1 from (inR_self _)) (by decide) (by decide)
                                have e102 := ti_add (l := 1) (h := 20) (show inR (nI j41) 0 19 from hr41) (show inR 1 1 1 from (inR_self _)) (by decide) (by decide)
                                refine R_goto (pc := 201) 41 dX9_findChains_201 (by decide) ?_
                                rw [nI_1]
                                exact ih41 (j41 + 1) _ _ _ _ _ (by omega) (by omega) hI158
                              · skip
                                refine R_iload (pc := 165) dX9_findChains_165 rfl ?_
                                refine R_ifeq (pc := 167) 198 dX9_findChains_167 (by decide) (fun _ => ?_) (fun h => absurd (by decide) h)
                                refine inc_11_6_1_i (pc := 198) dX9_findChains_198 ?_
                                have r104 : inR ((nI j41) + 1) 1 20 := inR_add (show inR (nI j41) 0 19 from hr41) (show inR 1 1 1 from (inR_self _)) (by decide) (by decide)
                                have e105 := ti_add (l := 1) (h := 20) (show inR (nI j41) 0 19 from hr41) (show inR 1 1 1 from (inR_self _)) (by decide) (by decide)
                                refine R_goto (pc := 201) 41 dX9_findChains_201 (by decide) ?_
                                rw [nI_1]
                                exact ih41 (j41 + 1) _ _ _ _ _ (by omega) (by omega) hI158
                          exact HL158 20 0 _ (by omega) (by omega) hI41
                        · skip
                          refine R_aload_n (pc := 142) dX9_findChains_142 rfl rfl ?_
                          refine R_iload (pc := 143) dX9_findChains_143 rfl ?_
                          have hx106 : vp_in (nI j41) 20 := (vp_in_nI (by omega) (by decide))
                          refine R_iaload (pc := 145) dX9_findChains_145 (c_153 _) hx106 ?_
                          refine R_goto (pc := 146) 153 dX9_findChains_146 (by decide) ?_
                          refine st_11_9_i_i (pc := 153) dX9_findChains_153 ?_
                          refine R_iconst (pc := 155) (v := 0) dX9_findChains_155 (by decide) ?_
                          refine st_11_10_i_i (pc := 156) dX9_findChains_156 ?_
                          have HL158 : ∀ (q j158 : Nat) (σ158 : Sg), j158 + q = 20 → 0 ≤ j158 → Inv σ158 → R G l yX9_findChains cX9_findChains 11 none 3 0 0 (QV (fun w2 => ∃ σ2, w2 = WW σ2 ∧ Inv σ2)) 158 [(some (.ref 140)), (some (.ref 153)), (some (.int m)), (some (.int u)), (some (.int y1)), (some (.int (nI j31))), (some (.int (nI j41))), (some (.int 0)), (some (.int (σ41.2.2.1 153 (Int32.toNatClampNeg (nI j31))))), (some (.int (σ41.2.2.1 153 (Int32.toNatClampNeg (nI j41))))), (some (.int (nI j158)))] [] (WW σ158) 0 0 := by
                            intro q
                            induction q with
                            | zero =>
                              intro j158 σ158 hj hs158 hI158
                              obtain rfl : j158 = 20 := by omega
                              refine R_iload (pc := 158) dX9_findChains_158 rfl ?_
                              refine R_iload (pc := 160) dX9_findChains_160 rfl ?_
                              refine R_icge (pc := 162) 198 dX9_findChains_162 (by decide) (fun _ => ?_) (fun h => absurd (Int32.not_lt.mp (inR_up hr2 (Int32.le_refl _) (by decide)).2) h)
                              refine inc_11_6_1_i (pc := 198) dX9_findChains_198 ?_
                              have r108 : inR ((nI j41) + 1) 1 20 := inR_add (show inR (nI j41) 0 19 from hr41) (show inR 1 1 1 from (inR_self _)) (by decide) (by decide)
                              have e109 := ti_add (l := 1) (h := 20) (show inR (nI j41) 0 19 from hr41) (show inR 1 1 1 from (inR_self _)) (by decide) (by decide)
                              refine R_goto (pc := 201) 41 dX9_findChains_201 (by decide) ?_
                              rw [nI_1]
                              exact ih41 (j41 + 1) _ _ _ _ _ (by omega) (by omega) hI158
                            | succ q ih158 =>
                              intro j158 σ158 hj hs158 hI158
                              have hr158 : inR (nI j158) 0 19 := inR_ix hs158 (show j158 < 20 by omega) (by decide) (by decide) (by decide)
                              have hlt158 : j158 < 20 := by omega
                              refine R_iload (pc := 158) dX9_findChains_158 rfl ?_
                              refine R_iload (pc := 160) dX9_findChains_160 rfl ?_
                              refine R_icge (pc := 162) 198 dX9_findChains_162 (by decide) (fun b162_110 => ?_) (fun b162_110 => ?_)
                              · skip
                                refine inc_11_6_1_i (pc := 198) dX9_findChains_198 ?_
                                have r111 : inR ((nI j41) + 1) 1 20 := inR_add (show inR (nI j41) 0 19 from hr41) (show inR 1 1 1 from (inR_self _)) (by decide) (by decide)
                                have e112 := ti_add (l := 1) (h := 20) (show inR (nI j41) 0 19 from hr41) (show inR 1 1 1 from (inR_self _)) (by decide) (by decide)
                                refine R_goto (pc := 201) 41 dX9_findChains_201 (by decide) ?_
                                rw [nI_1]
                                exact ih41 (j41 + 1) _ _ _ _ _ (by omega) (by omega) hI158
                              · skip
                                refine R_iload (pc := 165) dX9_findChains_165 rfl ?_
                                refine R_ifeq (pc := 167) 198 dX9_findChains_167 (by decide) (fun _ => ?_) (fun h => absurd (by decide) h)
                                refine inc_11_6_1_i (pc := 198) dX9_findChains_198 ?_
                                have r114 : inR ((nI j41) + 1) 1 20 := inR_add (show inR (nI j41) 0 19 from hr41) (show inR 1 1 1 from (inR_self _)) (by decide) (by decide)
                                have e115 := ti_add (l := 1) (h := 20) (show inR (nI j41) 0 19 from hr41) (show inR 1 1 1 from (inR_self _)) (by decide) (by decide)
                                refine R_goto (pc := 201) 41 dX9_findChains_201 (by decide) ?_
                                rw [nI_1]
                                exact ih41 (j41 + 1) _ _ _ _ _ (by omega) (by omega) hI158
                          exact HL158 20 0 _ (by omega) (by omega) hI41
                    · skip
                      refine R_aload_n (pc := 60) dX9_findChains_60 rfl rfl ?_
                      refine R_iload (pc := 61) dX9_findChains_61 rfl ?_
                      have hx116 : vp_in (nI j31) 20 := (vp_in_nI (by omega) (by decide))
                      refine R_iaload (pc := 63) dX9_findChains_63 (c_153 _) hx116 ?_
                      refine R_aload_n (pc := 64) dX9_findChains_64 rfl rfl ?_
                      refine R_iload (pc := 65) dX9_findChains_65 rfl ?_
                      have hx117 : vp_in (nI j41) 20 := (vp_in_nI (by omega) (by decide))
                      refine R_iaload (pc := 67) dX9_findChains_67 (c_153 _) hx117 ?_
                      refine R_iceq (pc := 68) 104 dX9_findChains_68 (by decide) (fun b68_118 => ?_) (fun b68_118 => ?_)
                      · skip
                        refine R_iconst (pc := 104) (v := 0) dX9_findChains_104 (by decide) ?_
                        refine st_11_7_i_i (pc := 105) dX9_findChains_105 ?_
                        refine R_aload_n (pc := 107) dX9_findChains_107 rfl rfl ?_
                        refine R_iload (pc := 108) dX9_findChains_108 rfl ?_
                        have hx119 : vp_in (nI j31) 20 := (vp_in_nI (by omega) (by decide))
                        refine R_iaload (pc := 110) dX9_findChains_110 (c_153 _) hx119 ?_
                        refine R_aload_n (pc := 111) dX9_findChains_111 rfl rfl ?_
                        refine R_iload (pc := 112) dX9_findChains_112 rfl ?_
                        have hx120 : vp_in (nI j41) 20 := (vp_in_nI (by omega) (by decide))
                        refine R_iaload (pc := 114) dX9_findChains_114 (c_153 _) hx120 ?_
                        refine R_icge (pc := 115) 125 dX9_findChains_115 (by decide) (fun b115_121 => ?_) (fun b115_121 => ?_)
                        · skip
                          refine R_aload_n (pc := 125) dX9_findChains_125 rfl rfl ?_
                          refine R_iload (pc := 126) dX9_findChains_126 rfl ?_
                          have hx122 : vp_in (nI j41) 20 := (vp_in_nI (by omega) (by decide))
                          refine R_iaload (pc := 128) dX9_findChains_128 (c_153 _) hx122 ?_
                          refine st_11_8_i_i (pc := 129) dX9_findChains_129 ?_
                          refine R_aload_n (pc := 131) dX9_findChains_131 rfl rfl ?_
                          refine R_iload (pc := 132) dX9_findChains_132 rfl ?_
                          have hx123 : vp_in (nI j31) 20 := (vp_in_nI (by omega) (by decide))
                          refine R_iaload (pc := 134) dX9_findChains_134 (c_153 _) hx123 ?_
                          refine R_aload_n (pc := 135) dX9_findChains_135 rfl rfl ?_
                          refine R_iload (pc := 136) dX9_findChains_136 rfl ?_
                          have hx124 : vp_in (nI j41) 20 := (vp_in_nI (by omega) (by decide))
                          refine R_iaload (pc := 138) dX9_findChains_138 (c_153 _) hx124 ?_
                          refine R_icge (pc := 139) 149 dX9_findChains_139 (by decide) (fun b139_125 => ?_) (fun b139_125 => ?_)
                          · skip
                            refine R_aload_n (pc := 149) dX9_findChains_149 rfl rfl ?_
                            refine R_iload (pc := 150) dX9_findChains_150 rfl ?_
                            have hx126 : vp_in (nI j31) 20 := (vp_in_nI (by omega) (by decide))
                            refine R_iaload (pc := 152) dX9_findChains_152 (c_153 _) hx126 ?_
                            refine st_11_9_i_i (pc := 153) dX9_findChains_153 ?_
                            refine R_iconst (pc := 155) (v := 0) dX9_findChains_155 (by decide) ?_
                            refine st_11_10_i_i (pc := 156) dX9_findChains_156 ?_
                            have HL158 : ∀ (q j158 : Nat) (σ158 : Sg), j158 + q = 20 → 0 ≤ j158 → Inv σ158 → R G l yX9_findChains cX9_findChains 11 none 3 0 0 (QV (fun w2 => ∃ σ2, w2 = WW σ2 ∧ Inv σ2)) 158 [(some (.ref 140)), (some (.ref 153)), (some (.int m)), (some (.int u)), (some (.int y1)), (some (.int (nI j31))), (some (.int (nI j41))), (some (.int 0)), (some (.int (σ41.2.2.1 153 (Int32.toNatClampNeg (nI j41))))), (some (.int (σ41.2.2.1 153 (Int32.toNatClampNeg (nI j31))))), (some (.int (nI j158)))] [] (WW σ158) 0 0 := by
                              intro q
                              induction q with
                              | zero =>
                                intro j158 σ158 hj hs158 hI158
                                obtain rfl : j158 = 20 := by omega
                                refine R_iload (pc := 158) dX9_findChains_158 rfl ?_
                                refine R_iload (pc := 160) dX9_findChains_160 rfl ?_
                                refine R_icge (pc := 162) 198 dX9_findChains_162 (by decide) (fun _ => ?_) (fun h => absurd (Int32.not_lt.mp (inR_up hr2 (Int32.le_refl _) (by decide)).2) h)
                                refine inc_11_6_1_i (pc := 198) dX9_findChains_198 ?_
                                have r128 : inR ((nI j41) + 1) 1 20 := inR_add (show inR (nI j41) 0 19 from hr41) (show inR 1 1 1 from (inR_self _)) (by decide) (by decide)
                                have e129 := ti_add (l := 1) (h := 20) (show inR (nI j41) 0 19 from hr41) (show inR 1 1 1 from (inR_self _)) (by decide) (by decide)
                                refine R_goto (pc := 201) 41 dX9_findChains_201 (by decide) ?_
                                rw [nI_1]
                                exact ih41 (j41 + 1) _ _ _ _ _ (by omega) (by omega) hI158
                              | succ q ih158 =>
                                intro j158 σ158 hj hs158 hI158
                                have hr158 : inR (nI j158) 0 19 := inR_ix hs158 (show j158 < 20 by omega) (by decide) (by decide) (by decide)
                                have hlt158 : j158 < 20 := by omega
                                refine R_iload (pc := 158) dX9_findChains_158 rfl ?_
                                refine R_iload (pc := 160) dX9_findChains_160 rfl ?_
                                refine R_icge (pc := 162) 198 dX9_findChains_162 (by decide) (fun b162_130 => ?_) (fun b162_130 => ?_)
                                · skip
                                  refine inc_11_6_1_i (pc := 198) dX9_findChains_198 ?_
                                  have r131 : inR ((nI j41) + 1) 1 20 := inR_add (show inR (nI j41) 0 19 from hr41) (show inR 1 1 1 from (inR_self _)) (by decide) (by decide)
                                  have e132 := ti_add (l := 1) (h := 20) (show inR (nI j41) 0 19 from hr41) (show inR 1 1 1 from (inR_self _)) (by decide) (by decide)
                                  refine R_goto (pc := 201) 41 dX9_findChains_201 (by decide) ?_
                                  rw [nI_1]
                                  exact ih41 (j41 + 1) _ _ _ _ _ (by omega) (by omega) hI158
                                · skip
                                  refine R_iload (pc := 165) dX9_findChains_165 rfl ?_
                                  refine R_ifeq (pc := 167) 198 dX9_findChains_167 (by decide) (fun _ => ?_) (fun h => absurd (by decide) h)
                                  refine inc_11_6_1_i (pc := 198) dX9_findChains_198 ?_
                                  have r134 : inR ((nI j41) + 1) 1 20 := inR_add (show inR (nI j41) 0 19 from hr41) (show inR 1 1 1 from (inR_self _)) (by decide) (by decide)
                                  have e135 := ti_add (l := 1) (h := 20) (show inR (nI j41) 0 19 from hr41) (show inR 1 1 1 from (inR_self _)) (by decide) (by decide)
                                  refine R_goto (pc := 201) 41 dX9_findChains_201 (by decide) ?_
                                  rw [nI_1]
                                  exact ih41 (j41 + 1) _ _ _ _ _ (by omega) (by omega) hI158
                            exact HL158 20 0 _ (by omega) (by omega) hI41
                          · skip
                            refine R_aload_n (pc := 142) dX9_findChains_142 rfl rfl ?_
                            refine R_iload (pc := 143) dX9_findChains_143 rfl ?_
                            have hx136 : vp_in (nI j41) 20 := (vp_in_nI (by omega) (by decide))
                            refine R_iaload (pc := 145) dX9_findChains_145 (c_153 _) hx136 ?_
                            refine R_goto (pc := 146) 153 dX9_findChains_146 (by decide) ?_
                            refine st_11_9_i_i (pc := 153) dX9_findChains_153 ?_
                            refine R_iconst (pc := 155) (v := 0) dX9_findChains_155 (by decide) ?_
                            refine st_11_10_i_i (pc := 156) dX9_findChains_156 ?_
                            have HL158 : ∀ (q j158 : Nat) (σ158 : Sg), j158 + q = 20 → 0 ≤ j158 → Inv σ158 → R G l yX9_findChains cX9_findChains 11 none 3 0 0 (QV (fun w2 => ∃ σ2, w2 = WW σ2 ∧ Inv σ2)) 158 [(some (.ref 140)), (some (.ref 153)), (some (.int m)), (some (.int u)), (some (.int y1)), (some (.int (nI j31))), (some (.int (nI j41))), (some (.int 0)), (some (.int (σ41.2.2.1 153 (Int32.toNatClampNeg (nI j41))))), (some (.int (σ41.2.2.1 153 (Int32.toNatClampNeg (nI j41))))), (some (.int (nI j158)))] [] (WW σ158) 0 0 := by
                              intro q
                              induction q with
                              | zero =>
                                intro j158 σ158 hj hs158 hI158
                                obtain rfl : j158 = 20 := by omega
                                refine R_iload (pc := 158) dX9_findChains_158 rfl ?_
                                refine R_iload (pc := 160) dX9_findChains_160 rfl ?_
                                refine R_icge (pc := 162) 198 dX9_findChains_162 (by decide) (fun _ => ?_) (fun h => absurd (Int32.not_lt.mp (inR_up hr2 (Int32.le_refl _) (by decide)).2) h)
                                refine inc_11_6_1_i (pc := 198) dX9_findChains_198 ?_
                                have r138 : inR ((nI j41) + 1) 1 20 := inR_add (show inR (nI j41) 0 19 from hr41) (show inR 1 1 1 from (inR_self _)) (by decide) (by decide)
                                have e139 := ti_add (l := 1) (h := 20) (show inR (nI j41) 0 19 from hr41) (show inR 1 1 1 from (inR_self _)) (by decide) (by decide)
                                refine R_goto (pc := 201) 41 dX9_findChains_201 (by decide) ?_
                                rw [nI_1]
                                exact ih41 (j41 + 1) _ _ _ _ _ (by omega) (by omega) hI158
                              | succ q ih158 =>
                                intro j158 σ158 hj hs158 hI158
                                have hr158 : inR (nI j158) 0 19 := inR_ix hs158 (show j158 < 20 by omega) (by decide) (by decide) (by decide)
                                have hlt158 : j158 < 20 := by omega
                                refine R_iload (pc := 158) dX9_findChains_158 rfl ?_
                                refine R_iload (pc := 160) dX9_findChains_160 rfl ?_
                                refine R_icge (pc := 162) 198 dX9_findChains_162 (by decide) (fun b162_140 => ?_) (fun b162_140 => ?_)
                                · skip
                                  refine inc_11_6_1_i (pc := 198) dX9_findChains_198 ?_
                                  have r141 : inR ((nI j41) + 1) 1 20 := inR_add (show inR (nI j41) 0 19 from hr41) (show inR 1 1 1 from (inR_self _)) (by decide) (by decide)
                                  have e142 := ti_add (l := 1) (h := 20) (show inR (nI j41) 0 19 from hr41) (show inR 1 1 1 from (inR_self _)) (by decide) (by decide)
                                  refine R_goto (pc := 201) 41 dX9_findChains_201 (by decide) ?_
                                  rw [nI_1]
                                  exact ih41 (j41 + 1) _ _ _ _ _ (by omega) (by omega) hI158
                                · skip
                                  refine R_iload (pc := 165) dX9_findChains_165 rfl ?_
                                  refine R_ifeq (pc := 167) 198 dX9_findChains_167 (by decide) (fun _ => ?_) (fun h => absurd (by decide) h)
                                  refine inc_11_6_1_i (pc := 198) dX9_findChains_198 ?_
                                  have r144 : inR ((nI j41) + 1) 1 20 := inR_add (show inR (nI j41) 0 19 from hr41) (show inR 1 1 1 from (inR_self _)) (by decide) (by decide)
                                  have e145 := ti_add (l := 1) (h := 20) (show inR (nI j41) 0 19 from hr41) (show inR 1 1 1 from (inR_self _)) (by decide) (by decide)
                                  refine R_goto (pc := 201) 41 dX9_findChains_201 (by decide) ?_
                                  rw [nI_1]
                                  exact ih41 (j41 + 1) _ _ _ _ _ (by omega) (by omega) hI158
                            exact HL158 20 0 _ (by omega) (by omega) hI41
                        · skip
                          refine R_aload_n (pc := 118) dX9_findChains_118 rfl rfl ?_
                          refine R_iload (pc := 119) dX9_findChains_119 rfl ?_
                          have hx146 : vp_in (nI j31) 20 := (vp_in_nI (by omega) (by decide))
                          refine R_iaload (pc := 121) dX9_findChains_121 (c_153 _) hx146 ?_
                          refine R_goto (pc := 122) 129 dX9_findChains_122 (by decide) ?_
                          refine st_11_8_i_i (pc := 129) dX9_findChains_129 ?_
                          refine R_aload_n (pc := 131) dX9_findChains_131 rfl rfl ?_
                          refine R_iload (pc := 132) dX9_findChains_132 rfl ?_
                          have hx147 : vp_in (nI j31) 20 := (vp_in_nI (by omega) (by decide))
                          refine R_iaload (pc := 134) dX9_findChains_134 (c_153 _) hx147 ?_
                          refine R_aload_n (pc := 135) dX9_findChains_135 rfl rfl ?_
                          refine R_iload (pc := 136) dX9_findChains_136 rfl ?_
                          have hx148 : vp_in (nI j41) 20 := (vp_in_nI (by omega) (by decide))
                          refine R_iaload (pc := 138) dX9_findChains_138 (c_153 _) hx148 ?_
                          refine R_icge (pc := 139) 149 dX9_findChains_139 (by decide) (fun b139_149 => ?_) (fun b139_149 => ?_)
                          · skip
                            refine R_aload_n (pc := 149) dX9_findChains_149 rfl rfl ?_
                            refine R_iload (pc := 150) dX9_findChains_150 rfl ?_
                            have hx150 : vp_in (nI j31) 20 := (vp_in_nI (by omega) (by decide))
                            refine R_iaload (pc := 152) dX9_findChains_152 (c_153 _) hx150 ?_
                            refine st_11_9_i_i (pc := 153) dX9_findChains_153 ?_
                            refine R_iconst (pc := 155) (v := 0) dX9_findChains_155 (by decide) ?_
                            refine st_11_10_i_i (pc := 156) dX9_findChains_156 ?_
                            have HL158 : ∀ (q j158 : Nat) (σ158 : Sg), j158 + q = 20 → 0 ≤ j158 → Inv σ158 → R G l yX9_findChains cX9_findChains 11 none 3 0 0 (QV (fun w2 => ∃ σ2, w2 = WW σ2 ∧ Inv σ2)) 158 [(some (.ref 140)), (some (.ref 153)), (some (.int m)), (some (.int u)), (some (.int y1)), (some (.int (nI j31))), (some (.int (nI j41))), (some (.int 0)), (some (.int (σ41.2.2.1 153 (Int32.toNatClampNeg (nI j31))))), (some (.int (σ41.2.2.1 153 (Int32.toNatClampNeg (nI j31))))), (some (.int (nI j158)))] [] (WW σ158) 0 0 := by
                              intro q
                              induction q with
                              | zero =>
                                intro j158 σ158 hj hs158 hI158
                                obtain rfl : j158 = 20 := by omega
                                refine R_iload (pc := 158) dX9_findChains_158 rfl ?_
                                refine R_iload (pc := 160) dX9_findChains_160 rfl ?_
                                refine R_icge (pc := 162) 198 dX9_findChains_162 (by decide) (fun _ => ?_) (fun h => absurd (Int32.not_lt.mp (inR_up hr2 (Int32.le_refl _) (by decide)).2) h)
                                refine inc_11_6_1_i (pc := 198) dX9_findChains_198 ?_
                                have r152 : inR ((nI j41) + 1) 1 20 := inR_add (show inR (nI j41) 0 19 from hr41) (show inR 1 1 1 from (inR_self _)) (by decide) (by decide)
                                have e153 := ti_add (l := 1) (h := 20) (show inR (nI j41) 0 19 from hr41) (show inR 1 1 1 from (inR_self _)) (by decide) (by decide)
                                refine R_goto (pc := 201) 41 dX9_findChains_201 (by decide) ?_
                                rw [nI_1]
                                exact ih41 (j41 + 1) _ _ _ _ _ (by omega) (by omega) hI158
                              | succ q ih158 =>
                                intro j158 σ158 hj hs158 hI158
                                have hr158 : inR (nI j158) 0 19 := inR_ix hs158 (show j158 < 20 by omega) (by decide) (by decide) (by decide)
                                have hlt158 : j158 < 20 := by omega
                                refine R_iload (pc := 158) dX9_findChains_158 rfl ?_
                                refine R_iload (pc := 160) dX9_findChains_160 rfl ?_
                                refine R_icge (pc := 162) 198 dX9_findChains_162 (by decide) (fun b162_154 => ?_) (fun b162_154 => ?_)
                                · skip
                                  refine inc_11_6_1_i (pc := 198) dX9_findChains_198 ?_
                                  have r155 : inR ((nI j41) + 1) 1 20 := inR_add (show inR (nI j41) 0 19 from hr41) (show inR 1 1 1 from (inR_self _)) (by decide) (by decide)
                                  have e156 := ti_add (l := 1) (h := 20) (show inR (nI j41) 0 19 from hr41) (show inR 1 1 1 from (inR_self _)) (by decide) (by decide)
                                  refine R_goto (pc := 201) 41 dX9_findChains_201 (by decide) ?_
                                  rw [nI_1]
                                  exact ih41 (j41 + 1) _ _ _ _ _ (by omega) (by omega) hI158
                                · skip
                                  refine R_iload (pc := 165) dX9_findChains_165 rfl ?_
                                  refine R_ifeq (pc := 167) 198 dX9_findChains_167 (by decide) (fun _ => ?_) (fun h => absurd (by decide) h)
                                  refine inc_11_6_1_i (pc := 198) dX9_findChains_198 ?_
                                  have r158 : inR ((nI j41) + 1) 1 20 := inR_add (show inR (nI j41) 0 19 from hr41) (show inR 1 1 1 from (inR_self _)) (by decide) (by decide)
                                  have e159 := ti_add (l := 1) (h := 20) (show inR (nI j41) 0 19 from hr41) (show inR 1 1 1 from (inR_self _)) (by decide) (by decide)
                                  refine R_goto (pc := 201) 41 dX9_findChains_201 (by decide) ?_
                                  rw [nI_1]
                                  exact ih41 (j41 + 1) _ _ _ _ _ (by omega) (by omega) hI158
                            exact HL158 20 0 _ (by omega) (by omega) hI41
                          · skip
                            refine R_aload_n (pc := 142) dX9_findChains_142 rfl rfl ?_
                            refine R_iload (pc := 143) dX9_findChains_143 rfl ?_
                            have hx160 : vp_in (nI j41) 20 := (vp_in_nI (by omega) (by decide))
                            refine R_iaload (pc := 145) dX9_findChains_145 (c_153 _) hx160 ?_
                            refine R_goto (pc := 146) 153 dX9_findChains_146 (by decide) ?_
                            refine st_11_9_i_i (pc := 153) dX9_findChains_153 ?_
                            refine R_iconst (pc := 155) (v := 0) dX9_findChains_155 (by decide) ?_
                            refine st_11_10_i_i (pc := 156) dX9_findChains_156 ?_
                            have HL158 : ∀ (q j158 : Nat) (σ158 : Sg), j158 + q = 20 → 0 ≤ j158 → Inv σ158 → R G l yX9_findChains cX9_findChains 11 none 3 0 0 (QV (fun w2 => ∃ σ2, w2 = WW σ2 ∧ Inv σ2)) 158 [(some (.ref 140)), (some (.ref 153)), (some (.int m)), (some (.int u)), (some (.int y1)), (some (.int (nI j31))), (some (.int (nI j41))), (some (.int 0)), (some (.int (σ41.2.2.1 153 (Int32.toNatClampNeg (nI j31))))), (some (.int (σ41.2.2.1 153 (Int32.toNatClampNeg (nI j41))))), (some (.int (nI j158)))] [] (WW σ158) 0 0 := by
                              intro q
                              induction q with
                              | zero =>
                                intro j158 σ158 hj hs158 hI158
                                obtain rfl : j158 = 20 := by omega
                                refine R_iload (pc := 158) dX9_findChains_158 rfl ?_
                                refine R_iload (pc := 160) dX9_findChains_160 rfl ?_
                                refine R_icge (pc := 162) 198 dX9_findChains_162 (by decide) (fun _ => ?_) (fun h => absurd (Int32.not_lt.mp (inR_up hr2 (Int32.le_refl _) (by decide)).2) h)
                                refine inc_11_6_1_i (pc := 198) dX9_findChains_198 ?_
                                have r162 : inR ((nI j41) + 1) 1 20 := inR_add (show inR (nI j41) 0 19 from hr41) (show inR 1 1 1 from (inR_self _)) (by decide) (by decide)
                                have e163 := ti_add (l := 1) (h := 20) (show inR (nI j41) 0 19 from hr41) (show inR 1 1 1 from (inR_self _)) (by decide) (by decide)
                                refine R_goto (pc := 201) 41 dX9_findChains_201 (by decide) ?_
                                rw [nI_1]
                                exact ih41 (j41 + 1) _ _ _ _ _ (by omega) (by omega) hI158
                              | succ q ih158 =>
                                intro j158 σ158 hj hs158 hI158
                                have hr158 : inR (nI j158) 0 19 := inR_ix hs158 (show j158 < 20 by omega) (by decide) (by decide) (by decide)
                                have hlt158 : j158 < 20 := by omega
                                refine R_iload (pc := 158) dX9_findChains_158 rfl ?_
                                refine R_iload (pc := 160) dX9_findChains_160 rfl ?_
                                refine R_icge (pc := 162) 198 dX9_findChains_162 (by decide) (fun b162_164 => ?_) (fun b162_164 => ?_)
                                · skip
                                  refine inc_11_6_1_i (pc := 198) dX9_findChains_198 ?_
                                  have r165 : inR ((nI j41) + 1) 1 20 := inR_add (show inR (nI j41) 0 19 from hr41) (show inR 1 1 1 from (inR_self _)) (by decide) (by decide)
                                  have e166 := ti_add (l := 1) (h := 20) (show inR (nI j41) 0 19 from hr41) (show inR 1 1 1 from (inR_self _)) (by decide) (by decide)
                                  refine R_goto (pc := 201) 41 dX9_findChains_201 (by decide) ?_
                                  rw [nI_1]
                                  exact ih41 (j41 + 1) _ _ _ _ _ (by omega) (by omega) hI158
                                · skip
                                  refine R_iload (pc := 165) dX9_findChains_165 rfl ?_
                                  refine R_ifeq (pc := 167) 198 dX9_findChains_167 (by decide) (fun _ => ?_) (fun h => absurd (by decide) h)
                                  refine inc_11_6_1_i (pc := 198) dX9_findChains_198 ?_
                                  have r168 : inR ((nI j41) + 1) 1 20 := inR_add (show inR (nI j41) 0 19 from hr41) (show inR 1 1 1 from (inR_self _)) (by decide) (by decide)
                                  have e169 := ti_add (l := 1) (h := 20) (show inR (nI j41) 0 19 from hr41) (show inR 1 1 1 from (inR_self _)) (by decide) (by decide)
                                  refine R_goto (pc := 201) 41 dX9_findChains_201 (by decide) ?_
                                  rw [nI_1]
                                  exact ih41 (j41 + 1) _ _ _ _ _ (by omega) (by omega) hI158
                            exact HL158 20 0 _ (by omega) (by omega) hI41
                      · skip
                        refine R_iload_n (pc := 71) dX9_findChains_71 rfl rfl ?_
                        refine R_ifeq (pc := 72) 89 dX9_findChains_72 (by decide) (fun b72_170 => ?_) (fun b72_170 => ?_)
                        · skip
                          refine R_aload_n (pc := 89) dX9_findChains_89 rfl rfl ?_
                          refine R_iload (pc := 90) dX9_findChains_90 rfl ?_
                          refine R_iload (pc := 92) dX9_findChains_92 rfl ?_
                          refine k_X9_155 (pc := 94) (gx_X9_isLike _ _ _ hI41 hr31 hr41) rfl (c_140 _) (by decide) (Nat.le_refl _) (Nat.le_refl _) (Nat.le_of_ble_eq_true rfl) dX9_findChains_94 (fun x w2 h => ?_)
                          rcases h with ⟨rfl, rfl | rfl⟩
                          · skip
                            refine R_ifeq (pc := 97) 104 dX9_findChains_97 (by decide) (fun h => absurd h (by decide)) (fun _ => ?_)
                            refine R_iconst (pc := 100) (v := 1) dX9_findChains_100 (by decide) ?_
                            refine R_goto (pc := 101) 105 dX9_findChains_101 (by decide) ?_
                            refine st_11_7_i_i (pc := 105) dX9_findChains_105 ?_
                            refine R_aload_n (pc := 107) dX9_findChains_107 rfl rfl ?_
                            refine R_iload (pc := 108) dX9_findChains_108 rfl ?_
                            have hx173 : vp_in (nI j31) 20 := (vp_in_nI (by omega) (by decide))
                            refine R_iaload (pc := 110) dX9_findChains_110 (c_153 _) hx173 ?_
                            refine R_aload_n (pc := 111) dX9_findChains_111 rfl rfl ?_
                            refine R_iload (pc := 112) dX9_findChains_112 rfl ?_
                            have hx174 : vp_in (nI j41) 20 := (vp_in_nI (by omega) (by decide))
                            refine R_iaload (pc := 114) dX9_findChains_114 (c_153 _) hx174 ?_
                            refine R_icge (pc := 115) 125 dX9_findChains_115 (by decide) (fun b115_175 => ?_) (fun b115_175 => ?_)
                            · skip
                              refine R_aload_n (pc := 125) dX9_findChains_125 rfl rfl ?_
                              refine R_iload (pc := 126) dX9_findChains_126 rfl ?_
                              have hx176 : vp_in (nI j41) 20 := (vp_in_nI (by omega) (by decide))
                              refine R_iaload (pc := 128) dX9_findChains_128 (c_153 _) hx176 ?_
                              refine st_11_8_i_i (pc := 129) dX9_findChains_129 ?_
                              refine R_aload_n (pc := 131) dX9_findChains_131 rfl rfl ?_
                              refine R_iload (pc := 132) dX9_findChains_132 rfl ?_
                              have hx177 : vp_in (nI j31) 20 := (vp_in_nI (by omega) (by decide))
                              refine R_iaload (pc := 134) dX9_findChains_134 (c_153 _) hx177 ?_
                              refine R_aload_n (pc := 135) dX9_findChains_135 rfl rfl ?_
                              refine R_iload (pc := 136) dX9_findChains_136 rfl ?_
                              have hx178 : vp_in (nI j41) 20 := (vp_in_nI (by omega) (by decide))
                              refine R_iaload (pc := 138) dX9_findChains_138 (c_153 _) hx178 ?_
                              refine R_icge (pc := 139) 149 dX9_findChains_139 (by decide) (fun b139_179 => ?_) (fun b139_179 => ?_)
                              · skip
                                refine R_aload_n (pc := 149) dX9_findChains_149 rfl rfl ?_
                                refine R_iload (pc := 150) dX9_findChains_150 rfl ?_
                                have hx180 : vp_in (nI j31) 20 := (vp_in_nI (by omega) (by decide))
                                refine R_iaload (pc := 152) dX9_findChains_152 (c_153 _) hx180 ?_
                                refine st_11_9_i_i (pc := 153) dX9_findChains_153 ?_
                                refine R_iconst (pc := 155) (v := 0) dX9_findChains_155 (by decide) ?_
                                refine st_11_10_i_i (pc := 156) dX9_findChains_156 ?_
                                have HL158 : ∀ (q j158 : Nat) (σ158 : Sg), j158 + q = 20 → 0 ≤ j158 → Inv σ158 → R G l yX9_findChains cX9_findChains 11 none 3 0 0 (QV (fun w2 => ∃ σ2, w2 = WW σ2 ∧ Inv σ2)) 158 [(some (.ref 140)), (some (.ref 153)), (some (.int m)), (some (.int u)), (some (.int y1)), (some (.int (nI j31))), (some (.int (nI j41))), (some (.int 1)), (some (.int (σ41.2.2.1 153 (Int32.toNatClampNeg (nI j41))))), (some (.int (σ41.2.2.1 153 (Int32.toNatClampNeg (nI j31))))), (some (.int (nI j158)))] [] (WW σ158) 0 0 := by
                                  intro q
                                  induction q with
                                  | zero =>
                                    intro j158 σ158 hj hs158 hI158
                                    obtain rfl : j158 = 20 := by omega
                                    refine R_iload (pc := 158) dX9_findChains_158 rfl ?_
                                    refine R_iload (pc := 160) dX9_findChains_160 rfl ?_
                                    refine R_icge (pc := 162) 198 dX9_findChains_162 (by decide) (fun _ => ?_) (fun h => absurd (Int32.not_lt.mp (inR_up hr2 (Int32.le_refl _) (by decide)).2) h)
                                    refine inc_11_6_1_i (pc := 198) dX9_findChains_198 ?_
                                    have r182 : inR ((nI j41) + 1) 1 20 := inR_add (show inR (nI j41) 0 19 from hr41) (show inR 1 1 1 from (inR_self _)) (by decide) (by decide)
                                    have e183 := ti_add (l := 1) (h := 20) (show inR (nI j41) 0 19 from hr41) (show inR 1 1 1 from (inR_self _)) (by decide) (by decide)
                                    refine R_goto (pc := 201) 41 dX9_findChains_201 (by decide) ?_
                                    rw [nI_1]
                                    exact ih41 (j41 + 1) _ _ _ _ _ (by omega) (by omega) hI158
                                  | succ q ih158 =>
                                    intro j158 σ158 hj hs158 hI158
                                    have hr158 : inR (nI j158) 0 19 := inR_ix hs158 (show j158 < 20 by omega) (by decide) (by decide) (by decide)
                                    have hlt158 : j158 < 20 := by omega
                                    refine R_iload (pc := 158) dX9_findChains_158 rfl ?_
                                    refine R_iload (pc := 160) dX9_findChains_160 rfl ?_
                                    refine R_icge (pc := 162) 198 dX9_findChains_162 (by decide) (fun b162_184 => ?_) (fun b162_184 => ?_)
                                    · skip
                                      refine inc_11_6_1_i (pc := 198) dX9_findChains_198 ?_
                                      have r185 : inR ((nI j41) + 1) 1 20 := inR_add (show inR (nI j41) 0 19 from hr41) (show inR 1 1 1 from (inR_self _)) (by decide) (by decide)
                                      have e186 := ti_add (l := 1) (h := 20) (show inR (nI j41) 0 19 from hr41) (show inR 1 1 1 from (inR_self _)) (by decide) (by decide)
                                      refine R_goto (pc := 201) 41 dX9_findChains_201 (by decide) ?_
                                      rw [nI_1]
                                      exact ih41 (j41 + 1) _ _ _ _ _ (by omega) (by omega) hI158
                                    · skip
                                      refine R_iload (pc := 165) dX9_findChains_165 rfl ?_
                                      refine R_ifeq (pc := 167) 198 dX9_findChains_167 (by decide) (fun h => absurd h (by decide)) (fun _ => ?_)
                                      refine R_aload_n (pc := 170) dX9_findChains_170 rfl rfl ?_
                                      refine R_iload (pc := 171) dX9_findChains_171 rfl ?_
                                      refine R_aload_n (pc := 173) dX9_findChains_173 rfl rfl ?_
                                      refine R_iload (pc := 174) dX9_findChains_174 rfl ?_
                                      have hx188 : vp_in (nI j158) 20 := (vp_in_nI (by omega) (by decide))
                                      refine R_iaload (pc := 176) dX9_findChains_176 (c_153 _) hx188 ?_
                                      refine R_iload (pc := 177) dX9_findChains_177 rfl ?_
                                      refine R_icne (pc := 179) 187 dX9_findChains_179 (by decide) (fun b179_189 => ?_) (fun b179_189 => ?_)
                                      · skip
                                        refine R_aload_n (pc := 187) dX9_findChains_187 rfl rfl ?_
                                        refine R_iload (pc := 188) dX9_findChains_188 rfl ?_
                                        have hx190 : vp_in (nI j158) 20 := (vp_in_nI (by omega) (by decide))
                                        refine R_iaload (pc := 190) dX9_findChains_190 (c_153 _) hx190 ?_
                                        have hx191 : vp_in (nI j158) 20 := (vp_in_nI (by omega) (by decide))
                                        refine W_iastore (pc := 191) dX9_findChains_191 (c_153 _) hx191 (a_153 _ _) ?_
                                        have hV192 := sa_153 hI158 (Int32.toNatClampNeg (nI j158)) (iva_153 hI158 _ (lt_of_vp hx188))
                                        refine inc_11_10_1_i (pc := 192) dX9_findChains_192 ?_
                                        have r193 : inR ((nI j158) + 1) 1 20 := inR_add (show inR (nI j158) 0 19 from hr158) (show inR 1 1 1 from (inR_self _)) (by decide) (by decide)
                                        have e194 := ti_add (l := 1) (h := 20) (show inR (nI j158) 0 19 from hr158) (show inR 1 1 1 from (inR_self _)) (by decide) (by decide)
                                        refine R_goto (pc := 195) 158 dX9_findChains_195 (by decide) ?_
                                        rw [nI_1]
                                        exact ih158 (j158 + 1) _ (by omega) (by omega) hV192
                                      · skip
                                        refine R_iload (pc := 182) dX9_findChains_182 rfl ?_
                                        refine R_goto (pc := 184) 191 dX9_findChains_184 (by decide) ?_
                                        have hx195 : vp_in (nI j158) 20 := (vp_in_nI (by omega) (by decide))
                                        refine W_iastore (pc := 191) dX9_findChains_191 (c_153 _) hx195 (a_153 _ _) ?_
                                        have hV196 := sa_153 hI158 (Int32.toNatClampNeg (nI j158)) (iva_153 hI41 _ (lt_of_vp hx117))
                                        refine inc_11_10_1_i (pc := 192) dX9_findChains_192 ?_
                                        have r197 : inR ((nI j158) + 1) 1 20 := inR_add (show inR (nI j158) 0 19 from hr158) (show inR 1 1 1 from (inR_self _)) (by decide) (by decide)
                                        have e198 := ti_add (l := 1) (h := 20) (show inR (nI j158) 0 19 from hr158) (show inR 1 1 1 from (inR_self _)) (by decide) (by decide)
                                        refine R_goto (pc := 195) 158 dX9_findChains_195 (by decide) ?_
                                        rw [nI_1]
                                        exact ih158 (j158 + 1) _ (by omega) (by omega) hV196
                                exact HL158 20 0 _ (by omega) (by omega) hI41
                              · skip
                                refine R_aload_n (pc := 142) dX9_findChains_142 rfl rfl ?_
                                refine R_iload (pc := 143) dX9_findChains_143 rfl ?_
                                have hx199 : vp_in (nI j41) 20 := (vp_in_nI (by omega) (by decide))
                                refine R_iaload (pc := 145) dX9_findChains_145 (c_153 _) hx199 ?_
                                refine R_goto (pc := 146) 153 dX9_findChains_146 (by decide) ?_
                                refine st_11_9_i_i (pc := 153) dX9_findChains_153 ?_
                                refine R_iconst (pc := 155) (v := 0) dX9_findChains_155 (by decide) ?_
                                refine st_11_10_i_i (pc := 156) dX9_findChains_156 ?_
                                have HL158 : ∀ (q j158 : Nat) (σ158 : Sg), j158 + q = 20 → 0 ≤ j158 → Inv σ158 → R G l yX9_findChains cX9_findChains 11 none 3 0 0 (QV (fun w2 => ∃ σ2, w2 = WW σ2 ∧ Inv σ2)) 158 [(some (.ref 140)), (some (.ref 153)), (some (.int m)), (some (.int u)), (some (.int y1)), (some (.int (nI j31))), (some (.int (nI j41))), (some (.int 1)), (some (.int (σ41.2.2.1 153 (Int32.toNatClampNeg (nI j41))))), (some (.int (σ41.2.2.1 153 (Int32.toNatClampNeg (nI j41))))), (some (.int (nI j158)))] [] (WW σ158) 0 0 := by
                                  intro q
                                  induction q with
                                  | zero =>
                                    intro j158 σ158 hj hs158 hI158
                                    obtain rfl : j158 = 20 := by omega
                                    refine R_iload (pc := 158) dX9_findChains_158 rfl ?_
                                    refine R_iload (pc := 160) dX9_findChains_160 rfl ?_
                                    refine R_icge (pc := 162) 198 dX9_findChains_162 (by decide) (fun _ => ?_) (fun h => absurd (Int32.not_lt.mp (inR_up hr2 (Int32.le_refl _) (by decide)).2) h)
                                    refine inc_11_6_1_i (pc := 198) dX9_findChains_198 ?_
                                    have r201 : inR ((nI j41) + 1) 1 20 := inR_add (show inR (nI j41) 0 19 from hr41) (show inR 1 1 1 from (inR_self _)) (by decide) (by decide)
                                    have e202 := ti_add (l := 1) (h := 20) (show inR (nI j41) 0 19 from hr41) (show inR 1 1 1 from (inR_self _)) (by decide) (by decide)
                                    refine R_goto (pc := 201) 41 dX9_findChains_201 (by decide) ?_
                                    rw [nI_1]
                                    exact ih41 (j41 + 1) _ _ _ _ _ (by omega) (by omega) hI158
                                  | succ q ih158 =>
                                    intro j158 σ158 hj hs158 hI158
                                    have hr158 : inR (nI j158) 0 19 := inR_ix hs158 (show j158 < 20 by omega) (by decide) (by decide) (by decide)
                                    have hlt158 : j158 < 20 := by omega
                                    refine R_iload (pc := 158) dX9_findChains_158 rfl ?_
                                    refine R_iload (pc := 160) dX9_findChains_160 rfl ?_
                                    refine R_icge (pc := 162) 198 dX9_findChains_162 (by decide) (fun b162_203 => ?_) (fun b162_203 => ?_)
                                    · skip
                                      refine inc_11_6_1_i (pc := 198) dX9_findChains_198 ?_
                                      have r204 : inR ((nI j41) + 1) 1 20 := inR_add (show inR (nI j41) 0 19 from hr41) (show inR 1 1 1 from (inR_self _)) (by decide) (by decide)
                                      have e205 := ti_add (l := 1) (h := 20) (show inR (nI j41) 0 19 from hr41) (show inR 1 1 1 from (inR_self _)) (by decide) (by decide)
                                      refine R_goto (pc := 201) 41 dX9_findChains_201 (by decide) ?_
                                      rw [nI_1]
                                      exact ih41 (j41 + 1) _ _ _ _ _ (by omega) (by omega) hI158
                                    · skip
                                      refine R_iload (pc := 165) dX9_findChains_165 rfl ?_
                                      refine R_ifeq (pc := 167) 198 dX9_findChains_167 (by decide) (fun h => absurd h (by decide)) (fun _ => ?_)
                                      refine R_aload_n (pc := 170) dX9_findChains_170 rfl rfl ?_
                                      refine R_iload (pc := 171) dX9_findChains_171 rfl ?_
                                      refine R_aload_n (pc := 173) dX9_findChains_173 rfl rfl ?_
                                      refine R_iload (pc := 174) dX9_findChains_174 rfl ?_
                                      have hx207 : vp_in (nI j158) 20 := (vp_in_nI (by omega) (by decide))
                                      refine R_iaload (pc := 176) dX9_findChains_176 (c_153 _) hx207 ?_
                                      refine R_iload (pc := 177) dX9_findChains_177 rfl ?_
                                      refine R_icne (pc := 179) 187 dX9_findChains_179 (by decide) (fun b179_208 => ?_) (fun b179_208 => ?_)
                                      · skip
                                        refine R_aload_n (pc := 187) dX9_findChains_187 rfl rfl ?_
                                        refine R_iload (pc := 188) dX9_findChains_188 rfl ?_
                                        have hx209 : vp_in (nI j158) 20 := (vp_in_nI (by omega) (by decide))
                                        refine R_iaload (pc := 190) dX9_findChains_190 (c_153 _) hx209 ?_
                                        have hx210 : vp_in (nI j158) 20 := (vp_in_nI (by omega) (by decide))
                                        refine W_iastore (pc := 191) dX9_findChains_191 (c_153 _) hx210 (a_153 _ _) ?_
                                        have hV211 := sa_153 hI158 (Int32.toNatClampNeg (nI j158)) (iva_153 hI158 _ (lt_of_vp hx207))
                                        refine inc_11_10_1_i (pc := 192) dX9_findChains_192 ?_
                                        have r212 : inR ((nI j158) + 1) 1 20 := inR_add (show inR (nI j158) 0 19 from hr158) (show inR 1 1 1 from (inR_self _)) (by decide) (by decide)
                                        have e213 := ti_add (l := 1) (h := 20) (show inR (nI j158) 0 19 from hr158) (show inR 1 1 1 from (inR_self _)) (by decide) (by decide)
                                        refine R_goto (pc := 195) 158 dX9_findChains_195 (by decide) ?_
                                        rw [nI_1]
                                        exact ih158 (j158 + 1) _ (by omega) (by omega) hV211
                                      · skip
                                        refine R_iload (pc := 182) dX9_findChains_182 rfl ?_
                                        refine R_goto (pc := 184) 191 dX9_findChains_184 (by decide) ?_
                                        have hx214 : vp_in (nI j158) 20 := (vp_in_nI (by omega) (by decide))
                                        refine W_iastore (pc := 191) dX9_findChains_191 (c_153 _) hx214 (a_153 _ _) ?_
                                        have hV215 := sa_153 hI158 (Int32.toNatClampNeg (nI j158)) (iva_153 hI41 _ (lt_of_vp hx117))
                                        refine inc_11_10_1_i (pc := 192) dX9_findChains_192 ?_
                                        have r216 : inR ((nI j158) + 1) 1 20 := inR_add (show inR (nI j158) 0 19 from hr158) (show inR 1 1 1 from (inR_self _)) (by decide) (by decide)
                                        have e217 := ti_add (l := 1) (h := 20) (show inR (nI j158) 0 19 from hr158) (show inR 1 1 1 from (inR_self _)) (by decide) (by decide)
                                        refine R_goto (pc := 195) 158 dX9_findChains_195 (by decide) ?_
                                        rw [nI_1]
                                        exact ih158 (j158 + 1) _ (by omega) (by omega) hV215
                                exact HL158 20 0 _ (by omega) (by omega) hI41
                            · skip
                              refine R_aload_n (pc := 118) dX9_findChains_118 rfl rfl ?_
                              refine R_iload (pc := 119) dX9_findChains_119 rfl ?_
                              have hx218 : vp_in (nI j31) 20 := (vp_in_nI (by omega) (by decide))
                              refine R_iaload (pc := 121) dX9_findChains_121 (c_153 _) hx218 ?_
                              refine R_goto (pc := 122) 129 dX9_findChains_122 (by decide) ?_
                              refine st_11_8_i_i (pc := 129) dX9_findChains_129 ?_
                              refine R_aload_n (pc := 131) dX9_findChains_131 rfl rfl ?_
                              refine R_iload (pc := 132) dX9_findChains_132 rfl ?_
                              have hx219 : vp_in (nI j31) 20 := (vp_in_nI (by omega) (by decide))
                              refine R_iaload (pc := 134) dX9_findChains_134 (c_153 _) hx219 ?_
                              refine R_aload_n (pc := 135) dX9_findChains_135 rfl rfl ?_
                              refine R_iload (pc := 136) dX9_findChains_136 rfl ?_
                              have hx220 : vp_in (nI j41) 20 := (vp_in_nI (by omega) (by decide))
                              refine R_iaload (pc := 138) dX9_findChains_138 (c_153 _) hx220 ?_
                              refine R_icge (pc := 139) 149 dX9_findChains_139 (by decide) (fun b139_221 => ?_) (fun b139_221 => ?_)
                              · skip
                                refine R_aload_n (pc := 149) dX9_findChains_149 rfl rfl ?_
                                refine R_iload (pc := 150) dX9_findChains_150 rfl ?_
                                have hx222 : vp_in (nI j31) 20 := (vp_in_nI (by omega) (by decide))
                                refine R_iaload (pc := 152) dX9_findChains_152 (c_153 _) hx222 ?_
                                refine st_11_9_i_i (pc := 153) dX9_findChains_153 ?_
                                refine R_iconst (pc := 155) (v := 0) dX9_findChains_155 (by decide) ?_
                                refine st_11_10_i_i (pc := 156) dX9_findChains_156 ?_
                                have HL158 : ∀ (q j158 : Nat) (σ158 : Sg), j158 + q = 20 → 0 ≤ j158 → Inv σ158 → R G l yX9_findChains cX9_findChains 11 none 3 0 0 (QV (fun w2 => ∃ σ2, w2 = WW σ2 ∧ Inv σ2)) 158 [(some (.ref 140)), (some (.ref 153)), (some (.int m)), (some (.int u)), (some (.int y1)), (some (.int (nI j31))), (some (.int (nI j41))), (some (.int 1)), (some (.int (σ41.2.2.1 153 (Int32.toNatClampNeg (nI j31))))), (some (.int (σ41.2.2.1 153 (Int32.toNatClampNeg (nI j31))))), (some (.int (nI j158)))] [] (WW σ158) 0 0 := by
                                  intro q
                                  induction q with
                                  | zero =>
                                    intro j158 σ158 hj hs158 hI158
                                    obtain rfl : j158 = 20 := by omega
                                    refine R_iload (pc := 158) dX9_findChains_158 rfl ?_
                                    refine R_iload (pc := 160) dX9_findChains_160 rfl ?_
                                    refine R_icge (pc := 162) 198 dX9_findChains_162 (by decide) (fun _ => ?_) (fun h => absurd (Int32.not_lt.mp (inR_up hr2 (Int32.le_refl _) (by decide)).2) h)
                                    refine inc_11_6_1_i (pc := 198) dX9_findChains_198 ?_
                                    have r224 : inR ((nI j41) + 1) 1 20 := inR_add (show inR (nI j41) 0 19 from hr41) (show inR 1 1 1 from (inR_self _)) (by decide) (by decide)
                                    have e225 := ti_add (l := 1) (h := 20) (show inR (nI j41) 0 19 from hr41) (show inR 1 1 1 from (inR_self _)) (by decide) (by decide)
                                    refine R_goto (pc := 201) 41 dX9_findChains_201 (by decide) ?_
                                    rw [nI_1]
                                    exact ih41 (j41 + 1) _ _ _ _ _ (by omega) (by omega) hI158
                                  | succ q ih158 =>
                                    intro j158 σ158 hj hs158 hI158
                                    have hr158 : inR (nI j158) 0 19 := inR_ix hs158 (show j158 < 20 by omega) (by decide) (by decide) (by decide)
                                    have hlt158 : j158 < 20 := by omega
                                    refine R_iload (pc := 158) dX9_findChains_158 rfl ?_
                                    refine R_iload (pc := 160) dX9_findChains_160 rfl ?_
                                    refine R_icge (pc := 162) 198 dX9_findChains_162 (by decide) (fun b162_226 => ?_) (fun b162_226 => ?_)
                                    · skip
                                      refine inc_11_6_1_i (pc := 198) dX9_findChains_198 ?_
                                      have r227 : inR ((nI j41) + 1) 1 20 := inR_add (show inR (nI j41) 0 19 from hr41) (show inR 1 1 1 from (inR_self _)) (by decide) (by decide)
                                      have e228 := ti_add (l := 1) (h := 20) (show inR (nI j41) 0 19 from hr41) (show inR 1 1 1 from (inR_self _)) (by decide) (by decide)
                                      refine R_goto (pc := 201) 41 dX9_findChains_201 (by decide) ?_
                                      rw [nI_1]
                                      exact ih41 (j41 + 1) _ _ _ _ _ (by omega) (by omega) hI158
                                    · skip
                                      refine R_iload (pc := 165) dX9_findChains_165 rfl ?_
                                      refine R_ifeq (pc := 167) 198 dX9_findChains_167 (by decide) (fun h => absurd h (by decide)) (fun _ => ?_)
                                      refine R_aload_n (pc := 170) dX9_findChains_170 rfl rfl ?_
                                      refine R_iload (pc := 171) dX9_findChains_171 rfl ?_
                                      refine R_aload_n (pc := 173) dX9_findChains_173 rfl rfl ?_
                                      refine R_iload (pc := 174) dX9_findChains_174 rfl ?_
                                      have hx230 : vp_in (nI j158) 20 := (vp_in_nI (by omega) (by decide))
                                      refine R_iaload (pc := 176) dX9_findChains_176 (c_153 _) hx230 ?_
                                      refine R_iload (pc := 177) dX9_findChains_177 rfl ?_
                                      refine R_icne (pc := 179) 187 dX9_findChains_179 (by decide) (fun b179_231 => ?_) (fun b179_231 => ?_)
                                      · skip
                                        refine R_aload_n (pc := 187) dX9_findChains_187 rfl rfl ?_
                                        refine R_iload (pc := 188) dX9_findChains_188 rfl ?_
                                        have hx232 : vp_in (nI j158) 20 := (vp_in_nI (by omega) (by decide))
                                        refine R_iaload (pc := 190) dX9_findChains_190 (c_153 _) hx232 ?_
                                        have hx233 : vp_in (nI j158) 20 := (vp_in_nI (by omega) (by decide))
                                        refine W_iastore (pc := 191) dX9_findChains_191 (c_153 _) hx233 (a_153 _ _) ?_
                                        have hV234 := sa_153 hI158 (Int32.toNatClampNeg (nI j158)) (iva_153 hI158 _ (lt_of_vp hx230))
                                        refine inc_11_10_1_i (pc := 192) dX9_findChains_192 ?_
                                        have r235 : inR ((nI j158) + 1) 1 20 := inR_add (show inR (nI j158) 0 19 from hr158) (show inR 1 1 1 from (inR_self _)) (by decide) (by decide)
                                        have e236 := ti_add (l := 1) (h := 20) (show inR (nI j158) 0 19 from hr158) (show inR 1 1 1 from (inR_self _)) (by decide) (by decide)
                                        refine R_goto (pc := 195) 158 dX9_findChains_195 (by decide) ?_
                                        rw [nI_1]
                                        exact ih158 (j158 + 1) _ (by omega) (by omega) hV234
                                      · skip
                                        refine R_iload (pc := 182) dX9_findChains_182 rfl ?_
                                        refine R_goto (pc := 184) 191 dX9_findChains_184 (by decide) ?_
                                        have hx237 : vp_in (nI j158) 20 := (vp_in_nI (by omega) (by decide))
                                        refine W_iastore (pc := 191) dX9_findChains_191 (c_153 _) hx237 (a_153 _ _) ?_
                                        have hV238 := sa_153 hI158 (Int32.toNatClampNeg (nI j158)) (iva_153 hI41 _ (lt_of_vp hx116))
                                        refine inc_11_10_1_i (pc := 192) dX9_findChains_192 ?_
                                        have r239 : inR ((nI j158) + 1) 1 20 := inR_add (show inR (nI j158) 0 19 from hr158) (show inR 1 1 1 from (inR_self _)) (by decide) (by decide)
                                        have e240 := ti_add (l := 1) (h := 20) (show inR (nI j158) 0 19 from hr158) (show inR 1 1 1 from (inR_self _)) (by decide) (by decide)
                                        refine R_goto (pc := 195) 158 dX9_findChains_195 (by decide) ?_
                                        rw [nI_1]
                                        exact ih158 (j158 + 1) _ (by omega) (by omega) hV238
                                exact HL158 20 0 _ (by omega) (by omega) hI41
                              · skip
                                refine R_aload_n (pc := 142) dX9_findChains_142 rfl rfl ?_
                                refine R_iload (pc := 143) dX9_findChains_143 rfl ?_
                                have hx241 : vp_in (nI j41) 20 := (vp_in_nI (by omega) (by decide))
                                refine R_iaload (pc := 145) dX9_findChains_145 (c_153 _) hx241 ?_
                                refine R_goto (pc := 146) 153 dX9_findChains_146 (by decide) ?_
                                refine st_11_9_i_i (pc := 153) dX9_findChains_153 ?_
                                refine R_iconst (pc := 155) (v := 0) dX9_findChains_155 (by decide) ?_
                                refine st_11_10_i_i (pc := 156) dX9_findChains_156 ?_
                                have HL158 : ∀ (q j158 : Nat) (σ158 : Sg), j158 + q = 20 → 0 ≤ j158 → Inv σ158 → R G l yX9_findChains cX9_findChains 11 none 3 0 0 (QV (fun w2 => ∃ σ2, w2 = WW σ2 ∧ Inv σ2)) 158 [(some (.ref 140)), (some (.ref 153)), (some (.int m)), (some (.int u)), (some (.int y1)), (some (.int (nI j31))), (some (.int (nI j41))), (some (.int 1)), (some (.int (σ41.2.2.1 153 (Int32.toNatClampNeg (nI j31))))), (some (.int (σ41.2.2.1 153 (Int32.toNatClampNeg (nI j41))))), (some (.int (nI j158)))] [] (WW σ158) 0 0 := by
                                  intro q
                                  induction q with
                                  | zero =>
                                    intro j158 σ158 hj hs158 hI158
                                    obtain rfl : j158 = 20 := by omega
                                    refine R_iload (pc := 158) dX9_findChains_158 rfl ?_
                                    refine R_iload (pc := 160) dX9_findChains_160 rfl ?_
                                    refine R_icge (pc := 162) 198 dX9_findChains_162 (by decide) (fun _ => ?_) (fun h => absurd (Int32.not_lt.mp (inR_up hr2 (Int32.le_refl _) (by decide)).2) h)
                                    refine inc_11_6_1_i (pc := 198) dX9_findChains_198 ?_
                                    have r243 : inR ((nI j41) + 1) 1 20 := inR_add (show inR (nI j41) 0 19 from hr41) (show inR 1 1 1 from (inR_self _)) (by decide) (by decide)
                                    have e244 := ti_add (l := 1) (h := 20) (show inR (nI j41) 0 19 from hr41) (show inR 1 1 1 from (inR_self _)) (by decide) (by decide)
                                    refine R_goto (pc := 201) 41 dX9_findChains_201 (by decide) ?_
                                    rw [nI_1]
                                    exact ih41 (j41 + 1) _ _ _ _ _ (by omega) (by omega) hI158
                                  | succ q ih158 =>
                                    intro j158 σ158 hj hs158 hI158
                                    have hr158 : inR (nI j158) 0 19 := inR_ix hs158 (show j158 < 20 by omega) (by decide) (by decide) (by decide)
                                    have hlt158 : j158 < 20 := by omega
                                    refine R_iload (pc := 158) dX9_findChains_158 rfl ?_
                                    refine R_iload (pc := 160) dX9_findChains_160 rfl ?_
                                    refine R_icge (pc := 162) 198 dX9_findChains_162 (by decide) (fun b162_245 => ?_) (fun b162_245 => ?_)
                                    · skip
                                      refine inc_11_6_1_i (pc := 198) dX9_findChains_198 ?_
                                      have r246 : inR ((nI j41) + 1) 1 20 := inR_add (show inR (nI j41) 0 19 from hr41) (show inR 1 1 1 from (inR_self _)) (by decide) (by decide)
                                      have e247 := ti_add (l := 1) (h := 20) (show inR (nI j41) 0 19 from hr41) (show inR 1 1 1 from (inR_self _)) (by decide) (by decide)
                                      refine R_goto (pc := 201) 41 dX9_findChains_201 (by decide) ?_
                                      rw [nI_1]
                                      exact ih41 (j41 + 1) _ _ _ _ _ (by omega) (by omega) hI158
                                    · skip
                                      refine R_iload (pc := 165) dX9_findChains_165 rfl ?_
                                      refine R_ifeq (pc := 167) 198 dX9_findChains_167 (by decide) (fun h => absurd h (by decide)) (fun _ => ?_)
                                      refine R_aload_n (pc := 170) dX9_findChains_170 rfl rfl ?_
                                      refine R_iload (pc := 171) dX9_findChains_171 rfl ?_
                                      refine R_aload_n (pc := 173) dX9_findChains_173 rfl rfl ?_
                                      refine R_iload (pc := 174) dX9_findChains_174 rfl ?_
                                      have hx249 : vp_in (nI j158) 20 := (vp_in_nI (by omega) (by decide))
                                      refine R_iaload (pc := 176) dX9_findChains_176 (c_153 _) hx249 ?_
                                      refine R_iload (pc := 177) dX9_findChains_177 rfl ?_
                                      refine R_icne (pc := 179) 187 dX9_findChains_179 (by decide) (fun b179_250 => ?_) (fun b179_250 => ?_)
                                      · skip
                                        refine R_aload_n (pc := 187) dX9_findChains_187 rfl rfl ?_
                                        refine R_iload (pc := 188) dX9_findChains_188 rfl ?_
                                        have hx251 : vp_in (nI j158) 20 := (vp_in_nI (by omega) (by decide))
                                        refine R_iaload (pc := 190) dX9_findChains_190 (c_153 _) hx251 ?_
                                        have hx252 : vp_in (nI j158) 20 := (vp_in_nI (by omega) (by decide))
                                        refine W_iastore (pc := 191) dX9_findChains_191 (c_153 _) hx252 (a_153 _ _) ?_
                                        have hV253 := sa_153 hI158 (Int32.toNatClampNeg (nI j158)) (iva_153 hI158 _ (lt_of_vp hx249))
                                        refine inc_11_10_1_i (pc := 192) dX9_findChains_192 ?_
                                        have r254 : inR ((nI j158) + 1) 1 20 := inR_add (show inR (nI j158) 0 19 from hr158) (show inR 1 1 1 from (inR_self _)) (by decide) (by decide)
                                        have e255 := ti_add (l := 1) (h := 20) (show inR (nI j158) 0 19 from hr158) (show inR 1 1 1 from (inR_self _)) (by decide) (by decide)
                                        refine R_goto (pc := 195) 158 dX9_findChains_195 (by decide) ?_
                                        rw [nI_1]
                                        exact ih158 (j158 + 1) _ (by omega) (by omega) hV253
                                      · skip
                                        refine R_iload (pc := 182) dX9_findChains_182 rfl ?_
                                        refine R_goto (pc := 184) 191 dX9_findChains_184 (by decide) ?_
                                        have hx256 : vp_in (nI j158) 20 := (vp_in_nI (by omega) (by decide))
                                        refine W_iastore (pc := 191) dX9_findChains_191 (c_153 _) hx256 (a_153 _ _) ?_
                                        have hV257 := sa_153 hI158 (Int32.toNatClampNeg (nI j158)) (iva_153 hI41 _ (lt_of_vp hx116))
                                        refine inc_11_10_1_i (pc := 192) dX9_findChains_192 ?_
                                        have r258 : inR ((nI j158) + 1) 1 20 := inR_add (show inR (nI j158) 0 19 from hr158) (show inR 1 1 1 from (inR_self _)) (by decide) (by decide)
                                        have e259 := ti_add (l := 1) (h := 20) (show inR (nI j158) 0 19 from hr158) (show inR 1 1 1 from (inR_self _)) (by decide) (by decide)
                                        refine R_goto (pc := 195) 158 dX9_findChains_195 (by decide) ?_
                                        rw [nI_1]
                                        exact ih158 (j158 + 1) _ (by omega) (by omega) hV257
                                exact HL158 20 0 _ (by omega) (by omega) hI41
                          · skip
                            refine R_ifeq (pc := 97) 104 dX9_findChains_97 (by decide) (fun _ => ?_) (fun h => absurd (by decide) h)
                            refine R_iconst (pc := 104) (v := 0) dX9_findChains_104 (by decide) ?_
                            refine st_11_7_i_i (pc := 105) dX9_findChains_105 ?_
                            refine R_aload_n (pc := 107) dX9_findChains_107 rfl rfl ?_
                            refine R_iload (pc := 108) dX9_findChains_108 rfl ?_
                            have hx261 : vp_in (nI j31) 20 := (vp_in_nI (by omega) (by decide))
                            refine R_iaload (pc := 110) dX9_findChains_110 (c_153 _) hx261 ?_
                            refine R_aload_n (pc := 111) dX9_findChains_111 rfl rfl ?_
                            refine R_iload (pc := 112) dX9_findChains_112 rfl ?_
                            have hx262 : vp_in (nI j41) 20 := (vp_in_nI (by omega) (by decide))
                            refine R_iaload (pc := 114) dX9_findChains_114 (c_153 _) hx262 ?_
                            refine R_icge (pc := 115) 125 dX9_findChains_115 (by decide) (fun b115_263 => ?_) (fun b115_263 => ?_)
                            · skip
                              refine R_aload_n (pc := 125) dX9_findChains_125 rfl rfl ?_
                              refine R_iload (pc := 126) dX9_findChains_126 rfl ?_
                              have hx264 : vp_in (nI j41) 20 := (vp_in_nI (by omega) (by decide))
                              refine R_iaload (pc := 128) dX9_findChains_128 (c_153 _) hx264 ?_
                              refine st_11_8_i_i (pc := 129) dX9_findChains_129 ?_
                              refine R_aload_n (pc := 131) dX9_findChains_131 rfl rfl ?_
                              refine R_iload (pc := 132) dX9_findChains_132 rfl ?_
                              have hx265 : vp_in (nI j31) 20 := (vp_in_nI (by omega) (by decide))
                              refine R_iaload (pc := 134) dX9_findChains_134 (c_153 _) hx265 ?_
                              refine R_aload_n (pc := 135) dX9_findChains_135 rfl rfl ?_
                              refine R_iload (pc := 136) dX9_findChains_136 rfl ?_
                              have hx266 : vp_in (nI j41) 20 := (vp_in_nI (by omega) (by decide))
                              refine R_iaload (pc := 138) dX9_findChains_138 (c_153 _) hx266 ?_
                              refine R_icge (pc := 139) 149 dX9_findChains_139 (by decide) (fun b139_267 => ?_) (fun b139_267 => ?_)
                              · skip
                                refine R_aload_n (pc := 149) dX9_findChains_149 rfl rfl ?_
                                refine R_iload (pc := 150) dX9_findChains_150 rfl ?_
                                have hx268 : vp_in (nI j31) 20 := (vp_in_nI (by omega) (by decide))
                                refine R_iaload (pc := 152) dX9_findChains_152 (c_153 _) hx268 ?_
                                refine st_11_9_i_i (pc := 153) dX9_findChains_153 ?_
                                refine R_iconst (pc := 155) (v := 0) dX9_findChains_155 (by decide) ?_
                                refine st_11_10_i_i (pc := 156) dX9_findChains_156 ?_
                                have HL158 : ∀ (q j158 : Nat) (σ158 : Sg), j158 + q = 20 → 0 ≤ j158 → Inv σ158 → R G l yX9_findChains cX9_findChains 11 none 3 0 0 (QV (fun w2 => ∃ σ2, w2 = WW σ2 ∧ Inv σ2)) 158 [(some (.ref 140)), (some (.ref 153)), (some (.int m)), (some (.int u)), (some (.int y1)), (some (.int (nI j31))), (some (.int (nI j41))), (some (.int 0)), (some (.int (σ41.2.2.1 153 (Int32.toNatClampNeg (nI j41))))), (some (.int (σ41.2.2.1 153 (Int32.toNatClampNeg (nI j31))))), (some (.int (nI j158)))] [] (WW σ158) 0 0 := by
                                  intro q
                                  induction q with
                                  | zero =>
                                    intro j158 σ158 hj hs158 hI158
                                    obtain rfl : j158 = 20 := by omega
                                    refine R_iload (pc := 158) dX9_findChains_158 rfl ?_
                                    refine R_iload (pc := 160) dX9_findChains_160 rfl ?_
                                    refine R_icge (pc := 162) 198 dX9_findChains_162 (by decide) (fun _ => ?_) (fun h => absurd (Int32.not_lt.mp (inR_up hr2 (Int32.le_refl _) (by decide)).2) h)
                                    refine inc_11_6_1_i (pc := 198) dX9_findChains_198 ?_
                                    have r270 : inR ((nI j41) + 1) 1 20 := inR_add (show inR (nI j41) 0 19 from hr41) (show inR 1 1 1 from (inR_self _)) (by decide) (by decide)
                                    have e271 := ti_add (l := 1) (h := 20) (show inR (nI j41) 0 19 from hr41) (show inR 1 1 1 from (inR_self _)) (by decide) (by decide)
                                    refine R_goto (pc := 201) 41 dX9_findChains_201 (by decide) ?_
                                    rw [nI_1]
                                    exact ih41 (j41 + 1) _ _ _ _ _ (by omega) (by omega) hI158
                                  | succ q ih158 =>
                                    intro j158 σ158 hj hs158 hI158
                                    have hr158 : inR (nI j158) 0 19 := inR_ix hs158 (show j158 < 20 by omega) (by decide) (by decide) (by decide)
                                    have hlt158 : j158 < 20 := by omega
                                    refine R_iload (pc := 158) dX9_findChains_158 rfl ?_
                                    refine R_iload (pc := 160) dX9_findChains_160 rfl ?_
                                    refine R_icge (pc := 162) 198 dX9_findChains_162 (by decide) (fun b162_272 => ?_) (fun b162_272 => ?_)
                                    · skip
                                      refine inc_11_6_1_i (pc := 198) dX9_findChains_198 ?_
                                      have r273 : inR ((nI j41) + 1) 1 20 := inR_add (show inR (nI j41) 0 19 from hr41) (show inR 1 1 1 from (inR_self _)) (by decide) (by decide)
                                      have e274 := ti_add (l := 1) (h := 20) (show inR (nI j41) 0 19 from hr41) (show inR 1 1 1 from (inR_self _)) (by decide) (by decide)
                                      refine R_goto (pc := 201) 41 dX9_findChains_201 (by decide) ?_
                                      rw [nI_1]
                                      exact ih41 (j41 + 1) _ _ _ _ _ (by omega) (by omega) hI158
                                    · skip
                                      refine R_iload (pc := 165) dX9_findChains_165 rfl ?_
                                      refine R_ifeq (pc := 167) 198 dX9_findChains_167 (by decide) (fun _ => ?_) (fun h => absurd (by decide) h)
                                      refine inc_11_6_1_i (pc := 198) dX9_findChains_198 ?_
                                      have r276 : inR ((nI j41) + 1) 1 20 := inR_add (show inR (nI j41) 0 19 from hr41) (show inR 1 1 1 from (inR_self _)) (by decide) (by decide)
                                      have e277 := ti_add (l := 1) (h := 20) (show inR (nI j41) 0 19 from hr41) (show inR 1 1 1 from (inR_self _)) (by decide) (by decide)
                                      refine R_goto (pc := 201) 41 dX9_findChains_201 (by decide) ?_
                                      rw [nI_1]
                                      exact ih41 (j41 + 1) _ _ _ _ _ (by omega) (by omega) hI158
                                exact HL158 20 0 _ (by omega) (by omega) hI41
                              · skip
                                refine R_aload_n (pc := 142) dX9_findChains_142 rfl rfl ?_
                                refine R_iload (pc := 143) dX9_findChains_143 rfl ?_
                                have hx278 : vp_in (nI j41) 20 := (vp_in_nI (by omega) (by decide))
                                refine R_iaload (pc := 145) dX9_findChains_145 (c_153 _) hx278 ?_
                                refine R_goto (pc := 146) 153 dX9_findChains_146 (by decide) ?_
                                refine st_11_9_i_i (pc := 153) dX9_findChains_153 ?_
                                refine R_iconst (pc := 155) (v := 0) dX9_findChains_155 (by decide) ?_
                                refine st_11_10_i_i (pc := 156) dX9_findChains_156 ?_
                                have HL158 : ∀ (q j158 : Nat) (σ158 : Sg), j158 + q = 20 → 0 ≤ j158 → Inv σ158 → R G l yX9_findChains cX9_findChains 11 none 3 0 0 (QV (fun w2 => ∃ σ2, w2 = WW σ2 ∧ Inv σ2)) 158 [(some (.ref 140)), (some (.ref 153)), (some (.int m)), (some (.int u)), (some (.int y1)), (some (.int (nI j31))), (some (.int (nI j41))), (some (.int 0)), (some (.int (σ41.2.2.1 153 (Int32.toNatClampNeg (nI j41))))), (some (.int (σ41.2.2.1 153 (Int32.toNatClampNeg (nI j41))))), (some (.int (nI j158)))] [] (WW σ158) 0 0 := by
                                  intro q
                                  induction q with
                                  | zero =>
                                    intro j158 σ158 hj hs158 hI158
                                    obtain rfl : j158 = 20 := by omega
                                    refine R_iload (pc := 158) dX9_findChains_158 rfl ?_
                                    refine R_iload (pc := 160) dX9_findChains_160 rfl ?_
                                    refine R_icge (pc := 162) 198 dX9_findChains_162 (by decide) (fun _ => ?_) (fun h => absurd (Int32.not_lt.mp (inR_up hr2 (Int32.le_refl _) (by decide)).2) h)
                                    refine inc_11_6_1_i (pc := 198) dX9_findChains_198 ?_
                                    have r280 : inR ((nI j41) + 1) 1 20 := inR_add (show inR (nI j41) 0 19 from hr41) (show inR 1 1 1 from (inR_self _)) (by decide) (by decide)
                                    have e281 := ti_add (l := 1) (h := 20) (show inR (nI j41) 0 19 from hr41) (show inR 1 1 1 from (inR_self _)) (by decide) (by decide)
                                    refine R_goto (pc := 201) 41 dX9_findChains_201 (by decide) ?_
                                    rw [nI_1]
                                    exact ih41 (j41 + 1) _ _ _ _ _ (by omega) (by omega) hI158
                                  | succ q ih158 =>
                                    intro j158 σ158 hj hs158 hI158
                                    have hr158 : inR (nI j158) 0 19 := inR_ix hs158 (show j158 < 20 by omega) (by decide) (by decide) (by decide)
                                    have hlt158 : j158 < 20 := by omega
                                    refine R_iload (pc := 158) dX9_findChains_158 rfl ?_
                                    refine R_iload (pc := 160) dX9_findChains_160 rfl ?_
                                    refine R_icge (pc := 162) 198 dX9_findChains_162 (by decide) (fun b162_282 => ?_) (fun b162_282 => ?_)
                                    · skip
                                      refine inc_11_6_1_i (pc := 198) dX9_findChains_198 ?_
                                      have r283 : inR ((nI j41) + 1) 1 20 := inR_add (show inR (nI j41) 0 19 from hr41) (show inR 1 1 1 from (inR_self _)) (by decide) (by decide)
                                      have e284 := ti_add (l := 1) (h := 20) (show inR (nI j41) 0 19 from hr41) (show inR 1 1 1 from (inR_self _)) (by decide) (by decide)
                                      refine R_goto (pc := 201) 41 dX9_findChains_201 (by decide) ?_
                                      rw [nI_1]
                                      exact ih41 (j41 + 1) _ _ _ _ _ (by omega) (by omega) hI158
                                    · skip
                                      refine R_iload (pc := 165) dX9_findChains_165 rfl ?_
                                      refine R_ifeq (pc := 167) 198 dX9_findChains_167 (by decide) (fun _ => ?_) (fun h => absurd (by decide) h)
                                      refine inc_11_6_1_i (pc := 198) dX9_findChains_198 ?_
                                      have r286 : inR ((nI j41) + 1) 1 20 := inR_add (show inR (nI j41) 0 19 from hr41) (show inR 1 1 1 from (inR_self _)) (by decide) (by decide)
                                      have e287 := ti_add (l := 1) (h := 20) (show inR (nI j41) 0 19 from hr41) (show inR 1 1 1 from (inR_self _)) (by decide) (by decide)
                                      refine R_goto (pc := 201) 41 dX9_findChains_201 (by decide) ?_
                                      rw [nI_1]
                                      exact ih41 (j41 + 1) _ _ _ _ _ (by omega) (by omega) hI158
                                exact HL158 20 0 _ (by omega) (by omega) hI41
                            · skip
                              refine R_aload_n (pc := 118) dX9_findChains_118 rfl rfl ?_
                              refine R_iload (pc := 119) dX9_findChains_119 rfl ?_
                              have hx288 : vp_in (nI j31) 20 := (vp_in_nI (by omega) (by decide))
                              refine R_iaload (pc := 121) dX9_findChains_121 (c_153 _) hx288 ?_
                              refine R_goto (pc := 122) 129 dX9_findChains_122 (by decide) ?_
                              refine st_11_8_i_i (pc := 129) dX9_findChains_129 ?_
                              refine R_aload_n (pc := 131) dX9_findChains_131 rfl rfl ?_
                              refine R_iload (pc := 132) dX9_findChains_132 rfl ?_
                              have hx289 : vp_in (nI j31) 20 := (vp_in_nI (by omega) (by decide))
                              refine R_iaload (pc := 134) dX9_findChains_134 (c_153 _) hx289 ?_
                              refine R_aload_n (pc := 135) dX9_findChains_135 rfl rfl ?_
                              refine R_iload (pc := 136) dX9_findChains_136 rfl ?_
                              have hx290 : vp_in (nI j41) 20 := (vp_in_nI (by omega) (by decide))
                              refine R_iaload (pc := 138) dX9_findChains_138 (c_153 _) hx290 ?_
                              refine R_icge (pc := 139) 149 dX9_findChains_139 (by decide) (fun b139_291 => ?_) (fun b139_291 => ?_)
                              · skip
                                refine R_aload_n (pc := 149) dX9_findChains_149 rfl rfl ?_
                                refine R_iload (pc := 150) dX9_findChains_150 rfl ?_
                                have hx292 : vp_in (nI j31) 20 := (vp_in_nI (by omega) (by decide))
                                refine R_iaload (pc := 152) dX9_findChains_152 (c_153 _) hx292 ?_
                                refine st_11_9_i_i (pc := 153) dX9_findChains_153 ?_
                                refine R_iconst (pc := 155) (v := 0) dX9_findChains_155 (by decide) ?_
                                refine st_11_10_i_i (pc := 156) dX9_findChains_156 ?_
                                have HL158 : ∀ (q j158 : Nat) (σ158 : Sg), j158 + q = 20 → 0 ≤ j158 → Inv σ158 → R G l yX9_findChains cX9_findChains 11 none 3 0 0 (QV (fun w2 => ∃ σ2, w2 = WW σ2 ∧ Inv σ2)) 158 [(some (.ref 140)), (some (.ref 153)), (some (.int m)), (some (.int u)), (some (.int y1)), (some (.int (nI j31))), (some (.int (nI j41))), (some (.int 0)), (some (.int (σ41.2.2.1 153 (Int32.toNatClampNeg (nI j31))))), (some (.int (σ41.2.2.1 153 (Int32.toNatClampNeg (nI j31))))), (some (.int (nI j158)))] [] (WW σ158) 0 0 := by
                                  intro q
                                  induction q with
                                  | zero =>
                                    intro j158 σ158 hj hs158 hI158
                                    obtain rfl : j158 = 20 := by omega
                                    refine R_iload (pc := 158) dX9_findChains_158 rfl ?_
                                    refine R_iload (pc := 160) dX9_findChains_160 rfl ?_
                                    refine R_icge (pc := 162) 198 dX9_findChains_162 (by decide) (fun _ => ?_) (fun h => absurd (Int32.not_lt.mp (inR_up hr2 (Int32.le_refl _) (by decide)).2) h)
                                    refine inc_11_6_1_i (pc := 198) dX9_findChains_198 ?_
                                    have r294 : inR ((nI j41) + 1) 1 20 := inR_add (show inR (nI j41) 0 19 from hr41) (show inR 1 1 1 from (inR_self _)) (by decide) (by decide)
                                    have e295 := ti_add (l := 1) (h := 20) (show inR (nI j41) 0 19 from hr41) (show inR 1 1 1 from (inR_self _)) (by decide) (by decide)
                                    refine R_goto (pc := 201) 41 dX9_findChains_201 (by decide) ?_
                                    rw [nI_1]
                                    exact ih41 (j41 + 1) _ _ _ _ _ (by omega) (by omega) hI158
                                  | succ q ih158 =>
                                    intro j158 σ158 hj hs158 hI158
                                    have hr158 : inR (nI j158) 0 19 := inR_ix hs158 (show j158 < 20 by omega) (by decide) (by decide) (by decide)
                                    have hlt158 : j158 < 20 := by omega
                                    refine R_iload (pc := 158) dX9_findChains_158 rfl ?_
                                    refine R_iload (pc := 160) dX9_findChains_160 rfl ?_
                                    refine R_icge (pc := 162) 198 dX9_findChains_162 (by decide) (fun b162_296 => ?_) (fun b162_296 => ?_)
                                    · skip
                                      refine inc_11_6_1_i (pc := 198) dX9_findChains_198 ?_
                                      have r297 : inR ((nI j41) + 1) 1 20 := inR_add (show inR (nI j41) 0 19 from hr41) (show inR 1 1 1 from (inR_self _)) (by decide) (by decide)
                                      have e298 := ti_add (l := 1) (h := 20) (show inR (nI j41) 0 19 from hr41) (show inR 1 1 1 from (inR_self _)) (by decide) (by decide)
                                      refine R_goto (pc := 201) 41 dX9_findChains_201 (by decide) ?_
                                      rw [nI_1]
                                      exact ih41 (j41 + 1) _ _ _ _ _ (by omega) (by omega) hI158
                                    · skip
                                      refine R_iload (pc := 165) dX9_findChains_165 rfl ?_
                                      refine R_ifeq (pc := 167) 198 dX9_findChains_167 (by decide) (fun _ => ?_) (fun h => absurd (by decide) h)
                                      refine inc_11_6_1_i (pc := 198) dX9_findChains_198 ?_
                                      have r300 : inR ((nI j41) + 1) 1 20 := inR_add (show inR (nI j41) 0 19 from hr41) (show inR 1 1 1 from (inR_self _)) (by decide) (by decide)
                                      have e301 := ti_add (l := 1) (h := 20) (show inR (nI j41) 0 19 from hr41) (show inR 1 1 1 from (inR_self _)) (by decide) (by decide)
                                      refine R_goto (pc := 201) 41 dX9_findChains_201 (by decide) ?_
                                      rw [nI_1]
                                      exact ih41 (j41 + 1) _ _ _ _ _ (by omega) (by omega) hI158
                                exact HL158 20 0 _ (by omega) (by omega) hI41
                              · skip
                                refine R_aload_n (pc := 142) dX9_findChains_142 rfl rfl ?_
                                refine R_iload (pc := 143) dX9_findChains_143 rfl ?_
                                have hx302 : vp_in (nI j41) 20 := (vp_in_nI (by omega) (by decide))
                                refine R_iaload (pc := 145) dX9_findChains_145 (c_153 _) hx302 ?_
                                refine R_goto (pc := 146) 153 dX9_findChains_146 (by decide) ?_
                                refine st_11_9_i_i (pc := 153) dX9_findChains_153 ?_
                                refine R_iconst (pc := 155) (v := 0) dX9_findChains_155 (by decide) ?_
                                refine st_11_10_i_i (pc := 156) dX9_findChains_156 ?_
                                have HL158 : ∀ (q j158 : Nat) (σ158 : Sg), j158 + q = 20 → 0 ≤ j158 → Inv σ158 → R G l yX9_findChains cX9_findChains 11 none 3 0 0 (QV (fun w2 => ∃ σ2, w2 = WW σ2 ∧ Inv σ2)) 158 [(some (.ref 140)), (some (.ref 153)), (some (.int m)), (some (.int u)), (some (.int y1)), (some (.int (nI j31))), (some (.int (nI j41))), (some (.int 0)), (some (.int (σ41.2.2.1 153 (Int32.toNatClampNeg (nI j31))))), (some (.int (σ41.2.2.1 153 (Int32.toNatClampNeg (nI j41))))), (some (.int (nI j158)))] [] (WW σ158) 0 0 := by
                                  intro q
                                  induction q with
                                  | zero =>
                                    intro j158 σ158 hj hs158 hI158
                                    obtain rfl : j158 = 20 := by omega
                                    refine R_iload (pc := 158) dX9_findChains_158 rfl ?_
                                    refine R_iload (pc := 160) dX9_findChains_160 rfl ?_
                                    refine R_icge (pc := 162) 198 dX9_findChains_162 (by decide) (fun _ => ?_) (fun h => absurd (Int32.not_lt.mp (inR_up hr2 (Int32.le_refl _) (by decide)).2) h)
                                    refine inc_11_6_1_i (pc := 198) dX9_findChains_198 ?_
                                    have r304 : inR ((nI j41) + 1) 1 20 := inR_add (show inR (nI j41) 0 19 from hr41) (show inR 1 1 1 from (inR_self _)) (by decide) (by decide)
                                    have e305 := ti_add (l := 1) (h := 20) (show inR (nI j41) 0 19 from hr41) (show inR 1 1 1 from (inR_self _)) (by decide) (by decide)
                                    refine R_goto (pc := 201) 41 dX9_findChains_201 (by decide) ?_
                                    rw [nI_1]
                                    exact ih41 (j41 + 1) _ _ _ _ _ (by omega) (by omega) hI158
                                  | succ q ih158 =>
                                    intro j158 σ158 hj hs158 hI158
                                    have hr158 : inR (nI j158) 0 19 := inR_ix hs158 (show j158 < 20 by omega) (by decide) (by decide) (by decide)
                                    have hlt158 : j158 < 20 := by omega
                                    refine R_iload (pc := 158) dX9_findChains_158 rfl ?_
                                    refine R_iload (pc := 160) dX9_findChains_160 rfl ?_
                                    refine R_icge (pc := 162) 198 dX9_findChains_162 (by decide) (fun b162_306 => ?_) (fun b162_306 => ?_)
                                    · skip
                                      refine inc_11_6_1_i (pc := 198) dX9_findChains_198 ?_
                                      have r307 : inR ((nI j41) + 1) 1 20 := inR_add (show inR (nI j41) 0 19 from hr41) (show inR 1 1 1 from (inR_self _)) (by decide) (by decide)
                                      have e308 := ti_add (l := 1) (h := 20) (show inR (nI j41) 0 19 from hr41) (show inR 1 1 1 from (inR_self _)) (by decide) (by decide)
                                      refine R_goto (pc := 201) 41 dX9_findChains_201 (by decide) ?_
                                      rw [nI_1]
                                      exact ih41 (j41 + 1) _ _ _ _ _ (by omega) (by omega) hI158
                                    · skip
                                      refine R_iload (pc := 165) dX9_findChains_165 rfl ?_
                                      refine R_ifeq (pc := 167) 198 dX9_findChains_167 (by decide) (fun _ => ?_) (fun h => absurd (by decide) h)
                                      refine inc_11_6_1_i (pc := 198) dX9_findChains_198 ?_
                                      have r310 : inR ((nI j41) + 1) 1 20 := inR_add (show inR (nI j41) 0 19 from hr41) (show inR 1 1 1 from (inR_self _)) (by decide) (by decide)
                                      have e311 := ti_add (l := 1) (h := 20) (show inR (nI j41) 0 19 from hr41) (show inR 1 1 1 from (inR_self _)) (by decide) (by decide)
                                      refine R_goto (pc := 201) 41 dX9_findChains_201 (by decide) ?_
                                      rw [nI_1]
                                      exact ih41 (j41 + 1) _ _ _ _ _ (by omega) (by omega) hI158
                                exact HL158 20 0 _ (by omega) (by omega) hI41
                        · skip
                          refine R_aload_n (pc := 75) dX9_findChains_75 rfl rfl ?_
                          refine R_iload (pc := 76) dX9_findChains_76 rfl ?_
                          refine R_iload (pc := 78) dX9_findChains_78 rfl ?_
                          refine k_X9_159 (pc := 80) (gx_X9_isMatch _ _ _ hI41 hr31 hr41) rfl (c_140 _) (by decide) (Nat.le_refl _) (Nat.le_refl _) (Nat.le_of_ble_eq_true rfl) dX9_findChains_80 (fun y312 w2 h => ?_)
                          obtain ⟨σx314, rfl, hV313⟩ := h
                          refine R_ifeq (pc := 83) 104 dX9_findChains_83 (by decide) (fun b83_315 => ?_) (fun b83_315 => ?_)
                          · skip
                            refine R_iconst (pc := 104) (v := 0) dX9_findChains_104 (by decide) ?_
                            refine st_11_7_i_i (pc := 105) dX9_findChains_105 ?_
                            refine R_aload_n (pc := 107) dX9_findChains_107 rfl rfl ?_
                            refine R_iload (pc := 108) dX9_findChains_108 rfl ?_
                            have hx316 : vp_in (nI j31) 20 := (vp_in_nI (by omega) (by decide))
                            refine R_iaload (pc := 110) dX9_findChains_110 (c_153 _) hx316 ?_
                            refine R_aload_n (pc := 111) dX9_findChains_111 rfl rfl ?_
                            refine R_iload (pc := 112) dX9_findChains_112 rfl ?_
                            have hx317 : vp_in (nI j41) 20 := (vp_in_nI (by omega) (by decide))
                            refine R_iaload (pc := 114) dX9_findChains_114 (c_153 _) hx317 ?_
                            refine R_icge (pc := 115) 125 dX9_findChains_115 (by decide) (fun b115_318 => ?_) (fun b115_318 => ?_)
                            · skip
                              refine R_aload_n (pc := 125) dX9_findChains_125 rfl rfl ?_
                              refine R_iload (pc := 126) dX9_findChains_126 rfl ?_
                              have hx319 : vp_in (nI j41) 20 := (vp_in_nI (by omega) (by decide))
                              refine R_iaload (pc := 128) dX9_findChains_128 (c_153 _) hx319 ?_
                              refine st_11_8_i_i (pc := 129) dX9_findChains_129 ?_
                              refine R_aload_n (pc := 131) dX9_findChains_131 rfl rfl ?_
                              refine R_iload (pc := 132) dX9_findChains_132 rfl ?_
                              have hx320 : vp_in (nI j31) 20 := (vp_in_nI (by omega) (by decide))
                              refine R_iaload (pc := 134) dX9_findChains_134 (c_153 _) hx320 ?_
                              refine R_aload_n (pc := 135) dX9_findChains_135 rfl rfl ?_
                              refine R_iload (pc := 136) dX9_findChains_136 rfl ?_
                              have hx321 : vp_in (nI j41) 20 := (vp_in_nI (by omega) (by decide))
                              refine R_iaload (pc := 138) dX9_findChains_138 (c_153 _) hx321 ?_
                              refine R_icge (pc := 139) 149 dX9_findChains_139 (by decide) (fun b139_322 => ?_) (fun b139_322 => ?_)
                              · skip
                                refine R_aload_n (pc := 149) dX9_findChains_149 rfl rfl ?_
                                refine R_iload (pc := 150) dX9_findChains_150 rfl ?_
                                have hx323 : vp_in (nI j31) 20 := (vp_in_nI (by omega) (by decide))
                                refine R_iaload (pc := 152) dX9_findChains_152 (c_153 _) hx323 ?_
                                refine st_11_9_i_i (pc := 153) dX9_findChains_153 ?_
                                refine R_iconst (pc := 155) (v := 0) dX9_findChains_155 (by decide) ?_
                                refine st_11_10_i_i (pc := 156) dX9_findChains_156 ?_
                                have HL158 : ∀ (q j158 : Nat) (σ158 : Sg), j158 + q = 20 → 0 ≤ j158 → Inv σ158 → R G l yX9_findChains cX9_findChains 11 none 3 0 0 (QV (fun w2 => ∃ σ2, w2 = WW σ2 ∧ Inv σ2)) 158 [(some (.ref 140)), (some (.ref 153)), (some (.int m)), (some (.int u)), (some (.int y1)), (some (.int (nI j31))), (some (.int (nI j41))), (some (.int 0)), (some (.int (σx314.2.2.1 153 (Int32.toNatClampNeg (nI j41))))), (some (.int (σx314.2.2.1 153 (Int32.toNatClampNeg (nI j31))))), (some (.int (nI j158)))] [] (WW σ158) 0 0 := by
                                  intro q
                                  induction q with
                                  | zero =>
                                    intro j158 σ158 hj hs158 hI158
                                    obtain rfl : j158 = 20 := by omega
                                    refine R_iload (pc := 158) dX9_findChains_158 rfl ?_
                                    refine R_iload (pc := 160) dX9_findChains_160 rfl ?_
                                    refine R_icge (pc := 162) 198 dX9_findChains_162 (by decide) (fun _ => ?_) (fun h => absurd (Int32.not_lt.mp (inR_up hr2 (Int32.le_refl _) (by decide)).2) h)
                                    refine inc_11_6_1_i (pc := 198) dX9_findChains_198 ?_
                                    have r325 : inR ((nI j41) + 1) 1 20 := inR_add (show inR (nI j41) 0 19 from hr41) (show inR 1 1 1 from (inR_self _)) (by decide) (by decide)
                                    have e326 := ti_add (l := 1) (h := 20) (show inR (nI j41) 0 19 from hr41) (show inR 1 1 1 from (inR_self _)) (by decide) (by decide)
                                    refine R_goto (pc := 201) 41 dX9_findChains_201 (by decide) ?_
                                    rw [nI_1]
                                    exact ih41 (j41 + 1) _ _ _ _ _ (by omega) (by omega) hI158
                                  | succ q ih158 =>
                                    intro j158 σ158 hj hs158 hI158
                                    have hr158 : inR (nI j158) 0 19 := inR_ix hs158 (show j158 < 20 by omega) (by decide) (by decide) (by decide)
                                    have hlt158 : j158 < 20 := by omega
                                    refine R_iload (pc := 158) dX9_findChains_158 rfl ?_
                                    refine R_iload (pc := 160) dX9_findChains_160 rfl ?_
                                    refine R_icge (pc := 162) 198 dX9_findChains_162 (by decide) (fun b162_327 => ?_) (fun b162_327 => ?_)
                                    · skip
                                      refine inc_11_6_1_i (pc := 198) dX9_findChains_198 ?_
                                      have r328 : inR ((nI j41) + 1) 1 20 := inR_add (show inR (nI j41) 0 19 from hr41) (show inR 1 1 1 from (inR_self _)) (by decide) (by decide)
                                      have e329 := ti_add (l := 1) (h := 20) (show inR (nI j41) 0 19 from hr41) (show inR 1 1 1 from (inR_self _)) (by decide) (by decide)
                                      refine R_goto (pc := 201) 41 dX9_findChains_201 (by decide) ?_
                                      rw [nI_1]
                                      exact ih41 (j41 + 1) _ _ _ _ _ (by omega) (by omega) hI158
                                    · skip
                                      refine R_iload (pc := 165) dX9_findChains_165 rfl ?_
                                      refine R_ifeq (pc := 167) 198 dX9_findChains_167 (by decide) (fun _ => ?_) (fun h => absurd (by decide) h)
                                      refine inc_11_6_1_i (pc := 198) dX9_findChains_198 ?_
                                      have r331 : inR ((nI j41) + 1) 1 20 := inR_add (show inR (nI j41) 0 19 from hr41) (show inR 1 1 1 from (inR_self _)) (by decide) (by decide)
                                      have e332 := ti_add (l := 1) (h := 20) (show inR (nI j41) 0 19 from hr41) (show inR 1 1 1 from (inR_self _)) (by decide) (by decide)
                                      refine R_goto (pc := 201) 41 dX9_findChains_201 (by decide) ?_
                                      rw [nI_1]
                                      exact ih41 (j41 + 1) _ _ _ _ _ (by omega) (by omega) hI158
                                exact HL158 20 0 _ (by omega) (by omega) hV313
                              · skip
                                refine R_aload_n (pc := 142) dX9_findChains_142 rfl rfl ?_
                                refine R_iload (pc := 143) dX9_findChains_143 rfl ?_
                                have hx333 : vp_in (nI j41) 20 := (vp_in_nI (by omega) (by decide))
                                refine R_iaload (pc := 145) dX9_findChains_145 (c_153 _) hx333 ?_
                                refine R_goto (pc := 146) 153 dX9_findChains_146 (by decide) ?_
                                refine st_11_9_i_i (pc := 153) dX9_findChains_153 ?_
                                refine R_iconst (pc := 155) (v := 0) dX9_findChains_155 (by decide) ?_
                                refine st_11_10_i_i (pc := 156) dX9_findChains_156 ?_
                                have HL158 : ∀ (q j158 : Nat) (σ158 : Sg), j158 + q = 20 → 0 ≤ j158 → Inv σ158 → R G l yX9_findChains cX9_findChains 11 none 3 0 0 (QV (fun w2 => ∃ σ2, w2 = WW σ2 ∧ Inv σ2)) 158 [(some (.ref 140)), (some (.ref 153)), (some (.int m)), (some (.int u)), (some (.int y1)), (some (.int (nI j31))), (some (.int (nI j41))), (some (.int 0)), (some (.int (σx314.2.2.1 153 (Int32.toNatClampNeg (nI j41))))), (some (.int (σx314.2.2.1 153 (Int32.toNatClampNeg (nI j41))))), (some (.int (nI j158)))] [] (WW σ158) 0 0 := by
                                  intro q
                                  induction q with
                                  | zero =>
                                    intro j158 σ158 hj hs158 hI158
                                    obtain rfl : j158 = 20 := by omega
                                    refine R_iload (pc := 158) dX9_findChains_158 rfl ?_
                                    refine R_iload (pc := 160) dX9_findChains_160 rfl ?_
                                    refine R_icge (pc := 162) 198 dX9_findChains_162 (by decide) (fun _ => ?_) (fun h => absurd (Int32.not_lt.mp (inR_up hr2 (Int32.le_refl _) (by decide)).2) h)
                                    refine inc_11_6_1_i (pc := 198) dX9_findChains_198 ?_
                                    have r335 : inR ((nI j41) + 1) 1 20 := inR_add (show inR (nI j41) 0 19 from hr41) (show inR 1 1 1 from (inR_self _)) (by decide) (by decide)
                                    have e336 := ti_add (l := 1) (h := 20) (show inR (nI j41) 0 19 from hr41) (show inR 1 1 1 from (inR_self _)) (by decide) (by decide)
                                    refine R_goto (pc := 201) 41 dX9_findChains_201 (by decide) ?_
                                    rw [nI_1]
                                    exact ih41 (j41 + 1) _ _ _ _ _ (by omega) (by omega) hI158
                                  | succ q ih158 =>
                                    intro j158 σ158 hj hs158 hI158
                                    have hr158 : inR (nI j158) 0 19 := inR_ix hs158 (show j158 < 20 by omega) (by decide) (by decide) (by decide)
                                    have hlt158 : j158 < 20 := by omega
                                    refine R_iload (pc := 158) dX9_findChains_158 rfl ?_
                                    refine R_iload (pc := 160) dX9_findChains_160 rfl ?_
                                    refine R_icge (pc := 162) 198 dX9_findChains_162 (by decide) (fun b162_337 => ?_) (fun b162_337 => ?_)
                                    · skip
                                      refine inc_11_6_1_i (pc := 198) dX9_findChains_198 ?_
                                      have r338 : inR ((nI j41) + 1) 1 20 := inR_add (show inR (nI j41) 0 19 from hr41) (show inR 1 1 1 from (inR_self _)) (by decide) (by decide)
                                      have e339 := ti_add (l := 1) (h := 20) (show inR (nI j41) 0 19 from hr41) (show inR 1 1 1 from (inR_self _)) (by decide) (by decide)
                                      refine R_goto (pc := 201) 41 dX9_findChains_201 (by decide) ?_
                                      rw [nI_1]
                                      exact ih41 (j41 + 1) _ _ _ _ _ (by omega) (by omega) hI158
                                    · skip
                                      refine R_iload (pc := 165) dX9_findChains_165 rfl ?_
                                      refine R_ifeq (pc := 167) 198 dX9_findChains_167 (by decide) (fun _ => ?_) (fun h => absurd (by decide) h)
                                      refine inc_11_6_1_i (pc := 198) dX9_findChains_198 ?_
                                      have r341 : inR ((nI j41) + 1) 1 20 := inR_add (show inR (nI j41) 0 19 from hr41) (show inR 1 1 1 from (inR_self _)) (by decide) (by decide)
                                      have e342 := ti_add (l := 1) (h := 20) (show inR (nI j41) 0 19 from hr41) (show inR 1 1 1 from (inR_self _)) (by decide) (by decide)
                                      refine R_goto (pc := 201) 41 dX9_findChains_201 (by decide) ?_
                                      rw [nI_1]
                                      exact ih41 (j41 + 1) _ _ _ _ _ (by omega) (by omega) hI158
                                exact HL158 20 0 _ (by omega) (by omega) hV313
                            · skip
                              refine R_aload_n (pc := 118) dX9_findChains_118 rfl rfl ?_
                              refine R_iload (pc := 119) dX9_findChains_119 rfl ?_
                              have hx343 : vp_in (nI j31) 20 := (vp_in_nI (by omega) (by decide))
                              refine R_iaload (pc := 121) dX9_findChains_121 (c_153 _) hx343 ?_
                              refine R_goto (pc := 122) 129 dX9_findChains_122 (by decide) ?_
                              refine st_11_8_i_i (pc := 129) dX9_findChains_129 ?_
                              refine R_aload_n (pc := 131) dX9_findChains_131 rfl rfl ?_
                              refine R_iload (pc := 132) dX9_findChains_132 rfl ?_
                              have hx344 : vp_in (nI j31) 20 := (vp_in_nI (by omega) (by decide))
                              refine R_iaload (pc := 134) dX9_findChains_134 (c_153 _) hx344 ?_
                              refine R_aload_n (pc := 135) dX9_findChains_135 rfl rfl ?_
                              refine R_iload (pc := 136) dX9_findChains_136 rfl ?_
                              have hx345 : vp_in (nI j41) 20 := (vp_in_nI (by omega) (by decide))
                              refine R_iaload (pc := 138) dX9_findChains_138 (c_153 _) hx345 ?_
                              refine R_icge (pc := 139) 149 dX9_findChains_139 (by decide) (fun b139_346 => ?_) (fun b139_346 => ?_)
                              · skip
                                refine R_aload_n (pc := 149) dX9_findChains_149 rfl rfl ?_
                                refine R_iload (pc := 150) dX9_findChains_150 rfl ?_
                                have hx347 : vp_in (nI j31) 20 := (vp_in_nI (by omega) (by decide))
                                refine R_iaload (pc := 152) dX9_findChains_152 (c_153 _) hx347 ?_
                                refine st_11_9_i_i (pc := 153) dX9_findChains_153 ?_
                                refine R_iconst (pc := 155) (v := 0) dX9_findChains_155 (by decide) ?_
                                refine st_11_10_i_i (pc := 156) dX9_findChains_156 ?_
                                have HL158 : ∀ (q j158 : Nat) (σ158 : Sg), j158 + q = 20 → 0 ≤ j158 → Inv σ158 → R G l yX9_findChains cX9_findChains 11 none 3 0 0 (QV (fun w2 => ∃ σ2, w2 = WW σ2 ∧ Inv σ2)) 158 [(some (.ref 140)), (some (.ref 153)), (some (.int m)), (some (.int u)), (some (.int y1)), (some (.int (nI j31))), (some (.int (nI j41))), (some (.int 0)), (some (.int (σx314.2.2.1 153 (Int32.toNatClampNeg (nI j31))))), (some (.int (σx314.2.2.1 153 (Int32.toNatClampNeg (nI j31))))), (some (.int (nI j158)))] [] (WW σ158) 0 0 := by
                                  intro q
                                  induction q with
                                  | zero =>
                                    intro j158 σ158 hj hs158 hI158
                                    obtain rfl : j158 = 20 := by omega
                                    refine R_iload (pc := 158) dX9_findChains_158 rfl ?_
                                    refine R_iload (pc := 160) dX9_findChains_160 rfl ?_
                                    refine R_icge (pc := 162) 198 dX9_findChains_162 (by decide) (fun _ => ?_) (fun h => absurd (Int32.not_lt.mp (inR_up hr2 (Int32.le_refl _) (by decide)).2) h)
                                    refine inc_11_6_1_i (pc := 198) dX9_findChains_198 ?_
                                    have r349 : inR ((nI j41) + 1) 1 20 := inR_add (show inR (nI j41) 0 19 from hr41) (show inR 1 1 1 from (inR_self _)) (by decide) (by decide)
                                    have e350 := ti_add (l := 1) (h := 20) (show inR (nI j41) 0 19 from hr41) (show inR 1 1 1 from (inR_self _)) (by decide) (by decide)
                                    refine R_goto (pc := 201) 41 dX9_findChains_201 (by decide) ?_
                                    rw [nI_1]
                                    exact ih41 (j41 + 1) _ _ _ _ _ (by omega) (by omega) hI158
                                  | succ q ih158 =>
                                    intro j158 σ158 hj hs158 hI158
                                    have hr158 : inR (nI j158) 0 19 := inR_ix hs158 (show j158 < 20 by omega) (by decide) (by decide) (by decide)
                                    have hlt158 : j158 < 20 := by omega
                                    refine R_iload (pc := 158) dX9_findChains_158 rfl ?_
                                    refine R_iload (pc := 160) dX9_findChains_160 rfl ?_
                                    refine R_icge (pc := 162) 198 dX9_findChains_162 (by decide) (fun b162_351 => ?_) (fun b162_351 => ?_)
                                    · skip
                                      refine inc_11_6_1_i (pc := 198) dX9_findChains_198 ?_
                                      have r352 : inR ((nI j41) + 1) 1 20 := inR_add (show inR (nI j41) 0 19 from hr41) (show inR 1 1 1 from (inR_self _)) (by decide) (by decide)
                                      have e353 := ti_add (l := 1) (h := 20) (show inR (nI j41) 0 19 from hr41) (show inR 1 1 1 from (inR_self _)) (by decide) (by decide)
                                      refine R_goto (pc := 201) 41 dX9_findChains_201 (by decide) ?_
                                      rw [nI_1]
                                      exact ih41 (j41 + 1) _ _ _ _ _ (by omega) (by omega) hI158
                                    · skip
                                      refine R_iload (pc := 165) dX9_findChains_165 rfl ?_
                                      refine R_ifeq (pc := 167) 198 dX9_findChains_167 (by decide) (fun _ => ?_) (fun h => absurd (by decide) h)
                                      refine inc_11_6_1_i (pc := 198) dX9_findChains_198 ?_
                                      have r355 : inR ((nI j41) + 1) 1 20 := inR_add (show inR (nI j41) 0 19 from hr41) (show inR 1 1 1 from (inR_self _)) (by decide) (by decide)
                                      have e356 := ti_add (l := 1) (h := 20) (show inR (nI j41) 0 19 from hr41) (show inR 1 1 1 from (inR_self _)) (by decide) (by decide)
                                      refine R_goto (pc := 201) 41 dX9_findChains_201 (by decide) ?_
                                      rw [nI_1]
                                      exact ih41 (j41 + 1) _ _ _ _ _ (by omega) (by omega) hI158
                                exact HL158 20 0 _ (by omega) (by omega) hV313
                              · skip
                                refine R_aload_n (pc := 142) dX9_findChains_142 rfl rfl ?_
                                refine R_iload (pc := 143) dX9_findChains_143 rfl ?_
                                have hx357 : vp_in (nI j41) 20 := (vp_in_nI (by omega) (by decide))
                                refine R_iaload (pc := 145) dX9_findChains_145 (c_153 _) hx357 ?_
                                refine R_goto (pc := 146) 153 dX9_findChains_146 (by decide) ?_
                                refine st_11_9_i_i (pc := 153) dX9_findChains_153 ?_
                                refine R_iconst (pc := 155) (v := 0) dX9_findChains_155 (by decide) ?_
                                refine st_11_10_i_i (pc := 156) dX9_findChains_156 ?_
                                have HL158 : ∀ (q j158 : Nat) (σ158 : Sg), j158 + q = 20 → 0 ≤ j158 → Inv σ158 → R G l yX9_findChains cX9_findChains 11 none 3 0 0 (QV (fun w2 => ∃ σ2, w2 = WW σ2 ∧ Inv σ2)) 158 [(some (.ref 140)), (some (.ref 153)), (some (.int m)), (some (.int u)), (some (.int y1)), (some (.int (nI j31))), (some (.int (nI j41))), (some (.int 0)), (some (.int (σx314.2.2.1 153 (Int32.toNatClampNeg (nI j31))))), (some (.int (σx314.2.2.1 153 (Int32.toNatClampNeg (nI j41))))), (some (.int (nI j158)))] [] (WW σ158) 0 0 := by
                                  intro q
                                  induction q with
                                  | zero =>
                                    intro j158 σ158 hj hs158 hI158
                                    obtain rfl : j158 = 20 := by omega
                                    refine R_iload (pc := 158) dX9_findChains_158 rfl ?_
                                    refine R_iload (pc := 160) dX9_findChains_160 rfl ?_
                                    refine R_icge (pc := 162) 198 dX9_findChains_162 (by decide) (fun _ => ?_) (fun h => absurd (Int32.not_lt.mp (inR_up hr2 (Int32.le_refl _) (by decide)).2) h)
                                    refine inc_11_6_1_i (pc := 198) dX9_findChains_198 ?_
                                    have r359 : inR ((nI j41) + 1) 1 20 := inR_add (show inR (nI j41) 0 19 from hr41) (show inR 1 1 1 from (inR_self _)) (by decide) (by decide)
                                    have e360 := ti_add (l := 1) (h := 20) (show inR (nI j41) 0 19 from hr41) (show inR 1 1 1 from (inR_self _)) (by decide) (by decide)
                                    refine R_goto (pc := 201) 41 dX9_findChains_201 (by decide) ?_
                                    rw [nI_1]
                                    exact ih41 (j41 + 1) _ _ _ _ _ (by omega) (by omega) hI158
                                  | succ q ih158 =>
                                    intro j158 σ158 hj hs158 hI158
                                    have hr158 : inR (nI j158) 0 19 := inR_ix hs158 (show j158 < 20 by omega) (by decide) (by decide) (by decide)
                                    have hlt158 : j158 < 20 := by omega
                                    refine R_iload (pc := 158) dX9_findChains_158 rfl ?_
                                    refine R_iload (pc := 160) dX9_findChains_160 rfl ?_
                                    refine R_icge (pc := 162) 198 dX9_findChains_162 (by decide) (fun b162_361 => ?_) (fun b162_361 => ?_)
                                    · skip
                                      refine inc_11_6_1_i (pc := 198) dX9_findChains_198 ?_
                                      have r362 : inR ((nI j41) + 1) 1 20 := inR_add (show inR (nI j41) 0 19 from hr41) (show inR 1 1 1 from (inR_self _)) (by decide) (by decide)
                                      have e363 := ti_add (l := 1) (h := 20) (show inR (nI j41) 0 19 from hr41) (show inR 1 1 1 from (inR_self _)) (by decide) (by decide)
                                      refine R_goto (pc := 201) 41 dX9_findChains_201 (by decide) ?_
                                      rw [nI_1]
                                      exact ih41 (j41 + 1) _ _ _ _ _ (by omega) (by omega) hI158
                                    · skip
                                      refine R_iload (pc := 165) dX9_findChains_165 rfl ?_
                                      refine R_ifeq (pc := 167) 198 dX9_findChains_167 (by decide) (fun _ => ?_) (fun h => absurd (by decide) h)
                                      refine inc_11_6_1_i (pc := 198) dX9_findChains_198 ?_
                                      have r365 : inR ((nI j41) + 1) 1 20 := inR_add (show inR (nI j41) 0 19 from hr41) (show inR 1 1 1 from (inR_self _)) (by decide) (by decide)
                                      have e366 := ti_add (l := 1) (h := 20) (show inR (nI j41) 0 19 from hr41) (show inR 1 1 1 from (inR_self _)) (by decide) (by decide)
                                      refine R_goto (pc := 201) 41 dX9_findChains_201 (by decide) ?_
                                      rw [nI_1]
                                      exact ih41 (j41 + 1) _ _ _ _ _ (by omega) (by omega) hI158
                                exact HL158 20 0 _ (by omega) (by omega) hV313
                          · skip
                            refine R_goto (pc := 86) 100 dX9_findChains_86 (by decide) ?_
                            refine R_iconst (pc := 100) (v := 1) dX9_findChains_100 (by decide) ?_
                            refine R_goto (pc := 101) 105 dX9_findChains_101 (by decide) ?_
                            refine st_11_7_i_i (pc := 105) dX9_findChains_105 ?_
                            refine R_aload_n (pc := 107) dX9_findChains_107 rfl rfl ?_
                            refine R_iload (pc := 108) dX9_findChains_108 rfl ?_
                            have hx367 : vp_in (nI j31) 20 := (vp_in_nI (by omega) (by decide))
                            refine R_iaload (pc := 110) dX9_findChains_110 (c_153 _) hx367 ?_
                            refine R_aload_n (pc := 111) dX9_findChains_111 rfl rfl ?_
                            refine R_iload (pc := 112) dX9_findChains_112 rfl ?_
                            have hx368 : vp_in (nI j41) 20 := (vp_in_nI (by omega) (by decide))
                            refine R_iaload (pc := 114) dX9_findChains_114 (c_153 _) hx368 ?_
                            refine R_icge (pc := 115) 125 dX9_findChains_115 (by decide) (fun b115_369 => ?_) (fun b115_369 => ?_)
                            · skip
                              refine R_aload_n (pc := 125) dX9_findChains_125 rfl rfl ?_
                              refine R_iload (pc := 126) dX9_findChains_126 rfl ?_
                              have hx370 : vp_in (nI j41) 20 := (vp_in_nI (by omega) (by decide))
                              refine R_iaload (pc := 128) dX9_findChains_128 (c_153 _) hx370 ?_
                              refine st_11_8_i_i (pc := 129) dX9_findChains_129 ?_
                              refine R_aload_n (pc := 131) dX9_findChains_131 rfl rfl ?_
                              refine R_iload (pc := 132) dX9_findChains_132 rfl ?_
                              have hx371 : vp_in (nI j31) 20 := (vp_in_nI (by omega) (by decide))
                              refine R_iaload (pc := 134) dX9_findChains_134 (c_153 _) hx371 ?_
                              refine R_aload_n (pc := 135) dX9_findChains_135 rfl rfl ?_
                              refine R_iload (pc := 136) dX9_findChains_136 rfl ?_
                              have hx372 : vp_in (nI j41) 20 := (vp_in_nI (by omega) (by decide))
                              refine R_iaload (pc := 138) dX9_findChains_138 (c_153 _) hx372 ?_
                              refine R_icge (pc := 139) 149 dX9_findChains_139 (by decide) (fun b139_373 => ?_) (fun b139_373 => ?_)
                              · skip
                                refine R_aload_n (pc := 149) dX9_findChains_149 rfl rfl ?_
                                refine R_iload (pc := 150) dX9_findChains_150 rfl ?_
                                have hx374 : vp_in (nI j31) 20 := (vp_in_nI (by omega) (by decide))
                                refine R_iaload (pc := 152) dX9_findChains_152 (c_153 _) hx374 ?_
                                refine st_11_9_i_i (pc := 153) dX9_findChains_153 ?_
                                refine R_iconst (pc := 155) (v := 0) dX9_findChains_155 (by decide) ?_
                                refine st_11_10_i_i (pc := 156) dX9_findChains_156 ?_
                                have HL158 : ∀ (q j158 : Nat) (σ158 : Sg), j158 + q = 20 → 0 ≤ j158 → Inv σ158 → R G l yX9_findChains cX9_findChains 11 none 3 0 0 (QV (fun w2 => ∃ σ2, w2 = WW σ2 ∧ Inv σ2)) 158 [(some (.ref 140)), (some (.ref 153)), (some (.int m)), (some (.int u)), (some (.int y1)), (some (.int (nI j31))), (some (.int (nI j41))), (some (.int 1)), (some (.int (σx314.2.2.1 153 (Int32.toNatClampNeg (nI j41))))), (some (.int (σx314.2.2.1 153 (Int32.toNatClampNeg (nI j31))))), (some (.int (nI j158)))] [] (WW σ158) 0 0 := by
                                  intro q
                                  induction q with
                                  | zero =>
                                    intro j158 σ158 hj hs158 hI158
                                    obtain rfl : j158 = 20 := by omega
                                    refine R_iload (pc := 158) dX9_findChains_158 rfl ?_
                                    refine R_iload (pc := 160) dX9_findChains_160 rfl ?_
                                    refine R_icge (pc := 162) 198 dX9_findChains_162 (by decide) (fun _ => ?_) (fun h => absurd (Int32.not_lt.mp (inR_up hr2 (Int32.le_refl _) (by decide)).2) h)
                                    refine inc_11_6_1_i (pc := 198) dX9_findChains_198 ?_
                                    have r376 : inR ((nI j41) + 1) 1 20 := inR_add (show inR (nI j41) 0 19 from hr41) (show inR 1 1 1 from (inR_self _)) (by decide) (by decide)
                                    have e377 := ti_add (l := 1) (h := 20) (show inR (nI j41) 0 19 from hr41) (show inR 1 1 1 from (inR_self _)) (by decide) (by decide)
                                    refine R_goto (pc := 201) 41 dX9_findChains_201 (by decide) ?_
                                    rw [nI_1]
                                    exact ih41 (j41 + 1) _ _ _ _ _ (by omega) (by omega) hI158
                                  | succ q ih158 =>
                                    intro j158 σ158 hj hs158 hI158
                                    have hr158 : inR (nI j158) 0 19 := inR_ix hs158 (show j158 < 20 by omega) (by decide) (by decide) (by decide)
                                    have hlt158 : j158 < 20 := by omega
                                    refine R_iload (pc := 158) dX9_findChains_158 rfl ?_
                                    refine R_iload (pc := 160) dX9_findChains_160 rfl ?_
                                    refine R_icge (pc := 162) 198 dX9_findChains_162 (by decide) (fun b162_378 => ?_) (fun b162_378 => ?_)
                                    · skip
                                      refine inc_11_6_1_i (pc := 198) dX9_findChains_198 ?_
                                      have r379 : inR ((nI j41) + 1) 1 20 := inR_add (show inR (nI j41) 0 19 from hr41) (show inR 1 1 1 from (inR_self _)) (by decide) (by decide)
                                      have e380 := ti_add (l := 1) (h := 20) (show inR (nI j41) 0 19 from hr41) (show inR 1 1 1 from (inR_self _)) (by decide) (by decide)
                                      refine R_goto (pc := 201) 41 dX9_findChains_201 (by decide) ?_
                                      rw [nI_1]
                                      exact ih41 (j41 + 1) _ _ _ _ _ (by omega) (by omega) hI158
                                    · skip
                                      refine R_iload (pc := 165) dX9_findChains_165 rfl ?_
                                      refine R_ifeq (pc := 167) 198 dX9_findChains_167 (by decide) (fun h => absurd h (by decide)) (fun _ => ?_)
                                      refine R_aload_n (pc := 170) dX9_findChains_170 rfl rfl ?_
                                      refine R_iload (pc := 171) dX9_findChains_171 rfl ?_
                                      refine R_aload_n (pc := 173) dX9_findChains_173 rfl rfl ?_
                                      refine R_iload (pc := 174) dX9_findChains_174 rfl ?_
                                      have hx382 : vp_in (nI j158) 20 := (vp_in_nI (by omega) (by decide))
                                      refine R_iaload (pc := 176) dX9_findChains_176 (c_153 _) hx382 ?_
                                      refine R_iload (pc := 177) dX9_findChains_177 rfl ?_
                                      refine R_icne (pc := 179) 187 dX9_findChains_179 (by decide) (fun b179_383 => ?_) (fun b179_383 => ?_)
                                      · skip
                                        refine R_aload_n (pc := 187) dX9_findChains_187 rfl rfl ?_
                                        refine R_iload (pc := 188) dX9_findChains_188 rfl ?_
                                        have hx384 : vp_in (nI j158) 20 := (vp_in_nI (by omega) (by decide))
                                        refine R_iaload (pc := 190) dX9_findChains_190 (c_153 _) hx384 ?_
                                        have hx385 : vp_in (nI j158) 20 := (vp_in_nI (by omega) (by decide))
                                        refine W_iastore (pc := 191) dX9_findChains_191 (c_153 _) hx385 (a_153 _ _) ?_
                                        have hV386 := sa_153 hI158 (Int32.toNatClampNeg (nI j158)) (iva_153 hI158 _ (lt_of_vp hx382))
                                        refine inc_11_10_1_i (pc := 192) dX9_findChains_192 ?_
                                        have r387 : inR ((nI j158) + 1) 1 20 := inR_add (show inR (nI j158) 0 19 from hr158) (show inR 1 1 1 from (inR_self _)) (by decide) (by decide)
                                        have e388 := ti_add (l := 1) (h := 20) (show inR (nI j158) 0 19 from hr158) (show inR 1 1 1 from (inR_self _)) (by decide) (by decide)
                                        refine R_goto (pc := 195) 158 dX9_findChains_195 (by decide) ?_
                                        rw [nI_1]
                                        exact ih158 (j158 + 1) _ (by omega) (by omega) hV386
                                      · skip
                                        refine R_iload (pc := 182) dX9_findChains_182 rfl ?_
                                        refine R_goto (pc := 184) 191 dX9_findChains_184 (by decide) ?_
                                        have hx389 : vp_in (nI j158) 20 := (vp_in_nI (by omega) (by decide))
                                        refine W_iastore (pc := 191) dX9_findChains_191 (c_153 _) hx389 (a_153 _ _) ?_
                                        have hV390 := sa_153 hI158 (Int32.toNatClampNeg (nI j158)) (iva_153 hV313 _ (lt_of_vp hx368))
                                        refine inc_11_10_1_i (pc := 192) dX9_findChains_192 ?_
                                        have r391 : inR ((nI j158) + 1) 1 20 := inR_add (show inR (nI j158) 0 19 from hr158) (show inR 1 1 1 from (inR_self _)) (by decide) (by decide)
                                        have e392 := ti_add (l := 1) (h := 20) (show inR (nI j158) 0 19 from hr158) (show inR 1 1 1 from (inR_self _)) (by decide) (by decide)
                                        refine R_goto (pc := 195) 158 dX9_findChains_195 (by decide) ?_
                                        rw [nI_1]
                                        exact ih158 (j158 + 1) _ (by omega) (by omega) hV390
                                exact HL158 20 0 _ (by omega) (by omega) hV313
                              · skip
                                refine R_aload_n (pc := 142) dX9_findChains_142 rfl rfl ?_
                                refine R_iload (pc := 143) dX9_findChains_143 rfl ?_
                                have hx393 : vp_in (nI j41) 20 := (vp_in_nI (by omega) (by decide))
                                refine R_iaload (pc := 145) dX9_findChains_145 (c_153 _) hx393 ?_
                                refine R_goto (pc := 146) 153 dX9_findChains_146 (by decide) ?_
                                refine st_11_9_i_i (pc := 153) dX9_findChains_153 ?_
                                refine R_iconst (pc := 155) (v := 0) dX9_findChains_155 (by decide) ?_
                                refine st_11_10_i_i (pc := 156) dX9_findChains_156 ?_
                                have HL158 : ∀ (q j158 : Nat) (σ158 : Sg), j158 + q = 20 → 0 ≤ j158 → Inv σ158 → R G l yX9_findChains cX9_findChains 11 none 3 0 0 (QV (fun w2 => ∃ σ2, w2 = WW σ2 ∧ Inv σ2)) 158 [(some (.ref 140)), (some (.ref 153)), (some (.int m)), (some (.int u)), (some (.int y1)), (some (.int (nI j31))), (some (.int (nI j41))), (some (.int 1)), (some (.int (σx314.2.2.1 153 (Int32.toNatClampNeg (nI j41))))), (some (.int (σx314.2.2.1 153 (Int32.toNatClampNeg (nI j41))))), (some (.int (nI j158)))] [] (WW σ158) 0 0 := by
                                  intro q
                                  induction q with
                                  | zero =>
                                    intro j158 σ158 hj hs158 hI158
                                    obtain rfl : j158 = 20 := by omega
                                    refine R_iload (pc := 158) dX9_findChains_158 rfl ?_
                                    refine R_iload (pc := 160) dX9_findChains_160 rfl ?_
                                    refine R_icge (pc := 162) 198 dX9_findChains_162 (by decide) (fun _ => ?_) (fun h => absurd (Int32.not_lt.mp (inR_up hr2 (Int32.le_refl _) (by decide)).2) h)
                                    refine inc_11_6_1_i (pc := 198) dX9_findChains_198 ?_
                                    have r395 : inR ((nI j41) + 1) 1 20 := inR_add (show inR (nI j41) 0 19 from hr41) (show inR 1 1 1 from (inR_self _)) (by decide) (by decide)
                                    have e396 := ti_add (l := 1) (h := 20) (show inR (nI j41) 0 19 from hr41) (show inR 1 1 1 from (inR_self _)) (by decide) (by decide)
                                    refine R_goto (pc := 201) 41 dX9_findChains_201 (by decide) ?_
                                    rw [nI_1]
                                    exact ih41 (j41 + 1) _ _ _ _ _ (by omega) (by omega) hI158
                                  | succ q ih158 =>
                                    intro j158 σ158 hj hs158 hI158
                                    have hr158 : inR (nI j158) 0 19 := inR_ix hs158 (show j158 < 20 by omega) (by decide) (by decide) (by decide)
                                    have hlt158 : j158 < 20 := by omega
                                    refine R_iload (pc := 158) dX9_findChains_158 rfl ?_
                                    refine R_iload (pc := 160) dX9_findChains_160 rfl ?_
                                    refine R_icge (pc := 162) 198 dX9_findChains_162 (by decide) (fun b162_397 => ?_) (fun b162_397 => ?_)
                                    · skip
                                      refine inc_11_6_1_i (pc := 198) dX9_findChains_198 ?_
                                      have r398 : inR ((nI j41) + 1) 1 20 := inR_add (show inR (nI j41) 0 19 from hr41) (show inR 1 1 1 from (inR_self _)) (by decide) (by decide)
                                      have e399 := ti_add (l := 1) (h := 20) (show inR (nI j41) 0 19 from hr41) (show inR 1 1 1 from (inR_self _)) (by decide) (by decide)
                                      refine R_goto (pc := 201) 41 dX9_findChains_201 (by decide) ?_
                                      rw [nI_1]
                                      exact ih41 (j41 + 1) _ _ _ _ _ (by omega) (by omega) hI158
                                    · skip
                                      refine R_iload (pc := 165) dX9_findChains_165 rfl ?_
                                      refine R_ifeq (pc := 167) 198 dX9_findChains_167 (by decide) (fun h => absurd h (by decide)) (fun _ => ?_)
                                      refine R_aload_n (pc := 170) dX9_findChains_170 rfl rfl ?_
                                      refine R_iload (pc := 171) dX9_findChains_171 rfl ?_
                                      refine R_aload_n (pc := 173) dX9_findChains_173 rfl rfl ?_
                                      refine R_iload (pc := 174) dX9_findChains_174 rfl ?_
                                      have hx401 : vp_in (nI j158) 20 := (vp_in_nI (by omega) (by decide))
                                      refine R_iaload (pc := 176) dX9_findChains_176 (c_153 _) hx401 ?_
                                      refine R_iload (pc := 177) dX9_findChains_177 rfl ?_
                                      refine R_icne (pc := 179) 187 dX9_findChains_179 (by decide) (fun b179_402 => ?_) (fun b179_402 => ?_)
                                      · skip
                                        refine R_aload_n (pc := 187) dX9_findChains_187 rfl rfl ?_
                                        refine R_iload (pc := 188) dX9_findChains_188 rfl ?_
                                        have hx403 : vp_in (nI j158) 20 := (vp_in_nI (by omega) (by decide))
                                        refine R_iaload (pc := 190) dX9_findChains_190 (c_153 _) hx403 ?_
                                        have hx404 : vp_in (nI j158) 20 := (vp_in_nI (by omega) (by decide))
                                        refine W_iastore (pc := 191) dX9_findChains_191 (c_153 _) hx404 (a_153 _ _) ?_
                                        have hV405 := sa_153 hI158 (Int32.toNatClampNeg (nI j158)) (iva_153 hI158 _ (lt_of_vp hx401))
                                        refine inc_11_10_1_i (pc := 192) dX9_findChains_192 ?_
                                        have r406 : inR ((nI j158) + 1) 1 20 := inR_add (show inR (nI j158) 0 19 from hr158) (show inR 1 1 1 from (inR_self _)) (by decide) (by decide)
                                        have e407 := ti_add (l := 1) (h := 20) (show inR (nI j158) 0 19 from hr158) (show inR 1 1 1 from (inR_self _)) (by decide) (by decide)
                                        refine R_goto (pc := 195) 158 dX9_findChains_195 (by decide) ?_
                                        rw [nI_1]
                                        exact ih158 (j158 + 1) _ (by omega) (by omega) hV405
                                      · skip
                                        refine R_iload (pc := 182) dX9_findChains_182 rfl ?_
                                        refine R_goto (pc := 184) 191 dX9_findChains_184 (by decide) ?_
                                        have hx408 : vp_in (nI j158) 20 := (vp_in_nI (by omega) (by decide))
                                        refine W_iastore (pc := 191) dX9_findChains_191 (c_153 _) hx408 (a_153 _ _) ?_
                                        have hV409 := sa_153 hI158 (Int32.toNatClampNeg (nI j158)) (iva_153 hV313 _ (lt_of_vp hx368))
                                        refine inc_11_10_1_i (pc := 192) dX9_findChains_192 ?_
                                        have r410 : inR ((nI j158) + 1) 1 20 := inR_add (show inR (nI j158) 0 19 from hr158) (show inR 1 1 1 from (inR_self _)) (by decide) (by decide)
                                        have e411 := ti_add (l := 1) (h := 20) (show inR (nI j158) 0 19 from hr158) (show inR 1 1 1 from (inR_self _)) (by decide) (by decide)
                                        refine R_goto (pc := 195) 158 dX9_findChains_195 (by decide) ?_
                                        rw [nI_1]
                                        exact ih158 (j158 + 1) _ (by omega) (by omega) hV409
                                exact HL158 20 0 _ (by omega) (by omega) hV313
                            · skip
                              refine R_aload_n (pc := 118) dX9_findChains_118 rfl rfl ?_
                              refine R_iload (pc := 119) dX9_findChains_119 rfl ?_
                              have hx412 : vp_in (nI j31) 20 := (vp_in_nI (by omega) (by decide))
                              refine R_iaload (pc := 121) dX9_findChains_121 (c_153 _) hx412 ?_
                              refine R_goto (pc := 122) 129 dX9_findChains_122 (by decide) ?_
                              refine st_11_8_i_i (pc := 129) dX9_findChains_129 ?_
                              refine R_aload_n (pc := 131) dX9_findChains_131 rfl rfl ?_
                              refine R_iload (pc := 132) dX9_findChains_132 rfl ?_
                              have hx413 : vp_in (nI j31) 20 := (vp_in_nI (by omega) (by decide))
                              refine R_iaload (pc := 134) dX9_findChains_134 (c_153 _) hx413 ?_
                              refine R_aload_n (pc := 135) dX9_findChains_135 rfl rfl ?_
                              refine R_iload (pc := 136) dX9_findChains_136 rfl ?_
                              have hx414 : vp_in (nI j41) 20 := (vp_in_nI (by omega) (by decide))
                              refine R_iaload (pc := 138) dX9_findChains_138 (c_153 _) hx414 ?_
                              refine R_icge (pc := 139) 149 dX9_findChains_139 (by decide) (fun b139_415 => ?_) (fun b139_415 => ?_)
                              · skip
                                refine R_aload_n (pc := 149) dX9_findChains_149 rfl rfl ?_
                                refine R_iload (pc := 150) dX9_findChains_150 rfl ?_
                                have hx416 : vp_in (nI j31) 20 := (vp_in_nI (by omega) (by decide))
                                refine R_iaload (pc := 152) dX9_findChains_152 (c_153 _) hx416 ?_
                                refine st_11_9_i_i (pc := 153) dX9_findChains_153 ?_
                                refine R_iconst (pc := 155) (v := 0) dX9_findChains_155 (by decide) ?_
                                refine st_11_10_i_i (pc := 156) dX9_findChains_156 ?_
                                have HL158 : ∀ (q j158 : Nat) (σ158 : Sg), j158 + q = 20 → 0 ≤ j158 → Inv σ158 → R G l yX9_findChains cX9_findChains 11 none 3 0 0 (QV (fun w2 => ∃ σ2, w2 = WW σ2 ∧ Inv σ2)) 158 [(some (.ref 140)), (some (.ref 153)), (some (.int m)), (some (.int u)), (some (.int y1)), (some (.int (nI j31))), (some (.int (nI j41))), (some (.int 1)), (some (.int (σx314.2.2.1 153 (Int32.toNatClampNeg (nI j31))))), (some (.int (σx314.2.2.1 153 (Int32.toNatClampNeg (nI j31))))), (some (.int (nI j158)))] [] (WW σ158) 0 0 := by
                                  intro q
                                  induction q with
                                  | zero =>
                                    intro j158 σ158 hj hs158 hI158
                                    obtain rfl : j158 = 20 := by omega
                                    refine R_iload (pc := 158) dX9_findChains_158 rfl ?_
                                    refine R_iload (pc := 160) dX9_findChains_160 rfl ?_
                                    refine R_icge (pc := 162) 198 dX9_findChains_162 (by decide) (fun _ => ?_) (fun h => absurd (Int32.not_lt.mp (inR_up hr2 (Int32.le_refl _) (by decide)).2) h)
                                    refine inc_11_6_1_i (pc := 198) dX9_findChains_198 ?_
                                    have r418 : inR ((nI j41) + 1) 1 20 := inR_add (show inR (nI j41) 0 19 from hr41) (show inR 1 1 1 from (inR_self _)) (by decide) (by decide)
                                    have e419 := ti_add (l := 1) (h := 20) (show inR (nI j41) 0 19 from hr41) (show inR 1 1 1 from (inR_self _)) (by decide) (by decide)
                                    refine R_goto (pc := 201) 41 dX9_findChains_201 (by decide) ?_
                                    rw [nI_1]
                                    exact ih41 (j41 + 1) _ _ _ _ _ (by omega) (by omega) hI158
                                  | succ q ih158 =>
                                    intro j158 σ158 hj hs158 hI158
                                    have hr158 : inR (nI j158) 0 19 := inR_ix hs158 (show j158 < 20 by omega) (by decide) (by decide) (by decide)
                                    have hlt158 : j158 < 20 := by omega
                                    refine R_iload (pc := 158) dX9_findChains_158 rfl ?_
                                    refine R_iload (pc := 160) dX9_findChains_160 rfl ?_
                                    refine R_icge (pc := 162) 198 dX9_findChains_162 (by decide) (fun b162_420 => ?_) (fun b162_420 => ?_)
                                    · skip
                                      refine inc_11_6_1_i (pc := 198) dX9_findChains_198 ?_
                                      have r421 : inR ((nI j41) + 1) 1 20 := inR_add (show inR (nI j41) 0 19 from hr41) (show inR 1 1 1 from (inR_self _)) (by decide) (by decide)
                                      have e422 := ti_add (l := 1) (h := 20) (show inR (nI j41) 0 19 from hr41) (show inR 1 1 1 from (inR_self _)) (by decide) (by decide)
                                      refine R_goto (pc := 201) 41 dX9_findChains_201 (by decide) ?_
                                      rw [nI_1]
                                      exact ih41 (j41 + 1) _ _ _ _ _ (by omega) (by omega) hI158
                                    · skip
                                      refine R_iload (pc := 165) dX9_findChains_165 rfl ?_
                                      refine R_ifeq (pc := 167) 198 dX9_findChains_167 (by decide) (fun h => absurd h (by decide)) (fun _ => ?_)
                                      refine R_aload_n (pc := 170) dX9_findChains_170 rfl rfl ?_
                                      refine R_iload (pc := 171) dX9_findChains_171 rfl ?_
                                      refine R_aload_n (pc := 173) dX9_findChains_173 rfl rfl ?_
                                      refine R_iload (pc := 174) dX9_findChains_174 rfl ?_
                                      have hx424 : vp_in (nI j158) 20 := (vp_in_nI (by omega) (by decide))
                                      refine R_iaload (pc := 176) dX9_findChains_176 (c_153 _) hx424 ?_
                                      refine R_iload (pc := 177) dX9_findChains_177 rfl ?_
                                      refine R_icne (pc := 179) 187 dX9_findChains_179 (by decide) (fun b179_425 => ?_) (fun b179_425 => ?_)
                                      · skip
                                        refine R_aload_n (pc := 187) dX9_findChains_187 rfl rfl ?_
                                        refine R_iload (pc := 188) dX9_findChains_188 rfl ?_
                                        have hx426 : vp_in (nI j158) 20 := (vp_in_nI (by omega) (by decide))
                                        refine R_iaload (pc := 190) dX9_findChains_190 (c_153 _) hx426 ?_
                                        have hx427 : vp_in (nI j158) 20 := (vp_in_nI (by omega) (by decide))
                                        refine W_iastore (pc := 191) dX9_findChains_191 (c_153 _) hx427 (a_153 _ _) ?_
                                        have hV428 := sa_153 hI158 (Int32.toNatClampNeg (nI j158)) (iva_153 hI158 _ (lt_of_vp hx424))
                                        refine inc_11_10_1_i (pc := 192) dX9_findChains_192 ?_
                                        have r429 : inR ((nI j158) + 1) 1 20 := inR_add (show inR (nI j158) 0 19 from hr158) (show inR 1 1 1 from (inR_self _)) (by decide) (by decide)
                                        have e430 := ti_add (l := 1) (h := 20) (show inR (nI j158) 0 19 from hr158) (show inR 1 1 1 from (inR_self _)) (by decide) (by decide)
                                        refine R_goto (pc := 195) 158 dX9_findChains_195 (by decide) ?_
                                        rw [nI_1]
                                        exact ih158 (j158 + 1) _ (by omega) (by omega) hV428
                                      · skip
                                        refine R_iload (pc := 182) dX9_findChains_182 rfl ?_
                                        refine R_goto (pc := 184) 191 dX9_findChains_184 (by decide) ?_
                                        have hx431 : vp_in (nI j158) 20 := (vp_in_nI (by omega) (by decide))
                                        refine W_iastore (pc := 191) dX9_findChains_191 (c_153 _) hx431 (a_153 _ _) ?_
                                        have hV432 := sa_153 hI158 (Int32.toNatClampNeg (nI j158)) (iva_153 hV313 _ (lt_of_vp hx367))
                                        refine inc_11_10_1_i (pc := 192) dX9_findChains_192 ?_
                                        have r433 : inR ((nI j158) + 1) 1 20 := inR_add (show inR (nI j158) 0 19 from hr158) (show inR 1 1 1 from (inR_self _)) (by decide) (by decide)
                                        have e434 := ti_add (l := 1) (h := 20) (show inR (nI j158) 0 19 from hr158) (show inR 1 1 1 from (inR_self _)) (by decide) (by decide)
                                        refine R_goto (pc := 195) 158 dX9_findChains_195 (by decide) ?_
                                        rw [nI_1]
                                        exact ih158 (j158 + 1) _ (by omega) (by omega) hV432
                                exact HL158 20 0 _ (by omega) (by omega) hV313
                              · skip
                                refine R_aload_n (pc := 142) dX9_findChains_142 rfl rfl ?_
                                refine R_iload (pc := 143) dX9_findChains_143 rfl ?_
                                have hx435 : vp_in (nI j41) 20 := (vp_in_nI (by omega) (by decide))
                                refine R_iaload (pc := 145) dX9_findChains_145 (c_153 _) hx435 ?_
                                refine R_goto (pc := 146) 153 dX9_findChains_146 (by decide) ?_
                                refine st_11_9_i_i (pc := 153) dX9_findChains_153 ?_
                                refine R_iconst (pc := 155) (v := 0) dX9_findChains_155 (by decide) ?_
                                refine st_11_10_i_i (pc := 156) dX9_findChains_156 ?_
                                have HL158 : ∀ (q j158 : Nat) (σ158 : Sg), j158 + q = 20 → 0 ≤ j158 → Inv σ158 → R G l yX9_findChains cX9_findChains 11 none 3 0 0 (QV (fun w2 => ∃ σ2, w2 = WW σ2 ∧ Inv σ2)) 158 [(some (.ref 140)), (some (.ref 153)), (some (.int m)), (some (.int u)), (some (.int y1)), (some (.int (nI j31))), (some (.int (nI j41))), (some (.int 1)), (some (.int (σx314.2.2.1 153 (Int32.toNatClampNeg (nI j31))))), (some (.int (σx314.2.2.1 153 (Int32.toNatClampNeg (nI j41))))), (some (.int (nI j158)))] [] (WW σ158) 0 0 := by
                                  intro q
                                  induction q with
                                  | zero =>
                                    intro j158 σ158 hj hs158 hI158
                                    obtain rfl : j158 = 20 := by omega
                                    refine R_iload (pc := 158) dX9_findChains_158 rfl ?_
                                    refine R_iload (pc := 160) dX9_findChains_160 rfl ?_
                                    refine R_icge (pc := 162) 198 dX9_findChains_162 (by decide) (fun _ => ?_) (fun h => absurd (Int32.not_lt.mp (inR_up hr2 (Int32.le_refl _) (by decide)).2) h)
                                    refine inc_11_6_1_i (pc := 198) dX9_findChains_198 ?_
                                    have r437 : inR ((nI j41) + 1) 1 20 := inR_add (show inR (nI j41) 0 19 from hr41) (show inR 1 1 1 from (inR_self _)) (by decide) (by decide)
                                    have e438 := ti_add (l := 1) (h := 20) (show inR (nI j41) 0 19 from hr41) (show inR 1 1 1 from (inR_self _)) (by decide) (by decide)
                                    refine R_goto (pc := 201) 41 dX9_findChains_201 (by decide) ?_
                                    rw [nI_1]
                                    exact ih41 (j41 + 1) _ _ _ _ _ (by omega) (by omega) hI158
                                  | succ q ih158 =>
                                    intro j158 σ158 hj hs158 hI158
                                    have hr158 : inR (nI j158) 0 19 := inR_ix hs158 (show j158 < 20 by omega) (by decide) (by decide) (by decide)
                                    have hlt158 : j158 < 20 := by omega
                                    refine R_iload (pc := 158) dX9_findChains_158 rfl ?_
                                    refine R_iload (pc := 160) dX9_findChains_160 rfl ?_
                                    refine R_icge (pc := 162) 198 dX9_findChains_162 (by decide) (fun b162_439 => ?_) (fun b162_439 => ?_)
                                    · skip
                                      refine inc_11_6_1_i (pc := 198) dX9_findChains_198 ?_
                                      have r440 : inR ((nI j41) + 1) 1 20 := inR_add (show inR (nI j41) 0 19 from hr41) (show inR 1 1 1 from (inR_self _)) (by decide) (by decide)
                                      have e441 := ti_add (l := 1) (h := 20) (show inR (nI j41) 0 19 from hr41) (show inR 1 1 1 from (inR_self _)) (by decide) (by decide)
                                      refine R_goto (pc := 201) 41 dX9_findChains_201 (by decide) ?_
                                      rw [nI_1]
                                      exact ih41 (j41 + 1) _ _ _ _ _ (by omega) (by omega) hI158
                                    · skip
                                      refine R_iload (pc := 165) dX9_findChains_165 rfl ?_
                                      refine R_ifeq (pc := 167) 198 dX9_findChains_167 (by decide) (fun h => absurd h (by decide)) (fun _ => ?_)
                                      refine R_aload_n (pc := 170) dX9_findChains_170 rfl rfl ?_
                                      refine R_iload (pc := 171) dX9_findChains_171 rfl ?_
                                      refine R_aload_n (pc := 173) dX9_findChains_173 rfl rfl ?_
                                      refine R_iload (pc := 174) dX9_findChains_174 rfl ?_
                                      have hx443 : vp_in (nI j158) 20 := (vp_in_nI (by omega) (by decide))
                                      refine R_iaload (pc := 176) dX9_findChains_176 (c_153 _) hx443 ?_
                                      refine R_iload (pc := 177) dX9_findChains_177 rfl ?_
                                      refine R_icne (pc := 179) 187 dX9_findChains_179 (by decide) (fun b179_444 => ?_) (fun b179_444 => ?_)
                                      · skip
                                        refine R_aload_n (pc := 187) dX9_findChains_187 rfl rfl ?_
                                        refine R_iload (pc := 188) dX9_findChains_188 rfl ?_
                                        have hx445 : vp_in (nI j158) 20 := (vp_in_nI (by omega) (by decide))
                                        refine R_iaload (pc := 190) dX9_findChains_190 (c_153 _) hx445 ?_
                                        have hx446 : vp_in (nI j158) 20 := (vp_in_nI (by omega) (by decide))
                                        refine W_iastore (pc := 191) dX9_findChains_191 (c_153 _) hx446 (a_153 _ _) ?_
                                        have hV447 := sa_153 hI158 (Int32.toNatClampNeg (nI j158)) (iva_153 hI158 _ (lt_of_vp hx443))
                                        refine inc_11_10_1_i (pc := 192) dX9_findChains_192 ?_
                                        have r448 : inR ((nI j158) + 1) 1 20 := inR_add (show inR (nI j158) 0 19 from hr158) (show inR 1 1 1 from (inR_self _)) (by decide) (by decide)
                                        have e449 := ti_add (l := 1) (h := 20) (show inR (nI j158) 0 19 from hr158) (show inR 1 1 1 from (inR_self _)) (by decide) (by decide)
                                        refine R_goto (pc := 195) 158 dX9_findChains_195 (by decide) ?_
                                        rw [nI_1]
                                        exact ih158 (j158 + 1) _ (by omega) (by omega) hV447
                                      · skip
                                        refine R_iload (pc := 182) dX9_findChains_182 rfl ?_
                                        refine R_goto (pc := 184) 191 dX9_findChains_184 (by decide) ?_
                                        have hx450 : vp_in (nI j158) 20 := (vp_in_nI (by omega) (by decide))
                                        refine W_iastore (pc := 191) dX9_findChains_191 (c_153 _) hx450 (a_153 _ _) ?_
                                        have hV451 := sa_153 hI158 (Int32.toNatClampNeg (nI j158)) (iva_153 hV313 _ (lt_of_vp hx367))
                                        refine inc_11_10_1_i (pc := 192) dX9_findChains_192 ?_
                                        have r452 : inR ((nI j158) + 1) 1 20 := inR_add (show inR (nI j158) 0 19 from hr158) (show inR 1 1 1 from (inR_self _)) (by decide) (by decide)
                                        have e453 := ti_add (l := 1) (h := 20) (show inR (nI j158) 0 19 from hr158) (show inR 1 1 1 from (inR_self _)) (by decide) (by decide)
                                        refine R_goto (pc := 195) 158 dX9_findChains_195 (by decide) ?_
                                        rw [nI_1]
                                        exact ih158 (j158 + 1) _ (by omega) (by omega) hV451
                                exact HL158 20 0 _ (by omega) (by omega) hV313
            exact HL41 20 0 _ _ _ _ _ (by omega) (by omega) hI31
      exact HL31 20 0 _ _ _ _ _ _ (by omega) (by omega) hI9
    | succ q ih9 =>
      intro j9 σ9 hj hs9 hI9
      have hr9 : inR (nI j9) 0 19 := inR_ix hs9 (show j9 < 20 by omega) (by decide) (by decide) (by decide)
      have hlt9 : j9 < 20 := by omega
      refine R_iload (pc := 9) dX9_findChains_9 rfl ?_
      refine R_iload (pc := 11) dX9_findChains_11 rfl ?_
      refine R_icge (pc := 13) 28 dX9_findChains_13 (by decide) (fun b13_454 => ?_) (fun b13_454 => ?_)
      · skip
        refine R_iconst (pc := 28) (v := 0) dX9_findChains_28 (by decide) ?_
        refine st_11_5_i_i (pc := 29) dX9_findChains_29 ?_
        have HL31 : ∀ (q j31 : Nat) (σ31 : Sg) (g6_31 : Option Value) (g7_31 : Option Value) (g8_31 : Option Value) (g9_31 : Option Value) (g10_31 : Option Value), j31 + q = 20 → 0 ≤ j31 → Inv σ31 → R G l yX9_findChains cX9_findChains 11 none 3 0 0 (QV (fun w2 => ∃ σ2, w2 = WW σ2 ∧ Inv σ2)) 31 [(some (.ref 140)), (some (.ref 153)), (some (.int m)), (some (.int u)), (some (.int y1)), (some (.int (nI j31))), g6_31, g7_31, g8_31, g9_31, g10_31] [] (WW σ31) 0 0 := by
          intro q
          induction q with
          | zero =>
            intro j31 σ31 g6_31 g7_31 g8_31 g9_31 g10_31 hj hs31 hI31
            obtain rfl : j31 = 20 := by omega
            refine R_iload (pc := 31) dX9_findChains_31 rfl ?_
            refine R_iload (pc := 33) dX9_findChains_33 rfl ?_
            refine R_icge (pc := 35) 210 dX9_findChains_35 (by decide) (fun _ => ?_) (fun h => absurd (Int32.not_lt.mp (inR_up hr2 (Int32.le_refl _) (by decide)).2) h)
            exact R_vret (pc := 210) dX9_findChains_210 rfl (Nat.zero_le _) (Nat.zero_le _) ⟨rfl, _, rfl, hI31⟩
          | succ q ih31 =>
            intro j31 σ31 g6_31 g7_31 g8_31 g9_31 g10_31 hj hs31 hI31
            have hr31 : inR (nI j31) 0 19 := inR_ix hs31 (show j31 < 20 by omega) (by decide) (by decide) (by decide)
            have hlt31 : j31 < 20 := by omega
            refine R_iload (pc := 31) dX9_findChains_31 rfl ?_
            refine R_iload (pc := 33) dX9_findChains_33 rfl ?_
            refine R_icge (pc := 35) 210 dX9_findChains_35 (by decide) (fun b35_456 => ?_) (fun b35_456 => ?_)
            · skip
              exact R_vret (pc := 210) dX9_findChains_210 rfl (Nat.zero_le _) (Nat.zero_le _) ⟨rfl, _, rfl, hI31⟩
            · skip
              refine R_iconst (pc := 38) (v := 0) dX9_findChains_38 (by decide) ?_
              refine st_11_6_i_i (pc := 39) dX9_findChains_39 ?_
              have HL41 : ∀ (q j41 : Nat) (σ41 : Sg) (g7_41 : Option Value) (g8_41 : Option Value) (g9_41 : Option Value) (g10_41 : Option Value), j41 + q = 20 → 0 ≤ j41 → Inv σ41 → R G l yX9_findChains cX9_findChains 11 none 3 0 0 (QV (fun w2 => ∃ σ2, w2 = WW σ2 ∧ Inv σ2)) 41 [(some (.ref 140)), (some (.ref 153)), (some (.int m)), (some (.int u)), (some (.int y1)), (some (.int (nI j31))), (some (.int (nI j41))), g7_41, g8_41, g9_41, g10_41] [] (WW σ41) 0 0 := by
                intro q
                induction q with
                | zero =>
                  intro j41 σ41 g7_41 g8_41 g9_41 g10_41 hj hs41 hI41
                  obtain rfl : j41 = 20 := by omega
                  refine R_iload (pc := 41) dX9_findChains_41 rfl ?_
                  refine R_iload (pc := 43) dX9_findChains_43 rfl ?_
                  refine R_icge (pc := 45) 204 dX9_findChains_45 (by decide) (fun _ => ?_) (fun h => absurd (Int32.not_lt.mp (inR_up hr31 (Int32.le_refl _) (by decide)).2) h)
                  refine inc_11_5_1_i (pc := 204) dX9_findChains_204 ?_
                  have r458 : inR ((nI j31) + 1) 1 20 := inR_add (show inR (nI j31) 0 19 from hr31) (show inR 1 1 1 from (inR_self _)) (by decide) (by decide)
                  have e459 := ti_add (l := 1) (h := 20) (show inR (nI j31) 0 19 from hr31) (show inR 1 1 1 from (inR_self _)) (by decide) (by decide)
                  refine R_goto (pc := 207) 31 dX9_findChains_207 (by decide) ?_
                  rw [nI_1]
                  exact ih31 (j31 + 1) _ _ _ _ _ _ (by omega) (by omega) hI41
                | succ q ih41 =>
                  intro j41 σ41 g7_41 g8_41 g9_41 g10_41 hj hs41 hI41
                  have hr41 : inR (nI j41) 0 19 := inR_ix hs41 (show j41 < 20 by omega) (by decide) (by decide) (by decide)
                  have hlt41 : j41 < 20 := by omega
                  refine R_iload (pc := 41) dX9_findChains_41 rfl ?_
                  refine R_iload (pc := 43) dX9_findChains_43 rfl ?_
                  refine R_icge (pc := 45) 204 dX9_findChains_45 (by decide) (fun b45_460 => ?_) (fun b45_460 => ?_)
                  · skip
                    refine inc_11_5_1_i (pc := 204) dX9_findChains_204 ?_
                    have r461 : inR ((nI j31) + 1) 1 20 := inR_add (show inR (nI j31) 0 19 from hr31) (show inR 1 1 1 from (inR_self _)) (by decide) (by decide)
                    have e462 := ti_add (l := 1) (h := 20) (show inR (nI j31) 0 19 from hr31) (show inR 1 1 1 from (inR_self _)) (by decide) (by decide)
                    refine R_goto (pc := 207) 31 dX9_findChains_207 (by decide) ?_
                    rw [nI_1]
                    exact ih31 (j31 + 1) _ _ _ _ _ _ (by omega) (by omega) hI41
                  · skip
                    refine R_iload (pc := 48) dX9_findChains_48 rfl ?_
                    refine R_iload_n (pc := 50) dX9_findChains_50 rfl rfl ?_
                    refine R_iceq (pc := 51) 104 dX9_findChains_51 (by decide) (fun b51_463 => ?_) (fun b51_463 => ?_)
                    · skip
                      refine R_iconst (pc := 104) (v := 0) dX9_findChains_104 (by decide) ?_
                      refine st_11_7_i_i (pc := 105) dX9_findChains_105 ?_
                      refine R_aload_n (pc := 107) dX9_findChains_107 rfl rfl ?_
                      refine R_iload (pc := 108) dX9_findChains_108 rfl ?_
                      have hx464 : vp_in (nI j31) 20 := (vp_in_nI (by omega) (by decide))
                      refine R_iaload (pc := 110) dX9_findChains_110 (c_153 _) hx464 ?_
                      refine R_aload_n (pc := 111) dX9_findChains_111 rfl rfl ?_
                      refine R_iload (pc := 112) dX9_findChains_112 rfl ?_
                      have hx465 : vp_in (nI j41) 20 := (vp_in_nI (by omega) (by decide))
                      refine R_iaload (pc := 114) dX9_findChains_114 (c_153 _) hx465 ?_
                      refine R_icge (pc := 115) 125 dX9_findChains_115 (by decide) (fun b115_466 => ?_) (fun b115_466 => ?_)
                      · skip
                        refine R_aload_n (pc := 125) dX9_findChains_125 rfl rfl ?_
                        refine R_iload (pc := 126) dX9_findChains_126 rfl ?_
                        have hx467 : vp_in (nI j41) 20 := (vp_in_nI (by omega) (by decide))
                        refine R_iaload (pc := 128) dX9_findChains_128 (c_153 _) hx467 ?_
                        refine st_11_8_i_i (pc := 129) dX9_findChains_129 ?_
                        refine R_aload_n (pc := 131) dX9_findChains_131 rfl rfl ?_
                        refine R_iload (pc := 132) dX9_findChains_132 rfl ?_
                        have hx468 : vp_in (nI j31) 20 := (vp_in_nI (by omega) (by decide))
                        refine R_iaload (pc := 134) dX9_findChains_134 (c_153 _) hx468 ?_
                        refine R_aload_n (pc := 135) dX9_findChains_135 rfl rfl ?_
                        refine R_iload (pc := 136) dX9_findChains_136 rfl ?_
                        have hx469 : vp_in (nI j41) 20 := (vp_in_nI (by omega) (by decide))
                        refine R_iaload (pc := 138) dX9_findChains_138 (c_153 _) hx469 ?_
                        refine R_icge (pc := 139) 149 dX9_findChains_139 (by decide) (fun b139_470 => ?_) (fun b139_470 => ?_)
                        · skip
                          refine R_aload_n (pc := 149) dX9_findChains_149 rfl rfl ?_
                          refine R_iload (pc := 150) dX9_findChains_150 rfl ?_
                          have hx471 : vp_in (nI j31) 20 := (vp_in_nI (by omega) (by decide))
                          refine R_iaload (pc := 152) dX9_findChains_152 (c_153 _) hx471 ?_
                          refine st_11_9_i_i (pc := 153) dX9_findChains_153 ?_
                          refine R_iconst (pc := 155) (v := 0) dX9_findChains_155 (by decide) ?_
                          refine st_11_10_i_i (pc := 156) dX9_findChains_156 ?_
                          have HL158 : ∀ (q j158 : Nat) (σ158 : Sg), j158 + q = 20 → 0 ≤ j158 → Inv σ158 → R G l yX9_findChains cX9_findChains 11 none 3 0 0 (QV (fun w2 => ∃ σ2, w2 = WW σ2 ∧ Inv σ2)) 158 [(some (.ref 140)), (some (.ref 153)), (some (.int m)), (some (.int u)), (some (.int y1)), (some (.int (nI j31))), (some (.int (nI j41))), (some (.int 0)), (some (.int (σ41.2.2.1 153 (Int32.toNatClampNeg (nI j41))))), (some (.int (σ41.2.2.1 153 (Int32.toNatClampNeg (nI j31))))), (some (.int (nI j158)))] [] (WW σ158) 0 0 := by
                            intro q
                            induction q with
                            | zero =>
                              intro j158 σ158 hj hs158 hI158
                              obtain rfl : j158 = 20 := by omega
                              refine R_iload (pc := 158) dX9_findChains_158 rfl ?_
                              refine R_iload (pc := 160) dX9_findChains_160 rfl ?_
                              refine R_icge (pc := 162) 198 dX9_findChains_162 (by decide) (fun _ => ?_) (fun h => absurd (Int32.not_lt.mp (inR_up hr2 (Int32.le_refl _) (by decide)).2) h)
                              refine inc_11_6_1_i (pc := 198) dX9_findChains_198 ?_
                              have r473 : inR ((nI j41) + 1) 1 20 := inR_add (show inR (nI j41) 0 19 from hr41) (show inR 1 1 1 from (inR_self _)) (by decide) (by decide)
                              have e474 := ti_add (l := 1) (h := 20) (show inR (nI j41) 0 19 from hr41) (show inR 1 1 1 from (inR_self _)) (by decide) (by decide)
                              refine R_goto (pc := 201) 41 dX9_findChains_201 (by decide) ?_
                              rw [nI_1]
                              exact ih41 (j41 + 1) _ _ _ _ _ (by omega) (by omega) hI158
                            | succ q ih158 =>
                              intro j158 σ158 hj hs158 hI158
                              have hr158 : inR (nI j158) 0 19 := inR_ix hs158 (show j158 < 20 by omega) (by decide) (by decide) (by decide)
                              have hlt158 : j158 < 20 := by omega
                              refine R_iload (pc := 158) dX9_findChains_158 rfl ?_
                              refine R_iload (pc := 160) dX9_findChains_160 rfl ?_
                              refine R_icge (pc := 162) 198 dX9_findChains_162 (by decide) (fun b162_475 => ?_) (fun b162_475 => ?_)
                              · skip
                                refine inc_11_6_1_i (pc := 198) dX9_findChains_198 ?_
                                have r476 : inR ((nI j41) + 1) 1 20 := inR_add (show inR (nI j41) 0 19 from hr41) (show inR 1 1 1 from (inR_self _)) (by decide) (by decide)
                                have e477 := ti_add (l := 1) (h := 20) (show inR (nI j41) 0 19 from hr41) (show inR 1 1 1 from (inR_self _)) (by decide) (by decide)
                                refine R_goto (pc := 201) 41 dX9_findChains_201 (by decide) ?_
                                rw [nI_1]
                                exact ih41 (j41 + 1) _ _ _ _ _ (by omega) (by omega) hI158
                              · skip
                                refine R_iload (pc := 165) dX9_findChains_165 rfl ?_
                                refine R_ifeq (pc := 167) 198 dX9_findChains_167 (by decide) (fun _ => ?_) (fun h => absurd (by decide) h)
                                refine inc_11_6_1_i (pc := 198) dX9_findChains_198 ?_
                                have r479 : inR ((nI j41) + 1) 1 20 := inR_add (show inR (nI j41) 0 19 from hr41) (show inR 1 1 1 from (inR_self _)) (by decide) (by decide)
                                have e480 := ti_add (l := 1) (h := 20) (show inR (nI j41) 0 19 from hr41) (show inR 1 1 1 from (inR_self _)) (by decide) (by decide)
                                refine R_goto (pc := 201) 41 dX9_findChains_201 (by decide) ?_
                                rw [nI_1]
                                exact ih41 (j41 + 1) _ _ _ _ _ (by omega) (by omega) hI158
                          exact HL158 20 0 _ (by omega) (by omega) hI41
                        · skip
                          refine R_aload_n (pc := 142) dX9_findChains_142 rfl rfl ?_
                          refine R_iload (pc := 143) dX9_findChains_143 rfl ?_
                          have hx481 : vp_in (nI j41) 20 := (vp_in_nI (by omega) (by decide))
                          refine R_iaload (pc := 145) dX9_findChains_145 (c_153 _) hx481 ?_
                          refine R_goto (pc := 146) 153 dX9_findChains_146 (by decide) ?_
                          refine st_11_9_i_i (pc := 153) dX9_findChains_153 ?_
                          refine R_iconst (pc := 155) (v := 0) dX9_findChains_155 (by decide) ?_
                          refine st_11_10_i_i (pc := 156) dX9_findChains_156 ?_
                          have HL158 : ∀ (q j158 : Nat) (σ158 : Sg), j158 + q = 20 → 0 ≤ j158 → Inv σ158 → R G l yX9_findChains cX9_findChains 11 none 3 0 0 (QV (fun w2 => ∃ σ2, w2 = WW σ2 ∧ Inv σ2)) 158 [(some (.ref 140)), (some (.ref 153)), (some (.int m)), (some (.int u)), (some (.int y1)), (some (.int (nI j31))), (some (.int (nI j41))), (some (.int 0)), (some (.int (σ41.2.2.1 153 (Int32.toNatClampNeg (nI j41))))), (some (.int (σ41.2.2.1 153 (Int32.toNatClampNeg (nI j41))))), (some (.int (nI j158)))] [] (WW σ158) 0 0 := by
                            intro q
                            induction q with
                            | zero =>
                              intro j158 σ158 hj hs158 hI158
                              obtain rfl : j158 = 20 := by omega
                              refine R_iload (pc := 158) dX9_findChains_158 rfl ?_
                              refine R_iload (pc := 160) dX9_findChains_160 rfl ?_
                              refine R_icge (pc := 162) 198 dX9_findChains_162 (by decide) (fun _ => ?_) (fun h => absurd (Int32.not_lt.mp (inR_up hr2 (Int32.le_refl _) (by decide)).2) h)
                              refine inc_11_6_1_i (pc := 198) dX9_findChains_198 ?_
                              have r483 : inR ((nI j41) + 1) 1 20 := inR_add (show inR (nI j41) 0 19 from hr41) (show inR 1 1 1 from (inR_self _)) (by decide) (by decide)
                              have e484 := ti_add (l := 1) (h := 20) (show inR (nI j41) 0 19 from hr41) (show inR 1 1 1 from (inR_self _)) (by decide) (by decide)
                              refine R_goto (pc := 201) 41 dX9_findChains_201 (by decide) ?_
                              rw [nI_1]
                              exact ih41 (j41 + 1) _ _ _ _ _ (by omega) (by omega) hI158
                            | succ q ih158 =>
                              intro j158 σ158 hj hs158 hI158
                              have hr158 : inR (nI j158) 0 19 := inR_ix hs158 (show j158 < 20 by omega) (by decide) (by decide) (by decide)
                              have hlt158 : j158 < 20 := by omega
                              refine R_iload (pc := 158) dX9_findChains_158 rfl ?_
                              refine R_iload (pc := 160) dX9_findChains_160 rfl ?_
                              refine R_icge (pc := 162) 198 dX9_findChains_162 (by decide) (fun b162_485 => ?_) (fun b162_485 => ?_)
                              · skip
                                refine inc_11_6_1_i (pc := 198) dX9_findChains_198 ?_
                                have r486 : inR ((nI j41) + 1) 1 20 := inR_add (show inR (nI j41) 0 19 from hr41) (show inR 1 1 1 from (inR_self _)) (by decide) (by decide)
                                have e487 := ti_add (l := 1) (h := 20) (show inR (nI j41) 0 19 from hr41) (show inR 1 1 1 from (inR_self _)) (by decide) (by decide)
                                refine R_goto (pc := 201) 41 dX9_findChains_201 (by decide) ?_
                                rw [nI_1]
                                exact ih41 (j41 + 1) _ _ _ _ _ (by omega) (by omega) hI158
                              · skip
                                refine R_iload (pc := 165) dX9_findChains_165 rfl ?_
                                refine R_ifeq (pc := 167) 198 dX9_findChains_167 (by decide) (fun _ => ?_) (fun h => absurd (by decide) h)
                                refine inc_11_6_1_i (pc := 198) dX9_findChains_198 ?_
                                have r489 : inR ((nI j41) + 1) 1 20 := inR_add (show inR (nI j41) 0 19 from hr41) (show inR 1 1 1 from (inR_self _)) (by decide) (by decide)
                                have e490 := ti_add (l := 1) (h := 20) (show inR (nI j41) 0 19 from hr41) (show inR 1 1 1 from (inR_self _)) (by decide) (by decide)
                                refine R_goto (pc := 201) 41 dX9_findChains_201 (by decide) ?_
                                rw [nI_1]
                                exact ih41 (j41 + 1) _ _ _ _ _ (by omega) (by omega) hI158
                          exact HL158 20 0 _ (by omega) (by omega) hI41
                      · skip
                        refine R_aload_n (pc := 118) dX9_findChains_118 rfl rfl ?_
                        refine R_iload (pc := 119) dX9_findChains_119 rfl ?_
                        have hx491 : vp_in (nI j31) 20 := (vp_in_nI (by omega) (by decide))
                        refine R_iaload (pc := 121) dX9_findChains_121 (c_153 _) hx491 ?_
                        refine R_goto (pc := 122) 129 dX9_findChains_122 (by decide) ?_
                        refine st_11_8_i_i (pc := 129) dX9_findChains_129 ?_
                        refine R_aload_n (pc := 131) dX9_findChains_131 rfl rfl ?_
                        refine R_iload (pc := 132) dX9_findChains_132 rfl ?_
                        have hx492 : vp_in (nI j31) 20 := (vp_in_nI (by omega) (by decide))
                        refine R_iaload (pc := 134) dX9_findChains_134 (c_153 _) hx492 ?_
                        refine R_aload_n (pc := 135) dX9_findChains_135 rfl rfl ?_
                        refine R_iload (pc := 136) dX9_findChains_136 rfl ?_
                        have hx493 : vp_in (nI j41) 20 := (vp_in_nI (by omega) (by decide))
                        refine R_iaload (pc := 138) dX9_findChains_138 (c_153 _) hx493 ?_
                        refine R_icge (pc := 139) 149 dX9_findChains_139 (by decide) (fun b139_494 => ?_) (fun b139_494 => ?_)
                        · skip
                          refine R_aload_n (pc := 149) dX9_findChains_149 rfl rfl ?_
                          refine R_iload (pc := 150) dX9_findChains_150 rfl ?_
                          have hx495 : vp_in (nI j31) 20 := (vp_in_nI (by omega) (by decide))
                          refine R_iaload (pc := 152) dX9_findChains_152 (c_153 _) hx495 ?_
                          refine st_11_9_i_i (pc := 153) dX9_findChains_153 ?_
                          refine R_iconst (pc := 155) (v := 0) dX9_findChains_155 (by decide) ?_
                          refine st_11_10_i_i (pc := 156) dX9_findChains_156 ?_
                          have HL158 : ∀ (q j158 : Nat) (σ158 : Sg), j158 + q = 20 → 0 ≤ j158 → Inv σ158 → R G l yX9_findChains cX9_findChains 11 none 3 0 0 (QV (fun w2 => ∃ σ2, w2 = WW σ2 ∧ Inv σ2)) 158 [(some (.ref 140)), (some (.ref 153)), (some (.int m)), (some (.int u)), (some (.int y1)), (some (.int (nI j31))), (some (.int (nI j41))), (some (.int 0)), (some (.int (σ41.2.2.1 153 (Int32.toNatClampNeg (nI j31))))), (some (.int (σ41.2.2.1 153 (Int32.toNatClampNeg (nI j31))))), (some (.int (nI j158)))] [] (WW σ158) 0 0 := by
                            intro q
                            induction q with
                            | zero =>
                              intro j158 σ158 hj hs158 hI158
                              obtain rfl : j158 = 20 := by omega
                              refine R_iload (pc := 158) dX9_findChains_158 rfl ?_
                              refine R_iload (pc := 160) dX9_findChains_160 rfl ?_
                              refine R_icge (pc := 162) 198 dX9_findChains_162 (by decide) (fun _ => ?_) (fun h => absurd (Int32.not_lt.mp (inR_up hr2 (Int32.le_refl _) (by decide)).2) h)
                              refine inc_11_6_1_i (pc := 198) dX9_findChains_198 ?_
                              have r497 : inR ((nI j41) + 1) 1 20 := inR_add (show inR (nI j41) 0 19 from hr41) (show inR 1 1 1 from (inR_self _)) (by decide) (by decide)
                              have e498 := ti_add (l := 1) (h := 20) (show inR (nI j41) 0 19 from hr41) (show inR 1 1 1 from (inR_self _)) (by decide) (by decide)
                              refine R_goto (pc := 201) 41 dX9_findChains_201 (by decide) ?_
                              rw [nI_1]
                              exact ih41 (j41 + 1) _ _ _ _ _ (by omega) (by omega) hI158
                            | succ q ih158 =>
                              intro j158 σ158 hj hs158 hI158
                              have hr158 : inR (nI j158) 0 19 := inR_ix hs158 (show j158 < 20 by omega) (by decide) (by decide) (by decide)
                              have hlt158 : j158 < 20 := by omega
                              refine R_iload (pc := 158) dX9_findChains_158 rfl ?_
                              refine R_iload (pc := 160) dX9_findChains_160 rfl ?_
                              refine R_icge (pc := 162) 198 dX9_findChains_162 (by decide) (fun b162_499 => ?_) (fun b162_499 => ?_)
                              · skip
                                refine inc_11_6_1_i (pc := 198) dX9_findChains_198 ?_
                                have r500 : inR ((nI j41) + 1) 1 20 := inR_add (show inR (nI j41) 0 19 from hr41) (show inR 1 1 1 from (inR_self _)) (by decide) (by decide)
                                have e501 := ti_add (l := 1) (h := 20) (show inR (nI j41) 0 19 from hr41) (show inR 1 1 1 from (inR_self _)) (by decide) (by decide)
                                refine R_goto (pc := 201) 41 dX9_findChains_201 (by decide) ?_
                                rw [nI_1]
                                exact ih41 (j41 + 1) _ _ _ _ _ (by omega) (by omega) hI158
                              · skip
                                refine R_iload (pc := 165) dX9_findChains_165 rfl ?_
                                refine R_ifeq (pc := 167) 198 dX9_findChains_167 (by decide) (fun _ => ?_) (fun h => absurd (by decide) h)
                                refine inc_11_6_1_i (pc := 198) dX9_findChains_198 ?_
                                have r503 : inR ((nI j41) + 1) 1 20 := inR_add (show inR (nI j41) 0 19 from hr41) (show inR 1 1 1 from (inR_self _)) (by decide) (by decide)
                                have e504 := ti_add (l := 1) (h := 20) (show inR (nI j41) 0 19 from hr41) (show inR 1 1 1 from (inR_self _)) (by decide) (by decide)
                                refine R_goto (pc := 201) 41 dX9_findChains_201 (by decide) ?_
                                rw [nI_1]
                                exact ih41 (j41 + 1) _ _ _ _ _ (by omega) (by omega) hI158
                          exact HL158 20 0 _ (by omega) (by omega) hI41
                        · skip
                          refine R_aload_n (pc := 142) dX9_findChains_142 rfl rfl ?_
                          refine R_iload (pc := 143) dX9_findChains_143 rfl ?_
                          have hx505 : vp_in (nI j41) 20 := (vp_in_nI (by omega) (by decide))
                          refine R_iaload (pc := 145) dX9_findChains_145 (c_153 _) hx505 ?_
                          refine R_goto (pc := 146) 153 dX9_findChains_146 (by decide) ?_
                          refine st_11_9_i_i (pc := 153) dX9_findChains_153 ?_
                          refine R_iconst (pc := 155) (v := 0) dX9_findChains_155 (by decide) ?_
                          refine st_11_10_i_i (pc := 156) dX9_findChains_156 ?_
                          have HL158 : ∀ (q j158 : Nat) (σ158 : Sg), j158 + q = 20 → 0 ≤ j158 → Inv σ158 → R G l yX9_findChains cX9_findChains 11 none 3 0 0 (QV (fun w2 => ∃ σ2, w2 = WW σ2 ∧ Inv σ2)) 158 [(some (.ref 140)), (some (.ref 153)), (some (.int m)), (some (.int u)), (some (.int y1)), (some (.int (nI j31))), (some (.int (nI j41))), (some (.int 0)), (some (.int (σ41.2.2.1 153 (Int32.toNatClampNeg (nI j31))))), (some (.int (σ41.2.2.1 153 (Int32.toNatClampNeg (nI j41))))), (some (.int (nI j158)))] [] (WW σ158) 0 0 := by
                            intro q
                            induction q with
                            | zero =>
                              intro j158 σ158 hj hs158 hI158
                              obtain rfl : j158 = 20 := by omega
                              refine R_iload (pc := 158) dX9_findChains_158 rfl ?_
                              refine R_iload (pc := 160) dX9_findChains_160 rfl ?_
                              refine R_icge (pc := 162) 198 dX9_findChains_162 (by decide) (fun _ => ?_) (fun h => absurd (Int32.not_lt.mp (inR_up hr2 (Int32.le_refl _) (by decide)).2) h)
                              refine inc_11_6_1_i (pc := 198) dX9_findChains_198 ?_
                              have r507 : inR ((nI j41) + 1) 1 20 := inR_add (show inR (nI j41) 0 19 from hr41) (show inR 1 1 1 from (inR_self _)) (by decide) (by decide)
                              have e508 := ti_add (l := 1) (h := 20) (show inR (nI j41) 0 19 from hr41) (show inR 1 1 1 from (inR_self _)) (by decide) (by decide)
                              refine R_goto (pc := 201) 41 dX9_findChains_201 (by decide) ?_
                              rw [nI_1]
                              exact ih41 (j41 + 1) _ _ _ _ _ (by omega) (by omega) hI158
                            | succ q ih158 =>
                              intro j158 σ158 hj hs158 hI158
                              have hr158 : inR (nI j158) 0 19 := inR_ix hs158 (show j158 < 20 by omega) (by decide) (by decide) (by decide)
                              have hlt158 : j158 < 20 := by omega
                              refine R_iload (pc := 158) dX9_findChains_158 rfl ?_
                              refine R_iload (pc := 160) dX9_findChains_160 rfl ?_
                              refine R_icge (pc := 162) 198 dX9_findChains_162 (by decide) (fun b162_509 => ?_) (fun b162_509 => ?_)
                              · skip
                                refine inc_11_6_1_i (pc := 198) dX9_findChains_198 ?_
                                have r510 : inR ((nI j41) + 1) 1 20 := inR_add (show inR (nI j41) 0 19 from hr41) (show inR 1 1 1 from (inR_self _)) (by decide) (by decide)
                                have e511 := ti_add (l := 1) (h := 20) (show inR (nI j41) 0 19 from hr41) (show inR 1 1 1 from (inR_self _)) (by decide) (by decide)
                                refine R_goto (pc := 201) 41 dX9_findChains_201 (by decide) ?_
                                rw [nI_1]
                                exact ih41 (j41 + 1) _ _ _ _ _ (by omega) (by omega) hI158
                              · skip
                                refine R_iload (pc := 165) dX9_findChains_165 rfl ?_
                                refine R_ifeq (pc := 167) 198 dX9_findChains_167 (by decide) (fun _ => ?_) (fun h => absurd (by decide) h)
                                refine inc_11_6_1_i (pc := 198) dX9_findChains_198 ?_
                                have r513 : inR ((nI j41) + 1) 1 20 := inR_add (show inR (nI j41) 0 19 from hr41) (show inR 1 1 1 from (inR_self _)) (by decide) (by decide)
                                have e514 := ti_add (l := 1) (h := 20) (show inR (nI j41) 0 19 from hr41) (show inR 1 1 1 from (inR_self _)) (by decide) (by decide)
                                refine R_goto (pc := 201) 41 dX9_findChains_201 (by decide) ?_
                                rw [nI_1]
                                exact ih41 (j41 + 1) _ _ _ _ _ (by omega) (by omega) hI158
                          exact HL158 20 0 _ (by omega) (by omega) hI41
                    · skip
                      refine R_iload (pc := 54) dX9_findChains_54 rfl ?_
                      refine R_iload_n (pc := 56) dX9_findChains_56 rfl rfl ?_
                      refine R_iceq (pc := 57) 104 dX9_findChains_57 (by decide) (fun b57_515 => ?_) (fun b57_515 => ?_)
                      · skip
                        refine R_iconst (pc := 104) (v := 0) dX9_findChains_104 (by decide) ?_
                        refine st_11_7_i_i (pc := 105) dX9_findChains_105 ?_
                        refine R_aload_n (pc := 107) dX9_findChains_107 rfl rfl ?_
                        refine R_iload (pc := 108) dX9_findChains_108 rfl ?_
                        have hx516 : vp_in (nI j31) 20 := (vp_in_nI (by omega) (by decide))
                        refine R_iaload (pc := 110) dX9_findChains_110 (c_153 _) hx516 ?_
                        refine R_aload_n (pc := 111) dX9_findChains_111 rfl rfl ?_
                        refine R_iload (pc := 112) dX9_findChains_112 rfl ?_
                        have hx517 : vp_in (nI j41) 20 := (vp_in_nI (by omega) (by decide))
                        refine R_iaload (pc := 114) dX9_findChains_114 (c_153 _) hx517 ?_
                        refine R_icge (pc := 115) 125 dX9_findChains_115 (by decide) (fun b115_518 => ?_) (fun b115_518 => ?_)
                        · skip
                          refine R_aload_n (pc := 125) dX9_findChains_125 rfl rfl ?_
                          refine R_iload (pc := 126) dX9_findChains_126 rfl ?_
                          have hx519 : vp_in (nI j41) 20 := (vp_in_nI (by omega) (by decide))
                          refine R_iaload (pc := 128) dX9_findChains_128 (c_153 _) hx519 ?_
                          refine st_11_8_i_i (pc := 129) dX9_findChains_129 ?_
                          refine R_aload_n (pc := 131) dX9_findChains_131 rfl rfl ?_
                          refine R_iload (pc := 132) dX9_findChains_132 rfl ?_
                          have hx520 : vp_in (nI j31) 20 := (vp_in_nI (by omega) (by decide))
                          refine R_iaload (pc := 134) dX9_findChains_134 (c_153 _) hx520 ?_
                          refine R_aload_n (pc := 135) dX9_findChains_135 rfl rfl ?_
                          refine R_iload (pc := 136) dX9_findChains_136 rfl ?_
                          have hx521 : vp_in (nI j41) 20 := (vp_in_nI (by omega) (by decide))
                          refine R_iaload (pc := 138) dX9_findChains_138 (c_153 _) hx521 ?_
                          refine R_icge (pc := 139) 149 dX9_findChains_139 (by decide) (fun b139_522 => ?_) (fun b139_522 => ?_)
                          · skip
                            refine R_aload_n (pc := 149) dX9_findChains_149 rfl rfl ?_
                            refine R_iload (pc := 150) dX9_findChains_150 rfl ?_
                            have hx523 : vp_in (nI j31) 20 := (vp_in_nI (by omega) (by decide))
                            refine R_iaload (pc := 152) dX9_findChains_152 (c_153 _) hx523 ?_
                            refine st_11_9_i_i (pc := 153) dX9_findChains_153 ?_
                            refine R_iconst (pc := 155) (v := 0) dX9_findChains_155 (by decide) ?_
                            refine st_11_10_i_i (pc := 156) dX9_findChains_156 ?_
                            have HL158 : ∀ (q j158 : Nat) (σ158 : Sg), j158 + q = 20 → 0 ≤ j158 → Inv σ158 → R G l yX9_findChains cX9_findChains 11 none 3 0 0 (QV (fun w2 => ∃ σ2, w2 = WW σ2 ∧ Inv σ2)) 158 [(some (.ref 140)), (some (.ref 153)), (some (.int m)), (some (.int u)), (some (.int y1)), (some (.int (nI j31))), (some (.int (nI j41))), (some (.int 0)), (some (.int (σ41.2.2.1 153 (Int32.toNatClampNeg (nI j41))))), (some (.int (σ41.2.2.1 153 (Int32.toNatClampNeg (nI j31))))), (some (.int (nI j158)))] [] (WW σ158) 0 0 := by
                              intro q
                              induction q with
                              | zero =>
                                intro j158 σ158 hj hs158 hI158
                                obtain rfl : j158 = 20 := by omega
                                refine R_iload (pc := 158) dX9_findChains_158 rfl ?_
                                refine R_iload (pc := 160) dX9_findChains_160 rfl ?_
                                refine R_icge (pc := 162) 198 dX9_findChains_162 (by decide) (fun _ => ?_) (fun h => absurd (Int32.not_lt.mp (inR_up hr2 (Int32.le_refl _) (by decide)).2) h)
                                refine inc_11_6_1_i (pc := 198) dX9_findChains_198 ?_
                                have r525 : inR ((nI j41) + 1) 1 20 := inR_add (show inR (nI j41) 0 19 from hr41) (show inR 1 1 1 from (inR_self _)) (by decide) (by decide)
                                have e526 := ti_add (l := 1) (h := 20) (show inR (nI j41) 0 19 from hr41) (show inR 1 1 1 from (inR_self _)) (by decide) (by decide)
                                refine R_goto (pc := 201) 41 dX9_findChains_201 (by decide) ?_
                                rw [nI_1]
                                exact ih41 (j41 + 1) _ _ _ _ _ (by omega) (by omega) hI158
                              | succ q ih158 =>
                                intro j158 σ158 hj hs158 hI158
                                have hr158 : inR (nI j158) 0 19 := inR_ix hs158 (show j158 < 20 by omega) (by decide) (by decide) (by decide)
                                have hlt158 : j158 < 20 := by omega
                                refine R_iload (pc := 158) dX9_findChains_158 rfl ?_
                                refine R_iload (pc := 160) dX9_findChains_160 rfl ?_
                                refine R_icge (pc := 162) 198 dX9_findChains_162 (by decide) (fun b162_527 => ?_) (fun b162_527 => ?_)
                                · skip
                                  refine inc_11_6_1_i (pc := 198) dX9_findChains_198 ?_
                                  have r528 : inR ((nI j41) + 1) 1 20 := inR_add (show inR (nI j41) 0 19 from hr41) (show inR 1 1 1 from (inR_self _)) (by decide) (by decide)
                                  have e529 := ti_add (l := 1) (h := 20) (show inR (nI j41) 0 19 from hr41) (show inR 1 1 1 from (inR_self _)) (by decide) (by decide)
                                  refine R_goto (pc := 201) 41 dX9_findChains_201 (by decide) ?_
                                  rw [nI_1]
                                  exact ih41 (j41 + 1) _ _ _ _ _ (by omega) (by omega) hI158
                                · skip
                                  refine R_iload (pc := 165) dX9_findChains_165 rfl ?_
                                  refine R_ifeq (pc := 167) 198 dX9_findChains_167 (by decide) (fun _ => ?_) (fun h => absurd (by decide) h)
                                  refine inc_11_6_1_i (pc := 198) dX9_findChains_198 ?_
                                  have r531 : inR ((nI j41) + 1) 1 20 := inR_add (show inR (nI j41) 0 19 from hr41) (show inR 1 1 1 from (inR_self _)) (by decide) (by decide)
                                  have e532 := ti_add (l := 1) (h := 20) (show inR (nI j41) 0 19 from hr41) (show inR 1 1 1 from (inR_self _)) (by decide) (by decide)
                                  refine R_goto (pc := 201) 41 dX9_findChains_201 (by decide) ?_
                                  rw [nI_1]
                                  exact ih41 (j41 + 1) _ _ _ _ _ (by omega) (by omega) hI158
                            exact HL158 20 0 _ (by omega) (by omega) hI41
                          · skip
                            refine R_aload_n (pc := 142) dX9_findChains_142 rfl rfl ?_
                            refine R_iload (pc := 143) dX9_findChains_143 rfl ?_
                            have hx533 : vp_in (nI j41) 20 := (vp_in_nI (by omega) (by decide))
                            refine R_iaload (pc := 145) dX9_findChains_145 (c_153 _) hx533 ?_
                            refine R_goto (pc := 146) 153 dX9_findChains_146 (by decide) ?_
                            refine st_11_9_i_i (pc := 153) dX9_findChains_153 ?_
                            refine R_iconst (pc := 155) (v := 0) dX9_findChains_155 (by decide) ?_
                            refine st_11_10_i_i (pc := 156) dX9_findChains_156 ?_
                            have HL158 : ∀ (q j158 : Nat) (σ158 : Sg), j158 + q = 20 → 0 ≤ j158 → Inv σ158 → R G l yX9_findChains cX9_findChains 11 none 3 0 0 (QV (fun w2 => ∃ σ2, w2 = WW σ2 ∧ Inv σ2)) 158 [(some (.ref 140)), (some (.ref 153)), (some (.int m)), (some (.int u)), (some (.int y1)), (some (.int (nI j31))), (some (.int (nI j41))), (some (.int 0)), (some (.int (σ41.2.2.1 153 (Int32.toNatClampNeg (nI j41))))), (some (.int (σ41.2.2.1 153 (Int32.toNatClampNeg (nI j41))))), (some (.int (nI j158)))] [] (WW σ158) 0 0 := by
                              intro q
                              induction q with
                              | zero =>
                                intro j158 σ158 hj hs158 hI158
                                obtain rfl : j158 = 20 := by omega
                                refine R_iload (pc := 158) dX9_findChains_158 rfl ?_
                                refine R_iload (pc := 160) dX9_findChains_160 rfl ?_
                                refine R_icge (pc := 162) 198 dX9_findChains_162 (by decide) (fun _ => ?_) (fun h => absurd (Int32.not_lt.mp (inR_up hr2 (Int32.le_refl _) (by decide)).2) h)
                                refine inc_11_6_1_i (pc := 198) dX9_findChains_198 ?_
                                have r535 : inR ((nI j41) + 1) 1 20 := inR_add (show inR (nI j41) 0 19 from hr41) (show inR 1 1 1 from (inR_self _)) (by decide) (by decide)
                                have e536 := ti_add (l := 1) (h := 20) (show inR (nI j41) 0 19 from hr41) (show inR 1 1 1 from (inR_self _)) (by decide) (by decide)
                                refine R_goto (pc := 201) 41 dX9_findChains_201 (by decide) ?_
                                rw [nI_1]
                                exact ih41 (j41 + 1) _ _ _ _ _ (by omega) (by omega) hI158
                              | succ q ih158 =>
                                intro j158 σ158 hj hs158 hI158
                                have hr158 : inR (nI j158) 0 19 := inR_ix hs158 (show j158 < 20 by omega) (by decide) (by decide) (by decide)
                                have hlt158 : j158 < 20 := by omega
                                refine R_iload (pc := 158) dX9_findChains_158 rfl ?_
                                refine R_iload (pc := 160) dX9_findChains_160 rfl ?_
                                refine R_icge (pc := 162) 198 dX9_findChains_162 (by decide) (fun b162_537 => ?_) (fun b162_537 => ?_)
                                · skip
                                  refine inc_11_6_1_i (pc := 198) dX9_findChains_198 ?_
                                  have r538 : inR ((nI j41) + 1) 1 20 := inR_add (show inR (nI j41) 0 19 from hr41) (show inR 1 1 1 from (inR_self _)) (by decide) (by decide)
                                  have e539 := ti_add (l := 1) (h := 20) (show inR (nI j41) 0 19 from hr41) (show inR 1 1 1 from (inR_self _)) (by decide) (by decide)
                                  refine R_goto (pc := 201) 41 dX9_findChains_201 (by decide) ?_
                                  rw [nI_1]
                                  exact ih41 (j41 + 1) _ _ _ _ _ (by omega) (by omega) hI158
                                · skip
                                  refine R_iload (pc := 165) dX9_findChains_165 rfl ?_
                                  refine R_ifeq (pc := 167) 198 dX9_findChains_167 (by decide) (fun _ => ?_) (fun h => absurd (by decide) h)
                                  refine inc_11_6_1_i (pc := 198) dX9_findChains_198 ?_
                                  have r541 : inR ((nI j41) + 1) 1 20 := inR_add (show inR (nI j41) 0 19 from hr41) (show inR 1 1 1 from (inR_self _)) (by decide) (by decide)
                                  have e542 := ti_add (l := 1) (h := 20) (show inR (nI j41) 0 19 from hr41) (show inR 1 1 1 from (inR_self _)) (by decide) (by decide)
                                  refine R_goto (pc := 201) 41 dX9_findChains_201 (by decide) ?_
                                  rw [nI_1]
                                  exact ih41 (j41 + 1) _ _ _ _ _ (by omega) (by omega) hI158
                            exact HL158 20 0 _ (by omega) (by omega) hI41
                        · skip
                          refine R_aload_n (pc := 118) dX9_findChains_118 rfl rfl ?_
                          refine R_iload (pc := 119) dX9_findChains_119 rfl ?_
                          have hx543 : vp_in (nI j31) 20 := (vp_in_nI (by omega) (by decide))
                          refine R_iaload (pc := 121) dX9_findChains_121 (c_153 _) hx543 ?_
                          refine R_goto (pc := 122) 129 dX9_findChains_122 (by decide) ?_
                          refine st_11_8_i_i (pc := 129) dX9_findChains_129 ?_
                          refine R_aload_n (pc := 131) dX9_findChains_131 rfl rfl ?_
                          refine R_iload (pc := 132) dX9_findChains_132 rfl ?_
                          have hx544 : vp_in (nI j31) 20 := (vp_in_nI (by omega) (by decide))
                          refine R_iaload (pc := 134) dX9_findChains_134 (c_153 _) hx544 ?_
                          refine R_aload_n (pc := 135) dX9_findChains_135 rfl rfl ?_
                          refine R_iload (pc := 136) dX9_findChains_136 rfl ?_
                          have hx545 : vp_in (nI j41) 20 := (vp_in_nI (by omega) (by decide))
                          refine R_iaload (pc := 138) dX9_findChains_138 (c_153 _) hx545 ?_
                          refine R_icge (pc := 139) 149 dX9_findChains_139 (by decide) (fun b139_546 => ?_) (fun b139_546 => ?_)
                          · skip
                            refine R_aload_n (pc := 149) dX9_findChains_149 rfl rfl ?_
                            refine R_iload (pc := 150) dX9_findChains_150 rfl ?_
                            have hx547 : vp_in (nI j31) 20 := (vp_in_nI (by omega) (by decide))
                            refine R_iaload (pc := 152) dX9_findChains_152 (c_153 _) hx547 ?_
                            refine st_11_9_i_i (pc := 153) dX9_findChains_153 ?_
                            refine R_iconst (pc := 155) (v := 0) dX9_findChains_155 (by decide) ?_
                            refine st_11_10_i_i (pc := 156) dX9_findChains_156 ?_
                            have HL158 : ∀ (q j158 : Nat) (σ158 : Sg), j158 + q = 20 → 0 ≤ j158 → Inv σ158 → R G l yX9_findChains cX9_findChains 11 none 3 0 0 (QV (fun w2 => ∃ σ2, w2 = WW σ2 ∧ Inv σ2)) 158 [(some (.ref 140)), (some (.ref 153)), (some (.int m)), (some (.int u)), (some (.int y1)), (some (.int (nI j31))), (some (.int (nI j41))), (some (.int 0)), (some (.int (σ41.2.2.1 153 (Int32.toNatClampNeg (nI j31))))), (some (.int (σ41.2.2.1 153 (Int32.toNatClampNeg (nI j31))))), (some (.int (nI j158)))] [] (WW σ158) 0 0 := by
                              intro q
                              induction q with
                              | zero =>
                                intro j158 σ158 hj hs158 hI158
                                obtain rfl : j158 = 20 := by omega
                                refine R_iload (pc := 158) dX9_findChains_158 rfl ?_
                                refine R_iload (pc := 160) dX9_findChains_160 rfl ?_
                                refine R_icge (pc := 162) 198 dX9_findChains_162 (by decide) (fun _ => ?_) (fun h => absurd (Int32.not_lt.mp (inR_up hr2 (Int32.le_refl _) (by decide)).2) h)
                                refine inc_11_6_1_i (pc := 198) dX9_findChains_198 ?_
                                have r549 : inR ((nI j41) + 1) 1 20 := inR_add (show inR (nI j41) 0 19 from hr41) (show inR 1 1 1 from (inR_self _)) (by decide) (by decide)
                                have e550 := ti_add (l := 1) (h := 20) (show inR (nI j41) 0 19 from hr41) (show inR 1 1 1 from (inR_self _)) (by decide) (by decide)
                                refine R_goto (pc := 201) 41 dX9_findChains_201 (by decide) ?_
                                rw [nI_1]
                                exact ih41 (j41 + 1) _ _ _ _ _ (by omega) (by omega) hI158
                              | succ q ih158 =>
                                intro j158 σ158 hj hs158 hI158
                                have hr158 : inR (nI j158) 0 19 := inR_ix hs158 (show j158 < 20 by omega) (by decide) (by decide) (by decide)
                                have hlt158 : j158 < 20 := by omega
                                refine R_iload (pc := 158) dX9_findChains_158 rfl ?_
                                refine R_iload (pc := 160) dX9_findChains_160 rfl ?_
                                refine R_icge (pc := 162) 198 dX9_findChains_162 (by decide) (fun b162_551 => ?_) (fun b162_551 => ?_)
                                · skip
                                  refine inc_11_6_1_i (pc := 198) dX9_findChains_198 ?_
                                  have r552 : inR ((nI j41) + 1) 1 20 := inR_add (show inR (nI j41) 0 19 from hr41) (show inR 1 1 1 from (inR_self _)) (by decide) (by decide)
                                  have e553 := ti_add (l := 1) (h := 20) (show inR (nI j41) 0 19 from hr41) (show inR 1 1 1 from (inR_self _)) (by decide) (by decide)
                                  refine R_goto (pc := 201) 41 dX9_findChains_201 (by decide) ?_
                                  rw [nI_1]
                                  exact ih41 (j41 + 1) _ _ _ _ _ (by omega) (by omega) hI158
                                · skip
                                  refine R_iload (pc := 165) dX9_findChains_165 rfl ?_
                                  refine R_ifeq (pc := 167) 198 dX9_findChains_167 (by decide) (fun _ => ?_) (fun h => absurd (by decide) h)
                                  refine inc_11_6_1_i (pc := 198) dX9_findChains_198 ?_
                                  have r555 : inR ((nI j41) + 1) 1 20 := inR_add (show inR (nI j41) 0 19 from hr41) (show inR 1 1 1 from (inR_self _)) (by decide) (by decide)
                                  have e556 := ti_add (l := 1) (h := 20) (show inR (nI j41) 0 19 from hr41) (show inR 1 1 1 from (inR_self _)) (by decide) (by decide)
                                  refine R_goto (pc := 201) 41 dX9_findChains_201 (by decide) ?_
                                  rw [nI_1]
                                  exact ih41 (j41 + 1) _ _ _ _ _ (by omega) (by omega) hI158
                            exact HL158 20 0 _ (by omega) (by omega) hI41
                          · skip
                            refine R_aload_n (pc := 142) dX9_findChains_142 rfl rfl ?_
                            refine R_iload (pc := 143) dX9_findChains_143 rfl ?_
                            have hx557 : vp_in (nI j41) 20 := (vp_in_nI (by omega) (by decide))
                            refine R_iaload (pc := 145) dX9_findChains_145 (c_153 _) hx557 ?_
                            refine R_goto (pc := 146) 153 dX9_findChains_146 (by decide) ?_
                            refine st_11_9_i_i (pc := 153) dX9_findChains_153 ?_
                            refine R_iconst (pc := 155) (v := 0) dX9_findChains_155 (by decide) ?_
                            refine st_11_10_i_i (pc := 156) dX9_findChains_156 ?_
                            have HL158 : ∀ (q j158 : Nat) (σ158 : Sg), j158 + q = 20 → 0 ≤ j158 → Inv σ158 → R G l yX9_findChains cX9_findChains 11 none 3 0 0 (QV (fun w2 => ∃ σ2, w2 = WW σ2 ∧ Inv σ2)) 158 [(some (.ref 140)), (some (.ref 153)), (some (.int m)), (some (.int u)), (some (.int y1)), (some (.int (nI j31))), (some (.int (nI j41))), (some (.int 0)), (some (.int (σ41.2.2.1 153 (Int32.toNatClampNeg (nI j31))))), (some (.int (σ41.2.2.1 153 (Int32.toNatClampNeg (nI j41))))), (some (.int (nI j158)))] [] (WW σ158) 0 0 := by
                              intro q
                              induction q with
                              | zero =>
                                intro j158 σ158 hj hs158 hI158
                                obtain rfl : j158 = 20 := by omega
                                refine R_iload (pc := 158) dX9_findChains_158 rfl ?_
                                refine R_iload (pc := 160) dX9_findChains_160 rfl ?_
                                refine R_icge (pc := 162) 198 dX9_findChains_162 (by decide) (fun _ => ?_) (fun h => absurd (Int32.not_lt.mp (inR_up hr2 (Int32.le_refl _) (by decide)).2) h)
                                refine inc_11_6_1_i (pc := 198) dX9_findChains_198 ?_
                                have r559 : inR ((nI j41) + 1) 1 20 := inR_add (show inR (nI j41) 0 19 from hr41) (show inR 1 1 1 from (inR_self _)) (by decide) (by decide)
                                have e560 := ti_add (l := 1) (h := 20) (show inR (nI j41) 0 19 from hr41) (show inR 1 1 1 from (inR_self _)) (by decide) (by decide)
                                refine R_goto (pc := 201) 41 dX9_findChains_201 (by decide) ?_
                                rw [nI_1]
                                exact ih41 (j41 + 1) _ _ _ _ _ (by omega) (by omega) hI158
                              | succ q ih158 =>
                                intro j158 σ158 hj hs158 hI158
                                have hr158 : inR (nI j158) 0 19 := inR_ix hs158 (show j158 < 20 by omega) (by decide) (by decide) (by decide)
                                have hlt158 : j158 < 20 := by omega
                                refine R_iload (pc := 158) dX9_findChains_158 rfl ?_
                                refine R_iload (pc := 160) dX9_findChains_160 rfl ?_
                                refine R_icge (pc := 162) 198 dX9_findChains_162 (by decide) (fun b162_561 => ?_) (fun b162_561 => ?_)
                                · skip
                                  refine inc_11_6_1_i (pc := 198) dX9_findChains_198 ?_
                                  have r562 : inR ((nI j41) + 1) 1 20 := inR_add (show inR (nI j41) 0 19 from hr41) (show inR 1 1 1 from (inR_self _)) (by decide) (by decide)
                                  have e563 := ti_add (l := 1) (h := 20) (show inR (nI j41) 0 19 from hr41) (show inR 1 1 1 from (inR_self _)) (by decide) (by decide)
                                  refine R_goto (pc := 201) 41 dX9_findChains_201 (by decide) ?_
                                  rw [nI_1]
                                  exact ih41 (j41 + 1) _ _ _ _ _ (by omega) (by omega) hI158
                                · skip
                                  refine R_iload (pc := 165) dX9_findChains_165 rfl ?_
                                  refine R_ifeq (pc := 167) 198 dX9_findChains_167 (by decide) (fun _ => ?_) (fun h => absurd (by decide) h)
                                  refine inc_11_6_1_i (pc := 198) dX9_findChains_198 ?_
                                  have r565 : inR ((nI j41) + 1) 1 20 := inR_add (show inR (nI j41) 0 19 from hr41) (show inR 1 1 1 from (inR_self _)) (by decide) (by decide)
                                  have e566 := ti_add (l := 1) (h := 20) (show inR (nI j41) 0 19 from hr41) (show inR 1 1 1 from (inR_self _)) (by decide) (by decide)
                                  refine R_goto (pc := 201) 41 dX9_findChains_201 (by decide) ?_
                                  rw [nI_1]
                                  exact ih41 (j41 + 1) _ _ _ _ _ (by omega) (by omega) hI158
                            exact HL158 20 0 _ (by omega) (by omega) hI41
                      · skip
                        refine R_aload_n (pc := 60) dX9_findChains_60 rfl rfl ?_
                        refine R_iload (pc := 61) dX9_findChains_61 rfl ?_
                        have hx567 : vp_in (nI j31) 20 := (vp_in_nI (by omega) (by decide))
                        refine R_iaload (pc := 63) dX9_findChains_63 (c_153 _) hx567 ?_
                        refine R_aload_n (pc := 64) dX9_findChains_64 rfl rfl ?_
                        refine R_iload (pc := 65) dX9_findChains_65 rfl ?_
                        have hx568 : vp_in (nI j41) 20 := (vp_in_nI (by omega) (by decide))
                        refine R_iaload (pc := 67) dX9_findChains_67 (c_153 _) hx568 ?_
                        refine R_iceq (pc := 68) 104 dX9_findChains_68 (by decide) (fun b68_569 => ?_) (fun b68_569 => ?_)
                        · skip
                          refine R_iconst (pc := 104) (v := 0) dX9_findChains_104 (by decide) ?_
                          refine st_11_7_i_i (pc := 105) dX9_findChains_105 ?_
                          refine R_aload_n (pc := 107) dX9_findChains_107 rfl rfl ?_
                          refine R_iload (pc := 108) dX9_findChains_108 rfl ?_
                          have hx570 : vp_in (nI j31) 20 := (vp_in_nI (by omega) (by decide))
                          refine R_iaload (pc := 110) dX9_findChains_110 (c_153 _) hx570 ?_
                          refine R_aload_n (pc := 111) dX9_findChains_111 rfl rfl ?_
                          refine R_iload (pc := 112) dX9_findChains_112 rfl ?_
                          have hx571 : vp_in (nI j41) 20 := (vp_in_nI (by omega) (by decide))
                          refine R_iaload (pc := 114) dX9_findChains_114 (c_153 _) hx571 ?_
                          refine R_icge (pc := 115) 125 dX9_findChains_115 (by decide) (fun b115_572 => ?_) (fun b115_572 => ?_)
                          · skip
                            refine R_aload_n (pc := 125) dX9_findChains_125 rfl rfl ?_
                            refine R_iload (pc := 126) dX9_findChains_126 rfl ?_
                            have hx573 : vp_in (nI j41) 20 := (vp_in_nI (by omega) (by decide))
                            refine R_iaload (pc := 128) dX9_findChains_128 (c_153 _) hx573 ?_
                            refine st_11_8_i_i (pc := 129) dX9_findChains_129 ?_
                            refine R_aload_n (pc := 131) dX9_findChains_131 rfl rfl ?_
                            refine R_iload (pc := 132) dX9_findChains_132 rfl ?_
                            have hx574 : vp_in (nI j31) 20 := (vp_in_nI (by omega) (by decide))
                            refine R_iaload (pc := 134) dX9_findChains_134 (c_153 _) hx574 ?_
                            refine R_aload_n (pc := 135) dX9_findChains_135 rfl rfl ?_
                            refine R_iload (pc := 136) dX9_findChains_136 rfl ?_
                            have hx575 : vp_in (nI j41) 20 := (vp_in_nI (by omega) (by decide))
                            refine R_iaload (pc := 138) dX9_findChains_138 (c_153 _) hx575 ?_
                            refine R_icge (pc := 139) 149 dX9_findChains_139 (by decide) (fun b139_576 => ?_) (fun b139_576 => ?_)
                            · skip
                              refine R_aload_n (pc := 149) dX9_findChains_149 rfl rfl ?_
                              refine R_iload (pc := 150) dX9_findChains_150 rfl ?_
                              have hx577 : vp_in (nI j31) 20 := (vp_in_nI (by omega) (by decide))
                              refine R_iaload (pc := 152) dX9_findChains_152 (c_153 _) hx577 ?_
                              refine st_11_9_i_i (pc := 153) dX9_findChains_153 ?_
                              refine R_iconst (pc := 155) (v := 0) dX9_findChains_155 (by decide) ?_
                              refine st_11_10_i_i (pc := 156) dX9_findChains_156 ?_
                              have HL158 : ∀ (q j158 : Nat) (σ158 : Sg), j158 + q = 20 → 0 ≤ j158 → Inv σ158 → R G l yX9_findChains cX9_findChains 11 none 3 0 0 (QV (fun w2 => ∃ σ2, w2 = WW σ2 ∧ Inv σ2)) 158 [(some (.ref 140)), (some (.ref 153)), (some (.int m)), (some (.int u)), (some (.int y1)), (some (.int (nI j31))), (some (.int (nI j41))), (some (.int 0)), (some (.int (σ41.2.2.1 153 (Int32.toNatClampNeg (nI j41))))), (some (.int (σ41.2.2.1 153 (Int32.toNatClampNeg (nI j31))))), (some (.int (nI j158)))] [] (WW σ158) 0 0 := by
                                intro q
                                induction q with
                                | zero =>
                                  intro j158 σ158 hj hs158 hI158
                                  obtain rfl : j158 = 20 := by omega
                                  refine R_iload (pc := 158) dX9_findChains_158 rfl ?_
                                  refine R_iload (pc := 160) dX9_findChains_160 rfl ?_
                                  refine R_icge (pc := 162) 198 dX9_findChains_162 (by decide) (fun _ => ?_) (fun h => absurd (Int32.not_lt.mp (inR_up hr2 (Int32.le_refl _) (by decide)).2) h)
                                  refine inc_11_6_1_i (pc := 198) dX9_findChains_198 ?_
                                  have r579 : inR ((nI j41) + 1) 1 20 := inR_add (show inR (nI j41) 0 19 from hr41) (show inR 1 1 1 from (inR_self _)) (by decide) (by decide)
                                  have e580 := ti_add (l := 1) (h := 20) (show inR (nI j41) 0 19 from hr41) (show inR 1 1 1 from (inR_self _)) (by decide) (by decide)
                                  refine R_goto (pc := 201) 41 dX9_findChains_201 (by decide) ?_
                                  rw [nI_1]
                                  exact ih41 (j41 + 1) _ _ _ _ _ (by omega) (by omega) hI158
                                | succ q ih158 =>
                                  intro j158 σ158 hj hs158 hI158
                                  have hr158 : inR (nI j158) 0 19 := inR_ix hs158 (show j158 < 20 by omega) (by decide) (by decide) (by decide)
                                  have hlt158 : j158 < 20 := by omega
                                  refine R_iload (pc := 158) dX9_findChains_158 rfl ?_
                                  refine R_iload (pc := 160) dX9_findChains_160 rfl ?_
                                  refine R_icge (pc := 162) 198 dX9_findChains_162 (by decide) (fun b162_581 => ?_) (fun b162_581 => ?_)
                                  · skip
                                    refine inc_11_6_1_i (pc := 198) dX9_findChains_198 ?_
                                    have r582 : inR ((nI j41) + 1) 1 20 := inR_add (show inR (nI j41) 0 19 from hr41) (show inR 1 1 1 from (inR_self _)) (by decide) (by decide)
                                    have e583 := ti_add (l := 1) (h := 20) (show inR (nI j41) 0 19 from hr41) (show inR 1 1 1 from (inR_self _)) (by decide) (by decide)
                                    refine R_goto (pc := 201) 41 dX9_findChains_201 (by decide) ?_
                                    rw [nI_1]
                                    exact ih41 (j41 + 1) _ _ _ _ _ (by omega) (by omega) hI158
                                  · skip
                                    refine R_iload (pc := 165) dX9_findChains_165 rfl ?_
                                    refine R_ifeq (pc := 167) 198 dX9_findChains_167 (by decide) (fun _ => ?_) (fun h => absurd (by decide) h)
                                    refine inc_11_6_1_i (pc := 198) dX9_findChains_198 ?_
                                    have r585 : inR ((nI j41) + 1) 1 20 := inR_add (show inR (nI j41) 0 19 from hr41) (show inR 1 1 1 from (inR_self _)) (by decide) (by decide)
                                    have e586 := ti_add (l := 1) (h := 20) (show inR (nI j41) 0 19 from hr41) (show inR 1 1 1 from (inR_self _)) (by decide) (by decide)
                                    refine R_goto (pc := 201) 41 dX9_findChains_201 (by decide) ?_
                                    rw [nI_1]
                                    exact ih41 (j41 + 1) _ _ _ _ _ (by omega) (by omega) hI158
                              exact HL158 20 0 _ (by omega) (by omega) hI41
                            · skip
                              refine R_aload_n (pc := 142) dX9_findChains_142 rfl rfl ?_
                              refine R_iload (pc := 143) dX9_findChains_143 rfl ?_
                              have hx587 : vp_in (nI j41) 20 := (vp_in_nI (by omega) (by decide))
                              refine R_iaload (pc := 145) dX9_findChains_145 (c_153 _) hx587 ?_
                              refine R_goto (pc := 146) 153 dX9_findChains_146 (by decide) ?_
                              refine st_11_9_i_i (pc := 153) dX9_findChains_153 ?_
                              refine R_iconst (pc := 155) (v := 0) dX9_findChains_155 (by decide) ?_
                              refine st_11_10_i_i (pc := 156) dX9_findChains_156 ?_
                              have HL158 : ∀ (q j158 : Nat) (σ158 : Sg), j158 + q = 20 → 0 ≤ j158 → Inv σ158 → R G l yX9_findChains cX9_findChains 11 none 3 0 0 (QV (fun w2 => ∃ σ2, w2 = WW σ2 ∧ Inv σ2)) 158 [(some (.ref 140)), (some (.ref 153)), (some (.int m)), (some (.int u)), (some (.int y1)), (some (.int (nI j31))), (some (.int (nI j41))), (some (.int 0)), (some (.int (σ41.2.2.1 153 (Int32.toNatClampNeg (nI j41))))), (some (.int (σ41.2.2.1 153 (Int32.toNatClampNeg (nI j41))))), (some (.int (nI j158)))] [] (WW σ158) 0 0 := by
                                intro q
                                induction q with
                                | zero =>
                                  intro j158 σ158 hj hs158 hI158
                                  obtain rfl : j158 = 20 := by omega
                                  refine R_iload (pc := 158) dX9_findChains_158 rfl ?_
                                  refine R_iload (pc := 160) dX9_findChains_160 rfl ?_
                                  refine R_icge (pc := 162) 198 dX9_findChains_162 (by decide) (fun _ => ?_) (fun h => absurd (Int32.not_lt.mp (inR_up hr2 (Int32.le_refl _) (by decide)).2) h)
                                  refine inc_11_6_1_i (pc := 198) dX9_findChains_198 ?_
                                  have r589 : inR ((nI j41) + 1) 1 20 := inR_add (show inR (nI j41) 0 19 from hr41) (show inR 1 1 1 from (inR_self _)) (by decide) (by decide)
                                  have e590 := ti_add (l := 1) (h := 20) (show inR (nI j41) 0 19 from hr41) (show inR 1 1 1 from (inR_self _)) (by decide) (by decide)
                                  refine R_goto (pc := 201) 41 dX9_findChains_201 (by decide) ?_
                                  rw [nI_1]
                                  exact ih41 (j41 + 1) _ _ _ _ _ (by omega) (by omega) hI158
                                | succ q ih158 =>
                                  intro j158 σ158 hj hs158 hI158
                                  have hr158 : inR (nI j158) 0 19 := inR_ix hs158 (show j158 < 20 by omega) (by decide) (by decide) (by decide)
                                  have hlt158 : j158 < 20 := by omega
                                  refine R_iload (pc := 158) dX9_findChains_158 rfl ?_
                                  refine R_iload (pc := 160) dX9_findChains_160 rfl ?_
                                  refine R_icge (pc := 162) 198 dX9_findChains_162 (by decide) (fun b162_591 => ?_) (fun b162_591 => ?_)
                                  · skip
                                    refine inc_11_6_1_i (pc := 198) dX9_findChains_198 ?_
                                    have r592 : inR ((nI j41) + 1) 1 20 := inR_add (show inR (nI j41) 0 19 from hr41) (show inR 1 1 1 from (inR_self _)) (by decide) (by decide)
                                    have e593 := ti_add (l := 1) (h := 20) (show inR (nI j41) 0 19 from hr41) (show inR 1 1 1 from (inR_self _)) (by decide) (by decide)
                                    refine R_goto (pc := 201) 41 dX9_findChains_201 (by decide) ?_
                                    rw [nI_1]
                                    exact ih41 (j41 + 1) _ _ _ _ _ (by omega) (by omega) hI158
                                  · skip
                                    refine R_iload (pc := 165) dX9_findChains_165 rfl ?_
                                    refine R_ifeq (pc := 167) 198 dX9_findChains_167 (by decide) (fun _ => ?_) (fun h => absurd (by decide) h)
                                    refine inc_11_6_1_i (pc := 198) dX9_findChains_198 ?_
                                    have r595 : inR ((nI j41) + 1) 1 20 := inR_add (show inR (nI j41) 0 19 from hr41) (show inR 1 1 1 from (inR_self _)) (by decide) (by decide)
                                    have e596 := ti_add (l := 1) (h := 20) (show inR (nI j41) 0 19 from hr41) (show inR 1 1 1 from (inR_self _)) (by decide) (by decide)
                                    refine R_goto (pc := 201) 41 dX9_findChains_201 (by decide) ?_
                                    rw [nI_1]
                                    exact ih41 (j41 + 1) _ _ _ _ _ (by omega) (by omega) hI158
                              exact HL158 20 0 _ (by omega) (by omega) hI41
                          · skip
                            refine R_aload_n (pc := 118) dX9_findChains_118 rfl rfl ?_
                            refine R_iload (pc := 119) dX9_findChains_119 rfl ?_
                            have hx597 : vp_in (nI j31) 20 := (vp_in_nI (by omega) (by decide))
                            refine R_iaload (pc := 121) dX9_findChains_121 (c_153 _) hx597 ?_
                            refine R_goto (pc := 122) 129 dX9_findChains_122 (by decide) ?_
                            refine st_11_8_i_i (pc := 129) dX9_findChains_129 ?_
                            refine R_aload_n (pc := 131) dX9_findChains_131 rfl rfl ?_
                            refine R_iload (pc := 132) dX9_findChains_132 rfl ?_
                            have hx598 : vp_in (nI j31) 20 := (vp_in_nI (by omega) (by decide))
                            refine R_iaload (pc := 134) dX9_findChains_134 (c_153 _) hx598 ?_
                            refine R_aload_n (pc := 135) dX9_findChains_135 rfl rfl ?_
                            refine R_iload (pc := 136) dX9_findChains_136 rfl ?_
                            have hx599 : vp_in (nI j41) 20 := (vp_in_nI (by omega) (by decide))
                            refine R_iaload (pc := 138) dX9_findChains_138 (c_153 _) hx599 ?_
                            refine R_icge (pc := 139) 149 dX9_findChains_139 (by decide) (fun b139_600 => ?_) (fun b139_600 => ?_)
                            · skip
                              refine R_aload_n (pc := 149) dX9_findChains_149 rfl rfl ?_
                              refine R_iload (pc := 150) dX9_findChains_150 rfl ?_
                              have hx601 : vp_in (nI j31) 20 := (vp_in_nI (by omega) (by decide))
                              refine R_iaload (pc := 152) dX9_findChains_152 (c_153 _) hx601 ?_
                              refine st_11_9_i_i (pc := 153) dX9_findChains_153 ?_
                              refine R_iconst (pc := 155) (v := 0) dX9_findChains_155 (by decide) ?_
                              refine st_11_10_i_i (pc := 156) dX9_findChains_156 ?_
                              have HL158 : ∀ (q j158 : Nat) (σ158 : Sg), j158 + q = 20 → 0 ≤ j158 → Inv σ158 → R G l yX9_findChains cX9_findChains 11 none 3 0 0 (QV (fun w2 => ∃ σ2, w2 = WW σ2 ∧ Inv σ2)) 158 [(some (.ref 140)), (some (.ref 153)), (some (.int m)), (some (.int u)), (some (.int y1)), (some (.int (nI j31))), (some (.int (nI j41))), (some (.int 0)), (some (.int (σ41.2.2.1 153 (Int32.toNatClampNeg (nI j31))))), (some (.int (σ41.2.2.1 153 (Int32.toNatClampNeg (nI j31))))), (some (.int (nI j158)))] [] (WW σ158) 0 0 := by
                                intro q
                                induction q with
                                | zero =>
                                  intro j158 σ158 hj hs158 hI158
                                  obtain rfl : j158 = 20 := by omega
                                  refine R_iload (pc := 158) dX9_findChains_158 rfl ?_
                                  refine R_iload (pc := 160) dX9_findChains_160 rfl ?_
                                  refine R_icge (pc := 162) 198 dX9_findChains_162 (by decide) (fun _ => ?_) (fun h => absurd (Int32.not_lt.mp (inR_up hr2 (Int32.le_refl _) (by decide)).2) h)
                                  refine inc_11_6_1_i (pc := 198) dX9_findChains_198 ?_
                                  have r603 : inR ((nI j41) + 1) 1 20 := inR_add (show inR (nI j41) 0 19 from hr41) (show inR 1 1 1 from (inR_self _)) (by decide) (by decide)
                                  have e604 := ti_add (l := 1) (h := 20) (show inR (nI j41) 0 19 from hr41) (show inR 1 1 1 from (inR_self _)) (by decide) (by decide)
                                  refine R_goto (pc := 201) 41 dX9_findChains_201 (by decide) ?_
                                  rw [nI_1]
                                  exact ih41 (j41 + 1) _ _ _ _ _ (by omega) (by omega) hI158
                                | succ q ih158 =>
                                  intro j158 σ158 hj hs158 hI158
                                  have hr158 : inR (nI j158) 0 19 := inR_ix hs158 (show j158 < 20 by omega) (by decide) (by decide) (by decide)
                                  have hlt158 : j158 < 20 := by omega
                                  refine R_iload (pc := 158) dX9_findChains_158 rfl ?_
                                  refine R_iload (pc := 160) dX9_findChains_160 rfl ?_
                                  refine R_icge (pc := 162) 198 dX9_findChains_162 (by decide) (fun b162_605 => ?_) (fun b162_605 => ?_)
                                  · skip
                                    refine inc_11_6_1_i (pc := 198) dX9_findChains_198 ?_
                                    have r606 : inR ((nI j41) + 1) 1 20 := inR_add (show inR (nI j41) 0 19 from hr41) (show inR 1 1 1 from (inR_self _)) (by decide) (by decide)
                                    have e607 := ti_add (l := 1) (h := 20) (show inR (nI j41) 0 19 from hr41) (show inR 1 1 1 from (inR_self _)) (by decide) (by decide)
                                    refine R_goto (pc := 201) 41 dX9_findChains_201 (by decide) ?_
                                    rw [nI_1]
                                    exact ih41 (j41 + 1) _ _ _ _ _ (by omega) (by omega) hI158
                                  · skip
                                    refine R_iload (pc := 165) dX9_findChains_165 rfl ?_
                                    refine R_ifeq (pc := 167) 198 dX9_findChains_167 (by decide) (fun _ => ?_) (fun h => absurd (by decide) h)
                                    refine inc_11_6_1_i (pc := 198) dX9_findChains_198 ?_
                                    have r609 : inR ((nI j41) + 1) 1 20 := inR_add (show inR (nI j41) 0 19 from hr41) (show inR 1 1 1 from (inR_self _)) (by decide) (by decide)
                                    have e610 := ti_add (l := 1) (h := 20) (show inR (nI j41) 0 19 from hr41) (show inR 1 1 1 from (inR_self _)) (by decide) (by decide)
                                    refine R_goto (pc := 201) 41 dX9_findChains_201 (by decide) ?_
                                    rw [nI_1]
                                    exact ih41 (j41 + 1) _ _ _ _ _ (by omega) (by omega) hI158
                              exact HL158 20 0 _ (by omega) (by omega) hI41
                            · skip
                              refine R_aload_n (pc := 142) dX9_findChains_142 rfl rfl ?_
                              refine R_iload (pc := 143) dX9_findChains_143 rfl ?_
                              have hx611 : vp_in (nI j41) 20 := (vp_in_nI (by omega) (by decide))
                              refine R_iaload (pc := 145) dX9_findChains_145 (c_153 _) hx611 ?_
                              refine R_goto (pc := 146) 153 dX9_findChains_146 (by decide) ?_
                              refine st_11_9_i_i (pc := 153) dX9_findChains_153 ?_
                              refine R_iconst (pc := 155) (v := 0) dX9_findChains_155 (by decide) ?_
                              refine st_11_10_i_i (pc := 156) dX9_findChains_156 ?_
                              have HL158 : ∀ (q j158 : Nat) (σ158 : Sg), j158 + q = 20 → 0 ≤ j158 → Inv σ158 → R G l yX9_findChains cX9_findChains 11 none 3 0 0 (QV (fun w2 => ∃ σ2, w2 = WW σ2 ∧ Inv σ2)) 158 [(some (.ref 140)), (some (.ref 153)), (some (.int m)), (some (.int u)), (some (.int y1)), (some (.int (nI j31))), (some (.int (nI j41))), (some (.int 0)), (some (.int (σ41.2.2.1 153 (Int32.toNatClampNeg (nI j31))))), (some (.int (σ41.2.2.1 153 (Int32.toNatClampNeg (nI j41))))), (some (.int (nI j158)))] [] (WW σ158) 0 0 := by
                                intro q
                                induction q with
                                | zero =>
                                  intro j158 σ158 hj hs158 hI158
                                  obtain rfl : j158 = 20 := by omega
                                  refine R_iload (pc := 158) dX9_findChains_158 rfl ?_
                                  refine R_iload (pc := 160) dX9_findChains_160 rfl ?_
                                  refine R_icge (pc := 162) 198 dX9_findChains_162 (by decide) (fun _ => ?_) (fun h => absurd (Int32.not_lt.mp (inR_up hr2 (Int32.le_refl _) (by decide)).2) h)
                                  refine inc_11_6_1_i (pc := 198) dX9_findChains_198 ?_
                                  have r613 : inR ((nI j41) + 1) 1 20 := inR_add (show inR (nI j41) 0 19 from hr41) (show inR 1 1 1 from (inR_self _)) (by decide) (by decide)
                                  have e614 := ti_add (l := 1) (h := 20) (show inR (nI j41) 0 19 from hr41) (show inR 1 1 1 from (inR_self _)) (by decide) (by decide)
                                  refine R_goto (pc := 201) 41 dX9_findChains_201 (by decide) ?_
                                  rw [nI_1]
                                  exact ih41 (j41 + 1) _ _ _ _ _ (by omega) (by omega) hI158
                                | succ q ih158 =>
                                  intro j158 σ158 hj hs158 hI158
                                  have hr158 : inR (nI j158) 0 19 := inR_ix hs158 (show j158 < 20 by omega) (by decide) (by decide) (by decide)
                                  have hlt158 : j158 < 20 := by omega
                                  refine R_iload (pc := 158) dX9_findChains_158 rfl ?_
                                  refine R_iload (pc := 160) dX9_findChains_160 rfl ?_
                                  refine R_icge (pc := 162) 198 dX9_findChains_162 (by decide) (fun b162_615 => ?_) (fun b162_615 => ?_)
                                  · skip
                                    refine inc_11_6_1_i (pc := 198) dX9_findChains_198 ?_
                                    have r616 : inR ((nI j41) + 1) 1 20 := inR_add (show inR (nI j41) 0 19 from hr41) (show inR 1 1 1 from (inR_self _)) (by decide) (by decide)
                                    have e617 := ti_add (l := 1) (h := 20) (show inR (nI j41) 0 19 from hr41) (show inR 1 1 1 from (inR_self _)) (by decide) (by decide)
                                    refine R_goto (pc := 201) 41 dX9_findChains_201 (by decide) ?_
                                    rw [nI_1]
                                    exact ih41 (j41 + 1) _ _ _ _ _ (by omega) (by omega) hI158
                                  · skip
                                    refine R_iload (pc := 165) dX9_findChains_165 rfl ?_
                                    refine R_ifeq (pc := 167) 198 dX9_findChains_167 (by decide) (fun _ => ?_) (fun h => absurd (by decide) h)
                                    refine inc_11_6_1_i (pc := 198) dX9_findChains_198 ?_
                                    have r619 : inR ((nI j41) + 1) 1 20 := inR_add (show inR (nI j41) 0 19 from hr41) (show inR 1 1 1 from (inR_self _)) (by decide) (by decide)
                                    have e620 := ti_add (l := 1) (h := 20) (show inR (nI j41) 0 19 from hr41) (show inR 1 1 1 from (inR_self _)) (by decide) (by decide)
                                    refine R_goto (pc := 201) 41 dX9_findChains_201 (by decide) ?_
                                    rw [nI_1]
                                    exact ih41 (j41 + 1) _ _ _ _ _ (by omega) (by omega) hI158
                              exact HL158 20 0 _ (by omega) (by omega) hI41
                        · skip
                          refine R_iload_n (pc := 71) dX9_findChains_71 rfl rfl ?_
                          refine R_ifeq (pc := 72) 89 dX9_findChains_72 (by decide) (fun b72_621 => ?_) (fun b72_621 => ?_)
                          · skip
                            refine R_aload_n (pc := 89) dX9_findChains_89 rfl rfl ?_
                            refine R_iload (pc := 90) dX9_findChains_90 rfl ?_
                            refine R_iload (pc := 92) dX9_findChains_92 rfl ?_
                            refine k_X9_155 (pc := 94) (gx_X9_isLike _ _ _ hI41 hr31 hr41) rfl (c_140 _) (by decide) (Nat.le_refl _) (Nat.le_refl _) (Nat.le_of_ble_eq_true rfl) dX9_findChains_94 (fun x w2 h => ?_)
                            rcases h with ⟨rfl, rfl | rfl⟩
                            · skip
                              refine R_ifeq (pc := 97) 104 dX9_findChains_97 (by decide) (fun h => absurd h (by decide)) (fun _ => ?_)
                              refine R_iconst (pc := 100) (v := 1) dX9_findChains_100 (by decide) ?_
                              refine R_goto (pc := 101) 105 dX9_findChains_101 (by decide) ?_
                              refine st_11_7_i_i (pc := 105) dX9_findChains_105 ?_
                              refine R_aload_n (pc := 107) dX9_findChains_107 rfl rfl ?_
                              refine R_iload (pc := 108) dX9_findChains_108 rfl ?_
                              have hx624 : vp_in (nI j31) 20 := (vp_in_nI (by omega) (by decide))
                              refine R_iaload (pc := 110) dX9_findChains_110 (c_153 _) hx624 ?_
                              refine R_aload_n (pc := 111) dX9_findChains_111 rfl rfl ?_
                              refine R_iload (pc := 112) dX9_findChains_112 rfl ?_
                              have hx625 : vp_in (nI j41) 20 := (vp_in_nI (by omega) (by decide))
                              refine R_iaload (pc := 114) dX9_findChains_114 (c_153 _) hx625 ?_
                              refine R_icge (pc := 115) 125 dX9_findChains_115 (by decide) (fun b115_626 => ?_) (fun b115_626 => ?_)
                              · skip
                                refine R_aload_n (pc := 125) dX9_findChains_125 rfl rfl ?_
                                refine R_iload (pc := 126) dX9_findChains_126 rfl ?_
                                have hx627 : vp_in (nI j41) 20 := (vp_in_nI (by omega) (by decide))
                                refine R_iaload (pc := 128) dX9_findChains_128 (c_153 _) hx627 ?_
                                refine st_11_8_i_i (pc := 129) dX9_findChains_129 ?_
                                refine R_aload_n (pc := 131) dX9_findChains_131 rfl rfl ?_
                                refine R_iload (pc := 132) dX9_findChains_132 rfl ?_
                                have hx628 : vp_in (nI j31) 20 := (vp_in_nI (by omega) (by decide))
                                refine R_iaload (pc := 134) dX9_findChains_134 (c_153 _) hx628 ?_
                                refine R_aload_n (pc := 135) dX9_findChains_135 rfl rfl ?_
                                refine R_iload (pc := 136) dX9_findChains_136 rfl ?_
                                have hx629 : vp_in (nI j41) 20 := (vp_in_nI (by omega) (by decide))
                                refine R_iaload (pc := 138) dX9_findChains_138 (c_153 _) hx629 ?_
                                refine R_icge (pc := 139) 149 dX9_findChains_139 (by decide) (fun b139_630 => ?_) (fun b139_630 => ?_)
                                · skip
                                  refine R_aload_n (pc := 149) dX9_findChains_149 rfl rfl ?_
                                  refine R_iload (pc := 150) dX9_findChains_150 rfl ?_
                                  have hx631 : vp_in (nI j31) 20 := (vp_in_nI (by omega) (by decide))
                                  refine R_iaload (pc := 152) dX9_findChains_152 (c_153 _) hx631 ?_
                                  refine st_11_9_i_i (pc := 153) dX9_findChains_153 ?_
                                  refine R_iconst (pc := 155) (v := 0) dX9_findChains_155 (by decide) ?_
                                  refine st_11_10_i_i (pc := 156) dX9_findChains_156 ?_
                                  have HL158 : ∀ (q j158 : Nat) (σ158 : Sg), j158 + q = 20 → 0 ≤ j158 → Inv σ158 → R G l yX9_findChains cX9_findChains 11 none 3 0 0 (QV (fun w2 => ∃ σ2, w2 = WW σ2 ∧ Inv σ2)) 158 [(some (.ref 140)), (some (.ref 153)), (some (.int m)), (some (.int u)), (some (.int y1)), (some (.int (nI j31))), (some (.int (nI j41))), (some (.int 1)), (some (.int (σ41.2.2.1 153 (Int32.toNatClampNeg (nI j41))))), (some (.int (σ41.2.2.1 153 (Int32.toNatClampNeg (nI j31))))), (some (.int (nI j158)))] [] (WW σ158) 0 0 := by
                                    intro q
                                    induction q with
                                    | zero =>
                                      intro j158 σ158 hj hs158 hI158
                                      obtain rfl : j158 = 20 := by omega
                                      refine R_iload (pc := 158) dX9_findChains_158 rfl ?_
                                      refine R_iload (pc := 160) dX9_findChains_160 rfl ?_
                                      refine R_icge (pc := 162) 198 dX9_findChains_162 (by decide) (fun _ => ?_) (fun h => absurd (Int32.not_lt.mp (inR_up hr2 (Int32.le_refl _) (by decide)).2) h)
                                      refine inc_11_6_1_i (pc := 198) dX9_findChains_198 ?_
                                      have r633 : inR ((nI j41) + 1) 1 20 := inR_add (show inR (nI j41) 0 19 from hr41) (show inR 1 1 1 from (inR_self _)) (by decide) (by decide)
                                      have e634 := ti_add (l := 1) (h := 20) (show inR (nI j41) 0 19 from hr41) (show inR 1 1 1 from (inR_self _)) (by decide) (by decide)
                                      refine R_goto (pc := 201) 41 dX9_findChains_201 (by decide) ?_
                                      rw [nI_1]
                                      exact ih41 (j41 + 1) _ _ _ _ _ (by omega) (by omega) hI158
                                    | succ q ih158 =>
                                      intro j158 σ158 hj hs158 hI158
                                      have hr158 : inR (nI j158) 0 19 := inR_ix hs158 (show j158 < 20 by omega) (by decide) (by decide) (by decide)
                                      have hlt158 : j158 < 20 := by omega
                                      refine R_iload (pc := 158) dX9_findChains_158 rfl ?_
                                      refine R_iload (pc := 160) dX9_findChains_160 rfl ?_
                                      refine R_icge (pc := 162) 198 dX9_findChains_162 (by decide) (fun b162_635 => ?_) (fun b162_635 => ?_)
                                      · skip
                                        refine inc_11_6_1_i (pc := 198) dX9_findChains_198 ?_
                                        have r636 : inR ((nI j41) + 1) 1 20 := inR_add (show inR (nI j41) 0 19 from hr41) (show inR 1 1 1 from (inR_self _)) (by decide) (by decide)
                                        have e637 := ti_add (l := 1) (h := 20) (show inR (nI j41) 0 19 from hr41) (show inR 1 1 1 from (inR_self _)) (by decide) (by decide)
                                        refine R_goto (pc := 201) 41 dX9_findChains_201 (by decide) ?_
                                        rw [nI_1]
                                        exact ih41 (j41 + 1) _ _ _ _ _ (by omega) (by omega) hI158
                                      · skip
                                        refine R_iload (pc := 165) dX9_findChains_165 rfl ?_
                                        refine R_ifeq (pc := 167) 198 dX9_findChains_167 (by decide) (fun h => absurd h (by decide)) (fun _ => ?_)
                                        refine R_aload_n (pc := 170) dX9_findChains_170 rfl rfl ?_
                                        refine R_iload (pc := 171) dX9_findChains_171 rfl ?_
                                        refine R_aload_n (pc := 173) dX9_findChains_173 rfl rfl ?_
                                        refine R_iload (pc := 174) dX9_findChains_174 rfl ?_
                                        have hx639 : vp_in (nI j158) 20 := (vp_in_nI (by omega) (by decide))
                                        refine R_iaload (pc := 176) dX9_findChains_176 (c_153 _) hx639 ?_
                                        refine R_iload (pc := 177) dX9_findChains_177 rfl ?_
                                        refine R_icne (pc := 179) 187 dX9_findChains_179 (by decide) (fun b179_640 => ?_) (fun b179_640 => ?_)
                                        · skip
                                          refine R_aload_n (pc := 187) dX9_findChains_187 rfl rfl ?_
                                          refine R_iload (pc := 188) dX9_findChains_188 rfl ?_
                                          have hx641 : vp_in (nI j158) 20 := (vp_in_nI (by omega) (by decide))
                                          refine R_iaload (pc := 190) dX9_findChains_190 (c_153 _) hx641 ?_
                                          have hx642 : vp_in (nI j158) 20 := (vp_in_nI (by omega) (by decide))
                                          refine W_iastore (pc := 191) dX9_findChains_191 (c_153 _) hx642 (a_153 _ _) ?_
                                          have hV643 := sa_153 hI158 (Int32.toNatClampNeg (nI j158)) (iva_153 hI158 _ (lt_of_vp hx639))
                                          refine inc_11_10_1_i (pc := 192) dX9_findChains_192 ?_
                                          have r644 : inR ((nI j158) + 1) 1 20 := inR_add (show inR (nI j158) 0 19 from hr158) (show inR 1 1 1 from (inR_self _)) (by decide) (by decide)
                                          have e645 := ti_add (l := 1) (h := 20) (show inR (nI j158) 0 19 from hr158) (show inR 1 1 1 from (inR_self _)) (by decide) (by decide)
                                          refine R_goto (pc := 195) 158 dX9_findChains_195 (by decide) ?_
                                          rw [nI_1]
                                          exact ih158 (j158 + 1) _ (by omega) (by omega) hV643
                                        · skip
                                          refine R_iload (pc := 182) dX9_findChains_182 rfl ?_
                                          refine R_goto (pc := 184) 191 dX9_findChains_184 (by decide) ?_
                                          have hx646 : vp_in (nI j158) 20 := (vp_in_nI (by omega) (by decide))
                                          refine W_iastore (pc := 191) dX9_findChains_191 (c_153 _) hx646 (a_153 _ _) ?_
                                          have hV647 := sa_153 hI158 (Int32.toNatClampNeg (nI j158)) (iva_153 hI41 _ (lt_of_vp hx568))
                                          refine inc_11_10_1_i (pc := 192) dX9_findChains_192 ?_
                                          have r648 : inR ((nI j158) + 1) 1 20 := inR_add (show inR (nI j158) 0 19 from hr158) (show inR 1 1 1 from (inR_self _)) (by decide) (by decide)
                                          have e649 := ti_add (l := 1) (h := 20) (show inR (nI j158) 0 19 from hr158) (show inR 1 1 1 from (inR_self _)) (by decide) (by decide)
                                          refine R_goto (pc := 195) 158 dX9_findChains_195 (by decide) ?_
                                          rw [nI_1]
                                          exact ih158 (j158 + 1) _ (by omega) (by omega) hV647
                                  exact HL158 20 0 _ (by omega) (by omega) hI41
                                · skip
                                  refine R_aload_n (pc := 142) dX9_findChains_142 rfl rfl ?_
                                  refine R_iload (pc := 143) dX9_findChains_143 rfl ?_
                                  have hx650 : vp_in (nI j41) 20 := (vp_in_nI (by omega) (by decide))
                                  refine R_iaload (pc := 145) dX9_findChains_145 (c_153 _) hx650 ?_
                                  refine R_goto (pc := 146) 153 dX9_findChains_146 (by decide) ?_
                                  refine st_11_9_i_i (pc := 153) dX9_findChains_153 ?_
                                  refine R_iconst (pc := 155) (v := 0) dX9_findChains_155 (by decide) ?_
                                  refine st_11_10_i_i (pc := 156) dX9_findChains_156 ?_
                                  have HL158 : ∀ (q j158 : Nat) (σ158 : Sg), j158 + q = 20 → 0 ≤ j158 → Inv σ158 → R G l yX9_findChains cX9_findChains 11 none 3 0 0 (QV (fun w2 => ∃ σ2, w2 = WW σ2 ∧ Inv σ2)) 158 [(some (.ref 140)), (some (.ref 153)), (some (.int m)), (some (.int u)), (some (.int y1)), (some (.int (nI j31))), (some (.int (nI j41))), (some (.int 1)), (some (.int (σ41.2.2.1 153 (Int32.toNatClampNeg (nI j41))))), (some (.int (σ41.2.2.1 153 (Int32.toNatClampNeg (nI j41))))), (some (.int (nI j158)))] [] (WW σ158) 0 0 := by
                                    intro q
                                    induction q with
                                    | zero =>
                                      intro j158 σ158 hj hs158 hI158
                                      obtain rfl : j158 = 20 := by omega
                                      refine R_iload (pc := 158) dX9_findChains_158 rfl ?_
                                      refine R_iload (pc := 160) dX9_findChains_160 rfl ?_
                                      refine R_icge (pc := 162) 198 dX9_findChains_162 (by decide) (fun _ => ?_) (fun h => absurd (Int32.not_lt.mp (inR_up hr2 (Int32.le_refl _) (by decide)).2) h)
                                      refine inc_11_6_1_i (pc := 198) dX9_findChains_198 ?_
                                      have r652 : inR ((nI j41) + 1) 1 20 := inR_add (show inR (nI j41) 0 19 from hr41) (show inR 1 1 1 from (inR_self _)) (by decide) (by decide)
                                      have e653 := ti_add (l := 1) (h := 20) (show inR (nI j41) 0 19 from hr41) (show inR 1 1 1 from (inR_self _)) (by decide) (by decide)
                                      refine R_goto (pc := 201) 41 dX9_findChains_201 (by decide) ?_
                                      rw [nI_1]
                                      exact ih41 (j41 + 1) _ _ _ _ _ (by omega) (by omega) hI158
                                    | succ q ih158 =>
                                      intro j158 σ158 hj hs158 hI158
                                      have hr158 : inR (nI j158) 0 19 := inR_ix hs158 (show j158 < 20 by omega) (by decide) (by decide) (by decide)
                                      have hlt158 : j158 < 20 := by omega
                                      refine R_iload (pc := 158) dX9_findChains_158 rfl ?_
                                      refine R_iload (pc := 160) dX9_findChains_160 rfl ?_
                                      refine R_icge (pc := 162) 198 dX9_findChains_162 (by decide) (fun b162_654 => ?_) (fun b162_654 => ?_)
                                      · skip
                                        refine inc_11_6_1_i (pc := 198) dX9_findChains_198 ?_
                                        have r655 : inR ((nI j41) + 1) 1 20 := inR_add (show inR (nI j41) 0 19 from hr41) (show inR 1 1 1 from (inR_self _)) (by decide) (by decide)
                                        have e656 := ti_add (l := 1) (h := 20) (show inR (nI j41) 0 19 from hr41) (show inR 1 1 1 from (inR_self _)) (by decide) (by decide)
                                        refine R_goto (pc := 201) 41 dX9_findChains_201 (by decide) ?_
                                        rw [nI_1]
                                        exact ih41 (j41 + 1) _ _ _ _ _ (by omega) (by omega) hI158
                                      · skip
                                        refine R_iload (pc := 165) dX9_findChains_165 rfl ?_
                                        refine R_ifeq (pc := 167) 198 dX9_findChains_167 (by decide) (fun h => absurd h (by decide)) (fun _ => ?_)
                                        refine R_aload_n (pc := 170) dX9_findChains_170 rfl rfl ?_
                                        refine R_iload (pc := 171) dX9_findChains_171 rfl ?_
                                        refine R_aload_n (pc := 173) dX9_findChains_173 rfl rfl ?_
                                        refine R_iload (pc := 174) dX9_findChains_174 rfl ?_
                                        have hx658 : vp_in (nI j158) 20 := (vp_in_nI (by omega) (by decide))
                                        refine R_iaload (pc := 176) dX9_findChains_176 (c_153 _) hx658 ?_
                                        refine R_iload (pc := 177) dX9_findChains_177 rfl ?_
                                        refine R_icne (pc := 179) 187 dX9_findChains_179 (by decide) (fun b179_659 => ?_) (fun b179_659 => ?_)
                                        · skip
                                          refine R_aload_n (pc := 187) dX9_findChains_187 rfl rfl ?_
                                          refine R_iload (pc := 188) dX9_findChains_188 rfl ?_
                                          have hx660 : vp_in (nI j158) 20 := (vp_in_nI (by omega) (by decide))
                                          refine R_iaload (pc := 190) dX9_findChains_190 (c_153 _) hx660 ?_
                                          have hx661 : vp_in (nI j158) 20 := (vp_in_nI (by omega) (by decide))
                                          refine W_iastore (pc := 191) dX9_findChains_191 (c_153 _) hx661 (a_153 _ _) ?_
                                          have hV662 := sa_153 hI158 (Int32.toNatClampNeg (nI j158)) (iva_153 hI158 _ (lt_of_vp hx658))
                                          refine inc_11_10_1_i (pc := 192) dX9_findChains_192 ?_
                                          have r663 : inR ((nI j158) + 1) 1 20 := inR_add (show inR (nI j158) 0 19 from hr158) (show inR 1 1 1 from (inR_self _)) (by decide) (by decide)
                                          have e664 := ti_add (l := 1) (h := 20) (show inR (nI j158) 0 19 from hr158) (show inR 1 1 1 from (inR_self _)) (by decide) (by decide)
                                          refine R_goto (pc := 195) 158 dX9_findChains_195 (by decide) ?_
                                          rw [nI_1]
                                          exact ih158 (j158 + 1) _ (by omega) (by omega) hV662
                                        · skip
                                          refine R_iload (pc := 182) dX9_findChains_182 rfl ?_
                                          refine R_goto (pc := 184) 191 dX9_findChains_184 (by decide) ?_
                                          have hx665 : vp_in (nI j158) 20 := (vp_in_nI (by omega) (by decide))
                                          refine W_iastore (pc := 191) dX9_findChains_191 (c_153 _) hx665 (a_153 _ _) ?_
                                          have hV666 := sa_153 hI158 (Int32.toNatClampNeg (nI j158)) (iva_153 hI41 _ (lt_of_vp hx568))
                                          refine inc_11_10_1_i (pc := 192) dX9_findChains_192 ?_
                                          have r667 : inR ((nI j158) + 1) 1 20 := inR_add (show inR (nI j158) 0 19 from hr158) (show inR 1 1 1 from (inR_self _)) (by decide) (by decide)
                                          have e668 := ti_add (l := 1) (h := 20) (show inR (nI j158) 0 19 from hr158) (show inR 1 1 1 from (inR_self _)) (by decide) (by decide)
                                          refine R_goto (pc := 195) 158 dX9_findChains_195 (by decide) ?_
                                          rw [nI_1]
                                          exact ih158 (j158 + 1) _ (by omega) (by omega) hV666
                                  exact HL158 20 0 _ (by omega) (by omega) hI41
                              · skip
                                refine R_aload_n (pc := 118) dX9_findChains_118 rfl rfl ?_
                                refine R_iload (pc := 119) dX9_findChains_119 rfl ?_
                                have hx669 : vp_in (nI j31) 20 := (vp_in_nI (by omega) (by decide))
                                refine R_iaload (pc := 121) dX9_findChains_121 (c_153 _) hx669 ?_
                                refine R_goto (pc := 122) 129 dX9_findChains_122 (by decide) ?_
                                refine st_11_8_i_i (pc := 129) dX9_findChains_129 ?_
                                refine R_aload_n (pc := 131) dX9_findChains_131 rfl rfl ?_
                                refine R_iload (pc := 132) dX9_findChains_132 rfl ?_
                                have hx670 : vp_in (nI j31) 20 := (vp_in_nI (by omega) (by decide))
                                refine R_iaload (pc := 134) dX9_findChains_134 (c_153 _) hx670 ?_
                                refine R_aload_n (pc := 135) dX9_findChains_135 rfl rfl ?_
                                refine R_iload (pc := 136) dX9_findChains_136 rfl ?_
                                have hx671 : vp_in (nI j41) 20 := (vp_in_nI (by omega) (by decide))
                                refine R_iaload (pc := 138) dX9_findChains_138 (c_153 _) hx671 ?_
                                refine R_icge (pc := 139) 149 dX9_findChains_139 (by decide) (fun b139_672 => ?_) (fun b139_672 => ?_)
                                · skip
                                  refine R_aload_n (pc := 149) dX9_findChains_149 rfl rfl ?_
                                  refine R_iload (pc := 150) dX9_findChains_150 rfl ?_
                                  have hx673 : vp_in (nI j31) 20 := (vp_in_nI (by omega) (by decide))
                                  refine R_iaload (pc := 152) dX9_findChains_152 (c_153 _) hx673 ?_
                                  refine st_11_9_i_i (pc := 153) dX9_findChains_153 ?_
                                  refine R_iconst (pc := 155) (v := 0) dX9_findChains_155 (by decide) ?_
                                  refine st_11_10_i_i (pc := 156) dX9_findChains_156 ?_
                                  have HL158 : ∀ (q j158 : Nat) (σ158 : Sg), j158 + q = 20 → 0 ≤ j158 → Inv σ158 → R G l yX9_findChains cX9_findChains 11 none 3 0 0 (QV (fun w2 => ∃ σ2, w2 = WW σ2 ∧ Inv σ2)) 158 [(some (.ref 140)), (some (.ref 153)), (some (.int m)), (some (.int u)), (some (.int y1)), (some (.int (nI j31))), (some (.int (nI j41))), (some (.int 1)), (some (.int (σ41.2.2.1 153 (Int32.toNatClampNeg (nI j31))))), (some (.int (σ41.2.2.1 153 (Int32.toNatClampNeg (nI j31))))), (some (.int (nI j158)))] [] (WW σ158) 0 0 := by
                                    intro q
                                    induction q with
                                    | zero =>
                                      intro j158 σ158 hj hs158 hI158
                                      obtain rfl : j158 = 20 := by omega
                                      refine R_iload (pc := 158) dX9_findChains_158 rfl ?_
                                      refine R_iload (pc := 160) dX9_findChains_160 rfl ?_
                                      refine R_icge (pc := 162) 198 dX9_findChains_162 (by decide) (fun _ => ?_) (fun h => absurd (Int32.not_lt.mp (inR_up hr2 (Int32.le_refl _) (by decide)).2) h)
                                      refine inc_11_6_1_i (pc := 198) dX9_findChains_198 ?_
                                      have r675 : inR ((nI j41) + 1) 1 20 := inR_add (show inR (nI j41) 0 19 from hr41) (show inR 1 1 1 from (inR_self _)) (by decide) (by decide)
                                      have e676 := ti_add (l := 1) (h := 20) (show inR (nI j41) 0 19 from hr41) (show inR 1 1 1 from (inR_self _)) (by decide) (by decide)
                                      refine R_goto (pc := 201) 41 dX9_findChains_201 (by decide) ?_
                                      rw [nI_1]
                                      exact ih41 (j41 + 1) _ _ _ _ _ (by omega) (by omega) hI158
                                    | succ q ih158 =>
                                      intro j158 σ158 hj hs158 hI158
                                      have hr158 : inR (nI j158) 0 19 := inR_ix hs158 (show j158 < 20 by omega) (by decide) (by decide) (by decide)
                                      have hlt158 : j158 < 20 := by omega
                                      refine R_iload (pc := 158) dX9_findChains_158 rfl ?_
                                      refine R_iload (pc := 160) dX9_findChains_160 rfl ?_
                                      refine R_icge (pc := 162) 198 dX9_findChains_162 (by decide) (fun b162_677 => ?_) (fun b162_677 => ?_)
                                      · skip
                                        refine inc_11_6_1_i (pc := 198) dX9_findChains_198 ?_
                                        have r678 : inR ((nI j41) + 1) 1 20 := inR_add (show inR (nI j41) 0 19 from hr41) (show inR 1 1 1 from (inR_self _)) (by decide) (by decide)
                                        have e679 := ti_add (l := 1) (h := 20) (show inR (nI j41) 0 19 from hr41) (show inR 1 1 1 from (inR_self _)) (by decide) (by decide)
                                        refine R_goto (pc := 201) 41 dX9_findChains_201 (by decide) ?_
                                        rw [nI_1]
                                        exact ih41 (j41 + 1) _ _ _ _ _ (by omega) (by omega) hI158
                                      · skip
                                        refine R_iload (pc := 165) dX9_findChains_165 rfl ?_
                                        refine R_ifeq (pc := 167) 198 dX9_findChains_167 (by decide) (fun h => absurd h (by decide)) (fun _ => ?_)
                                        refine R_aload_n (pc := 170) dX9_findChains_170 rfl rfl ?_
                                        refine R_iload (pc := 171) dX9_findChains_171 rfl ?_
                                        refine R_aload_n (pc := 173) dX9_findChains_173 rfl rfl ?_
                                        refine R_iload (pc := 174) dX9_findChains_174 rfl ?_
                                        have hx681 : vp_in (nI j158) 20 := (vp_in_nI (by omega) (by decide))
                                        refine R_iaload (pc := 176) dX9_findChains_176 (c_153 _) hx681 ?_
                                        refine R_iload (pc := 177) dX9_findChains_177 rfl ?_
                                        refine R_icne (pc := 179) 187 dX9_findChains_179 (by decide) (fun b179_682 => ?_) (fun b179_682 => ?_)
                                        · skip
                                          refine R_aload_n (pc := 187) dX9_findChains_187 rfl rfl ?_
                                          refine R_iload (pc := 188) dX9_findChains_188 rfl ?_
                                          have hx683 : vp_in (nI j158) 20 := (vp_in_nI (by omega) (by decide))
                                          refine R_iaload (pc := 190) dX9_findChains_190 (c_153 _) hx683 ?_
                                          have hx684 : vp_in (nI j158) 20 := (vp_in_nI (by omega) (by decide))
                                          refine W_iastore (pc := 191) dX9_findChains_191 (c_153 _) hx684 (a_153 _ _) ?_
                                          have hV685 := sa_153 hI158 (Int32.toNatClampNeg (nI j158)) (iva_153 hI158 _ (lt_of_vp hx681))
                                          refine inc_11_10_1_i (pc := 192) dX9_findChains_192 ?_
                                          have r686 : inR ((nI j158) + 1) 1 20 := inR_add (show inR (nI j158) 0 19 from hr158) (show inR 1 1 1 from (inR_self _)) (by decide) (by decide)
                                          have e687 := ti_add (l := 1) (h := 20) (show inR (nI j158) 0 19 from hr158) (show inR 1 1 1 from (inR_self _)) (by decide) (by decide)
                                          refine R_goto (pc := 195) 158 dX9_findChains_195 (by decide) ?_
                                          rw [nI_1]
                                          exact ih158 (j158 + 1) _ (by omega) (by omega) hV685
                                        · skip
                                          refine R_iload (pc := 182) dX9_findChains_182 rfl ?_
                                          refine R_goto (pc := 184) 191 dX9_findChains_184 (by decide) ?_
                                          have hx688 : vp_in (nI j158) 20 := (vp_in_nI (by omega) (by decide))
                                          refine W_iastore (pc := 191) dX9_findChains_191 (c_153 _) hx688 (a_153 _ _) ?_
                                          have hV689 := sa_153 hI158 (Int32.toNatClampNeg (nI j158)) (iva_153 hI41 _ (lt_of_vp hx567))
                                          refine inc_11_10_1_i (pc := 192) dX9_findChains_192 ?_
                                          have r690 : inR ((nI j158) + 1) 1 20 := inR_add (show inR (nI j158) 0 19 from hr158) (show inR 1 1 1 from (inR_self _)) (by decide) (by decide)
                                          have e691 := ti_add (l := 1) (h := 20) (show inR (nI j158) 0 19 from hr158) (show inR 1 1 1 from (inR_self _)) (by decide) (by decide)
                                          refine R_goto (pc := 195) 158 dX9_findChains_195 (by decide) ?_
                                          rw [nI_1]
                                          exact ih158 (j158 + 1) _ (by omega) (by omega) hV689
                                  exact HL158 20 0 _ (by omega) (by omega) hI41
                                · skip
                                  refine R_aload_n (pc := 142) dX9_findChains_142 rfl rfl ?_
                                  refine R_iload (pc := 143) dX9_findChains_143 rfl ?_
                                  have hx692 : vp_in (nI j41) 20 := (vp_in_nI (by omega) (by decide))
                                  refine R_iaload (pc := 145) dX9_findChains_145 (c_153 _) hx692 ?_
                                  refine R_goto (pc := 146) 153 dX9_findChains_146 (by decide) ?_
                                  refine st_11_9_i_i (pc := 153) dX9_findChains_153 ?_
                                  refine R_iconst (pc := 155) (v := 0) dX9_findChains_155 (by decide) ?_
                                  refine st_11_10_i_i (pc := 156) dX9_findChains_156 ?_
                                  have HL158 : ∀ (q j158 : Nat) (σ158 : Sg), j158 + q = 20 → 0 ≤ j158 → Inv σ158 → R G l yX9_findChains cX9_findChains 11 none 3 0 0 (QV (fun w2 => ∃ σ2, w2 = WW σ2 ∧ Inv σ2)) 158 [(some (.ref 140)), (some (.ref 153)), (some (.int m)), (some (.int u)), (some (.int y1)), (some (.int (nI j31))), (some (.int (nI j41))), (some (.int 1)), (some (.int (σ41.2.2.1 153 (Int32.toNatClampNeg (nI j31))))), (some (.int (σ41.2.2.1 153 (Int32.toNatClampNeg (nI j41))))), (some (.int (nI j158)))] [] (WW σ158) 0 0 := by
                                    intro q
                                    induction q with
                                    | zero =>
                                      intro j158 σ158 hj hs158 hI158
                                      obtain rfl : j158 = 20 := by omega
                                      refine R_iload (pc := 158) dX9_findChains_158 rfl ?_
                                      refine R_iload (pc := 160) dX9_findChains_160 rfl ?_
                                      refine R_icge (pc := 162) 198 dX9_findChains_162 (by decide) (fun _ => ?_) (fun h => absurd (Int32.not_lt.mp (inR_up hr2 (Int32.le_refl _) (by decide)).2) h)
                                      refine inc_11_6_1_i (pc := 198) dX9_findChains_198 ?_
                                      have r694 : inR ((nI j41) + 1) 1 20 := inR_add (show inR (nI j41) 0 19 from hr41) (show inR 1 1 1 from (inR_self _)) (by decide) (by decide)
                                      have e695 := ti_add (l := 1) (h := 20) (show inR (nI j41) 0 19 from hr41) (show inR 1 1 1 from (inR_self _)) (by decide) (by decide)
                                      refine R_goto (pc := 201) 41 dX9_findChains_201 (by decide) ?_
                                      rw [nI_1]
                                      exact ih41 (j41 + 1) _ _ _ _ _ (by omega) (by omega) hI158
                                    | succ q ih158 =>
                                      intro j158 σ158 hj hs158 hI158
                                      have hr158 : inR (nI j158) 0 19 := inR_ix hs158 (show j158 < 20 by omega) (by decide) (by decide) (by decide)
                                      have hlt158 : j158 < 20 := by omega
                                      refine R_iload (pc := 158) dX9_findChains_158 rfl ?_
                                      refine R_iload (pc := 160) dX9_findChains_160 rfl ?_
                                      refine R_icge (pc := 162) 198 dX9_findChains_162 (by decide) (fun b162_696 => ?_) (fun b162_696 => ?_)
                                      · skip
                                        refine inc_11_6_1_i (pc := 198) dX9_findChains_198 ?_
                                        have r697 : inR ((nI j41) + 1) 1 20 := inR_add (show inR (nI j41) 0 19 from hr41) (show inR 1 1 1 from (inR_self _)) (by decide) (by decide)
                                        have e698 := ti_add (l := 1) (h := 20) (show inR (nI j41) 0 19 from hr41) (show inR 1 1 1 from (inR_self _)) (by decide) (by decide)
                                        refine R_goto (pc := 201) 41 dX9_findChains_201 (by decide) ?_
                                        rw [nI_1]
                                        exact ih41 (j41 + 1) _ _ _ _ _ (by omega) (by omega) hI158
                                      · skip
                                        refine R_iload (pc := 165) dX9_findChains_165 rfl ?_
                                        refine R_ifeq (pc := 167) 198 dX9_findChains_167 (by decide) (fun h => absurd h (by decide)) (fun _ => ?_)
                                        refine R_aload_n (pc := 170) dX9_findChains_170 rfl rfl ?_
                                        refine R_iload (pc := 171) dX9_findChains_171 rfl ?_
                                        refine R_aload_n (pc := 173) dX9_findChains_173 rfl rfl ?_
                                        refine R_iload (pc := 174) dX9_findChains_174 rfl ?_
                                        have hx700 : vp_in (nI j158) 20 := (vp_in_nI (by omega) (by decide))
                                        refine R_iaload (pc := 176) dX9_findChains_176 (c_153 _) hx700 ?_
                                        refine R_iload (pc := 177) dX9_findChains_177 rfl ?_
                                        refine R_icne (pc := 179) 187 dX9_findChains_179 (by decide) (fun b179_701 => ?_) (fun b179_701 => ?_)
                                        · skip
                                          refine R_aload_n (pc := 187) dX9_findChains_187 rfl rfl ?_
                                          refine R_iload (pc := 188) dX9_findChains_188 rfl ?_
                                          have hx702 : vp_in (nI j158) 20 := (vp_in_nI (by omega) (by decide))
                                          refine R_iaload (pc := 190) dX9_findChains_190 (c_153 _) hx702 ?_
                                          have hx703 : vp_in (nI j158) 20 := (vp_in_nI (by omega) (by decide))
                                          refine W_iastore (pc := 191) dX9_findChains_191 (c_153 _) hx703 (a_153 _ _) ?_
                                          have hV704 := sa_153 hI158 (Int32.toNatClampNeg (nI j158)) (iva_153 hI158 _ (lt_of_vp hx700))
                                          refine inc_11_10_1_i (pc := 192) dX9_findChains_192 ?_
                                          have r705 : inR ((nI j158) + 1) 1 20 := inR_add (show inR (nI j158) 0 19 from hr158) (show inR 1 1 1 from (inR_self _)) (by decide) (by decide)
                                          have e706 := ti_add (l := 1) (h := 20) (show inR (nI j158) 0 19 from hr158) (show inR 1 1 1 from (inR_self _)) (by decide) (by decide)
                                          refine R_goto (pc := 195) 158 dX9_findChains_195 (by decide) ?_
                                          rw [nI_1]
                                          exact ih158 (j158 + 1) _ (by omega) (by omega) hV704
                                        · skip
                                          refine R_iload (pc := 182) dX9_findChains_182 rfl ?_
                                          refine R_goto (pc := 184) 191 dX9_findChains_184 (by decide) ?_
                                          have hx707 : vp_in (nI j158) 20 := (vp_in_nI (by omega) (by decide))
                                          refine W_iastore (pc := 191) dX9_findChains_191 (c_153 _) hx707 (a_153 _ _) ?_
                                          have hV708 := sa_153 hI158 (Int32.toNatClampNeg (nI j158)) (iva_153 hI41 _ (lt_of_vp hx567))
                                          refine inc_11_10_1_i (pc := 192) dX9_findChains_192 ?_
                                          have r709 : inR ((nI j158) + 1) 1 20 := inR_add (show inR (nI j158) 0 19 from hr158) (show inR 1 1 1 from (inR_self _)) (by decide) (by decide)
                                          have e710 := ti_add (l := 1) (h := 20) (show inR (nI j158) 0 19 from hr158) (show inR 1 1 1 from (inR_self _)) (by decide) (by decide)
                                          refine R_goto (pc := 195) 158 dX9_findChains_195 (by decide) ?_
                                          rw [nI_1]
                                          exact ih158 (j158 + 1) _ (by omega) (by omega) hV708
                                  exact HL158 20 0 _ (by omega) (by omega) hI41
                            · skip
                              refine R_ifeq (pc := 97) 104 dX9_findChains_97 (by decide) (fun _ => ?_) (fun h => absurd (by decide) h)
                              refine R_iconst (pc := 104) (v := 0) dX9_findChains_104 (by decide) ?_
                              refine st_11_7_i_i (pc := 105) dX9_findChains_105 ?_
                              refine R_aload_n (pc := 107) dX9_findChains_107 rfl rfl ?_
                              refine R_iload (pc := 108) dX9_findChains_108 rfl ?_
                              have hx712 : vp_in (nI j31) 20 := (vp_in_nI (by omega) (by decide))
                              refine R_iaload (pc := 110) dX9_findChains_110 (c_153 _) hx712 ?_
                              refine R_aload_n (pc := 111) dX9_findChains_111 rfl rfl ?_
                              refine R_iload (pc := 112) dX9_findChains_112 rfl ?_
                              have hx713 : vp_in (nI j41) 20 := (vp_in_nI (by omega) (by decide))
                              refine R_iaload (pc := 114) dX9_findChains_114 (c_153 _) hx713 ?_
                              refine R_icge (pc := 115) 125 dX9_findChains_115 (by decide) (fun b115_714 => ?_) (fun b115_714 => ?_)
                              · skip
                                refine R_aload_n (pc := 125) dX9_findChains_125 rfl rfl ?_
                                refine R_iload (pc := 126) dX9_findChains_126 rfl ?_
                                have hx715 : vp_in (nI j41) 20 := (vp_in_nI (by omega) (by decide))
                                refine R_iaload (pc := 128) dX9_findChains_128 (c_153 _) hx715 ?_
                                refine st_11_8_i_i (pc := 129) dX9_findChains_129 ?_
                                refine R_aload_n (pc := 131) dX9_findChains_131 rfl rfl ?_
                                refine R_iload (pc := 132) dX9_findChains_132 rfl ?_
                                have hx716 : vp_in (nI j31) 20 := (vp_in_nI (by omega) (by decide))
                                refine R_iaload (pc := 134) dX9_findChains_134 (c_153 _) hx716 ?_
                                refine R_aload_n (pc := 135) dX9_findChains_135 rfl rfl ?_
                                refine R_iload (pc := 136) dX9_findChains_136 rfl ?_
                                have hx717 : vp_in (nI j41) 20 := (vp_in_nI (by omega) (by decide))
                                refine R_iaload (pc := 138) dX9_findChains_138 (c_153 _) hx717 ?_
                                refine R_icge (pc := 139) 149 dX9_findChains_139 (by decide) (fun b139_718 => ?_) (fun b139_718 => ?_)
                                · skip
                                  refine R_aload_n (pc := 149) dX9_findChains_149 rfl rfl ?_
                                  refine R_iload (pc := 150) dX9_findChains_150 rfl ?_
                                  have hx719 : vp_in (nI j31) 20 := (vp_in_nI (by omega) (by decide))
                                  refine R_iaload (pc := 152) dX9_findChains_152 (c_153 _) hx719 ?_
                                  refine st_11_9_i_i (pc := 153) dX9_findChains_153 ?_
                                  refine R_iconst (pc := 155) (v := 0) dX9_findChains_155 (by decide) ?_
                                  refine st_11_10_i_i (pc := 156) dX9_findChains_156 ?_
                                  have HL158 : ∀ (q j158 : Nat) (σ158 : Sg), j158 + q = 20 → 0 ≤ j158 → Inv σ158 → R G l yX9_findChains cX9_findChains 11 none 3 0 0 (QV (fun w2 => ∃ σ2, w2 = WW σ2 ∧ Inv σ2)) 158 [(some (.ref 140)), (some (.ref 153)), (some (.int m)), (some (.int u)), (some (.int y1)), (some (.int (nI j31))), (some (.int (nI j41))), (some (.int 0)), (some (.int (σ41.2.2.1 153 (Int32.toNatClampNeg (nI j41))))), (some (.int (σ41.2.2.1 153 (Int32.toNatClampNeg (nI j31))))), (some (.int (nI j158)))] [] (WW σ158) 0 0 := by
                                    intro q
                                    induction q with
                                    | zero =>
                                      intro j158 σ158 hj hs158 hI158
                                      obtain rfl : j158 = 20 := by omega
                                      refine R_iload (pc := 158) dX9_findChains_158 rfl ?_
                                      refine R_iload (pc := 160) dX9_findChains_160 rfl ?_
                                      refine R_icge (pc := 162) 198 dX9_findChains_162 (by decide) (fun _ => ?_) (fun h => absurd (Int32.not_lt.mp (inR_up hr2 (Int32.le_refl _) (by decide)).2) h)
                                      refine inc_11_6_1_i (pc := 198) dX9_findChains_198 ?_
                                      have r721 : inR ((nI j41) + 1) 1 20 := inR_add (show inR (nI j41) 0 19 from hr41) (show inR 1 1 1 from (inR_self _)) (by decide) (by decide)
                                      have e722 := ti_add (l := 1) (h := 20) (show inR (nI j41) 0 19 from hr41) (show inR 1 1 1 from (inR_self _)) (by decide) (by decide)
                                      refine R_goto (pc := 201) 41 dX9_findChains_201 (by decide) ?_
                                      rw [nI_1]
                                      exact ih41 (j41 + 1) _ _ _ _ _ (by omega) (by omega) hI158
                                    | succ q ih158 =>
                                      intro j158 σ158 hj hs158 hI158
                                      have hr158 : inR (nI j158) 0 19 := inR_ix hs158 (show j158 < 20 by omega) (by decide) (by decide) (by decide)
                                      have hlt158 : j158 < 20 := by omega
                                      refine R_iload (pc := 158) dX9_findChains_158 rfl ?_
                                      refine R_iload (pc := 160) dX9_findChains_160 rfl ?_
                                      refine R_icge (pc := 162) 198 dX9_findChains_162 (by decide) (fun b162_723 => ?_) (fun b162_723 => ?_)
                                      · skip
                                        refine inc_11_6_1_i (pc := 198) dX9_findChains_198 ?_
                                        have r724 : inR ((nI j41) + 1) 1 20 := inR_add (show inR (nI j41) 0 19 from hr41) (show inR 1 1 1 from (inR_self _)) (by decide) (by decide)
                                        have e725 := ti_add (l := 1) (h := 20) (show inR (nI j41) 0 19 from hr41) (show inR 1 1 1 from (inR_self _)) (by decide) (by decide)
                                        refine R_goto (pc := 201) 41 dX9_findChains_201 (by decide) ?_
                                        rw [nI_1]
                                        exact ih41 (j41 + 1) _ _ _ _ _ (by omega) (by omega) hI158
                                      · skip
                                        refine R_iload (pc := 165) dX9_findChains_165 rfl ?_
                                        refine R_ifeq (pc := 167) 198 dX9_findChains_167 (by decide) (fun _ => ?_) (fun h => absurd (by decide) h)
                                        refine inc_11_6_1_i (pc := 198) dX9_findChains_198 ?_
                                        have r727 : inR ((nI j41) + 1) 1 20 := inR_add (show inR (nI j41) 0 19 from hr41) (show inR 1 1 1 from (inR_self _)) (by decide) (by decide)
                                        have e728 := ti_add (l := 1) (h := 20) (show inR (nI j41) 0 19 from hr41) (show inR 1 1 1 from (inR_self _)) (by decide) (by decide)
                                        refine R_goto (pc := 201) 41 dX9_findChains_201 (by decide) ?_
                                        rw [nI_1]
                                        exact ih41 (j41 + 1) _ _ _ _ _ (by omega) (by omega) hI158
                                  exact HL158 20 0 _ (by omega) (by omega) hI41
                                · skip
                                  refine R_aload_n (pc := 142) dX9_findChains_142 rfl rfl ?_
                                  refine R_iload (pc := 143) dX9_findChains_143 rfl ?_
                                  have hx729 : vp_in (nI j41) 20 := (vp_in_nI (by omega) (by decide))
                                  refine R_iaload (pc := 145) dX9_findChains_145 (c_153 _) hx729 ?_
                                  refine R_goto (pc := 146) 153 dX9_findChains_146 (by decide) ?_
                                  refine st_11_9_i_i (pc := 153) dX9_findChains_153 ?_
                                  refine R_iconst (pc := 155) (v := 0) dX9_findChains_155 (by decide) ?_
                                  refine st_11_10_i_i (pc := 156) dX9_findChains_156 ?_
                                  have HL158 : ∀ (q j158 : Nat) (σ158 : Sg), j158 + q = 20 → 0 ≤ j158 → Inv σ158 → R G l yX9_findChains cX9_findChains 11 none 3 0 0 (QV (fun w2 => ∃ σ2, w2 = WW σ2 ∧ Inv σ2)) 158 [(some (.ref 140)), (some (.ref 153)), (some (.int m)), (some (.int u)), (some (.int y1)), (some (.int (nI j31))), (some (.int (nI j41))), (some (.int 0)), (some (.int (σ41.2.2.1 153 (Int32.toNatClampNeg (nI j41))))), (some (.int (σ41.2.2.1 153 (Int32.toNatClampNeg (nI j41))))), (some (.int (nI j158)))] [] (WW σ158) 0 0 := by
                                    intro q
                                    induction q with
                                    | zero =>
                                      intro j158 σ158 hj hs158 hI158
                                      obtain rfl : j158 = 20 := by omega
                                      refine R_iload (pc := 158) dX9_findChains_158 rfl ?_
                                      refine R_iload (pc := 160) dX9_findChains_160 rfl ?_
                                      refine R_icge (pc := 162) 198 dX9_findChains_162 (by decide) (fun _ => ?_) (fun h => absurd (Int32.not_lt.mp (inR_up hr2 (Int32.le_refl _) (by decide)).2) h)
                                      refine inc_11_6_1_i (pc := 198) dX9_findChains_198 ?_
                                      have r731 : inR ((nI j41) + 1) 1 20 := inR_add (show inR (nI j41) 0 19 from hr41) (show inR 1 1 1 from (inR_self _)) (by decide) (by decide)
                                      have e732 := ti_add (l := 1) (h := 20) (show inR (nI j41) 0 19 from hr41) (show inR 1 1 1 from (inR_self _)) (by decide) (by decide)
                                      refine R_goto (pc := 201) 41 dX9_findChains_201 (by decide) ?_
                                      rw [nI_1]
                                      exact ih41 (j41 + 1) _ _ _ _ _ (by omega) (by omega) hI158
                                    | succ q ih158 =>
                                      intro j158 σ158 hj hs158 hI158
                                      have hr158 : inR (nI j158) 0 19 := inR_ix hs158 (show j158 < 20 by omega) (by decide) (by decide) (by decide)
                                      have hlt158 : j158 < 20 := by omega
                                      refine R_iload (pc := 158) dX9_findChains_158 rfl ?_
                                      refine R_iload (pc := 160) dX9_findChains_160 rfl ?_
                                      refine R_icge (pc := 162) 198 dX9_findChains_162 (by decide) (fun b162_733 => ?_) (fun b162_733 => ?_)
                                      · skip
                                        refine inc_11_6_1_i (pc := 198) dX9_findChains_198 ?_
                                        have r734 : inR ((nI j41) + 1) 1 20 := inR_add (show inR (nI j41) 0 19 from hr41) (show inR 1 1 1 from (inR_self _)) (by decide) (by decide)
                                        have e735 := ti_add (l := 1) (h := 20) (show inR (nI j41) 0 19 from hr41) (show inR 1 1 1 from (inR_self _)) (by decide) (by decide)
                                        refine R_goto (pc := 201) 41 dX9_findChains_201 (by decide) ?_
                                        rw [nI_1]
                                        exact ih41 (j41 + 1) _ _ _ _ _ (by omega) (by omega) hI158
                                      · skip
                                        refine R_iload (pc := 165) dX9_findChains_165 rfl ?_
                                        refine R_ifeq (pc := 167) 198 dX9_findChains_167 (by decide) (fun _ => ?_) (fun h => absurd (by decide) h)
                                        refine inc_11_6_1_i (pc := 198) dX9_findChains_198 ?_
                                        have r737 : inR ((nI j41) + 1) 1 20 := inR_add (show inR (nI j41) 0 19 from hr41) (show inR 1 1 1 from (inR_self _)) (by decide) (by decide)
                                        have e738 := ti_add (l := 1) (h := 20) (show inR (nI j41) 0 19 from hr41) (show inR 1 1 1 from (inR_self _)) (by decide) (by decide)
                                        refine R_goto (pc := 201) 41 dX9_findChains_201 (by decide) ?_
                                        rw [nI_1]
                                        exact ih41 (j41 + 1) _ _ _ _ _ (by omega) (by omega) hI158
                                  exact HL158 20 0 _ (by omega) (by omega) hI41
                              · skip
                                refine R_aload_n (pc := 118) dX9_findChains_118 rfl rfl ?_
                                refine R_iload (pc := 119) dX9_findChains_119 rfl ?_
                                have hx739 : vp_in (nI j31) 20 := (vp_in_nI (by omega) (by decide))
                                refine R_iaload (pc := 121) dX9_findChains_121 (c_153 _) hx739 ?_
                                refine R_goto (pc := 122) 129 dX9_findChains_122 (by decide) ?_
                                refine st_11_8_i_i (pc := 129) dX9_findChains_129 ?_
                                refine R_aload_n (pc := 131) dX9_findChains_131 rfl rfl ?_
                                refine R_iload (pc := 132) dX9_findChains_132 rfl ?_
                                have hx740 : vp_in (nI j31) 20 := (vp_in_nI (by omega) (by decide))
                                refine R_iaload (pc := 134) dX9_findChains_134 (c_153 _) hx740 ?_
                                refine R_aload_n (pc := 135) dX9_findChains_135 rfl rfl ?_
                                refine R_iload (pc := 136) dX9_findChains_136 rfl ?_
                                have hx741 : vp_in (nI j41) 20 := (vp_in_nI (by omega) (by decide))
                                refine R_iaload (pc := 138) dX9_findChains_138 (c_153 _) hx741 ?_
                                refine R_icge (pc := 139) 149 dX9_findChains_139 (by decide) (fun b139_742 => ?_) (fun b139_742 => ?_)
                                · skip
                                  refine R_aload_n (pc := 149) dX9_findChains_149 rfl rfl ?_
                                  refine R_iload (pc := 150) dX9_findChains_150 rfl ?_
                                  have hx743 : vp_in (nI j31) 20 := (vp_in_nI (by omega) (by decide))
                                  refine R_iaload (pc := 152) dX9_findChains_152 (c_153 _) hx743 ?_
                                  refine st_11_9_i_i (pc := 153) dX9_findChains_153 ?_
                                  refine R_iconst (pc := 155) (v := 0) dX9_findChains_155 (by decide) ?_
                                  refine st_11_10_i_i (pc := 156) dX9_findChains_156 ?_
                                  have HL158 : ∀ (q j158 : Nat) (σ158 : Sg), j158 + q = 20 → 0 ≤ j158 → Inv σ158 → R G l yX9_findChains cX9_findChains 11 none 3 0 0 (QV (fun w2 => ∃ σ2, w2 = WW σ2 ∧ Inv σ2)) 158 [(some (.ref 140)), (some (.ref 153)), (some (.int m)), (some (.int u)), (some (.int y1)), (some (.int (nI j31))), (some (.int (nI j41))), (some (.int 0)), (some (.int (σ41.2.2.1 153 (Int32.toNatClampNeg (nI j31))))), (some (.int (σ41.2.2.1 153 (Int32.toNatClampNeg (nI j31))))), (some (.int (nI j158)))] [] (WW σ158) 0 0 := by
                                    intro q
                                    induction q with
                                    | zero =>
                                      intro j158 σ158 hj hs158 hI158
                                      obtain rfl : j158 = 20 := by omega
                                      refine R_iload (pc := 158) dX9_findChains_158 rfl ?_
                                      refine R_iload (pc := 160) dX9_findChains_160 rfl ?_
                                      refine R_icge (pc := 162) 198 dX9_findChains_162 (by decide) (fun _ => ?_) (fun h => absurd (Int32.not_lt.mp (inR_up hr2 (Int32.le_refl _) (by decide)).2) h)
                                      refine inc_11_6_1_i (pc := 198) dX9_findChains_198 ?_
                                      have r745 : inR ((nI j41) + 1) 1 20 := inR_add (show inR (nI j41) 0 19 from hr41) (show inR 1 1 1 from (inR_self _)) (by decide) (by decide)
                                      have e746 := ti_add (l := 1) (h := 20) (show inR (nI j41) 0 19 from hr41) (show inR 1 1 1 from (inR_self _)) (by decide) (by decide)
                                      refine R_goto (pc := 201) 41 dX9_findChains_201 (by decide) ?_
                                      rw [nI_1]
                                      exact ih41 (j41 + 1) _ _ _ _ _ (by omega) (by omega) hI158
                                    | succ q ih158 =>
                                      intro j158 σ158 hj hs158 hI158
                                      have hr158 : inR (nI j158) 0 19 := inR_ix hs158 (show j158 < 20 by omega) (by decide) (by decide) (by decide)
                                      have hlt158 : j158 < 20 := by omega
                                      refine R_iload (pc := 158) dX9_findChains_158 rfl ?_
                                      refine R_iload (pc := 160) dX9_findChains_160 rfl ?_
                                      refine R_icge (pc := 162) 198 dX9_findChains_162 (by decide) (fun b162_747 => ?_) (fun b162_747 => ?_)
                                      · skip
                                        refine inc_11_6_1_i (pc := 198) dX9_findChains_198 ?_
                                        have r748 : inR ((nI j41) + 1) 1 20 := inR_add (show inR (nI j41) 0 19 from hr41) (show inR 1 1 1 from (inR_self _)) (by decide) (by decide)
                                        have e749 := ti_add (l := 1) (h := 20) (show inR (nI j41) 0 19 from hr41) (show inR 1 1 1 from (inR_self _)) (by decide) (by decide)
                                        refine R_goto (pc := 201) 41 dX9_findChains_201 (by decide) ?_
                                        rw [nI_1]
                                        exact ih41 (j41 + 1) _ _ _ _ _ (by omega) (by omega) hI158
                                      · skip
                                        refine R_iload (pc := 165) dX9_findChains_165 rfl ?_
                                        refine R_ifeq (pc := 167) 198 dX9_findChains_167 (by decide) (fun _ => ?_) (fun h => absurd (by decide) h)
                                        refine inc_11_6_1_i (pc := 198) dX9_findChains_198 ?_
                                        have r751 : inR ((nI j41) + 1) 1 20 := inR_add (show inR (nI j41) 0 19 from hr41) (show inR 1 1 1 from (inR_self _)) (by decide) (by decide)
                                        have e752 := ti_add (l := 1) (h := 20) (show inR (nI j41) 0 19 from hr41) (show inR 1 1 1 from (inR_self _)) (by decide) (by decide)
                                        refine R_goto (pc := 201) 41 dX9_findChains_201 (by decide) ?_
                                        rw [nI_1]
                                        exact ih41 (j41 + 1) _ _ _ _ _ (by omega) (by omega) hI158
                                  exact HL158 20 0 _ (by omega) (by omega) hI41
                                · skip
                                  refine R_aload_n (pc := 142) dX9_findChains_142 rfl rfl ?_
                                  refine R_iload (pc := 143) dX9_findChains_143 rfl ?_
                                  have hx753 : vp_in (nI j41) 20 := (vp_in_nI (by omega) (by decide))
                                  refine R_iaload (pc := 145) dX9_findChains_145 (c_153 _) hx753 ?_
                                  refine R_goto (pc := 146) 153 dX9_findChains_146 (by decide) ?_
                                  refine st_11_9_i_i (pc := 153) dX9_findChains_153 ?_
                                  refine R_iconst (pc := 155) (v := 0) dX9_findChains_155 (by decide) ?_
                                  refine st_11_10_i_i (pc := 156) dX9_findChains_156 ?_
                                  have HL158 : ∀ (q j158 : Nat) (σ158 : Sg), j158 + q = 20 → 0 ≤ j158 → Inv σ158 → R G l yX9_findChains cX9_findChains 11 none 3 0 0 (QV (fun w2 => ∃ σ2, w2 = WW σ2 ∧ Inv σ2)) 158 [(some (.ref 140)), (some (.ref 153)), (some (.int m)), (some (.int u)), (some (.int y1)), (some (.int (nI j31))), (some (.int (nI j41))), (some (.int 0)), (some (.int (σ41.2.2.1 153 (Int32.toNatClampNeg (nI j31))))), (some (.int (σ41.2.2.1 153 (Int32.toNatClampNeg (nI j41))))), (some (.int (nI j158)))] [] (WW σ158) 0 0 := by
                                    intro q
                                    induction q with
                                    | zero =>
                                      intro j158 σ158 hj hs158 hI158
                                      obtain rfl : j158 = 20 := by omega
                                      refine R_iload (pc := 158) dX9_findChains_158 rfl ?_
                                      refine R_iload (pc := 160) dX9_findChains_160 rfl ?_
                                      refine R_icge (pc := 162) 198 dX9_findChains_162 (by decide) (fun _ => ?_) (fun h => absurd (Int32.not_lt.mp (inR_up hr2 (Int32.le_refl _) (by decide)).2) h)
                                      refine inc_11_6_1_i (pc := 198) dX9_findChains_198 ?_
                                      have r755 : inR ((nI j41) + 1) 1 20 := inR_add (show inR (nI j41) 0 19 from hr41) (show inR 1 1 1 from (inR_self _)) (by decide) (by decide)
                                      have e756 := ti_add (l := 1) (h := 20) (show inR (nI j41) 0 19 from hr41) (show inR 1 1 1 from (inR_self _)) (by decide) (by decide)
                                      refine R_goto (pc := 201) 41 dX9_findChains_201 (by decide) ?_
                                      rw [nI_1]
                                      exact ih41 (j41 + 1) _ _ _ _ _ (by omega) (by omega) hI158
                                    | succ q ih158 =>
                                      intro j158 σ158 hj hs158 hI158
                                      have hr158 : inR (nI j158) 0 19 := inR_ix hs158 (show j158 < 20 by omega) (by decide) (by decide) (by decide)
                                      have hlt158 : j158 < 20 := by omega
                                      refine R_iload (pc := 158) dX9_findChains_158 rfl ?_
                                      refine R_iload (pc := 160) dX9_findChains_160 rfl ?_
                                      refine R_icge (pc := 162) 198 dX9_findChains_162 (by decide) (fun b162_757 => ?_) (fun b162_757 => ?_)
                                      · skip
                                        refine inc_11_6_1_i (pc := 198) dX9_findChains_198 ?_
                                        have r758 : inR ((nI j41) + 1) 1 20 := inR_add (show inR (nI j41) 0 19 from hr41) (show inR 1 1 1 from (inR_self _)) (by decide) (by decide)
                                        have e759 := ti_add (l := 1) (h := 20) (show inR (nI j41) 0 19 from hr41) (show inR 1 1 1 from (inR_self _)) (by decide) (by decide)
                                        refine R_goto (pc := 201) 41 dX9_findChains_201 (by decide) ?_
                                        rw [nI_1]
                                        exact ih41 (j41 + 1) _ _ _ _ _ (by omega) (by omega) hI158
                                      · skip
                                        refine R_iload (pc := 165) dX9_findChains_165 rfl ?_
                                        refine R_ifeq (pc := 167) 198 dX9_findChains_167 (by decide) (fun _ => ?_) (fun h => absurd (by decide) h)
                                        refine inc_11_6_1_i (pc := 198) dX9_findChains_198 ?_
                                        have r761 : inR ((nI j41) + 1) 1 20 := inR_add (show inR (nI j41) 0 19 from hr41) (show inR 1 1 1 from (inR_self _)) (by decide) (by decide)
                                        have e762 := ti_add (l := 1) (h := 20) (show inR (nI j41) 0 19 from hr41) (show inR 1 1 1 from (inR_self _)) (by decide) (by decide)
                                        refine R_goto (pc := 201) 41 dX9_findChains_201 (by decide) ?_
                                        rw [nI_1]
                                        exact ih41 (j41 + 1) _ _ _ _ _ (by omega) (by omega) hI158
                                  exact HL158 20 0 _ (by omega) (by omega) hI41
                          · skip
                            refine R_aload_n (pc := 75) dX9_findChains_75 rfl rfl ?_
                            refine R_iload (pc := 76) dX9_findChains_76 rfl ?_
                            refine R_iload (pc := 78) dX9_findChains_78 rfl ?_
                            refine k_X9_159 (pc := 80) (gx_X9_isMatch _ _ _ hI41 hr31 hr41) rfl (c_140 _) (by decide) (Nat.le_refl _) (Nat.le_refl _) (Nat.le_of_ble_eq_true rfl) dX9_findChains_80 (fun y763 w2 h => ?_)
                            obtain ⟨σx765, rfl, hV764⟩ := h
                            refine R_ifeq (pc := 83) 104 dX9_findChains_83 (by decide) (fun b83_766 => ?_) (fun b83_766 => ?_)
                            · skip
                              refine R_iconst (pc := 104) (v := 0) dX9_findChains_104 (by decide) ?_
                              refine st_11_7_i_i (pc := 105) dX9_findChains_105 ?_
                              refine R_aload_n (pc := 107) dX9_findChains_107 rfl rfl ?_
                              refine R_iload (pc := 108) dX9_findChains_108 rfl ?_
                              have hx767 : vp_in (nI j31) 20 := (vp_in_nI (by omega) (by decide))
                              refine R_iaload (pc := 110) dX9_findChains_110 (c_153 _) hx767 ?_
                              refine R_aload_n (pc := 111) dX9_findChains_111 rfl rfl ?_
                              refine R_iload (pc := 112) dX9_findChains_112 rfl ?_
                              have hx768 : vp_in (nI j41) 20 := (vp_in_nI (by omega) (by decide))
                              refine R_iaload (pc := 114) dX9_findChains_114 (c_153 _) hx768 ?_
                              refine R_icge (pc := 115) 125 dX9_findChains_115 (by decide) (fun b115_769 => ?_) (fun b115_769 => ?_)
                              · skip
                                refine R_aload_n (pc := 125) dX9_findChains_125 rfl rfl ?_
                                refine R_iload (pc := 126) dX9_findChains_126 rfl ?_
                                have hx770 : vp_in (nI j41) 20 := (vp_in_nI (by omega) (by decide))
                                refine R_iaload (pc := 128) dX9_findChains_128 (c_153 _) hx770 ?_
                                refine st_11_8_i_i (pc := 129) dX9_findChains_129 ?_
                                refine R_aload_n (pc := 131) dX9_findChains_131 rfl rfl ?_
                                refine R_iload (pc := 132) dX9_findChains_132 rfl ?_
                                have hx771 : vp_in (nI j31) 20 := (vp_in_nI (by omega) (by decide))
                                refine R_iaload (pc := 134) dX9_findChains_134 (c_153 _) hx771 ?_
                                refine R_aload_n (pc := 135) dX9_findChains_135 rfl rfl ?_
                                refine R_iload (pc := 136) dX9_findChains_136 rfl ?_
                                have hx772 : vp_in (nI j41) 20 := (vp_in_nI (by omega) (by decide))
                                refine R_iaload (pc := 138) dX9_findChains_138 (c_153 _) hx772 ?_
                                refine R_icge (pc := 139) 149 dX9_findChains_139 (by decide) (fun b139_773 => ?_) (fun b139_773 => ?_)
                                · skip
                                  refine R_aload_n (pc := 149) dX9_findChains_149 rfl rfl ?_
                                  refine R_iload (pc := 150) dX9_findChains_150 rfl ?_
                                  have hx774 : vp_in (nI j31) 20 := (vp_in_nI (by omega) (by decide))
                                  refine R_iaload (pc := 152) dX9_findChains_152 (c_153 _) hx774 ?_
                                  refine st_11_9_i_i (pc := 153) dX9_findChains_153 ?_
                                  refine R_iconst (pc := 155) (v := 0) dX9_findChains_155 (by decide) ?_
                                  refine st_11_10_i_i (pc := 156) dX9_findChains_156 ?_
                                  have HL158 : ∀ (q j158 : Nat) (σ158 : Sg), j158 + q = 20 → 0 ≤ j158 → Inv σ158 → R G l yX9_findChains cX9_findChains 11 none 3 0 0 (QV (fun w2 => ∃ σ2, w2 = WW σ2 ∧ Inv σ2)) 158 [(some (.ref 140)), (some (.ref 153)), (some (.int m)), (some (.int u)), (some (.int y1)), (some (.int (nI j31))), (some (.int (nI j41))), (some (.int 0)), (some (.int (σx765.2.2.1 153 (Int32.toNatClampNeg (nI j41))))), (some (.int (σx765.2.2.1 153 (Int32.toNatClampNeg (nI j31))))), (some (.int (nI j158)))] [] (WW σ158) 0 0 := by
                                    intro q
                                    induction q with
                                    | zero =>
                                      intro j158 σ158 hj hs158 hI158
                                      obtain rfl : j158 = 20 := by omega
                                      refine R_iload (pc := 158) dX9_findChains_158 rfl ?_
                                      refine R_iload (pc := 160) dX9_findChains_160 rfl ?_
                                      refine R_icge (pc := 162) 198 dX9_findChains_162 (by decide) (fun _ => ?_) (fun h => absurd (Int32.not_lt.mp (inR_up hr2 (Int32.le_refl _) (by decide)).2) h)
                                      refine inc_11_6_1_i (pc := 198) dX9_findChains_198 ?_
                                      have r776 : inR ((nI j41) + 1) 1 20 := inR_add (show inR (nI j41) 0 19 from hr41) (show inR 1 1 1 from (inR_self _)) (by decide) (by decide)
                                      have e777 := ti_add (l := 1) (h := 20) (show inR (nI j41) 0 19 from hr41) (show inR 1 1 1 from (inR_self _)) (by decide) (by decide)
                                      refine R_goto (pc := 201) 41 dX9_findChains_201 (by decide) ?_
                                      rw [nI_1]
                                      exact ih41 (j41 + 1) _ _ _ _ _ (by omega) (by omega) hI158
                                    | succ q ih158 =>
                                      intro j158 σ158 hj hs158 hI158
                                      have hr158 : inR (nI j158) 0 19 := inR_ix hs158 (show j158 < 20 by omega) (by decide) (by decide) (by decide)
                                      have hlt158 : j158 < 20 := by omega
                                      refine R_iload (pc := 158) dX9_findChains_158 rfl ?_
                                      refine R_iload (pc := 160) dX9_findChains_160 rfl ?_
                                      refine R_icge (pc := 162) 198 dX9_findChains_162 (by decide) (fun b162_778 => ?_) (fun b162_778 => ?_)
                                      · skip
                                        refine inc_11_6_1_i (pc := 198) dX9_findChains_198 ?_
                                        have r779 : inR ((nI j41) + 1) 1 20 := inR_add (show inR (nI j41) 0 19 from hr41) (show inR 1 1 1 from (inR_self _)) (by decide) (by decide)
                                        have e780 := ti_add (l := 1) (h := 20) (show inR (nI j41) 0 19 from hr41) (show inR 1 1 1 from (inR_self _)) (by decide) (by decide)
                                        refine R_goto (pc := 201) 41 dX9_findChains_201 (by decide) ?_
                                        rw [nI_1]
                                        exact ih41 (j41 + 1) _ _ _ _ _ (by omega) (by omega) hI158
                                      · skip
                                        refine R_iload (pc := 165) dX9_findChains_165 rfl ?_
                                        refine R_ifeq (pc := 167) 198 dX9_findChains_167 (by decide) (fun _ => ?_) (fun h => absurd (by decide) h)
                                        refine inc_11_6_1_i (pc := 198) dX9_findChains_198 ?_
                                        have r782 : inR ((nI j41) + 1) 1 20 := inR_add (show inR (nI j41) 0 19 from hr41) (show inR 1 1 1 from (inR_self _)) (by decide) (by decide)
                                        have e783 := ti_add (l := 1) (h := 20) (show inR (nI j41) 0 19 from hr41) (show inR 1 1 1 from (inR_self _)) (by decide) (by decide)
                                        refine R_goto (pc := 201) 41 dX9_findChains_201 (by decide) ?_
                                        rw [nI_1]
                                        exact ih41 (j41 + 1) _ _ _ _ _ (by omega) (by omega) hI158
                                  exact HL158 20 0 _ (by omega) (by omega) hV764
                                · skip
                                  refine R_aload_n (pc := 142) dX9_findChains_142 rfl rfl ?_
                                  refine R_iload (pc := 143) dX9_findChains_143 rfl ?_
                                  have hx784 : vp_in (nI j41) 20 := (vp_in_nI (by omega) (by decide))
                                  refine R_iaload (pc := 145) dX9_findChains_145 (c_153 _) hx784 ?_
                                  refine R_goto (pc := 146) 153 dX9_findChains_146 (by decide) ?_
                                  refine st_11_9_i_i (pc := 153) dX9_findChains_153 ?_
                                  refine R_iconst (pc := 155) (v := 0) dX9_findChains_155 (by decide) ?_
                                  refine st_11_10_i_i (pc := 156) dX9_findChains_156 ?_
                                  have HL158 : ∀ (q j158 : Nat) (σ158 : Sg), j158 + q = 20 → 0 ≤ j158 → Inv σ158 → R G l yX9_findChains cX9_findChains 11 none 3 0 0 (QV (fun w2 => ∃ σ2, w2 = WW σ2 ∧ Inv σ2)) 158 [(some (.ref 140)), (some (.ref 153)), (some (.int m)), (some (.int u)), (some (.int y1)), (some (.int (nI j31))), (some (.int (nI j41))), (some (.int 0)), (some (.int (σx765.2.2.1 153 (Int32.toNatClampNeg (nI j41))))), (some (.int (σx765.2.2.1 153 (Int32.toNatClampNeg (nI j41))))), (some (.int (nI j158)))] [] (WW σ158) 0 0 := by
                                    intro q
                                    induction q with
                                    | zero =>
                                      intro j158 σ158 hj hs158 hI158
                                      obtain rfl : j158 = 20 := by omega
                                      refine R_iload (pc := 158) dX9_findChains_158 rfl ?_
                                      refine R_iload (pc := 160) dX9_findChains_160 rfl ?_
                                      refine R_icge (pc := 162) 198 dX9_findChains_162 (by decide) (fun _ => ?_) (fun h => absurd (Int32.not_lt.mp (inR_up hr2 (Int32.le_refl _) (by decide)).2) h)
                                      refine inc_11_6_1_i (pc := 198) dX9_findChains_198 ?_
                                      have r786 : inR ((nI j41) + 1) 1 20 := inR_add (show inR (nI j41) 0 19 from hr41) (show inR 1 1 1 from (inR_self _)) (by decide) (by decide)
                                      have e787 := ti_add (l := 1) (h := 20) (show inR (nI j41) 0 19 from hr41) (show inR 1 1 1 from (inR_self _)) (by decide) (by decide)
                                      refine R_goto (pc := 201) 41 dX9_findChains_201 (by decide) ?_
                                      rw [nI_1]
                                      exact ih41 (j41 + 1) _ _ _ _ _ (by omega) (by omega) hI158
                                    | succ q ih158 =>
                                      intro j158 σ158 hj hs158 hI158
                                      have hr158 : inR (nI j158) 0 19 := inR_ix hs158 (show j158 < 20 by omega) (by decide) (by decide) (by decide)
                                      have hlt158 : j158 < 20 := by omega
                                      refine R_iload (pc := 158) dX9_findChains_158 rfl ?_
                                      refine R_iload (pc := 160) dX9_findChains_160 rfl ?_
                                      refine R_icge (pc := 162) 198 dX9_findChains_162 (by decide) (fun b162_788 => ?_) (fun b162_788 => ?_)
                                      · skip
                                        refine inc_11_6_1_i (pc := 198) dX9_findChains_198 ?_
                                        have r789 : inR ((nI j41) + 1) 1 20 := inR_add (show inR (nI j41) 0 19 from hr41) (show inR 1 1 1 from (inR_self _)) (by decide) (by decide)
                                        have e790 := ti_add (l := 1) (h := 20) (show inR (nI j41) 0 19 from hr41) (show inR 1 1 1 from (inR_self _)) (by decide) (by decide)
                                        refine R_goto (pc := 201) 41 dX9_findChains_201 (by decide) ?_
                                        rw [nI_1]
                                        exact ih41 (j41 + 1) _ _ _ _ _ (by omega) (by omega) hI158
                                      · skip
                                        refine R_iload (pc := 165) dX9_findChains_165 rfl ?_
                                        refine R_ifeq (pc := 167) 198 dX9_findChains_167 (by decide) (fun _ => ?_) (fun h => absurd (by decide) h)
                                        refine inc_11_6_1_i (pc := 198) dX9_findChains_198 ?_
                                        have r792 : inR ((nI j41) + 1) 1 20 := inR_add (show inR (nI j41) 0 19 from hr41) (show inR 1 1 1 from (inR_self _)) (by decide) (by decide)
                                        have e793 := ti_add (l := 1) (h := 20) (show inR (nI j41) 0 19 from hr41) (show inR 1 1 1 from (inR_self _)) (by decide) (by decide)
                                        refine R_goto (pc := 201) 41 dX9_findChains_201 (by decide) ?_
                                        rw [nI_1]
                                        exact ih41 (j41 + 1) _ _ _ _ _ (by omega) (by omega) hI158
                                  exact HL158 20 0 _ (by omega) (by omega) hV764
                              · skip
                                refine R_aload_n (pc := 118) dX9_findChains_118 rfl rfl ?_
                                refine R_iload (pc := 119) dX9_findChains_119 rfl ?_
                                have hx794 : vp_in (nI j31) 20 := (vp_in_nI (by omega) (by decide))
                                refine R_iaload (pc := 121) dX9_findChains_121 (c_153 _) hx794 ?_
                                refine R_goto (pc := 122) 129 dX9_findChains_122 (by decide) ?_
                                refine st_11_8_i_i (pc := 129) dX9_findChains_129 ?_
                                refine R_aload_n (pc := 131) dX9_findChains_131 rfl rfl ?_
                                refine R_iload (pc := 132) dX9_findChains_132 rfl ?_
                                have hx795 : vp_in (nI j31) 20 := (vp_in_nI (by omega) (by decide))
                                refine R_iaload (pc := 134) dX9_findChains_134 (c_153 _) hx795 ?_
                                refine R_aload_n (pc := 135) dX9_findChains_135 rfl rfl ?_
                                refine R_iload (pc := 136) dX9_findChains_136 rfl ?_
                                have hx796 : vp_in (nI j41) 20 := (vp_in_nI (by omega) (by decide))
                                refine R_iaload (pc := 138) dX9_findChains_138 (c_153 _) hx796 ?_
                                refine R_icge (pc := 139) 149 dX9_findChains_139 (by decide) (fun b139_797 => ?_) (fun b139_797 => ?_)
                                · skip
                                  refine R_aload_n (pc := 149) dX9_findChains_149 rfl rfl ?_
                                  refine R_iload (pc := 150) dX9_findChains_150 rfl ?_
                                  have hx798 : vp_in (nI j31) 20 := (vp_in_nI (by omega) (by decide))
                                  refine R_iaload (pc := 152) dX9_findChains_152 (c_153 _) hx798 ?_
                                  refine st_11_9_i_i (pc := 153) dX9_findChains_153 ?_
                                  refine R_iconst (pc := 155) (v := 0) dX9_findChains_155 (by decide) ?_
                                  refine st_11_10_i_i (pc := 156) dX9_findChains_156 ?_
                                  have HL158 : ∀ (q j158 : Nat) (σ158 : Sg), j158 + q = 20 → 0 ≤ j158 → Inv σ158 → R G l yX9_findChains cX9_findChains 11 none 3 0 0 (QV (fun w2 => ∃ σ2, w2 = WW σ2 ∧ Inv σ2)) 158 [(some (.ref 140)), (some (.ref 153)), (some (.int m)), (some (.int u)), (some (.int y1)), (some (.int (nI j31))), (some (.int (nI j41))), (some (.int 0)), (some (.int (σx765.2.2.1 153 (Int32.toNatClampNeg (nI j31))))), (some (.int (σx765.2.2.1 153 (Int32.toNatClampNeg (nI j31))))), (some (.int (nI j158)))] [] (WW σ158) 0 0 := by
                                    intro q
                                    induction q with
                                    | zero =>
                                      intro j158 σ158 hj hs158 hI158
                                      obtain rfl : j158 = 20 := by omega
                                      refine R_iload (pc := 158) dX9_findChains_158 rfl ?_
                                      refine R_iload (pc := 160) dX9_findChains_160 rfl ?_
                                      refine R_icge (pc := 162) 198 dX9_findChains_162 (by decide) (fun _ => ?_) (fun h => absurd (Int32.not_lt.mp (inR_up hr2 (Int32.le_refl _) (by decide)).2) h)
                                      refine inc_11_6_1_i (pc := 198) dX9_findChains_198 ?_
                                      have r800 : inR ((nI j41) + 1) 1 20 := inR_add (show inR (nI j41) 0 19 from hr41) (show inR 1 1 1 from (inR_self _)) (by decide) (by decide)
                                      have e801 := ti_add (l := 1) (h := 20) (show inR (nI j41) 0 19 from hr41) (show inR 1 1 1 from (inR_self _)) (by decide) (by decide)
                                      refine R_goto (pc := 201) 41 dX9_findChains_201 (by decide) ?_
                                      rw [nI_1]
                                      exact ih41 (j41 + 1) _ _ _ _ _ (by omega) (by omega) hI158
                                    | succ q ih158 =>
                                      intro j158 σ158 hj hs158 hI158
                                      have hr158 : inR (nI j158) 0 19 := inR_ix hs158 (show j158 < 20 by omega) (by decide) (by decide) (by decide)
                                      have hlt158 : j158 < 20 := by omega
                                      refine R_iload (pc := 158) dX9_findChains_158 rfl ?_
                                      refine R_iload (pc := 160) dX9_findChains_160 rfl ?_
                                      refine R_icge (pc := 162) 198 dX9_findChains_162 (by decide) (fun b162_802 => ?_) (fun b162_802 => ?_)
                                      · skip
                                        refine inc_11_6_1_i (pc := 198) dX9_findChains_198 ?_
                                        have r803 : inR ((nI j41) + 1) 1 20 := inR_add (show inR (nI j41) 0 19 from hr41) (show inR 1 1 1 from (inR_self _)) (by decide) (by decide)
                                        have e804 := ti_add (l := 1) (h := 20) (show inR (nI j41) 0 19 from hr41) (show inR 1 1 1 from (inR_self _)) (by decide) (by decide)
                                        refine R_goto (pc := 201) 41 dX9_findChains_201 (by decide) ?_
                                        rw [nI_1]
                                        exact ih41 (j41 + 1) _ _ _ _ _ (by omega) (by omega) hI158
                                      · skip
                                        refine R_iload (pc := 165) dX9_findChains_165 rfl ?_
                                        refine R_ifeq (pc := 167) 198 dX9_findChains_167 (by decide) (fun _ => ?_) (fun h => absurd (by decide) h)
                                        refine inc_11_6_1_i (pc := 198) dX9_findChains_198 ?_
                                        have r806 : inR ((nI j41) + 1) 1 20 := inR_add (show inR (nI j41) 0 19 from hr41) (show inR 1 1 1 from (inR_self _)) (by decide) (by decide)
                                        have e807 := ti_add (l := 1) (h := 20) (show inR (nI j41) 0 19 from hr41) (show inR 1 1 1 from (inR_self _)) (by decide) (by decide)
                                        refine R_goto (pc := 201) 41 dX9_findChains_201 (by decide) ?_
                                        rw [nI_1]
                                        exact ih41 (j41 + 1) _ _ _ _ _ (by omega) (by omega) hI158
                                  exact HL158 20 0 _ (by omega) (by omega) hV764
                                · skip
                                  refine R_aload_n (pc := 142) dX9_findChains_142 rfl rfl ?_
                                  refine R_iload (pc := 143) dX9_findChains_143 rfl ?_
                                  have hx808 : vp_in (nI j41) 20 := (vp_in_nI (by omega) (by decide))
                                  refine R_iaload (pc := 145) dX9_findChains_145 (c_153 _) hx808 ?_
                                  refine R_goto (pc := 146) 153 dX9_findChains_146 (by decide) ?_
                                  refine st_11_9_i_i (pc := 153) dX9_findChains_153 ?_
                                  refine R_iconst (pc := 155) (v := 0) dX9_findChains_155 (by decide) ?_
                                  refine st_11_10_i_i (pc := 156) dX9_findChains_156 ?_
                                  have HL158 : ∀ (q j158 : Nat) (σ158 : Sg), j158 + q = 20 → 0 ≤ j158 → Inv σ158 → R G l yX9_findChains cX9_findChains 11 none 3 0 0 (QV (fun w2 => ∃ σ2, w2 = WW σ2 ∧ Inv σ2)) 158 [(some (.ref 140)), (some (.ref 153)), (some (.int m)), (some (.int u)), (some (.int y1)), (some (.int (nI j31))), (some (.int (nI j41))), (some (.int 0)), (some (.int (σx765.2.2.1 153 (Int32.toNatClampNeg (nI j31))))), (some (.int (σx765.2.2.1 153 (Int32.toNatClampNeg (nI j41))))), (some (.int (nI j158)))] [] (WW σ158) 0 0 := by
                                    intro q
                                    induction q with
                                    | zero =>
                                      intro j158 σ158 hj hs158 hI158
                                      obtain rfl : j158 = 20 := by omega
                                      refine R_iload (pc := 158) dX9_findChains_158 rfl ?_
                                      refine R_iload (pc := 160) dX9_findChains_160 rfl ?_
                                      refine R_icge (pc := 162) 198 dX9_findChains_162 (by decide) (fun _ => ?_) (fun h => absurd (Int32.not_lt.mp (inR_up hr2 (Int32.le_refl _) (by decide)).2) h)
                                      refine inc_11_6_1_i (pc := 198) dX9_findChains_198 ?_
                                      have r810 : inR ((nI j41) + 1) 1 20 := inR_add (show inR (nI j41) 0 19 from hr41) (show inR 1 1 1 from (inR_self _)) (by decide) (by decide)
                                      have e811 := ti_add (l := 1) (h := 20) (show inR (nI j41) 0 19 from hr41) (show inR 1 1 1 from (inR_self _)) (by decide) (by decide)
                                      refine R_goto (pc := 201) 41 dX9_findChains_201 (by decide) ?_
                                      rw [nI_1]
                                      exact ih41 (j41 + 1) _ _ _ _ _ (by omega) (by omega) hI158
                                    | succ q ih158 =>
                                      intro j158 σ158 hj hs158 hI158
                                      have hr158 : inR (nI j158) 0 19 := inR_ix hs158 (show j158 < 20 by omega) (by decide) (by decide) (by decide)
                                      have hlt158 : j158 < 20 := by omega
                                      refine R_iload (pc := 158) dX9_findChains_158 rfl ?_
                                      refine R_iload (pc := 160) dX9_findChains_160 rfl ?_
                                      refine R_icge (pc := 162) 198 dX9_findChains_162 (by decide) (fun b162_812 => ?_) (fun b162_812 => ?_)
                                      · skip
                                        refine inc_11_6_1_i (pc := 198) dX9_findChains_198 ?_
                                        have r813 : inR ((nI j41) + 1) 1 20 := inR_add (show inR (nI j41) 0 19 from hr41) (show inR 1 1 1 from (inR_self _)) (by decide) (by decide)
                                        have e814 := ti_add (l := 1) (h := 20) (show inR (nI j41) 0 19 from hr41) (show inR 1 1 1 from (inR_self _)) (by decide) (by decide)
                                        refine R_goto (pc := 201) 41 dX9_findChains_201 (by decide) ?_
                                        rw [nI_1]
                                        exact ih41 (j41 + 1) _ _ _ _ _ (by omega) (by omega) hI158
                                      · skip
                                        refine R_iload (pc := 165) dX9_findChains_165 rfl ?_
                                        refine R_ifeq (pc := 167) 198 dX9_findChains_167 (by decide) (fun _ => ?_) (fun h => absurd (by decide) h)
                                        refine inc_11_6_1_i (pc := 198) dX9_findChains_198 ?_
                                        have r816 : inR ((nI j41) + 1) 1 20 := inR_add (show inR (nI j41) 0 19 from hr41) (show inR 1 1 1 from (inR_self _)) (by decide) (by decide)
                                        have e817 := ti_add (l := 1) (h := 20) (show inR (nI j41) 0 19 from hr41) (show inR 1 1 1 from (inR_self _)) (by decide) (by decide)
                                        refine R_goto (pc := 201) 41 dX9_findChains_201 (by decide) ?_
                                        rw [nI_1]
                                        exact ih41 (j41 + 1) _ _ _ _ _ (by omega) (by omega) hI158
                                  exact HL158 20 0 _ (by omega) (by omega) hV764
                            · skip
                              refine R_goto (pc := 86) 100 dX9_findChains_86 (by decide) ?_
                              refine R_iconst (pc := 100) (v := 1) dX9_findChains_100 (by decide) ?_
                              refine R_goto (pc := 101) 105 dX9_findChains_101 (by decide) ?_
                              refine st_11_7_i_i (pc := 105) dX9_findChains_105 ?_
                              refine R_aload_n (pc := 107) dX9_findChains_107 rfl rfl ?_
                              refine R_iload (pc := 108) dX9_findChains_108 rfl ?_
                              have hx818 : vp_in (nI j31) 20 := (vp_in_nI (by omega) (by decide))
                              refine R_iaload (pc := 110) dX9_findChains_110 (c_153 _) hx818 ?_
                              refine R_aload_n (pc := 111) dX9_findChains_111 rfl rfl ?_
                              refine R_iload (pc := 112) dX9_findChains_112 rfl ?_
                              have hx819 : vp_in (nI j41) 20 := (vp_in_nI (by omega) (by decide))
                              refine R_iaload (pc := 114) dX9_findChains_114 (c_153 _) hx819 ?_
                              refine R_icge (pc := 115) 125 dX9_findChains_115 (by decide) (fun b115_820 => ?_) (fun b115_820 => ?_)
                              · skip
                                refine R_aload_n (pc := 125) dX9_findChains_125 rfl rfl ?_
                                refine R_iload (pc := 126) dX9_findChains_126 rfl ?_
                                have hx821 : vp_in (nI j41) 20 := (vp_in_nI (by omega) (by decide))
                                refine R_iaload (pc := 128) dX9_findChains_128 (c_153 _) hx821 ?_
                                refine st_11_8_i_i (pc := 129) dX9_findChains_129 ?_
                                refine R_aload_n (pc := 131) dX9_findChains_131 rfl rfl ?_
                                refine R_iload (pc := 132) dX9_findChains_132 rfl ?_
                                have hx822 : vp_in (nI j31) 20 := (vp_in_nI (by omega) (by decide))
                                refine R_iaload (pc := 134) dX9_findChains_134 (c_153 _) hx822 ?_
                                refine R_aload_n (pc := 135) dX9_findChains_135 rfl rfl ?_
                                refine R_iload (pc := 136) dX9_findChains_136 rfl ?_
                                have hx823 : vp_in (nI j41) 20 := (vp_in_nI (by omega) (by decide))
                                refine R_iaload (pc := 138) dX9_findChains_138 (c_153 _) hx823 ?_
                                refine R_icge (pc := 139) 149 dX9_findChains_139 (by decide) (fun b139_824 => ?_) (fun b139_824 => ?_)
                                · skip
                                  refine R_aload_n (pc := 149) dX9_findChains_149 rfl rfl ?_
                                  refine R_iload (pc := 150) dX9_findChains_150 rfl ?_
                                  have hx825 : vp_in (nI j31) 20 := (vp_in_nI (by omega) (by decide))
                                  refine R_iaload (pc := 152) dX9_findChains_152 (c_153 _) hx825 ?_
                                  refine st_11_9_i_i (pc := 153) dX9_findChains_153 ?_
                                  refine R_iconst (pc := 155) (v := 0) dX9_findChains_155 (by decide) ?_
                                  refine st_11_10_i_i (pc := 156) dX9_findChains_156 ?_
                                  have HL158 : ∀ (q j158 : Nat) (σ158 : Sg), j158 + q = 20 → 0 ≤ j158 → Inv σ158 → R G l yX9_findChains cX9_findChains 11 none 3 0 0 (QV (fun w2 => ∃ σ2, w2 = WW σ2 ∧ Inv σ2)) 158 [(some (.ref 140)), (some (.ref 153)), (some (.int m)), (some (.int u)), (some (.int y1)), (some (.int (nI j31))), (some (.int (nI j41))), (some (.int 1)), (some (.int (σx765.2.2.1 153 (Int32.toNatClampNeg (nI j41))))), (some (.int (σx765.2.2.1 153 (Int32.toNatClampNeg (nI j31))))), (some (.int (nI j158)))] [] (WW σ158) 0 0 := by
                                    intro q
                                    induction q with
                                    | zero =>
                                      intro j158 σ158 hj hs158 hI158
                                      obtain rfl : j158 = 20 := by omega
                                      refine R_iload (pc := 158) dX9_findChains_158 rfl ?_
                                      refine R_iload (pc := 160) dX9_findChains_160 rfl ?_
                                      refine R_icge (pc := 162) 198 dX9_findChains_162 (by decide) (fun _ => ?_) (fun h => absurd (Int32.not_lt.mp (inR_up hr2 (Int32.le_refl _) (by decide)).2) h)
                                      refine inc_11_6_1_i (pc := 198) dX9_findChains_198 ?_
                                      have r827 : inR ((nI j41) + 1) 1 20 := inR_add (show inR (nI j41) 0 19 from hr41) (show inR 1 1 1 from (inR_self _)) (by decide) (by decide)
                                      have e828 := ti_add (l := 1) (h := 20) (show inR (nI j41) 0 19 from hr41) (show inR 1 1 1 from (inR_self _)) (by decide) (by decide)
                                      refine R_goto (pc := 201) 41 dX9_findChains_201 (by decide) ?_
                                      rw [nI_1]
                                      exact ih41 (j41 + 1) _ _ _ _ _ (by omega) (by omega) hI158
                                    | succ q ih158 =>
                                      intro j158 σ158 hj hs158 hI158
                                      have hr158 : inR (nI j158) 0 19 := inR_ix hs158 (show j158 < 20 by omega) (by decide) (by decide) (by decide)
                                      have hlt158 : j158 < 20 := by omega
                                      refine R_iload (pc := 158) dX9_findChains_158 rfl ?_
                                      refine R_iload (pc := 160) dX9_findChains_160 rfl ?_
                                      refine R_icge (pc := 162) 198 dX9_findChains_162 (by decide) (fun b162_829 => ?_) (fun b162_829 => ?_)
                                      · skip
                                        refine inc_11_6_1_i (pc := 198) dX9_findChains_198 ?_
                                        have r830 : inR ((nI j41) + 1) 1 20 := inR_add (show inR (nI j41) 0 19 from hr41) (show inR 1 1 1 from (inR_self _)) (by decide) (by decide)
                                        have e831 := ti_add (l := 1) (h := 20) (show inR (nI j41) 0 19 from hr41) (show inR 1 1 1 from (inR_self _)) (by decide) (by decide)
                                        refine R_goto (pc := 201) 41 dX9_findChains_201 (by decide) ?_
                                        rw [nI_1]
                                        exact ih41 (j41 + 1) _ _ _ _ _ (by omega) (by omega) hI158
                                      · skip
                                        refine R_iload (pc := 165) dX9_findChains_165 rfl ?_
                                        refine R_ifeq (pc := 167) 198 dX9_findChains_167 (by decide) (fun h => absurd h (by decide)) (fun _ => ?_)
                                        refine R_aload_n (pc := 170) dX9_findChains_170 rfl rfl ?_
                                        refine R_iload (pc := 171) dX9_findChains_171 rfl ?_
                                        refine R_aload_n (pc := 173) dX9_findChains_173 rfl rfl ?_
                                        refine R_iload (pc := 174) dX9_findChains_174 rfl ?_
                                        have hx833 : vp_in (nI j158) 20 := (vp_in_nI (by omega) (by decide))
                                        refine R_iaload (pc := 176) dX9_findChains_176 (c_153 _) hx833 ?_
                                        refine R_iload (pc := 177) dX9_findChains_177 rfl ?_
                                        refine R_icne (pc := 179) 187 dX9_findChains_179 (by decide) (fun b179_834 => ?_) (fun b179_834 => ?_)
                                        · skip
                                          refine R_aload_n (pc := 187) dX9_findChains_187 rfl rfl ?_
                                          refine R_iload (pc := 188) dX9_findChains_188 rfl ?_
                                          have hx835 : vp_in (nI j158) 20 := (vp_in_nI (by omega) (by decide))
                                          refine R_iaload (pc := 190) dX9_findChains_190 (c_153 _) hx835 ?_
                                          have hx836 : vp_in (nI j158) 20 := (vp_in_nI (by omega) (by decide))
                                          refine W_iastore (pc := 191) dX9_findChains_191 (c_153 _) hx836 (a_153 _ _) ?_
                                          have hV837 := sa_153 hI158 (Int32.toNatClampNeg (nI j158)) (iva_153 hI158 _ (lt_of_vp hx833))
                                          refine inc_11_10_1_i (pc := 192) dX9_findChains_192 ?_
                                          have r838 : inR ((nI j158) + 1) 1 20 := inR_add (show inR (nI j158) 0 19 from hr158) (show inR 1 1 1 from (inR_self _)) (by decide) (by decide)
                                          have e839 := ti_add (l := 1) (h := 20) (show inR (nI j158) 0 19 from hr158) (show inR 1 1 1 from (inR_self _)) (by decide) (by decide)
                                          refine R_goto (pc := 195) 158 dX9_findChains_195 (by decide) ?_
                                          rw [nI_1]
                                          exact ih158 (j158 + 1) _ (by omega) (by omega) hV837
                                        · skip
                                          refine R_iload (pc := 182) dX9_findChains_182 rfl ?_
                                          refine R_goto (pc := 184) 191 dX9_findChains_184 (by decide) ?_
                                          have hx840 : vp_in (nI j158) 20 := (vp_in_nI (by omega) (by decide))
                                          refine W_iastore (pc := 191) dX9_findChains_191 (c_153 _) hx840 (a_153 _ _) ?_
                                          have hV841 := sa_153 hI158 (Int32.toNatClampNeg (nI j158)) (iva_153 hV764 _ (lt_of_vp hx819))
                                          refine inc_11_10_1_i (pc := 192) dX9_findChains_192 ?_
                                          have r842 : inR ((nI j158) + 1) 1 20 := inR_add (show inR (nI j158) 0 19 from hr158) (show inR 1 1 1 from (inR_self _)) (by decide) (by decide)
                                          have e843 := ti_add (l := 1) (h := 20) (show inR (nI j158) 0 19 from hr158) (show inR 1 1 1 from (inR_self _)) (by decide) (by decide)
                                          refine R_goto (pc := 195) 158 dX9_findChains_195 (by decide) ?_
                                          rw [nI_1]
                                          exact ih158 (j158 + 1) _ (by omega) (by omega) hV841
                                  exact HL158 20 0 _ (by omega) (by omega) hV764
                                · skip
                                  refine R_aload_n (pc := 142) dX9_findChains_142 rfl rfl ?_
                                  refine R_iload (pc := 143) dX9_findChains_143 rfl ?_
                                  have hx844 : vp_in (nI j41) 20 := (vp_in_nI (by omega) (by decide))
                                  refine R_iaload (pc := 145) dX9_findChains_145 (c_153 _) hx844 ?_
                                  refine R_goto (pc := 146) 153 dX9_findChains_146 (by decide) ?_
                                  refine st_11_9_i_i (pc := 153) dX9_findChains_153 ?_
                                  refine R_iconst (pc := 155) (v := 0) dX9_findChains_155 (by decide) ?_
                                  refine st_11_10_i_i (pc := 156) dX9_findChains_156 ?_
                                  have HL158 : ∀ (q j158 : Nat) (σ158 : Sg), j158 + q = 20 → 0 ≤ j158 → Inv σ158 → R G l yX9_findChains cX9_findChains 11 none 3 0 0 (QV (fun w2 => ∃ σ2, w2 = WW σ2 ∧ Inv σ2)) 158 [(some (.ref 140)), (some (.ref 153)), (some (.int m)), (some (.int u)), (some (.int y1)), (some (.int (nI j31))), (some (.int (nI j41))), (some (.int 1)), (some (.int (σx765.2.2.1 153 (Int32.toNatClampNeg (nI j41))))), (some (.int (σx765.2.2.1 153 (Int32.toNatClampNeg (nI j41))))), (some (.int (nI j158)))] [] (WW σ158) 0 0 := by
                                    intro q
                                    induction q with
                                    | zero =>
                                      intro j158 σ158 hj hs158 hI158
                                      obtain rfl : j158 = 20 := by omega
                                      refine R_iload (pc := 158) dX9_findChains_158 rfl ?_
                                      refine R_iload (pc := 160) dX9_findChains_160 rfl ?_
                                      refine R_icge (pc := 162) 198 dX9_findChains_162 (by decide) (fun _ => ?_) (fun h => absurd (Int32.not_lt.mp (inR_up hr2 (Int32.le_refl _) (by decide)).2) h)
                                      refine inc_11_6_1_i (pc := 198) dX9_findChains_198 ?_
                                      have r846 : inR ((nI j41) + 1) 1 20 := inR_add (show inR (nI j41) 0 19 from hr41) (show inR 1 1 1 from (inR_self _)) (by decide) (by decide)
                                      have e847 := ti_add (l := 1) (h := 20) (show inR (nI j41) 0 19 from hr41) (show inR 1 1 1 from (inR_self _)) (by decide) (by decide)
                                      refine R_goto (pc := 201) 41 dX9_findChains_201 (by decide) ?_
                                      rw [nI_1]
                                      exact ih41 (j41 + 1) _ _ _ _ _ (by omega) (by omega) hI158
                                    | succ q ih158 =>
                                      intro j158 σ158 hj hs158 hI158
                                      have hr158 : inR (nI j158) 0 19 := inR_ix hs158 (show j158 < 20 by omega) (by decide) (by decide) (by decide)
                                      have hlt158 : j158 < 20 := by omega
                                      refine R_iload (pc := 158) dX9_findChains_158 rfl ?_
                                      refine R_iload (pc := 160) dX9_findChains_160 rfl ?_
                                      refine R_icge (pc := 162) 198 dX9_findChains_162 (by decide) (fun b162_848 => ?_) (fun b162_848 => ?_)
                                      · skip
                                        refine inc_11_6_1_i (pc := 198) dX9_findChains_198 ?_
                                        have r849 : inR ((nI j41) + 1) 1 20 := inR_add (show inR (nI j41) 0 19 from hr41) (show inR 1 1 1 from (inR_self _)) (by decide) (by decide)
                                        have e850 := ti_add (l := 1) (h := 20) (show inR (nI j41) 0 19 from hr41) (show inR 1 1 1 from (inR_self _)) (by decide) (by decide)
                                        refine R_goto (pc := 201) 41 dX9_findChains_201 (by decide) ?_
                                        rw [nI_1]
                                        exact ih41 (j41 + 1) _ _ _ _ _ (by omega) (by omega) hI158
                                      · skip
                                        refine R_iload (pc := 165) dX9_findChains_165 rfl ?_
                                        refine R_ifeq (pc := 167) 198 dX9_findChains_167 (by decide) (fun h => absurd h (by decide)) (fun _ => ?_)
                                        refine R_aload_n (pc := 170) dX9_findChains_170 rfl rfl ?_
                                        refine R_iload (pc := 171) dX9_findChains_171 rfl ?_
                                        refine R_aload_n (pc := 173) dX9_findChains_173 rfl rfl ?_
                                        refine R_iload (pc := 174) dX9_findChains_174 rfl ?_
                                        have hx852 : vp_in (nI j158) 20 := (vp_in_nI (by omega) (by decide))
                                        refine R_iaload (pc := 176) dX9_findChains_176 (c_153 _) hx852 ?_
                                        refine R_iload (pc := 177) dX9_findChains_177 rfl ?_
                                        refine R_icne (pc := 179) 187 dX9_findChains_179 (by decide) (fun b179_853 => ?_) (fun b179_853 => ?_)
                                        · skip
                                          refine R_aload_n (pc := 187) dX9_findChains_187 rfl rfl ?_
                                          refine R_iload (pc := 188) dX9_findChains_188 rfl ?_
                                          have hx854 : vp_in (nI j158) 20 := (vp_in_nI (by omega) (by decide))
                                          refine R_iaload (pc := 190) dX9_findChains_190 (c_153 _) hx854 ?_
                                          have hx855 : vp_in (nI j158) 20 := (vp_in_nI (by omega) (by decide))
                                          refine W_iastore (pc := 191) dX9_findChains_191 (c_153 _) hx855 (a_153 _ _) ?_
                                          have hV856 := sa_153 hI158 (Int32.toNatClampNeg (nI j158)) (iva_153 hI158 _ (lt_of_vp hx852))
                                          refine inc_11_10_1_i (pc := 192) dX9_findChains_192 ?_
                                          have r857 : inR ((nI j158) + 1) 1 20 := inR_add (show inR (nI j158) 0 19 from hr158) (show inR 1 1 1 from (inR_self _)) (by decide) (by decide)
                                          have e858 := ti_add (l := 1) (h := 20) (show inR (nI j158) 0 19 from hr158) (show inR 1 1 1 from (inR_self _)) (by decide) (by decide)
                                          refine R_goto (pc := 195) 158 dX9_findChains_195 (by decide) ?_
                                          rw [nI_1]
                                          exact ih158 (j158 + 1) _ (by omega) (by omega) hV856
                                        · skip
                                          refine R_iload (pc := 182) dX9_findChains_182 rfl ?_
                                          refine R_goto (pc := 184) 191 dX9_findChains_184 (by decide) ?_
                                          have hx859 : vp_in (nI j158) 20 := (vp_in_nI (by omega) (by decide))
                                          refine W_iastore (pc := 191) dX9_findChains_191 (c_153 _) hx859 (a_153 _ _) ?_
                                          have hV860 := sa_153 hI158 (Int32.toNatClampNeg (nI j158)) (iva_153 hV764 _ (lt_of_vp hx819))
                                          refine inc_11_10_1_i (pc := 192) dX9_findChains_192 ?_
                                          have r861 : inR ((nI j158) + 1) 1 20 := inR_add (show inR (nI j158) 0 19 from hr158) (show inR 1 1 1 from (inR_self _)) (by decide) (by decide)
                                          have e862 := ti_add (l := 1) (h := 20) (show inR (nI j158) 0 19 from hr158) (show inR 1 1 1 from (inR_self _)) (by decide) (by decide)
                                          refine R_goto (pc := 195) 158 dX9_findChains_195 (by decide) ?_
                                          rw [nI_1]
                                          exact ih158 (j158 + 1) _ (by omega) (by omega) hV860
                                  exact HL158 20 0 _ (by omega) (by omega) hV764
                              · skip
                                refine R_aload_n (pc := 118) dX9_findChains_118 rfl rfl ?_
                                refine R_iload (pc := 119) dX9_findChains_119 rfl ?_
                                have hx863 : vp_in (nI j31) 20 := (vp_in_nI (by omega) (by decide))
                                refine R_iaload (pc := 121) dX9_findChains_121 (c_153 _) hx863 ?_
                                refine R_goto (pc := 122) 129 dX9_findChains_122 (by decide) ?_
                                refine st_11_8_i_i (pc := 129) dX9_findChains_129 ?_
                                refine R_aload_n (pc := 131) dX9_findChains_131 rfl rfl ?_
                                refine R_iload (pc := 132) dX9_findChains_132 rfl ?_
                                have hx864 : vp_in (nI j31) 20 := (vp_in_nI (by omega) (by decide))
                                refine R_iaload (pc := 134) dX9_findChains_134 (c_153 _) hx864 ?_
                                refine R_aload_n (pc := 135) dX9_findChains_135 rfl rfl ?_
                                refine R_iload (pc := 136) dX9_findChains_136 rfl ?_
                                have hx865 : vp_in (nI j41) 20 := (vp_in_nI (by omega) (by decide))
                                refine R_iaload (pc := 138) dX9_findChains_138 (c_153 _) hx865 ?_
                                refine R_icge (pc := 139) 149 dX9_findChains_139 (by decide) (fun b139_866 => ?_) (fun b139_866 => ?_)
                                · skip
                                  refine R_aload_n (pc := 149) dX9_findChains_149 rfl rfl ?_
                                  refine R_iload (pc := 150) dX9_findChains_150 rfl ?_
                                  have hx867 : vp_in (nI j31) 20 := (vp_in_nI (by omega) (by decide))
                                  refine R_iaload (pc := 152) dX9_findChains_152 (c_153 _) hx867 ?_
                                  refine st_11_9_i_i (pc := 153) dX9_findChains_153 ?_
                                  refine R_iconst (pc := 155) (v := 0) dX9_findChains_155 (by decide) ?_
                                  refine st_11_10_i_i (pc := 156) dX9_findChains_156 ?_
                                  have HL158 : ∀ (q j158 : Nat) (σ158 : Sg), j158 + q = 20 → 0 ≤ j158 → Inv σ158 → R G l yX9_findChains cX9_findChains 11 none 3 0 0 (QV (fun w2 => ∃ σ2, w2 = WW σ2 ∧ Inv σ2)) 158 [(some (.ref 140)), (some (.ref 153)), (some (.int m)), (some (.int u)), (some (.int y1)), (some (.int (nI j31))), (some (.int (nI j41))), (some (.int 1)), (some (.int (σx765.2.2.1 153 (Int32.toNatClampNeg (nI j31))))), (some (.int (σx765.2.2.1 153 (Int32.toNatClampNeg (nI j31))))), (some (.int (nI j158)))] [] (WW σ158) 0 0 := by
                                    intro q
                                    induction q with
                                    | zero =>
                                      intro j158 σ158 hj hs158 hI158
                                      obtain rfl : j158 = 20 := by omega
                                      refine R_iload (pc := 158) dX9_findChains_158 rfl ?_
                                      refine R_iload (pc := 160) dX9_findChains_160 rfl ?_
                                      refine R_icge (pc := 162) 198 dX9_findChains_162 (by decide) (fun _ => ?_) (fun h => absurd (Int32.not_lt.mp (inR_up hr2 (Int32.le_refl _) (by decide)).2) h)
                                      refine inc_11_6_1_i (pc := 198) dX9_findChains_198 ?_
                                      have r869 : inR ((nI j41) + 1) 1 20 := inR_add (show inR (nI j41) 0 19 from hr41) (show inR 1 1 1 from (inR_self _)) (by decide) (by decide)
                                      have e870 := ti_add (l := 1) (h := 20) (show inR (nI j41) 0 19 from hr41) (show inR 1 1 1 from (inR_self _)) (by decide) (by decide)
                                      refine R_goto (pc := 201) 41 dX9_findChains_201 (by decide) ?_
                                      rw [nI_1]
                                      exact ih41 (j41 + 1) _ _ _ _ _ (by omega) (by omega) hI158
                                    | succ q ih158 =>
                                      intro j158 σ158 hj hs158 hI158
                                      have hr158 : inR (nI j158) 0 19 := inR_ix hs158 (show j158 < 20 by omega) (by decide) (by decide) (by decide)
                                      have hlt158 : j158 < 20 := by omega
                                      refine R_iload (pc := 158) dX9_findChains_158 rfl ?_
                                      refine R_iload (pc := 160) dX9_findChains_160 rfl ?_
                                      refine R_icge (pc := 162) 198 dX9_findChains_162 (by decide) (fun b162_871 => ?_) (fun b162_871 => ?_)
                                      · skip
                                        refine inc_11_6_1_i (pc := 198) dX9_findChains_198 ?_
                                        have r872 : inR ((nI j41) + 1) 1 20 := inR_add (show inR (nI j41) 0 19 from hr41) (show inR 1 1 1 from (inR_self _)) (by decide) (by decide)
                                        have e873 := ti_add (l := 1) (h := 20) (show inR (nI j41) 0 19 from hr41) (show inR 1 1 1 from (inR_self _)) (by decide) (by decide)
                                        refine R_goto (pc := 201) 41 dX9_findChains_201 (by decide) ?_
                                        rw [nI_1]
                                        exact ih41 (j41 + 1) _ _ _ _ _ (by omega) (by omega) hI158
                                      · skip
                                        refine R_iload (pc := 165) dX9_findChains_165 rfl ?_
                                        refine R_ifeq (pc := 167) 198 dX9_findChains_167 (by decide) (fun h => absurd h (by decide)) (fun _ => ?_)
                                        refine R_aload_n (pc := 170) dX9_findChains_170 rfl rfl ?_
                                        refine R_iload (pc := 171) dX9_findChains_171 rfl ?_
                                        refine R_aload_n (pc := 173) dX9_findChains_173 rfl rfl ?_
                                        refine R_iload (pc := 174) dX9_findChains_174 rfl ?_
                                        have hx875 : vp_in (nI j158) 20 := (vp_in_nI (by omega) (by decide))
                                        refine R_iaload (pc := 176) dX9_findChains_176 (c_153 _) hx875 ?_
                                        refine R_iload (pc := 177) dX9_findChains_177 rfl ?_
                                        refine R_icne (pc := 179) 187 dX9_findChains_179 (by decide) (fun b179_876 => ?_) (fun b179_876 => ?_)
                                        · skip
                                          refine R_aload_n (pc := 187) dX9_findChains_187 rfl rfl ?_
                                          refine R_iload (pc := 188) dX9_findChains_188 rfl ?_
                                          have hx877 : vp_in (nI j158) 20 := (vp_in_nI (by omega) (by decide))
                                          refine R_iaload (pc := 190) dX9_findChains_190 (c_153 _) hx877 ?_
                                          have hx878 : vp_in (nI j158) 20 := (vp_in_nI (by omega) (by decide))
                                          refine W_iastore (pc := 191) dX9_findChains_191 (c_153 _) hx878 (a_153 _ _) ?_
                                          have hV879 := sa_153 hI158 (Int32.toNatClampNeg (nI j158)) (iva_153 hI158 _ (lt_of_vp hx875))
                                          refine inc_11_10_1_i (pc := 192) dX9_findChains_192 ?_
                                          have r880 : inR ((nI j158) + 1) 1 20 := inR_add (show inR (nI j158) 0 19 from hr158) (show inR 1 1 1 from (inR_self _)) (by decide) (by decide)
                                          have e881 := ti_add (l := 1) (h := 20) (show inR (nI j158) 0 19 from hr158) (show inR 1 1 1 from (inR_self _)) (by decide) (by decide)
                                          refine R_goto (pc := 195) 158 dX9_findChains_195 (by decide) ?_
                                          rw [nI_1]
                                          exact ih158 (j158 + 1) _ (by omega) (by omega) hV879
                                        · skip
                                          refine R_iload (pc := 182) dX9_findChains_182 rfl ?_
                                          refine R_goto (pc := 184) 191 dX9_findChains_184 (by decide) ?_
                                          have hx882 : vp_in (nI j158) 20 := (vp_in_nI (by omega) (by decide))
                                          refine W_iastore (pc := 191) dX9_findChains_191 (c_153 _) hx882 (a_153 _ _) ?_
                                          have hV883 := sa_153 hI158 (Int32.toNatClampNeg (nI j158)) (iva_153 hV764 _ (lt_of_vp hx818))
                                          refine inc_11_10_1_i (pc := 192) dX9_findChains_192 ?_
                                          have r884 : inR ((nI j158) + 1) 1 20 := inR_add (show inR (nI j158) 0 19 from hr158) (show inR 1 1 1 from (inR_self _)) (by decide) (by decide)
                                          have e885 := ti_add (l := 1) (h := 20) (show inR (nI j158) 0 19 from hr158) (show inR 1 1 1 from (inR_self _)) (by decide) (by decide)
                                          refine R_goto (pc := 195) 158 dX9_findChains_195 (by decide) ?_
                                          rw [nI_1]
                                          exact ih158 (j158 + 1) _ (by omega) (by omega) hV883
                                  exact HL158 20 0 _ (by omega) (by omega) hV764
                                · skip
                                  refine R_aload_n (pc := 142) dX9_findChains_142 rfl rfl ?_
                                  refine R_iload (pc := 143) dX9_findChains_143 rfl ?_
                                  have hx886 : vp_in (nI j41) 20 := (vp_in_nI (by omega) (by decide))
                                  refine R_iaload (pc := 145) dX9_findChains_145 (c_153 _) hx886 ?_
                                  refine R_goto (pc := 146) 153 dX9_findChains_146 (by decide) ?_
                                  refine st_11_9_i_i (pc := 153) dX9_findChains_153 ?_
                                  refine R_iconst (pc := 155) (v := 0) dX9_findChains_155 (by decide) ?_
                                  refine st_11_10_i_i (pc := 156) dX9_findChains_156 ?_
                                  have HL158 : ∀ (q j158 : Nat) (σ158 : Sg), j158 + q = 20 → 0 ≤ j158 → Inv σ158 → R G l yX9_findChains cX9_findChains 11 none 3 0 0 (QV (fun w2 => ∃ σ2, w2 = WW σ2 ∧ Inv σ2)) 158 [(some (.ref 140)), (some (.ref 153)), (some (.int m)), (some (.int u)), (some (.int y1)), (some (.int (nI j31))), (some (.int (nI j41))), (some (.int 1)), (some (.int (σx765.2.2.1 153 (Int32.toNatClampNeg (nI j31))))), (some (.int (σx765.2.2.1 153 (Int32.toNatClampNeg (nI j41))))), (some (.int (nI j158)))] [] (WW σ158) 0 0 := by
                                    intro q
                                    induction q with
                                    | zero =>
                                      intro j158 σ158 hj hs158 hI158
                                      obtain rfl : j158 = 20 := by omega
                                      refine R_iload (pc := 158) dX9_findChains_158 rfl ?_
                                      refine R_iload (pc := 160) dX9_findChains_160 rfl ?_
                                      refine R_icge (pc := 162) 198 dX9_findChains_162 (by decide) (fun _ => ?_) (fun h => absurd (Int32.not_lt.mp (inR_up hr2 (Int32.le_refl _) (by decide)).2) h)
                                      refine inc_11_6_1_i (pc := 198) dX9_findChains_198 ?_
                                      have r888 : inR ((nI j41) + 1) 1 20 := inR_add (show inR (nI j41) 0 19 from hr41) (show inR 1 1 1 from (inR_self _)) (by decide) (by decide)
                                      have e889 := ti_add (l := 1) (h := 20) (show inR (nI j41) 0 19 from hr41) (show inR 1 1 1 from (inR_self _)) (by decide) (by decide)
                                      refine R_goto (pc := 201) 41 dX9_findChains_201 (by decide) ?_
                                      rw [nI_1]
                                      exact ih41 (j41 + 1) _ _ _ _ _ (by omega) (by omega) hI158
                                    | succ q ih158 =>
                                      intro j158 σ158 hj hs158 hI158
                                      have hr158 : inR (nI j158) 0 19 := inR_ix hs158 (show j158 < 20 by omega) (by decide) (by decide) (by decide)
                                      have hlt158 : j158 < 20 := by omega
                                      refine R_iload (pc := 158) dX9_findChains_158 rfl ?_
                                      refine R_iload (pc := 160) dX9_findChains_160 rfl ?_
                                      refine R_icge (pc := 162) 198 dX9_findChains_162 (by decide) (fun b162_890 => ?_) (fun b162_890 => ?_)
                                      · skip
                                        refine inc_11_6_1_i (pc := 198) dX9_findChains_198 ?_
                                        have r891 : inR ((nI j41) + 1) 1 20 := inR_add (show inR (nI j41) 0 19 from hr41) (show inR 1 1 1 from (inR_self _)) (by decide) (by decide)
                                        have e892 := ti_add (l := 1) (h := 20) (show inR (nI j41) 0 19 from hr41) (show inR 1 1 1 from (inR_self _)) (by decide) (by decide)
                                        refine R_goto (pc := 201) 41 dX9_findChains_201 (by decide) ?_
                                        rw [nI_1]
                                        exact ih41 (j41 + 1) _ _ _ _ _ (by omega) (by omega) hI158
                                      · skip
                                        refine R_iload (pc := 165) dX9_findChains_165 rfl ?_
                                        refine R_ifeq (pc := 167) 198 dX9_findChains_167 (by decide) (fun h => absurd h (by decide)) (fun _ => ?_)
                                        refine R_aload_n (pc := 170) dX9_findChains_170 rfl rfl ?_
                                        refine R_iload (pc := 171) dX9_findChains_171 rfl ?_
                                        refine R_aload_n (pc := 173) dX9_findChains_173 rfl rfl ?_
                                        refine R_iload (pc := 174) dX9_findChains_174 rfl ?_
                                        have hx894 : vp_in (nI j158) 20 := (vp_in_nI (by omega) (by decide))
                                        refine R_iaload (pc := 176) dX9_findChains_176 (c_153 _) hx894 ?_
                                        refine R_iload (pc := 177) dX9_findChains_177 rfl ?_
                                        refine R_icne (pc := 179) 187 dX9_findChains_179 (by decide) (fun b179_895 => ?_) (fun b179_895 => ?_)
                                        · skip
                                          refine R_aload_n (pc := 187) dX9_findChains_187 rfl rfl ?_
                                          refine R_iload (pc := 188) dX9_findChains_188 rfl ?_
                                          have hx896 : vp_in (nI j158) 20 := (vp_in_nI (by omega) (by decide))
                                          refine R_iaload (pc := 190) dX9_findChains_190 (c_153 _) hx896 ?_
                                          have hx897 : vp_in (nI j158) 20 := (vp_in_nI (by omega) (by decide))
                                          refine W_iastore (pc := 191) dX9_findChains_191 (c_153 _) hx897 (a_153 _ _) ?_
                                          have hV898 := sa_153 hI158 (Int32.toNatClampNeg (nI j158)) (iva_153 hI158 _ (lt_of_vp hx894))
                                          refine inc_11_10_1_i (pc := 192) dX9_findChains_192 ?_
                                          have r899 : inR ((nI j158) + 1) 1 20 := inR_add (show inR (nI j158) 0 19 from hr158) (show inR 1 1 1 from (inR_self _)) (by decide) (by decide)
                                          have e900 := ti_add (l := 1) (h := 20) (show inR (nI j158) 0 19 from hr158) (show inR 1 1 1 from (inR_self _)) (by decide) (by decide)
                                          refine R_goto (pc := 195) 158 dX9_findChains_195 (by decide) ?_
                                          rw [nI_1]
                                          exact ih158 (j158 + 1) _ (by omega) (by omega) hV898
                                        · skip
                                          refine R_iload (pc := 182) dX9_findChains_182 rfl ?_
                                          refine R_goto (pc := 184) 191 dX9_findChains_184 (by decide) ?_
                                          have hx901 : vp_in (nI j158) 20 := (vp_in_nI (by omega) (by decide))
                                          refine W_iastore (pc := 191) dX9_findChains_191 (c_153 _) hx901 (a_153 _ _) ?_
                                          have hV902 := sa_153 hI158 (Int32.toNatClampNeg (nI j158)) (iva_153 hV764 _ (lt_of_vp hx818))
                                          refine inc_11_10_1_i (pc := 192) dX9_findChains_192 ?_
                                          have r903 : inR ((nI j158) + 1) 1 20 := inR_add (show inR (nI j158) 0 19 from hr158) (show inR 1 1 1 from (inR_self _)) (by decide) (by decide)
                                          have e904 := ti_add (l := 1) (h := 20) (show inR (nI j158) 0 19 from hr158) (show inR 1 1 1 from (inR_self _)) (by decide) (by decide)
                                          refine R_goto (pc := 195) 158 dX9_findChains_195 (by decide) ?_
                                          rw [nI_1]
                                          exact ih158 (j158 + 1) _ (by omega) (by omega) hV902
                                  exact HL158 20 0 _ (by omega) (by omega) hV764
              exact HL41 20 0 _ _ _ _ _ (by omega) (by omega) hI31
        exact HL31 20 0 _ _ _ _ _ _ (by omega) (by omega) hI9
      · skip
        refine R_aload_n (pc := 16) dX9_findChains_16 rfl rfl ?_
        refine R_iload (pc := 17) dX9_findChains_17 rfl ?_
        refine R_iload (pc := 19) dX9_findChains_19 rfl ?_
        have hx905 : vp_in (nI j9) 20 := (vp_in_nI (by omega) (by decide))
        refine W_iastore (pc := 21) dX9_findChains_21 (c_153 _) hx905 (a_153 _ _) ?_
        have hV906 := sa_153 hI9 (Int32.toNatClampNeg (nI j9)) hr9
        refine inc_11_5_1_i (pc := 22) dX9_findChains_22 ?_
        have r907 : inR ((nI j9) + 1) 1 20 := inR_add (show inR (nI j9) 0 19 from hr9) (show inR 1 1 1 from (inR_self _)) (by decide) (by decide)
        have e908 := ti_add (l := 1) (h := 20) (show inR (nI j9) 0 19 from hr9) (show inR 1 1 1 from (inR_self _)) (by decide) (by decide)
        refine R_goto (pc := 25) 9 dX9_findChains_25 (by decide) ?_
        rw [nI_1]
        exact ih9 (j9 + 1) _ (by omega) (by omega) hV906
  exact HL9 20 0 _ (by omega) (by omega) hI
theorem dX9_match_0 : decode cX9_match 0 = .ok (.aload_n 0, 1) := by decide +kernel
theorem dX9_match_1 : decode cX9_match 1 = .ok (.iload_n 1, 1) := by decide +kernel
theorem dX9_match_2 : decode cX9_match 2 = .ok (.invokevirtual 135, 3) := by decide +kernel
theorem dX9_match_5 : decode cX9_match 5 = .ok (.ifCond .eq 16, 3) := by decide +kernel
theorem dX9_match_8 : decode cX9_match 8 = .ok (.aload_n 0, 1) := by decide +kernel
theorem dX9_match_9 : decode cX9_match 9 = .ok (.iload_n 2, 1) := by decide +kernel
theorem dX9_match_10 : decode cX9_match 10 = .ok (.invokevirtual 135, 3) := by decide +kernel
theorem dX9_match_13 : decode cX9_match 13 = .ok (.ifCond .eq 8, 3) := by decide +kernel
theorem dX9_match_16 : decode cX9_match 16 = .ok (.iload_n 1, 1) := by decide +kernel
theorem dX9_match_17 : decode cX9_match 17 = .ok (.iload_n 2, 1) := by decide +kernel
theorem dX9_match_18 : decode cX9_match 18 = .ok (.if_icmp .ne 6, 3) := by decide +kernel
theorem dX9_match_21 : decode cX9_match 21 = .ok (.bipush (-2), 2) := by decide +kernel
theorem dX9_match_23 : decode cX9_match 23 = .ok (.ireturn, 1) := by decide +kernel
theorem dX9_match_24 : decode cX9_match 24 = .ok (.aload_n 0, 1) := by decide +kernel
theorem dX9_match_25 : decode cX9_match 25 = .ok (.invokevirtual 162, 3) := by decide +kernel
theorem dX9_match_28 : decode cX9_match 28 = .ok (.aload_n 0, 1) := by decide +kernel
theorem dX9_match_29 : decode cX9_match 29 = .ok (.iload_n 1, 1) := by decide +kernel
theorem dX9_match_30 : decode cX9_match 30 = .ok (.iload_n 2, 1) := by decide +kernel
theorem dX9_match_31 : decode cX9_match 31 = .ok (.invokevirtual 159, 3) := by decide +kernel
theorem dX9_match_34 : decode cX9_match 34 = .ok (.ifCond .eq 7, 3) := by decide +kernel
theorem dX9_match_37 : decode cX9_match 37 = .ok (.iconst 1, 1) := by decide +kernel
theorem dX9_match_38 : decode cX9_match 38 = .ok (.goto 4, 3) := by decide +kernel
theorem dX9_match_41 : decode cX9_match 41 = .ok (.iconst 0, 1) := by decide +kernel
theorem dX9_match_42 : decode cX9_match 42 = .ok (.ireturn, 1) := by decide +kernel
set_option maxRecDepth 100000 in
set_option maxHeartbeats 40000000 in
theorem gp_m_match {G : vG} {l : Launch} (σ : Sg) (a b : Int32) (hI : Inv σ) : Sp G l yX9_match cX9_match 3 (some .int) 4 0 0 [.ref 140, .int a, .int b] (WW σ) (QI (fun _ w2 => ∃ σ2, w2 = WW σ2 ∧ Inv σ2)) := by
  refine Sp_of_R [(some (.ref 140)), (some (.int a)), (some (.int b))] [] rfl (by simp) rfl (Nat.le_of_ble_eq_true rfl) ?_
  refine R_aload_n (pc := 0) dX9_match_0 rfl rfl ?_
  refine R_iload_n (pc := 1) dX9_match_1 rfl rfl ?_
  refine k_X9_135 (pc := 2) (gx_X9_isThere _ _ hI) rfl (c_140 _) (by decide) (Nat.le_refl _) (Nat.le_refl _) (Nat.le_of_ble_eq_true rfl) dX9_match_2 (fun x w2 h => ?_)
  rcases h with ⟨rfl, ⟨h1, rfl⟩ | rfl⟩
  · skip
    refine R_ifeq (pc := 5) 21 dX9_match_5 (by decide) (fun h => absurd h (by decide)) (fun _ => ?_)
    refine R_aload_n (pc := 8) dX9_match_8 rfl rfl ?_
    refine R_iload_n (pc := 9) dX9_match_9 rfl rfl ?_
    refine k_X9_135 (pc := 10) (gx_X9_isThere _ _ hI) rfl (c_140 _) (by decide) (Nat.le_refl _) (Nat.le_refl _) (Nat.le_of_ble_eq_true rfl) dX9_match_10 (fun x w2 h => ?_)
    rcases h with ⟨rfl, ⟨h3, rfl⟩ | rfl⟩
    · skip
      refine R_ifeq (pc := 13) 21 dX9_match_13 (by decide) (fun h => absurd h (by decide)) (fun _ => ?_)
      refine R_iload_n (pc := 16) dX9_match_16 rfl rfl ?_
      refine R_iload_n (pc := 17) dX9_match_17 rfl rfl ?_
      refine R_icne (pc := 18) 24 dX9_match_18 (by decide) (fun b18_5 => ?_) (fun b18_5 => ?_)
      · skip
        refine R_aload_n (pc := 24) dX9_match_24 rfl rfl ?_
        refine k_X9_162 (pc := 25) (gx_X9_findUnlike _ hI) rfl (c_140 _) (by decide) (Nat.le_refl _) (Nat.le_refl _) (Nat.le_of_ble_eq_true rfl) dX9_match_25 (fun w2 h => ?_)
        obtain ⟨σx8, rfl, hV7⟩ := h
        refine R_aload_n (pc := 28) dX9_match_28 rfl rfl ?_
        refine R_iload_n (pc := 29) dX9_match_29 rfl rfl ?_
        refine R_iload_n (pc := 30) dX9_match_30 rfl rfl ?_
        refine k_X9_159 (pc := 31) (gx_X9_isMatch _ _ _ hV7 h1 h3) rfl (c_140 _) (by decide) (Nat.le_refl _) (Nat.le_refl _) (Nat.le_of_ble_eq_true rfl) dX9_match_31 (fun y9 w2 h => ?_)
        obtain ⟨σx11, rfl, hV10⟩ := h
        refine R_ifeq (pc := 34) 41 dX9_match_34 (by decide) (fun b34_12 => ?_) (fun b34_12 => ?_)
        · skip
          refine R_iconst (pc := 41) (v := 0) dX9_match_41 (by decide) ?_
          exact R_iret (pc := 42) dX9_match_42 rfl rfl (Nat.zero_le _) (Nat.zero_le _) ⟨_, rfl, _, rfl, hV10⟩
        · skip
          refine R_iconst (pc := 37) (v := 1) dX9_match_37 (by decide) ?_
          refine R_goto (pc := 38) 42 dX9_match_38 (by decide) ?_
          exact R_iret (pc := 42) dX9_match_42 rfl rfl (Nat.zero_le _) (Nat.zero_le _) ⟨_, rfl, _, rfl, hV10⟩
      · skip
        refine R_bipush (pc := 21) (v := (-2)) dX9_match_21 (by decide) ?_
        exact R_iret (pc := 23) dX9_match_23 rfl rfl (Nat.zero_le _) (Nat.zero_le _) ⟨_, rfl, _, rfl, hI⟩
    · skip
      refine R_ifeq (pc := 13) 21 dX9_match_13 (by decide) (fun _ => ?_) (fun h => absurd (by decide) h)
      refine R_bipush (pc := 21) (v := (-2)) dX9_match_21 (by decide) ?_
      exact R_iret (pc := 23) dX9_match_23 rfl rfl (Nat.zero_le _) (Nat.zero_le _) ⟨_, rfl, _, rfl, hI⟩
  · skip
    refine R_ifeq (pc := 5) 21 dX9_match_5 (by decide) (fun _ => ?_) (fun h => absurd (by decide) h)
    refine R_bipush (pc := 21) (v := (-2)) dX9_match_21 (by decide) ?_
    exact R_iret (pc := 23) dX9_match_23 rfl rfl (Nat.zero_le _) (Nat.zero_le _) ⟨_, rfl, _, rfl, hI⟩
theorem dX9_negative_0 : decode cX9_negative 0 = .ok (.aload_n 0, 1) := by decide +kernel
theorem dX9_negative_1 : decode cX9_negative 1 = .ok (.iload_n 1, 1) := by decide +kernel
theorem dX9_negative_2 : decode cX9_negative 2 = .ok (.invokevirtual 135, 3) := by decide +kernel
theorem dX9_negative_5 : decode cX9_negative 5 = .ok (.ifCond .ne 6, 3) := by decide +kernel
theorem dX9_negative_8 : decode cX9_negative 8 = .ok (.bipush (-2), 2) := by decide +kernel
theorem dX9_negative_10 : decode cX9_negative 10 = .ok (.ireturn, 1) := by decide +kernel
theorem dX9_negative_11 : decode cX9_negative 11 = .ok (.aload_n 0, 1) := by decide +kernel
theorem dX9_negative_12 : decode cX9_negative 12 = .ok (.invokevirtual 162, 3) := by decide +kernel
theorem dX9_negative_15 : decode cX9_negative 15 = .ok (.aload_n 0, 1) := by decide +kernel
theorem dX9_negative_16 : decode cX9_negative 16 = .ok (.aload_n 0, 1) := by decide +kernel
theorem dX9_negative_17 : decode cX9_negative 17 = .ok (.getfield 54, 3) := by decide +kernel
theorem dX9_negative_20 : decode cX9_negative 20 = .ok (.iconst 0, 1) := by decide +kernel
theorem dX9_negative_21 : decode cX9_negative 21 = .ok (.iconst (-1), 1) := by decide +kernel
theorem dX9_negative_22 : decode cX9_negative 22 = .ok (.invokevirtual 165, 3) := by decide +kernel
theorem dX9_negative_25 : decode cX9_negative 25 = .ok (.aload_n 0, 1) := by decide +kernel
theorem dX9_negative_26 : decode cX9_negative 26 = .ok (.getfield 54, 3) := by decide +kernel
theorem dX9_negative_29 : decode cX9_negative 29 = .ok (.iload_n 1, 1) := by decide +kernel
theorem dX9_negative_30 : decode cX9_negative 30 = .ok (.iaload, 1) := by decide +kernel
theorem dX9_negative_31 : decode cX9_negative 31 = .ok (.ireturn, 1) := by decide +kernel
set_option maxRecDepth 100000 in
set_option maxHeartbeats 40000000 in
theorem gp_m_negative {G : vG} {l : Launch} (σ : Sg) (a : Int32) (hI : Inv σ) : Sp G l yX9_negative cX9_negative 2 (some .int) 4 0 0 [.ref 140, .int a] (WW σ) (QI (fun _ w2 => ∃ σ2, w2 = WW σ2 ∧ Inv σ2)) := by
  refine Sp_of_R [(some (.ref 140)), (some (.int a))] [] rfl (by simp) rfl (Nat.le_of_ble_eq_true rfl) ?_
  refine R_aload_n (pc := 0) dX9_negative_0 rfl rfl ?_
  refine R_iload_n (pc := 1) dX9_negative_1 rfl rfl ?_
  refine k_X9_135 (pc := 2) (gx_X9_isThere _ _ hI) rfl (c_140 _) (by decide) (Nat.le_refl _) (Nat.le_refl _) (Nat.le_of_ble_eq_true rfl) dX9_negative_2 (fun x w2 h => ?_)
  rcases h with ⟨rfl, ⟨h1, rfl⟩ | rfl⟩
  · skip
    refine R_ifne (pc := 5) 11 dX9_negative_5 (by decide) (fun _ => ?_) (fun h => absurd h (by decide))
    refine R_aload_n (pc := 11) dX9_negative_11 rfl rfl ?_
    refine k_X9_162 (pc := 12) (gx_X9_findUnlike _ hI) rfl (c_140 _) (by decide) (Nat.le_refl _) (Nat.le_refl _) (Nat.le_of_ble_eq_true rfl) dX9_negative_12 (fun w2 h => ?_)
    obtain ⟨σx5, rfl, hV4⟩ := h
    refine R_aload_n (pc := 15) dX9_negative_15 rfl rfl ?_
    refine R_aload_n (pc := 16) dX9_negative_16 rfl rfl ?_
    refine g_X9_54 (pc := 17) (v := .ref 152) rfl dX9_negative_17 (c_140 _) rfl ?_
    refine R_iconst (pc := 20) (v := 0) dX9_negative_20 (by decide) ?_
    refine R_iconst (pc := 21) (v := (-1)) dX9_negative_21 (by decide) ?_
    refine k_X9_165 (pc := 22) (gx_X9_findChains_152 _ _ _ hV4) rfl (c_140 _) (by decide) (Nat.le_refl _) (Nat.le_refl _) (Nat.le_of_ble_eq_true rfl) dX9_negative_22 (fun w2 h => ?_)
    obtain ⟨σx8, rfl, hV7⟩ := h
    refine R_aload_n (pc := 25) dX9_negative_25 rfl rfl ?_
    refine g_X9_54 (pc := 26) (v := .ref 152) rfl dX9_negative_26 (c_140 _) rfl ?_
    refine R_iload_n (pc := 29) dX9_negative_29 rfl rfl ?_
    have hx9 : vp_in a 20 := (vp_of_inR h1 (by decide))
    refine R_iaload (pc := 30) dX9_negative_30 (c_152 _) hx9 ?_
    exact R_iret (pc := 31) dX9_negative_31 rfl rfl (Nat.zero_le _) (Nat.zero_le _) ⟨_, rfl, _, rfl, hV7⟩
  · skip
    refine R_ifne (pc := 5) 11 dX9_negative_5 (by decide) (fun h => absurd (by decide) h) (fun _ => ?_)
    refine R_bipush (pc := 8) (v := (-2)) dX9_negative_8 (by decide) ?_
    exact R_iret (pc := 10) dX9_negative_10 rfl rfl (Nat.zero_le _) (Nat.zero_le _) ⟨_, rfl, _, rfl, hI⟩
