/-! methods on any state that keeps the invariant -/
set_option maxRecDepth 100000 in
set_option maxHeartbeats 40000000 in
theorem ge_X9_bit {G : vG} {l : Launch} (w : VW) (p : Int64) (a b : Int32) : Sp G l yX9_bit cX9_bit 4 (some .int) 0 0 0 [.long p, .int a, .int b] (w) (QI (fun x w2 => w2 = w ∧ x = bitM p a b)) := by
  refine Sp_of_R [(some (.long p)), none, (some (.int a)), (some (.int b))] [] rfl (by simp) rfl (Nat.le_of_ble_eq_true rfl) ?_
  refine R_lload_n (pc := 0) dX9_bit_0 rfl rfl ?_
  refine R_bipush (pc := 1) (v := 8) dX9_bit_1 (by decide) ?_
  refine R_iload_n (pc := 3) dX9_bit_3 rfl rfl ?_
  refine R_imul (pc := 4) dX9_bit_4 ?_
  refine R_iload_n (pc := 5) dX9_bit_5 rfl rfl ?_
  refine R_iadd (pc := 6) dX9_bit_6 ?_
  refine R_lshr (pc := 7) dX9_bit_7 ?_
  refine R_lconst (pc := 8) (v := 1) dX9_bit_8 (by decide) ?_
  refine R_land (pc := 9) dX9_bit_9 ?_
  refine R_l2i (pc := 10) dX9_bit_10 ?_
  exact R_iret (pc := 11) dX9_bit_11 rfl rfl (Nat.zero_le _) (Nat.zero_le _) ⟨_, rfl, rfl, rfl⟩
set_option maxRecDepth 100000 in
set_option maxHeartbeats 40000000 in
theorem gn_X9_unlikeBy {G : vG} {l : Launch} (σ : Sg) (a b d f : Int32) (hI : Inv σ) (ha : inR a 0 19) (hb : inR b 0 19) : Sp G l yX9_unlikeBy cX9_unlikeBy 9 (some .int) 1 0 0 [.ref 140, .int a, .int b, .int d, .int f] (WW σ) (QI (fun x w2 => w2 = WW σ ∧ x = ubF (σ.2.2.2.1 145 (Int32.toNatClampNeg a)) (σ.2.2.2.1 145 (Int32.toNatClampNeg b)) (σ.2.2.1 146 (Int32.toNatClampNeg a)) (σ.2.2.1 146 (Int32.toNatClampNeg b)) d f)) := by
  refine Sp_of_R [(some (.ref 140)), (some (.int a)), (some (.int b)), (some (.int d)), (some (.int f)), none, none, none, none] [none, none, none, none] rfl (by simp) rfl (Nat.le_of_ble_eq_true rfl) ?_
  refine R_iconst (pc := 0) (v := 0) dX9_unlikeBy_0 (by decide) ?_
  refine st_9_5_i_i (pc := 1) dX9_unlikeBy_1 ?_
  refine R_iconst (pc := 3) (v := 0) dX9_unlikeBy_3 (by decide) ?_
  refine st_9_6_i_i (pc := 4) dX9_unlikeBy_4 ?_
  refine R_aload_n (pc := 6) dX9_unlikeBy_6 rfl rfl ?_
  refine g_X9_26 (pc := 7) (v := .ref 146) rfl dX9_unlikeBy_7 (c_140 _) rfl ?_
  refine R_iload_n (pc := 10) dX9_unlikeBy_10 rfl rfl ?_
  have hx1 : vp_in a 20 := (vp_of_inR ha (by decide))
  refine R_iaload (pc := 11) dX9_unlikeBy_11 (c_146 _) hx1 ?_
  have hS0 := clamp4 (iva_146 hI _ (clamp19 ha))
  refine R_cv (nI (Int32.toNatClampNeg (σ.2.2.1 146 (Int32.toNatClampNeg a)))) (nI_of_in (inR_up (iva_146 hI _ (clamp19 ha)) (by decide) (by decide))).symm ?_
  refine st_9_7_i_i (pc := 12) dX9_unlikeBy_12 ?_
  have HL14 : ∀ (q j14 : Nat) (g5_14 : Int32) (g6_14 : Int32) (g8_14 : Option Value), j14 + q = 8 → (Int32.toNatClampNeg (σ.2.2.1 146 (Int32.toNatClampNeg a))) ≤ j14 → g5_14 = nI (cntB (ibG (σ.2.2.1 146 (Int32.toNatClampNeg a)) (σ.2.2.1 146 (Int32.toNatClampNeg b)) d f) (8 * j14)) → g6_14 = nI (cntB (dfG (σ.2.2.2.1 145 (Int32.toNatClampNeg a)) (σ.2.2.2.1 145 (Int32.toNatClampNeg b)) (σ.2.2.1 146 (Int32.toNatClampNeg a)) (σ.2.2.1 146 (Int32.toNatClampNeg b)) d f) (8 * j14)) → R G l yX9_unlikeBy cX9_unlikeBy 9 (some .int) 1 0 0 (QI (fun x w2 => w2 = WW σ ∧ x = ubF (σ.2.2.2.1 145 (Int32.toNatClampNeg a)) (σ.2.2.2.1 145 (Int32.toNatClampNeg b)) (σ.2.2.1 146 (Int32.toNatClampNeg a)) (σ.2.2.1 146 (Int32.toNatClampNeg b)) d f)) 14 [(some (.ref 140)), (some (.int a)), (some (.int b)), (some (.int d)), (some (.int f)), (some (.int g5_14)), (some (.int g6_14)), (some (.int (nI j14))), g8_14] [] (WW σ) 0 0 := by
    intro q
    induction q with
    | zero =>
      intro j14 g5_14 g6_14 g8_14 hj14 hs14 hX14_0 hX14_1
      obtain rfl : j14 = 8 := by omega
      refine R_iload (pc := 14) dX9_unlikeBy_14 rfl ?_
      refine R_bipush (pc := 16) (v := 8) dX9_unlikeBy_16 (by decide) ?_
      refine R_icge (pc := 18) 122 dX9_unlikeBy_18 (by decide) (fun _ => ?_) (fun h => absurd (by decide) h)
      refine R_iload (pc := 122) dX9_unlikeBy_122 rfl ?_
      refine R_bipush (pc := 124) (v := 24) dX9_unlikeBy_124 (by decide) ?_
      refine R_icge (pc := 126) 133 dX9_unlikeBy_126 (by decide) (fun b126_3 => ?_) (fun b126_3 => ?_)
      · skip
        refine R_iload (pc := 133) dX9_unlikeBy_133 rfl ?_
        exact R_iret (pc := 135) dX9_unlikeBy_135 rfl rfl (Nat.zero_le _) (Nat.zero_le _) ⟨_, rfl, rfl, (by unfold ubF; rw [show nI (cntB (ibG (σ.2.2.1 146 (Int32.toNatClampNeg a)) (σ.2.2.1 146 (Int32.toNatClampNeg b)) d f) 64) = g5_14 from hX14_0.symm, decide_eq_false (Int32.not_lt.mpr b126_3)]; exact hX14_1)⟩
      · skip
        refine R_iconst (pc := 129) (v := (-1)) dX9_unlikeBy_129 (by decide) ?_
        refine R_goto (pc := 130) 135 dX9_unlikeBy_130 (by decide) ?_
        exact R_iret (pc := 135) dX9_unlikeBy_135 rfl rfl (Nat.zero_le _) (Nat.zero_le _) ⟨_, rfl, rfl, (by unfold ubF; rw [show nI (cntB (ibG (σ.2.2.1 146 (Int32.toNatClampNeg a)) (σ.2.2.1 146 (Int32.toNatClampNeg b)) d f) 64) = g5_14 from hX14_0.symm, decide_eq_true (Int32.not_le.mp b126_3)]; rfl)⟩
    | succ q ih14 =>
      intro j14 g5_14 g6_14 g8_14 hj14 hs14 hX14_0 hX14_1
      have hlt14 : j14 < 8 := by omega
      have hrg14 : inR (nI j14) 0 7 := inR_ix (s := 0) (by omega) hlt14 (by decide) (by decide) (by decide)
      refine R_iload (pc := 14) dX9_unlikeBy_14 rfl ?_
      refine R_bipush (pc := 16) (v := 8) dX9_unlikeBy_16 (by decide) ?_
      refine R_icge (pc := 18) 122 dX9_unlikeBy_18 (by decide) (fun h => False.elim (by have q1 := ti_le h; have q2 := ti_in (show inR (nI j14) 0 7 from hrg14); have q3 := ti_in (show inR 8 8 8 from (inR_self _)); have z0 : (0 : Int32).toInt = 0 := (by decide);  have z1 : (7 : Int32).toInt = 7 := (by decide);  have z2 : (8 : Int32).toInt = 8 := (by decide); omega)) (fun _ => ?_)
      refine R_iconst (pc := 21) (v := 0) dX9_unlikeBy_21 (by decide) ?_
      refine st_9_8_i_i (pc := 22) dX9_unlikeBy_22 ?_
      have HL24 : ∀ (q j24 : Nat) (g5_24 : Int32) (g6_24 : Int32), j24 + q = 8 → 0 ≤ j24 → g5_24 = nI (cntB (ibG (σ.2.2.1 146 (Int32.toNatClampNeg a)) (σ.2.2.1 146 (Int32.toNatClampNeg b)) d f) (8 * j14 + j24)) → g6_24 = nI (cntB (dfG (σ.2.2.2.1 145 (Int32.toNatClampNeg a)) (σ.2.2.2.1 145 (Int32.toNatClampNeg b)) (σ.2.2.1 146 (Int32.toNatClampNeg a)) (σ.2.2.1 146 (Int32.toNatClampNeg b)) d f) (8 * j14 + j24)) → R G l yX9_unlikeBy cX9_unlikeBy 9 (some .int) 1 0 0 (QI (fun x w2 => w2 = WW σ ∧ x = ubF (σ.2.2.2.1 145 (Int32.toNatClampNeg a)) (σ.2.2.2.1 145 (Int32.toNatClampNeg b)) (σ.2.2.1 146 (Int32.toNatClampNeg a)) (σ.2.2.1 146 (Int32.toNatClampNeg b)) d f)) 24 [(some (.ref 140)), (some (.int a)), (some (.int b)), (some (.int d)), (some (.int f)), (some (.int g5_24)), (some (.int g6_24)), (some (.int (nI j14))), (some (.int (nI j24)))] [] (WW σ) 0 0 := by
        intro q
        induction q with
        | zero =>
          intro j24 g5_24 g6_24 hj24 hs24 hX24_0 hX24_1
          obtain rfl : j24 = 8 := by omega
          refine R_iload (pc := 24) dX9_unlikeBy_24 rfl ?_
          refine R_bipush (pc := 26) (v := 8) dX9_unlikeBy_26 (by decide) ?_
          refine R_icge (pc := 28) 116 dX9_unlikeBy_28 (by decide) (fun _ => ?_) (fun h => absurd (by decide) h)
          refine inc_9_7_1_i (pc := 116) dX9_unlikeBy_116 ?_
          have r6 : inR ((nI j14) + 1) 1 8 := inR_add (show inR (nI j14) 0 7 from hrg14) (show inR 1 1 1 from (inR_self _)) (by decide) (by decide)
          have e7 := ti_add (l := 1) (h := 8) (show inR (nI j14) 0 7 from hrg14) (show inR 1 1 1 from (inR_self _)) (by decide) (by decide)
          refine R_goto (pc := 119) 14 dX9_unlikeBy_119 (by decide) ?_
          rw [nI_1]
          exact ih14 (j14 + 1) _ _ _ (by omega) (by omega) (show _ = nI (cntB (ibG (σ.2.2.1 146 (Int32.toNatClampNeg a)) (σ.2.2.1 146 (Int32.toNatClampNeg b)) d f) (8 * (j14 + 1))) from by rw [show 8 * (j14 + 1) = 8 * j14 + 8 from by omega]; exact hX24_0) (show _ = nI (cntB (dfG (σ.2.2.2.1 145 (Int32.toNatClampNeg a)) (σ.2.2.2.1 145 (Int32.toNatClampNeg b)) (σ.2.2.1 146 (Int32.toNatClampNeg a)) (σ.2.2.1 146 (Int32.toNatClampNeg b)) d f) (8 * (j14 + 1))) from by rw [show 8 * (j14 + 1) = 8 * j14 + 8 from by omega]; exact hX24_1)
        | succ q ih24 =>
          intro j24 g5_24 g6_24 hj24 hs24 hX24_0 hX24_1
          have hlt24 : j24 < 8 := by omega
          have hrg24 : inR (nI j24) 0 7 := inR_ix (s := 0) (by omega) hlt24 (by decide) (by decide) (by decide)
          refine R_iload (pc := 24) dX9_unlikeBy_24 rfl ?_
          refine R_bipush (pc := 26) (v := 8) dX9_unlikeBy_26 (by decide) ?_
          refine R_icge (pc := 28) 116 dX9_unlikeBy_28 (by decide) (fun h => False.elim (by have q1 := ti_le h; have q2 := ti_in (show inR (nI j24) 0 7 from hrg24); have q3 := ti_in (show inR 8 8 8 from (inR_self _)); have z0 : (0 : Int32).toInt = 0 := (by decide);  have z1 : (7 : Int32).toInt = 7 := (by decide);  have z2 : (8 : Int32).toInt = 8 := (by decide); omega)) (fun _ => ?_)
          refine R_iload (pc := 31) dX9_unlikeBy_31 rfl ?_
          refine R_iload_n (pc := 33) dX9_unlikeBy_33 rfl rfl ?_
          refine R_iadd (pc := 34) dX9_unlikeBy_34 ?_
          refine R_iconst (pc := 35) (v := 0) dX9_unlikeBy_35 (by decide) ?_
          refine R_bipush (pc := 36) (v := 7) dX9_unlikeBy_36 (by decide) ?_
          refine k_X9_124 (pc := 38) (sp_X9_in _ _ _ _) rfl (by decide) (Nat.le_refl _) (Nat.le_refl _) (Nat.le_of_ble_eq_true rfl) dX9_unlikeBy_38 (fun x w2 h => ?_)
          rcases h with ⟨rfl, ⟨h9, rfl⟩ | ⟨h9, rfl⟩⟩
          · skip
            refine R_ifeq (pc := 41) 110 dX9_unlikeBy_41 (by decide) (fun h => absurd h (by decide)) (fun _ => ?_)
            refine R_iload (pc := 44) dX9_unlikeBy_44 rfl ?_
            refine R_iload (pc := 46) dX9_unlikeBy_46 rfl ?_
            refine R_iadd (pc := 48) dX9_unlikeBy_48 ?_
            refine R_aload_n (pc := 49) dX9_unlikeBy_49 rfl rfl ?_
            refine g_X9_26 (pc := 50) (v := .ref 146) rfl dX9_unlikeBy_50 (c_140 _) rfl ?_
            refine R_iload_n (pc := 53) dX9_unlikeBy_53 rfl rfl ?_
            have hx11 : vp_in b 20 := (vp_of_inR hb (by decide))
            refine R_iaload (pc := 54) dX9_unlikeBy_54 (c_146 _) hx11 ?_
            refine R_bipush (pc := 55) (v := 7) dX9_unlikeBy_55 (by decide) ?_
            refine k_X9_124 (pc := 57) (sp_X9_in _ _ _ _) rfl (by decide) (Nat.le_refl _) (Nat.le_refl _) (Nat.le_of_ble_eq_true rfl) dX9_unlikeBy_57 (fun x w2 h => ?_)
            rcases h with ⟨rfl, ⟨h12, rfl⟩ | ⟨h12, rfl⟩⟩
            · skip
              refine R_ifeq (pc := 60) 110 dX9_unlikeBy_60 (by decide) (fun h => absurd h (by decide)) (fun _ => ?_)
              refine inc_9_5_1_i (pc := 63) dX9_unlikeBy_63 ?_
              refine R_iload (pc := 66) dX9_unlikeBy_66 rfl ?_
              refine R_aload_n (pc := 68) dX9_unlikeBy_68 rfl rfl ?_
              refine g_X9_22 (pc := 69) (v := .ref 145) rfl dX9_unlikeBy_69 (c_140 _) rfl ?_
              refine R_iload_n (pc := 72) dX9_unlikeBy_72 rfl rfl ?_
              have hx14 : vp_in a 20 := (vp_of_inR ha (by decide))
              refine R_laload (pc := 73) dX9_unlikeBy_73 (c_145 _) hx14 ?_
              refine R_iload (pc := 74) dX9_unlikeBy_74 rfl ?_
              refine R_iload (pc := 76) dX9_unlikeBy_76 rfl ?_
              refine k_X9_140 (pc := 78) (ge_X9_bit _ _ _ _) rfl (by decide) (Nat.le_refl _) (Nat.le_refl _) (Nat.le_of_ble_eq_true rfl) dX9_unlikeBy_78 (fun x w2 h => ?_)
              obtain ⟨rfl, rfl⟩ := h
              refine R_cv (bitM (σ.2.2.2.1 145 (Int32.toNatClampNeg a)) (nI j24) (nI j14)) rfl ?_
              refine R_aload_n (pc := 81) dX9_unlikeBy_81 rfl rfl ?_
              refine g_X9_22 (pc := 82) (v := .ref 145) rfl dX9_unlikeBy_82 (c_140 _) rfl ?_
              refine R_iload_n (pc := 85) dX9_unlikeBy_85 rfl rfl ?_
              have hx15 : vp_in b 20 := (vp_of_inR hb (by decide))
              refine R_laload (pc := 86) dX9_unlikeBy_86 (c_145 _) hx15 ?_
              refine R_iload (pc := 87) dX9_unlikeBy_87 rfl ?_
              refine R_iload_n (pc := 89) dX9_unlikeBy_89 rfl rfl ?_
              refine R_iadd (pc := 90) dX9_unlikeBy_90 ?_
              refine R_iload (pc := 91) dX9_unlikeBy_91 rfl ?_
              refine R_iload (pc := 93) dX9_unlikeBy_93 rfl ?_
              refine R_iadd (pc := 95) dX9_unlikeBy_95 ?_
              refine k_X9_140 (pc := 96) (ge_X9_bit _ _ _ _) rfl (by decide) (Nat.le_refl _) (Nat.le_refl _) (Nat.le_of_ble_eq_true rfl) dX9_unlikeBy_96 (fun x w2 h => ?_)
              obtain ⟨rfl, rfl⟩ := h
              refine R_cv (bitM (σ.2.2.2.1 145 (Int32.toNatClampNeg b)) ((nI j24) + d) ((nI j14) + f)) rfl ?_
              refine R_iceq (pc := 99) 106 dX9_unlikeBy_99 (by decide) (fun b99_16 => ?_) (fun b99_16 => ?_)
              · skip
                refine R_iconst (pc := 106) (v := 0) dX9_unlikeBy_106 (by decide) ?_
                refine R_iadd (pc := 107) dX9_unlikeBy_107 ?_
                refine st_9_6_i_i (pc := 108) dX9_unlikeBy_108 ?_
                refine inc_9_8_1_i (pc := 110) dX9_unlikeBy_110 ?_
                have r17 : inR ((nI j24) + 1) 1 8 := inR_add (show inR (nI j24) 0 7 from hrg24) (show inR 1 1 1 from (inR_self _)) (by decide) (by decide)
                have e18 := ti_add (l := 1) (h := 8) (show inR (nI j24) 0 7 from hrg24) (show inR 1 1 1 from (inR_self _)) (by decide) (by decide)
                refine R_goto (pc := 113) 24 dX9_unlikeBy_113 (by decide) ?_
                rw [nI_1]
                exact ih24 (j24 + 1) _ _ (by omega) (by omega) (ct_t (f := (ibG (σ.2.2.1 146 (Int32.toNatClampNeg a)) (σ.2.2.1 146 (Int32.toNatClampNeg b)) d f)) hX24_0 (ib_t hlt24 (ge_sa (iva_146 hI _ (clamp19 ha)) hlt14 hs14) h9 h12)) (ct_f0 (f := (dfG (σ.2.2.2.1 145 (Int32.toNatClampNeg a)) (σ.2.2.2.1 145 (Int32.toNatClampNeg b)) (σ.2.2.1 146 (Int32.toNatClampNeg a)) (σ.2.2.1 146 (Int32.toNatClampNeg b)) d f)) hX24_1 (df_e hlt24 b99_16))
              · skip
                refine R_iconst (pc := 102) (v := 1) dX9_unlikeBy_102 (by decide) ?_
                refine R_goto (pc := 103) 107 dX9_unlikeBy_103 (by decide) ?_
                refine R_iadd (pc := 107) dX9_unlikeBy_107 ?_
                refine st_9_6_i_i (pc := 108) dX9_unlikeBy_108 ?_
                refine inc_9_8_1_i (pc := 110) dX9_unlikeBy_110 ?_
                have r19 : inR ((nI j24) + 1) 1 8 := inR_add (show inR (nI j24) 0 7 from hrg24) (show inR 1 1 1 from (inR_self _)) (by decide) (by decide)
                have e20 := ti_add (l := 1) (h := 8) (show inR (nI j24) 0 7 from hrg24) (show inR 1 1 1 from (inR_self _)) (by decide) (by decide)
                refine R_goto (pc := 113) 24 dX9_unlikeBy_113 (by decide) ?_
                rw [nI_1]
                exact ih24 (j24 + 1) _ _ (by omega) (by omega) (ct_t (f := (ibG (σ.2.2.1 146 (Int32.toNatClampNeg a)) (σ.2.2.1 146 (Int32.toNatClampNeg b)) d f)) hX24_0 (ib_t hlt24 (ge_sa (iva_146 hI _ (clamp19 ha)) hlt14 hs14) h9 h12)) (ct_t (f := (dfG (σ.2.2.2.1 145 (Int32.toNatClampNeg a)) (σ.2.2.2.1 145 (Int32.toNatClampNeg b)) (σ.2.2.1 146 (Int32.toNatClampNeg a)) (σ.2.2.1 146 (Int32.toNatClampNeg b)) d f)) hX24_1 (df_n hlt24 (ib_t hlt24 (ge_sa (iva_146 hI _ (clamp19 ha)) hlt14 hs14) h9 h12) b99_16))
            · skip
              refine R_ifeq (pc := 60) 110 dX9_unlikeBy_60 (by decide) (fun _ => ?_) (fun h => absurd (by decide) h)
              refine inc_9_8_1_i (pc := 110) dX9_unlikeBy_110 ?_
              have r22 : inR ((nI j24) + 1) 1 8 := inR_add (show inR (nI j24) 0 7 from hrg24) (show inR 1 1 1 from (inR_self _)) (by decide) (by decide)
              have e23 := ti_add (l := 1) (h := 8) (show inR (nI j24) 0 7 from hrg24) (show inR 1 1 1 from (inR_self _)) (by decide) (by decide)
              refine R_goto (pc := 113) 24 dX9_unlikeBy_113 (by decide) ?_
              rw [nI_1]
              exact ih24 (j24 + 1) _ _ (by omega) (by omega) (ct_f (f := (ibG (σ.2.2.1 146 (Int32.toNatClampNeg a)) (σ.2.2.1 146 (Int32.toNatClampNeg b)) d f)) hX24_0 (ib_f2 hlt24 h12)) (ct_f (f := (dfG (σ.2.2.2.1 145 (Int32.toNatClampNeg a)) (σ.2.2.2.1 145 (Int32.toNatClampNeg b)) (σ.2.2.1 146 (Int32.toNatClampNeg a)) (σ.2.2.1 146 (Int32.toNatClampNeg b)) d f)) hX24_1 (df_f (ib_f2 hlt24 h12)))
          · skip
            refine R_ifeq (pc := 41) 110 dX9_unlikeBy_41 (by decide) (fun _ => ?_) (fun h => absurd (by decide) h)
            refine inc_9_8_1_i (pc := 110) dX9_unlikeBy_110 ?_
            have r25 : inR ((nI j24) + 1) 1 8 := inR_add (show inR (nI j24) 0 7 from hrg24) (show inR 1 1 1 from (inR_self _)) (by decide) (by decide)
            have e26 := ti_add (l := 1) (h := 8) (show inR (nI j24) 0 7 from hrg24) (show inR 1 1 1 from (inR_self _)) (by decide) (by decide)
            refine R_goto (pc := 113) 24 dX9_unlikeBy_113 (by decide) ?_
            rw [nI_1]
            exact ih24 (j24 + 1) _ _ (by omega) (by omega) (ct_f (f := (ibG (σ.2.2.1 146 (Int32.toNatClampNeg a)) (σ.2.2.1 146 (Int32.toNatClampNeg b)) d f)) hX24_0 (ib_f1 hlt24 h9)) (ct_f (f := (dfG (σ.2.2.2.1 145 (Int32.toNatClampNeg a)) (σ.2.2.2.1 145 (Int32.toNatClampNeg b)) (σ.2.2.1 146 (Int32.toNatClampNeg a)) (σ.2.2.1 146 (Int32.toNatClampNeg b)) d f)) hX24_1 (df_f (ib_f1 hlt24 h9)))
      exact HL24 8 0 _ _ (by omega) (by omega) hX14_0 hX14_1
  exact HL14 (8 - (Int32.toNatClampNeg (σ.2.2.1 146 (Int32.toNatClampNeg a)))) (Int32.toNatClampNeg (σ.2.2.1 146 (Int32.toNatClampNeg a))) _ _ _ (by omega) (by omega) (ib_0 (iva_146 hI _ (clamp19 ha))) (df_0 (iva_146 hI _ (clamp19 ha)))
theorem dX_r {n : Nat} (h : n < 25) : (nI n - nI n / 5 * 5) - 2 = dX n := (dX_rem ⟨n, h⟩).1
theorem dY_r {n : Nat} (h : n < 25) : nI n / 5 - 2 = dY n := (dX_rem ⟨n, h⟩).2
set_option maxRecDepth 100000 in
set_option maxHeartbeats 40000000 in
theorem gn_X9_unlikeOf {G : vG} {l : Launch} (σ : Sg) (a b : Int32) (hI : Inv σ) (ha : inR a 0 19) (hb : inR b 0 19) : Sp G l yX9_unlikeOf cX9_unlikeOf 6 (some .int) 2 0 0 [.ref 140, .int a, .int b] (WW σ) (QI (fun x w2 => w2 = WW σ ∧ x = uoF (σ.2.2.2.1 145 (Int32.toNatClampNeg a)) (σ.2.2.2.1 145 (Int32.toNatClampNeg b)) (σ.2.2.1 146 (Int32.toNatClampNeg a)) (σ.2.2.1 146 (Int32.toNatClampNeg b)))) := by
  refine Sp_of_R [(some (.ref 140)), (some (.int a)), (some (.int b)), none, none, none] [none, none, none] rfl (by simp) rfl (Nat.le_of_ble_eq_true rfl) ?_
  refine R_iconst (pc := 0) (v := (-1)) dX9_unlikeOf_0 (by decide) ?_
  refine st_6_3_i_i (pc := 1) dX9_unlikeOf_1 ?_
  refine R_iconst (pc := 2) (v := 0) dX9_unlikeOf_2 (by decide) ?_
  refine st_6_4_i_i (pc := 3) dX9_unlikeOf_3 ?_
  have HL5 : ∀ (q j5 : Nat) (g3_5 : Int32) (g5_5 : Option Value), j5 + q = 25 → 0 ≤ j5 → g3_5 = foF (fun n => ubF (σ.2.2.2.1 145 (Int32.toNatClampNeg a)) (σ.2.2.2.1 145 (Int32.toNatClampNeg b)) (σ.2.2.1 146 (Int32.toNatClampNeg a)) (σ.2.2.1 146 (Int32.toNatClampNeg b)) (dX n) (dY n)) j5 → R G l yX9_unlikeOf cX9_unlikeOf 6 (some .int) 2 0 0 (QI (fun x w2 => w2 = WW σ ∧ x = uoF (σ.2.2.2.1 145 (Int32.toNatClampNeg a)) (σ.2.2.2.1 145 (Int32.toNatClampNeg b)) (σ.2.2.1 146 (Int32.toNatClampNeg a)) (σ.2.2.1 146 (Int32.toNatClampNeg b)))) 5 [(some (.ref 140)), (some (.int a)), (some (.int b)), (some (.int g3_5)), (some (.int (nI j5))), g5_5] [] (WW σ) 0 0 := by
    intro q
    induction q with
    | zero =>
      intro j5 g3_5 g5_5 hj5 hs5 hX5_0
      obtain rfl : j5 = 25 := by omega
      refine R_iload (pc := 5) dX9_unlikeOf_5 rfl ?_
      refine R_bipush (pc := 7) (v := 25) dX9_unlikeOf_7 (by decide) ?_
      refine R_icge (pc := 9) 62 dX9_unlikeOf_9 (by decide) (fun _ => ?_) (fun h => absurd (by decide) h)
      refine R_iload_n (pc := 62) dX9_unlikeOf_62 rfl rfl ?_
      exact R_iret (pc := 63) dX9_unlikeOf_63 rfl rfl (Nat.zero_le _) (Nat.zero_le _) ⟨_, rfl, rfl, hX5_0⟩
    | succ q ih5 =>
      intro j5 g3_5 g5_5 hj5 hs5 hX5_0
      have hlt5 : j5 < 25 := by omega
      have hrg5 : inR (nI j5) 0 24 := inR_ix (s := 0) (by omega) hlt5 (by decide) (by decide) (by decide)
      refine R_iload (pc := 5) dX9_unlikeOf_5 rfl ?_
      refine R_bipush (pc := 7) (v := 25) dX9_unlikeOf_7 (by decide) ?_
      refine R_icge (pc := 9) 62 dX9_unlikeOf_9 (by decide) (fun h => False.elim (by have q1 := ti_le h; have q2 := ti_in (show inR (nI j5) 0 24 from hrg5); have q3 := ti_in (show inR 25 25 25 from (inR_self _)); have z0 : (0 : Int32).toInt = 0 := (by decide);  have z1 : (24 : Int32).toInt = 24 := (by decide);  have z2 : (25 : Int32).toInt = 25 := (by decide); omega)) (fun _ => ?_)
      refine R_aload_n (pc := 12) dX9_unlikeOf_12 rfl rfl ?_
      refine R_iload_n (pc := 13) dX9_unlikeOf_13 rfl rfl ?_
      refine R_iload_n (pc := 14) dX9_unlikeOf_14 rfl rfl ?_
      refine R_iload (pc := 15) dX9_unlikeOf_15 rfl ?_
      refine R_iconst (pc := 17) (v := 5) dX9_unlikeOf_17 (by decide) ?_
      refine R_irem (pc := 18) dX9_unlikeOf_18 (by decide) ?_
      refine R_iconst (pc := 19) (v := 2) dX9_unlikeOf_19 (by decide) ?_
      refine R_isub (pc := 20) dX9_unlikeOf_20 ?_
      refine R_iload (pc := 21) dX9_unlikeOf_21 rfl ?_
      refine R_iconst (pc := 23) (v := 5) dX9_unlikeOf_23 (by decide) ?_
      refine R_idiv (pc := 24) dX9_unlikeOf_24 (by decide) ?_
      refine R_iconst (pc := 25) (v := 2) dX9_unlikeOf_25 (by decide) ?_
      refine R_isub (pc := 26) dX9_unlikeOf_26 ?_
      refine k_X9_144 (pc := 27) (gn_X9_unlikeBy _ _ _ _ _ hI ha hb) rfl (c_140 _) (by decide) (Nat.le_refl _) (Nat.le_refl _) (Nat.le_of_ble_eq_true rfl) dX9_unlikeOf_27 (fun x w2 h => ?_)
      obtain ⟨rfl, rfl⟩ := h
      refine R_cv (ubF (σ.2.2.2.1 145 (Int32.toNatClampNeg a)) (σ.2.2.2.1 145 (Int32.toNatClampNeg b)) (σ.2.2.1 146 (Int32.toNatClampNeg a)) (σ.2.2.1 146 (Int32.toNatClampNeg b)) (dX j5) (dY j5)) (by rw [dX_r (by omega), dY_r (by omega)]) ?_
      refine st_6_5_i_i (pc := 30) dX9_unlikeOf_30 ?_
      refine R_iload (pc := 32) dX9_unlikeOf_32 rfl ?_
      refine R_iconst (pc := 34) (v := (-1)) dX9_unlikeOf_34 (by decide) ?_
      refine R_iceq (pc := 35) 54 dX9_unlikeOf_35 (by decide) (fun b35_3 => ?_) (fun b35_3 => ?_)
      · skip
        refine R_iload_n (pc := 54) dX9_unlikeOf_54 rfl rfl ?_
        refine st_6_3_i_i (pc := 55) dX9_unlikeOf_55 ?_
        refine inc_6_4_1_i (pc := 56) dX9_unlikeOf_56 ?_
        have r4 : inR ((nI j5) + 1) 1 25 := inR_add (show inR (nI j5) 0 24 from hrg5) (show inR 1 1 1 from (inR_self _)) (by decide) (by decide)
        have e5 := ti_add (l := 1) (h := 25) (show inR (nI j5) 0 24 from hrg5) (show inR 1 1 1 from (inR_self _)) (by decide) (by decide)
        refine R_goto (pc := 59) 5 dX9_unlikeOf_59 (by decide) ?_
        rw [nI_1]
        exact ih5 (j5 + 1) _ _ (by omega) (by omega) (by show _ = stepF (foF (fun n => ubF (σ.2.2.2.1 145 (Int32.toNatClampNeg a)) (σ.2.2.2.1 145 (Int32.toNatClampNeg b)) (σ.2.2.1 146 (Int32.toNatClampNeg a)) (σ.2.2.1 146 (Int32.toNatClampNeg b)) (dX n) (dY n)) j5) (ubF (σ.2.2.2.1 145 (Int32.toNatClampNeg a)) (σ.2.2.2.1 145 (Int32.toNatClampNeg b)) (σ.2.2.1 146 (Int32.toNatClampNeg a)) (σ.2.2.1 146 (Int32.toNatClampNeg b)) (dX j5) (dY j5)); rw [← hX5_0]; exact (st_skip b35_3).symm)
      · skip
        refine R_iload_n (pc := 38) dX9_unlikeOf_38 rfl rfl ?_
        refine R_iconst (pc := 39) (v := (-1)) dX9_unlikeOf_39 (by decide) ?_
        refine R_iceq (pc := 40) 49 dX9_unlikeOf_40 (by decide) (fun b40_6 => ?_) (fun b40_6 => ?_)
        · skip
          refine R_iload (pc := 49) dX9_unlikeOf_49 rfl ?_
          refine R_goto (pc := 51) 55 dX9_unlikeOf_51 (by decide) ?_
          refine st_6_3_i_i (pc := 55) dX9_unlikeOf_55 ?_
          refine inc_6_4_1_i (pc := 56) dX9_unlikeOf_56 ?_
          have r7 : inR ((nI j5) + 1) 1 25 := inR_add (show inR (nI j5) 0 24 from hrg5) (show inR 1 1 1 from (inR_self _)) (by decide) (by decide)
          have e8 := ti_add (l := 1) (h := 25) (show inR (nI j5) 0 24 from hrg5) (show inR 1 1 1 from (inR_self _)) (by decide) (by decide)
          refine R_goto (pc := 59) 5 dX9_unlikeOf_59 (by decide) ?_
          rw [nI_1]
          exact ih5 (j5 + 1) _ _ (by omega) (by omega) (by show _ = stepF (foF (fun n => ubF (σ.2.2.2.1 145 (Int32.toNatClampNeg a)) (σ.2.2.2.1 145 (Int32.toNatClampNeg b)) (σ.2.2.1 146 (Int32.toNatClampNeg a)) (σ.2.2.1 146 (Int32.toNatClampNeg b)) (dX n) (dY n)) j5) (ubF (σ.2.2.2.1 145 (Int32.toNatClampNeg a)) (σ.2.2.2.1 145 (Int32.toNatClampNeg b)) (σ.2.2.1 146 (Int32.toNatClampNeg a)) (σ.2.2.1 146 (Int32.toNatClampNeg b)) (dX j5) (dY j5)); rw [← hX5_0]; exact (st_first b35_3 b40_6).symm)
        · skip
          refine R_iload (pc := 43) dX9_unlikeOf_43 rfl ?_
          refine R_iload_n (pc := 45) dX9_unlikeOf_45 rfl rfl ?_
          refine R_icge (pc := 46) 54 dX9_unlikeOf_46 (by decide) (fun b46_9 => ?_) (fun b46_9 => ?_)
          · skip
            refine R_iload_n (pc := 54) dX9_unlikeOf_54 rfl rfl ?_
            refine st_6_3_i_i (pc := 55) dX9_unlikeOf_55 ?_
            refine inc_6_4_1_i (pc := 56) dX9_unlikeOf_56 ?_
            have r10 : inR ((nI j5) + 1) 1 25 := inR_add (show inR (nI j5) 0 24 from hrg5) (show inR 1 1 1 from (inR_self _)) (by decide) (by decide)
            have e11 := ti_add (l := 1) (h := 25) (show inR (nI j5) 0 24 from hrg5) (show inR 1 1 1 from (inR_self _)) (by decide) (by decide)
            refine R_goto (pc := 59) 5 dX9_unlikeOf_59 (by decide) ?_
            rw [nI_1]
            exact ih5 (j5 + 1) _ _ (by omega) (by omega) (by show _ = stepF (foF (fun n => ubF (σ.2.2.2.1 145 (Int32.toNatClampNeg a)) (σ.2.2.2.1 145 (Int32.toNatClampNeg b)) (σ.2.2.1 146 (Int32.toNatClampNeg a)) (σ.2.2.1 146 (Int32.toNatClampNeg b)) (dX n) (dY n)) j5) (ubF (σ.2.2.2.1 145 (Int32.toNatClampNeg a)) (σ.2.2.2.1 145 (Int32.toNatClampNeg b)) (σ.2.2.1 146 (Int32.toNatClampNeg a)) (σ.2.2.1 146 (Int32.toNatClampNeg b)) (dX j5) (dY j5)); rw [← hX5_0]; exact (st_more b35_3 b40_6 (Int32.not_lt.mpr b46_9)).symm)
          · skip
            refine R_iload (pc := 49) dX9_unlikeOf_49 rfl ?_
            refine R_goto (pc := 51) 55 dX9_unlikeOf_51 (by decide) ?_
            refine st_6_3_i_i (pc := 55) dX9_unlikeOf_55 ?_
            refine inc_6_4_1_i (pc := 56) dX9_unlikeOf_56 ?_
            have r12 : inR ((nI j5) + 1) 1 25 := inR_add (show inR (nI j5) 0 24 from hrg5) (show inR 1 1 1 from (inR_self _)) (by decide) (by decide)
            have e13 := ti_add (l := 1) (h := 25) (show inR (nI j5) 0 24 from hrg5) (show inR 1 1 1 from (inR_self _)) (by decide) (by decide)
            refine R_goto (pc := 59) 5 dX9_unlikeOf_59 (by decide) ?_
            rw [nI_1]
            exact ih5 (j5 + 1) _ _ (by omega) (by omega) (by show _ = stepF (foF (fun n => ubF (σ.2.2.2.1 145 (Int32.toNatClampNeg a)) (σ.2.2.2.1 145 (Int32.toNatClampNeg b)) (σ.2.2.1 146 (Int32.toNatClampNeg a)) (σ.2.2.1 146 (Int32.toNatClampNeg b)) (dX n) (dY n)) j5) (ubF (σ.2.2.2.1 145 (Int32.toNatClampNeg a)) (σ.2.2.2.1 145 (Int32.toNatClampNeg b)) (σ.2.2.1 146 (Int32.toNatClampNeg a)) (σ.2.2.1 146 (Int32.toNatClampNeg b)) (dX j5) (dY j5)); rw [← hX5_0]; exact (st_less b35_3 (Int32.not_le.mp b46_9)).symm)
  exact HL5 25 0 _ _ (by omega) (by omega) rfl
