/-! methods on any state that keeps the invariant -/
set_option maxRecDepth 100000 in
set_option maxHeartbeats 40000000 in
theorem ge_X1_canBePublished {G : vG} {l : Launch} (σ : Sg) (c a b : Int32) (hc : inR c 0 19) : Sp G l yX1_canBePublished cX1_canBePublished 4 (some .boolean) 0 0 0 [.ref 58, .int c, .int a, .int b] (WW σ) (QI (fun x w2 => w2 = WW σ ∧ (x = 1 ∧ (σ.2.2.1 90 (Int32.toNatClampNeg c)).toInt ≤ b.toInt ∧ a.toInt ≤ (σ.2.2.1 91 (Int32.toNatClampNeg c)).toInt ∨ x = 0 ∧ (b.toInt < (σ.2.2.1 90 (Int32.toNatClampNeg c)).toInt ∨ (σ.2.2.1 91 (Int32.toNatClampNeg c)).toInt < a.toInt)))) := by
  refine Sp_of_R [(some (.ref 58)), (some (.int c)), (some (.int a)), (some (.int b))] [] rfl (by simp) rfl (Nat.le_of_ble_eq_true rfl) ?_
  refine R_aload_n (pc := 0) dX1_canBePublished_0 rfl rfl ?_
  refine g_X1_42 (pc := 1) (v := .ref 89) rfl dX1_canBePublished_1 (c_58 _) rfl ?_
  refine g_X1_133 (pc := 4) (v := .ref 90) rfl dX1_canBePublished_4 (c_89 _) rfl ?_
  refine R_iload_n (pc := 7) dX1_canBePublished_7 rfl rfl ?_
  have hx1 : vp_in c 20 := (vp_of_inR hc (by decide))
  refine R_iaload (pc := 8) dX1_canBePublished_8 (c_90 _) hx1 ?_
  refine R_iload_n (pc := 9) dX1_canBePublished_9 rfl rfl ?_
  refine R_icgt (pc := 10) 30 dX1_canBePublished_10 (by decide) (fun b10_2 => ?_) (fun b10_2 => ?_)
  · skip
    refine R_iconst (pc := 30) (v := 0) dX1_canBePublished_30 (by decide) ?_
    exact R_iret (pc := 31) dX1_canBePublished_31 rfl rfl (Nat.zero_le _) (Nat.zero_le _) ⟨_, rfl, rfl, Or.inr ⟨rfl, (by have q0 := ti_lt b10_2; have q1 := ti_in hc; have z0 : (0 : Int32).toInt = 0 := (by decide); have z1 : (1 : Int32).toInt = 1 := (by decide); have z2 : (19 : Int32).toInt = 19 := (by decide); have z3 : (90 : Int32).toInt = 90 := (by decide); omega)⟩⟩
  · skip
    refine R_aload_n (pc := 13) dX1_canBePublished_13 rfl rfl ?_
    refine g_X1_42 (pc := 14) (v := .ref 89) rfl dX1_canBePublished_14 (c_58 _) rfl ?_
    refine g_X1_136 (pc := 17) (v := .ref 91) rfl dX1_canBePublished_17 (c_89 _) rfl ?_
    refine R_iload_n (pc := 20) dX1_canBePublished_20 rfl rfl ?_
    have hx3 : vp_in c 20 := (vp_of_inR hc (by decide))
    refine R_iaload (pc := 21) dX1_canBePublished_21 (c_91 _) hx3 ?_
    refine R_iload_n (pc := 22) dX1_canBePublished_22 rfl rfl ?_
    refine R_iclt (pc := 23) 30 dX1_canBePublished_23 (by decide) (fun b23_4 => ?_) (fun b23_4 => ?_)
    · skip
      refine R_iconst (pc := 30) (v := 0) dX1_canBePublished_30 (by decide) ?_
      exact R_iret (pc := 31) dX1_canBePublished_31 rfl rfl (Nat.zero_le _) (Nat.zero_le _) ⟨_, rfl, rfl, Or.inr ⟨rfl, (by have q0 := ti_nlt b10_2; have q1 := ti_lt b23_4; have q2 := ti_in hc; have z0 : (0 : Int32).toInt = 0 := (by decide); have z1 : (1 : Int32).toInt = 1 := (by decide); have z2 : (19 : Int32).toInt = 19 := (by decide); have z3 : (90 : Int32).toInt = 90 := (by decide); have z4 : (91 : Int32).toInt = 91 := (by decide); omega)⟩⟩
    · skip
      refine R_iconst (pc := 26) (v := 1) dX1_canBePublished_26 (by decide) ?_
      refine R_goto (pc := 27) 31 dX1_canBePublished_27 (by decide) ?_
      exact R_iret (pc := 31) dX1_canBePublished_31 rfl rfl (Nat.zero_le _) (Nat.zero_le _) ⟨_, rfl, rfl, Or.inl ⟨rfl, (by have q0 := ti_nlt b10_2; have q1 := ti_nlt b23_4; have q2 := ti_in hc; have z0 : (0 : Int32).toInt = 0 := (by decide); have z1 : (1 : Int32).toInt = 1 := (by decide); have z2 : (19 : Int32).toInt = 19 := (by decide); have z3 : (90 : Int32).toInt = 90 := (by decide); have z4 : (91 : Int32).toInt = 91 := (by decide); omega), (by have q0 := ti_nlt b10_2; have q1 := ti_nlt b23_4; have q2 := ti_in hc; have z0 : (0 : Int32).toInt = 0 := (by decide); have z1 : (1 : Int32).toInt = 1 := (by decide); have z2 : (19 : Int32).toInt = 19 := (by decide); have z3 : (90 : Int32).toInt = 90 := (by decide); have z4 : (91 : Int32).toInt = 91 := (by decide); omega)⟩⟩
set_option maxRecDepth 100000 in
set_option maxHeartbeats 40000000 in
theorem gq_X8_breaks {G : vG} {l : Launch} (σ : Sg) (D : Dt) (i : Int32) (hI : Inv σ) (hS : Sym (RC0 σ) (tb (thI σ))) (hD : DtC D (thI σ) 119 σ) : Sp G l yX8_breaks cX8_breaks 7 (some .int) 6 0 0 [.ref 0, .int i] (WW σ) (QI (fun x w2 => BrP σ.2.2.2.2.1 σ D i x ∧ ∃ σ2, w2 = WW σ2 ∧ Inv σ2 ∧ Cor σ σ2)) := by
  refine Sp_of_R [(some (.ref 0)), (some (.int i)), none, none, none, none, none] [none, none, none, none, none] rfl (by simp) rfl (Nat.le_of_ble_eq_true rfl) ?_
  refine R_iload_n (pc := 0) dX8_breaks_0 rfl rfl ?_
  refine R_iconst (pc := 1) (v := 0) dX8_breaks_1 (by decide) ?_
  refine R_aload_n (pc := 2) dX8_breaks_2 rfl rfl ?_
  rcases iv_ln hI with ⟨hl1, hl1d⟩ | ⟨hl1, hl1d⟩
  · skip
    refine g_X8_62 (pc := 3) (v := .ref 126) rfl dX8_breaks_3 (c_0 _) (by show some (Value.ref σ.2.2.2.2.1) = _; rw [hl1]) ?_
    refine g_X8_299 (pc := 6) (v := .int (σ.1 12606)) rfl dX8_breaks_6 (c_126 _) rfl ?_
    refine R_iconst (pc := 9) (v := 1) dX8_breaks_9 (by decide) ?_
    refine R_isub (pc := 10) dX8_breaks_10 ?_
    have r2 : inR ((σ.1 12606) - 1) (-1) 7 := inR_sub (show inR (σ.1 12606) 0 8 from (iv_12606 hI)) (show inR 1 1 1 from (inR_self _)) (by decide) (by decide)
    have e3 := ti_sub (l := (-1)) (h := 7) (show inR (σ.1 12606) 0 8 from (iv_12606 hI)) (show inR 1 1 1 from (inR_self _)) (by decide) (by decide)
    refine k_X8_72 (pc := 11) (sp_X8_isWithin _ _ _ _) rfl (by decide) (Nat.le_refl _) (Nat.le_refl _) (Nat.le_of_ble_eq_true rfl) dX8_breaks_11 (fun x w2 h => ?_)
    rcases h with ⟨rfl, ⟨h4, rfl⟩ | ⟨h4, rfl⟩⟩
    · skip
      refine R_ifne (pc := 14) 20 dX8_breaks_14 (by decide) (fun _ => ?_) (fun h => absurd h (by decide))
      refine R_aload_n (pc := 20) dX8_breaks_20 rfl rfl ?_
      refine g_X8_10 (pc := 21) (v := .ref 1) rfl dX8_breaks_21 (c_0 _) rfl ?_
      refine k_X8_126 (pc := 24) (ge_X0_there _ hI) rfl (c_1 _) (by decide) (Nat.le_refl _) (Nat.le_refl _) (Nat.le_of_ble_eq_true rfl) dX8_breaks_24 (fun x w2 h => ?_)
      obtain ⟨rfl, rfl⟩ := h
      refine st_7_2_i_i (pc := 27) dX8_breaks_27 ?_
      refine R_aload_n (pc := 28) dX8_breaks_28 rfl rfl ?_
      refine g_X8_62 (pc := 29) (v := .ref 126) rfl dX8_breaks_29 (c_0 _) (by show some (Value.ref σ.2.2.2.2.1) = _; rw [hl1]) ?_
      refine g_X8_300 (pc := 32) (v := .ref 130) rfl dX8_breaks_32 (c_126 _) rfl ?_
      refine R_iload_n (pc := 35) dX8_breaks_35 rfl rfl ?_
      have hx6 : vp_in i 8 := (vp_ti (by have q0 := e3; have q1 := ti_in h4; have q2 := ti_in (iv_12606 hI); have q3 := ti_in r2; have q4 := ti_in (thI_in σ); have z0 : (-1 : Int32).toInt = -1 := (by decide); have z1 : (0 : Int32).toInt = 0 := (by decide); have z2 : (1 : Int32).toInt = 1 := (by decide); have z3 : (1048575 : Int32).toInt = 1048575 := (by decide); have z4 : (7 : Int32).toInt = 7 := (by decide); have z5 : (8 : Int32).toInt = 8 := (by decide); omega) (by have q0 := e3; have q1 := ti_in h4; have q2 := ti_in (iv_12606 hI); have q3 := ti_in r2; have q4 := ti_in (thI_in σ); have z0 : (-1 : Int32).toInt = -1 := (by decide); have z1 : (0 : Int32).toInt = 0 := (by decide); have z2 : (1 : Int32).toInt = 1 := (by decide); have z3 : (1048575 : Int32).toInt = 1048575 := (by decide); have z4 : (7 : Int32).toInt = 7 := (by decide); have z5 : (8 : Int32).toInt = 8 := (by decide); omega))
      refine R_baload (pc := 36) dX8_breaks_36 (c_130 _) hx6 ?_
      refine st_7_3_i_i (pc := 37) dX8_breaks_37 ?_
      refine R_iload_n (pc := 38) dX8_breaks_38 rfl rfl ?_
      refine R_ifeq (pc := 39) 60 dX8_breaks_39 (by decide) (fun b39_7 => ?_) (fun b39_7 => ?_)
      · skip
        refine R_iconst (pc := 60) (v := 0) dX8_breaks_60 (by decide) ?_
        refine st_7_4_i_i (pc := 61) dX8_breaks_61 ?_
        refine R_iconst (pc := 63) (v := 0) dX8_breaks_63 (by decide) ?_
        refine st_7_5_i_i (pc := 64) dX8_breaks_64 ?_
        have HL66 : ∀ (q j66 : Nat) (g4_66 : Int32) (g6_66 : Option Value), j66 + q = 20 → 0 ≤ j66 → g4_66 = bsI (fun c => tb (thI σ) c && (bfC 126 σ (Int32.toNatClampNeg i) c && (!decide (σ.2.2.1 5 c = σ.2.2.1 131 (Int32.toNatClampNeg i))))) j66 → R G l yX8_breaks cX8_breaks 7 (some .int) 6 0 0 (QI (fun x w2 => BrP σ.2.2.2.2.1 σ D i x ∧ ∃ σ2, w2 = WW σ2 ∧ Inv σ2 ∧ Cor σ σ2)) 66 [(some (.ref 0)), (some (.int i)), (some (.int (thI σ))), (some (.int (σ.2.2.1 130 (Int32.toNatClampNeg i)))), (some (.int g4_66)), (some (.int (nI j66))), g6_66] [] (WW σ) 0 0 := by
          intro q
          induction q with
          | zero =>
            intro j66 g4_66 g6_66 hj hs66 hX66_0
            obtain rfl : j66 = 20 := by omega
            refine R_iload (pc := 66) dX8_breaks_66 rfl ?_
            refine R_bipush (pc := 68) (v := 20) dX8_breaks_68 (by decide) ?_
            refine R_icge (pc := 70) 196 dX8_breaks_70 (by decide) (fun _ => ?_) (fun h => absurd (by decide) h)
            refine R_iload (pc := 196) dX8_breaks_196 rfl ?_
            exact R_iret (pc := 198) dX8_breaks_198 rfl rfl (Nat.zero_le _) (Nat.zero_le _) ⟨_, rfl, (by rw [hl1]; exact Or.inr (Or.inl ⟨inB_t h4, (nd_f b39_7), hX66_0⟩)), _, rfl, hI, (show Cor σ σ from Cor.rfl' σ)⟩
          | succ q ih66 =>
            intro j66 g4_66 g6_66 hj hs66 hX66_0
            have hrg66 : inR (nI j66) 0 19 := inR_ix hs66 (show j66 < 20 by omega) (by decide) (by decide) (by decide)
            have hlt66 : j66 < 20 := by omega
            refine R_iload (pc := 66) dX8_breaks_66 rfl ?_
            refine R_bipush (pc := 68) (v := 20) dX8_breaks_68 (by decide) ?_
            refine R_icge (pc := 70) 196 dX8_breaks_70 (by decide) (fun h => False.elim (by have q1 := ti_le h; have q2 := ti_in (show inR (nI j66) 0 19 from hrg66); have q3 := ti_in (show inR 20 20 20 from (inR_self _)); have z0 : (0 : Int32).toInt = 0 := (by decide);  have z1 : (19 : Int32).toInt = 19 := (by decide);  have z2 : (20 : Int32).toInt = 20 := (by decide); omega)) (fun _ => ?_)
            refine R_iload_n (pc := 73) dX8_breaks_73 rfl rfl ?_
            refine R_iload (pc := 74) dX8_breaks_74 rfl ?_
            refine k_X8_209 (pc := 76) (sp_X8_has _ _ _) rfl (by decide) (Nat.le_refl _) (Nat.le_refl _) (Nat.le_of_ble_eq_true rfl) dX8_breaks_76 (fun x w2 h => ?_)
            rcases h with ⟨rfl, ⟨hh10, rfl⟩ | ⟨hh10, rfl⟩⟩
            · skip
              refine R_ifeq (pc := 79) 190 dX8_breaks_79 (by decide) (fun h => absurd h (by decide)) (fun _ => ?_)
              refine R_aload_n (pc := 82) dX8_breaks_82 rfl rfl ?_
              refine g_X8_62 (pc := 83) (v := .ref 126) rfl dX8_breaks_83 (c_0 _) (by show some (Value.ref σ.2.2.2.2.1) = _; rw [hl1]) ?_
              refine R_iload_n (pc := 86) dX8_breaks_86 rfl rfl ?_
              refine R_aload_n (pc := 87) dX8_breaks_87 rfl rfl ?_
              refine g_X8_10 (pc := 88) (v := .ref 1) rfl dX8_breaks_88 (c_0 _) rfl ?_
              refine g_X8_172 (pc := 91) (v := .ref 3) rfl dX8_breaks_91 (c_1 _) rfl ?_
              refine R_iload (pc := 94) dX8_breaks_94 rfl ?_
              have hx12 : vp_in (nI j66) 20 := (vp_in_nI (by omega) (by decide))
              refine R_iaload (pc := 96) dX8_breaks_96 (c_3 _) hx12 ?_
              refine R_aload_n (pc := 97) dX8_breaks_97 rfl rfl ?_
              refine g_X8_10 (pc := 98) (v := .ref 1) rfl dX8_breaks_98 (c_0 _) rfl ?_
              refine g_X8_178 (pc := 101) (v := .ref 4) rfl dX8_breaks_101 (c_1 _) rfl ?_
              refine R_iload (pc := 104) dX8_breaks_104 rfl ?_
              have hx13 : vp_in (nI j66) 20 := (vp_in_nI (by omega) (by decide))
              refine R_iaload (pc := 106) dX8_breaks_106 (c_4 _) hx13 ?_
              refine k_X8_304 (pc := 107) (ge_X4_isFor_126 _ _ _ _ hI (show inR i 0 7 from of_ti (by have q0 := e3; have q1 := ti_in h4; have q2 := ti_eq b39_7; have q3 := ti_in (iv_12606 hI); have q4 := ti_in r2; have q5 := ti_in (thI_in σ); have q6 := ti_in hrg66; have q7 := ti_in (iva_4 hI _ (lt_of_vp hx13)); have z0 : (-1 : Int32).toInt = -1 := (by decide); have z1 : (0 : Int32).toInt = 0 := (by decide); have z2 : (1 : Int32).toInt = 1 := (by decide); have z3 : (1048575 : Int32).toInt = 1048575 := (by decide); have z4 : (130 : Int32).toInt = 130 := (by decide); have z5 : (19 : Int32).toInt = 19 := (by decide); have z6 : (7 : Int32).toInt = 7 := (by decide); have z7 : (8 : Int32).toInt = 8 := (by decide); have z8 : (99 : Int32).toInt = 99 := (by decide); omega) (by have q0 := e3; have q1 := ti_in h4; have q2 := ti_eq b39_7; have q3 := ti_in (iv_12606 hI); have q4 := ti_in r2; have q5 := ti_in (thI_in σ); have q6 := ti_in hrg66; have q7 := ti_in (iva_4 hI _ (lt_of_vp hx13)); have z0 : (-1 : Int32).toInt = -1 := (by decide); have z1 : (0 : Int32).toInt = 0 := (by decide); have z2 : (1 : Int32).toInt = 1 := (by decide); have z3 : (1048575 : Int32).toInt = 1048575 := (by decide); have z4 : (130 : Int32).toInt = 130 := (by decide); have z5 : (19 : Int32).toInt = 19 := (by decide); have z6 : (7 : Int32).toInt = 7 := (by decide); have z7 : (8 : Int32).toInt = 8 := (by decide); have z8 : (99 : Int32).toInt = 99 := (by decide); omega))) rfl (c_126 _) (by decide) (Nat.le_refl _) (Nat.le_refl _) (Nat.le_of_ble_eq_true rfl) dX8_breaks_107 (fun x w2 h => ?_)
              rcases h with ⟨rfl, ⟨hf14, rfl⟩ | ⟨hf14, rfl⟩⟩
              · skip
                refine R_ifeq (pc := 110) 190 dX8_breaks_110 (by decide) (fun h => absurd h (by decide)) (fun _ => ?_)
                refine R_iload_n (pc := 113) dX8_breaks_113 rfl rfl ?_
                refine R_ifeq (pc := 114) 147 dX8_breaks_114 (by decide) (fun _ => ?_) (fun h => absurd b39_7 h)
                refine R_aload_n (pc := 147) dX8_breaks_147 rfl rfl ?_
                refine g_X8_10 (pc := 148) (v := .ref 1) rfl dX8_breaks_148 (c_0 _) rfl ?_
                refine g_X8_316 (pc := 151) (v := .ref 5) rfl dX8_breaks_151 (c_1 _) rfl ?_
                refine R_iload (pc := 154) dX8_breaks_154 rfl ?_
                have hx17 : vp_in (nI j66) 20 := (vp_in_nI (by omega) (by decide))
                refine R_iaload (pc := 156) dX8_breaks_156 (c_5 _) hx17 ?_
                refine R_aload_n (pc := 157) dX8_breaks_157 rfl rfl ?_
                refine g_X8_62 (pc := 158) (v := .ref 126) rfl dX8_breaks_158 (c_0 _) (by show some (Value.ref σ.2.2.2.2.1) = _; rw [hl1]) ?_
                refine g_X8_307 (pc := 161) (v := .ref 131) rfl dX8_breaks_161 (c_126 _) rfl ?_
                refine R_iload_n (pc := 164) dX8_breaks_164 rfl rfl ?_
                have hx18 : vp_in i 8 := (vp_ti (by have q0 := e3; have q1 := ti_in h4; have q2 := ti_eq b39_7; have q3 := ti_in (iv_12606 hI); have q4 := ti_in r2; have q5 := ti_in (thI_in σ); have q6 := ti_in hrg66; have q7 := ti_in (iva_4 hI _ (lt_of_vp hx13)); have q8 := ti_in (iva_5 hI _ (lt_of_vp hx17)); have z0 : (-1 : Int32).toInt = -1 := (by decide); have z1 : (0 : Int32).toInt = 0 := (by decide); have z2 : (1 : Int32).toInt = 1 := (by decide); have z3 : (1048575 : Int32).toInt = 1048575 := (by decide); have z4 : (130 : Int32).toInt = 130 := (by decide); have z5 : (19 : Int32).toInt = 19 := (by decide); have z6 : (4 : Int32).toInt = 4 := (by decide); have z7 : (7 : Int32).toInt = 7 := (by decide); have z8 : (8 : Int32).toInt = 8 := (by decide); have z9 : (99 : Int32).toInt = 99 := (by decide); omega) (by have q0 := e3; have q1 := ti_in h4; have q2 := ti_eq b39_7; have q3 := ti_in (iv_12606 hI); have q4 := ti_in r2; have q5 := ti_in (thI_in σ); have q6 := ti_in hrg66; have q7 := ti_in (iva_4 hI _ (lt_of_vp hx13)); have q8 := ti_in (iva_5 hI _ (lt_of_vp hx17)); have z0 : (-1 : Int32).toInt = -1 := (by decide); have z1 : (0 : Int32).toInt = 0 := (by decide); have z2 : (1 : Int32).toInt = 1 := (by decide); have z3 : (1048575 : Int32).toInt = 1048575 := (by decide); have z4 : (130 : Int32).toInt = 130 := (by decide); have z5 : (19 : Int32).toInt = 19 := (by decide); have z6 : (4 : Int32).toInt = 4 := (by decide); have z7 : (7 : Int32).toInt = 7 := (by decide); have z8 : (8 : Int32).toInt = 8 := (by decide); have z9 : (99 : Int32).toInt = 99 := (by decide); omega))
                refine R_iaload (pc := 165) dX8_breaks_165 (c_131 _) hx18 ?_
                refine R_icne (pc := 166) 173 dX8_breaks_166 (by decide) (fun b166_19 => ?_) (fun b166_19 => ?_)
                · skip
                  refine R_iconst (pc := 173) (v := 0) dX8_breaks_173 (by decide) ?_
                  refine st_7_6_i_i (pc := 174) dX8_breaks_174 ?_
                  refine R_iload (pc := 176) dX8_breaks_176 rfl ?_
                  refine R_ifne (pc := 178) 190 dX8_breaks_178 (by decide) (fun h => absurd (by decide) h) (fun _ => ?_)
                  refine R_iload (pc := 181) dX8_breaks_181 rfl ?_
                  refine R_iconst (pc := 183) (v := 1) dX8_breaks_183 (by decide) ?_
                  refine R_iload (pc := 184) dX8_breaks_184 rfl ?_
                  refine R_ishl (pc := 186) dX8_breaks_186 ?_
                  have r21 : inR (1 <<< ((nI j66) &&& 31)) 0 1048575 := shl20 hrg66
                  refine R_ior (pc := 187) dX8_breaks_187 ?_
                  refine st_7_4_i_i (pc := 188) dX8_breaks_188 ?_
                  refine inc_7_5_1_i (pc := 190) dX8_breaks_190 ?_
                  have r22 : inR ((nI j66) + 1) 1 20 := inR_add (show inR (nI j66) 0 19 from hrg66) (show inR 1 1 1 from (inR_self _)) (by decide) (by decide)
                  have e23 := ti_add (l := 1) (h := 20) (show inR (nI j66) 0 19 from hrg66) (show inR 1 1 1 from (inR_self _)) (by decide) (by decide)
                  refine R_goto (pc := 193) 66 dX8_breaks_193 (by decide) ?_
                  rw [nI_1]
                  exact ih66 (j66 + 1) _ _ (by omega) (by omega) (bs_t (K := (fun c => tb (thI σ) c && (bfC 126 σ (Int32.toNatClampNeg i) c && (!decide (σ.2.2.1 5 c = σ.2.2.1 131 (Int32.toNatClampNeg i)))))) hX66_0 (an_t (has_t (by omega) hh10) (show bfC 126 σ (Int32.toNatClampNeg i) j66 = true from by have q := hf14; rw [nI_clamp (by omega)] at q; exact q) (ne_t (by have q := b166_19; rw [nI_clamp (by omega)] at q; exact q))))
                · skip
                  refine R_iconst (pc := 169) (v := 1) dX8_breaks_169 (by decide) ?_
                  refine R_goto (pc := 170) 174 dX8_breaks_170 (by decide) ?_
                  refine st_7_6_i_i (pc := 174) dX8_breaks_174 ?_
                  refine R_iload (pc := 176) dX8_breaks_176 rfl ?_
                  refine R_ifne (pc := 178) 190 dX8_breaks_178 (by decide) (fun _ => ?_) (fun h => absurd h (by decide))
                  refine inc_7_5_1_i (pc := 190) dX8_breaks_190 ?_
                  have r25 : inR ((nI j66) + 1) 1 20 := inR_add (show inR (nI j66) 0 19 from hrg66) (show inR 1 1 1 from (inR_self _)) (by decide) (by decide)
                  have e26 := ti_add (l := 1) (h := 20) (show inR (nI j66) 0 19 from hrg66) (show inR 1 1 1 from (inR_self _)) (by decide) (by decide)
                  refine R_goto (pc := 193) 66 dX8_breaks_193 (by decide) ?_
                  rw [nI_1]
                  exact ih66 (j66 + 1) _ _ (by omega) (by omega) (bs_f (K := (fun c => tb (thI σ) c && (bfC 126 σ (Int32.toNatClampNeg i) c && (!decide (σ.2.2.1 5 c = σ.2.2.1 131 (Int32.toNatClampNeg i)))))) hX66_0 (an_3 (ne_f (by have q := b166_19; rw [nI_clamp (by omega)] at q; exact q))))
              · skip
                refine R_ifeq (pc := 110) 190 dX8_breaks_110 (by decide) (fun _ => ?_) (fun h => absurd (by decide) h)
                refine inc_7_5_1_i (pc := 190) dX8_breaks_190 ?_
                have r28 : inR ((nI j66) + 1) 1 20 := inR_add (show inR (nI j66) 0 19 from hrg66) (show inR 1 1 1 from (inR_self _)) (by decide) (by decide)
                have e29 := ti_add (l := 1) (h := 20) (show inR (nI j66) 0 19 from hrg66) (show inR 1 1 1 from (inR_self _)) (by decide) (by decide)
                refine R_goto (pc := 193) 66 dX8_breaks_193 (by decide) ?_
                rw [nI_1]
                exact ih66 (j66 + 1) _ _ (by omega) (by omega) (bs_f (K := (fun c => tb (thI σ) c && (bfC 126 σ (Int32.toNatClampNeg i) c && (!decide (σ.2.2.1 5 c = σ.2.2.1 131 (Int32.toNatClampNeg i)))))) hX66_0 (an_2 (show bfC 126 σ (Int32.toNatClampNeg i) j66 = false from by have q := hf14; rw [nI_clamp (by omega)] at q; exact q)))
            · skip
              refine R_ifeq (pc := 79) 190 dX8_breaks_79 (by decide) (fun _ => ?_) (fun h => absurd (by decide) h)
              refine inc_7_5_1_i (pc := 190) dX8_breaks_190 ?_
              have r31 : inR ((nI j66) + 1) 1 20 := inR_add (show inR (nI j66) 0 19 from hrg66) (show inR 1 1 1 from (inR_self _)) (by decide) (by decide)
              have e32 := ti_add (l := 1) (h := 20) (show inR (nI j66) 0 19 from hrg66) (show inR 1 1 1 from (inR_self _)) (by decide) (by decide)
              refine R_goto (pc := 193) 66 dX8_breaks_193 (by decide) ?_
              rw [nI_1]
              exact ih66 (j66 + 1) _ _ (by omega) (by omega) (bs_f (K := (fun c => tb (thI σ) c && (bfC 126 σ (Int32.toNatClampNeg i) c && (!decide (σ.2.2.1 5 c = σ.2.2.1 131 (Int32.toNatClampNeg i)))))) hX66_0 (an_1 (has_f (by omega) hh10)))
        exact HL66 20 0 _ _ (by omega) (by omega) rfl
      · skip
        refine R_aload_n (pc := 42) dX8_breaks_42 rfl rfl ?_
        refine g_X8_37 (pc := 43) (v := .ref 58) rfl dX8_breaks_43 (c_0 _) rfl ?_
        refine R_iload_n (pc := 46) dX8_breaks_46 rfl rfl ?_
        refine R_aload_n (pc := 47) dX8_breaks_47 rfl rfl ?_
        refine g_X8_58 (pc := 48) (v := .ref 119) rfl dX8_breaks_48 (c_0 _) rfl ?_
        refine k_X8_242 (pc := 51) (gd_X1_settle_119 _ D (thI σ) hI (thI_in σ) hS hD) rfl (c_58 _) (by decide) (Nat.le_refl _) (Nat.le_refl _) (Nat.le_of_ble_eq_true rfl) dX8_breaks_51 (fun x w2 h => ?_)
        obtain ⟨σx34, rfl, hV33, hW35, -, hres⟩ := h
        have hW36 := Cor.trans (show Cor σ σ from Cor.rfl' σ) hW35
        have hl37 := (congrArg Prod.fst hW35.2.2.2.2).trans hl1
        have hl37d := (congrArg Prod.snd hW35.2.2.2.2).trans hl1d
        rcases hres with ⟨rfl, hG⟩ | ⟨rfl, hBL⟩
        · skip
          refine R_ifne (pc := 54) 60 dX8_breaks_54 (by decide) (fun _ => ?_) (fun h => absurd h (by decide))
          refine R_iconst (pc := 60) (v := 0) dX8_breaks_60 (by decide) ?_
          refine st_7_4_i_i (pc := 61) dX8_breaks_61 ?_
          refine R_iconst (pc := 63) (v := 0) dX8_breaks_63 (by decide) ?_
          refine st_7_5_i_i (pc := 64) dX8_breaks_64 ?_
          have HL66 : ∀ (q j66 : Nat) (g4_66 : Int32) (g6_66 : Option Value), j66 + q = 20 → 0 ≤ j66 → g4_66 = bsI (fun c => tb (thI σ) c && (bfC 126 σx34 (Int32.toNatClampNeg i) c && (ouX (XC σx34) (σx34.2.2.1 131 (Int32.toNatClampNeg i)) (σx34.2.2.1 132 (Int32.toNatClampNeg i)) c))) j66 → R G l yX8_breaks cX8_breaks 7 (some .int) 6 0 0 (QI (fun x w2 => BrP σ.2.2.2.2.1 σ D i x ∧ ∃ σ2, w2 = WW σ2 ∧ Inv σ2 ∧ Cor σ σ2)) 66 [(some (.ref 0)), (some (.int i)), (some (.int (thI σ))), (some (.int (σ.2.2.1 130 (Int32.toNatClampNeg i)))), (some (.int g4_66)), (some (.int (nI j66))), g6_66] [] (WW σx34) 0 0 := by
            intro q
            induction q with
            | zero =>
              intro j66 g4_66 g6_66 hj hs66 hX66_0
              obtain rfl : j66 = 20 := by omega
              refine R_iload (pc := 66) dX8_breaks_66 rfl ?_
              refine R_bipush (pc := 68) (v := 20) dX8_breaks_68 (by decide) ?_
              refine R_icge (pc := 70) 196 dX8_breaks_70 (by decide) (fun _ => ?_) (fun h => absurd (by decide) h)
              refine R_iload (pc := 196) dX8_breaks_196 rfl ?_
              exact R_iret (pc := 198) dX8_breaks_198 rfl rfl (Nat.zero_le _) (Nat.zero_le _) ⟨_, rfl, (by rw [hl1]; exact Or.inr (Or.inr (Or.inr ⟨inB_t h4, (nd_t b39_7), _, hG, (by have q := hX66_0; rw [hW36.2.2.1 131 rfl, hW36.2.2.1 132 rfl] at q; exact q.trans (bs_congr 20 (fun c _ => by show (tb (thI σ) c && (bfC 126 σx34 (Int32.toNatClampNeg i) c && _)) = (tb (thI σ) c && (bfC 126 σ (Int32.toNatClampNeg i) c && _)); rw [bfC_cor (Or.inl rfl) hW36]; all_goals rfl)))⟩))), _, rfl, hV33, hW36⟩
            | succ q ih66 =>
              intro j66 g4_66 g6_66 hj hs66 hX66_0
              have hrg66 : inR (nI j66) 0 19 := inR_ix hs66 (show j66 < 20 by omega) (by decide) (by decide) (by decide)
              have hlt66 : j66 < 20 := by omega
              refine R_iload (pc := 66) dX8_breaks_66 rfl ?_
              refine R_bipush (pc := 68) (v := 20) dX8_breaks_68 (by decide) ?_
              refine R_icge (pc := 70) 196 dX8_breaks_70 (by decide) (fun h => False.elim (by have q1 := ti_le h; have q2 := ti_in (show inR (nI j66) 0 19 from hrg66); have q3 := ti_in (show inR 20 20 20 from (inR_self _)); have z0 : (0 : Int32).toInt = 0 := (by decide);  have z1 : (19 : Int32).toInt = 19 := (by decide);  have z2 : (20 : Int32).toInt = 20 := (by decide); omega)) (fun _ => ?_)
              refine R_iload_n (pc := 73) dX8_breaks_73 rfl rfl ?_
              refine R_iload (pc := 74) dX8_breaks_74 rfl ?_
              refine k_X8_209 (pc := 76) (sp_X8_has _ _ _) rfl (by decide) (Nat.le_refl _) (Nat.le_refl _) (Nat.le_of_ble_eq_true rfl) dX8_breaks_76 (fun x w2 h => ?_)
              rcases h with ⟨rfl, ⟨hh41, rfl⟩ | ⟨hh41, rfl⟩⟩
              · skip
                refine R_ifeq (pc := 79) 190 dX8_breaks_79 (by decide) (fun h => absurd h (by decide)) (fun _ => ?_)
                refine R_aload_n (pc := 82) dX8_breaks_82 rfl rfl ?_
                refine g_X8_62 (pc := 83) (v := .ref 126) rfl dX8_breaks_83 (c_0 _) (by show some (Value.ref σx34.2.2.2.2.1) = _; rw [hl37]) ?_
                refine R_iload_n (pc := 86) dX8_breaks_86 rfl rfl ?_
                refine R_aload_n (pc := 87) dX8_breaks_87 rfl rfl ?_
                refine g_X8_10 (pc := 88) (v := .ref 1) rfl dX8_breaks_88 (c_0 _) rfl ?_
                refine g_X8_172 (pc := 91) (v := .ref 3) rfl dX8_breaks_91 (c_1 _) rfl ?_
                refine R_iload (pc := 94) dX8_breaks_94 rfl ?_
                have hx43 : vp_in (nI j66) 20 := (vp_in_nI (by omega) (by decide))
                refine R_iaload (pc := 96) dX8_breaks_96 (c_3 _) hx43 ?_
                refine R_aload_n (pc := 97) dX8_breaks_97 rfl rfl ?_
                refine g_X8_10 (pc := 98) (v := .ref 1) rfl dX8_breaks_98 (c_0 _) rfl ?_
                refine g_X8_178 (pc := 101) (v := .ref 4) rfl dX8_breaks_101 (c_1 _) rfl ?_
                refine R_iload (pc := 104) dX8_breaks_104 rfl ?_
                have hx44 : vp_in (nI j66) 20 := (vp_in_nI (by omega) (by decide))
                refine R_iaload (pc := 106) dX8_breaks_106 (c_4 _) hx44 ?_
                refine k_X8_304 (pc := 107) (ge_X4_isFor_126 _ _ _ _ hV33 (show inR i 0 7 from of_ti (by have q0 := e3; have q1 := ti_in h4; have q2 := ti_ne b39_7; have q3 := ti_in (iv_12606 hI); have q4 := ti_in r2; have q5 := ti_in (thI_in σ); have q6 := ti_in hrg66; have q7 := ti_in (iva_4 hV33 _ (lt_of_vp hx44)); have z0 : (-1 : Int32).toInt = -1 := (by decide); have z1 : (0 : Int32).toInt = 0 := (by decide); have z2 : (1 : Int32).toInt = 1 := (by decide); have z3 : (1048575 : Int32).toInt = 1048575 := (by decide); have z4 : (130 : Int32).toInt = 130 := (by decide); have z5 : (19 : Int32).toInt = 19 := (by decide); have z6 : (7 : Int32).toInt = 7 := (by decide); have z7 : (8 : Int32).toInt = 8 := (by decide); have z8 : (99 : Int32).toInt = 99 := (by decide); omega) (by have q0 := e3; have q1 := ti_in h4; have q2 := ti_ne b39_7; have q3 := ti_in (iv_12606 hI); have q4 := ti_in r2; have q5 := ti_in (thI_in σ); have q6 := ti_in hrg66; have q7 := ti_in (iva_4 hV33 _ (lt_of_vp hx44)); have z0 : (-1 : Int32).toInt = -1 := (by decide); have z1 : (0 : Int32).toInt = 0 := (by decide); have z2 : (1 : Int32).toInt = 1 := (by decide); have z3 : (1048575 : Int32).toInt = 1048575 := (by decide); have z4 : (130 : Int32).toInt = 130 := (by decide); have z5 : (19 : Int32).toInt = 19 := (by decide); have z6 : (7 : Int32).toInt = 7 := (by decide); have z7 : (8 : Int32).toInt = 8 := (by decide); have z8 : (99 : Int32).toInt = 99 := (by decide); omega))) rfl (c_126 _) (by decide) (Nat.le_refl _) (Nat.le_refl _) (Nat.le_of_ble_eq_true rfl) dX8_breaks_107 (fun x w2 h => ?_)
                rcases h with ⟨rfl, ⟨hf45, rfl⟩ | ⟨hf45, rfl⟩⟩
                · skip
                  refine R_ifeq (pc := 110) 190 dX8_breaks_110 (by decide) (fun h => absurd h (by decide)) (fun _ => ?_)
                  refine R_iload_n (pc := 113) dX8_breaks_113 rfl rfl ?_
                  refine R_ifeq (pc := 114) 147 dX8_breaks_114 (by decide) (fun h => absurd h b39_7) (fun _ => ?_)
                  refine R_aload_n (pc := 117) dX8_breaks_117 rfl rfl ?_
                  refine g_X8_37 (pc := 118) (v := .ref 58) rfl dX8_breaks_118 (c_0 _) rfl ?_
                  refine R_iload (pc := 121) dX8_breaks_121 rfl ?_
                  refine R_aload_n (pc := 123) dX8_breaks_123 rfl rfl ?_
                  refine g_X8_62 (pc := 124) (v := .ref 126) rfl dX8_breaks_124 (c_0 _) (by show some (Value.ref σx34.2.2.2.2.1) = _; rw [hl37]) ?_
                  refine g_X8_307 (pc := 127) (v := .ref 131) rfl dX8_breaks_127 (c_126 _) rfl ?_
                  refine R_iload_n (pc := 130) dX8_breaks_130 rfl rfl ?_
                  have hx48 : vp_in i 8 := (vp_ti (by have q0 := e3; have q1 := ti_in h4; have q2 := ti_ne b39_7; have q3 := ti_in (iv_12606 hI); have q4 := ti_in r2; have q5 := ti_in (thI_in σ); have q6 := ti_in hrg66; have q7 := ti_in (iva_4 hV33 _ (lt_of_vp hx44)); have z0 : (-1 : Int32).toInt = -1 := (by decide); have z1 : (0 : Int32).toInt = 0 := (by decide); have z2 : (1 : Int32).toInt = 1 := (by decide); have z3 : (1048575 : Int32).toInt = 1048575 := (by decide); have z4 : (130 : Int32).toInt = 130 := (by decide); have z5 : (19 : Int32).toInt = 19 := (by decide); have z6 : (7 : Int32).toInt = 7 := (by decide); have z7 : (8 : Int32).toInt = 8 := (by decide); have z8 : (99 : Int32).toInt = 99 := (by decide); omega) (by have q0 := e3; have q1 := ti_in h4; have q2 := ti_ne b39_7; have q3 := ti_in (iv_12606 hI); have q4 := ti_in r2; have q5 := ti_in (thI_in σ); have q6 := ti_in hrg66; have q7 := ti_in (iva_4 hV33 _ (lt_of_vp hx44)); have z0 : (-1 : Int32).toInt = -1 := (by decide); have z1 : (0 : Int32).toInt = 0 := (by decide); have z2 : (1 : Int32).toInt = 1 := (by decide); have z3 : (1048575 : Int32).toInt = 1048575 := (by decide); have z4 : (130 : Int32).toInt = 130 := (by decide); have z5 : (19 : Int32).toInt = 19 := (by decide); have z6 : (7 : Int32).toInt = 7 := (by decide); have z7 : (8 : Int32).toInt = 8 := (by decide); have z8 : (99 : Int32).toInt = 99 := (by decide); omega))
                  refine R_iaload (pc := 131) dX8_breaks_131 (c_131 _) hx48 ?_
                  refine R_aload_n (pc := 132) dX8_breaks_132 rfl rfl ?_
                  refine g_X8_62 (pc := 133) (v := .ref 126) rfl dX8_breaks_133 (c_0 _) (by show some (Value.ref σx34.2.2.2.2.1) = _; rw [hl37]) ?_
                  refine g_X8_310 (pc := 136) (v := .ref 132) rfl dX8_breaks_136 (c_126 _) rfl ?_
                  refine R_iload_n (pc := 139) dX8_breaks_139 rfl rfl ?_
                  have hx49 : vp_in i 8 := (vp_ti (by have q0 := e3; have q1 := ti_in h4; have q2 := ti_ne b39_7; have q3 := ti_in (iv_12606 hI); have q4 := ti_in r2; have q5 := ti_in (thI_in σ); have q6 := ti_in hrg66; have q7 := ti_in (iva_4 hV33 _ (lt_of_vp hx44)); have z0 : (-1 : Int32).toInt = -1 := (by decide); have z1 : (0 : Int32).toInt = 0 := (by decide); have z2 : (1 : Int32).toInt = 1 := (by decide); have z3 : (1048575 : Int32).toInt = 1048575 := (by decide); have z4 : (130 : Int32).toInt = 130 := (by decide); have z5 : (19 : Int32).toInt = 19 := (by decide); have z6 : (7 : Int32).toInt = 7 := (by decide); have z7 : (8 : Int32).toInt = 8 := (by decide); have z8 : (99 : Int32).toInt = 99 := (by decide); omega) (by have q0 := e3; have q1 := ti_in h4; have q2 := ti_ne b39_7; have q3 := ti_in (iv_12606 hI); have q4 := ti_in r2; have q5 := ti_in (thI_in σ); have q6 := ti_in hrg66; have q7 := ti_in (iva_4 hV33 _ (lt_of_vp hx44)); have z0 : (-1 : Int32).toInt = -1 := (by decide); have z1 : (0 : Int32).toInt = 0 := (by decide); have z2 : (1 : Int32).toInt = 1 := (by decide); have z3 : (1048575 : Int32).toInt = 1048575 := (by decide); have z4 : (130 : Int32).toInt = 130 := (by decide); have z5 : (19 : Int32).toInt = 19 := (by decide); have z6 : (7 : Int32).toInt = 7 := (by decide); have z7 : (8 : Int32).toInt = 8 := (by decide); have z8 : (99 : Int32).toInt = 99 := (by decide); omega))
                  refine R_iaload (pc := 140) dX8_breaks_140 (c_132 _) hx49 ?_
                  refine k_X8_313 (pc := 141) (ge_X1_canBePublished _ _ _ _ hrg66) rfl (c_58 _) (by decide) (Nat.le_refl _) (Nat.le_refl _) (Nat.le_of_ble_eq_true rfl) dX8_breaks_141 (fun x w2 h => ?_)
                  rcases h with ⟨rfl, ⟨rfl, hk50a, hk50b⟩ | ⟨rfl, hk50⟩⟩
                  · skip
                    refine R_goto (pc := 144) 174 dX8_breaks_144 (by decide) ?_
                    refine st_7_6_i_i (pc := 174) dX8_breaks_174 ?_
                    refine R_iload (pc := 176) dX8_breaks_176 rfl ?_
                    refine R_ifne (pc := 178) 190 dX8_breaks_178 (by decide) (fun _ => ?_) (fun h => absurd h (by decide))
                    refine inc_7_5_1_i (pc := 190) dX8_breaks_190 ?_
                    have r52 : inR ((nI j66) + 1) 1 20 := inR_add (show inR (nI j66) 0 19 from hrg66) (show inR 1 1 1 from (inR_self _)) (by decide) (by decide)
                    have e53 := ti_add (l := 1) (h := 20) (show inR (nI j66) 0 19 from hrg66) (show inR 1 1 1 from (inR_self _)) (by decide) (by decide)
                    refine R_goto (pc := 193) 66 dX8_breaks_193 (by decide) ?_
                    rw [nI_1]
                    exact ih66 (j66 + 1) _ _ (by omega) (by omega) (bs_f (K := (fun c => tb (thI σ) c && (bfC 126 σx34 (Int32.toNatClampNeg i) c && (ouX (XC σx34) (σx34.2.2.1 131 (Int32.toNatClampNeg i)) (σx34.2.2.1 132 (Int32.toNatClampNeg i)) c)))) hX66_0 (an_3 (ou_f (by have q := hk50a; rw [nI_clamp (by omega)] at q; exact q) (by have q := hk50b; rw [nI_clamp (by omega)] at q; exact q))))
                  · skip
                    refine R_goto (pc := 144) 174 dX8_breaks_144 (by decide) ?_
                    refine st_7_6_i_i (pc := 174) dX8_breaks_174 ?_
                    refine R_iload (pc := 176) dX8_breaks_176 rfl ?_
                    refine R_ifne (pc := 178) 190 dX8_breaks_178 (by decide) (fun h => absurd (by decide) h) (fun _ => ?_)
                    refine R_iload (pc := 181) dX8_breaks_181 rfl ?_
                    refine R_iconst (pc := 183) (v := 1) dX8_breaks_183 (by decide) ?_
                    refine R_iload (pc := 184) dX8_breaks_184 rfl ?_
                    refine R_ishl (pc := 186) dX8_breaks_186 ?_
                    have r55 : inR (1 <<< ((nI j66) &&& 31)) 0 1048575 := shl20 hrg66
                    refine R_ior (pc := 187) dX8_breaks_187 ?_
                    refine st_7_4_i_i (pc := 188) dX8_breaks_188 ?_
                    refine inc_7_5_1_i (pc := 190) dX8_breaks_190 ?_
                    have r56 : inR ((nI j66) + 1) 1 20 := inR_add (show inR (nI j66) 0 19 from hrg66) (show inR 1 1 1 from (inR_self _)) (by decide) (by decide)
                    have e57 := ti_add (l := 1) (h := 20) (show inR (nI j66) 0 19 from hrg66) (show inR 1 1 1 from (inR_self _)) (by decide) (by decide)
                    refine R_goto (pc := 193) 66 dX8_breaks_193 (by decide) ?_
                    rw [nI_1]
                    exact ih66 (j66 + 1) _ _ (by omega) (by omega) (bs_t (K := (fun c => tb (thI σ) c && (bfC 126 σx34 (Int32.toNatClampNeg i) c && (ouX (XC σx34) (σx34.2.2.1 131 (Int32.toNatClampNeg i)) (σx34.2.2.1 132 (Int32.toNatClampNeg i)) c)))) hX66_0 (an_t (has_t (by omega) hh41) (show bfC 126 σx34 (Int32.toNatClampNeg i) j66 = true from by have q := hf45; rw [nI_clamp (by omega)] at q; exact q) (ou_t (by have q := hk50; rw [nI_clamp (by omega)] at q; exact q))))
                · skip
                  refine R_ifeq (pc := 110) 190 dX8_breaks_110 (by decide) (fun _ => ?_) (fun h => absurd (by decide) h)
                  refine inc_7_5_1_i (pc := 190) dX8_breaks_190 ?_
                  have r59 : inR ((nI j66) + 1) 1 20 := inR_add (show inR (nI j66) 0 19 from hrg66) (show inR 1 1 1 from (inR_self _)) (by decide) (by decide)
                  have e60 := ti_add (l := 1) (h := 20) (show inR (nI j66) 0 19 from hrg66) (show inR 1 1 1 from (inR_self _)) (by decide) (by decide)
                  refine R_goto (pc := 193) 66 dX8_breaks_193 (by decide) ?_
                  rw [nI_1]
                  exact ih66 (j66 + 1) _ _ (by omega) (by omega) (bs_f (K := (fun c => tb (thI σ) c && (bfC 126 σx34 (Int32.toNatClampNeg i) c && (ouX (XC σx34) (σx34.2.2.1 131 (Int32.toNatClampNeg i)) (σx34.2.2.1 132 (Int32.toNatClampNeg i)) c)))) hX66_0 (an_2 (show bfC 126 σx34 (Int32.toNatClampNeg i) j66 = false from by have q := hf45; rw [nI_clamp (by omega)] at q; exact q)))
              · skip
                refine R_ifeq (pc := 79) 190 dX8_breaks_79 (by decide) (fun _ => ?_) (fun h => absurd (by decide) h)
                refine inc_7_5_1_i (pc := 190) dX8_breaks_190 ?_
                have r62 : inR ((nI j66) + 1) 1 20 := inR_add (show inR (nI j66) 0 19 from hrg66) (show inR 1 1 1 from (inR_self _)) (by decide) (by decide)
                have e63 := ti_add (l := 1) (h := 20) (show inR (nI j66) 0 19 from hrg66) (show inR 1 1 1 from (inR_self _)) (by decide) (by decide)
                refine R_goto (pc := 193) 66 dX8_breaks_193 (by decide) ?_
                rw [nI_1]
                exact ih66 (j66 + 1) _ _ (by omega) (by omega) (bs_f (K := (fun c => tb (thI σ) c && (bfC 126 σx34 (Int32.toNatClampNeg i) c && (ouX (XC σx34) (σx34.2.2.1 131 (Int32.toNatClampNeg i)) (σx34.2.2.1 132 (Int32.toNatClampNeg i)) c)))) hX66_0 (an_1 (has_f (by omega) hh41)))
          exact HL66 20 0 _ _ (by omega) (by omega) rfl
        · skip
          refine R_ifne (pc := 54) 60 dX8_breaks_54 (by decide) (fun h => absurd (by decide) h) (fun _ => ?_)
          refine R_bipush (pc := 57) (v := (-4)) dX8_breaks_57 (by decide) ?_
          exact R_iret (pc := 59) dX8_breaks_59 rfl rfl (Nat.zero_le _) (Nat.zero_le _) ⟨_, rfl, (by rw [hl1]; exact Or.inr (Or.inr (Or.inl ⟨inB_t h4, (nd_t b39_7), hBL, rfl⟩))), _, rfl, hV33, hW36⟩
    · skip
      refine R_ifne (pc := 14) 20 dX8_breaks_14 (by decide) (fun h => absurd (by decide) h) (fun _ => ?_)
      refine R_bipush (pc := 17) (v := (-2)) dX8_breaks_17 (by decide) ?_
      exact R_iret (pc := 19) dX8_breaks_19 rfl rfl (Nat.zero_le _) (Nat.zero_le _) ⟨_, rfl, (by rw [hl1]; exact Or.inl ⟨inB_f h4, rfl⟩), _, rfl, hI, (show Cor σ σ from Cor.rfl' σ)⟩
  · skip
    refine g_X8_62 (pc := 3) (v := .ref 133) rfl dX8_breaks_3 (c_0 _) (by show some (Value.ref σ.2.2.2.2.1) = _; rw [hl1]) ?_
    refine g_X8_299 (pc := 6) (v := .int (σ.1 13306)) rfl dX8_breaks_6 (c_133 _) rfl ?_
    refine R_iconst (pc := 9) (v := 1) dX8_breaks_9 (by decide) ?_
    refine R_isub (pc := 10) dX8_breaks_10 ?_
    have r66 : inR ((σ.1 13306) - 1) (-1) 7 := inR_sub (show inR (σ.1 13306) 0 8 from (iv_13306 hI)) (show inR 1 1 1 from (inR_self _)) (by decide) (by decide)
    have e67 := ti_sub (l := (-1)) (h := 7) (show inR (σ.1 13306) 0 8 from (iv_13306 hI)) (show inR 1 1 1 from (inR_self _)) (by decide) (by decide)
    refine k_X8_72 (pc := 11) (sp_X8_isWithin _ _ _ _) rfl (by decide) (Nat.le_refl _) (Nat.le_refl _) (Nat.le_of_ble_eq_true rfl) dX8_breaks_11 (fun x w2 h => ?_)
    rcases h with ⟨rfl, ⟨h68, rfl⟩ | ⟨h68, rfl⟩⟩
    · skip
      refine R_ifne (pc := 14) 20 dX8_breaks_14 (by decide) (fun _ => ?_) (fun h => absurd h (by decide))
      refine R_aload_n (pc := 20) dX8_breaks_20 rfl rfl ?_
      refine g_X8_10 (pc := 21) (v := .ref 1) rfl dX8_breaks_21 (c_0 _) rfl ?_
      refine k_X8_126 (pc := 24) (ge_X0_there _ hI) rfl (c_1 _) (by decide) (Nat.le_refl _) (Nat.le_refl _) (Nat.le_of_ble_eq_true rfl) dX8_breaks_24 (fun x w2 h => ?_)
      obtain ⟨rfl, rfl⟩ := h
      refine st_7_2_i_i (pc := 27) dX8_breaks_27 ?_
      refine R_aload_n (pc := 28) dX8_breaks_28 rfl rfl ?_
      refine g_X8_62 (pc := 29) (v := .ref 133) rfl dX8_breaks_29 (c_0 _) (by show some (Value.ref σ.2.2.2.2.1) = _; rw [hl1]) ?_
      refine g_X8_300 (pc := 32) (v := .ref 137) rfl dX8_breaks_32 (c_133 _) rfl ?_
      refine R_iload_n (pc := 35) dX8_breaks_35 rfl rfl ?_
      have hx70 : vp_in i 8 := (vp_ti (by have q0 := e67; have q1 := ti_in h68; have q2 := ti_in (iv_13306 hI); have q3 := ti_in r66; have q4 := ti_in (thI_in σ); have z0 : (-1 : Int32).toInt = -1 := (by decide); have z1 : (0 : Int32).toInt = 0 := (by decide); have z2 : (1 : Int32).toInt = 1 := (by decide); have z3 : (1048575 : Int32).toInt = 1048575 := (by decide); have z4 : (7 : Int32).toInt = 7 := (by decide); have z5 : (8 : Int32).toInt = 8 := (by decide); omega) (by have q0 := e67; have q1 := ti_in h68; have q2 := ti_in (iv_13306 hI); have q3 := ti_in r66; have q4 := ti_in (thI_in σ); have z0 : (-1 : Int32).toInt = -1 := (by decide); have z1 : (0 : Int32).toInt = 0 := (by decide); have z2 : (1 : Int32).toInt = 1 := (by decide); have z3 : (1048575 : Int32).toInt = 1048575 := (by decide); have z4 : (7 : Int32).toInt = 7 := (by decide); have z5 : (8 : Int32).toInt = 8 := (by decide); omega))
      refine R_baload (pc := 36) dX8_breaks_36 (c_137 _) hx70 ?_
      refine st_7_3_i_i (pc := 37) dX8_breaks_37 ?_
      refine R_iload_n (pc := 38) dX8_breaks_38 rfl rfl ?_
      refine R_ifeq (pc := 39) 60 dX8_breaks_39 (by decide) (fun b39_71 => ?_) (fun b39_71 => ?_)
      · skip
        refine R_iconst (pc := 60) (v := 0) dX8_breaks_60 (by decide) ?_
        refine st_7_4_i_i (pc := 61) dX8_breaks_61 ?_
        refine R_iconst (pc := 63) (v := 0) dX8_breaks_63 (by decide) ?_
        refine st_7_5_i_i (pc := 64) dX8_breaks_64 ?_
        have HL66 : ∀ (q j66 : Nat) (g4_66 : Int32) (g6_66 : Option Value), j66 + q = 20 → 0 ≤ j66 → g4_66 = bsI (fun c => tb (thI σ) c && (bfC 133 σ (Int32.toNatClampNeg i) c && (!decide (σ.2.2.1 5 c = σ.2.2.1 138 (Int32.toNatClampNeg i))))) j66 → R G l yX8_breaks cX8_breaks 7 (some .int) 6 0 0 (QI (fun x w2 => BrP σ.2.2.2.2.1 σ D i x ∧ ∃ σ2, w2 = WW σ2 ∧ Inv σ2 ∧ Cor σ σ2)) 66 [(some (.ref 0)), (some (.int i)), (some (.int (thI σ))), (some (.int (σ.2.2.1 137 (Int32.toNatClampNeg i)))), (some (.int g4_66)), (some (.int (nI j66))), g6_66] [] (WW σ) 0 0 := by
          intro q
          induction q with
          | zero =>
            intro j66 g4_66 g6_66 hj hs66 hX66_0
            obtain rfl : j66 = 20 := by omega
            refine R_iload (pc := 66) dX8_breaks_66 rfl ?_
            refine R_bipush (pc := 68) (v := 20) dX8_breaks_68 (by decide) ?_
            refine R_icge (pc := 70) 196 dX8_breaks_70 (by decide) (fun _ => ?_) (fun h => absurd (by decide) h)
            refine R_iload (pc := 196) dX8_breaks_196 rfl ?_
            exact R_iret (pc := 198) dX8_breaks_198 rfl rfl (Nat.zero_le _) (Nat.zero_le _) ⟨_, rfl, (by rw [hl1]; exact Or.inr (Or.inl ⟨inB_t h68, (nd_f b39_71), hX66_0⟩)), _, rfl, hI, (show Cor σ σ from Cor.rfl' σ)⟩
          | succ q ih66 =>
            intro j66 g4_66 g6_66 hj hs66 hX66_0
            have hrg66 : inR (nI j66) 0 19 := inR_ix hs66 (show j66 < 20 by omega) (by decide) (by decide) (by decide)
            have hlt66 : j66 < 20 := by omega
            refine R_iload (pc := 66) dX8_breaks_66 rfl ?_
            refine R_bipush (pc := 68) (v := 20) dX8_breaks_68 (by decide) ?_
            refine R_icge (pc := 70) 196 dX8_breaks_70 (by decide) (fun h => False.elim (by have q1 := ti_le h; have q2 := ti_in (show inR (nI j66) 0 19 from hrg66); have q3 := ti_in (show inR 20 20 20 from (inR_self _)); have z0 : (0 : Int32).toInt = 0 := (by decide);  have z1 : (19 : Int32).toInt = 19 := (by decide);  have z2 : (20 : Int32).toInt = 20 := (by decide); omega)) (fun _ => ?_)
            refine R_iload_n (pc := 73) dX8_breaks_73 rfl rfl ?_
            refine R_iload (pc := 74) dX8_breaks_74 rfl ?_
            refine k_X8_209 (pc := 76) (sp_X8_has _ _ _) rfl (by decide) (Nat.le_refl _) (Nat.le_refl _) (Nat.le_of_ble_eq_true rfl) dX8_breaks_76 (fun x w2 h => ?_)
            rcases h with ⟨rfl, ⟨hh74, rfl⟩ | ⟨hh74, rfl⟩⟩
            · skip
              refine R_ifeq (pc := 79) 190 dX8_breaks_79 (by decide) (fun h => absurd h (by decide)) (fun _ => ?_)
              refine R_aload_n (pc := 82) dX8_breaks_82 rfl rfl ?_
              refine g_X8_62 (pc := 83) (v := .ref 133) rfl dX8_breaks_83 (c_0 _) (by show some (Value.ref σ.2.2.2.2.1) = _; rw [hl1]) ?_
              refine R_iload_n (pc := 86) dX8_breaks_86 rfl rfl ?_
              refine R_aload_n (pc := 87) dX8_breaks_87 rfl rfl ?_
              refine g_X8_10 (pc := 88) (v := .ref 1) rfl dX8_breaks_88 (c_0 _) rfl ?_
              refine g_X8_172 (pc := 91) (v := .ref 3) rfl dX8_breaks_91 (c_1 _) rfl ?_
              refine R_iload (pc := 94) dX8_breaks_94 rfl ?_
              have hx76 : vp_in (nI j66) 20 := (vp_in_nI (by omega) (by decide))
              refine R_iaload (pc := 96) dX8_breaks_96 (c_3 _) hx76 ?_
              refine R_aload_n (pc := 97) dX8_breaks_97 rfl rfl ?_
              refine g_X8_10 (pc := 98) (v := .ref 1) rfl dX8_breaks_98 (c_0 _) rfl ?_
              refine g_X8_178 (pc := 101) (v := .ref 4) rfl dX8_breaks_101 (c_1 _) rfl ?_
              refine R_iload (pc := 104) dX8_breaks_104 rfl ?_
              have hx77 : vp_in (nI j66) 20 := (vp_in_nI (by omega) (by decide))
              refine R_iaload (pc := 106) dX8_breaks_106 (c_4 _) hx77 ?_
              refine k_X8_304 (pc := 107) (ge_X4_isFor_133 _ _ _ _ hI (show inR i 0 7 from of_ti (by have q0 := e67; have q1 := ti_in h68; have q2 := ti_eq b39_71; have q3 := ti_in (iv_13306 hI); have q4 := ti_in r66; have q5 := ti_in (thI_in σ); have q6 := ti_in hrg66; have q7 := ti_in (iva_4 hI _ (lt_of_vp hx77)); have z0 : (-1 : Int32).toInt = -1 := (by decide); have z1 : (0 : Int32).toInt = 0 := (by decide); have z2 : (1 : Int32).toInt = 1 := (by decide); have z3 : (1048575 : Int32).toInt = 1048575 := (by decide); have z4 : (137 : Int32).toInt = 137 := (by decide); have z5 : (19 : Int32).toInt = 19 := (by decide); have z6 : (7 : Int32).toInt = 7 := (by decide); have z7 : (8 : Int32).toInt = 8 := (by decide); have z8 : (99 : Int32).toInt = 99 := (by decide); omega) (by have q0 := e67; have q1 := ti_in h68; have q2 := ti_eq b39_71; have q3 := ti_in (iv_13306 hI); have q4 := ti_in r66; have q5 := ti_in (thI_in σ); have q6 := ti_in hrg66; have q7 := ti_in (iva_4 hI _ (lt_of_vp hx77)); have z0 : (-1 : Int32).toInt = -1 := (by decide); have z1 : (0 : Int32).toInt = 0 := (by decide); have z2 : (1 : Int32).toInt = 1 := (by decide); have z3 : (1048575 : Int32).toInt = 1048575 := (by decide); have z4 : (137 : Int32).toInt = 137 := (by decide); have z5 : (19 : Int32).toInt = 19 := (by decide); have z6 : (7 : Int32).toInt = 7 := (by decide); have z7 : (8 : Int32).toInt = 8 := (by decide); have z8 : (99 : Int32).toInt = 99 := (by decide); omega))) rfl (c_133 _) (by decide) (Nat.le_refl _) (Nat.le_refl _) (Nat.le_of_ble_eq_true rfl) dX8_breaks_107 (fun x w2 h => ?_)
              rcases h with ⟨rfl, ⟨hf78, rfl⟩ | ⟨hf78, rfl⟩⟩
              · skip
                refine R_ifeq (pc := 110) 190 dX8_breaks_110 (by decide) (fun h => absurd h (by decide)) (fun _ => ?_)
                refine R_iload_n (pc := 113) dX8_breaks_113 rfl rfl ?_
                refine R_ifeq (pc := 114) 147 dX8_breaks_114 (by decide) (fun _ => ?_) (fun h => absurd b39_71 h)
                refine R_aload_n (pc := 147) dX8_breaks_147 rfl rfl ?_
                refine g_X8_10 (pc := 148) (v := .ref 1) rfl dX8_breaks_148 (c_0 _) rfl ?_
                refine g_X8_316 (pc := 151) (v := .ref 5) rfl dX8_breaks_151 (c_1 _) rfl ?_
                refine R_iload (pc := 154) dX8_breaks_154 rfl ?_
                have hx81 : vp_in (nI j66) 20 := (vp_in_nI (by omega) (by decide))
                refine R_iaload (pc := 156) dX8_breaks_156 (c_5 _) hx81 ?_
                refine R_aload_n (pc := 157) dX8_breaks_157 rfl rfl ?_
                refine g_X8_62 (pc := 158) (v := .ref 133) rfl dX8_breaks_158 (c_0 _) (by show some (Value.ref σ.2.2.2.2.1) = _; rw [hl1]) ?_
                refine g_X8_307 (pc := 161) (v := .ref 138) rfl dX8_breaks_161 (c_133 _) rfl ?_
                refine R_iload_n (pc := 164) dX8_breaks_164 rfl rfl ?_
                have hx82 : vp_in i 8 := (vp_ti (by have q0 := e67; have q1 := ti_in h68; have q2 := ti_eq b39_71; have q3 := ti_in (iv_13306 hI); have q4 := ti_in r66; have q5 := ti_in (thI_in σ); have q6 := ti_in hrg66; have q7 := ti_in (iva_4 hI _ (lt_of_vp hx77)); have q8 := ti_in (iva_5 hI _ (lt_of_vp hx81)); have z0 : (-1 : Int32).toInt = -1 := (by decide); have z1 : (0 : Int32).toInt = 0 := (by decide); have z2 : (1 : Int32).toInt = 1 := (by decide); have z3 : (1048575 : Int32).toInt = 1048575 := (by decide); have z4 : (137 : Int32).toInt = 137 := (by decide); have z5 : (19 : Int32).toInt = 19 := (by decide); have z6 : (4 : Int32).toInt = 4 := (by decide); have z7 : (7 : Int32).toInt = 7 := (by decide); have z8 : (8 : Int32).toInt = 8 := (by decide); have z9 : (99 : Int32).toInt = 99 := (by decide); omega) (by have q0 := e67; have q1 := ti_in h68; have q2 := ti_eq b39_71; have q3 := ti_in (iv_13306 hI); have q4 := ti_in r66; have q5 := ti_in (thI_in σ); have q6 := ti_in hrg66; have q7 := ti_in (iva_4 hI _ (lt_of_vp hx77)); have q8 := ti_in (iva_5 hI _ (lt_of_vp hx81)); have z0 : (-1 : Int32).toInt = -1 := (by decide); have z1 : (0 : Int32).toInt = 0 := (by decide); have z2 : (1 : Int32).toInt = 1 := (by decide); have z3 : (1048575 : Int32).toInt = 1048575 := (by decide); have z4 : (137 : Int32).toInt = 137 := (by decide); have z5 : (19 : Int32).toInt = 19 := (by decide); have z6 : (4 : Int32).toInt = 4 := (by decide); have z7 : (7 : Int32).toInt = 7 := (by decide); have z8 : (8 : Int32).toInt = 8 := (by decide); have z9 : (99 : Int32).toInt = 99 := (by decide); omega))
                refine R_iaload (pc := 165) dX8_breaks_165 (c_138 _) hx82 ?_
                refine R_icne (pc := 166) 173 dX8_breaks_166 (by decide) (fun b166_83 => ?_) (fun b166_83 => ?_)
                · skip
                  refine R_iconst (pc := 173) (v := 0) dX8_breaks_173 (by decide) ?_
                  refine st_7_6_i_i (pc := 174) dX8_breaks_174 ?_
                  refine R_iload (pc := 176) dX8_breaks_176 rfl ?_
                  refine R_ifne (pc := 178) 190 dX8_breaks_178 (by decide) (fun h => absurd (by decide) h) (fun _ => ?_)
                  refine R_iload (pc := 181) dX8_breaks_181 rfl ?_
                  refine R_iconst (pc := 183) (v := 1) dX8_breaks_183 (by decide) ?_
                  refine R_iload (pc := 184) dX8_breaks_184 rfl ?_
                  refine R_ishl (pc := 186) dX8_breaks_186 ?_
                  have r85 : inR (1 <<< ((nI j66) &&& 31)) 0 1048575 := shl20 hrg66
                  refine R_ior (pc := 187) dX8_breaks_187 ?_
                  refine st_7_4_i_i (pc := 188) dX8_breaks_188 ?_
                  refine inc_7_5_1_i (pc := 190) dX8_breaks_190 ?_
                  have r86 : inR ((nI j66) + 1) 1 20 := inR_add (show inR (nI j66) 0 19 from hrg66) (show inR 1 1 1 from (inR_self _)) (by decide) (by decide)
                  have e87 := ti_add (l := 1) (h := 20) (show inR (nI j66) 0 19 from hrg66) (show inR 1 1 1 from (inR_self _)) (by decide) (by decide)
                  refine R_goto (pc := 193) 66 dX8_breaks_193 (by decide) ?_
                  rw [nI_1]
                  exact ih66 (j66 + 1) _ _ (by omega) (by omega) (bs_t (K := (fun c => tb (thI σ) c && (bfC 133 σ (Int32.toNatClampNeg i) c && (!decide (σ.2.2.1 5 c = σ.2.2.1 138 (Int32.toNatClampNeg i)))))) hX66_0 (an_t (has_t (by omega) hh74) (show bfC 133 σ (Int32.toNatClampNeg i) j66 = true from by have q := hf78; rw [nI_clamp (by omega)] at q; exact q) (ne_t (by have q := b166_83; rw [nI_clamp (by omega)] at q; exact q))))
                · skip
                  refine R_iconst (pc := 169) (v := 1) dX8_breaks_169 (by decide) ?_
                  refine R_goto (pc := 170) 174 dX8_breaks_170 (by decide) ?_
                  refine st_7_6_i_i (pc := 174) dX8_breaks_174 ?_
                  refine R_iload (pc := 176) dX8_breaks_176 rfl ?_
                  refine R_ifne (pc := 178) 190 dX8_breaks_178 (by decide) (fun _ => ?_) (fun h => absurd h (by decide))
                  refine inc_7_5_1_i (pc := 190) dX8_breaks_190 ?_
                  have r89 : inR ((nI j66) + 1) 1 20 := inR_add (show inR (nI j66) 0 19 from hrg66) (show inR 1 1 1 from (inR_self _)) (by decide) (by decide)
                  have e90 := ti_add (l := 1) (h := 20) (show inR (nI j66) 0 19 from hrg66) (show inR 1 1 1 from (inR_self _)) (by decide) (by decide)
                  refine R_goto (pc := 193) 66 dX8_breaks_193 (by decide) ?_
                  rw [nI_1]
                  exact ih66 (j66 + 1) _ _ (by omega) (by omega) (bs_f (K := (fun c => tb (thI σ) c && (bfC 133 σ (Int32.toNatClampNeg i) c && (!decide (σ.2.2.1 5 c = σ.2.2.1 138 (Int32.toNatClampNeg i)))))) hX66_0 (an_3 (ne_f (by have q := b166_83; rw [nI_clamp (by omega)] at q; exact q))))
              · skip
                refine R_ifeq (pc := 110) 190 dX8_breaks_110 (by decide) (fun _ => ?_) (fun h => absurd (by decide) h)
                refine inc_7_5_1_i (pc := 190) dX8_breaks_190 ?_
                have r92 : inR ((nI j66) + 1) 1 20 := inR_add (show inR (nI j66) 0 19 from hrg66) (show inR 1 1 1 from (inR_self _)) (by decide) (by decide)
                have e93 := ti_add (l := 1) (h := 20) (show inR (nI j66) 0 19 from hrg66) (show inR 1 1 1 from (inR_self _)) (by decide) (by decide)
                refine R_goto (pc := 193) 66 dX8_breaks_193 (by decide) ?_
                rw [nI_1]
                exact ih66 (j66 + 1) _ _ (by omega) (by omega) (bs_f (K := (fun c => tb (thI σ) c && (bfC 133 σ (Int32.toNatClampNeg i) c && (!decide (σ.2.2.1 5 c = σ.2.2.1 138 (Int32.toNatClampNeg i)))))) hX66_0 (an_2 (show bfC 133 σ (Int32.toNatClampNeg i) j66 = false from by have q := hf78; rw [nI_clamp (by omega)] at q; exact q)))
            · skip
              refine R_ifeq (pc := 79) 190 dX8_breaks_79 (by decide) (fun _ => ?_) (fun h => absurd (by decide) h)
              refine inc_7_5_1_i (pc := 190) dX8_breaks_190 ?_
              have r95 : inR ((nI j66) + 1) 1 20 := inR_add (show inR (nI j66) 0 19 from hrg66) (show inR 1 1 1 from (inR_self _)) (by decide) (by decide)
              have e96 := ti_add (l := 1) (h := 20) (show inR (nI j66) 0 19 from hrg66) (show inR 1 1 1 from (inR_self _)) (by decide) (by decide)
              refine R_goto (pc := 193) 66 dX8_breaks_193 (by decide) ?_
              rw [nI_1]
              exact ih66 (j66 + 1) _ _ (by omega) (by omega) (bs_f (K := (fun c => tb (thI σ) c && (bfC 133 σ (Int32.toNatClampNeg i) c && (!decide (σ.2.2.1 5 c = σ.2.2.1 138 (Int32.toNatClampNeg i)))))) hX66_0 (an_1 (has_f (by omega) hh74)))
        exact HL66 20 0 _ _ (by omega) (by omega) rfl
      · skip
        refine R_aload_n (pc := 42) dX8_breaks_42 rfl rfl ?_
        refine g_X8_37 (pc := 43) (v := .ref 58) rfl dX8_breaks_43 (c_0 _) rfl ?_
        refine R_iload_n (pc := 46) dX8_breaks_46 rfl rfl ?_
        refine R_aload_n (pc := 47) dX8_breaks_47 rfl rfl ?_
        refine g_X8_58 (pc := 48) (v := .ref 119) rfl dX8_breaks_48 (c_0 _) rfl ?_
        refine k_X8_242 (pc := 51) (gd_X1_settle_119 _ D (thI σ) hI (thI_in σ) hS hD) rfl (c_58 _) (by decide) (Nat.le_refl _) (Nat.le_refl _) (Nat.le_of_ble_eq_true rfl) dX8_breaks_51 (fun x w2 h => ?_)
        obtain ⟨σx98, rfl, hV97, hW99, -, hres⟩ := h
        have hW100 := Cor.trans (show Cor σ σ from Cor.rfl' σ) hW99
        have hl101 := (congrArg Prod.fst hW99.2.2.2.2).trans hl1
        have hl101d := (congrArg Prod.snd hW99.2.2.2.2).trans hl1d
        rcases hres with ⟨rfl, hG⟩ | ⟨rfl, hBL⟩
        · skip
          refine R_ifne (pc := 54) 60 dX8_breaks_54 (by decide) (fun _ => ?_) (fun h => absurd h (by decide))
          refine R_iconst (pc := 60) (v := 0) dX8_breaks_60 (by decide) ?_
          refine st_7_4_i_i (pc := 61) dX8_breaks_61 ?_
          refine R_iconst (pc := 63) (v := 0) dX8_breaks_63 (by decide) ?_
          refine st_7_5_i_i (pc := 64) dX8_breaks_64 ?_
          have HL66 : ∀ (q j66 : Nat) (g4_66 : Int32) (g6_66 : Option Value), j66 + q = 20 → 0 ≤ j66 → g4_66 = bsI (fun c => tb (thI σ) c && (bfC 133 σx98 (Int32.toNatClampNeg i) c && (ouX (XC σx98) (σx98.2.2.1 138 (Int32.toNatClampNeg i)) (σx98.2.2.1 139 (Int32.toNatClampNeg i)) c))) j66 → R G l yX8_breaks cX8_breaks 7 (some .int) 6 0 0 (QI (fun x w2 => BrP σ.2.2.2.2.1 σ D i x ∧ ∃ σ2, w2 = WW σ2 ∧ Inv σ2 ∧ Cor σ σ2)) 66 [(some (.ref 0)), (some (.int i)), (some (.int (thI σ))), (some (.int (σ.2.2.1 137 (Int32.toNatClampNeg i)))), (some (.int g4_66)), (some (.int (nI j66))), g6_66] [] (WW σx98) 0 0 := by
            intro q
            induction q with
            | zero =>
              intro j66 g4_66 g6_66 hj hs66 hX66_0
              obtain rfl : j66 = 20 := by omega
              refine R_iload (pc := 66) dX8_breaks_66 rfl ?_
              refine R_bipush (pc := 68) (v := 20) dX8_breaks_68 (by decide) ?_
              refine R_icge (pc := 70) 196 dX8_breaks_70 (by decide) (fun _ => ?_) (fun h => absurd (by decide) h)
              refine R_iload (pc := 196) dX8_breaks_196 rfl ?_
              exact R_iret (pc := 198) dX8_breaks_198 rfl rfl (Nat.zero_le _) (Nat.zero_le _) ⟨_, rfl, (by rw [hl1]; exact Or.inr (Or.inr (Or.inr ⟨inB_t h68, (nd_t b39_71), _, hG, (by have q := hX66_0; rw [hW100.2.2.1 138 rfl, hW100.2.2.1 139 rfl] at q; exact q.trans (bs_congr 20 (fun c _ => by show (tb (thI σ) c && (bfC 133 σx98 (Int32.toNatClampNeg i) c && _)) = (tb (thI σ) c && (bfC 133 σ (Int32.toNatClampNeg i) c && _)); rw [bfC_cor (Or.inr rfl) hW100]; all_goals rfl)))⟩))), _, rfl, hV97, hW100⟩
            | succ q ih66 =>
              intro j66 g4_66 g6_66 hj hs66 hX66_0
              have hrg66 : inR (nI j66) 0 19 := inR_ix hs66 (show j66 < 20 by omega) (by decide) (by decide) (by decide)
              have hlt66 : j66 < 20 := by omega
              refine R_iload (pc := 66) dX8_breaks_66 rfl ?_
              refine R_bipush (pc := 68) (v := 20) dX8_breaks_68 (by decide) ?_
              refine R_icge (pc := 70) 196 dX8_breaks_70 (by decide) (fun h => False.elim (by have q1 := ti_le h; have q2 := ti_in (show inR (nI j66) 0 19 from hrg66); have q3 := ti_in (show inR 20 20 20 from (inR_self _)); have z0 : (0 : Int32).toInt = 0 := (by decide);  have z1 : (19 : Int32).toInt = 19 := (by decide);  have z2 : (20 : Int32).toInt = 20 := (by decide); omega)) (fun _ => ?_)
              refine R_iload_n (pc := 73) dX8_breaks_73 rfl rfl ?_
              refine R_iload (pc := 74) dX8_breaks_74 rfl ?_
              refine k_X8_209 (pc := 76) (sp_X8_has _ _ _) rfl (by decide) (Nat.le_refl _) (Nat.le_refl _) (Nat.le_of_ble_eq_true rfl) dX8_breaks_76 (fun x w2 h => ?_)
              rcases h with ⟨rfl, ⟨hh105, rfl⟩ | ⟨hh105, rfl⟩⟩
              · skip
                refine R_ifeq (pc := 79) 190 dX8_breaks_79 (by decide) (fun h => absurd h (by decide)) (fun _ => ?_)
                refine R_aload_n (pc := 82) dX8_breaks_82 rfl rfl ?_
                refine g_X8_62 (pc := 83) (v := .ref 133) rfl dX8_breaks_83 (c_0 _) (by show some (Value.ref σx98.2.2.2.2.1) = _; rw [hl101]) ?_
                refine R_iload_n (pc := 86) dX8_breaks_86 rfl rfl ?_
                refine R_aload_n (pc := 87) dX8_breaks_87 rfl rfl ?_
                refine g_X8_10 (pc := 88) (v := .ref 1) rfl dX8_breaks_88 (c_0 _) rfl ?_
                refine g_X8_172 (pc := 91) (v := .ref 3) rfl dX8_breaks_91 (c_1 _) rfl ?_
                refine R_iload (pc := 94) dX8_breaks_94 rfl ?_
                have hx107 : vp_in (nI j66) 20 := (vp_in_nI (by omega) (by decide))
                refine R_iaload (pc := 96) dX8_breaks_96 (c_3 _) hx107 ?_
                refine R_aload_n (pc := 97) dX8_breaks_97 rfl rfl ?_
                refine g_X8_10 (pc := 98) (v := .ref 1) rfl dX8_breaks_98 (c_0 _) rfl ?_
                refine g_X8_178 (pc := 101) (v := .ref 4) rfl dX8_breaks_101 (c_1 _) rfl ?_
                refine R_iload (pc := 104) dX8_breaks_104 rfl ?_
                have hx108 : vp_in (nI j66) 20 := (vp_in_nI (by omega) (by decide))
                refine R_iaload (pc := 106) dX8_breaks_106 (c_4 _) hx108 ?_
                refine k_X8_304 (pc := 107) (ge_X4_isFor_133 _ _ _ _ hV97 (show inR i 0 7 from of_ti (by have q0 := e67; have q1 := ti_in h68; have q2 := ti_ne b39_71; have q3 := ti_in (iv_13306 hI); have q4 := ti_in r66; have q5 := ti_in (thI_in σ); have q6 := ti_in hrg66; have q7 := ti_in (iva_4 hV97 _ (lt_of_vp hx108)); have z0 : (-1 : Int32).toInt = -1 := (by decide); have z1 : (0 : Int32).toInt = 0 := (by decide); have z2 : (1 : Int32).toInt = 1 := (by decide); have z3 : (1048575 : Int32).toInt = 1048575 := (by decide); have z4 : (137 : Int32).toInt = 137 := (by decide); have z5 : (19 : Int32).toInt = 19 := (by decide); have z6 : (7 : Int32).toInt = 7 := (by decide); have z7 : (8 : Int32).toInt = 8 := (by decide); have z8 : (99 : Int32).toInt = 99 := (by decide); omega) (by have q0 := e67; have q1 := ti_in h68; have q2 := ti_ne b39_71; have q3 := ti_in (iv_13306 hI); have q4 := ti_in r66; have q5 := ti_in (thI_in σ); have q6 := ti_in hrg66; have q7 := ti_in (iva_4 hV97 _ (lt_of_vp hx108)); have z0 : (-1 : Int32).toInt = -1 := (by decide); have z1 : (0 : Int32).toInt = 0 := (by decide); have z2 : (1 : Int32).toInt = 1 := (by decide); have z3 : (1048575 : Int32).toInt = 1048575 := (by decide); have z4 : (137 : Int32).toInt = 137 := (by decide); have z5 : (19 : Int32).toInt = 19 := (by decide); have z6 : (7 : Int32).toInt = 7 := (by decide); have z7 : (8 : Int32).toInt = 8 := (by decide); have z8 : (99 : Int32).toInt = 99 := (by decide); omega))) rfl (c_133 _) (by decide) (Nat.le_refl _) (Nat.le_refl _) (Nat.le_of_ble_eq_true rfl) dX8_breaks_107 (fun x w2 h => ?_)
                rcases h with ⟨rfl, ⟨hf109, rfl⟩ | ⟨hf109, rfl⟩⟩
                · skip
                  refine R_ifeq (pc := 110) 190 dX8_breaks_110 (by decide) (fun h => absurd h (by decide)) (fun _ => ?_)
                  refine R_iload_n (pc := 113) dX8_breaks_113 rfl rfl ?_
                  refine R_ifeq (pc := 114) 147 dX8_breaks_114 (by decide) (fun h => absurd h b39_71) (fun _ => ?_)
                  refine R_aload_n (pc := 117) dX8_breaks_117 rfl rfl ?_
                  refine g_X8_37 (pc := 118) (v := .ref 58) rfl dX8_breaks_118 (c_0 _) rfl ?_
                  refine R_iload (pc := 121) dX8_breaks_121 rfl ?_
                  refine R_aload_n (pc := 123) dX8_breaks_123 rfl rfl ?_
                  refine g_X8_62 (pc := 124) (v := .ref 133) rfl dX8_breaks_124 (c_0 _) (by show some (Value.ref σx98.2.2.2.2.1) = _; rw [hl101]) ?_
                  refine g_X8_307 (pc := 127) (v := .ref 138) rfl dX8_breaks_127 (c_133 _) rfl ?_
                  refine R_iload_n (pc := 130) dX8_breaks_130 rfl rfl ?_
                  have hx112 : vp_in i 8 := (vp_ti (by have q0 := e67; have q1 := ti_in h68; have q2 := ti_ne b39_71; have q3 := ti_in (iv_13306 hI); have q4 := ti_in r66; have q5 := ti_in (thI_in σ); have q6 := ti_in hrg66; have q7 := ti_in (iva_4 hV97 _ (lt_of_vp hx108)); have z0 : (-1 : Int32).toInt = -1 := (by decide); have z1 : (0 : Int32).toInt = 0 := (by decide); have z2 : (1 : Int32).toInt = 1 := (by decide); have z3 : (1048575 : Int32).toInt = 1048575 := (by decide); have z4 : (137 : Int32).toInt = 137 := (by decide); have z5 : (19 : Int32).toInt = 19 := (by decide); have z6 : (7 : Int32).toInt = 7 := (by decide); have z7 : (8 : Int32).toInt = 8 := (by decide); have z8 : (99 : Int32).toInt = 99 := (by decide); omega) (by have q0 := e67; have q1 := ti_in h68; have q2 := ti_ne b39_71; have q3 := ti_in (iv_13306 hI); have q4 := ti_in r66; have q5 := ti_in (thI_in σ); have q6 := ti_in hrg66; have q7 := ti_in (iva_4 hV97 _ (lt_of_vp hx108)); have z0 : (-1 : Int32).toInt = -1 := (by decide); have z1 : (0 : Int32).toInt = 0 := (by decide); have z2 : (1 : Int32).toInt = 1 := (by decide); have z3 : (1048575 : Int32).toInt = 1048575 := (by decide); have z4 : (137 : Int32).toInt = 137 := (by decide); have z5 : (19 : Int32).toInt = 19 := (by decide); have z6 : (7 : Int32).toInt = 7 := (by decide); have z7 : (8 : Int32).toInt = 8 := (by decide); have z8 : (99 : Int32).toInt = 99 := (by decide); omega))
                  refine R_iaload (pc := 131) dX8_breaks_131 (c_138 _) hx112 ?_
                  refine R_aload_n (pc := 132) dX8_breaks_132 rfl rfl ?_
                  refine g_X8_62 (pc := 133) (v := .ref 133) rfl dX8_breaks_133 (c_0 _) (by show some (Value.ref σx98.2.2.2.2.1) = _; rw [hl101]) ?_
                  refine g_X8_310 (pc := 136) (v := .ref 139) rfl dX8_breaks_136 (c_133 _) rfl ?_
                  refine R_iload_n (pc := 139) dX8_breaks_139 rfl rfl ?_
                  have hx113 : vp_in i 8 := (vp_ti (by have q0 := e67; have q1 := ti_in h68; have q2 := ti_ne b39_71; have q3 := ti_in (iv_13306 hI); have q4 := ti_in r66; have q5 := ti_in (thI_in σ); have q6 := ti_in hrg66; have q7 := ti_in (iva_4 hV97 _ (lt_of_vp hx108)); have z0 : (-1 : Int32).toInt = -1 := (by decide); have z1 : (0 : Int32).toInt = 0 := (by decide); have z2 : (1 : Int32).toInt = 1 := (by decide); have z3 : (1048575 : Int32).toInt = 1048575 := (by decide); have z4 : (137 : Int32).toInt = 137 := (by decide); have z5 : (19 : Int32).toInt = 19 := (by decide); have z6 : (7 : Int32).toInt = 7 := (by decide); have z7 : (8 : Int32).toInt = 8 := (by decide); have z8 : (99 : Int32).toInt = 99 := (by decide); omega) (by have q0 := e67; have q1 := ti_in h68; have q2 := ti_ne b39_71; have q3 := ti_in (iv_13306 hI); have q4 := ti_in r66; have q5 := ti_in (thI_in σ); have q6 := ti_in hrg66; have q7 := ti_in (iva_4 hV97 _ (lt_of_vp hx108)); have z0 : (-1 : Int32).toInt = -1 := (by decide); have z1 : (0 : Int32).toInt = 0 := (by decide); have z2 : (1 : Int32).toInt = 1 := (by decide); have z3 : (1048575 : Int32).toInt = 1048575 := (by decide); have z4 : (137 : Int32).toInt = 137 := (by decide); have z5 : (19 : Int32).toInt = 19 := (by decide); have z6 : (7 : Int32).toInt = 7 := (by decide); have z7 : (8 : Int32).toInt = 8 := (by decide); have z8 : (99 : Int32).toInt = 99 := (by decide); omega))
                  refine R_iaload (pc := 140) dX8_breaks_140 (c_139 _) hx113 ?_
                  refine k_X8_313 (pc := 141) (ge_X1_canBePublished _ _ _ _ hrg66) rfl (c_58 _) (by decide) (Nat.le_refl _) (Nat.le_refl _) (Nat.le_of_ble_eq_true rfl) dX8_breaks_141 (fun x w2 h => ?_)
                  rcases h with ⟨rfl, ⟨rfl, hk114a, hk114b⟩ | ⟨rfl, hk114⟩⟩
                  · skip
                    refine R_goto (pc := 144) 174 dX8_breaks_144 (by decide) ?_
                    refine st_7_6_i_i (pc := 174) dX8_breaks_174 ?_
                    refine R_iload (pc := 176) dX8_breaks_176 rfl ?_
                    refine R_ifne (pc := 178) 190 dX8_breaks_178 (by decide) (fun _ => ?_) (fun h => absurd h (by decide))
                    refine inc_7_5_1_i (pc := 190) dX8_breaks_190 ?_
                    have r116 : inR ((nI j66) + 1) 1 20 := inR_add (show inR (nI j66) 0 19 from hrg66) (show inR 1 1 1 from (inR_self _)) (by decide) (by decide)
                    have e117 := ti_add (l := 1) (h := 20) (show inR (nI j66) 0 19 from hrg66) (show inR 1 1 1 from (inR_self _)) (by decide) (by decide)
                    refine R_goto (pc := 193) 66 dX8_breaks_193 (by decide) ?_
                    rw [nI_1]
                    exact ih66 (j66 + 1) _ _ (by omega) (by omega) (bs_f (K := (fun c => tb (thI σ) c && (bfC 133 σx98 (Int32.toNatClampNeg i) c && (ouX (XC σx98) (σx98.2.2.1 138 (Int32.toNatClampNeg i)) (σx98.2.2.1 139 (Int32.toNatClampNeg i)) c)))) hX66_0 (an_3 (ou_f (by have q := hk114a; rw [nI_clamp (by omega)] at q; exact q) (by have q := hk114b; rw [nI_clamp (by omega)] at q; exact q))))
                  · skip
                    refine R_goto (pc := 144) 174 dX8_breaks_144 (by decide) ?_
                    refine st_7_6_i_i (pc := 174) dX8_breaks_174 ?_
                    refine R_iload (pc := 176) dX8_breaks_176 rfl ?_
                    refine R_ifne (pc := 178) 190 dX8_breaks_178 (by decide) (fun h => absurd (by decide) h) (fun _ => ?_)
                    refine R_iload (pc := 181) dX8_breaks_181 rfl ?_
                    refine R_iconst (pc := 183) (v := 1) dX8_breaks_183 (by decide) ?_
                    refine R_iload (pc := 184) dX8_breaks_184 rfl ?_
                    refine R_ishl (pc := 186) dX8_breaks_186 ?_
                    have r119 : inR (1 <<< ((nI j66) &&& 31)) 0 1048575 := shl20 hrg66
                    refine R_ior (pc := 187) dX8_breaks_187 ?_
                    refine st_7_4_i_i (pc := 188) dX8_breaks_188 ?_
                    refine inc_7_5_1_i (pc := 190) dX8_breaks_190 ?_
                    have r120 : inR ((nI j66) + 1) 1 20 := inR_add (show inR (nI j66) 0 19 from hrg66) (show inR 1 1 1 from (inR_self _)) (by decide) (by decide)
                    have e121 := ti_add (l := 1) (h := 20) (show inR (nI j66) 0 19 from hrg66) (show inR 1 1 1 from (inR_self _)) (by decide) (by decide)
                    refine R_goto (pc := 193) 66 dX8_breaks_193 (by decide) ?_
                    rw [nI_1]
                    exact ih66 (j66 + 1) _ _ (by omega) (by omega) (bs_t (K := (fun c => tb (thI σ) c && (bfC 133 σx98 (Int32.toNatClampNeg i) c && (ouX (XC σx98) (σx98.2.2.1 138 (Int32.toNatClampNeg i)) (σx98.2.2.1 139 (Int32.toNatClampNeg i)) c)))) hX66_0 (an_t (has_t (by omega) hh105) (show bfC 133 σx98 (Int32.toNatClampNeg i) j66 = true from by have q := hf109; rw [nI_clamp (by omega)] at q; exact q) (ou_t (by have q := hk114; rw [nI_clamp (by omega)] at q; exact q))))
                · skip
                  refine R_ifeq (pc := 110) 190 dX8_breaks_110 (by decide) (fun _ => ?_) (fun h => absurd (by decide) h)
                  refine inc_7_5_1_i (pc := 190) dX8_breaks_190 ?_
                  have r123 : inR ((nI j66) + 1) 1 20 := inR_add (show inR (nI j66) 0 19 from hrg66) (show inR 1 1 1 from (inR_self _)) (by decide) (by decide)
                  have e124 := ti_add (l := 1) (h := 20) (show inR (nI j66) 0 19 from hrg66) (show inR 1 1 1 from (inR_self _)) (by decide) (by decide)
                  refine R_goto (pc := 193) 66 dX8_breaks_193 (by decide) ?_
                  rw [nI_1]
                  exact ih66 (j66 + 1) _ _ (by omega) (by omega) (bs_f (K := (fun c => tb (thI σ) c && (bfC 133 σx98 (Int32.toNatClampNeg i) c && (ouX (XC σx98) (σx98.2.2.1 138 (Int32.toNatClampNeg i)) (σx98.2.2.1 139 (Int32.toNatClampNeg i)) c)))) hX66_0 (an_2 (show bfC 133 σx98 (Int32.toNatClampNeg i) j66 = false from by have q := hf109; rw [nI_clamp (by omega)] at q; exact q)))
              · skip
                refine R_ifeq (pc := 79) 190 dX8_breaks_79 (by decide) (fun _ => ?_) (fun h => absurd (by decide) h)
                refine inc_7_5_1_i (pc := 190) dX8_breaks_190 ?_
                have r126 : inR ((nI j66) + 1) 1 20 := inR_add (show inR (nI j66) 0 19 from hrg66) (show inR 1 1 1 from (inR_self _)) (by decide) (by decide)
                have e127 := ti_add (l := 1) (h := 20) (show inR (nI j66) 0 19 from hrg66) (show inR 1 1 1 from (inR_self _)) (by decide) (by decide)
                refine R_goto (pc := 193) 66 dX8_breaks_193 (by decide) ?_
                rw [nI_1]
                exact ih66 (j66 + 1) _ _ (by omega) (by omega) (bs_f (K := (fun c => tb (thI σ) c && (bfC 133 σx98 (Int32.toNatClampNeg i) c && (ouX (XC σx98) (σx98.2.2.1 138 (Int32.toNatClampNeg i)) (σx98.2.2.1 139 (Int32.toNatClampNeg i)) c)))) hX66_0 (an_1 (has_f (by omega) hh105)))
          exact HL66 20 0 _ _ (by omega) (by omega) rfl
        · skip
          refine R_ifne (pc := 54) 60 dX8_breaks_54 (by decide) (fun h => absurd (by decide) h) (fun _ => ?_)
          refine R_bipush (pc := 57) (v := (-4)) dX8_breaks_57 (by decide) ?_
          exact R_iret (pc := 59) dX8_breaks_59 rfl rfl (Nat.zero_le _) (Nat.zero_le _) ⟨_, rfl, (by rw [hl1]; exact Or.inr (Or.inr (Or.inl ⟨inB_t h68, (nd_t b39_71), hBL, rfl⟩))), _, rfl, hV97, hW100⟩
    · skip
      refine R_ifne (pc := 14) 20 dX8_breaks_14 (by decide) (fun h => absurd (by decide) h) (fun _ => ?_)
      refine R_bipush (pc := 17) (v := (-2)) dX8_breaks_17 (by decide) ?_
      exact R_iret (pc := 19) dX8_breaks_19 rfl rfl (Nat.zero_le _) (Nat.zero_le _) ⟨_, rfl, (by rw [hl1]; exact Or.inl ⟨inB_f h68, rfl⟩), _, rfl, hI, (show Cor σ σ from Cor.rfl' σ)⟩
theorem br_ext {G : Nat → Bool} {n : Nat} (hn : n ≤ 20) : bsI (fun c => decide (c < n) && G c) n = bsI (fun c => decide (c < n) && G c) 20 := by
  have q := bs_ext (K := fun c => decide (c < n) && G c) (n := n) (fun i hi => by show (decide (i < n) && G i) = false; rw [decide_eq_false (by omega)]; rfl) (20 - n)
  rw [show n + (20 - n) = 20 by omega] at q
  exact q.symm
set_option maxRecDepth 100000 in
set_option maxHeartbeats 40000000 in
theorem gq_X9_breaks {G : vG} {l : Launch} (σ : Sg) (D : Dt) (i : Int32) (hI : Inv σ) (hD : DtM D (-1) 0 σ) : Sp G l yX9_breaks cX9_breaks 6 (some .int) 5 0 0 [.ref 140, .int i] (WW σ) (QI (fun x w2 => BrM σ D i x ∧ ∃ σ2, w2 = WW σ2 ∧ Inv σ2 ∧ Cor σ σ2)) := by
  refine Sp_of_R [(some (.ref 140)), (some (.int i)), none, none, none, none] [none, none, none, none] rfl (by simp) rfl (Nat.le_of_ble_eq_true rfl) ?_
  refine R_iload_n (pc := 0) dX9_breaks_0 rfl rfl ?_
  refine R_iconst (pc := 1) (v := 0) dX9_breaks_1 (by decide) ?_
  refine R_aload_n (pc := 2) dX9_breaks_2 rfl rfl ?_
  refine g_X9_215 (pc := 3) (v := .int (σ.1 14047)) rfl dX9_breaks_3 (c_140 _) rfl ?_
  refine R_iconst (pc := 6) (v := 1) dX9_breaks_6 (by decide) ?_
  refine R_isub (pc := 7) dX9_breaks_7 ?_
  have r1 : inR ((σ.1 14047) - 1) (-1) 7 := inR_sub (show inR (σ.1 14047) 0 8 from (iv_14047 hI)) (show inR 1 1 1 from (inR_self _)) (by decide) (by decide)
  have e2 := ti_sub (l := (-1)) (h := 7) (show inR (σ.1 14047) 0 8 from (iv_14047 hI)) (show inR 1 1 1 from (inR_self _)) (by decide) (by decide)
  refine k_X9_124 (pc := 8) (sp_X9_in _ _ _ _) rfl (by decide) (Nat.le_refl _) (Nat.le_refl _) (Nat.le_of_ble_eq_true rfl) dX9_breaks_8 (fun x w2 h => ?_)
  rcases h with ⟨rfl, ⟨h3, rfl⟩ | ⟨h3, rfl⟩⟩
  · skip
    have hr4 : inR i 0 7 := of_ti (by have q0 := e2; have q1 := ti_in h3; have q2 := ti_in (iv_14047 hI); have q3 := ti_in r1; have z0 : (-1 : Int32).toInt = -1 := (by decide); have z1 : (0 : Int32).toInt = 0 := (by decide); have z2 : (1 : Int32).toInt = 1 := (by decide); have z3 : (7 : Int32).toInt = 7 := (by decide); have z4 : (8 : Int32).toInt = 8 := (by decide); omega) (by have q0 := e2; have q1 := ti_in h3; have q2 := ti_in (iv_14047 hI); have q3 := ti_in r1; have z0 : (-1 : Int32).toInt = -1 := (by decide); have z1 : (0 : Int32).toInt = 0 := (by decide); have z2 : (1 : Int32).toInt = 1 := (by decide); have z3 : (7 : Int32).toInt = 7 := (by decide); have z4 : (8 : Int32).toInt = 8 := (by decide); omega)
    refine R_ifne (pc := 11) 17 dX9_breaks_11 (by decide) (fun _ => ?_) (fun h => absurd h (by decide))
    obtain ⟨k, hk7, rfl⟩ := nI_inR (M := 7) hr4 (by decide)
    have hk7r : inR (nI k) 0 7 := inR_nI (M := 7) hk7 (by decide)
    refine R_aload_n (pc := 17) dX9_breaks_17 rfl rfl ?_
    refine g_X9_114 (pc := 18) (v := .ref 172) rfl dX9_breaks_18 (c_140 _) rfl ?_
    refine R_bipush (pc := 21) (v := 6) dX9_breaks_21 (by decide) ?_
    refine R_iload_n (pc := 23) dX9_breaks_23 rfl rfl ?_
    refine R_imul (pc := 24) dX9_breaks_24 ?_
    have r6 : inR (6 * (nI k)) 0 42 := inR_mulc (c := 6) (l := 0) (h := 42) 6 (by decide) (show inR (nI k) 0 7 from hk7r) (by decide) (by decide)
    have e7 := ti_mulc (c := 6) (l := 0) (h := 42) 6 (by decide) (show inR (nI k) 0 7 from hk7r) (by decide) (by decide)
    refine R_iconst (pc := 25) (v := 3) dX9_breaks_25 (by decide) ?_
    refine R_iadd (pc := 26) dX9_breaks_26 ?_
    have r8 : inR ((6 * (nI k)) + 3) 3 45 := inR_add (show inR (6 * (nI k)) 0 42 from r6) (show inR 3 3 3 from (inR_self _)) (by decide) (by decide)
    have e9 := ti_add (l := 3) (h := 45) (show inR (6 * (nI k)) 0 42 from r6) (show inR 3 3 3 from (inR_self _)) (by decide) (by decide)
    have hx10 : vp_in ((6 * (nI k)) + 3) 48 := (vp_ti (by have q0 := e2; have q1 := ti_in h3; have q2 := e7; have q3 := e9; have q4 := ti_in (iv_14047 hI); have q5 := ti_in r1; have q6 := ti_in hk7r; have q7 := ti_in r6; have q8 := ti_in r8; have z0 : (-1 : Int32).toInt = -1 := (by decide); have z1 : (0 : Int32).toInt = 0 := (by decide); have z2 : (1 : Int32).toInt = 1 := (by decide); have z3 : (3 : Int32).toInt = 3 := (by decide); have z4 : (42 : Int32).toInt = 42 := (by decide); have z5 : (45 : Int32).toInt = 45 := (by decide); have z6 : (7 : Int32).toInt = 7 := (by decide); have z7 : (8 : Int32).toInt = 8 := (by decide); omega) (by have q0 := e2; have q1 := ti_in h3; have q2 := e7; have q3 := e9; have q4 := ti_in (iv_14047 hI); have q5 := ti_in r1; have q6 := ti_in hk7r; have q7 := ti_in r6; have q8 := ti_in r8; have z0 : (-1 : Int32).toInt = -1 := (by decide); have z1 : (0 : Int32).toInt = 0 := (by decide); have z2 : (1 : Int32).toInt = 1 := (by decide); have z3 : (3 : Int32).toInt = 3 := (by decide); have z4 : (42 : Int32).toInt = 42 := (by decide); have z5 : (45 : Int32).toInt = 45 := (by decide); have z6 : (7 : Int32).toInt = 7 := (by decide); have z7 : (8 : Int32).toInt = 8 := (by decide); omega))
    refine R_iaload (pc := 27) dX9_breaks_27 (c_172 _) hx10 ?_
    refine R_iconst (pc := 28) (v := 1) dX9_breaks_28 (by decide) ?_
    refine R_icne (pc := 29) 36 dX9_breaks_29 (by decide) (fun b29_11 => ?_) (fun b29_11 => ?_)
    · skip
      refine R_iconst (pc := 36) (v := 0) dX9_breaks_36 (by decide) ?_
      refine st_6_2_i_i (pc := 37) dX9_breaks_37 ?_
      refine R_iload_n (pc := 38) dX9_breaks_38 rfl rfl ?_
      refine R_ifeq (pc := 39) 54 dX9_breaks_39 (by decide) (fun _ => ?_) (fun h => absurd (by decide) h)
      refine R_iconst (pc := 54) (v := 0) dX9_breaks_54 (by decide) ?_
      refine st_6_3_i_i (pc := 55) dX9_breaks_55 ?_
      refine R_iconst (pc := 56) (v := 0) dX9_breaks_56 (by decide) ?_
      refine st_6_4_i_i (pc := 57) dX9_breaks_57 ?_
      have HL59 : ∀ (q j59 : Nat) (g3_59 : Int32) (g5_59 : Option Value), j59 + q = 20 → 0 ≤ j59 → g3_59 = bsI (fun c => decide (c < TMn σ) && (bfM σ k c && (!decide (σ.2.2.1 144 c = σ.2.2.1 172 (6 * k + 4))))) j59 → j59 ≤ TMn σ → R G l yX9_breaks cX9_breaks 6 (some .int) 5 0 0 (QI (fun x w2 => BrM σ D (nI k) x ∧ ∃ σ2, w2 = WW σ2 ∧ Inv σ2 ∧ Cor σ σ2)) 59 [(some (.ref 140)), (some (.int (nI k))), (some (.int 0)), (some (.int g3_59)), (some (.int (nI j59))), g5_59] [] (WW σ) 0 0 := by
        intro q
        induction q with
        | zero =>
          intro j59 g3_59 g5_59 hj hs59 hX59_0 hX59_1
          obtain rfl : j59 = 20 := by omega
          refine R_iload (pc := 59) dX9_breaks_59 rfl ?_
          refine R_aload_n (pc := 61) dX9_breaks_61 rfl rfl ?_
          refine k_X9_120 (pc := 62) (ge_X9_thereMany _ hI) rfl (c_140 _) (by decide) (Nat.le_refl _) (Nat.le_refl _) (Nat.le_of_ble_eq_true rfl) dX9_breaks_62 (fun x w2 h => ?_)
          obtain ⟨rfl, rfl⟩ := h
          refine R_icge (pc := 65) 185 dX9_breaks_65 (by decide) (fun _ => ?_) (fun h => absurd (Int32.not_lt.mp (inR_up (tm_in (σ.1 14000) (σ.1 14013) (σ.2.2.1 148)) (Int32.le_refl _) (by decide)).2) h)
          refine R_iload_n (pc := 185) dX9_breaks_185 rfl rfl ?_
          exact R_iret (pc := 186) dX9_breaks_186 rfl rfl (Nat.zero_le _) (Nat.zero_le _) ⟨_, rfl, brM_of hk7 (Or.inr (Or.inl ⟨inB_t h3, (decide_eq_false (by have q := b29_11; rw [(idx6m (show k < 8 by omega)).2.1] at q; exact q)), (by have q := hX59_0; rw [(show 20 = TMn σ from tm_ex20 hX59_1)] at q; exact q.trans (br_ext (tm_le _ _ _)))⟩)), _, rfl, hI, (show Cor σ σ from Cor.rfl' σ)⟩
        | succ q ih59 =>
          intro j59 g3_59 g5_59 hj hs59 hX59_0 hX59_1
          have hrg59 : inR (nI j59) 0 19 := inR_ix hs59 (show j59 < 20 by omega) (by decide) (by decide) (by decide)
          have hlt59 : j59 < 20 := by omega
          refine R_iload (pc := 59) dX9_breaks_59 rfl ?_
          refine R_aload_n (pc := 61) dX9_breaks_61 rfl rfl ?_
          refine k_X9_120 (pc := 62) (ge_X9_thereMany _ hI) rfl (c_140 _) (by decide) (Nat.le_refl _) (Nat.le_refl _) (Nat.le_of_ble_eq_true rfl) dX9_breaks_62 (fun x w2 h => ?_)
          obtain ⟨rfl, rfl⟩ := h
          refine R_icge (pc := 65) 185 dX9_breaks_65 (by decide) (fun b65_14 => ?_) (fun b65_14 => ?_)
          · skip
            refine R_iload_n (pc := 185) dX9_breaks_185 rfl rfl ?_
            exact R_iret (pc := 186) dX9_breaks_186 rfl rfl (Nat.zero_le _) (Nat.zero_le _) ⟨_, rfl, brM_of hk7 (Or.inr (Or.inl ⟨inB_t h3, (decide_eq_false (by have q := b29_11; rw [(idx6m (show k < 8 by omega)).2.1] at q; exact q)), (by have q := hX59_0; rw [(show j59 = TMn σ from tm_exit (by omega) hX59_1 (by have q := b65_14; rw [cor_tm (show Cor σ σ from Cor.rfl' σ)] at q; exact q))] at q; exact q.trans (br_ext (tm_le _ _ _)))⟩)), _, rfl, hI, (show Cor σ σ from Cor.rfl' σ)⟩
          · skip
            have hjt : j59 < TMn σ := by have q := tm_next (by omega) b65_14; rw [cor_tm (show Cor σ σ from Cor.rfl' σ)] at q; exact q
            refine R_iload_n (pc := 68) dX9_breaks_68 rfl rfl ?_
            refine R_ifeq (pc := 69) 122 dX9_breaks_69 (by decide) (fun _ => ?_) (fun h => absurd (by decide) h)
            refine R_aload_n (pc := 122) dX9_breaks_122 rfl rfl ?_
            refine g_X9_19 (pc := 123) (v := .ref 144) rfl dX9_breaks_123 (c_140 _) rfl ?_
            refine R_iload (pc := 126) dX9_breaks_126 rfl ?_
            have hx16 : vp_in (nI j59) 20 := (vp_in_nI (by omega) (by decide))
            refine R_iaload (pc := 128) dX9_breaks_128 (c_144 _) hx16 ?_
            refine R_aload_n (pc := 129) dX9_breaks_129 rfl rfl ?_
            refine g_X9_114 (pc := 130) (v := .ref 172) rfl dX9_breaks_130 (c_140 _) rfl ?_
            refine R_bipush (pc := 133) (v := 6) dX9_breaks_133 (by decide) ?_
            refine R_iload_n (pc := 135) dX9_breaks_135 rfl rfl ?_
            refine R_imul (pc := 136) dX9_breaks_136 ?_
            have r17 : inR (6 * (nI k)) 0 42 := inR_mulc (c := 6) (l := 0) (h := 42) 6 (by decide) (show inR (nI k) 0 7 from hk7r) (by decide) (by decide)
            have e18 := ti_mulc (c := 6) (l := 0) (h := 42) 6 (by decide) (show inR (nI k) 0 7 from hk7r) (by decide) (by decide)
            refine R_iconst (pc := 137) (v := 4) dX9_breaks_137 (by decide) ?_
            refine R_iadd (pc := 138) dX9_breaks_138 ?_
            have r19 : inR ((6 * (nI k)) + 4) 4 46 := inR_add (show inR (6 * (nI k)) 0 42 from r17) (show inR 4 4 4 from (inR_self _)) (by decide) (by decide)
            have e20 := ti_add (l := 4) (h := 46) (show inR (6 * (nI k)) 0 42 from r17) (show inR 4 4 4 from (inR_self _)) (by decide) (by decide)
            have hx21 : vp_in ((6 * (nI k)) + 4) 48 := (vp_ti (by have q0 := e2; have q1 := ti_in h3; have q2 := e7; have q3 := e9; have q4 := e18; have q5 := e20; have q6 := ti_ne b29_11; have q7 := ti_nle b65_14; have q8 := ti_in (iv_14047 hI); have q9 := ti_in r1; have q10 := ti_in hk7r; have q11 := ti_in r17; have q12 := ti_in r8; have q13 := ti_in hrg59; have q14 := ti_in (tm_in (σ.1 14000) (σ.1 14013) (σ.2.2.1 148)); have q15 := ti_in (iva_144 hI _ (lt_of_vp hx16)); have q16 := ti_in r19; have z0 : (-1 : Int32).toInt = -1 := (by decide); have z1 : (0 : Int32).toInt = 0 := (by decide); have z2 : (1 : Int32).toInt = 1 := (by decide); have z3 : (14000 : Int32).toInt = 14000 := (by decide); have z4 : (14013 : Int32).toInt = 14013 := (by decide); have z5 : (148 : Int32).toInt = 148 := (by decide); have z6 : (172 : Int32).toInt = 172 := (by decide); have z7 : (19 : Int32).toInt = 19 := (by decide); have z8 : (20 : Int32).toInt = 20 := (by decide); have z9 : (3 : Int32).toInt = 3 := (by decide); have z10 : (4 : Int32).toInt = 4 := (by decide); have z11 : (42 : Int32).toInt = 42 := (by decide); have z12 : (45 : Int32).toInt = 45 := (by decide); have z13 : (46 : Int32).toInt = 46 := (by decide); have z14 : (6 : Int32).toInt = 6 := (by decide); have z15 : (7 : Int32).toInt = 7 := (by decide); have z16 : (8 : Int32).toInt = 8 := (by decide); omega) (by have q0 := e2; have q1 := ti_in h3; have q2 := e7; have q3 := e9; have q4 := e18; have q5 := e20; have q6 := ti_ne b29_11; have q7 := ti_nle b65_14; have q8 := ti_in (iv_14047 hI); have q9 := ti_in r1; have q10 := ti_in hk7r; have q11 := ti_in r17; have q12 := ti_in r8; have q13 := ti_in hrg59; have q14 := ti_in (tm_in (σ.1 14000) (σ.1 14013) (σ.2.2.1 148)); have q15 := ti_in (iva_144 hI _ (lt_of_vp hx16)); have q16 := ti_in r19; have z0 : (-1 : Int32).toInt = -1 := (by decide); have z1 : (0 : Int32).toInt = 0 := (by decide); have z2 : (1 : Int32).toInt = 1 := (by decide); have z3 : (14000 : Int32).toInt = 14000 := (by decide); have z4 : (14013 : Int32).toInt = 14013 := (by decide); have z5 : (148 : Int32).toInt = 148 := (by decide); have z6 : (172 : Int32).toInt = 172 := (by decide); have z7 : (19 : Int32).toInt = 19 := (by decide); have z8 : (20 : Int32).toInt = 20 := (by decide); have z9 : (3 : Int32).toInt = 3 := (by decide); have z10 : (4 : Int32).toInt = 4 := (by decide); have z11 : (42 : Int32).toInt = 42 := (by decide); have z12 : (45 : Int32).toInt = 45 := (by decide); have z13 : (46 : Int32).toInt = 46 := (by decide); have z14 : (6 : Int32).toInt = 6 := (by decide); have z15 : (7 : Int32).toInt = 7 := (by decide); have z16 : (8 : Int32).toInt = 8 := (by decide); omega))
            refine R_iaload (pc := 139) dX9_breaks_139 (c_172 _) hx21 ?_
            refine R_iceq (pc := 140) 147 dX9_breaks_140 (by decide) (fun b140_22 => ?_) (fun b140_22 => ?_)
            · skip
              refine R_iconst (pc := 147) (v := 0) dX9_breaks_147 (by decide) ?_
              refine st_6_5_i_i (pc := 148) dX9_breaks_148 ?_
              refine R_iload_n (pc := 150) dX9_breaks_150 rfl rfl ?_
              refine R_aload_n (pc := 151) dX9_breaks_151 rfl rfl ?_
              refine R_iload (pc := 152) dX9_breaks_152 rfl ?_
              refine R_bipush (pc := 154) (v := 6) dX9_breaks_154 (by decide) ?_
              refine R_iload_n (pc := 156) dX9_breaks_156 rfl rfl ?_
              refine R_imul (pc := 157) dX9_breaks_157 ?_
              have r23 : inR (6 * (nI k)) 0 42 := inR_mulc (c := 6) (l := 0) (h := 42) 6 (by decide) (show inR (nI k) 0 7 from hk7r) (by decide) (by decide)
              have e24 := ti_mulc (c := 6) (l := 0) (h := 42) 6 (by decide) (show inR (nI k) 0 7 from hk7r) (by decide) (by decide)
              refine k_X9_218 (pc := 158) (ge_X9_isOf _ j59 k hI (by omega) (by omega)) rfl (c_140 _) (by decide) (Nat.le_refl _) (Nat.le_refl _) (Nat.le_of_ble_eq_true rfl) dX9_breaks_158 (fun x w2 h => ?_)
              rcases h with ⟨rfl, ⟨hf25, rfl⟩ | ⟨hf25, rfl⟩⟩
              · skip
                refine R_ifeq (pc := 161) 176 dX9_breaks_161 (by decide) (fun h => absurd h (by decide)) (fun _ => ?_)
                refine R_iload (pc := 164) dX9_breaks_164 rfl ?_
                refine R_ifeq (pc := 166) 176 dX9_breaks_166 (by decide) (fun _ => ?_) (fun h => absurd (by decide) h)
                refine R_iconst (pc := 176) (v := 0) dX9_breaks_176 (by decide) ?_
                refine R_ior (pc := 177) dX9_breaks_177 ?_
                refine st_6_3_i_i (pc := 178) dX9_breaks_178 ?_
                refine inc_6_4_1_i (pc := 179) dX9_breaks_179 ?_
                have r28 : inR ((nI j59) + 1) 1 20 := inR_add (show inR (nI j59) 0 19 from hrg59) (show inR 1 1 1 from (inR_self _)) (by decide) (by decide)
                have e29 := ti_add (l := 1) (h := 20) (show inR (nI j59) 0 19 from hrg59) (show inR 1 1 1 from (inR_self _)) (by decide) (by decide)
                refine R_goto (pc := 182) 59 dX9_breaks_182 (by decide) ?_
                rw [nI_1]
                exact ih59 (j59 + 1) _ _ (by omega) (by omega) (bs_o (K := (fun c => decide (c < TMn σ) && (bfM σ k c && (!decide (σ.2.2.1 144 c = σ.2.2.1 172 (6 * k + 4)))))) hX59_0 (an_3 (ne_f (by have q := b140_22; rw [(idx6m (show k < 8 by omega)).2.2.1, nI_clamp (show j59 < 2 ^ 31 by omega)] at q; exact q)))) hjt
              · skip
                refine R_ifeq (pc := 161) 176 dX9_breaks_161 (by decide) (fun _ => ?_) (fun h => absurd (by decide) h)
                refine R_iconst (pc := 176) (v := 0) dX9_breaks_176 (by decide) ?_
                refine R_ior (pc := 177) dX9_breaks_177 ?_
                refine st_6_3_i_i (pc := 178) dX9_breaks_178 ?_
                refine inc_6_4_1_i (pc := 179) dX9_breaks_179 ?_
                have r31 : inR ((nI j59) + 1) 1 20 := inR_add (show inR (nI j59) 0 19 from hrg59) (show inR 1 1 1 from (inR_self _)) (by decide) (by decide)
                have e32 := ti_add (l := 1) (h := 20) (show inR (nI j59) 0 19 from hrg59) (show inR 1 1 1 from (inR_self _)) (by decide) (by decide)
                refine R_goto (pc := 182) 59 dX9_breaks_182 (by decide) ?_
                rw [nI_1]
                exact ih59 (j59 + 1) _ _ (by omega) (by omega) (bs_o (K := (fun c => decide (c < TMn σ) && (bfM σ k c && (!decide (σ.2.2.1 144 c = σ.2.2.1 172 (6 * k + 4)))))) hX59_0 (an_2 (show bfM σ k j59 = false from hf25))) hjt
            · skip
              refine R_iconst (pc := 143) (v := 1) dX9_breaks_143 (by decide) ?_
              refine R_goto (pc := 144) 148 dX9_breaks_144 (by decide) ?_
              refine st_6_5_i_i (pc := 148) dX9_breaks_148 ?_
              refine R_iload_n (pc := 150) dX9_breaks_150 rfl rfl ?_
              refine R_aload_n (pc := 151) dX9_breaks_151 rfl rfl ?_
              refine R_iload (pc := 152) dX9_breaks_152 rfl ?_
              refine R_bipush (pc := 154) (v := 6) dX9_breaks_154 (by decide) ?_
              refine R_iload_n (pc := 156) dX9_breaks_156 rfl rfl ?_
              refine R_imul (pc := 157) dX9_breaks_157 ?_
              have r33 : inR (6 * (nI k)) 0 42 := inR_mulc (c := 6) (l := 0) (h := 42) 6 (by decide) (show inR (nI k) 0 7 from hk7r) (by decide) (by decide)
              have e34 := ti_mulc (c := 6) (l := 0) (h := 42) 6 (by decide) (show inR (nI k) 0 7 from hk7r) (by decide) (by decide)
              refine k_X9_218 (pc := 158) (ge_X9_isOf _ j59 k hI (by omega) (by omega)) rfl (c_140 _) (by decide) (Nat.le_refl _) (Nat.le_refl _) (Nat.le_of_ble_eq_true rfl) dX9_breaks_158 (fun x w2 h => ?_)
              rcases h with ⟨rfl, ⟨hf35, rfl⟩ | ⟨hf35, rfl⟩⟩
              · skip
                refine R_ifeq (pc := 161) 176 dX9_breaks_161 (by decide) (fun h => absurd h (by decide)) (fun _ => ?_)
                refine R_iload (pc := 164) dX9_breaks_164 rfl ?_
                refine R_ifeq (pc := 166) 176 dX9_breaks_166 (by decide) (fun h => absurd h (by decide)) (fun _ => ?_)
                refine R_iconst (pc := 169) (v := 1) dX9_breaks_169 (by decide) ?_
                refine R_iload (pc := 170) dX9_breaks_170 rfl ?_
                refine R_ishl (pc := 172) dX9_breaks_172 ?_
                have r38 : inR (1 <<< ((nI j59) &&& 31)) 0 1048575 := shl20 hrg59
                refine R_goto (pc := 173) 177 dX9_breaks_173 (by decide) ?_
                refine R_ior (pc := 177) dX9_breaks_177 ?_
                refine st_6_3_i_i (pc := 178) dX9_breaks_178 ?_
                refine inc_6_4_1_i (pc := 179) dX9_breaks_179 ?_
                have r39 : inR ((nI j59) + 1) 1 20 := inR_add (show inR (nI j59) 0 19 from hrg59) (show inR 1 1 1 from (inR_self _)) (by decide) (by decide)
                have e40 := ti_add (l := 1) (h := 20) (show inR (nI j59) 0 19 from hrg59) (show inR 1 1 1 from (inR_self _)) (by decide) (by decide)
                refine R_goto (pc := 182) 59 dX9_breaks_182 (by decide) ?_
                rw [nI_1]
                exact ih59 (j59 + 1) _ _ (by omega) (by omega) (bs_t (K := (fun c => decide (c < TMn σ) && (bfM σ k c && (!decide (σ.2.2.1 144 c = σ.2.2.1 172 (6 * k + 4)))))) hX59_0 (an_t (decide_eq_true hjt) (show bfM σ k j59 = true from hf35) (ne_t (by have q := b140_22; rw [(idx6m (show k < 8 by omega)).2.2.1, nI_clamp (show j59 < 2 ^ 31 by omega)] at q; exact q)))) hjt
              · skip
                refine R_ifeq (pc := 161) 176 dX9_breaks_161 (by decide) (fun _ => ?_) (fun h => absurd (by decide) h)
                refine R_iconst (pc := 176) (v := 0) dX9_breaks_176 (by decide) ?_
                refine R_ior (pc := 177) dX9_breaks_177 ?_
                refine st_6_3_i_i (pc := 178) dX9_breaks_178 ?_
                refine inc_6_4_1_i (pc := 179) dX9_breaks_179 ?_
                have r42 : inR ((nI j59) + 1) 1 20 := inR_add (show inR (nI j59) 0 19 from hrg59) (show inR 1 1 1 from (inR_self _)) (by decide) (by decide)
                have e43 := ti_add (l := 1) (h := 20) (show inR (nI j59) 0 19 from hrg59) (show inR 1 1 1 from (inR_self _)) (by decide) (by decide)
                refine R_goto (pc := 182) 59 dX9_breaks_182 (by decide) ?_
                rw [nI_1]
                exact ih59 (j59 + 1) _ _ (by omega) (by omega) (bs_o (K := (fun c => decide (c < TMn σ) && (bfM σ k c && (!decide (σ.2.2.1 144 c = σ.2.2.1 172 (6 * k + 4)))))) hX59_0 (an_2 (show bfM σ k j59 = false from hf35))) hjt
      exact HL59 20 0 _ _ (by omega) (by omega) rfl (Nat.zero_le _)
    · skip
      refine R_iconst (pc := 32) (v := 1) dX9_breaks_32 (by decide) ?_
      refine R_goto (pc := 33) 37 dX9_breaks_33 (by decide) ?_
      refine st_6_2_i_i (pc := 37) dX9_breaks_37 ?_
      refine R_iload_n (pc := 38) dX9_breaks_38 rfl rfl ?_
      refine R_ifeq (pc := 39) 54 dX9_breaks_39 (by decide) (fun h => absurd h (by decide)) (fun _ => ?_)
      refine R_aload_n (pc := 42) dX9_breaks_42 rfl rfl ?_
      refine R_iconst (pc := 43) (v := (-1)) dX9_breaks_43 (by decide) ?_
      refine R_iconst (pc := 44) (v := 0) dX9_breaks_44 (by decide) ?_
      refine k_X9_228 (pc := 45) (gd_X9_areSpans _ D (-1) 0 hI hD) rfl (c_140 _) (by decide) (Nat.le_refl _) (Nat.le_refl _) (Nat.le_of_ble_eq_true rfl) dX9_breaks_45 (fun x w2 h => ?_)
      obtain ⟨σx46, rfl, hV45, hW47, -, hres⟩ := h
      have hW48 := Cor.trans (show Cor σ σ from Cor.rfl' σ) hW47
      rcases hres with ⟨rfl, hG⟩ | ⟨rfl, hBL⟩
      · skip
        refine R_ifne (pc := 48) 54 dX9_breaks_48 (by decide) (fun _ => ?_) (fun h => absurd h (by decide))
        refine R_iconst (pc := 54) (v := 0) dX9_breaks_54 (by decide) ?_
        refine st_6_3_i_i (pc := 55) dX9_breaks_55 ?_
        refine R_iconst (pc := 56) (v := 0) dX9_breaks_56 (by decide) ?_
        refine st_6_4_i_i (pc := 57) dX9_breaks_57 ?_
        have HL59 : ∀ (q j59 : Nat) (g3_59 : Int32) (g5_59 : Option Value), j59 + q = 20 → 0 ≤ j59 → g3_59 = bsI (fun c => decide (c < TMn σ) && (bfM σx46 k c && (ouX (XM σx46) (σx46.2.2.1 172 (6 * k + 4)) (σx46.2.2.1 172 (6 * k + 5)) c))) j59 → j59 ≤ TMn σ → R G l yX9_breaks cX9_breaks 6 (some .int) 5 0 0 (QI (fun x w2 => BrM σ D (nI k) x ∧ ∃ σ2, w2 = WW σ2 ∧ Inv σ2 ∧ Cor σ σ2)) 59 [(some (.ref 140)), (some (.int (nI k))), (some (.int 1)), (some (.int g3_59)), (some (.int (nI j59))), g5_59] [] (WW σx46) 0 0 := by
          intro q
          induction q with
          | zero =>
            intro j59 g3_59 g5_59 hj hs59 hX59_0 hX59_1
            obtain rfl : j59 = 20 := by omega
            refine R_iload (pc := 59) dX9_breaks_59 rfl ?_
            refine R_aload_n (pc := 61) dX9_breaks_61 rfl rfl ?_
            refine k_X9_120 (pc := 62) (ge_X9_thereMany _ hV45) rfl (c_140 _) (by decide) (Nat.le_refl _) (Nat.le_refl _) (Nat.le_of_ble_eq_true rfl) dX9_breaks_62 (fun x w2 h => ?_)
            obtain ⟨rfl, rfl⟩ := h
            refine R_icge (pc := 65) 185 dX9_breaks_65 (by decide) (fun _ => ?_) (fun h => absurd (Int32.not_lt.mp (inR_up (tm_in (σx46.1 14000) (σx46.1 14013) (σx46.2.2.1 148)) (Int32.le_refl _) (by decide)).2) h)
            refine R_iload_n (pc := 185) dX9_breaks_185 rfl rfl ?_
            exact R_iret (pc := 186) dX9_breaks_186 rfl rfl (Nat.zero_le _) (Nat.zero_le _) ⟨_, rfl, brM_of hk7 (Or.inr (Or.inr (Or.inr ⟨inB_t h3, (decide_eq_true (by have q := b29_11; rw [(idx6m (show k < 8 by omega)).2.1] at q; exact q)), _, hG, (by have q := hX59_0; rw [(show 20 = TMn σ from tm_ex20 hX59_1)] at q; rw [hW48.2.2.1 172 rfl] at q; exact (q.trans (br_ext (tm_le _ _ _))).trans (bs_congr 20 (fun c _ => by show (decide (c < TMn σ) && (bfM σx46 k c && _)) = (decide (c < TMn σ) && (bfM σ k c && _)); rw [bfM_cor hW48]; all_goals rfl)))⟩))), _, rfl, hV45, hW48⟩
          | succ q ih59 =>
            intro j59 g3_59 g5_59 hj hs59 hX59_0 hX59_1
            have hrg59 : inR (nI j59) 0 19 := inR_ix hs59 (show j59 < 20 by omega) (by decide) (by decide) (by decide)
            have hlt59 : j59 < 20 := by omega
            refine R_iload (pc := 59) dX9_breaks_59 rfl ?_
            refine R_aload_n (pc := 61) dX9_breaks_61 rfl rfl ?_
            refine k_X9_120 (pc := 62) (ge_X9_thereMany _ hV45) rfl (c_140 _) (by decide) (Nat.le_refl _) (Nat.le_refl _) (Nat.le_of_ble_eq_true rfl) dX9_breaks_62 (fun x w2 h => ?_)
            obtain ⟨rfl, rfl⟩ := h
            refine R_icge (pc := 65) 185 dX9_breaks_65 (by decide) (fun b65_51 => ?_) (fun b65_51 => ?_)
            · skip
              refine R_iload_n (pc := 185) dX9_breaks_185 rfl rfl ?_
              exact R_iret (pc := 186) dX9_breaks_186 rfl rfl (Nat.zero_le _) (Nat.zero_le _) ⟨_, rfl, brM_of hk7 (Or.inr (Or.inr (Or.inr ⟨inB_t h3, (decide_eq_true (by have q := b29_11; rw [(idx6m (show k < 8 by omega)).2.1] at q; exact q)), _, hG, (by have q := hX59_0; rw [(show j59 = TMn σ from tm_exit (by omega) hX59_1 (by have q := b65_51; rw [cor_tm hW48] at q; exact q))] at q; rw [hW48.2.2.1 172 rfl] at q; exact (q.trans (br_ext (tm_le _ _ _))).trans (bs_congr 20 (fun c _ => by show (decide (c < TMn σ) && (bfM σx46 k c && _)) = (decide (c < TMn σ) && (bfM σ k c && _)); rw [bfM_cor hW48]; all_goals rfl)))⟩))), _, rfl, hV45, hW48⟩
            · skip
              have hjt : j59 < TMn σ := by have q := tm_next (by omega) b65_51; rw [cor_tm hW48] at q; exact q
              refine R_iload_n (pc := 68) dX9_breaks_68 rfl rfl ?_
              refine R_ifeq (pc := 69) 122 dX9_breaks_69 (by decide) (fun h => absurd h (by decide)) (fun _ => ?_)
              refine R_aload_n (pc := 72) dX9_breaks_72 rfl rfl ?_
              refine g_X9_93 (pc := 73) (v := .ref 165) rfl dX9_breaks_73 (c_140 _) rfl ?_
              refine R_iload (pc := 76) dX9_breaks_76 rfl ?_
              have hx53 : vp_in (nI j59) 20 := (vp_in_nI (by omega) (by decide))
              refine R_iaload (pc := 78) dX9_breaks_78 (c_165 _) hx53 ?_
              refine R_aload_n (pc := 79) dX9_breaks_79 rfl rfl ?_
              refine g_X9_114 (pc := 80) (v := .ref 172) rfl dX9_breaks_80 (c_140 _) rfl ?_
              refine R_bipush (pc := 83) (v := 6) dX9_breaks_83 (by decide) ?_
              refine R_iload_n (pc := 85) dX9_breaks_85 rfl rfl ?_
              refine R_imul (pc := 86) dX9_breaks_86 ?_
              have r54 : inR (6 * (nI k)) 0 42 := inR_mulc (c := 6) (l := 0) (h := 42) 6 (by decide) (show inR (nI k) 0 7 from hk7r) (by decide) (by decide)
              have e55 := ti_mulc (c := 6) (l := 0) (h := 42) 6 (by decide) (show inR (nI k) 0 7 from hk7r) (by decide) (by decide)
              refine R_iconst (pc := 87) (v := 5) dX9_breaks_87 (by decide) ?_
              refine R_iadd (pc := 88) dX9_breaks_88 ?_
              have r56 : inR ((6 * (nI k)) + 5) 5 47 := inR_add (show inR (6 * (nI k)) 0 42 from r54) (show inR 5 5 5 from (inR_self _)) (by decide) (by decide)
              have e57 := ti_add (l := 5) (h := 47) (show inR (6 * (nI k)) 0 42 from r54) (show inR 5 5 5 from (inR_self _)) (by decide) (by decide)
              have hx58 : vp_in ((6 * (nI k)) + 5) 48 := (vp_ti (by have q0 := e2; have q1 := ti_in h3; have q2 := e7; have q3 := e9; have q4 := e55; have q5 := e57; have q6 := ti_eq b29_11; have q7 := ti_nle b65_51; have q8 := ti_in (iv_14047 hI); have q9 := ti_in r1; have q10 := ti_in hk7r; have q11 := ti_in r54; have q12 := ti_in r8; have q13 := ti_in hrg59; have q14 := ti_in (tm_in (σx46.1 14000) (σx46.1 14013) (σx46.2.2.1 148)); have q15 := ti_in r56; have z0 : (-1 : Int32).toInt = -1 := (by decide); have z1 : (0 : Int32).toInt = 0 := (by decide); have z2 : (1 : Int32).toInt = 1 := (by decide); have z3 : (14000 : Int32).toInt = 14000 := (by decide); have z4 : (14013 : Int32).toInt = 14013 := (by decide); have z5 : (148 : Int32).toInt = 148 := (by decide); have z6 : (172 : Int32).toInt = 172 := (by decide); have z7 : (19 : Int32).toInt = 19 := (by decide); have z8 : (20 : Int32).toInt = 20 := (by decide); have z9 : (3 : Int32).toInt = 3 := (by decide); have z10 : (42 : Int32).toInt = 42 := (by decide); have z11 : (45 : Int32).toInt = 45 := (by decide); have z12 : (47 : Int32).toInt = 47 := (by decide); have z13 : (5 : Int32).toInt = 5 := (by decide); have z14 : (6 : Int32).toInt = 6 := (by decide); have z15 : (7 : Int32).toInt = 7 := (by decide); have z16 : (8 : Int32).toInt = 8 := (by decide); omega) (by have q0 := e2; have q1 := ti_in h3; have q2 := e7; have q3 := e9; have q4 := e55; have q5 := e57; have q6 := ti_eq b29_11; have q7 := ti_nle b65_51; have q8 := ti_in (iv_14047 hI); have q9 := ti_in r1; have q10 := ti_in hk7r; have q11 := ti_in r54; have q12 := ti_in r8; have q13 := ti_in hrg59; have q14 := ti_in (tm_in (σx46.1 14000) (σx46.1 14013) (σx46.2.2.1 148)); have q15 := ti_in r56; have z0 : (-1 : Int32).toInt = -1 := (by decide); have z1 : (0 : Int32).toInt = 0 := (by decide); have z2 : (1 : Int32).toInt = 1 := (by decide); have z3 : (14000 : Int32).toInt = 14000 := (by decide); have z4 : (14013 : Int32).toInt = 14013 := (by decide); have z5 : (148 : Int32).toInt = 148 := (by decide); have z6 : (172 : Int32).toInt = 172 := (by decide); have z7 : (19 : Int32).toInt = 19 := (by decide); have z8 : (20 : Int32).toInt = 20 := (by decide); have z9 : (3 : Int32).toInt = 3 := (by decide); have z10 : (42 : Int32).toInt = 42 := (by decide); have z11 : (45 : Int32).toInt = 45 := (by decide); have z12 : (47 : Int32).toInt = 47 := (by decide); have z13 : (5 : Int32).toInt = 5 := (by decide); have z14 : (6 : Int32).toInt = 6 := (by decide); have z15 : (7 : Int32).toInt = 7 := (by decide); have z16 : (8 : Int32).toInt = 8 := (by decide); omega))
              refine R_iaload (pc := 89) dX9_breaks_89 (c_172 _) hx58 ?_
              refine R_icgt (pc := 90) 114 dX9_breaks_90 (by decide) (fun b90_59 => ?_) (fun b90_59 => ?_)
              · skip
                refine R_iconst (pc := 114) (v := 1) dX9_breaks_114 (by decide) ?_
                refine R_goto (pc := 115) 148 dX9_breaks_115 (by decide) ?_
                refine st_6_5_i_i (pc := 148) dX9_breaks_148 ?_
                refine R_iload_n (pc := 150) dX9_breaks_150 rfl rfl ?_
                refine R_aload_n (pc := 151) dX9_breaks_151 rfl rfl ?_
                refine R_iload (pc := 152) dX9_breaks_152 rfl ?_
                refine R_bipush (pc := 154) (v := 6) dX9_breaks_154 (by decide) ?_
                refine R_iload_n (pc := 156) dX9_breaks_156 rfl rfl ?_
                refine R_imul (pc := 157) dX9_breaks_157 ?_
                have r60 : inR (6 * (nI k)) 0 42 := inR_mulc (c := 6) (l := 0) (h := 42) 6 (by decide) (show inR (nI k) 0 7 from hk7r) (by decide) (by decide)
                have e61 := ti_mulc (c := 6) (l := 0) (h := 42) 6 (by decide) (show inR (nI k) 0 7 from hk7r) (by decide) (by decide)
                refine k_X9_218 (pc := 158) (ge_X9_isOf _ j59 k hV45 (by omega) (by omega)) rfl (c_140 _) (by decide) (Nat.le_refl _) (Nat.le_refl _) (Nat.le_of_ble_eq_true rfl) dX9_breaks_158 (fun x w2 h => ?_)
                rcases h with ⟨rfl, ⟨hf62, rfl⟩ | ⟨hf62, rfl⟩⟩
                · skip
                  refine R_ifeq (pc := 161) 176 dX9_breaks_161 (by decide) (fun h => absurd h (by decide)) (fun _ => ?_)
                  refine R_iload (pc := 164) dX9_breaks_164 rfl ?_
                  refine R_ifeq (pc := 166) 176 dX9_breaks_166 (by decide) (fun h => absurd h (by decide)) (fun _ => ?_)
                  refine R_iconst (pc := 169) (v := 1) dX9_breaks_169 (by decide) ?_
                  refine R_iload (pc := 170) dX9_breaks_170 rfl ?_
                  refine R_ishl (pc := 172) dX9_breaks_172 ?_
                  have r65 : inR (1 <<< ((nI j59) &&& 31)) 0 1048575 := shl20 hrg59
                  refine R_goto (pc := 173) 177 dX9_breaks_173 (by decide) ?_
                  refine R_ior (pc := 177) dX9_breaks_177 ?_
                  refine st_6_3_i_i (pc := 178) dX9_breaks_178 ?_
                  refine inc_6_4_1_i (pc := 179) dX9_breaks_179 ?_
                  have r66 : inR ((nI j59) + 1) 1 20 := inR_add (show inR (nI j59) 0 19 from hrg59) (show inR 1 1 1 from (inR_self _)) (by decide) (by decide)
                  have e67 := ti_add (l := 1) (h := 20) (show inR (nI j59) 0 19 from hrg59) (show inR 1 1 1 from (inR_self _)) (by decide) (by decide)
                  refine R_goto (pc := 182) 59 dX9_breaks_182 (by decide) ?_
                  rw [nI_1]
                  exact ih59 (j59 + 1) _ _ (by omega) (by omega) (bs_t (K := (fun c => decide (c < TMn σ) && (bfM σx46 k c && (ouX (XM σx46) (σx46.2.2.1 172 (6 * k + 4)) (σx46.2.2.1 172 (6 * k + 5)) c)))) hX59_0 (an_t (decide_eq_true hjt) (show bfM σx46 k j59 = true from hf62) (ou_t (by have q : (σx46.2.2.1 172 (Int32.toNatClampNeg ((6 * (nI k)) + 5))).toInt < (σx46.2.2.1 165 (Int32.toNatClampNeg (nI j59))).toInt ∨ (σx46.2.2.1 166 (Int32.toNatClampNeg (nI j59))).toInt < (σx46.2.2.1 172 (Int32.toNatClampNeg ((6 * (nI k)) + 4))).toInt := (by have q0 := e2; have q1 := ti_in h3; have q2 := e7; have q3 := e9; have q4 := e55; have q5 := e57; have q6 := e61; have q7 := e67; have q8 := ti_eq b29_11; have q9 := ti_nle b65_51; have q10 := ti_lt b90_59; have q11 := ti_in (iv_14047 hI); have q12 := ti_in r1; have q13 := ti_in hk7r; have q14 := ti_in r60; have q15 := ti_in r8; have q16 := ti_in hrg59; have q17 := ti_in (tm_in (σx46.1 14000) (σx46.1 14013) (σx46.2.2.1 148)); have q18 := ti_in r56; have q19 := ti_in r65; have q20 := ti_in r66; have z0 : (-1 : Int32).toInt = -1 := (by decide); have z1 : (0 : Int32).toInt = 0 := (by decide); have z2 : (1 : Int32).toInt = 1 := (by decide); have z3 : (1048575 : Int32).toInt = 1048575 := (by decide); have z4 : (14000 : Int32).toInt = 14000 := (by decide); have z5 : (14013 : Int32).toInt = 14013 := (by decide); have z6 : (148 : Int32).toInt = 148 := (by decide); have z7 : (165 : Int32).toInt = 165 := (by decide); have z8 : (172 : Int32).toInt = 172 := (by decide); have z9 : (19 : Int32).toInt = 19 := (by decide); have z10 : (20 : Int32).toInt = 20 := (by decide); have z11 : (3 : Int32).toInt = 3 := (by decide); have z12 : (42 : Int32).toInt = 42 := (by decide); have z13 : (45 : Int32).toInt = 45 := (by decide); have z14 : (47 : Int32).toInt = 47 := (by decide); have z15 : (5 : Int32).toInt = 5 := (by decide); have z16 : (6 : Int32).toInt = 6 := (by decide); have z17 : (7 : Int32).toInt = 7 := (by decide); have z18 : (8 : Int32).toInt = 8 := (by decide); omega); rw [(idx6m (show k < 8 by omega)).2.2.1, (idx6m (show k < 8 by omega)).2.2.2.1, nI_clamp (show j59 < 2 ^ 31 by omega)] at q; exact q)))) hjt
                · skip
                  refine R_ifeq (pc := 161) 176 dX9_breaks_161 (by decide) (fun _ => ?_) (fun h => absurd (by decide) h)
                  refine R_iconst (pc := 176) (v := 0) dX9_breaks_176 (by decide) ?_
                  refine R_ior (pc := 177) dX9_breaks_177 ?_
                  refine st_6_3_i_i (pc := 178) dX9_breaks_178 ?_
                  refine inc_6_4_1_i (pc := 179) dX9_breaks_179 ?_
                  have r69 : inR ((nI j59) + 1) 1 20 := inR_add (show inR (nI j59) 0 19 from hrg59) (show inR 1 1 1 from (inR_self _)) (by decide) (by decide)
                  have e70 := ti_add (l := 1) (h := 20) (show inR (nI j59) 0 19 from hrg59) (show inR 1 1 1 from (inR_self _)) (by decide) (by decide)
                  refine R_goto (pc := 182) 59 dX9_breaks_182 (by decide) ?_
                  rw [nI_1]
                  exact ih59 (j59 + 1) _ _ (by omega) (by omega) (bs_o (K := (fun c => decide (c < TMn σ) && (bfM σx46 k c && (ouX (XM σx46) (σx46.2.2.1 172 (6 * k + 4)) (σx46.2.2.1 172 (6 * k + 5)) c)))) hX59_0 (an_2 (show bfM σx46 k j59 = false from hf62))) hjt
              · skip
                refine R_aload_n (pc := 93) dX9_breaks_93 rfl rfl ?_
                refine g_X9_96 (pc := 94) (v := .ref 166) rfl dX9_breaks_94 (c_140 _) rfl ?_
                refine R_iload (pc := 97) dX9_breaks_97 rfl ?_
                have hx71 : vp_in (nI j59) 20 := (vp_in_nI (by omega) (by decide))
                refine R_iaload (pc := 99) dX9_breaks_99 (c_166 _) hx71 ?_
                refine R_aload_n (pc := 100) dX9_breaks_100 rfl rfl ?_
                refine g_X9_114 (pc := 101) (v := .ref 172) rfl dX9_breaks_101 (c_140 _) rfl ?_
                refine R_bipush (pc := 104) (v := 6) dX9_breaks_104 (by decide) ?_
                refine R_iload_n (pc := 106) dX9_breaks_106 rfl rfl ?_
                refine R_imul (pc := 107) dX9_breaks_107 ?_
                have r72 : inR (6 * (nI k)) 0 42 := inR_mulc (c := 6) (l := 0) (h := 42) 6 (by decide) (show inR (nI k) 0 7 from hk7r) (by decide) (by decide)
                have e73 := ti_mulc (c := 6) (l := 0) (h := 42) 6 (by decide) (show inR (nI k) 0 7 from hk7r) (by decide) (by decide)
                refine R_iconst (pc := 108) (v := 4) dX9_breaks_108 (by decide) ?_
                refine R_iadd (pc := 109) dX9_breaks_109 ?_
                have r74 : inR ((6 * (nI k)) + 4) 4 46 := inR_add (show inR (6 * (nI k)) 0 42 from r72) (show inR 4 4 4 from (inR_self _)) (by decide) (by decide)
                have e75 := ti_add (l := 4) (h := 46) (show inR (6 * (nI k)) 0 42 from r72) (show inR 4 4 4 from (inR_self _)) (by decide) (by decide)
                have hx76 : vp_in ((6 * (nI k)) + 4) 48 := (vp_ti (by have q0 := e2; have q1 := ti_in h3; have q2 := e7; have q3 := e9; have q4 := e55; have q5 := e57; have q6 := e73; have q7 := e75; have q8 := ti_eq b29_11; have q9 := ti_nle b65_51; have q10 := ti_nlt b90_59; have q11 := ti_in (iv_14047 hI); have q12 := ti_in r1; have q13 := ti_in hk7r; have q14 := ti_in r72; have q15 := ti_in r8; have q16 := ti_in hrg59; have q17 := ti_in (tm_in (σx46.1 14000) (σx46.1 14013) (σx46.2.2.1 148)); have q18 := ti_in r56; have q19 := ti_in r74; have z0 : (-1 : Int32).toInt = -1 := (by decide); have z1 : (0 : Int32).toInt = 0 := (by decide); have z2 : (1 : Int32).toInt = 1 := (by decide); have z3 : (14000 : Int32).toInt = 14000 := (by decide); have z4 : (14013 : Int32).toInt = 14013 := (by decide); have z5 : (148 : Int32).toInt = 148 := (by decide); have z6 : (165 : Int32).toInt = 165 := (by decide); have z7 : (172 : Int32).toInt = 172 := (by decide); have z8 : (19 : Int32).toInt = 19 := (by decide); have z9 : (20 : Int32).toInt = 20 := (by decide); have z10 : (3 : Int32).toInt = 3 := (by decide); have z11 : (4 : Int32).toInt = 4 := (by decide); have z12 : (42 : Int32).toInt = 42 := (by decide); have z13 : (45 : Int32).toInt = 45 := (by decide); have z14 : (46 : Int32).toInt = 46 := (by decide); have z15 : (47 : Int32).toInt = 47 := (by decide); have z16 : (5 : Int32).toInt = 5 := (by decide); have z17 : (6 : Int32).toInt = 6 := (by decide); have z18 : (7 : Int32).toInt = 7 := (by decide); have z19 : (8 : Int32).toInt = 8 := (by decide); omega) (by have q0 := e2; have q1 := ti_in h3; have q2 := e7; have q3 := e9; have q4 := e55; have q5 := e57; have q6 := e73; have q7 := e75; have q8 := ti_eq b29_11; have q9 := ti_nle b65_51; have q10 := ti_nlt b90_59; have q11 := ti_in (iv_14047 hI); have q12 := ti_in r1; have q13 := ti_in hk7r; have q14 := ti_in r72; have q15 := ti_in r8; have q16 := ti_in hrg59; have q17 := ti_in (tm_in (σx46.1 14000) (σx46.1 14013) (σx46.2.2.1 148)); have q18 := ti_in r56; have q19 := ti_in r74; have z0 : (-1 : Int32).toInt = -1 := (by decide); have z1 : (0 : Int32).toInt = 0 := (by decide); have z2 : (1 : Int32).toInt = 1 := (by decide); have z3 : (14000 : Int32).toInt = 14000 := (by decide); have z4 : (14013 : Int32).toInt = 14013 := (by decide); have z5 : (148 : Int32).toInt = 148 := (by decide); have z6 : (165 : Int32).toInt = 165 := (by decide); have z7 : (172 : Int32).toInt = 172 := (by decide); have z8 : (19 : Int32).toInt = 19 := (by decide); have z9 : (20 : Int32).toInt = 20 := (by decide); have z10 : (3 : Int32).toInt = 3 := (by decide); have z11 : (4 : Int32).toInt = 4 := (by decide); have z12 : (42 : Int32).toInt = 42 := (by decide); have z13 : (45 : Int32).toInt = 45 := (by decide); have z14 : (46 : Int32).toInt = 46 := (by decide); have z15 : (47 : Int32).toInt = 47 := (by decide); have z16 : (5 : Int32).toInt = 5 := (by decide); have z17 : (6 : Int32).toInt = 6 := (by decide); have z18 : (7 : Int32).toInt = 7 := (by decide); have z19 : (8 : Int32).toInt = 8 := (by decide); omega))
                refine R_iaload (pc := 110) dX9_breaks_110 (c_172 _) hx76 ?_
                refine R_icge (pc := 111) 118 dX9_breaks_111 (by decide) (fun b111_77 => ?_) (fun b111_77 => ?_)
                · skip
                  refine R_iconst (pc := 118) (v := 0) dX9_breaks_118 (by decide) ?_
                  refine R_goto (pc := 119) 148 dX9_breaks_119 (by decide) ?_
                  refine st_6_5_i_i (pc := 148) dX9_breaks_148 ?_
                  refine R_iload_n (pc := 150) dX9_breaks_150 rfl rfl ?_
                  refine R_aload_n (pc := 151) dX9_breaks_151 rfl rfl ?_
                  refine R_iload (pc := 152) dX9_breaks_152 rfl ?_
                  refine R_bipush (pc := 154) (v := 6) dX9_breaks_154 (by decide) ?_
                  refine R_iload_n (pc := 156) dX9_breaks_156 rfl rfl ?_
                  refine R_imul (pc := 157) dX9_breaks_157 ?_
                  have r78 : inR (6 * (nI k)) 0 42 := inR_mulc (c := 6) (l := 0) (h := 42) 6 (by decide) (show inR (nI k) 0 7 from hk7r) (by decide) (by decide)
                  have e79 := ti_mulc (c := 6) (l := 0) (h := 42) 6 (by decide) (show inR (nI k) 0 7 from hk7r) (by decide) (by decide)
                  refine k_X9_218 (pc := 158) (ge_X9_isOf _ j59 k hV45 (by omega) (by omega)) rfl (c_140 _) (by decide) (Nat.le_refl _) (Nat.le_refl _) (Nat.le_of_ble_eq_true rfl) dX9_breaks_158 (fun x w2 h => ?_)
                  rcases h with ⟨rfl, ⟨hf80, rfl⟩ | ⟨hf80, rfl⟩⟩
                  · skip
                    refine R_ifeq (pc := 161) 176 dX9_breaks_161 (by decide) (fun h => absurd h (by decide)) (fun _ => ?_)
                    refine R_iload (pc := 164) dX9_breaks_164 rfl ?_
                    refine R_ifeq (pc := 166) 176 dX9_breaks_166 (by decide) (fun _ => ?_) (fun h => absurd (by decide) h)
                    refine R_iconst (pc := 176) (v := 0) dX9_breaks_176 (by decide) ?_
                    refine R_ior (pc := 177) dX9_breaks_177 ?_
                    refine st_6_3_i_i (pc := 178) dX9_breaks_178 ?_
                    refine inc_6_4_1_i (pc := 179) dX9_breaks_179 ?_
                    have r83 : inR ((nI j59) + 1) 1 20 := inR_add (show inR (nI j59) 0 19 from hrg59) (show inR 1 1 1 from (inR_self _)) (by decide) (by decide)
                    have e84 := ti_add (l := 1) (h := 20) (show inR (nI j59) 0 19 from hrg59) (show inR 1 1 1 from (inR_self _)) (by decide) (by decide)
                    refine R_goto (pc := 182) 59 dX9_breaks_182 (by decide) ?_
                    rw [nI_1]
                    exact ih59 (j59 + 1) _ _ (by omega) (by omega) (bs_o (K := (fun c => decide (c < TMn σ) && (bfM σx46 k c && (ouX (XM σx46) (σx46.2.2.1 172 (6 * k + 4)) (σx46.2.2.1 172 (6 * k + 5)) c)))) hX59_0 (an_3 (ou_f (by have q : (σx46.2.2.1 165 (Int32.toNatClampNeg (nI j59))).toInt ≤ (σx46.2.2.1 172 (Int32.toNatClampNeg ((6 * (nI k)) + 5))).toInt := (by have q0 := e2; have q1 := ti_in h3; have q2 := e7; have q3 := e9; have q4 := e55; have q5 := e57; have q6 := e73; have q7 := e75; have q8 := e79; have q9 := e84; have q10 := ti_eq b29_11; have q11 := ti_nle b65_51; have q12 := ti_nlt b90_59; have q13 := ti_le b111_77; have q14 := ti_in (iv_14047 hI); have q15 := ti_in r1; have q16 := ti_in hk7r; have q17 := ti_in r78; have q18 := ti_in r8; have q19 := ti_in hrg59; have q20 := ti_in (tm_in (σx46.1 14000) (σx46.1 14013) (σx46.2.2.1 148)); have q21 := ti_in r56; have q22 := ti_in r74; have q23 := ti_in r83; have z0 : (-1 : Int32).toInt = -1 := (by decide); have z1 : (0 : Int32).toInt = 0 := (by decide); have z2 : (1 : Int32).toInt = 1 := (by decide); have z3 : (14000 : Int32).toInt = 14000 := (by decide); have z4 : (14013 : Int32).toInt = 14013 := (by decide); have z5 : (148 : Int32).toInt = 148 := (by decide); have z6 : (165 : Int32).toInt = 165 := (by decide); have z7 : (166 : Int32).toInt = 166 := (by decide); have z8 : (172 : Int32).toInt = 172 := (by decide); have z9 : (19 : Int32).toInt = 19 := (by decide); have z10 : (20 : Int32).toInt = 20 := (by decide); have z11 : (3 : Int32).toInt = 3 := (by decide); have z12 : (4 : Int32).toInt = 4 := (by decide); have z13 : (42 : Int32).toInt = 42 := (by decide); have z14 : (45 : Int32).toInt = 45 := (by decide); have z15 : (46 : Int32).toInt = 46 := (by decide); have z16 : (47 : Int32).toInt = 47 := (by decide); have z17 : (5 : Int32).toInt = 5 := (by decide); have z18 : (6 : Int32).toInt = 6 := (by decide); have z19 : (7 : Int32).toInt = 7 := (by decide); have z20 : (8 : Int32).toInt = 8 := (by decide); omega); rw [(idx6m (show k < 8 by omega)).2.2.2.1, nI_clamp (show j59 < 2 ^ 31 by omega)] at q; exact q) (by have q : (σx46.2.2.1 172 (Int32.toNatClampNeg ((6 * (nI k)) + 4))).toInt ≤ (σx46.2.2.1 166 (Int32.toNatClampNeg (nI j59))).toInt := (by have q0 := e2; have q1 := ti_in h3; have q2 := e7; have q3 := e9; have q4 := e55; have q5 := e57; have q6 := e73; have q7 := e75; have q8 := e79; have q9 := e84; have q10 := ti_eq b29_11; have q11 := ti_nle b65_51; have q12 := ti_nlt b90_59; have q13 := ti_le b111_77; have q14 := ti_in (iv_14047 hI); have q15 := ti_in r1; have q16 := ti_in hk7r; have q17 := ti_in r78; have q18 := ti_in r8; have q19 := ti_in hrg59; have q20 := ti_in (tm_in (σx46.1 14000) (σx46.1 14013) (σx46.2.2.1 148)); have q21 := ti_in r56; have q22 := ti_in r74; have q23 := ti_in r83; have z0 : (-1 : Int32).toInt = -1 := (by decide); have z1 : (0 : Int32).toInt = 0 := (by decide); have z2 : (1 : Int32).toInt = 1 := (by decide); have z3 : (14000 : Int32).toInt = 14000 := (by decide); have z4 : (14013 : Int32).toInt = 14013 := (by decide); have z5 : (148 : Int32).toInt = 148 := (by decide); have z6 : (165 : Int32).toInt = 165 := (by decide); have z7 : (166 : Int32).toInt = 166 := (by decide); have z8 : (172 : Int32).toInt = 172 := (by decide); have z9 : (19 : Int32).toInt = 19 := (by decide); have z10 : (20 : Int32).toInt = 20 := (by decide); have z11 : (3 : Int32).toInt = 3 := (by decide); have z12 : (4 : Int32).toInt = 4 := (by decide); have z13 : (42 : Int32).toInt = 42 := (by decide); have z14 : (45 : Int32).toInt = 45 := (by decide); have z15 : (46 : Int32).toInt = 46 := (by decide); have z16 : (47 : Int32).toInt = 47 := (by decide); have z17 : (5 : Int32).toInt = 5 := (by decide); have z18 : (6 : Int32).toInt = 6 := (by decide); have z19 : (7 : Int32).toInt = 7 := (by decide); have z20 : (8 : Int32).toInt = 8 := (by decide); omega); rw [(idx6m (show k < 8 by omega)).2.2.1, nI_clamp (show j59 < 2 ^ 31 by omega)] at q; exact q)))) hjt
                  · skip
                    refine R_ifeq (pc := 161) 176 dX9_breaks_161 (by decide) (fun _ => ?_) (fun h => absurd (by decide) h)
                    refine R_iconst (pc := 176) (v := 0) dX9_breaks_176 (by decide) ?_
                    refine R_ior (pc := 177) dX9_breaks_177 ?_
                    refine st_6_3_i_i (pc := 178) dX9_breaks_178 ?_
                    refine inc_6_4_1_i (pc := 179) dX9_breaks_179 ?_
                    have r86 : inR ((nI j59) + 1) 1 20 := inR_add (show inR (nI j59) 0 19 from hrg59) (show inR 1 1 1 from (inR_self _)) (by decide) (by decide)
                    have e87 := ti_add (l := 1) (h := 20) (show inR (nI j59) 0 19 from hrg59) (show inR 1 1 1 from (inR_self _)) (by decide) (by decide)
                    refine R_goto (pc := 182) 59 dX9_breaks_182 (by decide) ?_
                    rw [nI_1]
                    exact ih59 (j59 + 1) _ _ (by omega) (by omega) (bs_o (K := (fun c => decide (c < TMn σ) && (bfM σx46 k c && (ouX (XM σx46) (σx46.2.2.1 172 (6 * k + 4)) (σx46.2.2.1 172 (6 * k + 5)) c)))) hX59_0 (an_2 (show bfM σx46 k j59 = false from hf80))) hjt
                · skip
                  refine R_iconst (pc := 114) (v := 1) dX9_breaks_114 (by decide) ?_
                  refine R_goto (pc := 115) 148 dX9_breaks_115 (by decide) ?_
                  refine st_6_5_i_i (pc := 148) dX9_breaks_148 ?_
                  refine R_iload_n (pc := 150) dX9_breaks_150 rfl rfl ?_
                  refine R_aload_n (pc := 151) dX9_breaks_151 rfl rfl ?_
                  refine R_iload (pc := 152) dX9_breaks_152 rfl ?_
                  refine R_bipush (pc := 154) (v := 6) dX9_breaks_154 (by decide) ?_
                  refine R_iload_n (pc := 156) dX9_breaks_156 rfl rfl ?_
                  refine R_imul (pc := 157) dX9_breaks_157 ?_
                  have r88 : inR (6 * (nI k)) 0 42 := inR_mulc (c := 6) (l := 0) (h := 42) 6 (by decide) (show inR (nI k) 0 7 from hk7r) (by decide) (by decide)
                  have e89 := ti_mulc (c := 6) (l := 0) (h := 42) 6 (by decide) (show inR (nI k) 0 7 from hk7r) (by decide) (by decide)
                  refine k_X9_218 (pc := 158) (ge_X9_isOf _ j59 k hV45 (by omega) (by omega)) rfl (c_140 _) (by decide) (Nat.le_refl _) (Nat.le_refl _) (Nat.le_of_ble_eq_true rfl) dX9_breaks_158 (fun x w2 h => ?_)
                  rcases h with ⟨rfl, ⟨hf90, rfl⟩ | ⟨hf90, rfl⟩⟩
                  · skip
                    refine R_ifeq (pc := 161) 176 dX9_breaks_161 (by decide) (fun h => absurd h (by decide)) (fun _ => ?_)
                    refine R_iload (pc := 164) dX9_breaks_164 rfl ?_
                    refine R_ifeq (pc := 166) 176 dX9_breaks_166 (by decide) (fun h => absurd h (by decide)) (fun _ => ?_)
                    refine R_iconst (pc := 169) (v := 1) dX9_breaks_169 (by decide) ?_
                    refine R_iload (pc := 170) dX9_breaks_170 rfl ?_
                    refine R_ishl (pc := 172) dX9_breaks_172 ?_
                    have r93 : inR (1 <<< ((nI j59) &&& 31)) 0 1048575 := shl20 hrg59
                    refine R_goto (pc := 173) 177 dX9_breaks_173 (by decide) ?_
                    refine R_ior (pc := 177) dX9_breaks_177 ?_
                    refine st_6_3_i_i (pc := 178) dX9_breaks_178 ?_
                    refine inc_6_4_1_i (pc := 179) dX9_breaks_179 ?_
                    have r94 : inR ((nI j59) + 1) 1 20 := inR_add (show inR (nI j59) 0 19 from hrg59) (show inR 1 1 1 from (inR_self _)) (by decide) (by decide)
                    have e95 := ti_add (l := 1) (h := 20) (show inR (nI j59) 0 19 from hrg59) (show inR 1 1 1 from (inR_self _)) (by decide) (by decide)
                    refine R_goto (pc := 182) 59 dX9_breaks_182 (by decide) ?_
                    rw [nI_1]
                    exact ih59 (j59 + 1) _ _ (by omega) (by omega) (bs_t (K := (fun c => decide (c < TMn σ) && (bfM σx46 k c && (ouX (XM σx46) (σx46.2.2.1 172 (6 * k + 4)) (σx46.2.2.1 172 (6 * k + 5)) c)))) hX59_0 (an_t (decide_eq_true hjt) (show bfM σx46 k j59 = true from hf90) (ou_t (by have q : (σx46.2.2.1 172 (Int32.toNatClampNeg ((6 * (nI k)) + 5))).toInt < (σx46.2.2.1 165 (Int32.toNatClampNeg (nI j59))).toInt ∨ (σx46.2.2.1 166 (Int32.toNatClampNeg (nI j59))).toInt < (σx46.2.2.1 172 (Int32.toNatClampNeg ((6 * (nI k)) + 4))).toInt := (by have q0 := e2; have q1 := ti_in h3; have q2 := e7; have q3 := e9; have q4 := e55; have q5 := e57; have q6 := e73; have q7 := e75; have q8 := e89; have q9 := e95; have q10 := ti_eq b29_11; have q11 := ti_nle b65_51; have q12 := ti_nlt b90_59; have q13 := ti_nle b111_77; have q14 := ti_in (iv_14047 hI); have q15 := ti_in r1; have q16 := ti_in hk7r; have q17 := ti_in r88; have q18 := ti_in r8; have q19 := ti_in hrg59; have q20 := ti_in (tm_in (σx46.1 14000) (σx46.1 14013) (σx46.2.2.1 148)); have q21 := ti_in r56; have q22 := ti_in r74; have q23 := ti_in r93; have q24 := ti_in r94; have z0 : (-1 : Int32).toInt = -1 := (by decide); have z1 : (0 : Int32).toInt = 0 := (by decide); have z2 : (1 : Int32).toInt = 1 := (by decide); have z3 : (1048575 : Int32).toInt = 1048575 := (by decide); have z4 : (14000 : Int32).toInt = 14000 := (by decide); have z5 : (14013 : Int32).toInt = 14013 := (by decide); have z6 : (148 : Int32).toInt = 148 := (by decide); have z7 : (165 : Int32).toInt = 165 := (by decide); have z8 : (166 : Int32).toInt = 166 := (by decide); have z9 : (172 : Int32).toInt = 172 := (by decide); have z10 : (19 : Int32).toInt = 19 := (by decide); have z11 : (20 : Int32).toInt = 20 := (by decide); have z12 : (3 : Int32).toInt = 3 := (by decide); have z13 : (4 : Int32).toInt = 4 := (by decide); have z14 : (42 : Int32).toInt = 42 := (by decide); have z15 : (45 : Int32).toInt = 45 := (by decide); have z16 : (46 : Int32).toInt = 46 := (by decide); have z17 : (47 : Int32).toInt = 47 := (by decide); have z18 : (5 : Int32).toInt = 5 := (by decide); have z19 : (6 : Int32).toInt = 6 := (by decide); have z20 : (7 : Int32).toInt = 7 := (by decide); have z21 : (8 : Int32).toInt = 8 := (by decide); omega); rw [(idx6m (show k < 8 by omega)).2.2.1, (idx6m (show k < 8 by omega)).2.2.2.1, nI_clamp (show j59 < 2 ^ 31 by omega)] at q; exact q)))) hjt
                  · skip
                    refine R_ifeq (pc := 161) 176 dX9_breaks_161 (by decide) (fun _ => ?_) (fun h => absurd (by decide) h)
                    refine R_iconst (pc := 176) (v := 0) dX9_breaks_176 (by decide) ?_
                    refine R_ior (pc := 177) dX9_breaks_177 ?_
                    refine st_6_3_i_i (pc := 178) dX9_breaks_178 ?_
                    refine inc_6_4_1_i (pc := 179) dX9_breaks_179 ?_
                    have r97 : inR ((nI j59) + 1) 1 20 := inR_add (show inR (nI j59) 0 19 from hrg59) (show inR 1 1 1 from (inR_self _)) (by decide) (by decide)
                    have e98 := ti_add (l := 1) (h := 20) (show inR (nI j59) 0 19 from hrg59) (show inR 1 1 1 from (inR_self _)) (by decide) (by decide)
                    refine R_goto (pc := 182) 59 dX9_breaks_182 (by decide) ?_
                    rw [nI_1]
                    exact ih59 (j59 + 1) _ _ (by omega) (by omega) (bs_o (K := (fun c => decide (c < TMn σ) && (bfM σx46 k c && (ouX (XM σx46) (σx46.2.2.1 172 (6 * k + 4)) (σx46.2.2.1 172 (6 * k + 5)) c)))) hX59_0 (an_2 (show bfM σx46 k j59 = false from hf90))) hjt
        exact HL59 20 0 _ _ (by omega) (by omega) rfl (Nat.zero_le _)
      · skip
        refine R_ifne (pc := 48) 54 dX9_breaks_48 (by decide) (fun h => absurd (by decide) h) (fun _ => ?_)
        refine R_bipush (pc := 51) (v := (-4)) dX9_breaks_51 (by decide) ?_
        exact R_iret (pc := 53) dX9_breaks_53 rfl rfl (Nat.zero_le _) (Nat.zero_le _) ⟨_, rfl, brM_of hk7 (Or.inr (Or.inr (Or.inl ⟨inB_t h3, (decide_eq_true (by have q := b29_11; rw [(idx6m (show k < 8 by omega)).2.1] at q; exact q)), hBL, rfl⟩))), _, rfl, hV45, hW48⟩
  · skip
    refine R_ifne (pc := 11) 17 dX9_breaks_11 (by decide) (fun h => absurd (by decide) h) (fun _ => ?_)
    refine R_bipush (pc := 14) (v := (-2)) dX9_breaks_14 (by decide) ?_
    exact R_iret (pc := 16) dX9_breaks_16 rfl rfl (Nat.zero_le _) (Nat.zero_le _) ⟨_, rfl, Or.inl ⟨inB_f h3, rfl⟩, _, rfl, hI, (show Cor σ σ from Cor.rfl' σ)⟩
theorem cno_X8_card {σ σ2 : Sg} {a b n k : Int32} {p : Int64} {s t : Int32} (h : CoK (bif K_card a b n k s t (σ.1 110) then (E_X8_card σ a b n k p s t) else σ) σ2) : FNo σ σ2 := fno_bik (fno_i 110 _ (fno_a 9 _ (fno_a 8 _ (fno_a 7 _ (fno_b 6 _ (fno_a 5 _ (fno_a 4 _ (fno_a 3 _ (fno_a 2 _ (fno_0 σ) ) ) ) )) ) ) ) (by decide)) h
theorem cno_X8_caption {σ σ2 : Sg} {c : Int32} {p : Int64} {n : Int32} (h : CoK (bif K_cap (thC σ c) p n then (E_X8_caption σ c p n) else σ) σ2) : FNo σ σ2 := fno_bik (fno_a 11 _ (fno_b 10 _ (fno_0 σ)) ) h
theorem cno_X8_days {σ σ2 : Sg} {a : Int32} (h : Cor (bif K_days (σ.1 111) a then (E_X8_days σ a) else σ) σ2) : FNo σ σ2 := fno_bif (fno_i 111 _ (fno_0 σ) (by decide)) h
theorem cno_X8_feature {σ σ2 : Sg} {f a b : Int32} (h : Cor (bif K_feature f a b then (E_X8_feature σ f a b) else σ) σ2) : FNo σ σ2 := fno_bif (fno_a 60 _ (fno_a 59 _ (fno_0 σ) ) ) h
theorem cno_X8_back {σ σ2 : Sg} {f a b : Int32} (h : Cor (bif K_back f a b then (E_X8_back σ f a b) else σ) σ2) : FNo σ σ2 := fno_bif (fno_a 62 _ (fno_a 61 _ (fno_0 σ) ) ) h
theorem cno_X8_landmark {σ σ2 : Sg} {a b : Int32} (h : Cor (bif K_landmark a b then (E_X8_landmark σ a b) else σ) σ2) : FNo σ σ2 := fno_bif (fno_a 94 _ (fno_0 σ) ) h
theorem cno_X8_walls {σ σ2 : Sg} {a : Int64} (h : Cor (E_X8_walls σ a) σ2) : FNo σ σ2 := fno_t (fno_j 9301 _ (fno_0 σ)) (fno_cor h)
theorem cno_X8_shows {σ σ2 : Sg} {c f v : Int32} (h : Cor (bif K_shows (thC σ c) f v then (E_X8_shows σ c f v) else σ) σ2) : FNo σ σ2 := fno_bif (fno_a (64 + (Int32.toNatClampNeg c)) _ (fno_0 σ) ) h
theorem cno_X8_later {σ σ2 : Sg} {a b : Int32} (h : Cor (bif K_later (ttC σ a b) (σ.1 5809) then (E_X8_later σ a b) else σ) σ2) : FNo σ σ2 := fno_bif (fno_i 5809 _ (fno_a 85 _ (fno_a 84 _ (fno_0 σ) ) ) (by decide)) h
theorem cno_X8_unview {σ σ2 : Sg} {c : Int32} (h : Cor (bif thC σ c then (E_X8_unview σ c) else σ) σ2) : FNo σ σ2 := fno_bif (fno_a 116 _ (fno_0 σ) ) h
theorem cno_X8_view {σ σ2 : Sg} {c l9 : Int32} (h : Cor (bif K_view (thC σ c) (inV (fun k => σ.2.2.1 (96 + (Int32.toNatClampNeg c)) (Int32.toNatClampNeg (nI k))) l9 (Int32.toNatClampNeg (σ.2.2.1 116 (Int32.toNatClampNeg c)))) l9 (σ.2.2.1 116 (Int32.toNatClampNeg c)) then (E_X8_view σ c l9) else σ) σ2) : FNo σ σ2 := fno_bif (fno_a 116 _ (fno_a (96 + (Int32.toNatClampNeg c)) _ (fno_0 σ) ) ) h
theorem cno_X8_write {σ σ2 : Sg} {p : Int64} {n : Int32} (h : Cor (bif K_write n (σ.1 11701) then (E_X8_write σ p n) else σ) σ2) : FNo σ σ2 := fno_bif (fno_i 11701 _ (fno_a 118 _ (fno_0 σ) ) (by decide)) h
theorem cno_X8_erase {σ σ2 : Sg}  (h : Cor (E_X8_erase σ) σ2) : FNo σ σ2 := fno_t (fno_i 11701 _ (fno_0 σ) (by decide)) (fno_cor h)
theorem cno_X9_card {σ σ2 : Sg} {a b n k : Int32} {p : Int64} {s t : Int32} (h : Cor (bif K_card a b n k s t (σ.1 14000) then (E_X9_card σ a b n k p s t) else σ) σ2) : FNo σ σ2 := fno_bif (fno_i 14000 _ (fno_a 158 _ (fno_a 148 _ (fno_a 147 _ (fno_a 146 _ (fno_b 145 _ (fno_a 144 _ (fno_a 143 _ (fno_a 142 _ (fno_a 141 _ (fno_0 σ) ) ) ) )) ) ) ) ) (by decide)) h
theorem cno_X9_caption {σ σ2 : Sg} {c : Int32} {p : Int64} {n : Int32} (h : Cor (bif K_cap (thM σ c) p n then (E_X9_caption σ c p n) else σ) σ2) : FNo σ σ2 := fno_bif (fno_a 149 _ (fno_a 150 _ (fno_0 σ) ) ) h
theorem cno_X9_days {σ σ2 : Sg} {a : Int32} (h : Cor (bif K_days (σ.1 14011) a then (E_X9_days σ a) else σ) σ2) : FNo σ σ2 := fno_bif (fno_i 14011 _ (fno_0 σ) (by decide)) h
theorem cno_X9_feature {σ σ2 : Sg} {f a b : Int32} (h : Cor (bif K_feature f a b then (E_X9_feature σ f a b) else σ) σ2) : FNo σ σ2 := fno_bif (fno_a 157 _ (fno_a 156 _ (fno_0 σ) ) ) h
theorem cno_X9_back {σ σ2 : Sg} {f a b : Int32} (h : Cor (bif K_back f a b then (E_X9_back σ f a b) else σ) σ2) : FNo σ σ2 := fno_bif (fno_a 160 _ (fno_a 159 _ (fno_0 σ) ) ) h
theorem cno_X9_landmark {σ σ2 : Sg} {a b : Int32} (h : Cor (bif K_landmark a b then (E_X9_landmark σ a b) else σ) σ2) : FNo σ σ2 := fno_bif (fno_a 167 _ (fno_0 σ) ) h
theorem cno_X9_walls {σ σ2 : Sg} {a : Int64} (h : Cor (E_X9_walls σ a) σ2) : FNo σ σ2 := fno_t (fno_j 14034 _ (fno_0 σ)) (fno_cor h)
theorem cno_X9_shows {σ σ2 : Sg} {c f v : Int32} (h : Cor (bif K_shows (thM σ c) f v then (E_X9_shows σ c f v) else σ) σ2) : FNo σ σ2 := fno_bif (fno_a 158 _ (fno_0 σ) ) h
theorem cno_X9_later {σ σ2 : Sg} {a b : Int32} (h : Cor (bif K_later (ttM σ a b) (σ.1 14025) then (E_X9_later σ a b) else σ) σ2) : FNo σ σ2 := fno_bif (fno_i 14025 _ (fno_a 162 _ (fno_a 161 _ (fno_0 σ) ) ) (by decide)) h
theorem cno_X9_unview {σ σ2 : Sg} {c : Int32} (h : Cor (bif thM σ c then (E_X9_unview σ c) else σ) σ2) : FNo σ σ2 := fno_bif (fno_a 168 _ (fno_0 σ) ) h
theorem cno_X9_view {σ σ2 : Sg} {c l9 : Int32} (h : Cor (bif K_view (thM σ c) (inV (fun k => σ.2.2.1 169 (Int32.toNatClampNeg ((5 * c) + (nI k)))) l9 (Int32.toNatClampNeg (σ.2.2.1 168 (Int32.toNatClampNeg c)))) l9 (σ.2.2.1 168 (Int32.toNatClampNeg c)) then (E_X9_view σ c l9) else σ) σ2) : FNo σ σ2 := fno_bif (fno_a 168 _ (fno_a 169 _ (fno_0 σ) ) ) h
theorem cno_X9_write {σ σ2 : Sg} {p : Int64} {n : Int32} (h : Cor (bif K_write n (σ.1 14037) then (E_X9_write σ p n) else σ) σ2) : FNo σ σ2 := fno_bif (fno_i 14037 _ (fno_a 170 _ (fno_0 σ) ) (by decide)) h
theorem cno_X9_erase {σ σ2 : Sg}  (h : Cor (E_X9_erase σ) σ2) : FNo σ σ2 := fno_t (fno_i 14037 _ (fno_0 σ) (by decide)) (fno_cor h)
theorem cno_X8_set {σ σ2 : Sg} {a v : Int32} (h : Cor (E_X8_set σ a v) σ2) : FNo σ σ2 := by
  refine fno_t ?_ (fno_cor h)
  have b2 : ∀ {ρ : Sg} {K : Bool}, FNo σ ρ → FNo σ (bif K then ρ else σ) := by
    intro ρ K h
    cases K
    · exact fno_0 σ
    · exact h
  unfold E_X8_set
  by_cases h0 : a = 0
  · rw [if_pos h0]; exact b2 (fno_i 1204 _ (fno_0 σ) (by decide))
  · rw [if_neg h0]
    by_cases h1 : a = 1
    · rw [if_pos h1]; exact b2 (fno_i 112 _ (fno_0 σ) (by decide))
    · rw [if_neg h1]
      by_cases h2 : a = 2
      · rw [if_pos h2]; exact b2 (fno_i 9 _ (fno_0 σ) (by decide))
      · rw [if_neg h2]; exact fno_0 σ
theorem cno_X9_set {σ σ2 : Sg} {a v : Int32} (h : Cor (E_X9_set σ a v) σ2) : FNo σ σ2 := by
  refine fno_t ?_ (fno_cor h)
  have b2 : ∀ {ρ : Sg} {K : Bool}, FNo σ ρ → FNo σ (bif K then ρ else σ) := by
    intro ρ K h
    cases K
    · exact fno_0 σ
    · exact h
  unfold E_X9_set
  by_cases h0 : a = 0
  · rw [if_pos h0]; exact b2 (fno_i 14014 _ (fno_i 14013 _ (fno_i 14012 _ (fno_0 σ) (by decide)) (by decide)) (by decide))
  · rw [if_neg h0]
    by_cases h1 : a = 1
    · rw [if_pos h1]; exact b2 (fno_i 14014 _ (fno_i 14013 _ (fno_i 14012 _ (fno_0 σ) (by decide)) (by decide)) (by decide))
    · rw [if_neg h1]
      by_cases h2 : a = 2
      · rw [if_pos h2]; exact b2 (fno_i 14014 _ (fno_i 14013 _ (fno_i 14012 _ (fno_0 σ) (by decide)) (by decide)) (by decide))
      · rw [if_neg h2]; exact fno_0 σ
theorem cno_cat8 {σ σ2 : Sg} (h : ∃ a b, (CoL (uN σ a b) σ2 ∨ CoM (uN σ a b) σ2)) : FNo σ σ2 := by
  obtain ⟨a, b, h⟩ := h
  exact fno_t (fno_n a b (fno_0 σ)) (fno_cow (h.elim col_w com_w))
theorem cno_cat9 {σ σ2 : Sg} (h : Cor σ σ2 ∨ ∃ f n, Cor (uI (uA σ 172 f) 14047 n) σ2) : FNo σ σ2 := by
  rcases h with h | ⟨f, n, h⟩
  · exact fno_cor h
  · exact fno_t (fno_i 14047 n (fno_a 172 f (fno_0 σ)) (by decide)) (fno_cor h)
