/-! methods on any state that keeps the invariant -/
def pvM (σ : Sg) (c : Int32) : Nat → Bool := fun o => !decide (nI o = c) && mtM σ c (nI o)
def cvM (σ : Sg) (c : Int32) (l n : Nat) : Nat := cntB (fun o => !decide (nI o = c) && (decide (σ.2.2.1 141 o = nI l) && mtM σ c (nI o))) n
theorem cv_cu (σ : Sg) (c : Int32) (l n : Nat) : cvM σ c l n = cuN (pvM σ c) (σ.2.2.1 141) l n := cnt_congr n (fun o _ => by
  show (!decide (nI o = c) && (decide (σ.2.2.1 141 o = nI l) && mtM σ c (nI o))) = ((!decide (nI o = c) && mtM σ c (nI o)) && decide (σ.2.2.1 141 o = nI l))
  cases decide (nI o = c) <;> cases decide (σ.2.2.1 141 o = nI l) <;> cases mtM σ c (nI o) <;> rfl)
theorem two_t {x : Int32} {n : Nat} (hn : n ≤ 20) (h : x = nI n) (h2 : (1 : Int32) < x) : decide (2 ≤ n) = true := by
  rw [h] at h2
  have := ti_lt h2
  rw [nI_toInt (by omega)] at this
  have z : (1 : Int32).toInt = 1 := by decide
  exact decide_eq_true (by omega)
theorem two_f {x : Int32} {n : Nat} (hn : n ≤ 20) (h : x = nI n) (h2 : x ≤ (1 : Int32)) : decide (2 ≤ n) = false := by
  rw [h] at h2
  have := ti_le h2
  rw [nI_toInt (by omega)] at this
  have z : (1 : Int32).toInt = 1 := by decide
  exact decide_eq_false (by omega)
set_option maxRecDepth 100000 in
set_option maxHeartbeats 40000000 in
theorem gn_X9_rivalsOf {G : vG} {l : Launch} (σ : Sg) (c : Int32) (hI : Inv σ) (hc : inR c 0 19) : Sp G l yX9_rivalsOf cX9_rivalsOf 6 (some .int) 3 0 0 [.ref 140, .int c] (WW σ) (QI (fun x w2 => ∃ σ2, w2 = WW σ2 ∧ Inv σ2 ∧ Cor σ σ2 ∧ Fq fqF σ σ2 ∧ x = nI (rvN (pvM σ c) (σ.2.2.1 141) (tm (σ.1 14000) (σ.1 14013) (σ.2.2.1 148))))) := by
  refine Sp_of_R [(some (.ref 140)), (some (.int c)), none, none, none, none] [none, none, none, none] rfl (by simp) rfl (Nat.le_of_ble_eq_true rfl) ?_
  refine R_iconst (pc := 0) (v := 0) dX9_rivalsOf_0 (by decide) ?_
  refine st_6_2_i_i (pc := 1) dX9_rivalsOf_1 ?_
  refine R_iconst (pc := 2) (v := 0) dX9_rivalsOf_2 (by decide) ?_
  refine st_6_3_i_i (pc := 3) dX9_rivalsOf_3 ?_
  have HL4 : ∀ (q j4 : Nat) (σ4 : Sg) (g2_4 : Int32) (g4_4 : Option Value) (g5_4 : Option Value), j4 + q = 4 → 0 ≤ j4 → Inv σ4 → Cor σ σ4 → g2_4 = nI (cntB (fun l => decide (2 ≤ cvM σ c l (tm (σ.1 14000) (σ.1 14013) (σ.2.2.1 148)))) j4) → Fq fqF σ σ4 → R G l yX9_rivalsOf cX9_rivalsOf 6 (some .int) 3 0 0 (QI (fun x w2 => ∃ σ2, w2 = WW σ2 ∧ Inv σ2 ∧ Cor σ σ2 ∧ Fq fqF σ σ2 ∧ x = nI (rvN (pvM σ c) (σ.2.2.1 141) (tm (σ.1 14000) (σ.1 14013) (σ.2.2.1 148))))) 4 [(some (.ref 140)), (some (.int c)), (some (.int g2_4)), (some (.int (nI j4))), g4_4, g5_4] [] (WW σ4) 0 0 := by
    intro q
    induction q with
    | zero =>
      intro j4 σ4 g2_4 g4_4 g5_4 hj hs4 hI4 hC4 hX4_0 hX4_1
      obtain rfl : j4 = 4 := by omega
      refine R_iload_n (pc := 4) dX9_rivalsOf_4 rfl rfl ?_
      refine R_iconst (pc := 5) (v := 4) dX9_rivalsOf_5 (by decide) ?_
      refine R_icge (pc := 6) 87 dX9_rivalsOf_6 (by decide) (fun _ => ?_) (fun h => absurd (by decide) h)
      refine R_iload_n (pc := 87) dX9_rivalsOf_87 rfl rfl ?_
      exact R_iret (pc := 88) dX9_rivalsOf_88 rfl rfl (Nat.zero_le _) (Nat.zero_le _) ⟨_, rfl, _, rfl, hI4, hC4, hX4_1, (hX4_0.trans (congrArg nI (cnt_congr 4 (fun l _ => by show decide (2 ≤ cvM σ c l (tm (σ.1 14000) (σ.1 14013) (σ.2.2.1 148))) = _; rw [cv_cu]))))⟩
    | succ q ih4 =>
      intro j4 σ4 g2_4 g4_4 g5_4 hj hs4 hI4 hC4 hX4_0 hX4_1
      have hrg4 : inR (nI j4) 0 3 := inR_ix hs4 (show j4 < 4 by omega) (by decide) (by decide) (by decide)
      have hlt4 : j4 < 4 := by omega
      refine R_iload_n (pc := 4) dX9_rivalsOf_4 rfl rfl ?_
      refine R_iconst (pc := 5) (v := 4) dX9_rivalsOf_5 (by decide) ?_
      refine R_icge (pc := 6) 87 dX9_rivalsOf_6 (by decide) (fun h => False.elim (by have q1 := ti_le h; have q2 := ti_in (show inR (nI j4) 0 3 from hrg4); have q3 := ti_in (show inR 4 4 4 from (inR_self _)); have z0 : (0 : Int32).toInt = 0 := (by decide);  have z1 : (3 : Int32).toInt = 3 := (by decide);  have z2 : (4 : Int32).toInt = 4 := (by decide); omega)) (fun _ => ?_)
      refine R_iconst (pc := 9) (v := 0) dX9_rivalsOf_9 (by decide) ?_
      refine st_6_4_i_i (pc := 10) dX9_rivalsOf_10 ?_
      refine R_iconst (pc := 12) (v := 0) dX9_rivalsOf_12 (by decide) ?_
      refine st_6_5_i_i (pc := 13) dX9_rivalsOf_13 ?_
      have HL15 : ∀ (q j15 : Nat) (σ15 : Sg) (g4_15 : Int32), j15 + q = 20 → 0 ≤ j15 → Inv σ15 → Cor σ σ15 → g4_15 = nI (cntB (fun o => !decide (nI o = c) && (decide (σ.2.2.1 141 o = nI j4) && mtM σ c (nI o))) j15) → Fq fqF σ σ15 → j15 ≤ (tm (σ.1 14000) (σ.1 14013) (σ.2.2.1 148)) → R G l yX9_rivalsOf cX9_rivalsOf 6 (some .int) 3 0 0 (QI (fun x w2 => ∃ σ2, w2 = WW σ2 ∧ Inv σ2 ∧ Cor σ σ2 ∧ Fq fqF σ σ2 ∧ x = nI (rvN (pvM σ c) (σ.2.2.1 141) (tm (σ.1 14000) (σ.1 14013) (σ.2.2.1 148))))) 15 [(some (.ref 140)), (some (.int c)), (some (.int g2_4)), (some (.int (nI j4))), (some (.int g4_15)), (some (.int (nI j15)))] [] (WW σ15) 0 0 := by
        intro q
        induction q with
        | zero =>
          intro j15 σ15 g4_15 hj hs15 hI15 hC15 hX15_0 hX15_1 hX15_2
          obtain rfl : j15 = 20 := by omega
          refine R_iload (pc := 15) dX9_rivalsOf_15 rfl ?_
          refine R_aload_n (pc := 17) dX9_rivalsOf_17 rfl rfl ?_
          refine k_X9_120 (pc := 18) (ge_X9_thereMany _ hI15) rfl (c_140 _) (by decide) (Nat.le_refl _) (Nat.le_refl _) (Nat.le_of_ble_eq_true rfl) dX9_rivalsOf_18 (fun x w2 h => ?_)
          obtain ⟨rfl, rfl⟩ := h
          refine R_icge (pc := 21) 67 dX9_rivalsOf_21 (by decide) (fun _ => ?_) (fun h => absurd (Int32.not_lt.mp (inR_up (tm_in (σ15.1 14000) (σ15.1 14013) (σ15.2.2.1 148)) (Int32.le_refl _) (by decide)).2) h)
          refine R_iload_n (pc := 67) dX9_rivalsOf_67 rfl rfl ?_
          refine R_iload (pc := 68) dX9_rivalsOf_68 rfl ?_
          refine R_iconst (pc := 70) (v := 1) dX9_rivalsOf_70 (by decide) ?_
          refine R_icle (pc := 71) 78 dX9_rivalsOf_71 (by decide) (fun b71_4 => ?_) (fun b71_4 => ?_)
          · skip
            refine R_iconst (pc := 78) (v := 0) dX9_rivalsOf_78 (by decide) ?_
            refine R_iadd (pc := 79) dX9_rivalsOf_79 ?_
            refine st_6_2_i_i (pc := 80) dX9_rivalsOf_80 ?_
            refine inc_6_3_1_i (pc := 81) dX9_rivalsOf_81 ?_
            have r5 : inR ((nI j4) + 1) 1 4 := inR_add (show inR (nI j4) 0 3 from hrg4) (show inR 1 1 1 from (inR_self _)) (by decide) (by decide)
            have e6 := ti_add (l := 1) (h := 4) (show inR (nI j4) 0 3 from hrg4) (show inR 1 1 1 from (inR_self _)) (by decide) (by decide)
            refine R_goto (pc := 84) 4 dX9_rivalsOf_84 (by decide) ?_
            rw [nI_1]
            exact ih4 (j4 + 1) _ _ _ _ (by omega) (by omega) hI15 hC15 (ct_f0 (f := (fun l => decide (2 ≤ cvM σ c l (tm (σ.1 14000) (σ.1 14013) (σ.2.2.1 148))))) hX4_0 (two_f (Nat.le_trans (cnt_le _ _) (tm_le _ _ _)) (show g4_15 = nI (cvM σ c j4 (tm (σ.1 14000) (σ.1 14013) (σ.2.2.1 148))) from by have q := hX15_0; rw [(show 20 = (tm (σ.1 14000) (σ.1 14013) (σ.2.2.1 148)) from tm_ex20 hX15_2)] at q; exact q) b71_4)) hX15_1
          · skip
            refine R_iconst (pc := 74) (v := 1) dX9_rivalsOf_74 (by decide) ?_
            refine R_goto (pc := 75) 79 dX9_rivalsOf_75 (by decide) ?_
            refine R_iadd (pc := 79) dX9_rivalsOf_79 ?_
            refine st_6_2_i_i (pc := 80) dX9_rivalsOf_80 ?_
            refine inc_6_3_1_i (pc := 81) dX9_rivalsOf_81 ?_
            have r7 : inR ((nI j4) + 1) 1 4 := inR_add (show inR (nI j4) 0 3 from hrg4) (show inR 1 1 1 from (inR_self _)) (by decide) (by decide)
            have e8 := ti_add (l := 1) (h := 4) (show inR (nI j4) 0 3 from hrg4) (show inR 1 1 1 from (inR_self _)) (by decide) (by decide)
            refine R_goto (pc := 84) 4 dX9_rivalsOf_84 (by decide) ?_
            rw [nI_1]
            exact ih4 (j4 + 1) _ _ _ _ (by omega) (by omega) hI15 hC15 (ct_t (f := (fun l => decide (2 ≤ cvM σ c l (tm (σ.1 14000) (σ.1 14013) (σ.2.2.1 148))))) hX4_0 (two_t (Nat.le_trans (cnt_le _ _) (tm_le _ _ _)) (show g4_15 = nI (cvM σ c j4 (tm (σ.1 14000) (σ.1 14013) (σ.2.2.1 148))) from by have q := hX15_0; rw [(show 20 = (tm (σ.1 14000) (σ.1 14013) (σ.2.2.1 148)) from tm_ex20 hX15_2)] at q; exact q) (Int32.not_le.mp b71_4))) hX15_1
        | succ q ih15 =>
          intro j15 σ15 g4_15 hj hs15 hI15 hC15 hX15_0 hX15_1 hX15_2
          have hrg15 : inR (nI j15) 0 19 := inR_ix hs15 (show j15 < 20 by omega) (by decide) (by decide) (by decide)
          have hlt15 : j15 < 20 := by omega
          refine R_iload (pc := 15) dX9_rivalsOf_15 rfl ?_
          refine R_aload_n (pc := 17) dX9_rivalsOf_17 rfl rfl ?_
          refine k_X9_120 (pc := 18) (ge_X9_thereMany _ hI15) rfl (c_140 _) (by decide) (Nat.le_refl _) (Nat.le_refl _) (Nat.le_of_ble_eq_true rfl) dX9_rivalsOf_18 (fun x w2 h => ?_)
          obtain ⟨rfl, rfl⟩ := h
          refine R_icge (pc := 21) 67 dX9_rivalsOf_21 (by decide) (fun b21_9 => ?_) (fun b21_9 => ?_)
          · skip
            refine R_iload_n (pc := 67) dX9_rivalsOf_67 rfl rfl ?_
            refine R_iload (pc := 68) dX9_rivalsOf_68 rfl ?_
            refine R_iconst (pc := 70) (v := 1) dX9_rivalsOf_70 (by decide) ?_
            refine R_icle (pc := 71) 78 dX9_rivalsOf_71 (by decide) (fun b71_10 => ?_) (fun b71_10 => ?_)
            · skip
              refine R_iconst (pc := 78) (v := 0) dX9_rivalsOf_78 (by decide) ?_
              refine R_iadd (pc := 79) dX9_rivalsOf_79 ?_
              refine st_6_2_i_i (pc := 80) dX9_rivalsOf_80 ?_
              refine inc_6_3_1_i (pc := 81) dX9_rivalsOf_81 ?_
              have r11 : inR ((nI j4) + 1) 1 4 := inR_add (show inR (nI j4) 0 3 from hrg4) (show inR 1 1 1 from (inR_self _)) (by decide) (by decide)
              have e12 := ti_add (l := 1) (h := 4) (show inR (nI j4) 0 3 from hrg4) (show inR 1 1 1 from (inR_self _)) (by decide) (by decide)
              refine R_goto (pc := 84) 4 dX9_rivalsOf_84 (by decide) ?_
              rw [nI_1]
              exact ih4 (j4 + 1) _ _ _ _ (by omega) (by omega) hI15 hC15 (ct_f0 (f := (fun l => decide (2 ≤ cvM σ c l (tm (σ.1 14000) (σ.1 14013) (σ.2.2.1 148))))) hX4_0 (two_f (Nat.le_trans (cnt_le _ _) (tm_le _ _ _)) (show g4_15 = nI (cvM σ c j4 (tm (σ.1 14000) (σ.1 14013) (σ.2.2.1 148))) from by have q := hX15_0; rw [(show j15 = (tm (σ.1 14000) (σ.1 14013) (σ.2.2.1 148)) from tm_exit (by omega) hX15_2 (by have q := b21_9; rw [cor_tm hC15] at q; exact q))] at q; exact q) b71_10)) hX15_1
            · skip
              refine R_iconst (pc := 74) (v := 1) dX9_rivalsOf_74 (by decide) ?_
              refine R_goto (pc := 75) 79 dX9_rivalsOf_75 (by decide) ?_
              refine R_iadd (pc := 79) dX9_rivalsOf_79 ?_
              refine st_6_2_i_i (pc := 80) dX9_rivalsOf_80 ?_
              refine inc_6_3_1_i (pc := 81) dX9_rivalsOf_81 ?_
              have r13 : inR ((nI j4) + 1) 1 4 := inR_add (show inR (nI j4) 0 3 from hrg4) (show inR 1 1 1 from (inR_self _)) (by decide) (by decide)
              have e14 := ti_add (l := 1) (h := 4) (show inR (nI j4) 0 3 from hrg4) (show inR 1 1 1 from (inR_self _)) (by decide) (by decide)
              refine R_goto (pc := 84) 4 dX9_rivalsOf_84 (by decide) ?_
              rw [nI_1]
              exact ih4 (j4 + 1) _ _ _ _ (by omega) (by omega) hI15 hC15 (ct_t (f := (fun l => decide (2 ≤ cvM σ c l (tm (σ.1 14000) (σ.1 14013) (σ.2.2.1 148))))) hX4_0 (two_t (Nat.le_trans (cnt_le _ _) (tm_le _ _ _)) (show g4_15 = nI (cvM σ c j4 (tm (σ.1 14000) (σ.1 14013) (σ.2.2.1 148))) from by have q := hX15_0; rw [(show j15 = (tm (σ.1 14000) (σ.1 14013) (σ.2.2.1 148)) from tm_exit (by omega) hX15_2 (by have q := b21_9; rw [cor_tm hC15] at q; exact q))] at q; exact q) (Int32.not_le.mp b71_10))) hX15_1
          · skip
            refine R_iload (pc := 24) dX9_rivalsOf_24 rfl ?_
            refine R_iload (pc := 26) dX9_rivalsOf_26 rfl ?_
            refine R_iload_n (pc := 28) dX9_rivalsOf_28 rfl rfl ?_
            refine R_iceq (pc := 29) 57 dX9_rivalsOf_29 (by decide) (fun b29_15 => ?_) (fun b29_15 => ?_)
            · skip
              refine R_iconst (pc := 57) (v := 0) dX9_rivalsOf_57 (by decide) ?_
              refine R_iadd (pc := 58) dX9_rivalsOf_58 ?_
              refine st_6_4_i_i (pc := 59) dX9_rivalsOf_59 ?_
              refine inc_6_5_1_i (pc := 61) dX9_rivalsOf_61 ?_
              have r16 : inR ((nI j15) + 1) 1 20 := inR_add (show inR (nI j15) 0 19 from hrg15) (show inR 1 1 1 from (inR_self _)) (by decide) (by decide)
              have e17 := ti_add (l := 1) (h := 20) (show inR (nI j15) 0 19 from hrg15) (show inR 1 1 1 from (inR_self _)) (by decide) (by decide)
              refine R_goto (pc := 64) 15 dX9_rivalsOf_64 (by decide) ?_
              rw [nI_1]
              exact ih15 (j15 + 1) _ _ (by omega) (by omega) hI15 hC15 (ct_f0 (f := (fun o => !decide (nI o = c) && (decide (σ.2.2.1 141 o = nI j4) && mtM σ c (nI o)))) hX15_0 (by show (!decide (nI j15 = c) && (decide (σ.2.2.1 141 j15 = nI j4) && mtM σ c (nI j15))) = false; rw [decide_eq_true b29_15]; rfl)) hX15_1 (tm_next (by omega) (by have q := b21_9; rw [cor_tm hC15] at q; exact q))
            · skip
              refine R_aload_n (pc := 32) dX9_rivalsOf_32 rfl rfl ?_
              refine g_X9_7 (pc := 33) (v := .ref 141) rfl dX9_rivalsOf_33 (c_140 _) rfl ?_
              refine R_iload (pc := 36) dX9_rivalsOf_36 rfl ?_
              have hx18 : vp_in (nI j15) 20 := (vp_in_nI (by omega) (by decide))
              refine R_iaload (pc := 38) dX9_rivalsOf_38 (c_141 _) hx18 ?_
              refine R_iload_n (pc := 39) dX9_rivalsOf_39 rfl rfl ?_
              refine R_icne (pc := 40) 57 dX9_rivalsOf_40 (by decide) (fun b40_19 => ?_) (fun b40_19 => ?_)
              · skip
                refine R_iconst (pc := 57) (v := 0) dX9_rivalsOf_57 (by decide) ?_
                refine R_iadd (pc := 58) dX9_rivalsOf_58 ?_
                refine st_6_4_i_i (pc := 59) dX9_rivalsOf_59 ?_
                refine inc_6_5_1_i (pc := 61) dX9_rivalsOf_61 ?_
                have r20 : inR ((nI j15) + 1) 1 20 := inR_add (show inR (nI j15) 0 19 from hrg15) (show inR 1 1 1 from (inR_self _)) (by decide) (by decide)
                have e21 := ti_add (l := 1) (h := 20) (show inR (nI j15) 0 19 from hrg15) (show inR 1 1 1 from (inR_self _)) (by decide) (by decide)
                refine R_goto (pc := 64) 15 dX9_rivalsOf_64 (by decide) ?_
                rw [nI_1]
                exact ih15 (j15 + 1) _ _ (by omega) (by omega) hI15 hC15 (ct_f0 (f := (fun o => !decide (nI o = c) && (decide (σ.2.2.1 141 o = nI j4) && mtM σ c (nI o)))) hX15_0 (by show (!decide (nI j15 = c) && (decide (σ.2.2.1 141 j15 = nI j4) && mtM σ c (nI j15))) = false; rw [decide_eq_false (show ¬ σ.2.2.1 141 j15 = nI j4 from (by have q := b40_19; rw [nI_clamp (by omega), hC15.2.2.1 141 rfl] at q; exact q))]; simp)) hX15_1 (tm_next (by omega) (by have q := b21_9; rw [cor_tm hC15] at q; exact q))
              · skip
                refine R_aload_n (pc := 43) dX9_rivalsOf_43 rfl rfl ?_
                refine R_iload_n (pc := 44) dX9_rivalsOf_44 rfl rfl ?_
                refine R_iload (pc := 45) dX9_rivalsOf_45 rfl ?_
                refine k_X9_159 (pc := 47) (gn_X9_isMatch _ _ _ hI15 hc hrg15) rfl (c_140 _) (by decide) (Nat.le_refl _) (Nat.le_refl _) (Nat.le_of_ble_eq_true rfl) dX9_rivalsOf_47 (fun x w2 h => ?_)
                obtain ⟨σx23, rfl, hV22, hW24, hq25, hb⟩ := h
                have hW27 := Cor.trans hC15 hW24
                have hq28 := fq_trans hX15_1 hq25
                rcases hb with ⟨hb26, rfl⟩ | ⟨hb26, rfl⟩
                · skip
                  refine R_ifeq (pc := 50) 57 dX9_rivalsOf_50 (by decide) (fun h => absurd h (by decide)) (fun _ => ?_)
                  refine R_iconst (pc := 53) (v := 1) dX9_rivalsOf_53 (by decide) ?_
                  refine R_goto (pc := 54) 58 dX9_rivalsOf_54 (by decide) ?_
                  refine R_iadd (pc := 58) dX9_rivalsOf_58 ?_
                  refine st_6_4_i_i (pc := 59) dX9_rivalsOf_59 ?_
                  refine inc_6_5_1_i (pc := 61) dX9_rivalsOf_61 ?_
                  have r30 : inR ((nI j15) + 1) 1 20 := inR_add (show inR (nI j15) 0 19 from hrg15) (show inR 1 1 1 from (inR_self _)) (by decide) (by decide)
                  have e31 := ti_add (l := 1) (h := 20) (show inR (nI j15) 0 19 from hrg15) (show inR 1 1 1 from (inR_self _)) (by decide) (by decide)
                  refine R_goto (pc := 64) 15 dX9_rivalsOf_64 (by decide) ?_
                  rw [nI_1]
                  exact ih15 (j15 + 1) _ _ (by omega) (by omega) hV22 hW27 (ct_t (f := (fun o => !decide (nI o = c) && (decide (σ.2.2.1 141 o = nI j4) && mtM σ c (nI o)))) hX15_0 (by show (!decide (nI j15 = c) && (decide (σ.2.2.1 141 j15 = nI j4) && mtM σ c (nI j15))) = true; rw [decide_eq_false b29_15, decide_eq_true (show σ.2.2.1 141 j15 = nI j4 from (by have q := b40_19; rw [nI_clamp (by omega), hC15.2.2.1 141 rfl] at q; exact q)), show mtM σ c (nI j15) = true from ((mtM_fq hX15_1 rfl rfl rfl rfl rfl rfl rfl _ _).symm.trans hb26)]; rfl)) hq28 (tm_next (by omega) (by have q := b21_9; rw [cor_tm hC15] at q; exact q))
                · skip
                  refine R_ifeq (pc := 50) 57 dX9_rivalsOf_50 (by decide) (fun _ => ?_) (fun h => absurd (by decide) h)
                  refine R_iconst (pc := 57) (v := 0) dX9_rivalsOf_57 (by decide) ?_
                  refine R_iadd (pc := 58) dX9_rivalsOf_58 ?_
                  refine st_6_4_i_i (pc := 59) dX9_rivalsOf_59 ?_
                  refine inc_6_5_1_i (pc := 61) dX9_rivalsOf_61 ?_
                  have r33 : inR ((nI j15) + 1) 1 20 := inR_add (show inR (nI j15) 0 19 from hrg15) (show inR 1 1 1 from (inR_self _)) (by decide) (by decide)
                  have e34 := ti_add (l := 1) (h := 20) (show inR (nI j15) 0 19 from hrg15) (show inR 1 1 1 from (inR_self _)) (by decide) (by decide)
                  refine R_goto (pc := 64) 15 dX9_rivalsOf_64 (by decide) ?_
                  rw [nI_1]
                  exact ih15 (j15 + 1) _ _ (by omega) (by omega) hV22 hW27 (ct_f0 (f := (fun o => !decide (nI o = c) && (decide (σ.2.2.1 141 o = nI j4) && mtM σ c (nI o)))) hX15_0 (by show (!decide (nI j15 = c) && (decide (σ.2.2.1 141 j15 = nI j4) && mtM σ c (nI j15))) = false; rw [show mtM σ c (nI j15) = false from ((mtM_fq hX15_1 rfl rfl rfl rfl rfl rfl rfl _ _).symm.trans hb26)]; simp)) hq28 (tm_next (by omega) (by have q := b21_9; rw [cor_tm hC15] at q; exact q))
      exact HL15 20 0 _ _ (by omega) (by omega) hI4 hC4 nI_0.symm hX4_1 (Nat.zero_le _)
  exact HL4 4 0 _ _ _ _ (by omega) (by omega) hI (show Cor σ σ from Cor.rfl' σ) nI_0.symm (fq_rfl _ σ)
