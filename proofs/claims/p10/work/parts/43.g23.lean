/-! methods on any state that keeps the invariant -/
set_option maxRecDepth 100000 in
set_option maxHeartbeats 40000000 in
theorem ge_X9_thereMany {G : vG} {l : Launch} (σ : Sg)  (hI : Inv σ) : Sp G l yX9_thereMany cX9_thereMany 2 (some .int) 0 0 0 [.ref 140] (WW σ) (QI (fun x w2 => w2 = WW σ ∧ x = nI (tm (σ.1 14000) (σ.1 14013) (σ.2.2.1 148)))) := by
  refine Sp_of_R [(some (.ref 140)), none] [none] rfl (by simp) rfl (Nat.le_of_ble_eq_true rfl) ?_
  refine R_iconst (pc := 0) (v := 0) dX9_thereMany_0 (by decide) ?_
  refine st_2_1_i_a (pc := 1) dX9_thereMany_1 ?_
  have HL2 : ∀ (q j2 : Nat), j2 + q = 20 → 0 ≤ j2 → (tm (σ.1 14000) (σ.1 14013) (σ.2.2.1 148)) = tmr (σ.1 14000) (σ.1 14013) (σ.2.2.1 148) q j2 → R G l yX9_thereMany cX9_thereMany 2 (some .int) 0 0 0 (QI (fun x w2 => w2 = WW σ ∧ x = nI (tm (σ.1 14000) (σ.1 14013) (σ.2.2.1 148)))) 2 [(some (.ref 140)), (some (.int (nI j2)))] [] (WW σ) 0 0 := by
    intro q
    induction q with
    | zero =>
      intro j2 hj hs2 hX2_0
      obtain rfl : j2 = 20 := by omega
      refine R_iload_n (pc := 2) dX9_thereMany_2 rfl rfl ?_
      refine R_aload_n (pc := 3) dX9_thereMany_3 rfl rfl ?_
      refine g_X9_117 (pc := 4) (v := .int (σ.1 14000)) rfl dX9_thereMany_4 (c_140 _) rfl ?_
      refine R_icge (pc := 7) 29 dX9_thereMany_7 (by decide) (fun _ => ?_) (fun h => absurd (Int32.not_lt.mp (inR_up (iv_14000 hI) (Int32.le_refl _) (by decide)).2) h)
      refine R_iload_n (pc := 29) dX9_thereMany_29 rfl rfl ?_
      exact R_iret (pc := 30) dX9_thereMany_30 rfl rfl (Nat.zero_le _) (Nat.zero_le _) ⟨_, rfl, rfl, (by first | exact tmr_out0 hX2_0 | exact tmr_out1 hX2_0 (by assumption) | exact tmr_out2 hX2_0 (by omega) (by assumption))⟩
    | succ q ih2 =>
      intro j2 hj hs2 hX2_0
      have hrg2 : inR (nI j2) 0 19 := inR_ix hs2 (show j2 < 20 by omega) (by decide) (by decide) (by decide)
      have hlt2 : j2 < 20 := by omega
      refine R_iload_n (pc := 2) dX9_thereMany_2 rfl rfl ?_
      refine R_aload_n (pc := 3) dX9_thereMany_3 rfl rfl ?_
      refine g_X9_117 (pc := 4) (v := .int (σ.1 14000)) rfl dX9_thereMany_4 (c_140 _) rfl ?_
      refine R_icge (pc := 7) 29 dX9_thereMany_7 (by decide) (fun b7_2 => ?_) (fun b7_2 => ?_)
      · skip
        refine R_iload_n (pc := 29) dX9_thereMany_29 rfl rfl ?_
        exact R_iret (pc := 30) dX9_thereMany_30 rfl rfl (Nat.zero_le _) (Nat.zero_le _) ⟨_, rfl, rfl, (by first | exact tmr_out0 hX2_0 | exact tmr_out1 hX2_0 (by assumption) | exact tmr_out2 hX2_0 (by omega) (by assumption))⟩
      · skip
        refine R_aload_n (pc := 10) dX9_thereMany_10 rfl rfl ?_
        refine g_X9_32 (pc := 11) (v := .ref 148) rfl dX9_thereMany_11 (c_140 _) rfl ?_
        refine R_iload_n (pc := 14) dX9_thereMany_14 rfl rfl ?_
        have hx3 : vp_in (nI j2) 20 := (vp_in_nI (by omega) (by decide))
        refine R_iaload (pc := 15) dX9_thereMany_15 (c_148 _) hx3 ?_
        refine R_aload_n (pc := 16) dX9_thereMany_16 rfl rfl ?_
        refine g_X9_45 (pc := 17) (v := .int (σ.1 14013)) rfl dX9_thereMany_17 (c_140 _) rfl ?_
        refine R_icgt (pc := 20) 29 dX9_thereMany_20 (by decide) (fun b20_4 => ?_) (fun b20_4 => ?_)
        · skip
          refine R_iload_n (pc := 29) dX9_thereMany_29 rfl rfl ?_
          exact R_iret (pc := 30) dX9_thereMany_30 rfl rfl (Nat.zero_le _) (Nat.zero_le _) ⟨_, rfl, rfl, (by first | exact tmr_out0 hX2_0 | exact tmr_out1 hX2_0 (by assumption) | exact tmr_out2 hX2_0 (by omega) (by assumption))⟩
        · skip
          refine inc_2_1_1_a (pc := 23) dX9_thereMany_23 ?_
          have r5 : inR ((nI j2) + 1) 1 20 := inR_add (show inR (nI j2) 0 19 from hrg2) (show inR 1 1 1 from (inR_self _)) (by decide) (by decide)
          have e6 := ti_add (l := 1) (h := 20) (show inR (nI j2) 0 19 from hrg2) (show inR 1 1 1 from (inR_self _)) (by decide) (by decide)
          refine R_goto (pc := 26) 2 dX9_thereMany_26 (by decide) ?_
          rw [nI_1]
          exact ih2 (j2 + 1) (by omega) (by omega) (tmr_step hX2_0 (by omega) b7_2 b20_4)
  exact HL2 20 0 (by omega) (by omega) rfl
set_option maxRecDepth 100000 in
set_option maxHeartbeats 40000000 in
theorem ge_X9_isThere {G : vG} {l : Launch} (σ : Sg) (c : Int32) (hI : Inv σ) : Sp G l yX9_isThere cX9_isThere 2 (some .boolean) 1 0 0 [.ref 140, .int c] (WW σ) (QI (fun x w2 => w2 = WW σ ∧ (inR c 0 19 ∧ c.toNatClampNeg < (tm (σ.1 14000) (σ.1 14013) (σ.2.2.1 148)) ∧ x = 1 ∨ ¬ (inR c 0 19 ∧ c.toNatClampNeg < (tm (σ.1 14000) (σ.1 14013) (σ.2.2.1 148))) ∧ x = 0))) := by
  refine Sp_of_R [(some (.ref 140)), (some (.int c))] [] rfl (by simp) rfl (Nat.le_of_ble_eq_true rfl) ?_
  refine R_iload_n (pc := 0) dX9_isThere_0 rfl rfl ?_
  refine R_iconst (pc := 1) (v := 0) dX9_isThere_1 (by decide) ?_
  refine R_aload_n (pc := 2) dX9_isThere_2 rfl rfl ?_
  refine k_X9_120 (pc := 3) (ge_X9_thereMany _ hI) rfl (c_140 _) (by decide) (Nat.le_refl _) (Nat.le_refl _) (Nat.le_of_ble_eq_true rfl) dX9_isThere_3 (fun x w2 h => ?_)
  obtain ⟨rfl, rfl⟩ := h
  refine R_iconst (pc := 6) (v := 1) dX9_isThere_6 (by decide) ?_
  refine R_isub (pc := 7) dX9_isThere_7 ?_
  have r1 : inR ((nI (tm (σ.1 14000) (σ.1 14013) (σ.2.2.1 148))) - 1) (-1) 19 := inR_sub (show inR (nI (tm (σ.1 14000) (σ.1 14013) (σ.2.2.1 148))) 0 20 from (tm_in (σ.1 14000) (σ.1 14013) (σ.2.2.1 148))) (show inR 1 1 1 from (inR_self _)) (by decide) (by decide)
  have e2 := ti_sub (l := (-1)) (h := 19) (show inR (nI (tm (σ.1 14000) (σ.1 14013) (σ.2.2.1 148))) 0 20 from (tm_in (σ.1 14000) (σ.1 14013) (σ.2.2.1 148))) (show inR 1 1 1 from (inR_self _)) (by decide) (by decide)
  refine k_X9_124 (pc := 8) (sp_X9_in _ _ _ _) rfl (by decide) (Nat.le_refl _) (Nat.le_refl _) (Nat.le_of_ble_eq_true rfl) dX9_isThere_8 (fun x w2 h => ?_)
  rcases h with ⟨rfl, ⟨h3, rfl⟩ | ⟨h3, rfl⟩⟩
  · skip
    exact R_iret (pc := 11) dX9_isThere_11 rfl rfl (Nat.zero_le _) (Nat.zero_le _) ⟨_, rfl, rfl, Or.inl ⟨(ist_t (tm_le _ _ _) h3).1, (ist_t (tm_le _ _ _) h3).2, rfl⟩⟩
  · skip
    exact R_iret (pc := 11) dX9_isThere_11 rfl rfl (Nat.zero_le _) (Nat.zero_le _) ⟨_, rfl, rfl, Or.inr ⟨ist_f (tm_le _ _ _) h3, rfl⟩⟩
set_option maxRecDepth 100000 in
set_option maxHeartbeats 40000000 in
theorem ge_X9_isEmpty {G : vG} {l : Launch} (σ : Sg) (a : Int32) (hI : Inv σ) : Sp G l yX9_isEmpty cX9_isEmpty 4 (some .boolean) 1 0 0 [.ref 140, .int a] (WW σ) (QI (fun x w2 => w2 = WW σ ∧ (x = 1 ∨ x = 0 ∧ NoE σ a (tm (σ.1 14000) (σ.1 14013) (σ.2.2.1 148))))) := by
  refine Sp_of_R [(some (.ref 140)), (some (.int a)), none, none] [none, none] rfl (by simp) rfl (Nat.le_of_ble_eq_true rfl) ?_
  refine R_iconst (pc := 0) (v := 0) dX9_isEmpty_0 (by decide) ?_
  refine st_4_2_i_i (pc := 1) dX9_isEmpty_1 ?_
  refine R_iconst (pc := 2) (v := 0) dX9_isEmpty_2 (by decide) ?_
  refine st_4_3_i_i (pc := 3) dX9_isEmpty_3 ?_
  have HL4 : ∀ (q j4 : Nat) (g2_4 : Int32), j4 + q = 20 → 0 ≤ j4 → inR g2_4 0 1 → (g2_4 = 1 ∨ g2_4 = 0 ∧ NoE σ a j4) → R G l yX9_isEmpty cX9_isEmpty 4 (some .boolean) 1 0 0 (QI (fun x w2 => w2 = WW σ ∧ (x = 1 ∨ x = 0 ∧ NoE σ a (tm (σ.1 14000) (σ.1 14013) (σ.2.2.1 148))))) 4 [(some (.ref 140)), (some (.int a)), (some (.int g2_4)), (some (.int (nI j4)))] [] (WW σ) 0 0 := by
    intro q
    induction q with
    | zero =>
      intro j4 g2_4 hj hs4 hg2_4 hX4_0
      obtain rfl : j4 = 20 := by omega
      refine R_iload_n (pc := 4) dX9_isEmpty_4 rfl rfl ?_
      refine R_aload_n (pc := 5) dX9_isEmpty_5 rfl rfl ?_
      refine k_X9_120 (pc := 6) (ge_X9_thereMany _ hI) rfl (c_140 _) (by decide) (Nat.le_refl _) (Nat.le_refl _) (Nat.le_of_ble_eq_true rfl) dX9_isEmpty_6 (fun x w2 h => ?_)
      obtain ⟨rfl, rfl⟩ := h
      refine R_icge (pc := 9) 73 dX9_isEmpty_9 (by decide) (fun _ => ?_) (fun h => absurd (Int32.not_lt.mp (inR_up (tm_in (σ.1 14000) (σ.1 14013) (σ.2.2.1 148)) (Int32.le_refl _) (by decide)).2) h)
      refine R_iload_n (pc := 73) dX9_isEmpty_73 rfl rfl ?_
      exact R_iret (pc := 74) dX9_isEmpty_74 rfl (nar01 hg2_4) (Nat.zero_le _) (Nat.zero_le _) ⟨_, rfl, rfl, hX4_0.imp (fun h => h) (fun h => ⟨h.1, noE_le h.2 (by first | exact tm_le _ _ _ | exact tm_leJ (by omega) (by assumption))⟩)⟩
    | succ q ih4 =>
      intro j4 g2_4 hj hs4 hg2_4 hX4_0
      have hrg4 : inR (nI j4) 0 19 := inR_ix hs4 (show j4 < 20 by omega) (by decide) (by decide) (by decide)
      have hlt4 : j4 < 20 := by omega
      refine R_iload_n (pc := 4) dX9_isEmpty_4 rfl rfl ?_
      refine R_aload_n (pc := 5) dX9_isEmpty_5 rfl rfl ?_
      refine k_X9_120 (pc := 6) (ge_X9_thereMany _ hI) rfl (c_140 _) (by decide) (Nat.le_refl _) (Nat.le_refl _) (Nat.le_of_ble_eq_true rfl) dX9_isEmpty_6 (fun x w2 h => ?_)
      obtain ⟨rfl, rfl⟩ := h
      refine R_icge (pc := 9) 73 dX9_isEmpty_9 (by decide) (fun b9_2 => ?_) (fun b9_2 => ?_)
      · skip
        refine R_iload_n (pc := 73) dX9_isEmpty_73 rfl rfl ?_
        exact R_iret (pc := 74) dX9_isEmpty_74 rfl (nar01 hg2_4) (Nat.zero_le _) (Nat.zero_le _) ⟨_, rfl, rfl, hX4_0.imp (fun h => h) (fun h => ⟨h.1, noE_le h.2 (by first | exact tm_le _ _ _ | exact tm_leJ (by omega) (by assumption))⟩)⟩
      · skip
        refine R_iload_n (pc := 12) dX9_isEmpty_12 rfl rfl ?_
        refine R_ifne (pc := 13) 61 dX9_isEmpty_13 (by decide) (fun b13_3 => ?_) (fun b13_3 => ?_)
        · skip
          refine R_iconst (pc := 61) (v := 1) dX9_isEmpty_61 (by decide) ?_
          refine R_goto (pc := 62) 66 dX9_isEmpty_62 (by decide) ?_
          refine st_4_2_i_i (pc := 66) dX9_isEmpty_66 ?_
          refine inc_4_3_1_i (pc := 67) dX9_isEmpty_67 ?_
          have r4 : inR ((nI j4) + 1) 1 20 := inR_add (show inR (nI j4) 0 19 from hrg4) (show inR 1 1 1 from (inR_self _)) (by decide) (by decide)
          have e5 := ti_add (l := 1) (h := 20) (show inR (nI j4) 0 19 from hrg4) (show inR 1 1 1 from (inR_self _)) (by decide) (by decide)
          refine R_goto (pc := 70) 4 dX9_isEmpty_70 (by decide) ?_
          rw [nI_1]
          exact ih4 (j4 + 1) _ (by omega) (by omega) (show inR 1 0 1 from ⟨by decide, by decide⟩) (Or.inl rfl)
        · skip
          refine R_iload_n (pc := 16) dX9_isEmpty_16 rfl rfl ?_
          refine R_iload_n (pc := 17) dX9_isEmpty_17 rfl rfl ?_
          refine R_iceq (pc := 18) 65 dX9_isEmpty_18 (by decide) (fun b18_6 => ?_) (fun b18_6 => ?_)
          · skip
            refine R_iconst (pc := 65) (v := 0) dX9_isEmpty_65 (by decide) ?_
            refine st_4_2_i_i (pc := 66) dX9_isEmpty_66 ?_
            refine inc_4_3_1_i (pc := 67) dX9_isEmpty_67 ?_
            have r7 : inR ((nI j4) + 1) 1 20 := inR_add (show inR (nI j4) 0 19 from hrg4) (show inR 1 1 1 from (inR_self _)) (by decide) (by decide)
            have e8 := ti_add (l := 1) (h := 20) (show inR (nI j4) 0 19 from hrg4) (show inR 1 1 1 from (inR_self _)) (by decide) (by decide)
            refine R_goto (pc := 70) 4 dX9_isEmpty_70 (by decide) ?_
            rw [nI_1]
            exact ih4 (j4 + 1) _ (by omega) (by omega) (show inR 0 0 1 from ⟨by decide, by decide⟩) (Or.inr ⟨rfl, noE_s1 (hX4_0.resolve_left (fun e => absurd (e.symm.trans b13_3) (by decide))).2 b18_6⟩)
          · skip
            refine R_aload_n (pc := 21) dX9_isEmpty_21 rfl rfl ?_
            refine g_X9_93 (pc := 22) (v := .ref 165) rfl dX9_isEmpty_22 (c_140 _) rfl ?_
            refine R_iload_n (pc := 25) dX9_isEmpty_25 rfl rfl ?_
            have hx9 : vp_in (nI j4) 20 := (vp_in_nI (by omega) (by decide))
            refine R_iaload (pc := 26) dX9_isEmpty_26 (c_165 _) hx9 ?_
            refine R_aload_n (pc := 27) dX9_isEmpty_27 rfl rfl ?_
            refine g_X9_96 (pc := 28) (v := .ref 166) rfl dX9_isEmpty_28 (c_140 _) rfl ?_
            refine R_iload_n (pc := 31) dX9_isEmpty_31 rfl rfl ?_
            have hx10 : vp_in (nI j4) 20 := (vp_in_nI (by omega) (by decide))
            refine R_iaload (pc := 32) dX9_isEmpty_32 (c_166 _) hx10 ?_
            refine R_icgt (pc := 33) 61 dX9_isEmpty_33 (by decide) (fun b33_11 => ?_) (fun b33_11 => ?_)
            · skip
              refine R_iconst (pc := 61) (v := 1) dX9_isEmpty_61 (by decide) ?_
              refine R_goto (pc := 62) 66 dX9_isEmpty_62 (by decide) ?_
              refine st_4_2_i_i (pc := 66) dX9_isEmpty_66 ?_
              refine inc_4_3_1_i (pc := 67) dX9_isEmpty_67 ?_
              have r12 : inR ((nI j4) + 1) 1 20 := inR_add (show inR (nI j4) 0 19 from hrg4) (show inR 1 1 1 from (inR_self _)) (by decide) (by decide)
              have e13 := ti_add (l := 1) (h := 20) (show inR (nI j4) 0 19 from hrg4) (show inR 1 1 1 from (inR_self _)) (by decide) (by decide)
              refine R_goto (pc := 70) 4 dX9_isEmpty_70 (by decide) ?_
              rw [nI_1]
              exact ih4 (j4 + 1) _ (by omega) (by omega) (show inR 1 0 1 from ⟨by decide, by decide⟩) (Or.inl rfl)
            · skip
              refine R_aload_n (pc := 36) dX9_isEmpty_36 rfl rfl ?_
              refine g_X9_87 (pc := 37) (v := .ref 163) rfl dX9_isEmpty_37 (c_140 _) rfl ?_
              refine R_aload_n (pc := 40) dX9_isEmpty_40 rfl rfl ?_
              refine g_X9_54 (pc := 41) (v := .ref 152) rfl dX9_isEmpty_41 (c_140 _) rfl ?_
              refine R_iload_n (pc := 44) dX9_isEmpty_44 rfl rfl ?_
              have hx14 : vp_in (nI j4) 20 := (vp_in_nI (by omega) (by decide))
              refine R_iaload (pc := 45) dX9_isEmpty_45 (c_152 _) hx14 ?_
              have hx15 : vp_in (σ.2.2.1 152 (Int32.toNatClampNeg (nI j4))) 20 := (vp_of_inR (iva_152 hI _ (lt_of_vp hx14)) (by decide))
              refine R_iaload (pc := 46) dX9_isEmpty_46 (c_163 _) hx15 ?_
              refine R_aload_n (pc := 47) dX9_isEmpty_47 rfl rfl ?_
              refine g_X9_90 (pc := 48) (v := .ref 164) rfl dX9_isEmpty_48 (c_140 _) rfl ?_
              refine R_aload_n (pc := 51) dX9_isEmpty_51 rfl rfl ?_
              refine g_X9_54 (pc := 52) (v := .ref 152) rfl dX9_isEmpty_52 (c_140 _) rfl ?_
              refine R_iload_n (pc := 55) dX9_isEmpty_55 rfl rfl ?_
              have hx16 : vp_in (nI j4) 20 := (vp_in_nI (by omega) (by decide))
              refine R_iaload (pc := 56) dX9_isEmpty_56 (c_152 _) hx16 ?_
              have hx17 : vp_in (σ.2.2.1 152 (Int32.toNatClampNeg (nI j4))) 20 := (vp_of_inR (iva_152 hI _ (lt_of_vp hx14)) (by decide))
              refine R_iaload (pc := 57) dX9_isEmpty_57 (c_164 _) hx17 ?_
              refine R_icle (pc := 58) 65 dX9_isEmpty_58 (by decide) (fun b58_18 => ?_) (fun b58_18 => ?_)
              · skip
                refine R_iconst (pc := 65) (v := 0) dX9_isEmpty_65 (by decide) ?_
                refine st_4_2_i_i (pc := 66) dX9_isEmpty_66 ?_
                refine inc_4_3_1_i (pc := 67) dX9_isEmpty_67 ?_
                have r19 : inR ((nI j4) + 1) 1 20 := inR_add (show inR (nI j4) 0 19 from hrg4) (show inR 1 1 1 from (inR_self _)) (by decide) (by decide)
                have e20 := ti_add (l := 1) (h := 20) (show inR (nI j4) 0 19 from hrg4) (show inR 1 1 1 from (inR_self _)) (by decide) (by decide)
                refine R_goto (pc := 70) 4 dX9_isEmpty_70 (by decide) ?_
                rw [nI_1]
                exact ih4 (j4 + 1) _ (by omega) (by omega) (show inR 0 0 1 from ⟨by decide, by decide⟩) (Or.inr ⟨rfl, noE_s2 (hX4_0.resolve_left (fun e => absurd (e.symm.trans b13_3) (by decide))).2 (by omega) b33_11 b58_18⟩)
              · skip
                refine R_iconst (pc := 61) (v := 1) dX9_isEmpty_61 (by decide) ?_
                refine R_goto (pc := 62) 66 dX9_isEmpty_62 (by decide) ?_
                refine st_4_2_i_i (pc := 66) dX9_isEmpty_66 ?_
                refine inc_4_3_1_i (pc := 67) dX9_isEmpty_67 ?_
                have r21 : inR ((nI j4) + 1) 1 20 := inR_add (show inR (nI j4) 0 19 from hrg4) (show inR 1 1 1 from (inR_self _)) (by decide) (by decide)
                have e22 := ti_add (l := 1) (h := 20) (show inR (nI j4) 0 19 from hrg4) (show inR 1 1 1 from (inR_self _)) (by decide) (by decide)
                refine R_goto (pc := 70) 4 dX9_isEmpty_70 (by decide) ?_
                rw [nI_1]
                exact ih4 (j4 + 1) _ (by omega) (by omega) (show inR 1 0 1 from ⟨by decide, by decide⟩) (Or.inl rfl)
  exact HL4 20 0 _ (by omega) (by omega) (show inR 0 0 1 from ⟨by decide, by decide⟩) (Or.inr ⟨rfl, noE_0 _ _⟩)
set_option maxRecDepth 100000 in
set_option maxHeartbeats 40000000 in
theorem gn_X9_takenIn {G : vG} {l : Launch} (σ : Sg) (P : Nat → Prop) (a b c : Int32) (hI : Inv σ) (ha : inR a 0 19) (hP : ∃ d, P d ∧ (σ.2.2.1 152 d).toNatClampNeg = a.toNatClampNeg) : Sp G l yX9_takenIn cX9_takenIn 4 none 0 0 0 [.ref 140, .int a, .int b, .int c] (WW σ) (QV (fun w2 => ∃ σ2, w2 = WW σ2 ∧ Inv σ2 ∧ Cor σ σ2 ∧ Nar P σ σ2)) := by
  refine Sp_of_R [(some (.ref 140)), (some (.int a)), (some (.int b)), (some (.int c))] [] rfl (by simp) rfl (Nat.le_of_ble_eq_true rfl) ?_
  refine R_iload_n (pc := 0) dX9_takenIn_0 rfl rfl ?_
  refine R_aload_n (pc := 1) dX9_takenIn_1 rfl rfl ?_
  refine g_X9_87 (pc := 2) (v := .ref 163) rfl dX9_takenIn_2 (c_140 _) rfl ?_
  refine R_iload_n (pc := 5) dX9_takenIn_5 rfl rfl ?_
  have hx1 : vp_in a 20 := (vp_of_inR ha (by decide))
  refine R_iaload (pc := 6) dX9_takenIn_6 (c_163 _) hx1 ?_
  refine R_icle (pc := 7) 22 dX9_takenIn_7 (by decide) (fun b7_2 => ?_) (fun b7_2 => ?_)
  · skip
    refine R_iload_n (pc := 22) dX9_takenIn_22 rfl rfl ?_
    refine R_aload_n (pc := 23) dX9_takenIn_23 rfl rfl ?_
    refine g_X9_90 (pc := 24) (v := .ref 164) rfl dX9_takenIn_24 (c_140 _) rfl ?_
    refine R_iload_n (pc := 27) dX9_takenIn_27 rfl rfl ?_
    have hx3 : vp_in a 20 := (vp_of_inR ha (by decide))
    refine R_iaload (pc := 28) dX9_takenIn_28 (c_164 _) hx3 ?_
    refine R_icge (pc := 29) 44 dX9_takenIn_29 (by decide) (fun b29_4 => ?_) (fun b29_4 => ?_)
    · skip
      exact R_vret (pc := 44) dX9_takenIn_44 rfl (Nat.zero_le _) (Nat.zero_le _) ⟨rfl, _, rfl, hI, (show Cor σ σ from Cor.rfl' σ), (Nar.rfl' _ _)⟩
    · skip
      refine R_aload_n (pc := 32) dX9_takenIn_32 rfl rfl ?_
      refine g_X9_90 (pc := 33) (v := .ref 164) rfl dX9_takenIn_33 (c_140 _) rfl ?_
      refine R_iload_n (pc := 36) dX9_takenIn_36 rfl rfl ?_
      refine R_iload_n (pc := 37) dX9_takenIn_37 rfl rfl ?_
      have hx5 : vp_in a 20 := (vp_of_inR ha (by decide))
      refine W_iastore (pc := 38) dX9_takenIn_38 (c_164 _) hx5 (a_164 _ _) ?_
      have hW6 := cor_sa 164 (upd (σ.2.2.1 164) (Int32.toNatClampNeg a) c) (show Cor σ σ from Cor.rfl' σ) rfl
      refine R_aload_n (pc := 39) dX9_takenIn_39 rfl rfl ?_
      refine R_iconst (pc := 40) (v := 1) dX9_takenIn_40 (by decide) ?_
      refine p_X9_204 (pc := 41) rfl dX9_takenIn_41 (c_140 _) (Nat.le_of_ble_eq_true rfl) rfl rfl (s_140_32 _ _) ?_
      have hW7 := cor_si 14032 1 hW6 rfl
      exact R_vret (pc := 44) dX9_takenIn_44 rfl (Nat.zero_le _) (Nat.zero_le _) ⟨rfl, _, rfl, hI, hW7, (nar_t2 hP (clamp19 ha) b29_4)⟩
  · skip
    refine R_aload_n (pc := 10) dX9_takenIn_10 rfl rfl ?_
    refine g_X9_87 (pc := 11) (v := .ref 163) rfl dX9_takenIn_11 (c_140 _) rfl ?_
    refine R_iload_n (pc := 14) dX9_takenIn_14 rfl rfl ?_
    refine R_iload_n (pc := 15) dX9_takenIn_15 rfl rfl ?_
    have hx8 : vp_in a 20 := (vp_of_inR ha (by decide))
    refine W_iastore (pc := 16) dX9_takenIn_16 (c_163 _) hx8 (a_163 _ _) ?_
    have hW9 := cor_sa 163 (upd (σ.2.2.1 163) (Int32.toNatClampNeg a) b) (show Cor σ σ from Cor.rfl' σ) rfl
    refine R_aload_n (pc := 17) dX9_takenIn_17 rfl rfl ?_
    refine R_iconst (pc := 18) (v := 1) dX9_takenIn_18 (by decide) ?_
    refine p_X9_204 (pc := 19) rfl dX9_takenIn_19 (c_140 _) (Nat.le_of_ble_eq_true rfl) rfl rfl (s_140_32 _ _) ?_
    have hW10 := cor_si 14032 1 hW9 rfl
    refine R_iload_n (pc := 22) dX9_takenIn_22 rfl rfl ?_
    refine R_aload_n (pc := 23) dX9_takenIn_23 rfl rfl ?_
    refine g_X9_90 (pc := 24) (v := .ref 164) rfl dX9_takenIn_24 (c_140 _) rfl ?_
    refine R_iload_n (pc := 27) dX9_takenIn_27 rfl rfl ?_
    have hx11 : vp_in a 20 := (vp_of_inR ha (by decide))
    refine W_iaload (pc := 28) (σ.2.2.1 164 (Int32.toNatClampNeg a)) dX9_takenIn_28 (c_164 _) hx11 rfl ?_
    refine R_icge (pc := 29) 44 dX9_takenIn_29 (by decide) (fun b29_12 => ?_) (fun b29_12 => ?_)
    · skip
      exact R_vret (pc := 44) dX9_takenIn_44 rfl (Nat.zero_le _) (Nat.zero_le _) ⟨rfl, _, rfl, hI, hW10, (nar_t1 hP (clamp19 ha) b7_2)⟩
    · skip
      refine R_aload_n (pc := 32) dX9_takenIn_32 rfl rfl ?_
      refine g_X9_90 (pc := 33) (v := .ref 164) rfl dX9_takenIn_33 (c_140 _) rfl ?_
      refine R_iload_n (pc := 36) dX9_takenIn_36 rfl rfl ?_
      refine R_iload_n (pc := 37) dX9_takenIn_37 rfl rfl ?_
      have hx13 : vp_in a 20 := (vp_of_inR ha (by decide))
      refine W_iastore (pc := 38) dX9_takenIn_38 (c_164 _) hx13 (a_164 _ _) ?_
      have hW14 := cor_sa 164 (upd ((uI (uA σ 163 (upd (σ.2.2.1 163) (Int32.toNatClampNeg a) b)) 14032 1).2.2.1 164) (Int32.toNatClampNeg a) c) hW10 rfl
      refine R_aload_n (pc := 39) dX9_takenIn_39 rfl rfl ?_
      refine R_iconst (pc := 40) (v := 1) dX9_takenIn_40 (by decide) ?_
      refine p_X9_204 (pc := 41) rfl dX9_takenIn_41 (c_140 _) (Nat.le_of_ble_eq_true rfl) rfl rfl (s_140_32 _ _) ?_
      have hW15 := cor_si 14032 1 hW14 rfl
      exact R_vret (pc := 44) dX9_takenIn_44 rfl (Nat.zero_le _) (Nat.zero_le _) ⟨rfl, _, rfl, hI, hW15, ((nar_t1 hP (clamp19 ha) b7_2).trans (nar_t2 hP (clamp19 ha) b29_12))⟩
set_option maxRecDepth 100000 in
set_option maxHeartbeats 40000000 in
theorem gn_X9_outIn {G : vG} {l : Launch} (σ : Sg) (P : Nat → Prop) (a b c : Int32) (hI : Inv σ) (ha : inR a 0 19) (hP : P a.toNatClampNeg) : Sp G l yX9_outIn cX9_outIn 4 none 0 0 0 [.ref 140, .int a, .int b, .int c] (WW σ) (QV (fun w2 => ∃ σ2, w2 = WW σ2 ∧ Inv σ2 ∧ Cor σ σ2 ∧ Nar P σ σ2)) := by
  refine Sp_of_R [(some (.ref 140)), (some (.int a)), (some (.int b)), (some (.int c))] [] rfl (by simp) rfl (Nat.le_of_ble_eq_true rfl) ?_
  refine R_iload_n (pc := 0) dX9_outIn_0 rfl rfl ?_
  refine R_aload_n (pc := 1) dX9_outIn_1 rfl rfl ?_
  refine g_X9_93 (pc := 2) (v := .ref 165) rfl dX9_outIn_2 (c_140 _) rfl ?_
  refine R_iload_n (pc := 5) dX9_outIn_5 rfl rfl ?_
  have hx1 : vp_in a 20 := (vp_of_inR ha (by decide))
  refine R_iaload (pc := 6) dX9_outIn_6 (c_165 _) hx1 ?_
  refine R_icle (pc := 7) 22 dX9_outIn_7 (by decide) (fun b7_2 => ?_) (fun b7_2 => ?_)
  · skip
    refine R_iload_n (pc := 22) dX9_outIn_22 rfl rfl ?_
    refine R_aload_n (pc := 23) dX9_outIn_23 rfl rfl ?_
    refine g_X9_96 (pc := 24) (v := .ref 166) rfl dX9_outIn_24 (c_140 _) rfl ?_
    refine R_iload_n (pc := 27) dX9_outIn_27 rfl rfl ?_
    have hx3 : vp_in a 20 := (vp_of_inR ha (by decide))
    refine R_iaload (pc := 28) dX9_outIn_28 (c_166 _) hx3 ?_
    refine R_icge (pc := 29) 44 dX9_outIn_29 (by decide) (fun b29_4 => ?_) (fun b29_4 => ?_)
    · skip
      exact R_vret (pc := 44) dX9_outIn_44 rfl (Nat.zero_le _) (Nat.zero_le _) ⟨rfl, _, rfl, hI, (show Cor σ σ from Cor.rfl' σ), (Nar.rfl' _ _)⟩
    · skip
      refine R_aload_n (pc := 32) dX9_outIn_32 rfl rfl ?_
      refine g_X9_96 (pc := 33) (v := .ref 166) rfl dX9_outIn_33 (c_140 _) rfl ?_
      refine R_iload_n (pc := 36) dX9_outIn_36 rfl rfl ?_
      refine R_iload_n (pc := 37) dX9_outIn_37 rfl rfl ?_
      have hx5 : vp_in a 20 := (vp_of_inR ha (by decide))
      refine W_iastore (pc := 38) dX9_outIn_38 (c_166 _) hx5 (a_166 _ _) ?_
      have hW6 := cor_sa 166 (upd (σ.2.2.1 166) (Int32.toNatClampNeg a) c) (show Cor σ σ from Cor.rfl' σ) rfl
      refine R_aload_n (pc := 39) dX9_outIn_39 rfl rfl ?_
      refine R_iconst (pc := 40) (v := 1) dX9_outIn_40 (by decide) ?_
      refine p_X9_204 (pc := 41) rfl dX9_outIn_41 (c_140 _) (Nat.le_of_ble_eq_true rfl) rfl rfl (s_140_32 _ _) ?_
      have hW7 := cor_si 14032 1 hW6 rfl
      exact R_vret (pc := 44) dX9_outIn_44 rfl (Nat.zero_le _) (Nat.zero_le _) ⟨rfl, _, rfl, hI, hW7, (nar_o2 hP (clamp19 ha) b29_4)⟩
  · skip
    refine R_aload_n (pc := 10) dX9_outIn_10 rfl rfl ?_
    refine g_X9_93 (pc := 11) (v := .ref 165) rfl dX9_outIn_11 (c_140 _) rfl ?_
    refine R_iload_n (pc := 14) dX9_outIn_14 rfl rfl ?_
    refine R_iload_n (pc := 15) dX9_outIn_15 rfl rfl ?_
    have hx8 : vp_in a 20 := (vp_of_inR ha (by decide))
    refine W_iastore (pc := 16) dX9_outIn_16 (c_165 _) hx8 (a_165 _ _) ?_
    have hW9 := cor_sa 165 (upd (σ.2.2.1 165) (Int32.toNatClampNeg a) b) (show Cor σ σ from Cor.rfl' σ) rfl
    refine R_aload_n (pc := 17) dX9_outIn_17 rfl rfl ?_
    refine R_iconst (pc := 18) (v := 1) dX9_outIn_18 (by decide) ?_
    refine p_X9_204 (pc := 19) rfl dX9_outIn_19 (c_140 _) (Nat.le_of_ble_eq_true rfl) rfl rfl (s_140_32 _ _) ?_
    have hW10 := cor_si 14032 1 hW9 rfl
    refine R_iload_n (pc := 22) dX9_outIn_22 rfl rfl ?_
    refine R_aload_n (pc := 23) dX9_outIn_23 rfl rfl ?_
    refine g_X9_96 (pc := 24) (v := .ref 166) rfl dX9_outIn_24 (c_140 _) rfl ?_
    refine R_iload_n (pc := 27) dX9_outIn_27 rfl rfl ?_
    have hx11 : vp_in a 20 := (vp_of_inR ha (by decide))
    refine W_iaload (pc := 28) (σ.2.2.1 166 (Int32.toNatClampNeg a)) dX9_outIn_28 (c_166 _) hx11 rfl ?_
    refine R_icge (pc := 29) 44 dX9_outIn_29 (by decide) (fun b29_12 => ?_) (fun b29_12 => ?_)
    · skip
      exact R_vret (pc := 44) dX9_outIn_44 rfl (Nat.zero_le _) (Nat.zero_le _) ⟨rfl, _, rfl, hI, hW10, (nar_o1 hP (clamp19 ha) b7_2)⟩
    · skip
      refine R_aload_n (pc := 32) dX9_outIn_32 rfl rfl ?_
      refine g_X9_96 (pc := 33) (v := .ref 166) rfl dX9_outIn_33 (c_140 _) rfl ?_
      refine R_iload_n (pc := 36) dX9_outIn_36 rfl rfl ?_
      refine R_iload_n (pc := 37) dX9_outIn_37 rfl rfl ?_
      have hx13 : vp_in a 20 := (vp_of_inR ha (by decide))
      refine W_iastore (pc := 38) dX9_outIn_38 (c_166 _) hx13 (a_166 _ _) ?_
      have hW14 := cor_sa 166 (upd ((uI (uA σ 165 (upd (σ.2.2.1 165) (Int32.toNatClampNeg a) b)) 14032 1).2.2.1 166) (Int32.toNatClampNeg a) c) hW10 rfl
      refine R_aload_n (pc := 39) dX9_outIn_39 rfl rfl ?_
      refine R_iconst (pc := 40) (v := 1) dX9_outIn_40 (by decide) ?_
      refine p_X9_204 (pc := 41) rfl dX9_outIn_41 (c_140 _) (Nat.le_of_ble_eq_true rfl) rfl rfl (s_140_32 _ _) ?_
      have hW15 := cor_si 14032 1 hW14 rfl
      exact R_vret (pc := 44) dX9_outIn_44 rfl (Nat.zero_le _) (Nat.zero_le _) ⟨rfl, _, rfl, hI, hW15, ((nar_o1 hP (clamp19 ha) b7_2).trans (nar_o2 hP (clamp19 ha) b29_12))⟩
set_option maxRecDepth 100000 in
set_option maxHeartbeats 40000000 in
theorem gn_X9_narrow {G : vG} {l : Launch} (σ : Sg) (P : Nat → Prop) (c b : Int32) (hI : Inv σ) (hc : inR c 0 19) (hP : P c.toNatClampNeg) : Sp G l yX9_narrow cX9_narrow 5 none 2 0 0 [.ref 140, .int c, .int b] (WW σ) (QV (fun w2 => ∃ σ2, w2 = WW σ2 ∧ Inv σ2 ∧ Cor σ σ2 ∧ Nar P σ σ2)) := by
  refine Sp_of_R [(some (.ref 140)), (some (.int c)), (some (.int b)), none, none] [none, none] rfl (by simp) rfl (Nat.le_of_ble_eq_true rfl) ?_
  refine R_aload_n (pc := 0) dX9_narrow_0 rfl rfl ?_
  refine g_X9_54 (pc := 1) (v := .ref 152) rfl dX9_narrow_1 (c_140 _) rfl ?_
  refine R_iload_n (pc := 4) dX9_narrow_4 rfl rfl ?_
  have hx1 : vp_in c 20 := (vp_of_inR hc (by decide))
  refine R_iaload (pc := 5) dX9_narrow_5 (c_152 _) hx1 ?_
  refine st_5_3_i_i (pc := 6) dX9_narrow_6 ?_
  refine R_iconst (pc := 7) (v := 0) dX9_narrow_7 (by decide) ?_
  refine st_5_4_i_i (pc := 8) dX9_narrow_8 ?_
  have HL10 : ∀ (q j10 : Nat) (σ10 : Sg), j10 + q = 8 → 0 ≤ j10 → Inv σ10 → Cor σ σ10 → Nar P σ σ10 → R G l yX9_narrow cX9_narrow 5 none 2 0 0 (QV (fun w2 => ∃ σ2, w2 = WW σ2 ∧ Inv σ2 ∧ Cor σ σ2 ∧ Nar P σ σ2)) 10 [(some (.ref 140)), (some (.int c)), (some (.int b)), (some (.int (σ.2.2.1 152 (Int32.toNatClampNeg c)))), (some (.int (nI j10)))] [] (WW σ10) 0 0 := by
    intro q
    induction q with
    | zero =>
      intro j10 σ10 hj hs10 hI10 hC10 hX10_0
      obtain rfl : j10 = 8 := by omega
      refine R_iload (pc := 10) dX9_narrow_10 rfl ?_
      refine R_bipush (pc := 12) (v := 8) dX9_narrow_12 (by decide) ?_
      refine R_icge (pc := 14) 167 dX9_narrow_14 (by decide) (fun _ => ?_) (fun h => absurd (by decide) h)
      refine R_aload_n (pc := 167) dX9_narrow_167 rfl rfl ?_
      refine R_iload_n (pc := 168) dX9_narrow_168 rfl rfl ?_
      refine R_aload_n (pc := 169) dX9_narrow_169 rfl rfl ?_
      refine g_X9_75 (pc := 170) (v := .ref 159) rfl dX9_narrow_170 (c_140 _) rfl ?_
      refine R_aload_n (pc := 173) dX9_narrow_173 rfl rfl ?_
      refine g_X9_19 (pc := 174) (v := .ref 144) rfl dX9_narrow_174 (c_140 _) rfl ?_
      refine R_iload_n (pc := 177) dX9_narrow_177 rfl rfl ?_
      have hx3 : vp_in c 20 := (vp_of_inR hc (by decide))
      refine R_iaload (pc := 178) dX9_narrow_178 (c_144 _) hx3 ?_
      have hx4 : vp_in (σ10.2.2.1 144 (Int32.toNatClampNeg c)) 5 := (vp_of_inR (iva_144 hI10 _ (lt_of_vp hx3)) (by decide))
      refine R_iaload (pc := 179) dX9_narrow_179 (c_159 _) hx4 ?_
      refine R_aload_n (pc := 180) dX9_narrow_180 rfl rfl ?_
      refine g_X9_78 (pc := 181) (v := .ref 160) rfl dX9_narrow_181 (c_140 _) rfl ?_
      refine R_aload_n (pc := 184) dX9_narrow_184 rfl rfl ?_
      refine g_X9_19 (pc := 185) (v := .ref 144) rfl dX9_narrow_185 (c_140 _) rfl ?_
      refine R_iload_n (pc := 188) dX9_narrow_188 rfl rfl ?_
      have hx5 : vp_in c 20 := (vp_of_inR hc (by decide))
      refine R_iaload (pc := 189) dX9_narrow_189 (c_144 _) hx5 ?_
      have hx6 : vp_in (σ10.2.2.1 144 (Int32.toNatClampNeg c)) 5 := (vp_of_inR (iva_144 hI10 _ (lt_of_vp hx3)) (by decide))
      refine R_iaload (pc := 190) dX9_narrow_190 (c_160 _) hx6 ?_
      refine k_X9_212 (pc := 191) (gn_X9_outIn _ P _ _ _ hI10 hc hP) rfl (c_140 _) (by decide) (Nat.le_refl _) (Nat.le_refl _) (Nat.le_of_ble_eq_true rfl) dX9_narrow_191 (fun w2 h => ?_)
      obtain ⟨σx8, rfl, hV7, hW10, hN9⟩ := h
      have hW11 := Cor.trans hC10 hW10
      have hN9 := hX10_0.trans hN9
      refine R_aload_n (pc := 194) dX9_narrow_194 rfl rfl ?_
      refine R_iload_n (pc := 195) dX9_narrow_195 rfl rfl ?_
      refine R_aload_n (pc := 196) dX9_narrow_196 rfl rfl ?_
      refine g_X9_87 (pc := 197) (v := .ref 163) rfl dX9_narrow_197 (c_140 _) rfl ?_
      refine R_iload_n (pc := 200) dX9_narrow_200 rfl rfl ?_
      have hx12 : vp_in (σ.2.2.1 152 (Int32.toNatClampNeg c)) 20 := (vp_of_inR (iva_152 hI _ (lt_of_vp hx1)) (by decide))
      refine R_iaload (pc := 201) dX9_narrow_201 (c_163 _) hx12 ?_
      refine R_aload_n (pc := 202) dX9_narrow_202 rfl rfl ?_
      refine g_X9_29 (pc := 203) (v := .ref 147) rfl dX9_narrow_203 (c_140 _) rfl ?_
      refine R_iload_n (pc := 206) dX9_narrow_206 rfl rfl ?_
      have hx13 : vp_in c 20 := (vp_of_inR hc (by decide))
      refine R_iaload (pc := 207) dX9_narrow_207 (c_147 _) hx13 ?_
      refine R_iconst (pc := 208) (v := (-1)) dX9_narrow_208 (by decide) ?_
      refine R_icne (pc := 209) 218 dX9_narrow_209 (by decide) (fun b209_14 => ?_) (fun b209_14 => ?_)
      · skip
        refine R_aload_n (pc := 218) dX9_narrow_218 rfl rfl ?_
        refine g_X9_29 (pc := 219) (v := .ref 147) rfl dX9_narrow_219 (c_140 _) rfl ?_
        refine R_iload_n (pc := 222) dX9_narrow_222 rfl rfl ?_
        have hx15 : vp_in c 20 := (vp_of_inR hc (by decide))
        refine R_iaload (pc := 223) dX9_narrow_223 (c_147 _) hx15 ?_
        refine k_X9_212 (pc := 224) (gn_X9_outIn _ P _ _ _ hV7 hc hP) rfl (c_140 _) (by decide) (Nat.le_refl _) (Nat.le_refl _) (Nat.le_of_ble_eq_true rfl) dX9_narrow_224 (fun w2 h => ?_)
        obtain ⟨σx17, rfl, hV16, hW19, hN18⟩ := h
        have hW20 := Cor.trans hW11 hW19
        have hN18 := hN9.trans hN18
        refine R_aload_n (pc := 227) dX9_narrow_227 rfl rfl ?_
        refine R_iload_n (pc := 228) dX9_narrow_228 rfl rfl ?_
        refine R_iconst (pc := 229) (v := 0) dX9_narrow_229 (by decide) ?_
        refine R_aload_n (pc := 230) dX9_narrow_230 rfl rfl ?_
        refine g_X9_96 (pc := 231) (v := .ref 166) rfl dX9_narrow_231 (c_140 _) rfl ?_
        refine R_iload_n (pc := 234) dX9_narrow_234 rfl rfl ?_
        have hx21 : vp_in c 20 := (vp_of_inR hc (by decide))
        refine R_iaload (pc := 235) dX9_narrow_235 (c_166 _) hx21 ?_
        refine k_X9_208 (pc := 236) (gn_X9_takenIn _ P _ _ _ hV16 (iva_152 hI _ (lt_of_vp hx1)) ⟨_, hP, congrArg (fun f : Nat → Int32 => (f c.toNatClampNeg).toNatClampNeg) hN18.1.2.2.2⟩) rfl (c_140 _) (by decide) (Nat.le_refl _) (Nat.le_refl _) (Nat.le_of_ble_eq_true rfl) dX9_narrow_236 (fun w2 h => ?_)
        obtain ⟨σx23, rfl, hV22, hW25, hN24⟩ := h
        have hW26 := Cor.trans hW20 hW25
        have hN24 := hN18.trans hN24
        refine R_iconst (pc := 239) (v := 0) dX9_narrow_239 (by decide) ?_
        refine st_5_4_i_i (pc := 240) dX9_narrow_240 ?_
        have HL242 : ∀ (q j242 : Nat) (σ242 : Sg), j242 + q = 8 → 0 ≤ j242 → Inv σ242 → Cor σ σ242 → Nar P σ σ242 → R G l yX9_narrow cX9_narrow 5 none 2 0 0 (QV (fun w2 => ∃ σ2, w2 = WW σ2 ∧ Inv σ2 ∧ Cor σ σ2 ∧ Nar P σ σ2)) 242 [(some (.ref 140)), (some (.int c)), (some (.int b)), (some (.int (σ.2.2.1 152 (Int32.toNatClampNeg c)))), (some (.int (nI j242)))] [] (WW σ242) 0 0 := by
          intro q
          induction q with
          | zero =>
            intro j242 σ242 hj hs242 hI242 hC242 hX242_0
            obtain rfl : j242 = 8 := by omega
            refine R_iload (pc := 242) dX9_narrow_242 rfl ?_
            refine R_aload_n (pc := 244) dX9_narrow_244 rfl rfl ?_
            refine g_X9_215 (pc := 245) (v := .int (σ242.1 14047)) rfl dX9_narrow_245 (c_140 _) rfl ?_
            refine R_icge (pc := 248) 319 dX9_narrow_248 (by decide) (fun _ => ?_) (fun h => absurd (Int32.not_lt.mp (inR_up (iv_14047 hI242) (Int32.le_refl _) (by decide)).2) h)
            exact R_vret (pc := 319) dX9_narrow_319 rfl (Nat.zero_le _) (Nat.zero_le _) ⟨rfl, _, rfl, hI242, hC242, hX242_0⟩
          | succ q ih242 =>
            intro j242 σ242 hj hs242 hI242 hC242 hX242_0
            have hrg242 : inR (nI j242) 0 7 := inR_ix hs242 (show j242 < 8 by omega) (by decide) (by decide) (by decide)
            have hlt242 : j242 < 8 := by omega
            refine R_iload (pc := 242) dX9_narrow_242 rfl ?_
            refine R_aload_n (pc := 244) dX9_narrow_244 rfl rfl ?_
            refine g_X9_215 (pc := 245) (v := .int (σ242.1 14047)) rfl dX9_narrow_245 (c_140 _) rfl ?_
            refine R_icge (pc := 248) 319 dX9_narrow_248 (by decide) (fun b248_28 => ?_) (fun b248_28 => ?_)
            · skip
              exact R_vret (pc := 319) dX9_narrow_319 rfl (Nat.zero_le _) (Nat.zero_le _) ⟨rfl, _, rfl, hI242, hC242, hX242_0⟩
            · skip
              refine R_iload_n (pc := 251) dX9_narrow_251 rfl rfl ?_
              refine R_ifeq (pc := 252) 319 dX9_narrow_252 (by decide) (fun b252_29 => ?_) (fun b252_29 => ?_)
              · skip
                exact R_vret (pc := 319) dX9_narrow_319 rfl (Nat.zero_le _) (Nat.zero_le _) ⟨rfl, _, rfl, hI242, hC242, hX242_0⟩
              · skip
                refine R_aload_n (pc := 255) dX9_narrow_255 rfl rfl ?_
                refine g_X9_114 (pc := 256) (v := .ref 172) rfl dX9_narrow_256 (c_140 _) rfl ?_
                refine R_bipush (pc := 259) (v := 6) dX9_narrow_259 (by decide) ?_
                refine R_iload (pc := 261) dX9_narrow_261 rfl ?_
                refine R_imul (pc := 263) dX9_narrow_263 ?_
                have r30 : inR (6 * (nI j242)) 0 42 := inR_mulc (c := 6) (l := 0) (h := 42) 6 (by decide) (show inR (nI j242) 0 7 from hrg242) (by decide) (by decide)
                have e31 := ti_mulc (c := 6) (l := 0) (h := 42) 6 (by decide) (show inR (nI j242) 0 7 from hrg242) (by decide) (by decide)
                refine R_iconst (pc := 264) (v := 3) dX9_narrow_264 (by decide) ?_
                refine R_iadd (pc := 265) dX9_narrow_265 ?_
                have r32 : inR ((6 * (nI j242)) + 3) 3 45 := inR_add (show inR (6 * (nI j242)) 0 42 from r30) (show inR 3 3 3 from (inR_self _)) (by decide) (by decide)
                have e33 := ti_add (l := 3) (h := 45) (show inR (6 * (nI j242)) 0 42 from r30) (show inR 3 3 3 from (inR_self _)) (by decide) (by decide)
                have hx34 : vp_in ((6 * (nI j242)) + 3) 48 := (vp_ti (by have q0 := e31; have q1 := e33; have q2 := ti_ne b209_14; have q3 := ti_nle b248_28; have q4 := ti_ne b252_29; have q5 := ti_in hc; have q6 := ti_in (iva_152 hI _ (lt_of_vp hx1)); have q7 := ti_in (iva_144 hI10 _ (lt_of_vp hx3)); have q8 := ti_in hrg242; have q9 := ti_in (iv_14047 hI242); have q10 := ti_in r30; have q11 := ti_in r32; have z0 : (-1 : Int32).toInt = -1 := (by decide); have z1 : (0 : Int32).toInt = 0 := (by decide); have z2 : (1 : Int32).toInt = 1 := (by decide); have z3 : (14047 : Int32).toInt = 14047 := (by decide); have z4 : (147 : Int32).toInt = 147 := (by decide); have z5 : (19 : Int32).toInt = 19 := (by decide); have z6 : (3 : Int32).toInt = 3 := (by decide); have z7 : (4 : Int32).toInt = 4 := (by decide); have z8 : (42 : Int32).toInt = 42 := (by decide); have z9 : (45 : Int32).toInt = 45 := (by decide); have z10 : (7 : Int32).toInt = 7 := (by decide); have z11 : (8 : Int32).toInt = 8 := (by decide); omega) (by have q0 := e31; have q1 := e33; have q2 := ti_ne b209_14; have q3 := ti_nle b248_28; have q4 := ti_ne b252_29; have q5 := ti_in hc; have q6 := ti_in (iva_152 hI _ (lt_of_vp hx1)); have q7 := ti_in (iva_144 hI10 _ (lt_of_vp hx3)); have q8 := ti_in hrg242; have q9 := ti_in (iv_14047 hI242); have q10 := ti_in r30; have q11 := ti_in r32; have z0 : (-1 : Int32).toInt = -1 := (by decide); have z1 : (0 : Int32).toInt = 0 := (by decide); have z2 : (1 : Int32).toInt = 1 := (by decide); have z3 : (14047 : Int32).toInt = 14047 := (by decide); have z4 : (147 : Int32).toInt = 147 := (by decide); have z5 : (19 : Int32).toInt = 19 := (by decide); have z6 : (3 : Int32).toInt = 3 := (by decide); have z7 : (4 : Int32).toInt = 4 := (by decide); have z8 : (42 : Int32).toInt = 42 := (by decide); have z9 : (45 : Int32).toInt = 45 := (by decide); have z10 : (7 : Int32).toInt = 7 := (by decide); have z11 : (8 : Int32).toInt = 8 := (by decide); omega))
                refine R_iaload (pc := 266) dX9_narrow_266 (c_172 _) hx34 ?_
                refine R_iconst (pc := 267) (v := 1) dX9_narrow_267 (by decide) ?_
                refine R_icne (pc := 268) 313 dX9_narrow_268 (by decide) (fun b268_35 => ?_) (fun b268_35 => ?_)
                · skip
                  refine inc_5_4_1_i (pc := 313) dX9_narrow_313 ?_
                  have r36 : inR ((nI j242) + 1) 1 8 := inR_add (show inR (nI j242) 0 7 from hrg242) (show inR 1 1 1 from (inR_self _)) (by decide) (by decide)
                  have e37 := ti_add (l := 1) (h := 8) (show inR (nI j242) 0 7 from hrg242) (show inR 1 1 1 from (inR_self _)) (by decide) (by decide)
                  refine R_goto (pc := 316) 242 dX9_narrow_316 (by decide) ?_
                  rw [nI_1]
                  exact ih242 (j242 + 1) _ (by omega) (by omega) hI242 hC242 hX242_0
                · skip
                  refine R_aload_n (pc := 271) dX9_narrow_271 rfl rfl ?_
                  refine R_iload_n (pc := 272) dX9_narrow_272 rfl rfl ?_
                  refine R_bipush (pc := 273) (v := 6) dX9_narrow_273 (by decide) ?_
                  refine R_iload (pc := 275) dX9_narrow_275 rfl ?_
                  refine R_imul (pc := 277) dX9_narrow_277 ?_
                  have r38 : inR (6 * (nI j242)) 0 42 := inR_mulc (c := 6) (l := 0) (h := 42) 6 (by decide) (show inR (nI j242) 0 7 from hrg242) (by decide) (by decide)
                  have e39 := ti_mulc (c := 6) (l := 0) (h := 42) 6 (by decide) (show inR (nI j242) 0 7 from hrg242) (by decide) (by decide)
                  refine k_X9_218 (pc := 278) (gx_X9_isOf _ _ _ hI242 hc r38) rfl (c_140 _) (by decide) (Nat.le_refl _) (Nat.le_refl _) (Nat.le_of_ble_eq_true rfl) dX9_narrow_278 (fun y40 w2 h => ?_)
                  subst h
                  refine R_ifeq (pc := 281) 313 dX9_narrow_281 (by decide) (fun b281_41 => ?_) (fun b281_41 => ?_)
                  · skip
                    refine inc_5_4_1_i (pc := 313) dX9_narrow_313 ?_
                    have r42 : inR ((nI j242) + 1) 1 8 := inR_add (show inR (nI j242) 0 7 from hrg242) (show inR 1 1 1 from (inR_self _)) (by decide) (by decide)
                    have e43 := ti_add (l := 1) (h := 8) (show inR (nI j242) 0 7 from hrg242) (show inR 1 1 1 from (inR_self _)) (by decide) (by decide)
                    refine R_goto (pc := 316) 242 dX9_narrow_316 (by decide) ?_
                    rw [nI_1]
                    exact ih242 (j242 + 1) _ (by omega) (by omega) hI242 hC242 hX242_0
                  · skip
                    refine R_aload_n (pc := 284) dX9_narrow_284 rfl rfl ?_
                    refine R_iload_n (pc := 285) dX9_narrow_285 rfl rfl ?_
                    refine R_aload_n (pc := 286) dX9_narrow_286 rfl rfl ?_
                    refine g_X9_114 (pc := 287) (v := .ref 172) rfl dX9_narrow_287 (c_140 _) rfl ?_
                    refine R_bipush (pc := 290) (v := 6) dX9_narrow_290 (by decide) ?_
                    refine R_iload (pc := 292) dX9_narrow_292 rfl ?_
                    refine R_imul (pc := 294) dX9_narrow_294 ?_
                    have r44 : inR (6 * (nI j242)) 0 42 := inR_mulc (c := 6) (l := 0) (h := 42) 6 (by decide) (show inR (nI j242) 0 7 from hrg242) (by decide) (by decide)
                    have e45 := ti_mulc (c := 6) (l := 0) (h := 42) 6 (by decide) (show inR (nI j242) 0 7 from hrg242) (by decide) (by decide)
                    refine R_iconst (pc := 295) (v := 4) dX9_narrow_295 (by decide) ?_
                    refine R_iadd (pc := 296) dX9_narrow_296 ?_
                    have r46 : inR ((6 * (nI j242)) + 4) 4 46 := inR_add (show inR (6 * (nI j242)) 0 42 from r44) (show inR 4 4 4 from (inR_self _)) (by decide) (by decide)
                    have e47 := ti_add (l := 4) (h := 46) (show inR (6 * (nI j242)) 0 42 from r44) (show inR 4 4 4 from (inR_self _)) (by decide) (by decide)
                    have hx48 : vp_in ((6 * (nI j242)) + 4) 48 := (vp_ti (by have q0 := e31; have q1 := e33; have q2 := e39; have q3 := e45; have q4 := e47; have q5 := ti_ne b209_14; have q6 := ti_nle b248_28; have q7 := ti_ne b252_29; have q8 := ti_eq b268_35; have q9 := ti_ne b281_41; have q10 := ti_in hc; have q11 := ti_in (iva_152 hI _ (lt_of_vp hx1)); have q12 := ti_in (iva_144 hI10 _ (lt_of_vp hx3)); have q13 := ti_in hrg242; have q14 := ti_in (iv_14047 hI242); have q15 := ti_in r44; have q16 := ti_in r32; have q17 := ti_in r46; have z0 : (-1 : Int32).toInt = -1 := (by decide); have z1 : (0 : Int32).toInt = 0 := (by decide); have z2 : (1 : Int32).toInt = 1 := (by decide); have z3 : (14047 : Int32).toInt = 14047 := (by decide); have z4 : (147 : Int32).toInt = 147 := (by decide); have z5 : (172 : Int32).toInt = 172 := (by decide); have z6 : (19 : Int32).toInt = 19 := (by decide); have z7 : (3 : Int32).toInt = 3 := (by decide); have z8 : (4 : Int32).toInt = 4 := (by decide); have z9 : (42 : Int32).toInt = 42 := (by decide); have z10 : (45 : Int32).toInt = 45 := (by decide); have z11 : (46 : Int32).toInt = 46 := (by decide); have z12 : (6 : Int32).toInt = 6 := (by decide); have z13 : (7 : Int32).toInt = 7 := (by decide); have z14 : (8 : Int32).toInt = 8 := (by decide); omega) (by have q0 := e31; have q1 := e33; have q2 := e39; have q3 := e45; have q4 := e47; have q5 := ti_ne b209_14; have q6 := ti_nle b248_28; have q7 := ti_ne b252_29; have q8 := ti_eq b268_35; have q9 := ti_ne b281_41; have q10 := ti_in hc; have q11 := ti_in (iva_152 hI _ (lt_of_vp hx1)); have q12 := ti_in (iva_144 hI10 _ (lt_of_vp hx3)); have q13 := ti_in hrg242; have q14 := ti_in (iv_14047 hI242); have q15 := ti_in r44; have q16 := ti_in r32; have q17 := ti_in r46; have z0 : (-1 : Int32).toInt = -1 := (by decide); have z1 : (0 : Int32).toInt = 0 := (by decide); have z2 : (1 : Int32).toInt = 1 := (by decide); have z3 : (14047 : Int32).toInt = 14047 := (by decide); have z4 : (147 : Int32).toInt = 147 := (by decide); have z5 : (172 : Int32).toInt = 172 := (by decide); have z6 : (19 : Int32).toInt = 19 := (by decide); have z7 : (3 : Int32).toInt = 3 := (by decide); have z8 : (4 : Int32).toInt = 4 := (by decide); have z9 : (42 : Int32).toInt = 42 := (by decide); have z10 : (45 : Int32).toInt = 45 := (by decide); have z11 : (46 : Int32).toInt = 46 := (by decide); have z12 : (6 : Int32).toInt = 6 := (by decide); have z13 : (7 : Int32).toInt = 7 := (by decide); have z14 : (8 : Int32).toInt = 8 := (by decide); omega))
                    refine R_iaload (pc := 297) dX9_narrow_297 (c_172 _) hx48 ?_
                    refine R_aload_n (pc := 298) dX9_narrow_298 rfl rfl ?_
                    refine g_X9_114 (pc := 299) (v := .ref 172) rfl dX9_narrow_299 (c_140 _) rfl ?_
                    refine R_bipush (pc := 302) (v := 6) dX9_narrow_302 (by decide) ?_
                    refine R_iload (pc := 304) dX9_narrow_304 rfl ?_
                    refine R_imul (pc := 306) dX9_narrow_306 ?_
                    have r49 : inR (6 * (nI j242)) 0 42 := inR_mulc (c := 6) (l := 0) (h := 42) 6 (by decide) (show inR (nI j242) 0 7 from hrg242) (by decide) (by decide)
                    have e50 := ti_mulc (c := 6) (l := 0) (h := 42) 6 (by decide) (show inR (nI j242) 0 7 from hrg242) (by decide) (by decide)
                    refine R_iconst (pc := 307) (v := 5) dX9_narrow_307 (by decide) ?_
                    refine R_iadd (pc := 308) dX9_narrow_308 ?_
                    have r51 : inR ((6 * (nI j242)) + 5) 5 47 := inR_add (show inR (6 * (nI j242)) 0 42 from r49) (show inR 5 5 5 from (inR_self _)) (by decide) (by decide)
                    have e52 := ti_add (l := 5) (h := 47) (show inR (6 * (nI j242)) 0 42 from r49) (show inR 5 5 5 from (inR_self _)) (by decide) (by decide)
                    have hx53 : vp_in ((6 * (nI j242)) + 5) 48 := (vp_ti (by have q0 := e31; have q1 := e33; have q2 := e39; have q3 := e45; have q4 := e47; have q5 := e50; have q6 := e52; have q7 := ti_ne b209_14; have q8 := ti_nle b248_28; have q9 := ti_ne b252_29; have q10 := ti_eq b268_35; have q11 := ti_ne b281_41; have q12 := ti_in hc; have q13 := ti_in (iva_152 hI _ (lt_of_vp hx1)); have q14 := ti_in (iva_144 hI10 _ (lt_of_vp hx3)); have q15 := ti_in hrg242; have q16 := ti_in (iv_14047 hI242); have q17 := ti_in r49; have q18 := ti_in r32; have q19 := ti_in r46; have q20 := ti_in r51; have z0 : (-1 : Int32).toInt = -1 := (by decide); have z1 : (0 : Int32).toInt = 0 := (by decide); have z2 : (1 : Int32).toInt = 1 := (by decide); have z3 : (14047 : Int32).toInt = 14047 := (by decide); have z4 : (147 : Int32).toInt = 147 := (by decide); have z5 : (172 : Int32).toInt = 172 := (by decide); have z6 : (19 : Int32).toInt = 19 := (by decide); have z7 : (3 : Int32).toInt = 3 := (by decide); have z8 : (4 : Int32).toInt = 4 := (by decide); have z9 : (42 : Int32).toInt = 42 := (by decide); have z10 : (45 : Int32).toInt = 45 := (by decide); have z11 : (46 : Int32).toInt = 46 := (by decide); have z12 : (47 : Int32).toInt = 47 := (by decide); have z13 : (5 : Int32).toInt = 5 := (by decide); have z14 : (6 : Int32).toInt = 6 := (by decide); have z15 : (7 : Int32).toInt = 7 := (by decide); have z16 : (8 : Int32).toInt = 8 := (by decide); omega) (by have q0 := e31; have q1 := e33; have q2 := e39; have q3 := e45; have q4 := e47; have q5 := e50; have q6 := e52; have q7 := ti_ne b209_14; have q8 := ti_nle b248_28; have q9 := ti_ne b252_29; have q10 := ti_eq b268_35; have q11 := ti_ne b281_41; have q12 := ti_in hc; have q13 := ti_in (iva_152 hI _ (lt_of_vp hx1)); have q14 := ti_in (iva_144 hI10 _ (lt_of_vp hx3)); have q15 := ti_in hrg242; have q16 := ti_in (iv_14047 hI242); have q17 := ti_in r49; have q18 := ti_in r32; have q19 := ti_in r46; have q20 := ti_in r51; have z0 : (-1 : Int32).toInt = -1 := (by decide); have z1 : (0 : Int32).toInt = 0 := (by decide); have z2 : (1 : Int32).toInt = 1 := (by decide); have z3 : (14047 : Int32).toInt = 14047 := (by decide); have z4 : (147 : Int32).toInt = 147 := (by decide); have z5 : (172 : Int32).toInt = 172 := (by decide); have z6 : (19 : Int32).toInt = 19 := (by decide); have z7 : (3 : Int32).toInt = 3 := (by decide); have z8 : (4 : Int32).toInt = 4 := (by decide); have z9 : (42 : Int32).toInt = 42 := (by decide); have z10 : (45 : Int32).toInt = 45 := (by decide); have z11 : (46 : Int32).toInt = 46 := (by decide); have z12 : (47 : Int32).toInt = 47 := (by decide); have z13 : (5 : Int32).toInt = 5 := (by decide); have z14 : (6 : Int32).toInt = 6 := (by decide); have z15 : (7 : Int32).toInt = 7 := (by decide); have z16 : (8 : Int32).toInt = 8 := (by decide); omega))
                    refine R_iaload (pc := 309) dX9_narrow_309 (c_172 _) hx53 ?_
                    refine k_X9_212 (pc := 310) (gn_X9_outIn _ P _ _ _ hI242 hc hP) rfl (c_140 _) (by decide) (Nat.le_refl _) (Nat.le_refl _) (Nat.le_of_ble_eq_true rfl) dX9_narrow_310 (fun w2 h => ?_)
                    obtain ⟨σx55, rfl, hV54, hW57, hN56⟩ := h
                    have hW58 := Cor.trans hC242 hW57
                    have hN56 := hX242_0.trans hN56
                    refine inc_5_4_1_i (pc := 313) dX9_narrow_313 ?_
                    have r59 : inR ((nI j242) + 1) 1 8 := inR_add (show inR (nI j242) 0 7 from hrg242) (show inR 1 1 1 from (inR_self _)) (by decide) (by decide)
                    have e60 := ti_add (l := 1) (h := 8) (show inR (nI j242) 0 7 from hrg242) (show inR 1 1 1 from (inR_self _)) (by decide) (by decide)
                    refine R_goto (pc := 316) 242 dX9_narrow_316 (by decide) ?_
                    rw [nI_1]
                    exact ih242 (j242 + 1) _ (by omega) (by omega) hV54 hW58 hN56
        exact HL242 8 0 _ (by omega) (by omega) hV22 hW26 hN24
      · skip
        refine R_sipush (pc := 212) (v := 20000) dX9_narrow_212 (by decide) ?_
        refine R_goto (pc := 215) 224 dX9_narrow_215 (by decide) ?_
        refine k_X9_212 (pc := 224) (gn_X9_outIn _ P _ _ _ hV7 hc hP) rfl (c_140 _) (by decide) (Nat.le_refl _) (Nat.le_refl _) (Nat.le_of_ble_eq_true rfl) dX9_narrow_224 (fun w2 h => ?_)
        obtain ⟨σx62, rfl, hV61, hW64, hN63⟩ := h
        have hW65 := Cor.trans hW11 hW64
        have hN63 := hN9.trans hN63
        refine R_aload_n (pc := 227) dX9_narrow_227 rfl rfl ?_
        refine R_iload_n (pc := 228) dX9_narrow_228 rfl rfl ?_
        refine R_iconst (pc := 229) (v := 0) dX9_narrow_229 (by decide) ?_
        refine R_aload_n (pc := 230) dX9_narrow_230 rfl rfl ?_
        refine g_X9_96 (pc := 231) (v := .ref 166) rfl dX9_narrow_231 (c_140 _) rfl ?_
        refine R_iload_n (pc := 234) dX9_narrow_234 rfl rfl ?_
        have hx66 : vp_in c 20 := (vp_of_inR hc (by decide))
        refine R_iaload (pc := 235) dX9_narrow_235 (c_166 _) hx66 ?_
        refine k_X9_208 (pc := 236) (gn_X9_takenIn _ P _ _ _ hV61 (iva_152 hI _ (lt_of_vp hx1)) ⟨_, hP, congrArg (fun f : Nat → Int32 => (f c.toNatClampNeg).toNatClampNeg) hN63.1.2.2.2⟩) rfl (c_140 _) (by decide) (Nat.le_refl _) (Nat.le_refl _) (Nat.le_of_ble_eq_true rfl) dX9_narrow_236 (fun w2 h => ?_)
        obtain ⟨σx68, rfl, hV67, hW70, hN69⟩ := h
        have hW71 := Cor.trans hW65 hW70
        have hN69 := hN63.trans hN69
        refine R_iconst (pc := 239) (v := 0) dX9_narrow_239 (by decide) ?_
        refine st_5_4_i_i (pc := 240) dX9_narrow_240 ?_
        have HL242 : ∀ (q j242 : Nat) (σ242 : Sg), j242 + q = 8 → 0 ≤ j242 → Inv σ242 → Cor σ σ242 → Nar P σ σ242 → R G l yX9_narrow cX9_narrow 5 none 2 0 0 (QV (fun w2 => ∃ σ2, w2 = WW σ2 ∧ Inv σ2 ∧ Cor σ σ2 ∧ Nar P σ σ2)) 242 [(some (.ref 140)), (some (.int c)), (some (.int b)), (some (.int (σ.2.2.1 152 (Int32.toNatClampNeg c)))), (some (.int (nI j242)))] [] (WW σ242) 0 0 := by
          intro q
          induction q with
          | zero =>
            intro j242 σ242 hj hs242 hI242 hC242 hX242_0
            obtain rfl : j242 = 8 := by omega
            refine R_iload (pc := 242) dX9_narrow_242 rfl ?_
            refine R_aload_n (pc := 244) dX9_narrow_244 rfl rfl ?_
            refine g_X9_215 (pc := 245) (v := .int (σ242.1 14047)) rfl dX9_narrow_245 (c_140 _) rfl ?_
            refine R_icge (pc := 248) 319 dX9_narrow_248 (by decide) (fun _ => ?_) (fun h => absurd (Int32.not_lt.mp (inR_up (iv_14047 hI242) (Int32.le_refl _) (by decide)).2) h)
            exact R_vret (pc := 319) dX9_narrow_319 rfl (Nat.zero_le _) (Nat.zero_le _) ⟨rfl, _, rfl, hI242, hC242, hX242_0⟩
          | succ q ih242 =>
            intro j242 σ242 hj hs242 hI242 hC242 hX242_0
            have hrg242 : inR (nI j242) 0 7 := inR_ix hs242 (show j242 < 8 by omega) (by decide) (by decide) (by decide)
            have hlt242 : j242 < 8 := by omega
            refine R_iload (pc := 242) dX9_narrow_242 rfl ?_
            refine R_aload_n (pc := 244) dX9_narrow_244 rfl rfl ?_
            refine g_X9_215 (pc := 245) (v := .int (σ242.1 14047)) rfl dX9_narrow_245 (c_140 _) rfl ?_
            refine R_icge (pc := 248) 319 dX9_narrow_248 (by decide) (fun b248_73 => ?_) (fun b248_73 => ?_)
            · skip
              exact R_vret (pc := 319) dX9_narrow_319 rfl (Nat.zero_le _) (Nat.zero_le _) ⟨rfl, _, rfl, hI242, hC242, hX242_0⟩
            · skip
              refine R_iload_n (pc := 251) dX9_narrow_251 rfl rfl ?_
              refine R_ifeq (pc := 252) 319 dX9_narrow_252 (by decide) (fun b252_74 => ?_) (fun b252_74 => ?_)
              · skip
                exact R_vret (pc := 319) dX9_narrow_319 rfl (Nat.zero_le _) (Nat.zero_le _) ⟨rfl, _, rfl, hI242, hC242, hX242_0⟩
              · skip
                refine R_aload_n (pc := 255) dX9_narrow_255 rfl rfl ?_
                refine g_X9_114 (pc := 256) (v := .ref 172) rfl dX9_narrow_256 (c_140 _) rfl ?_
                refine R_bipush (pc := 259) (v := 6) dX9_narrow_259 (by decide) ?_
                refine R_iload (pc := 261) dX9_narrow_261 rfl ?_
                refine R_imul (pc := 263) dX9_narrow_263 ?_
                have r75 : inR (6 * (nI j242)) 0 42 := inR_mulc (c := 6) (l := 0) (h := 42) 6 (by decide) (show inR (nI j242) 0 7 from hrg242) (by decide) (by decide)
                have e76 := ti_mulc (c := 6) (l := 0) (h := 42) 6 (by decide) (show inR (nI j242) 0 7 from hrg242) (by decide) (by decide)
                refine R_iconst (pc := 264) (v := 3) dX9_narrow_264 (by decide) ?_
                refine R_iadd (pc := 265) dX9_narrow_265 ?_
                have r77 : inR ((6 * (nI j242)) + 3) 3 45 := inR_add (show inR (6 * (nI j242)) 0 42 from r75) (show inR 3 3 3 from (inR_self _)) (by decide) (by decide)
                have e78 := ti_add (l := 3) (h := 45) (show inR (6 * (nI j242)) 0 42 from r75) (show inR 3 3 3 from (inR_self _)) (by decide) (by decide)
                have hx79 : vp_in ((6 * (nI j242)) + 3) 48 := (vp_ti (by have q0 := e76; have q1 := e78; have q2 := ti_eq b209_14; have q3 := ti_nle b248_73; have q4 := ti_ne b252_74; have q5 := ti_in hc; have q6 := ti_in (iva_152 hI _ (lt_of_vp hx1)); have q7 := ti_in (iva_144 hI10 _ (lt_of_vp hx3)); have q8 := ti_in hrg242; have q9 := ti_in (iv_14047 hI242); have q10 := ti_in r75; have q11 := ti_in r77; have z0 : (-1 : Int32).toInt = -1 := (by decide); have z1 : (0 : Int32).toInt = 0 := (by decide); have z2 : (1 : Int32).toInt = 1 := (by decide); have z3 : (14047 : Int32).toInt = 14047 := (by decide); have z4 : (147 : Int32).toInt = 147 := (by decide); have z5 : (19 : Int32).toInt = 19 := (by decide); have z6 : (3 : Int32).toInt = 3 := (by decide); have z7 : (4 : Int32).toInt = 4 := (by decide); have z8 : (42 : Int32).toInt = 42 := (by decide); have z9 : (45 : Int32).toInt = 45 := (by decide); have z10 : (7 : Int32).toInt = 7 := (by decide); have z11 : (8 : Int32).toInt = 8 := (by decide); omega) (by have q0 := e76; have q1 := e78; have q2 := ti_eq b209_14; have q3 := ti_nle b248_73; have q4 := ti_ne b252_74; have q5 := ti_in hc; have q6 := ti_in (iva_152 hI _ (lt_of_vp hx1)); have q7 := ti_in (iva_144 hI10 _ (lt_of_vp hx3)); have q8 := ti_in hrg242; have q9 := ti_in (iv_14047 hI242); have q10 := ti_in r75; have q11 := ti_in r77; have z0 : (-1 : Int32).toInt = -1 := (by decide); have z1 : (0 : Int32).toInt = 0 := (by decide); have z2 : (1 : Int32).toInt = 1 := (by decide); have z3 : (14047 : Int32).toInt = 14047 := (by decide); have z4 : (147 : Int32).toInt = 147 := (by decide); have z5 : (19 : Int32).toInt = 19 := (by decide); have z6 : (3 : Int32).toInt = 3 := (by decide); have z7 : (4 : Int32).toInt = 4 := (by decide); have z8 : (42 : Int32).toInt = 42 := (by decide); have z9 : (45 : Int32).toInt = 45 := (by decide); have z10 : (7 : Int32).toInt = 7 := (by decide); have z11 : (8 : Int32).toInt = 8 := (by decide); omega))
                refine R_iaload (pc := 266) dX9_narrow_266 (c_172 _) hx79 ?_
                refine R_iconst (pc := 267) (v := 1) dX9_narrow_267 (by decide) ?_
                refine R_icne (pc := 268) 313 dX9_narrow_268 (by decide) (fun b268_80 => ?_) (fun b268_80 => ?_)
                · skip
                  refine inc_5_4_1_i (pc := 313) dX9_narrow_313 ?_
                  have r81 : inR ((nI j242) + 1) 1 8 := inR_add (show inR (nI j242) 0 7 from hrg242) (show inR 1 1 1 from (inR_self _)) (by decide) (by decide)
                  have e82 := ti_add (l := 1) (h := 8) (show inR (nI j242) 0 7 from hrg242) (show inR 1 1 1 from (inR_self _)) (by decide) (by decide)
                  refine R_goto (pc := 316) 242 dX9_narrow_316 (by decide) ?_
                  rw [nI_1]
                  exact ih242 (j242 + 1) _ (by omega) (by omega) hI242 hC242 hX242_0
                · skip
                  refine R_aload_n (pc := 271) dX9_narrow_271 rfl rfl ?_
                  refine R_iload_n (pc := 272) dX9_narrow_272 rfl rfl ?_
                  refine R_bipush (pc := 273) (v := 6) dX9_narrow_273 (by decide) ?_
                  refine R_iload (pc := 275) dX9_narrow_275 rfl ?_
                  refine R_imul (pc := 277) dX9_narrow_277 ?_
                  have r83 : inR (6 * (nI j242)) 0 42 := inR_mulc (c := 6) (l := 0) (h := 42) 6 (by decide) (show inR (nI j242) 0 7 from hrg242) (by decide) (by decide)
                  have e84 := ti_mulc (c := 6) (l := 0) (h := 42) 6 (by decide) (show inR (nI j242) 0 7 from hrg242) (by decide) (by decide)
                  refine k_X9_218 (pc := 278) (gx_X9_isOf _ _ _ hI242 hc r83) rfl (c_140 _) (by decide) (Nat.le_refl _) (Nat.le_refl _) (Nat.le_of_ble_eq_true rfl) dX9_narrow_278 (fun y85 w2 h => ?_)
                  subst h
                  refine R_ifeq (pc := 281) 313 dX9_narrow_281 (by decide) (fun b281_86 => ?_) (fun b281_86 => ?_)
                  · skip
                    refine inc_5_4_1_i (pc := 313) dX9_narrow_313 ?_
                    have r87 : inR ((nI j242) + 1) 1 8 := inR_add (show inR (nI j242) 0 7 from hrg242) (show inR 1 1 1 from (inR_self _)) (by decide) (by decide)
                    have e88 := ti_add (l := 1) (h := 8) (show inR (nI j242) 0 7 from hrg242) (show inR 1 1 1 from (inR_self _)) (by decide) (by decide)
                    refine R_goto (pc := 316) 242 dX9_narrow_316 (by decide) ?_
                    rw [nI_1]
                    exact ih242 (j242 + 1) _ (by omega) (by omega) hI242 hC242 hX242_0
                  · skip
                    refine R_aload_n (pc := 284) dX9_narrow_284 rfl rfl ?_
                    refine R_iload_n (pc := 285) dX9_narrow_285 rfl rfl ?_
                    refine R_aload_n (pc := 286) dX9_narrow_286 rfl rfl ?_
                    refine g_X9_114 (pc := 287) (v := .ref 172) rfl dX9_narrow_287 (c_140 _) rfl ?_
                    refine R_bipush (pc := 290) (v := 6) dX9_narrow_290 (by decide) ?_
                    refine R_iload (pc := 292) dX9_narrow_292 rfl ?_
                    refine R_imul (pc := 294) dX9_narrow_294 ?_
                    have r89 : inR (6 * (nI j242)) 0 42 := inR_mulc (c := 6) (l := 0) (h := 42) 6 (by decide) (show inR (nI j242) 0 7 from hrg242) (by decide) (by decide)
                    have e90 := ti_mulc (c := 6) (l := 0) (h := 42) 6 (by decide) (show inR (nI j242) 0 7 from hrg242) (by decide) (by decide)
                    refine R_iconst (pc := 295) (v := 4) dX9_narrow_295 (by decide) ?_
                    refine R_iadd (pc := 296) dX9_narrow_296 ?_
                    have r91 : inR ((6 * (nI j242)) + 4) 4 46 := inR_add (show inR (6 * (nI j242)) 0 42 from r89) (show inR 4 4 4 from (inR_self _)) (by decide) (by decide)
                    have e92 := ti_add (l := 4) (h := 46) (show inR (6 * (nI j242)) 0 42 from r89) (show inR 4 4 4 from (inR_self _)) (by decide) (by decide)
                    have hx93 : vp_in ((6 * (nI j242)) + 4) 48 := (vp_ti (by have q0 := e76; have q1 := e78; have q2 := e84; have q3 := e90; have q4 := e92; have q5 := ti_eq b209_14; have q6 := ti_nle b248_73; have q7 := ti_ne b252_74; have q8 := ti_eq b268_80; have q9 := ti_ne b281_86; have q10 := ti_in hc; have q11 := ti_in (iva_152 hI _ (lt_of_vp hx1)); have q12 := ti_in (iva_144 hI10 _ (lt_of_vp hx3)); have q13 := ti_in hrg242; have q14 := ti_in (iv_14047 hI242); have q15 := ti_in r89; have q16 := ti_in r77; have q17 := ti_in r91; have z0 : (-1 : Int32).toInt = -1 := (by decide); have z1 : (0 : Int32).toInt = 0 := (by decide); have z2 : (1 : Int32).toInt = 1 := (by decide); have z3 : (14047 : Int32).toInt = 14047 := (by decide); have z4 : (147 : Int32).toInt = 147 := (by decide); have z5 : (172 : Int32).toInt = 172 := (by decide); have z6 : (19 : Int32).toInt = 19 := (by decide); have z7 : (3 : Int32).toInt = 3 := (by decide); have z8 : (4 : Int32).toInt = 4 := (by decide); have z9 : (42 : Int32).toInt = 42 := (by decide); have z10 : (45 : Int32).toInt = 45 := (by decide); have z11 : (46 : Int32).toInt = 46 := (by decide); have z12 : (6 : Int32).toInt = 6 := (by decide); have z13 : (7 : Int32).toInt = 7 := (by decide); have z14 : (8 : Int32).toInt = 8 := (by decide); omega) (by have q0 := e76; have q1 := e78; have q2 := e84; have q3 := e90; have q4 := e92; have q5 := ti_eq b209_14; have q6 := ti_nle b248_73; have q7 := ti_ne b252_74; have q8 := ti_eq b268_80; have q9 := ti_ne b281_86; have q10 := ti_in hc; have q11 := ti_in (iva_152 hI _ (lt_of_vp hx1)); have q12 := ti_in (iva_144 hI10 _ (lt_of_vp hx3)); have q13 := ti_in hrg242; have q14 := ti_in (iv_14047 hI242); have q15 := ti_in r89; have q16 := ti_in r77; have q17 := ti_in r91; have z0 : (-1 : Int32).toInt = -1 := (by decide); have z1 : (0 : Int32).toInt = 0 := (by decide); have z2 : (1 : Int32).toInt = 1 := (by decide); have z3 : (14047 : Int32).toInt = 14047 := (by decide); have z4 : (147 : Int32).toInt = 147 := (by decide); have z5 : (172 : Int32).toInt = 172 := (by decide); have z6 : (19 : Int32).toInt = 19 := (by decide); have z7 : (3 : Int32).toInt = 3 := (by decide); have z8 : (4 : Int32).toInt = 4 := (by decide); have z9 : (42 : Int32).toInt = 42 := (by decide); have z10 : (45 : Int32).toInt = 45 := (by decide); have z11 : (46 : Int32).toInt = 46 := (by decide); have z12 : (6 : Int32).toInt = 6 := (by decide); have z13 : (7 : Int32).toInt = 7 := (by decide); have z14 : (8 : Int32).toInt = 8 := (by decide); omega))
                    refine R_iaload (pc := 297) dX9_narrow_297 (c_172 _) hx93 ?_
                    refine R_aload_n (pc := 298) dX9_narrow_298 rfl rfl ?_
                    refine g_X9_114 (pc := 299) (v := .ref 172) rfl dX9_narrow_299 (c_140 _) rfl ?_
                    refine R_bipush (pc := 302) (v := 6) dX9_narrow_302 (by decide) ?_
                    refine R_iload (pc := 304) dX9_narrow_304 rfl ?_
                    refine R_imul (pc := 306) dX9_narrow_306 ?_
                    have r94 : inR (6 * (nI j242)) 0 42 := inR_mulc (c := 6) (l := 0) (h := 42) 6 (by decide) (show inR (nI j242) 0 7 from hrg242) (by decide) (by decide)
                    have e95 := ti_mulc (c := 6) (l := 0) (h := 42) 6 (by decide) (show inR (nI j242) 0 7 from hrg242) (by decide) (by decide)
                    refine R_iconst (pc := 307) (v := 5) dX9_narrow_307 (by decide) ?_
                    refine R_iadd (pc := 308) dX9_narrow_308 ?_
                    have r96 : inR ((6 * (nI j242)) + 5) 5 47 := inR_add (show inR (6 * (nI j242)) 0 42 from r94) (show inR 5 5 5 from (inR_self _)) (by decide) (by decide)
                    have e97 := ti_add (l := 5) (h := 47) (show inR (6 * (nI j242)) 0 42 from r94) (show inR 5 5 5 from (inR_self _)) (by decide) (by decide)
                    have hx98 : vp_in ((6 * (nI j242)) + 5) 48 := (vp_ti (by have q0 := e76; have q1 := e78; have q2 := e84; have q3 := e90; have q4 := e92; have q5 := e95; have q6 := e97; have q7 := ti_eq b209_14; have q8 := ti_nle b248_73; have q9 := ti_ne b252_74; have q10 := ti_eq b268_80; have q11 := ti_ne b281_86; have q12 := ti_in hc; have q13 := ti_in (iva_152 hI _ (lt_of_vp hx1)); have q14 := ti_in (iva_144 hI10 _ (lt_of_vp hx3)); have q15 := ti_in hrg242; have q16 := ti_in (iv_14047 hI242); have q17 := ti_in r94; have q18 := ti_in r77; have q19 := ti_in r91; have q20 := ti_in r96; have z0 : (-1 : Int32).toInt = -1 := (by decide); have z1 : (0 : Int32).toInt = 0 := (by decide); have z2 : (1 : Int32).toInt = 1 := (by decide); have z3 : (14047 : Int32).toInt = 14047 := (by decide); have z4 : (147 : Int32).toInt = 147 := (by decide); have z5 : (172 : Int32).toInt = 172 := (by decide); have z6 : (19 : Int32).toInt = 19 := (by decide); have z7 : (3 : Int32).toInt = 3 := (by decide); have z8 : (4 : Int32).toInt = 4 := (by decide); have z9 : (42 : Int32).toInt = 42 := (by decide); have z10 : (45 : Int32).toInt = 45 := (by decide); have z11 : (46 : Int32).toInt = 46 := (by decide); have z12 : (47 : Int32).toInt = 47 := (by decide); have z13 : (5 : Int32).toInt = 5 := (by decide); have z14 : (6 : Int32).toInt = 6 := (by decide); have z15 : (7 : Int32).toInt = 7 := (by decide); have z16 : (8 : Int32).toInt = 8 := (by decide); omega) (by have q0 := e76; have q1 := e78; have q2 := e84; have q3 := e90; have q4 := e92; have q5 := e95; have q6 := e97; have q7 := ti_eq b209_14; have q8 := ti_nle b248_73; have q9 := ti_ne b252_74; have q10 := ti_eq b268_80; have q11 := ti_ne b281_86; have q12 := ti_in hc; have q13 := ti_in (iva_152 hI _ (lt_of_vp hx1)); have q14 := ti_in (iva_144 hI10 _ (lt_of_vp hx3)); have q15 := ti_in hrg242; have q16 := ti_in (iv_14047 hI242); have q17 := ti_in r94; have q18 := ti_in r77; have q19 := ti_in r91; have q20 := ti_in r96; have z0 : (-1 : Int32).toInt = -1 := (by decide); have z1 : (0 : Int32).toInt = 0 := (by decide); have z2 : (1 : Int32).toInt = 1 := (by decide); have z3 : (14047 : Int32).toInt = 14047 := (by decide); have z4 : (147 : Int32).toInt = 147 := (by decide); have z5 : (172 : Int32).toInt = 172 := (by decide); have z6 : (19 : Int32).toInt = 19 := (by decide); have z7 : (3 : Int32).toInt = 3 := (by decide); have z8 : (4 : Int32).toInt = 4 := (by decide); have z9 : (42 : Int32).toInt = 42 := (by decide); have z10 : (45 : Int32).toInt = 45 := (by decide); have z11 : (46 : Int32).toInt = 46 := (by decide); have z12 : (47 : Int32).toInt = 47 := (by decide); have z13 : (5 : Int32).toInt = 5 := (by decide); have z14 : (6 : Int32).toInt = 6 := (by decide); have z15 : (7 : Int32).toInt = 7 := (by decide); have z16 : (8 : Int32).toInt = 8 := (by decide); omega))
                    refine R_iaload (pc := 309) dX9_narrow_309 (c_172 _) hx98 ?_
                    refine k_X9_212 (pc := 310) (gn_X9_outIn _ P _ _ _ hI242 hc hP) rfl (c_140 _) (by decide) (Nat.le_refl _) (Nat.le_refl _) (Nat.le_of_ble_eq_true rfl) dX9_narrow_310 (fun w2 h => ?_)
                    obtain ⟨σx100, rfl, hV99, hW102, hN101⟩ := h
                    have hW103 := Cor.trans hC242 hW102
                    have hN101 := hX242_0.trans hN101
                    refine inc_5_4_1_i (pc := 313) dX9_narrow_313 ?_
                    have r104 : inR ((nI j242) + 1) 1 8 := inR_add (show inR (nI j242) 0 7 from hrg242) (show inR 1 1 1 from (inR_self _)) (by decide) (by decide)
                    have e105 := ti_add (l := 1) (h := 8) (show inR (nI j242) 0 7 from hrg242) (show inR 1 1 1 from (inR_self _)) (by decide) (by decide)
                    refine R_goto (pc := 316) 242 dX9_narrow_316 (by decide) ?_
                    rw [nI_1]
                    exact ih242 (j242 + 1) _ (by omega) (by omega) hV99 hW103 hN101
        exact HL242 8 0 _ (by omega) (by omega) hV67 hW71 hN69
    | succ q ih10 =>
      intro j10 σ10 hj hs10 hI10 hC10 hX10_0
      have hrg10 : inR (nI j10) 0 7 := inR_ix hs10 (show j10 < 8 by omega) (by decide) (by decide) (by decide)
      have hlt10 : j10 < 8 := by omega
      refine R_iload (pc := 10) dX9_narrow_10 rfl ?_
      refine R_bipush (pc := 12) (v := 8) dX9_narrow_12 (by decide) ?_
      refine R_icge (pc := 14) 167 dX9_narrow_14 (by decide) (fun h => False.elim (by have q1 := ti_le h; have q2 := ti_in (show inR (nI j10) 0 7 from hrg10); have q3 := ti_in (show inR 8 8 8 from (inR_self _)); have z0 : (0 : Int32).toInt = 0 := (by decide);  have z1 : (7 : Int32).toInt = 7 := (by decide);  have z2 : (8 : Int32).toInt = 8 := (by decide); omega)) (fun _ => ?_)
      refine R_aload_n (pc := 17) dX9_narrow_17 rfl rfl ?_
      refine g_X9_72 (pc := 18) (v := .ref 158) rfl dX9_narrow_18 (c_140 _) rfl ?_
      refine R_bipush (pc := 21) (v := 8) dX9_narrow_21 (by decide) ?_
      refine R_iload_n (pc := 23) dX9_narrow_23 rfl rfl ?_
      refine R_imul (pc := 24) dX9_narrow_24 ?_
      have r107 : inR (8 * c) 0 152 := inR_mulc (c := 8) (l := 0) (h := 152) 8 (by decide) (show inR c 0 19 from hc) (by decide) (by decide)
      have e108 := ti_mulc (c := 8) (l := 0) (h := 152) 8 (by decide) (show inR c 0 19 from hc) (by decide) (by decide)
      refine R_iload (pc := 25) dX9_narrow_25 rfl ?_
      refine R_iadd (pc := 27) dX9_narrow_27 ?_
      have r109 : inR ((8 * c) + (nI j10)) 0 159 := inR_add (show inR (8 * c) 0 152 from r107) (show inR (nI j10) 0 7 from hrg10) (by decide) (by decide)
      have e110 := ti_add (l := 0) (h := 159) (show inR (8 * c) 0 152 from r107) (show inR (nI j10) 0 7 from hrg10) (by decide) (by decide)
      have hx111 : vp_in ((8 * c) + (nI j10)) 160 := (vp_of_inR r109 (by decide))
      refine R_iaload (pc := 28) dX9_narrow_28 (c_158 _) hx111 ?_
      refine R_iconst (pc := 29) (v := 1) dX9_narrow_29 (by decide) ?_
      refine R_icne (pc := 30) 52 dX9_narrow_30 (by decide) (fun b30_112 => ?_) (fun b30_112 => ?_)
      · skip
        refine R_aload_n (pc := 52) dX9_narrow_52 rfl rfl ?_
        refine g_X9_72 (pc := 53) (v := .ref 158) rfl dX9_narrow_53 (c_140 _) rfl ?_
        refine R_bipush (pc := 56) (v := 8) dX9_narrow_56 (by decide) ?_
        refine R_iload_n (pc := 58) dX9_narrow_58 rfl rfl ?_
        refine R_imul (pc := 59) dX9_narrow_59 ?_
        have r113 : inR (8 * c) 0 152 := inR_mulc (c := 8) (l := 0) (h := 152) 8 (by decide) (show inR c 0 19 from hc) (by decide) (by decide)
        have e114 := ti_mulc (c := 8) (l := 0) (h := 152) 8 (by decide) (show inR c 0 19 from hc) (by decide) (by decide)
        refine R_iload (pc := 60) dX9_narrow_60 rfl ?_
        refine R_iadd (pc := 62) dX9_narrow_62 ?_
        have r115 : inR ((8 * c) + (nI j10)) 0 159 := inR_add (show inR (8 * c) 0 152 from r113) (show inR (nI j10) 0 7 from hrg10) (by decide) (by decide)
        have e116 := ti_add (l := 0) (h := 159) (show inR (8 * c) 0 152 from r113) (show inR (nI j10) 0 7 from hrg10) (by decide) (by decide)
        have hx117 : vp_in ((8 * c) + (nI j10)) 160 := (vp_of_inR r115 (by decide))
        refine R_iaload (pc := 63) dX9_narrow_63 (c_158 _) hx117 ?_
        refine R_ifne (pc := 64) 161 dX9_narrow_64 (by decide) (fun b64_118 => ?_) (fun b64_118 => ?_)
        · skip
          refine inc_5_4_1_i (pc := 161) dX9_narrow_161 ?_
          have r119 : inR ((nI j10) + 1) 1 8 := inR_add (show inR (nI j10) 0 7 from hrg10) (show inR 1 1 1 from (inR_self _)) (by decide) (by decide)
          have e120 := ti_add (l := 1) (h := 8) (show inR (nI j10) 0 7 from hrg10) (show inR 1 1 1 from (inR_self _)) (by decide) (by decide)
          refine R_goto (pc := 164) 10 dX9_narrow_164 (by decide) ?_
          rw [nI_1]
          exact ih10 (j10 + 1) _ (by omega) (by omega) hI10 hC10 hX10_0
        · skip
          refine R_aload_n (pc := 67) dX9_narrow_67 rfl rfl ?_
          refine R_iload_n (pc := 68) dX9_narrow_68 rfl rfl ?_
          refine R_aload_n (pc := 69) dX9_narrow_69 rfl rfl ?_
          refine g_X9_87 (pc := 70) (v := .ref 163) rfl dX9_narrow_70 (c_140 _) rfl ?_
          refine R_iload_n (pc := 73) dX9_narrow_73 rfl rfl ?_
          have hx121 : vp_in (σ.2.2.1 152 (Int32.toNatClampNeg c)) 20 := (vp_of_inR (iva_152 hI _ (lt_of_vp hx1)) (by decide))
          refine R_iaload (pc := 74) dX9_narrow_74 (c_163 _) hx121 ?_
          refine R_aload_n (pc := 75) dX9_narrow_75 rfl rfl ?_
          refine g_X9_66 (pc := 76) (v := .ref 156) rfl dX9_narrow_76 (c_140 _) rfl ?_
          refine R_iload (pc := 79) dX9_narrow_79 rfl ?_
          have hx122 : vp_in (nI j10) 8 := (vp_in_nI (by omega) (by decide))
          refine R_iaload (pc := 81) dX9_narrow_81 (c_156 _) hx122 ?_
          refine R_aload_n (pc := 82) dX9_narrow_82 rfl rfl ?_
          refine g_X9_69 (pc := 83) (v := .ref 157) rfl dX9_narrow_83 (c_140 _) rfl ?_
          refine R_iload (pc := 86) dX9_narrow_86 rfl ?_
          have hx123 : vp_in (nI j10) 8 := (vp_in_nI (by omega) (by decide))
          refine R_iaload (pc := 88) dX9_narrow_88 (c_157 _) hx123 ?_
          refine k_X9_124 (pc := 89) (sp_X9_in _ _ _ _) rfl (by decide) (Nat.le_refl _) (Nat.le_refl _) (Nat.le_of_ble_eq_true rfl) dX9_narrow_89 (fun x w2 h => ?_)
          rcases h with ⟨rfl, ⟨h124, rfl⟩ | ⟨h124, rfl⟩⟩
          · skip
            refine R_ifeq (pc := 92) 107 dX9_narrow_92 (by decide) (fun h => absurd h (by decide)) (fun _ => ?_)
            refine R_aload_n (pc := 95) dX9_narrow_95 rfl rfl ?_
            refine g_X9_69 (pc := 96) (v := .ref 157) rfl dX9_narrow_96 (c_140 _) rfl ?_
            refine R_iload (pc := 99) dX9_narrow_99 rfl ?_
            have hx126 : vp_in (nI j10) 8 := (vp_in_nI (by omega) (by decide))
            refine R_iaload (pc := 101) dX9_narrow_101 (c_157 _) hx126 ?_
            refine R_iconst (pc := 102) (v := 1) dX9_narrow_102 (by decide) ?_
            refine R_iadd (pc := 103) dX9_narrow_103 ?_
            refine R_goto (pc := 104) 108 dX9_narrow_104 (by decide) ?_
            refine R_sipush (pc := 108) (v := 20000) dX9_narrow_108 (by decide) ?_
            refine k_X9_208 (pc := 111) (gn_X9_takenIn _ P _ _ _ hI10 (iva_152 hI _ (lt_of_vp hx1)) ⟨_, hP, congrArg (fun f : Nat → Int32 => (f c.toNatClampNeg).toNatClampNeg) hX10_0.1.2.2.2⟩) rfl (c_140 _) (by decide) (Nat.le_refl _) (Nat.le_refl _) (Nat.le_of_ble_eq_true rfl) dX9_narrow_111 (fun w2 h => ?_)
            obtain ⟨σx128, rfl, hV127, hW130, hN129⟩ := h
            have hW131 := Cor.trans hC10 hW130
            have hN129 := hX10_0.trans hN129
            refine R_aload_n (pc := 114) dX9_narrow_114 rfl rfl ?_
            refine R_iload_n (pc := 115) dX9_narrow_115 rfl rfl ?_
            refine R_iconst (pc := 116) (v := 0) dX9_narrow_116 (by decide) ?_
            refine R_aload_n (pc := 117) dX9_narrow_117 rfl rfl ?_
            refine g_X9_90 (pc := 118) (v := .ref 164) rfl dX9_narrow_118 (c_140 _) rfl ?_
            refine R_iload_n (pc := 121) dX9_narrow_121 rfl rfl ?_
            have hx132 : vp_in (σ.2.2.1 152 (Int32.toNatClampNeg c)) 20 := (vp_of_inR (iva_152 hI _ (lt_of_vp hx1)) (by decide))
            refine R_iaload (pc := 122) dX9_narrow_122 (c_164 _) hx132 ?_
            refine R_aload_n (pc := 123) dX9_narrow_123 rfl rfl ?_
            refine g_X9_66 (pc := 124) (v := .ref 156) rfl dX9_narrow_124 (c_140 _) rfl ?_
            refine R_iload (pc := 127) dX9_narrow_127 rfl ?_
            have hx133 : vp_in (nI j10) 8 := (vp_in_nI (by omega) (by decide))
            refine R_iaload (pc := 129) dX9_narrow_129 (c_156 _) hx133 ?_
            refine R_aload_n (pc := 130) dX9_narrow_130 rfl rfl ?_
            refine g_X9_69 (pc := 131) (v := .ref 157) rfl dX9_narrow_131 (c_140 _) rfl ?_
            refine R_iload (pc := 134) dX9_narrow_134 rfl ?_
            have hx134 : vp_in (nI j10) 8 := (vp_in_nI (by omega) (by decide))
            refine R_iaload (pc := 136) dX9_narrow_136 (c_157 _) hx134 ?_
            refine k_X9_124 (pc := 137) (sp_X9_in _ _ _ _) rfl (by decide) (Nat.le_refl _) (Nat.le_refl _) (Nat.le_of_ble_eq_true rfl) dX9_narrow_137 (fun x w2 h => ?_)
            rcases h with ⟨rfl, ⟨h135, rfl⟩ | ⟨h135, rfl⟩⟩
            · skip
              refine R_ifeq (pc := 140) 155 dX9_narrow_140 (by decide) (fun h => absurd h (by decide)) (fun _ => ?_)
              refine R_aload_n (pc := 143) dX9_narrow_143 rfl rfl ?_
              refine g_X9_66 (pc := 144) (v := .ref 156) rfl dX9_narrow_144 (c_140 _) rfl ?_
              refine R_iload (pc := 147) dX9_narrow_147 rfl ?_
              have hx137 : vp_in (nI j10) 8 := (vp_in_nI (by omega) (by decide))
              refine R_iaload (pc := 149) dX9_narrow_149 (c_156 _) hx137 ?_
              refine R_iconst (pc := 150) (v := 1) dX9_narrow_150 (by decide) ?_
              refine R_isub (pc := 151) dX9_narrow_151 ?_
              refine R_goto (pc := 152) 158 dX9_narrow_152 (by decide) ?_
              refine k_X9_208 (pc := 158) (gn_X9_takenIn _ P _ _ _ hV127 (iva_152 hI _ (lt_of_vp hx1)) ⟨_, hP, congrArg (fun f : Nat → Int32 => (f c.toNatClampNeg).toNatClampNeg) hN129.1.2.2.2⟩) rfl (c_140 _) (by decide) (Nat.le_refl _) (Nat.le_refl _) (Nat.le_of_ble_eq_true rfl) dX9_narrow_158 (fun w2 h => ?_)
              obtain ⟨σx139, rfl, hV138, hW141, hN140⟩ := h
              have hW142 := Cor.trans hW131 hW141
              have hN140 := hN129.trans hN140
              refine inc_5_4_1_i (pc := 161) dX9_narrow_161 ?_
              have r143 : inR ((nI j10) + 1) 1 8 := inR_add (show inR (nI j10) 0 7 from hrg10) (show inR 1 1 1 from (inR_self _)) (by decide) (by decide)
              have e144 := ti_add (l := 1) (h := 8) (show inR (nI j10) 0 7 from hrg10) (show inR 1 1 1 from (inR_self _)) (by decide) (by decide)
              refine R_goto (pc := 164) 10 dX9_narrow_164 (by decide) ?_
              rw [nI_1]
              exact ih10 (j10 + 1) _ (by omega) (by omega) hV138 hW142 hN140
            · skip
              refine R_ifeq (pc := 140) 155 dX9_narrow_140 (by decide) (fun _ => ?_) (fun h => absurd (by decide) h)
              refine R_sipush (pc := 155) (v := 20000) dX9_narrow_155 (by decide) ?_
              refine k_X9_208 (pc := 158) (gn_X9_takenIn _ P _ _ _ hV127 (iva_152 hI _ (lt_of_vp hx1)) ⟨_, hP, congrArg (fun f : Nat → Int32 => (f c.toNatClampNeg).toNatClampNeg) hN129.1.2.2.2⟩) rfl (c_140 _) (by decide) (Nat.le_refl _) (Nat.le_refl _) (Nat.le_of_ble_eq_true rfl) dX9_narrow_158 (fun w2 h => ?_)
              obtain ⟨σx147, rfl, hV146, hW149, hN148⟩ := h
              have hW150 := Cor.trans hW131 hW149
              have hN148 := hN129.trans hN148
              refine inc_5_4_1_i (pc := 161) dX9_narrow_161 ?_
              have r151 : inR ((nI j10) + 1) 1 8 := inR_add (show inR (nI j10) 0 7 from hrg10) (show inR 1 1 1 from (inR_self _)) (by decide) (by decide)
              have e152 := ti_add (l := 1) (h := 8) (show inR (nI j10) 0 7 from hrg10) (show inR 1 1 1 from (inR_self _)) (by decide) (by decide)
              refine R_goto (pc := 164) 10 dX9_narrow_164 (by decide) ?_
              rw [nI_1]
              exact ih10 (j10 + 1) _ (by omega) (by omega) hV146 hW150 hN148
          · skip
            refine R_ifeq (pc := 92) 107 dX9_narrow_92 (by decide) (fun _ => ?_) (fun h => absurd (by decide) h)
            refine R_iconst (pc := 107) (v := 0) dX9_narrow_107 (by decide) ?_
            refine R_sipush (pc := 108) (v := 20000) dX9_narrow_108 (by decide) ?_
            refine k_X9_208 (pc := 111) (gn_X9_takenIn _ P _ _ _ hI10 (iva_152 hI _ (lt_of_vp hx1)) ⟨_, hP, congrArg (fun f : Nat → Int32 => (f c.toNatClampNeg).toNatClampNeg) hX10_0.1.2.2.2⟩) rfl (c_140 _) (by decide) (Nat.le_refl _) (Nat.le_refl _) (Nat.le_of_ble_eq_true rfl) dX9_narrow_111 (fun w2 h => ?_)
            obtain ⟨σx155, rfl, hV154, hW157, hN156⟩ := h
            have hW158 := Cor.trans hC10 hW157
            have hN156 := hX10_0.trans hN156
            refine R_aload_n (pc := 114) dX9_narrow_114 rfl rfl ?_
            refine R_iload_n (pc := 115) dX9_narrow_115 rfl rfl ?_
            refine R_iconst (pc := 116) (v := 0) dX9_narrow_116 (by decide) ?_
            refine R_aload_n (pc := 117) dX9_narrow_117 rfl rfl ?_
            refine g_X9_90 (pc := 118) (v := .ref 164) rfl dX9_narrow_118 (c_140 _) rfl ?_
            refine R_iload_n (pc := 121) dX9_narrow_121 rfl rfl ?_
            have hx159 : vp_in (σ.2.2.1 152 (Int32.toNatClampNeg c)) 20 := (vp_of_inR (iva_152 hI _ (lt_of_vp hx1)) (by decide))
            refine R_iaload (pc := 122) dX9_narrow_122 (c_164 _) hx159 ?_
            refine R_aload_n (pc := 123) dX9_narrow_123 rfl rfl ?_
            refine g_X9_66 (pc := 124) (v := .ref 156) rfl dX9_narrow_124 (c_140 _) rfl ?_
            refine R_iload (pc := 127) dX9_narrow_127 rfl ?_
            have hx160 : vp_in (nI j10) 8 := (vp_in_nI (by omega) (by decide))
            refine R_iaload (pc := 129) dX9_narrow_129 (c_156 _) hx160 ?_
            refine R_aload_n (pc := 130) dX9_narrow_130 rfl rfl ?_
            refine g_X9_69 (pc := 131) (v := .ref 157) rfl dX9_narrow_131 (c_140 _) rfl ?_
            refine R_iload (pc := 134) dX9_narrow_134 rfl ?_
            have hx161 : vp_in (nI j10) 8 := (vp_in_nI (by omega) (by decide))
            refine R_iaload (pc := 136) dX9_narrow_136 (c_157 _) hx161 ?_
            refine k_X9_124 (pc := 137) (sp_X9_in _ _ _ _) rfl (by decide) (Nat.le_refl _) (Nat.le_refl _) (Nat.le_of_ble_eq_true rfl) dX9_narrow_137 (fun x w2 h => ?_)
            rcases h with ⟨rfl, ⟨h162, rfl⟩ | ⟨h162, rfl⟩⟩
            · skip
              refine R_ifeq (pc := 140) 155 dX9_narrow_140 (by decide) (fun h => absurd h (by decide)) (fun _ => ?_)
              refine R_aload_n (pc := 143) dX9_narrow_143 rfl rfl ?_
              refine g_X9_66 (pc := 144) (v := .ref 156) rfl dX9_narrow_144 (c_140 _) rfl ?_
              refine R_iload (pc := 147) dX9_narrow_147 rfl ?_
              have hx164 : vp_in (nI j10) 8 := (vp_in_nI (by omega) (by decide))
              refine R_iaload (pc := 149) dX9_narrow_149 (c_156 _) hx164 ?_
              refine R_iconst (pc := 150) (v := 1) dX9_narrow_150 (by decide) ?_
              refine R_isub (pc := 151) dX9_narrow_151 ?_
              refine R_goto (pc := 152) 158 dX9_narrow_152 (by decide) ?_
              refine k_X9_208 (pc := 158) (gn_X9_takenIn _ P _ _ _ hV154 (iva_152 hI _ (lt_of_vp hx1)) ⟨_, hP, congrArg (fun f : Nat → Int32 => (f c.toNatClampNeg).toNatClampNeg) hN156.1.2.2.2⟩) rfl (c_140 _) (by decide) (Nat.le_refl _) (Nat.le_refl _) (Nat.le_of_ble_eq_true rfl) dX9_narrow_158 (fun w2 h => ?_)
              obtain ⟨σx166, rfl, hV165, hW168, hN167⟩ := h
              have hW169 := Cor.trans hW158 hW168
              have hN167 := hN156.trans hN167
              refine inc_5_4_1_i (pc := 161) dX9_narrow_161 ?_
              have r170 : inR ((nI j10) + 1) 1 8 := inR_add (show inR (nI j10) 0 7 from hrg10) (show inR 1 1 1 from (inR_self _)) (by decide) (by decide)
              have e171 := ti_add (l := 1) (h := 8) (show inR (nI j10) 0 7 from hrg10) (show inR 1 1 1 from (inR_self _)) (by decide) (by decide)
              refine R_goto (pc := 164) 10 dX9_narrow_164 (by decide) ?_
              rw [nI_1]
              exact ih10 (j10 + 1) _ (by omega) (by omega) hV165 hW169 hN167
            · skip
              refine R_ifeq (pc := 140) 155 dX9_narrow_140 (by decide) (fun _ => ?_) (fun h => absurd (by decide) h)
              refine R_sipush (pc := 155) (v := 20000) dX9_narrow_155 (by decide) ?_
              refine k_X9_208 (pc := 158) (gn_X9_takenIn _ P _ _ _ hV154 (iva_152 hI _ (lt_of_vp hx1)) ⟨_, hP, congrArg (fun f : Nat → Int32 => (f c.toNatClampNeg).toNatClampNeg) hN156.1.2.2.2⟩) rfl (c_140 _) (by decide) (Nat.le_refl _) (Nat.le_refl _) (Nat.le_of_ble_eq_true rfl) dX9_narrow_158 (fun w2 h => ?_)
              obtain ⟨σx174, rfl, hV173, hW176, hN175⟩ := h
              have hW177 := Cor.trans hW158 hW176
              have hN175 := hN156.trans hN175
              refine inc_5_4_1_i (pc := 161) dX9_narrow_161 ?_
              have r178 : inR ((nI j10) + 1) 1 8 := inR_add (show inR (nI j10) 0 7 from hrg10) (show inR 1 1 1 from (inR_self _)) (by decide) (by decide)
              have e179 := ti_add (l := 1) (h := 8) (show inR (nI j10) 0 7 from hrg10) (show inR 1 1 1 from (inR_self _)) (by decide) (by decide)
              refine R_goto (pc := 164) 10 dX9_narrow_164 (by decide) ?_
              rw [nI_1]
              exact ih10 (j10 + 1) _ (by omega) (by omega) hV173 hW177 hN175
      · skip
        refine R_aload_n (pc := 33) dX9_narrow_33 rfl rfl ?_
        refine R_iload_n (pc := 34) dX9_narrow_34 rfl rfl ?_
        refine R_aload_n (pc := 35) dX9_narrow_35 rfl rfl ?_
        refine g_X9_66 (pc := 36) (v := .ref 156) rfl dX9_narrow_36 (c_140 _) rfl ?_
        refine R_iload (pc := 39) dX9_narrow_39 rfl ?_
        have hx180 : vp_in (nI j10) 8 := (vp_in_nI (by omega) (by decide))
        refine R_iaload (pc := 41) dX9_narrow_41 (c_156 _) hx180 ?_
        refine R_aload_n (pc := 42) dX9_narrow_42 rfl rfl ?_
        refine g_X9_69 (pc := 43) (v := .ref 157) rfl dX9_narrow_43 (c_140 _) rfl ?_
        refine R_iload (pc := 46) dX9_narrow_46 rfl ?_
        have hx181 : vp_in (nI j10) 8 := (vp_in_nI (by omega) (by decide))
        refine R_iaload (pc := 48) dX9_narrow_48 (c_157 _) hx181 ?_
        refine k_X9_208 (pc := 49) (gn_X9_takenIn _ P _ _ _ hI10 (iva_152 hI _ (lt_of_vp hx1)) ⟨_, hP, congrArg (fun f : Nat → Int32 => (f c.toNatClampNeg).toNatClampNeg) hX10_0.1.2.2.2⟩) rfl (c_140 _) (by decide) (Nat.le_refl _) (Nat.le_refl _) (Nat.le_of_ble_eq_true rfl) dX9_narrow_49 (fun w2 h => ?_)
        obtain ⟨σx183, rfl, hV182, hW185, hN184⟩ := h
        have hW186 := Cor.trans hC10 hW185
        have hN184 := hX10_0.trans hN184
        refine R_aload_n (pc := 52) dX9_narrow_52 rfl rfl ?_
        refine g_X9_72 (pc := 53) (v := .ref 158) rfl dX9_narrow_53 (c_140 _) rfl ?_
        refine R_bipush (pc := 56) (v := 8) dX9_narrow_56 (by decide) ?_
        refine R_iload_n (pc := 58) dX9_narrow_58 rfl rfl ?_
        refine R_imul (pc := 59) dX9_narrow_59 ?_
        have r187 : inR (8 * c) 0 152 := inR_mulc (c := 8) (l := 0) (h := 152) 8 (by decide) (show inR c 0 19 from hc) (by decide) (by decide)
        have e188 := ti_mulc (c := 8) (l := 0) (h := 152) 8 (by decide) (show inR c 0 19 from hc) (by decide) (by decide)
        refine R_iload (pc := 60) dX9_narrow_60 rfl ?_
        refine R_iadd (pc := 62) dX9_narrow_62 ?_
        have r189 : inR ((8 * c) + (nI j10)) 0 159 := inR_add (show inR (8 * c) 0 152 from r187) (show inR (nI j10) 0 7 from hrg10) (by decide) (by decide)
        have e190 := ti_add (l := 0) (h := 159) (show inR (8 * c) 0 152 from r187) (show inR (nI j10) 0 7 from hrg10) (by decide) (by decide)
        have hx191 : vp_in ((8 * c) + (nI j10)) 160 := (vp_of_inR r189 (by decide))
        refine R_iaload (pc := 63) dX9_narrow_63 (c_158 _) hx191 ?_
        refine R_ifne (pc := 64) 161 dX9_narrow_64 (by decide) (fun b64_192 => ?_) (fun b64_192 => ?_)
        · skip
          refine inc_5_4_1_i (pc := 161) dX9_narrow_161 ?_
          have r193 : inR ((nI j10) + 1) 1 8 := inR_add (show inR (nI j10) 0 7 from hrg10) (show inR 1 1 1 from (inR_self _)) (by decide) (by decide)
          have e194 := ti_add (l := 1) (h := 8) (show inR (nI j10) 0 7 from hrg10) (show inR 1 1 1 from (inR_self _)) (by decide) (by decide)
          refine R_goto (pc := 164) 10 dX9_narrow_164 (by decide) ?_
          rw [nI_1]
          exact ih10 (j10 + 1) _ (by omega) (by omega) hV182 hW186 hN184
        · skip
          refine R_aload_n (pc := 67) dX9_narrow_67 rfl rfl ?_
          refine R_iload_n (pc := 68) dX9_narrow_68 rfl rfl ?_
          refine R_aload_n (pc := 69) dX9_narrow_69 rfl rfl ?_
          refine g_X9_87 (pc := 70) (v := .ref 163) rfl dX9_narrow_70 (c_140 _) rfl ?_
          refine R_iload_n (pc := 73) dX9_narrow_73 rfl rfl ?_
          have hx195 : vp_in (σ.2.2.1 152 (Int32.toNatClampNeg c)) 20 := (vp_of_inR (iva_152 hI _ (lt_of_vp hx1)) (by decide))
          refine R_iaload (pc := 74) dX9_narrow_74 (c_163 _) hx195 ?_
          refine R_aload_n (pc := 75) dX9_narrow_75 rfl rfl ?_
          refine g_X9_66 (pc := 76) (v := .ref 156) rfl dX9_narrow_76 (c_140 _) rfl ?_
          refine R_iload (pc := 79) dX9_narrow_79 rfl ?_
          have hx196 : vp_in (nI j10) 8 := (vp_in_nI (by omega) (by decide))
          refine R_iaload (pc := 81) dX9_narrow_81 (c_156 _) hx196 ?_
          refine R_aload_n (pc := 82) dX9_narrow_82 rfl rfl ?_
          refine g_X9_69 (pc := 83) (v := .ref 157) rfl dX9_narrow_83 (c_140 _) rfl ?_
          refine R_iload (pc := 86) dX9_narrow_86 rfl ?_
          have hx197 : vp_in (nI j10) 8 := (vp_in_nI (by omega) (by decide))
          refine R_iaload (pc := 88) dX9_narrow_88 (c_157 _) hx197 ?_
          refine k_X9_124 (pc := 89) (sp_X9_in _ _ _ _) rfl (by decide) (Nat.le_refl _) (Nat.le_refl _) (Nat.le_of_ble_eq_true rfl) dX9_narrow_89 (fun x w2 h => ?_)
          rcases h with ⟨rfl, ⟨h198, rfl⟩ | ⟨h198, rfl⟩⟩
          · skip
            refine R_ifeq (pc := 92) 107 dX9_narrow_92 (by decide) (fun h => absurd h (by decide)) (fun _ => ?_)
            refine R_aload_n (pc := 95) dX9_narrow_95 rfl rfl ?_
            refine g_X9_69 (pc := 96) (v := .ref 157) rfl dX9_narrow_96 (c_140 _) rfl ?_
            refine R_iload (pc := 99) dX9_narrow_99 rfl ?_
            have hx200 : vp_in (nI j10) 8 := (vp_in_nI (by omega) (by decide))
            refine R_iaload (pc := 101) dX9_narrow_101 (c_157 _) hx200 ?_
            refine R_iconst (pc := 102) (v := 1) dX9_narrow_102 (by decide) ?_
            refine R_iadd (pc := 103) dX9_narrow_103 ?_
            refine R_goto (pc := 104) 108 dX9_narrow_104 (by decide) ?_
            refine R_sipush (pc := 108) (v := 20000) dX9_narrow_108 (by decide) ?_
            refine k_X9_208 (pc := 111) (gn_X9_takenIn _ P _ _ _ hV182 (iva_152 hI _ (lt_of_vp hx1)) ⟨_, hP, congrArg (fun f : Nat → Int32 => (f c.toNatClampNeg).toNatClampNeg) hN184.1.2.2.2⟩) rfl (c_140 _) (by decide) (Nat.le_refl _) (Nat.le_refl _) (Nat.le_of_ble_eq_true rfl) dX9_narrow_111 (fun w2 h => ?_)
            obtain ⟨σx202, rfl, hV201, hW204, hN203⟩ := h
            have hW205 := Cor.trans hW186 hW204
            have hN203 := hN184.trans hN203
            refine R_aload_n (pc := 114) dX9_narrow_114 rfl rfl ?_
            refine R_iload_n (pc := 115) dX9_narrow_115 rfl rfl ?_
            refine R_iconst (pc := 116) (v := 0) dX9_narrow_116 (by decide) ?_
            refine R_aload_n (pc := 117) dX9_narrow_117 rfl rfl ?_
            refine g_X9_90 (pc := 118) (v := .ref 164) rfl dX9_narrow_118 (c_140 _) rfl ?_
            refine R_iload_n (pc := 121) dX9_narrow_121 rfl rfl ?_
            have hx206 : vp_in (σ.2.2.1 152 (Int32.toNatClampNeg c)) 20 := (vp_of_inR (iva_152 hI _ (lt_of_vp hx1)) (by decide))
            refine R_iaload (pc := 122) dX9_narrow_122 (c_164 _) hx206 ?_
            refine R_aload_n (pc := 123) dX9_narrow_123 rfl rfl ?_
            refine g_X9_66 (pc := 124) (v := .ref 156) rfl dX9_narrow_124 (c_140 _) rfl ?_
            refine R_iload (pc := 127) dX9_narrow_127 rfl ?_
            have hx207 : vp_in (nI j10) 8 := (vp_in_nI (by omega) (by decide))
            refine R_iaload (pc := 129) dX9_narrow_129 (c_156 _) hx207 ?_
            refine R_aload_n (pc := 130) dX9_narrow_130 rfl rfl ?_
            refine g_X9_69 (pc := 131) (v := .ref 157) rfl dX9_narrow_131 (c_140 _) rfl ?_
            refine R_iload (pc := 134) dX9_narrow_134 rfl ?_
            have hx208 : vp_in (nI j10) 8 := (vp_in_nI (by omega) (by decide))
            refine R_iaload (pc := 136) dX9_narrow_136 (c_157 _) hx208 ?_
            refine k_X9_124 (pc := 137) (sp_X9_in _ _ _ _) rfl (by decide) (Nat.le_refl _) (Nat.le_refl _) (Nat.le_of_ble_eq_true rfl) dX9_narrow_137 (fun x w2 h => ?_)
            rcases h with ⟨rfl, ⟨h209, rfl⟩ | ⟨h209, rfl⟩⟩
            · skip
              refine R_ifeq (pc := 140) 155 dX9_narrow_140 (by decide) (fun h => absurd h (by decide)) (fun _ => ?_)
              refine R_aload_n (pc := 143) dX9_narrow_143 rfl rfl ?_
              refine g_X9_66 (pc := 144) (v := .ref 156) rfl dX9_narrow_144 (c_140 _) rfl ?_
              refine R_iload (pc := 147) dX9_narrow_147 rfl ?_
              have hx211 : vp_in (nI j10) 8 := (vp_in_nI (by omega) (by decide))
              refine R_iaload (pc := 149) dX9_narrow_149 (c_156 _) hx211 ?_
              refine R_iconst (pc := 150) (v := 1) dX9_narrow_150 (by decide) ?_
              refine R_isub (pc := 151) dX9_narrow_151 ?_
              refine R_goto (pc := 152) 158 dX9_narrow_152 (by decide) ?_
              refine k_X9_208 (pc := 158) (gn_X9_takenIn _ P _ _ _ hV201 (iva_152 hI _ (lt_of_vp hx1)) ⟨_, hP, congrArg (fun f : Nat → Int32 => (f c.toNatClampNeg).toNatClampNeg) hN203.1.2.2.2⟩) rfl (c_140 _) (by decide) (Nat.le_refl _) (Nat.le_refl _) (Nat.le_of_ble_eq_true rfl) dX9_narrow_158 (fun w2 h => ?_)
              obtain ⟨σx213, rfl, hV212, hW215, hN214⟩ := h
              have hW216 := Cor.trans hW205 hW215
              have hN214 := hN203.trans hN214
              refine inc_5_4_1_i (pc := 161) dX9_narrow_161 ?_
              have r217 : inR ((nI j10) + 1) 1 8 := inR_add (show inR (nI j10) 0 7 from hrg10) (show inR 1 1 1 from (inR_self _)) (by decide) (by decide)
              have e218 := ti_add (l := 1) (h := 8) (show inR (nI j10) 0 7 from hrg10) (show inR 1 1 1 from (inR_self _)) (by decide) (by decide)
              refine R_goto (pc := 164) 10 dX9_narrow_164 (by decide) ?_
              rw [nI_1]
              exact ih10 (j10 + 1) _ (by omega) (by omega) hV212 hW216 hN214
            · skip
              refine R_ifeq (pc := 140) 155 dX9_narrow_140 (by decide) (fun _ => ?_) (fun h => absurd (by decide) h)
              refine R_sipush (pc := 155) (v := 20000) dX9_narrow_155 (by decide) ?_
              refine k_X9_208 (pc := 158) (gn_X9_takenIn _ P _ _ _ hV201 (iva_152 hI _ (lt_of_vp hx1)) ⟨_, hP, congrArg (fun f : Nat → Int32 => (f c.toNatClampNeg).toNatClampNeg) hN203.1.2.2.2⟩) rfl (c_140 _) (by decide) (Nat.le_refl _) (Nat.le_refl _) (Nat.le_of_ble_eq_true rfl) dX9_narrow_158 (fun w2 h => ?_)
              obtain ⟨σx221, rfl, hV220, hW223, hN222⟩ := h
              have hW224 := Cor.trans hW205 hW223
              have hN222 := hN203.trans hN222
              refine inc_5_4_1_i (pc := 161) dX9_narrow_161 ?_
              have r225 : inR ((nI j10) + 1) 1 8 := inR_add (show inR (nI j10) 0 7 from hrg10) (show inR 1 1 1 from (inR_self _)) (by decide) (by decide)
              have e226 := ti_add (l := 1) (h := 8) (show inR (nI j10) 0 7 from hrg10) (show inR 1 1 1 from (inR_self _)) (by decide) (by decide)
              refine R_goto (pc := 164) 10 dX9_narrow_164 (by decide) ?_
              rw [nI_1]
              exact ih10 (j10 + 1) _ (by omega) (by omega) hV220 hW224 hN222
          · skip
            refine R_ifeq (pc := 92) 107 dX9_narrow_92 (by decide) (fun _ => ?_) (fun h => absurd (by decide) h)
            refine R_iconst (pc := 107) (v := 0) dX9_narrow_107 (by decide) ?_
            refine R_sipush (pc := 108) (v := 20000) dX9_narrow_108 (by decide) ?_
            refine k_X9_208 (pc := 111) (gn_X9_takenIn _ P _ _ _ hV182 (iva_152 hI _ (lt_of_vp hx1)) ⟨_, hP, congrArg (fun f : Nat → Int32 => (f c.toNatClampNeg).toNatClampNeg) hN184.1.2.2.2⟩) rfl (c_140 _) (by decide) (Nat.le_refl _) (Nat.le_refl _) (Nat.le_of_ble_eq_true rfl) dX9_narrow_111 (fun w2 h => ?_)
            obtain ⟨σx229, rfl, hV228, hW231, hN230⟩ := h
            have hW232 := Cor.trans hW186 hW231
            have hN230 := hN184.trans hN230
            refine R_aload_n (pc := 114) dX9_narrow_114 rfl rfl ?_
            refine R_iload_n (pc := 115) dX9_narrow_115 rfl rfl ?_
            refine R_iconst (pc := 116) (v := 0) dX9_narrow_116 (by decide) ?_
            refine R_aload_n (pc := 117) dX9_narrow_117 rfl rfl ?_
            refine g_X9_90 (pc := 118) (v := .ref 164) rfl dX9_narrow_118 (c_140 _) rfl ?_
            refine R_iload_n (pc := 121) dX9_narrow_121 rfl rfl ?_
            have hx233 : vp_in (σ.2.2.1 152 (Int32.toNatClampNeg c)) 20 := (vp_of_inR (iva_152 hI _ (lt_of_vp hx1)) (by decide))
            refine R_iaload (pc := 122) dX9_narrow_122 (c_164 _) hx233 ?_
            refine R_aload_n (pc := 123) dX9_narrow_123 rfl rfl ?_
            refine g_X9_66 (pc := 124) (v := .ref 156) rfl dX9_narrow_124 (c_140 _) rfl ?_
            refine R_iload (pc := 127) dX9_narrow_127 rfl ?_
            have hx234 : vp_in (nI j10) 8 := (vp_in_nI (by omega) (by decide))
            refine R_iaload (pc := 129) dX9_narrow_129 (c_156 _) hx234 ?_
            refine R_aload_n (pc := 130) dX9_narrow_130 rfl rfl ?_
            refine g_X9_69 (pc := 131) (v := .ref 157) rfl dX9_narrow_131 (c_140 _) rfl ?_
            refine R_iload (pc := 134) dX9_narrow_134 rfl ?_
            have hx235 : vp_in (nI j10) 8 := (vp_in_nI (by omega) (by decide))
            refine R_iaload (pc := 136) dX9_narrow_136 (c_157 _) hx235 ?_
            refine k_X9_124 (pc := 137) (sp_X9_in _ _ _ _) rfl (by decide) (Nat.le_refl _) (Nat.le_refl _) (Nat.le_of_ble_eq_true rfl) dX9_narrow_137 (fun x w2 h => ?_)
            rcases h with ⟨rfl, ⟨h236, rfl⟩ | ⟨h236, rfl⟩⟩
            · skip
              refine R_ifeq (pc := 140) 155 dX9_narrow_140 (by decide) (fun h => absurd h (by decide)) (fun _ => ?_)
              refine R_aload_n (pc := 143) dX9_narrow_143 rfl rfl ?_
              refine g_X9_66 (pc := 144) (v := .ref 156) rfl dX9_narrow_144 (c_140 _) rfl ?_
              refine R_iload (pc := 147) dX9_narrow_147 rfl ?_
              have hx238 : vp_in (nI j10) 8 := (vp_in_nI (by omega) (by decide))
              refine R_iaload (pc := 149) dX9_narrow_149 (c_156 _) hx238 ?_
              refine R_iconst (pc := 150) (v := 1) dX9_narrow_150 (by decide) ?_
              refine R_isub (pc := 151) dX9_narrow_151 ?_
              refine R_goto (pc := 152) 158 dX9_narrow_152 (by decide) ?_
              refine k_X9_208 (pc := 158) (gn_X9_takenIn _ P _ _ _ hV228 (iva_152 hI _ (lt_of_vp hx1)) ⟨_, hP, congrArg (fun f : Nat → Int32 => (f c.toNatClampNeg).toNatClampNeg) hN230.1.2.2.2⟩) rfl (c_140 _) (by decide) (Nat.le_refl _) (Nat.le_refl _) (Nat.le_of_ble_eq_true rfl) dX9_narrow_158 (fun w2 h => ?_)
              obtain ⟨σx240, rfl, hV239, hW242, hN241⟩ := h
              have hW243 := Cor.trans hW232 hW242
              have hN241 := hN230.trans hN241
              refine inc_5_4_1_i (pc := 161) dX9_narrow_161 ?_
              have r244 : inR ((nI j10) + 1) 1 8 := inR_add (show inR (nI j10) 0 7 from hrg10) (show inR 1 1 1 from (inR_self _)) (by decide) (by decide)
              have e245 := ti_add (l := 1) (h := 8) (show inR (nI j10) 0 7 from hrg10) (show inR 1 1 1 from (inR_self _)) (by decide) (by decide)
              refine R_goto (pc := 164) 10 dX9_narrow_164 (by decide) ?_
              rw [nI_1]
              exact ih10 (j10 + 1) _ (by omega) (by omega) hV239 hW243 hN241
            · skip
              refine R_ifeq (pc := 140) 155 dX9_narrow_140 (by decide) (fun _ => ?_) (fun h => absurd (by decide) h)
              refine R_sipush (pc := 155) (v := 20000) dX9_narrow_155 (by decide) ?_
              refine k_X9_208 (pc := 158) (gn_X9_takenIn _ P _ _ _ hV228 (iva_152 hI _ (lt_of_vp hx1)) ⟨_, hP, congrArg (fun f : Nat → Int32 => (f c.toNatClampNeg).toNatClampNeg) hN230.1.2.2.2⟩) rfl (c_140 _) (by decide) (Nat.le_refl _) (Nat.le_refl _) (Nat.le_of_ble_eq_true rfl) dX9_narrow_158 (fun w2 h => ?_)
              obtain ⟨σx248, rfl, hV247, hW250, hN249⟩ := h
              have hW251 := Cor.trans hW232 hW250
              have hN249 := hN230.trans hN249
              refine inc_5_4_1_i (pc := 161) dX9_narrow_161 ?_
              have r252 : inR ((nI j10) + 1) 1 8 := inR_add (show inR (nI j10) 0 7 from hrg10) (show inR 1 1 1 from (inR_self _)) (by decide) (by decide)
              have e253 := ti_add (l := 1) (h := 8) (show inR (nI j10) 0 7 from hrg10) (show inR 1 1 1 from (inR_self _)) (by decide) (by decide)
              refine R_goto (pc := 164) 10 dX9_narrow_164 (by decide) ?_
              rw [nI_1]
              exact ih10 (j10 + 1) _ (by omega) (by omega) hV247 hW251 hN249
  exact HL10 8 0 _ (by omega) (by omega) hI (show Cor σ σ from Cor.rfl' σ) (Nar.rfl' P σ)
