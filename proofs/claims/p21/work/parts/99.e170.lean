/-! methods on any state that keeps the invariant -/
set_option maxRecDepth 100000 in
set_option maxHeartbeats 40000000 in
theorem gq_X8_culprit {G : vG} {l : Launch} (σ : Sg) (D : Dt) (E : Nat → Dt)  (hI : Inv σ) (hS : Sym (RC0 σ) (tb (thI σ))) (hD : DtC D (thI σ) σ.2.2.2.2.1 σ) (hE : ∀ c, tb (thI σ) c = true → DtC (E c) (wo σ c) σ.2.2.2.2.1 σ) : Sp G l yX8_culprit cX8_culprit 3 (some .int) 6 0 0 [.ref 0] (WW σ) (QI (fun x w2 => CuA D E (tb (thI σ)) x BL ∧ ∃ σ2, w2 = WW σ2 ∧ Inv σ2 ∧ Cor σ σ2)) := by
  refine Sp_of_R [(some (.ref 0)), none, none] [none, none] rfl (by simp) rfl (Nat.le_of_ble_eq_true rfl) ?_
  refine R_aload_n (pc := 0) dX8_culprit_0 rfl rfl ?_
  refine g_X8_10 (pc := 1) (v := .ref 1) rfl dX8_culprit_1 (c_0 _) rfl ?_
  refine k_X8_126 (pc := 4) (ge_X0_there _ hI) rfl (c_1 _) (by decide) (Nat.le_refl _) (Nat.le_refl _) (Nat.le_of_ble_eq_true rfl) dX8_culprit_4 (fun x w2 h => ?_)
  obtain ⟨rfl, rfl⟩ := h
  refine st_3_1_i_a (pc := 7) dX8_culprit_7 ?_
  refine R_aload_n (pc := 8) dX8_culprit_8 rfl rfl ?_
  refine g_X8_37 (pc := 9) (v := .ref 58) rfl dX8_culprit_9 (c_0 _) rfl ?_
  refine R_iload_n (pc := 12) dX8_culprit_12 rfl rfl ?_
  refine R_aload_n (pc := 13) dX8_culprit_13 rfl rfl ?_
  rcases iv_ln hI with ⟨hl1, hl1d⟩ | ⟨hl1, hl1d⟩
  · skip
    refine g_X8_62 (pc := 14) (v := .ref 126) rfl dX8_culprit_14 (c_0 _) (by show some (Value.ref σ.2.2.2.2.1) = _; rw [hl1]) ?_
    refine k_X8_242 (pc := 17) (gd_X1_settle_126 _ D (thI σ) hI (thI_in σ) hS (by have q := hD; rw [hl1] at q; exact q)) rfl (c_58 _) (by decide) (Nat.le_refl _) (Nat.le_refl _) (Nat.le_of_ble_eq_true rfl) dX8_culprit_17 (fun x w2 h => ?_)
    obtain ⟨σx3, rfl, hV2, hW4, hld, hres⟩ := h
    have hW5 := Cor.trans (show Cor σ σ from Cor.rfl' σ) hW4
    rcases hres with ⟨rfl, hG⟩ | ⟨rfl, hBL⟩
    · skip
      refine R_ifeq (pc := 20) 25 dX8_culprit_20 (by decide) (fun h => absurd h (by decide)) (fun _ => ?_)
      refine R_iconst (pc := 23) (v := (-1)) dX8_culprit_23 (by decide) ?_
      exact R_iret (pc := 24) dX8_culprit_24 rfl rfl (Nat.zero_le _) (Nat.zero_le _) ⟨_, rfl, Or.inl ⟨rfl, _, hG⟩, _, rfl, hV2, hW5⟩
    · skip
      refine R_ifeq (pc := 20) 25 dX8_culprit_20 (by decide) (fun _ => ?_) (fun h => absurd (by decide) h)
      refine R_iconst (pc := 25) (v := 0) dX8_culprit_25 (by decide) ?_
      refine st_3_2_i_i (pc := 26) dX8_culprit_26 ?_
      have HL27 : ∀ (q j27 : Nat) (σ27 : Sg), j27 + q = 20 → 0 ≤ j27 → Inv σ27 → Cor σ σ27 → (∀ i, i < j27 → tb (thI σ) i = true → BL (E i)) → R G l yX8_culprit cX8_culprit 3 (some .int) 6 0 0 (QI (fun x w2 => CuA D E (tb (thI σ)) x BL ∧ ∃ σ2, w2 = WW σ2 ∧ Inv σ2 ∧ Cor σ σ2)) 27 [(some (.ref 0)), (some (.int (thI σ))), (some (.int (nI j27)))] [] (WW σ27) 0 0 := by
        intro q
        induction q with
        | zero =>
          intro j27 σ27 hj hs27 hI27 hC27 hX27_0
          obtain rfl : j27 = 20 := by omega
          refine R_iload_n (pc := 27) dX8_culprit_27 rfl rfl ?_
          refine R_bipush (pc := 28) (v := 20) dX8_culprit_28 (by decide) ?_
          refine R_icge (pc := 30) 70 dX8_culprit_30 (by decide) (fun _ => ?_) (fun h => absurd (by decide) h)
          refine R_iconst (pc := 70) (v := (-1)) dX8_culprit_70 (by decide) ?_
          exact R_iret (pc := 71) dX8_culprit_71 rfl rfl (Nat.zero_le _) (Nat.zero_le _) ⟨_, rfl, Or.inr ⟨hBL, Or.inr ⟨rfl, hX27_0⟩⟩, _, rfl, hI27, hC27⟩
        | succ q ih27 =>
          intro j27 σ27 hj hs27 hI27 hC27 hX27_0
          have hrg27 : inR (nI j27) 0 19 := inR_ix hs27 (show j27 < 20 by omega) (by decide) (by decide) (by decide)
          have hlt27 : j27 < 20 := by omega
          refine R_iload_n (pc := 27) dX8_culprit_27 rfl rfl ?_
          refine R_bipush (pc := 28) (v := 20) dX8_culprit_28 (by decide) ?_
          refine R_icge (pc := 30) 70 dX8_culprit_30 (by decide) (fun h => False.elim (by have q1 := ti_le h; have q2 := ti_in (show inR (nI j27) 0 19 from hrg27); have q3 := ti_in (show inR 20 20 20 from (inR_self _)); have z0 : (0 : Int32).toInt = 0 := (by decide);  have z1 : (19 : Int32).toInt = 19 := (by decide);  have z2 : (20 : Int32).toInt = 20 := (by decide); omega)) (fun _ => ?_)
          refine R_iload_n (pc := 33) dX8_culprit_33 rfl rfl ?_
          refine R_iload_n (pc := 34) dX8_culprit_34 rfl rfl ?_
          refine k_X8_209 (pc := 35) (sp_X8_has _ _ _) rfl (by decide) (Nat.le_refl _) (Nat.le_refl _) (Nat.le_of_ble_eq_true rfl) dX8_culprit_35 (fun x w2 h => ?_)
          rcases h with ⟨rfl, ⟨hh10, rfl⟩ | ⟨hh10, rfl⟩⟩
          · skip
            refine R_ifeq (pc := 38) 64 dX8_culprit_38 (by decide) (fun h => absurd h (by decide)) (fun _ => ?_)
            refine R_aload_n (pc := 41) dX8_culprit_41 rfl rfl ?_
            refine g_X8_37 (pc := 42) (v := .ref 58) rfl dX8_culprit_42 (c_0 _) rfl ?_
            refine R_iload_n (pc := 45) dX8_culprit_45 rfl rfl ?_
            refine R_iconst (pc := 46) (v := 1) dX8_culprit_46 (by decide) ?_
            refine R_iload_n (pc := 47) dX8_culprit_47 rfl rfl ?_
            refine R_ishl (pc := 48) dX8_culprit_48 ?_
            have r12 : inR (1 <<< ((nI j27) &&& 31)) 0 1048575 := shl20 hrg27
            refine R_iconst (pc := 49) (v := (-1)) dX8_culprit_49 (by decide) ?_
            refine R_ixor (pc := 50) dX8_culprit_50 ?_
            refine R_iand (pc := 51) dX8_culprit_51 ?_
            have r13 : inR ((thI σ) &&& ((1 <<< ((nI j27) &&& 31)) ^^^ (-1))) 0 1048575 := inR_and (thI_in σ)
            refine R_aload_n (pc := 52) dX8_culprit_52 rfl rfl ?_
            rcases iv_ln hI27 with ⟨hl14, hl14d⟩ | ⟨hl14, hl14d⟩
            · skip
              refine g_X8_62 (pc := 53) (v := .ref 126) rfl dX8_culprit_53 (c_0 _) (by show some (Value.ref σ27.2.2.2.2.1) = _; rw [hl14]) ?_
              have hlp : σ.2.2.2.2.1 = 126 := (congrArg Prod.fst hC27.2.2.2.2).symm.trans hl14
              have hDj : DtC (E j27) (wo σ j27) 126 σ27 := by have q := hE j27 (has_t (by omega) hh10); rw [hlp] at q; exact dtC_cor (wo_in σ j27) (Or.inr (Or.inl rfl)) q hC27
              refine k_X8_242 (pc := 56) (gd_X1_settle_126 _ (E j27) ((thI σ) &&& ((1 <<< ((nI j27) &&& 31)) ^^^ (-1))) hI27 (wo_in σ j27) (sym_wo hS hC27 j27) hDj) rfl (c_58 _) (by decide) (Nat.le_refl _) (Nat.le_refl _) (Nat.le_of_ble_eq_true rfl) dX8_culprit_56 (fun x w2 h => ?_)
              obtain ⟨σx16, rfl, hV15, hW17, -, hres2⟩ := h
              have hW18 := Cor.trans hC27 hW17
              rcases hres2 with ⟨rfl, hG2⟩ | ⟨rfl, hBL2⟩
              · skip
                refine R_ifeq (pc := 59) 64 dX8_culprit_59 (by decide) (fun h => absurd h (by decide)) (fun _ => ?_)
                refine R_iload_n (pc := 62) dX8_culprit_62 rfl rfl ?_
                exact R_iret (pc := 63) dX8_culprit_63 rfl rfl (Nat.zero_le _) (Nat.zero_le _) ⟨_, rfl, Or.inr ⟨hBL, Or.inl ⟨j27, (by omega), (has_t (by omega) hh10), rfl, ⟨_, hG2⟩, hX27_0⟩⟩, _, rfl, hV15, hW18⟩
              · skip
                refine R_ifeq (pc := 59) 64 dX8_culprit_59 (by decide) (fun _ => ?_) (fun h => absurd (by decide) h)
                refine inc_3_2_1_i (pc := 64) dX8_culprit_64 ?_
                have r21 : inR ((nI j27) + 1) 1 20 := inR_add (show inR (nI j27) 0 19 from hrg27) (show inR 1 1 1 from (inR_self _)) (by decide) (by decide)
                have e22 := ti_add (l := 1) (h := 20) (show inR (nI j27) 0 19 from hrg27) (show inR 1 1 1 from (inR_self _)) (by decide) (by decide)
                refine R_goto (pc := 67) 27 dX8_culprit_67 (by decide) ?_
                rw [nI_1]
                exact ih27 (j27 + 1) _ (by omega) (by omega) hV15 hW18 (cu_t hX27_0 hBL2)
            · skip
              refine g_X8_62 (pc := 53) (v := .ref 133) rfl dX8_culprit_53 (c_0 _) (by show some (Value.ref σ27.2.2.2.2.1) = _; rw [hl14]) ?_
              have hlp : σ.2.2.2.2.1 = 133 := (congrArg Prod.fst hC27.2.2.2.2).symm.trans hl14
              have hDj : DtC (E j27) (wo σ j27) 133 σ27 := by have q := hE j27 (has_t (by omega) hh10); rw [hlp] at q; exact dtC_cor (wo_in σ j27) (Or.inr (Or.inr rfl)) q hC27
              refine k_X8_242 (pc := 56) (gd_X1_settle_133 _ (E j27) ((thI σ) &&& ((1 <<< ((nI j27) &&& 31)) ^^^ (-1))) hI27 (wo_in σ j27) (sym_wo hS hC27 j27) hDj) rfl (c_58 _) (by decide) (Nat.le_refl _) (Nat.le_refl _) (Nat.le_of_ble_eq_true rfl) dX8_culprit_56 (fun x w2 h => ?_)
              obtain ⟨σx24, rfl, hV23, hW25, -, hres2⟩ := h
              have hW26 := Cor.trans hC27 hW25
              rcases hres2 with ⟨rfl, hG2⟩ | ⟨rfl, hBL2⟩
              · skip
                refine R_ifeq (pc := 59) 64 dX8_culprit_59 (by decide) (fun h => absurd h (by decide)) (fun _ => ?_)
                refine R_iload_n (pc := 62) dX8_culprit_62 rfl rfl ?_
                exact R_iret (pc := 63) dX8_culprit_63 rfl rfl (Nat.zero_le _) (Nat.zero_le _) ⟨_, rfl, Or.inr ⟨hBL, Or.inl ⟨j27, (by omega), (has_t (by omega) hh10), rfl, ⟨_, hG2⟩, hX27_0⟩⟩, _, rfl, hV23, hW26⟩
              · skip
                refine R_ifeq (pc := 59) 64 dX8_culprit_59 (by decide) (fun _ => ?_) (fun h => absurd (by decide) h)
                refine inc_3_2_1_i (pc := 64) dX8_culprit_64 ?_
                have r29 : inR ((nI j27) + 1) 1 20 := inR_add (show inR (nI j27) 0 19 from hrg27) (show inR 1 1 1 from (inR_self _)) (by decide) (by decide)
                have e30 := ti_add (l := 1) (h := 20) (show inR (nI j27) 0 19 from hrg27) (show inR 1 1 1 from (inR_self _)) (by decide) (by decide)
                refine R_goto (pc := 67) 27 dX8_culprit_67 (by decide) ?_
                rw [nI_1]
                exact ih27 (j27 + 1) _ (by omega) (by omega) hV23 hW26 (cu_t hX27_0 hBL2)
          · skip
            refine R_ifeq (pc := 38) 64 dX8_culprit_38 (by decide) (fun _ => ?_) (fun h => absurd (by decide) h)
            refine inc_3_2_1_i (pc := 64) dX8_culprit_64 ?_
            have r32 : inR ((nI j27) + 1) 1 20 := inR_add (show inR (nI j27) 0 19 from hrg27) (show inR 1 1 1 from (inR_self _)) (by decide) (by decide)
            have e33 := ti_add (l := 1) (h := 20) (show inR (nI j27) 0 19 from hrg27) (show inR 1 1 1 from (inR_self _)) (by decide) (by decide)
            refine R_goto (pc := 67) 27 dX8_culprit_67 (by decide) ?_
            rw [nI_1]
            exact ih27 (j27 + 1) _ (by omega) (by omega) hI27 hC27 (cu_f hX27_0 (has_f (by omega) hh10))
      exact HL27 20 0 _ (by omega) (by omega) hV2 hW5 (fun i hi => absurd hi (Nat.not_lt_zero i))
  · skip
    refine g_X8_62 (pc := 14) (v := .ref 133) rfl dX8_culprit_14 (c_0 _) (by show some (Value.ref σ.2.2.2.2.1) = _; rw [hl1]) ?_
    refine k_X8_242 (pc := 17) (gd_X1_settle_133 _ D (thI σ) hI (thI_in σ) hS (by have q := hD; rw [hl1] at q; exact q)) rfl (c_58 _) (by decide) (Nat.le_refl _) (Nat.le_refl _) (Nat.le_of_ble_eq_true rfl) dX8_culprit_17 (fun x w2 h => ?_)
    obtain ⟨σx35, rfl, hV34, hW36, hld, hres⟩ := h
    have hW37 := Cor.trans (show Cor σ σ from Cor.rfl' σ) hW36
    rcases hres with ⟨rfl, hG⟩ | ⟨rfl, hBL⟩
    · skip
      refine R_ifeq (pc := 20) 25 dX8_culprit_20 (by decide) (fun h => absurd h (by decide)) (fun _ => ?_)
      refine R_iconst (pc := 23) (v := (-1)) dX8_culprit_23 (by decide) ?_
      exact R_iret (pc := 24) dX8_culprit_24 rfl rfl (Nat.zero_le _) (Nat.zero_le _) ⟨_, rfl, Or.inl ⟨rfl, _, hG⟩, _, rfl, hV34, hW37⟩
    · skip
      refine R_ifeq (pc := 20) 25 dX8_culprit_20 (by decide) (fun _ => ?_) (fun h => absurd (by decide) h)
      refine R_iconst (pc := 25) (v := 0) dX8_culprit_25 (by decide) ?_
      refine st_3_2_i_i (pc := 26) dX8_culprit_26 ?_
      have HL27 : ∀ (q j27 : Nat) (σ27 : Sg), j27 + q = 20 → 0 ≤ j27 → Inv σ27 → Cor σ σ27 → (∀ i, i < j27 → tb (thI σ) i = true → BL (E i)) → R G l yX8_culprit cX8_culprit 3 (some .int) 6 0 0 (QI (fun x w2 => CuA D E (tb (thI σ)) x BL ∧ ∃ σ2, w2 = WW σ2 ∧ Inv σ2 ∧ Cor σ σ2)) 27 [(some (.ref 0)), (some (.int (thI σ))), (some (.int (nI j27)))] [] (WW σ27) 0 0 := by
        intro q
        induction q with
        | zero =>
          intro j27 σ27 hj hs27 hI27 hC27 hX27_0
          obtain rfl : j27 = 20 := by omega
          refine R_iload_n (pc := 27) dX8_culprit_27 rfl rfl ?_
          refine R_bipush (pc := 28) (v := 20) dX8_culprit_28 (by decide) ?_
          refine R_icge (pc := 30) 70 dX8_culprit_30 (by decide) (fun _ => ?_) (fun h => absurd (by decide) h)
          refine R_iconst (pc := 70) (v := (-1)) dX8_culprit_70 (by decide) ?_
          exact R_iret (pc := 71) dX8_culprit_71 rfl rfl (Nat.zero_le _) (Nat.zero_le _) ⟨_, rfl, Or.inr ⟨hBL, Or.inr ⟨rfl, hX27_0⟩⟩, _, rfl, hI27, hC27⟩
        | succ q ih27 =>
          intro j27 σ27 hj hs27 hI27 hC27 hX27_0
          have hrg27 : inR (nI j27) 0 19 := inR_ix hs27 (show j27 < 20 by omega) (by decide) (by decide) (by decide)
          have hlt27 : j27 < 20 := by omega
          refine R_iload_n (pc := 27) dX8_culprit_27 rfl rfl ?_
          refine R_bipush (pc := 28) (v := 20) dX8_culprit_28 (by decide) ?_
          refine R_icge (pc := 30) 70 dX8_culprit_30 (by decide) (fun h => False.elim (by have q1 := ti_le h; have q2 := ti_in (show inR (nI j27) 0 19 from hrg27); have q3 := ti_in (show inR 20 20 20 from (inR_self _)); have z0 : (0 : Int32).toInt = 0 := (by decide);  have z1 : (19 : Int32).toInt = 19 := (by decide);  have z2 : (20 : Int32).toInt = 20 := (by decide); omega)) (fun _ => ?_)
          refine R_iload_n (pc := 33) dX8_culprit_33 rfl rfl ?_
          refine R_iload_n (pc := 34) dX8_culprit_34 rfl rfl ?_
          refine k_X8_209 (pc := 35) (sp_X8_has _ _ _) rfl (by decide) (Nat.le_refl _) (Nat.le_refl _) (Nat.le_of_ble_eq_true rfl) dX8_culprit_35 (fun x w2 h => ?_)
          rcases h with ⟨rfl, ⟨hh42, rfl⟩ | ⟨hh42, rfl⟩⟩
          · skip
            refine R_ifeq (pc := 38) 64 dX8_culprit_38 (by decide) (fun h => absurd h (by decide)) (fun _ => ?_)
            refine R_aload_n (pc := 41) dX8_culprit_41 rfl rfl ?_
            refine g_X8_37 (pc := 42) (v := .ref 58) rfl dX8_culprit_42 (c_0 _) rfl ?_
            refine R_iload_n (pc := 45) dX8_culprit_45 rfl rfl ?_
            refine R_iconst (pc := 46) (v := 1) dX8_culprit_46 (by decide) ?_
            refine R_iload_n (pc := 47) dX8_culprit_47 rfl rfl ?_
            refine R_ishl (pc := 48) dX8_culprit_48 ?_
            have r44 : inR (1 <<< ((nI j27) &&& 31)) 0 1048575 := shl20 hrg27
            refine R_iconst (pc := 49) (v := (-1)) dX8_culprit_49 (by decide) ?_
            refine R_ixor (pc := 50) dX8_culprit_50 ?_
            refine R_iand (pc := 51) dX8_culprit_51 ?_
            have r45 : inR ((thI σ) &&& ((1 <<< ((nI j27) &&& 31)) ^^^ (-1))) 0 1048575 := inR_and (thI_in σ)
            refine R_aload_n (pc := 52) dX8_culprit_52 rfl rfl ?_
            rcases iv_ln hI27 with ⟨hl46, hl46d⟩ | ⟨hl46, hl46d⟩
            · skip
              refine g_X8_62 (pc := 53) (v := .ref 126) rfl dX8_culprit_53 (c_0 _) (by show some (Value.ref σ27.2.2.2.2.1) = _; rw [hl46]) ?_
              have hlp : σ.2.2.2.2.1 = 126 := (congrArg Prod.fst hC27.2.2.2.2).symm.trans hl46
              have hDj : DtC (E j27) (wo σ j27) 126 σ27 := by have q := hE j27 (has_t (by omega) hh42); rw [hlp] at q; exact dtC_cor (wo_in σ j27) (Or.inr (Or.inl rfl)) q hC27
              refine k_X8_242 (pc := 56) (gd_X1_settle_126 _ (E j27) ((thI σ) &&& ((1 <<< ((nI j27) &&& 31)) ^^^ (-1))) hI27 (wo_in σ j27) (sym_wo hS hC27 j27) hDj) rfl (c_58 _) (by decide) (Nat.le_refl _) (Nat.le_refl _) (Nat.le_of_ble_eq_true rfl) dX8_culprit_56 (fun x w2 h => ?_)
              obtain ⟨σx48, rfl, hV47, hW49, -, hres2⟩ := h
              have hW50 := Cor.trans hC27 hW49
              rcases hres2 with ⟨rfl, hG2⟩ | ⟨rfl, hBL2⟩
              · skip
                refine R_ifeq (pc := 59) 64 dX8_culprit_59 (by decide) (fun h => absurd h (by decide)) (fun _ => ?_)
                refine R_iload_n (pc := 62) dX8_culprit_62 rfl rfl ?_
                exact R_iret (pc := 63) dX8_culprit_63 rfl rfl (Nat.zero_le _) (Nat.zero_le _) ⟨_, rfl, Or.inr ⟨hBL, Or.inl ⟨j27, (by omega), (has_t (by omega) hh42), rfl, ⟨_, hG2⟩, hX27_0⟩⟩, _, rfl, hV47, hW50⟩
              · skip
                refine R_ifeq (pc := 59) 64 dX8_culprit_59 (by decide) (fun _ => ?_) (fun h => absurd (by decide) h)
                refine inc_3_2_1_i (pc := 64) dX8_culprit_64 ?_
                have r53 : inR ((nI j27) + 1) 1 20 := inR_add (show inR (nI j27) 0 19 from hrg27) (show inR 1 1 1 from (inR_self _)) (by decide) (by decide)
                have e54 := ti_add (l := 1) (h := 20) (show inR (nI j27) 0 19 from hrg27) (show inR 1 1 1 from (inR_self _)) (by decide) (by decide)
                refine R_goto (pc := 67) 27 dX8_culprit_67 (by decide) ?_
                rw [nI_1]
                exact ih27 (j27 + 1) _ (by omega) (by omega) hV47 hW50 (cu_t hX27_0 hBL2)
            · skip
              refine g_X8_62 (pc := 53) (v := .ref 133) rfl dX8_culprit_53 (c_0 _) (by show some (Value.ref σ27.2.2.2.2.1) = _; rw [hl46]) ?_
              have hlp : σ.2.2.2.2.1 = 133 := (congrArg Prod.fst hC27.2.2.2.2).symm.trans hl46
              have hDj : DtC (E j27) (wo σ j27) 133 σ27 := by have q := hE j27 (has_t (by omega) hh42); rw [hlp] at q; exact dtC_cor (wo_in σ j27) (Or.inr (Or.inr rfl)) q hC27
              refine k_X8_242 (pc := 56) (gd_X1_settle_133 _ (E j27) ((thI σ) &&& ((1 <<< ((nI j27) &&& 31)) ^^^ (-1))) hI27 (wo_in σ j27) (sym_wo hS hC27 j27) hDj) rfl (c_58 _) (by decide) (Nat.le_refl _) (Nat.le_refl _) (Nat.le_of_ble_eq_true rfl) dX8_culprit_56 (fun x w2 h => ?_)
              obtain ⟨σx56, rfl, hV55, hW57, -, hres2⟩ := h
              have hW58 := Cor.trans hC27 hW57
              rcases hres2 with ⟨rfl, hG2⟩ | ⟨rfl, hBL2⟩
              · skip
                refine R_ifeq (pc := 59) 64 dX8_culprit_59 (by decide) (fun h => absurd h (by decide)) (fun _ => ?_)
                refine R_iload_n (pc := 62) dX8_culprit_62 rfl rfl ?_
                exact R_iret (pc := 63) dX8_culprit_63 rfl rfl (Nat.zero_le _) (Nat.zero_le _) ⟨_, rfl, Or.inr ⟨hBL, Or.inl ⟨j27, (by omega), (has_t (by omega) hh42), rfl, ⟨_, hG2⟩, hX27_0⟩⟩, _, rfl, hV55, hW58⟩
              · skip
                refine R_ifeq (pc := 59) 64 dX8_culprit_59 (by decide) (fun _ => ?_) (fun h => absurd (by decide) h)
                refine inc_3_2_1_i (pc := 64) dX8_culprit_64 ?_
                have r61 : inR ((nI j27) + 1) 1 20 := inR_add (show inR (nI j27) 0 19 from hrg27) (show inR 1 1 1 from (inR_self _)) (by decide) (by decide)
                have e62 := ti_add (l := 1) (h := 20) (show inR (nI j27) 0 19 from hrg27) (show inR 1 1 1 from (inR_self _)) (by decide) (by decide)
                refine R_goto (pc := 67) 27 dX8_culprit_67 (by decide) ?_
                rw [nI_1]
                exact ih27 (j27 + 1) _ (by omega) (by omega) hV55 hW58 (cu_t hX27_0 hBL2)
          · skip
            refine R_ifeq (pc := 38) 64 dX8_culprit_38 (by decide) (fun _ => ?_) (fun h => absurd (by decide) h)
            refine inc_3_2_1_i (pc := 64) dX8_culprit_64 ?_
            have r64 : inR ((nI j27) + 1) 1 20 := inR_add (show inR (nI j27) 0 19 from hrg27) (show inR 1 1 1 from (inR_self _)) (by decide) (by decide)
            have e65 := ti_add (l := 1) (h := 20) (show inR (nI j27) 0 19 from hrg27) (show inR 1 1 1 from (inR_self _)) (by decide) (by decide)
            refine R_goto (pc := 67) 27 dX8_culprit_67 (by decide) ?_
            rw [nI_1]
            exact ih27 (j27 + 1) _ (by omega) (by omega) hI27 hC27 (cu_f hX27_0 (has_f (by omega) hh42))
      exact HL27 20 0 _ (by omega) (by omega) hV34 hW37 (fun i hi => absurd hi (Nat.not_lt_zero i))
set_option maxRecDepth 100000 in
set_option maxHeartbeats 40000000 in
theorem gq_X9_culprit {G : vG} {l : Launch} (σ : Sg) (D : Dt) (E : Nat → Dt)  (hI : Inv σ) (hD : DtM D (-1) 1 σ) (hE : ∀ c, c < TMn σ → DtM (E c) (nI c) 1 σ) : Sp G l yX9_culprit cX9_culprit 2 (some .int) 5 0 0 [.ref 140] (WW σ) (QI (fun x w2 => CuA D E (fun i => decide (i < TMn σ)) x Bad ∧ ∃ σ2, w2 = WW σ2 ∧ Inv σ2 ∧ Cor σ σ2)) := by
  refine Sp_of_R [(some (.ref 140)), none] [none] rfl (by simp) rfl (Nat.le_of_ble_eq_true rfl) ?_
  refine R_aload_n (pc := 0) dX9_culprit_0 rfl rfl ?_
  refine R_iconst (pc := 1) (v := (-1)) dX9_culprit_1 (by decide) ?_
  refine R_iconst (pc := 2) (v := 1) dX9_culprit_2 (by decide) ?_
  refine k_X9_228 (pc := 3) (gd_X9_areSpans _ D (-1) 1 hI hD) rfl (c_140 _) (by decide) (Nat.le_refl _) (Nat.le_refl _) (Nat.le_of_ble_eq_true rfl) dX9_culprit_3 (fun x w2 h => ?_)
  obtain ⟨σx2, rfl, hV1, hW3, hld, hres⟩ := h
  have hW4 := Cor.trans (show Cor σ σ from Cor.rfl' σ) hW3
  rcases hres with ⟨rfl, hG⟩ | ⟨rfl, hBL⟩
  · skip
    refine R_ifeq (pc := 6) 11 dX9_culprit_6 (by decide) (fun h => absurd h (by decide)) (fun _ => ?_)
    refine R_iconst (pc := 9) (v := (-1)) dX9_culprit_9 (by decide) ?_
    exact R_iret (pc := 10) dX9_culprit_10 rfl rfl (Nat.zero_le _) (Nat.zero_le _) ⟨_, rfl, Or.inl ⟨rfl, _, hG⟩, _, rfl, hV1, hW4⟩
  · skip
    refine R_ifeq (pc := 6) 11 dX9_culprit_6 (by decide) (fun _ => ?_) (fun h => absurd (by decide) h)
    refine R_iconst (pc := 11) (v := 0) dX9_culprit_11 (by decide) ?_
    refine st_2_1_i_a (pc := 12) dX9_culprit_12 ?_
    have HL13 : ∀ (q j13 : Nat) (σ13 : Sg), j13 + q = 20 → 0 ≤ j13 → Inv σ13 → Cor σ σ13 → (∀ i, i < j13 → (fun i => decide (i < TMn σ)) i = true → Bad (E i)) → j13 ≤ TMn σ → R G l yX9_culprit cX9_culprit 2 (some .int) 5 0 0 (QI (fun x w2 => CuA D E (fun i => decide (i < TMn σ)) x Bad ∧ ∃ σ2, w2 = WW σ2 ∧ Inv σ2 ∧ Cor σ σ2)) 13 [(some (.ref 140)), (some (.int (nI j13)))] [] (WW σ13) 0 0 := by
      intro q
      induction q with
      | zero =>
        intro j13 σ13 hj hs13 hI13 hC13 hX13_0 hX13_1
        obtain rfl : j13 = 20 := by omega
        refine R_iload_n (pc := 13) dX9_culprit_13 rfl rfl ?_
        refine R_aload_n (pc := 14) dX9_culprit_14 rfl rfl ?_
        refine k_X9_120 (pc := 15) (ge_X9_thereMany _ hI13) rfl (c_140 _) (by decide) (Nat.le_refl _) (Nat.le_refl _) (Nat.le_of_ble_eq_true rfl) dX9_culprit_15 (fun x w2 h => ?_)
        obtain ⟨rfl, rfl⟩ := h
        refine R_icge (pc := 18) 38 dX9_culprit_18 (by decide) (fun _ => ?_) (fun h => absurd (Int32.not_lt.mp (inR_up (tm_in (σ13.1 14000) (σ13.1 14013) (σ13.2.2.1 148)) (Int32.le_refl _) (by decide)).2) h)
        refine R_iconst (pc := 38) (v := (-1)) dX9_culprit_38 (by decide) ?_
        exact R_iret (pc := 39) dX9_culprit_39 rfl rfl (Nat.zero_le _) (Nat.zero_le _) ⟨_, rfl, Or.inr ⟨hBL, Or.inr ⟨rfl, fun i _ ht => hX13_0 i (by rw [(show 20 = TMn σ from tm_ex20 hX13_1)]; exact of_decide_eq_true ht) ht⟩⟩, _, rfl, hI13, hC13⟩
      | succ q ih13 =>
        intro j13 σ13 hj hs13 hI13 hC13 hX13_0 hX13_1
        have hrg13 : inR (nI j13) 0 19 := inR_ix hs13 (show j13 < 20 by omega) (by decide) (by decide) (by decide)
        have hlt13 : j13 < 20 := by omega
        refine R_iload_n (pc := 13) dX9_culprit_13 rfl rfl ?_
        refine R_aload_n (pc := 14) dX9_culprit_14 rfl rfl ?_
        refine k_X9_120 (pc := 15) (ge_X9_thereMany _ hI13) rfl (c_140 _) (by decide) (Nat.le_refl _) (Nat.le_refl _) (Nat.le_of_ble_eq_true rfl) dX9_culprit_15 (fun x w2 h => ?_)
        obtain ⟨rfl, rfl⟩ := h
        refine R_icge (pc := 18) 38 dX9_culprit_18 (by decide) (fun b18_8 => ?_) (fun b18_8 => ?_)
        · skip
          refine R_iconst (pc := 38) (v := (-1)) dX9_culprit_38 (by decide) ?_
          exact R_iret (pc := 39) dX9_culprit_39 rfl rfl (Nat.zero_le _) (Nat.zero_le _) ⟨_, rfl, Or.inr ⟨hBL, Or.inr ⟨rfl, fun i _ ht => hX13_0 i (by rw [(show j13 = TMn σ from tm_exit (by omega) hX13_1 (by have q := b18_8; rw [cor_tm hC13] at q; exact q))]; exact of_decide_eq_true ht) ht⟩⟩, _, rfl, hI13, hC13⟩
        · skip
          refine R_aload_n (pc := 21) dX9_culprit_21 rfl rfl ?_
          refine R_iload_n (pc := 22) dX9_culprit_22 rfl rfl ?_
          refine R_iconst (pc := 23) (v := 1) dX9_culprit_23 (by decide) ?_
          have hjt : j13 < TMn σ := by have q := tm_next (by omega) b18_8; rw [cor_tm hC13] at q; exact q
          refine k_X9_228 (pc := 24) (gd_X9_areSpans _ (E j13) (nI j13) 1 hI13 (dtM_cor (hE j13 hjt) hC13)) rfl (c_140 _) (by decide) (Nat.le_refl _) (Nat.le_refl _) (Nat.le_of_ble_eq_true rfl) dX9_culprit_24 (fun x w2 h => ?_)
          obtain ⟨σx10, rfl, hV9, hW11, -, hres2⟩ := h
          have hW12 := Cor.trans hC13 hW11
          rcases hres2 with ⟨rfl, hG2⟩ | ⟨rfl, hBL2⟩
          · skip
            refine R_ifeq (pc := 27) 32 dX9_culprit_27 (by decide) (fun h => absurd h (by decide)) (fun _ => ?_)
            refine R_iload_n (pc := 30) dX9_culprit_30 rfl rfl ?_
            exact R_iret (pc := 31) dX9_culprit_31 rfl rfl (Nat.zero_le _) (Nat.zero_le _) ⟨_, rfl, Or.inr ⟨hBL, Or.inl ⟨j13, (by omega), (decide_eq_true hjt), rfl, ⟨_, hG2⟩, hX13_0⟩⟩, _, rfl, hV9, hW12⟩
          · skip
            refine R_ifeq (pc := 27) 32 dX9_culprit_27 (by decide) (fun _ => ?_) (fun h => absurd (by decide) h)
            refine inc_2_1_1_a (pc := 32) dX9_culprit_32 ?_
            have r15 : inR ((nI j13) + 1) 1 20 := inR_add (show inR (nI j13) 0 19 from hrg13) (show inR 1 1 1 from (inR_self _)) (by decide) (by decide)
            have e16 := ti_add (l := 1) (h := 20) (show inR (nI j13) 0 19 from hrg13) (show inR 1 1 1 from (inR_self _)) (by decide) (by decide)
            refine R_goto (pc := 35) 13 dX9_culprit_35 (by decide) ?_
            rw [nI_1]
            exact ih13 (j13 + 1) _ (by omega) (by omega) hV9 hW12 (cu_t hX13_0 hBL2) hjt
    exact HL13 20 0 _ (by omega) (by omega) hV1 hW4 (fun i hi => absurd hi (Nat.not_lt_zero i)) (Nat.zero_le _)
