/-! methods on any state that keeps the invariant -/
set_option maxRecDepth 100000 in
set_option maxHeartbeats 40000000 in
theorem ge_X9_isRead {G : vG} {l : Launch} (σ : Sg) (f : Nat → Int32) (n : Nat)  (hI : Inv σ) (hz : σ.1 14037 = nI n) (hf : σ.2.2.1 170 = f) (hn : n ≤ 160) : Sp G l yX9_isRead cX9_isRead 2 (some .boolean) 4 0 0 [.ref 140] (WW σ) (QI (fun x w2 => ∃ σ2, w2 = WW σ2 ∧ Inv σ2 ∧ Cor σ σ2 ∧ (x = 1 ∧ rdR f n = -1 ∧ σ2.1 14045 = rdZ f n ∧ inR (σ2.1 14045) 0 8 ∧ RC (σ2.2.2.1 171) f n ∨ x = 0 ∧ ¬ rdR f n = -1 ∧ σ2.1 14044 = rdR f n))) := by
  refine Sp_of_R [(some (.ref 140)), none] [none] rfl (by simp) rfl (Nat.le_of_ble_eq_true rfl) ?_
  refine R_aload_n (pc := 0) dX9_isRead_0 rfl rfl ?_
  refine R_iconst (pc := 1) (v := 0) dX9_isRead_1 (by decide) ?_
  refine p_X9_257 (pc := 2) rfl dX9_isRead_2 (c_140 _) (Nat.le_of_ble_eq_true rfl) rfl rfl (s_140_39 _ _) ?_
  have hW1 := cor_si 14039 0 (show Cor σ σ from Cor.rfl' σ) rfl
  refine R_aload_n (pc := 5) dX9_isRead_5 rfl rfl ?_
  refine R_iconst (pc := 6) (v := 0) dX9_isRead_6 (by decide) ?_
  refine p_X9_309 (pc := 7) rfl dX9_isRead_7 (c_140 _) (Nat.le_of_ble_eq_true rfl) rfl rfl (s_140_45 _ _) ?_
  have hW2 := cor_si 14045 0 hW1 rfl
  refine R_iconst (pc := 10) (v := 1) dX9_isRead_10 (by decide) ?_
  refine st_2_1_i_a (pc := 11) dX9_isRead_11 ?_
  have HL : ∀ (q m : Nat) (σd : Sg) (r : Nat → Int32) (p : Nat), m + q = 7 → mQs f r n (nI m) σd → σd.1 14039 = nI p → p ≤ n → stI f n m = (sk f n p, -1) → rdL f n (7 - m) (lnS f n (sk f n p, -1)) = rdE f n → rdC f n (7 - m) (lnS f n (sk f n p, -1)) (szS (lnS f n (sk f n p, -1)).2 (nI m)) = rdZ f n → (∀ i : Nat, i < m → LnC r i f n (stI f n i)) → Inv σd → Cor σ σd → R G l yX9_isRead cX9_isRead 2 (some .boolean) 4 0 0 (QI (fun x w2 => ∃ σ2, w2 = WW σ2 ∧ Inv σ2 ∧ Cor σ σ2 ∧ (x = 1 ∧ rdR f n = -1 ∧ σ2.1 14045 = rdZ f n ∧ inR (σ2.1 14045) 0 8 ∧ RC (σ2.2.2.1 171) f n ∨ x = 0 ∧ ¬ rdR f n = -1 ∧ σ2.1 14044 = rdR f n))) 12 [(some (.ref 140)), (some (.int 1))] [] (WW σd) 0 0 := by
    intro q
    induction q with
    | zero =>
      intro m σd r p hm hQ hp hpn hst hL hC hA hId hCd
      refine R_iload_n (pc := 12) dX9_isRead_12 rfl rfl ?_
      refine R_ifeq (pc := 13) 75 dX9_isRead_13 (by decide) (fun h => absurd h (by decide)) (fun _ => ?_)
      refine R_aload_n (pc := 16) dX9_isRead_16 rfl rfl ?_
      refine R_bipush (pc := 17) (v := 6) dX9_isRead_17 (by decide) ?_
      refine R_aload_n (pc := 19) dX9_isRead_19 rfl rfl ?_
      refine g_X9_309 (pc := 20) (v := .int (nI m)) rfl dX9_isRead_20 (c_140 _) (by show some (Value.int (σd.1 14045)) = _; rw [hQ.2.2.2.1]) ?_
      refine R_imul (pc := 23) dX9_isRead_23 ?_
      refine R_cv (nI (6 * m)) (show (6 : Int32) * nI m = nI (6 * m) from (Int32.ofNat_mul 6 m).symm) ?_
      refine k_X9_312 (pc := 24) (ge_X9_isLine _ f r n (nI m) p m hId hQ hp hpn (by omega)) rfl (c_140 _) (by decide) (Nat.le_refl _) (Nat.le_refl _) (Nat.le_of_ble_eq_true rfl) dX9_isRead_24 (fun x w2 h => ?_)
      obtain ⟨σx5, rfl, hV4, hW6, r2, hQ2, ho, hb⟩ := h
      have hW7 := Cor.trans hCd hW6
      rcases hb with ⟨rfl, p2, hpn2, hp2, hS, hLC⟩ | ⟨rfl, hne, hff⟩
      · skip
        have hA2 : ∀ i : Nat, i < m + 1 → LnC r2 i f n (stI f n i) := by
          intro i hi
          by_cases e : i = m
          · rw [e, hst]; exact hLC
          · exact lc_keep (hA i (by omega)) ho (by omega)
        refine R_ifne (pc := 27) 32 dX9_isRead_27 (by decide) (fun _ => ?_) (fun h => absurd h (by decide))
        refine R_aload_n (pc := 32) dX9_isRead_32 rfl rfl ?_
        refine R_dup (pc := 33) dX9_isRead_33 rfl ?_
        refine g_X9_309 (pc := 34) (v := .int (nI m)) rfl dX9_isRead_34 (c_140 _) (by show some (Value.int (σx5.1 14045)) = _; rw [hQ2.2.2.2.1]) ?_
        refine R_iconst (pc := 37) (v := 1) dX9_isRead_37 (by decide) ?_
        refine R_iadd (pc := 38) dX9_isRead_38 ?_
        have r9 : inR ((nI m) + 1) 8 8 := inR_add (show inR (nI m) 7 7 from (show inR (nI m) 7 7 from by rw [show m = 7 by omega]; exact inR_self _)) (show inR 1 1 1 from (inR_self _)) (by decide) (by decide)
        have e10 := ti_add (l := 8) (h := 8) (show inR (nI m) 7 7 from (show inR (nI m) 7 7 from by rw [show m = 7 by omega]; exact inR_self _)) (show inR 1 1 1 from (inR_self _)) (by decide) (by decide)
        refine p_X9_309 (pc := 39) rfl dX9_isRead_39 (c_140 _) (Nat.le_of_ble_eq_true rfl) rfl rfl (s_140_45 _ _) ?_
        have hW11 := cor_si 14045 ((nI m) + 1) hW7 rfl
        have hQ3 : mQs f r2 n (nI (m + 1)) (uI σx5 14045 ((nI m) + 1)) := mq_c (nI_1 m) hQ2
        refine R_aload_n (pc := 42) dX9_isRead_42 rfl rfl ?_
        refine k_X9_285 (pc := 43) (ge_X9_nextToken _ f r2 n (nI (m + 1)) p2 hV4 hQ3 (show (uI σx5 14045 ((nI m) + 1)).1 14039 = nI p2 from hp2) hpn2) rfl (c_140 _) (by decide) (Nat.le_refl _) (Nat.le_refl _) (Nat.le_of_ble_eq_true rfl) dX9_isRead_43 (fun w2 h => ?_)
        obtain ⟨σx13, rfl, hV12, hW14, hQ15, hM16⟩ := h
        have hW17 := Cor.trans hW11 hW14
        refine R_aload_n (pc := 46) dX9_isRead_46 rfl rfl ?_
        refine g_X9_271 (pc := 47) (v := .long (σx13.2.1 14041)) rfl dX9_isRead_47 (c_140 _) rfl ?_
        refine R_ldc2 (pc := 50) w_1246c dX9_isRead_50 ?_
        refine R_lcmp (pc := 53) dX9_isRead_53 ?_
        refine R_ifne (pc := 54) 70 dX9_isRead_54 (by decide) (fun b54_18 => ?_) (fun b54_18 => ?_)
        · skip
          refine R_iconst (pc := 70) (v := 0) dX9_isRead_70 (by decide) ?_
          refine st_2_1_i_a (pc := 71) dX9_isRead_71 ?_
          refine R_goto (pc := 72) 12 dX9_isRead_72 (by decide) ?_
          refine R_iload_n (pc := 12) dX9_isRead_12 rfl rfl ?_
          refine R_ifeq (pc := 13) 75 dX9_isRead_13 (by decide) (fun _ => ?_) (fun h => absurd (by decide) h)
          refine R_aload_n (pc := 75) dX9_isRead_75 rfl rfl ?_
          refine g_X9_271 (pc := 76) (v := .long (σx13.2.1 14041)) rfl dX9_isRead_76 (c_140 _) rfl ?_
          refine R_ldc2 (pc := 79) w_1242c dX9_isRead_79 ?_
          refine R_lcmp (pc := 82) dX9_isRead_82 ?_
          refine R_ifeq (pc := 83) 93 dX9_isRead_83 (by decide) (fun b83_20 => ?_) (fun b83_20 => ?_)
          · skip
            refine R_iconst (pc := 93) (v := 1) dX9_isRead_93 (by decide) ?_
            refine R_goto (pc := 94) 98 dX9_isRead_94 (by decide) ?_
            exact R_iret (pc := 98) dX9_isRead_98 rfl rfl (Nat.zero_le _) (Nat.zero_le _) ⟨_, rfl, _, rfl, hV12, hW17, Or.inl ⟨rfl, (rdR_f (rdL_e (show rdL f n (7 - m) ((sk f n p2), -1) = rdE f n ∧ rdC f n (7 - m) ((sk f n p2), -1) (nI (m + 1)) = rdZ f n from ⟨by rw [← hS]; exact hL, by rw [hS, szs_1 (by omega)] at hC; exact hC⟩) (Or.inl (by omega))).1 (by have e := hM16.2.2.2.2.2.1.mp (lcz.mp b83_20); show ¬ (sk f n p2) < n; omega)), hQ15.2.2.2.1.trans (rdL_e (show rdL f n (7 - m) ((sk f n p2), -1) = rdE f n ∧ rdC f n (7 - m) ((sk f n p2), -1) (nI (m + 1)) = rdZ f n from ⟨by rw [← hS]; exact hL, by rw [hS, szs_1 (by omega)] at hC; exact hC⟩) (Or.inl (by omega))).2, (by rw [hQ15.2.2.2.1]; exact inR_nI (M := 8) (by omega) (by decide)), (by rw [hQ15.2.2.1]; intro i hi; rw [← (rdL_e (show rdL f n (7 - m) ((sk f n p2), -1) = rdE f n ∧ rdC f n (7 - m) ((sk f n p2), -1) (nI (m + 1)) = rdZ f n from ⟨by rw [← hS]; exact hL, by rw [hS, szs_1 (by omega)] at hC; exact hC⟩) (Or.inl (by omega))).2, nI_clamp (by omega)] at hi; exact hA2 i hi)⟩⟩
          · skip
            refine R_aload_n (pc := 86) dX9_isRead_86 rfl rfl ?_
            refine k_X9_288 (pc := 87) (ge_X9_fails _ hV12) rfl (c_140 _) (by decide) (Nat.le_refl _) (Nat.le_refl _) (Nat.le_of_ble_eq_true rfl) dX9_isRead_87 (fun x w2 h => ?_)
            obtain ⟨rfl, _, rfl, hV21, hW22, rfl⟩ := h
            have hW23 := Cor.trans hW17 hW22
            refine R_ifeq (pc := 90) 97 dX9_isRead_90 (by decide) (fun _ => ?_) (fun h => absurd (by decide) h)
            refine R_iconst (pc := 97) (v := 0) dX9_isRead_97 (by decide) ?_
            exact R_iret (pc := 98) dX9_isRead_98 rfl rfl (Nat.zero_le _) (Nat.zero_le _) ⟨_, rfl, _, rfl, hV21, hW23, Or.inr ⟨rfl, (by rw [((rdR_t (rdL_e (show rdL f n (7 - m) ((sk f n p2), -1) = rdE f n ∧ rdC f n (7 - m) ((sk f n p2), -1) (nI (m + 1)) = rdZ f n from ⟨by rw [← hS]; exact hL, by rw [hS, szs_1 (by omega)] at hC; exact hC⟩) (Or.inl (by omega))).1 (by have e : ¬ (sk f n p2) = n := fun e => b83_20 (lcz.mpr (hM16.2.2.2.2.2.1.mpr e)); have e2 := hM16.2.2.1; show (sk f n p2) < n; omega)).trans (show (fwS ((sk f n p2), -1)).2 = nI (sk f n p2) from rfl))]; exact nI_ne1 (Nat.le_trans hM16.2.2.1 hn)), (by rw [((rdR_t (rdL_e (show rdL f n (7 - m) ((sk f n p2), -1) = rdE f n ∧ rdC f n (7 - m) ((sk f n p2), -1) (nI (m + 1)) = rdZ f n from ⟨by rw [← hS]; exact hL, by rw [hS, szs_1 (by omega)] at hC; exact hC⟩) (Or.inl (by omega))).1 (by have e : ¬ (sk f n p2) = n := fun e => b83_20 (lcz.mpr (hM16.2.2.2.2.2.1.mpr e)); have e2 := hM16.2.2.1; show (sk f n p2) < n; omega)).trans (show (fwS ((sk f n p2), -1)).2 = nI (sk f n p2) from rfl))]; exact hM16.2.1)⟩⟩
        · skip
          refine R_aload_n (pc := 57) dX9_isRead_57 rfl rfl ?_
          refine g_X9_309 (pc := 58) (v := .int (nI (m + 1))) rfl dX9_isRead_58 (c_140 _) (by show some (Value.int (σx13.1 14045)) = _; rw [hQ15.2.2.2.1]) ?_
          refine R_bipush (pc := 61) (v := 8) dX9_isRead_61 (by decide) ?_
          refine R_icge (pc := 63) 70 dX9_isRead_63 (by decide) (fun _ => ?_) (fun h => False.elim (by have q1 := ti_nle h; have q2 := ti_in (show inR (nI (m + 1)) 8 8 from (show inR (nI (m + 1)) 8 8 from by rw [show m + 1 = 8 by omega]; exact inR_self _)); have q3 := ti_in (show inR 8 8 8 from (inR_self _)); have z0 : (1 : Int32).toInt = 1 := (by decide);  have z1 : (8 : Int32).toInt = 8 := (by decide); omega))
          refine R_iconst (pc := 70) (v := 0) dX9_isRead_70 (by decide) ?_
          refine st_2_1_i_a (pc := 71) dX9_isRead_71 ?_
          refine R_goto (pc := 72) 12 dX9_isRead_72 (by decide) ?_
          refine R_iload_n (pc := 12) dX9_isRead_12 rfl rfl ?_
          refine R_ifeq (pc := 13) 75 dX9_isRead_13 (by decide) (fun _ => ?_) (fun h => absurd (by decide) h)
          refine R_aload_n (pc := 75) dX9_isRead_75 rfl rfl ?_
          refine g_X9_271 (pc := 76) (v := .long (σx13.2.1 14041)) rfl dX9_isRead_76 (c_140 _) rfl ?_
          refine R_ldc2 (pc := 79) w_1242c dX9_isRead_79 ?_
          refine R_lcmp (pc := 82) dX9_isRead_82 ?_
          refine R_ifeq (pc := 83) 93 dX9_isRead_83 (by decide) (fun b83_27 => ?_) (fun b83_27 => ?_)
          · skip
            refine R_iconst (pc := 93) (v := 1) dX9_isRead_93 (by decide) ?_
            refine R_goto (pc := 94) 98 dX9_isRead_94 (by decide) ?_
            exact R_iret (pc := 98) dX9_isRead_98 rfl rfl (Nat.zero_le _) (Nat.zero_le _) ⟨_, rfl, _, rfl, hV12, hW17, Or.inl ⟨rfl, (rdR_f (rdL_e (show rdL f n (7 - m) ((sk f n p2), -1) = rdE f n ∧ rdC f n (7 - m) ((sk f n p2), -1) (nI (m + 1)) = rdZ f n from ⟨by rw [← hS]; exact hL, by rw [hS, szs_1 (by omega)] at hC; exact hC⟩) (Or.inl (by omega))).1 (by have e := hM16.2.2.2.2.2.1.mp (lcz.mp b83_27); show ¬ (sk f n p2) < n; omega)), hQ15.2.2.2.1.trans (rdL_e (show rdL f n (7 - m) ((sk f n p2), -1) = rdE f n ∧ rdC f n (7 - m) ((sk f n p2), -1) (nI (m + 1)) = rdZ f n from ⟨by rw [← hS]; exact hL, by rw [hS, szs_1 (by omega)] at hC; exact hC⟩) (Or.inl (by omega))).2, (by rw [hQ15.2.2.2.1]; exact inR_nI (M := 8) (by omega) (by decide)), (by rw [hQ15.2.2.1]; intro i hi; rw [← (rdL_e (show rdL f n (7 - m) ((sk f n p2), -1) = rdE f n ∧ rdC f n (7 - m) ((sk f n p2), -1) (nI (m + 1)) = rdZ f n from ⟨by rw [← hS]; exact hL, by rw [hS, szs_1 (by omega)] at hC; exact hC⟩) (Or.inl (by omega))).2, nI_clamp (by omega)] at hi; exact hA2 i hi)⟩⟩
          · skip
            refine R_aload_n (pc := 86) dX9_isRead_86 rfl rfl ?_
            refine k_X9_288 (pc := 87) (ge_X9_fails _ hV12) rfl (c_140 _) (by decide) (Nat.le_refl _) (Nat.le_refl _) (Nat.le_of_ble_eq_true rfl) dX9_isRead_87 (fun x w2 h => ?_)
            obtain ⟨rfl, _, rfl, hV28, hW29, rfl⟩ := h
            have hW30 := Cor.trans hW17 hW29
            refine R_ifeq (pc := 90) 97 dX9_isRead_90 (by decide) (fun _ => ?_) (fun h => absurd (by decide) h)
            refine R_iconst (pc := 97) (v := 0) dX9_isRead_97 (by decide) ?_
            exact R_iret (pc := 98) dX9_isRead_98 rfl rfl (Nat.zero_le _) (Nat.zero_le _) ⟨_, rfl, _, rfl, hV28, hW30, Or.inr ⟨rfl, (by rw [((rdR_t (rdL_e (show rdL f n (7 - m) ((sk f n p2), -1) = rdE f n ∧ rdC f n (7 - m) ((sk f n p2), -1) (nI (m + 1)) = rdZ f n from ⟨by rw [← hS]; exact hL, by rw [hS, szs_1 (by omega)] at hC; exact hC⟩) (Or.inl (by omega))).1 (by have e : ¬ (sk f n p2) = n := fun e => b83_27 (lcz.mpr (hM16.2.2.2.2.2.1.mpr e)); have e2 := hM16.2.2.1; show (sk f n p2) < n; omega)).trans (show (fwS ((sk f n p2), -1)).2 = nI (sk f n p2) from rfl))]; exact nI_ne1 (Nat.le_trans hM16.2.2.1 hn)), (by rw [((rdR_t (rdL_e (show rdL f n (7 - m) ((sk f n p2), -1) = rdE f n ∧ rdC f n (7 - m) ((sk f n p2), -1) (nI (m + 1)) = rdZ f n from ⟨by rw [← hS]; exact hL, by rw [hS, szs_1 (by omega)] at hC; exact hC⟩) (Or.inl (by omega))).1 (by have e : ¬ (sk f n p2) = n := fun e => b83_27 (lcz.mpr (hM16.2.2.2.2.2.1.mpr e)); have e2 := hM16.2.2.1; show (sk f n p2) < n; omega)).trans (show (fwS ((sk f n p2), -1)).2 = nI (sk f n p2) from rfl))]; exact hM16.2.1)⟩⟩
      · skip
        refine R_ifne (pc := 27) 32 dX9_isRead_27 (by decide) (fun h => absurd (by decide) h) (fun _ => ?_)
        refine R_iconst (pc := 30) (v := 0) dX9_isRead_30 (by decide) ?_
        exact R_iret (pc := 31) dX9_isRead_31 rfl rfl (Nat.zero_le _) (Nat.zero_le _) ⟨_, rfl, _, rfl, hV4, hW7, Or.inr ⟨rfl, (by rw [rdR_x ⟨hL, hC⟩ hne]; exact hne), (by rw [rdR_x ⟨hL, hC⟩ hne]; exact hff)⟩⟩
    | succ q ih =>
      intro m σd r p hm hQ hp hpn hst hL hC hA hId hCd
      refine R_iload_n (pc := 12) dX9_isRead_12 rfl rfl ?_
      refine R_ifeq (pc := 13) 75 dX9_isRead_13 (by decide) (fun h => absurd h (by decide)) (fun _ => ?_)
      refine R_aload_n (pc := 16) dX9_isRead_16 rfl rfl ?_
      refine R_bipush (pc := 17) (v := 6) dX9_isRead_17 (by decide) ?_
      refine R_aload_n (pc := 19) dX9_isRead_19 rfl rfl ?_
      refine g_X9_309 (pc := 20) (v := .int (nI m)) rfl dX9_isRead_20 (c_140 _) (by show some (Value.int (σd.1 14045)) = _; rw [hQ.2.2.2.1]) ?_
      refine R_imul (pc := 23) dX9_isRead_23 ?_
      refine R_cv (nI (6 * m)) (show (6 : Int32) * nI m = nI (6 * m) from (Int32.ofNat_mul 6 m).symm) ?_
      refine k_X9_312 (pc := 24) (ge_X9_isLine _ f r n (nI m) p m hId hQ hp hpn (by omega)) rfl (c_140 _) (by decide) (Nat.le_refl _) (Nat.le_refl _) (Nat.le_of_ble_eq_true rfl) dX9_isRead_24 (fun x w2 h => ?_)
      obtain ⟨σx35, rfl, hV34, hW36, r2, hQ2, ho, hb⟩ := h
      have hW37 := Cor.trans hCd hW36
      rcases hb with ⟨rfl, p2, hpn2, hp2, hS, hLC⟩ | ⟨rfl, hne, hff⟩
      · skip
        have hA2 : ∀ i : Nat, i < m + 1 → LnC r2 i f n (stI f n i) := by
          intro i hi
          by_cases e : i = m
          · rw [e, hst]; exact hLC
          · exact lc_keep (hA i (by omega)) ho (by omega)
        refine R_ifne (pc := 27) 32 dX9_isRead_27 (by decide) (fun _ => ?_) (fun h => absurd h (by decide))
        refine R_aload_n (pc := 32) dX9_isRead_32 rfl rfl ?_
        refine R_dup (pc := 33) dX9_isRead_33 rfl ?_
        refine g_X9_309 (pc := 34) (v := .int (nI m)) rfl dX9_isRead_34 (c_140 _) (by show some (Value.int (σx35.1 14045)) = _; rw [hQ2.2.2.2.1]) ?_
        refine R_iconst (pc := 37) (v := 1) dX9_isRead_37 (by decide) ?_
        refine R_iadd (pc := 38) dX9_isRead_38 ?_
        have r39 : inR ((nI m) + 1) 1 7 := inR_add (show inR (nI m) 0 6 from (show inR (nI m) 0 6 from inR_nI (M := 6) (by omega) (by decide))) (show inR 1 1 1 from (inR_self _)) (by decide) (by decide)
        have e40 := ti_add (l := 1) (h := 7) (show inR (nI m) 0 6 from (show inR (nI m) 0 6 from inR_nI (M := 6) (by omega) (by decide))) (show inR 1 1 1 from (inR_self _)) (by decide) (by decide)
        refine p_X9_309 (pc := 39) rfl dX9_isRead_39 (c_140 _) (Nat.le_of_ble_eq_true rfl) rfl rfl (s_140_45 _ _) ?_
        have hW41 := cor_si 14045 ((nI m) + 1) hW37 rfl
        have hQ3 : mQs f r2 n (nI (m + 1)) (uI σx35 14045 ((nI m) + 1)) := mq_c (nI_1 m) hQ2
        refine R_aload_n (pc := 42) dX9_isRead_42 rfl rfl ?_
        refine k_X9_285 (pc := 43) (ge_X9_nextToken _ f r2 n (nI (m + 1)) p2 hV34 hQ3 (show (uI σx35 14045 ((nI m) + 1)).1 14039 = nI p2 from hp2) hpn2) rfl (c_140 _) (by decide) (Nat.le_refl _) (Nat.le_refl _) (Nat.le_of_ble_eq_true rfl) dX9_isRead_43 (fun w2 h => ?_)
        obtain ⟨σx43, rfl, hV42, hW44, hQ45, hM46⟩ := h
        have hW47 := Cor.trans hW41 hW44
        refine R_aload_n (pc := 46) dX9_isRead_46 rfl rfl ?_
        refine g_X9_271 (pc := 47) (v := .long (σx43.2.1 14041)) rfl dX9_isRead_47 (c_140 _) rfl ?_
        refine R_ldc2 (pc := 50) w_1246c dX9_isRead_50 ?_
        refine R_lcmp (pc := 53) dX9_isRead_53 ?_
        refine R_ifne (pc := 54) 70 dX9_isRead_54 (by decide) (fun b54_48 => ?_) (fun b54_48 => ?_)
        · skip
          refine R_iconst (pc := 70) (v := 0) dX9_isRead_70 (by decide) ?_
          refine st_2_1_i_a (pc := 71) dX9_isRead_71 ?_
          refine R_goto (pc := 72) 12 dX9_isRead_72 (by decide) ?_
          refine R_iload_n (pc := 12) dX9_isRead_12 rfl rfl ?_
          refine R_ifeq (pc := 13) 75 dX9_isRead_13 (by decide) (fun _ => ?_) (fun h => absurd (by decide) h)
          refine R_aload_n (pc := 75) dX9_isRead_75 rfl rfl ?_
          refine g_X9_271 (pc := 76) (v := .long (σx43.2.1 14041)) rfl dX9_isRead_76 (c_140 _) rfl ?_
          refine R_ldc2 (pc := 79) w_1242c dX9_isRead_79 ?_
          refine R_lcmp (pc := 82) dX9_isRead_82 ?_
          refine R_ifeq (pc := 83) 93 dX9_isRead_83 (by decide) (fun b83_50 => ?_) (fun b83_50 => ?_)
          · skip
            refine R_iconst (pc := 93) (v := 1) dX9_isRead_93 (by decide) ?_
            refine R_goto (pc := 94) 98 dX9_isRead_94 (by decide) ?_
            exact R_iret (pc := 98) dX9_isRead_98 rfl rfl (Nat.zero_le _) (Nat.zero_le _) ⟨_, rfl, _, rfl, hV42, hW47, Or.inl ⟨rfl, (rdR_f (rdL_e (show rdL f n (7 - m) ((sk f n p2), -1) = rdE f n ∧ rdC f n (7 - m) ((sk f n p2), -1) (nI (m + 1)) = rdZ f n from ⟨by rw [← hS]; exact hL, by rw [hS, szs_1 (by omega)] at hC; exact hC⟩) (Or.inr (Or.inr (show rdB f n (sk f n p2) 5 = false from rdB_of hM46.2.2.2.2.1 (fun e => b54_48 (lcz.mpr e)))))).1 (by have e := hM46.2.2.2.2.2.1.mp (lcz.mp b83_50); show ¬ (sk f n p2) < n; omega)), hQ45.2.2.2.1.trans (rdL_e (show rdL f n (7 - m) ((sk f n p2), -1) = rdE f n ∧ rdC f n (7 - m) ((sk f n p2), -1) (nI (m + 1)) = rdZ f n from ⟨by rw [← hS]; exact hL, by rw [hS, szs_1 (by omega)] at hC; exact hC⟩) (Or.inr (Or.inr (show rdB f n (sk f n p2) 5 = false from rdB_of hM46.2.2.2.2.1 (fun e => b54_48 (lcz.mpr e)))))).2, (by rw [hQ45.2.2.2.1]; exact inR_nI (M := 8) (by omega) (by decide)), (by rw [hQ45.2.2.1]; intro i hi; rw [← (rdL_e (show rdL f n (7 - m) ((sk f n p2), -1) = rdE f n ∧ rdC f n (7 - m) ((sk f n p2), -1) (nI (m + 1)) = rdZ f n from ⟨by rw [← hS]; exact hL, by rw [hS, szs_1 (by omega)] at hC; exact hC⟩) (Or.inr (Or.inr (show rdB f n (sk f n p2) 5 = false from rdB_of hM46.2.2.2.2.1 (fun e => b54_48 (lcz.mpr e)))))).2, nI_clamp (by omega)] at hi; exact hA2 i hi)⟩⟩
          · skip
            refine R_aload_n (pc := 86) dX9_isRead_86 rfl rfl ?_
            refine k_X9_288 (pc := 87) (ge_X9_fails _ hV42) rfl (c_140 _) (by decide) (Nat.le_refl _) (Nat.le_refl _) (Nat.le_of_ble_eq_true rfl) dX9_isRead_87 (fun x w2 h => ?_)
            obtain ⟨rfl, _, rfl, hV51, hW52, rfl⟩ := h
            have hW53 := Cor.trans hW47 hW52
            refine R_ifeq (pc := 90) 97 dX9_isRead_90 (by decide) (fun _ => ?_) (fun h => absurd (by decide) h)
            refine R_iconst (pc := 97) (v := 0) dX9_isRead_97 (by decide) ?_
            exact R_iret (pc := 98) dX9_isRead_98 rfl rfl (Nat.zero_le _) (Nat.zero_le _) ⟨_, rfl, _, rfl, hV51, hW53, Or.inr ⟨rfl, (by rw [((rdR_t (rdL_e (show rdL f n (7 - m) ((sk f n p2), -1) = rdE f n ∧ rdC f n (7 - m) ((sk f n p2), -1) (nI (m + 1)) = rdZ f n from ⟨by rw [← hS]; exact hL, by rw [hS, szs_1 (by omega)] at hC; exact hC⟩) (Or.inr (Or.inr (show rdB f n (sk f n p2) 5 = false from rdB_of hM46.2.2.2.2.1 (fun e => b54_48 (lcz.mpr e)))))).1 (by have e : ¬ (sk f n p2) = n := fun e => b83_50 (lcz.mpr (hM46.2.2.2.2.2.1.mpr e)); have e2 := hM46.2.2.1; show (sk f n p2) < n; omega)).trans (show (fwS ((sk f n p2), -1)).2 = nI (sk f n p2) from rfl))]; exact nI_ne1 (Nat.le_trans hM46.2.2.1 hn)), (by rw [((rdR_t (rdL_e (show rdL f n (7 - m) ((sk f n p2), -1) = rdE f n ∧ rdC f n (7 - m) ((sk f n p2), -1) (nI (m + 1)) = rdZ f n from ⟨by rw [← hS]; exact hL, by rw [hS, szs_1 (by omega)] at hC; exact hC⟩) (Or.inr (Or.inr (show rdB f n (sk f n p2) 5 = false from rdB_of hM46.2.2.2.2.1 (fun e => b54_48 (lcz.mpr e)))))).1 (by have e : ¬ (sk f n p2) = n := fun e => b83_50 (lcz.mpr (hM46.2.2.2.2.2.1.mpr e)); have e2 := hM46.2.2.1; show (sk f n p2) < n; omega)).trans (show (fwS ((sk f n p2), -1)).2 = nI (sk f n p2) from rfl))]; exact hM46.2.1)⟩⟩
        · skip
          refine R_aload_n (pc := 57) dX9_isRead_57 rfl rfl ?_
          refine g_X9_309 (pc := 58) (v := .int (nI (m + 1))) rfl dX9_isRead_58 (c_140 _) (by show some (Value.int (σx43.1 14045)) = _; rw [hQ45.2.2.2.1]) ?_
          refine R_bipush (pc := 61) (v := 8) dX9_isRead_61 (by decide) ?_
          refine R_icge (pc := 63) 70 dX9_isRead_63 (by decide) (fun h => False.elim (by have q1 := ti_le h; have q2 := ti_in (show inR (nI (m + 1)) 1 7 from (show inR (nI (m + 1)) 1 7 from inR_ix (show 1 ≤ m + 1 by omega) (show m + 1 < 8 by omega) (by decide) (by decide) (by decide))); have q3 := ti_in (show inR 8 8 8 from (inR_self _)); have z0 : (1 : Int32).toInt = 1 := (by decide);  have z1 : (7 : Int32).toInt = 7 := (by decide);  have z2 : (8 : Int32).toInt = 8 := (by decide); omega)) (fun _ => ?_)
          refine R_iconst (pc := 66) (v := 1) dX9_isRead_66 (by decide) ?_
          refine R_goto (pc := 67) 71 dX9_isRead_67 (by decide) ?_
          refine st_2_1_i_a (pc := 71) dX9_isRead_71 ?_
          refine R_goto (pc := 72) 12 dX9_isRead_72 (by decide) ?_
          have hB56 : rdB f n (sk f n p2) 5 = true := hM46.2.2.2.2.1.mp (lcz.mp b54_48)
          have hn7 : 7 - m = (7 - (m + 1)) + 1 := by omega
          rw [hn7, hS] at hL
          rw [hn7, hS, szs_1 (by omega)] at hC
          obtain ⟨hL2, hC2⟩ := rdL_s ⟨hL, hC⟩ rfl hB56
          exact ih (m + 1) _ _ (tkE f n (sk f n p2)) (by omega) hQ45 hM46.1 (te_p hM46.2.2.1).2.1 (by show (sk f n (tkE f n (lnS f n (stI f n m)).1), (lnS f n (stI f n m)).2) = _; rw [hst, hS]) hL2 hC2 hA2 hV42 hW47
      · skip
        refine R_ifne (pc := 27) 32 dX9_isRead_27 (by decide) (fun h => absurd (by decide) h) (fun _ => ?_)
        refine R_iconst (pc := 30) (v := 0) dX9_isRead_30 (by decide) ?_
        exact R_iret (pc := 31) dX9_isRead_31 rfl rfl (Nat.zero_le _) (Nat.zero_le _) ⟨_, rfl, _, rfl, hV34, hW37, Or.inr ⟨rfl, (by rw [rdR_x ⟨hL, hC⟩ hne]; exact hne), (by rw [rdR_x ⟨hL, hC⟩ hne]; exact hff)⟩⟩
  exact HL 7 0 _ _ 0 rfl (show mQs f (σ.2.2.1 171) n (nI 0) (uI (uI σ 14039 0) 14045 0) from ⟨hz, hf, rfl, rfl, hn⟩) rfl (Nat.zero_le _) rfl rfl rfl (fun i hi => absurd hi (by omega)) hI hW2
