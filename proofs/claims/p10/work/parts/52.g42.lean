/-! methods on any state that keeps the invariant -/
def E_X8_write (σ : Sg) (p : Int64) (n : Int32) : Sg := (uI (uA σ 118 (wrT (σ.2.2.1 118) (σ.1 11701) p n.toNatClampNeg)) 11701 ((σ.1 11701) + n))
set_option maxRecDepth 100000 in
set_option maxHeartbeats 40000000 in
theorem ge_X8_write {G : vG} {l : Launch} (σ : Sg) (p : Int64) (n : Int32) (hI : Inv σ) : Sp G l yX8_write cX8_write 5 (some .int) 1 0 0 [.ref 0, .long p, .int n] (WW σ) (QI (fun x w2 => x = A_write n (σ.1 11701) ∧ ∃ σ2, w2 = WW σ2 ∧ Inv σ2 ∧ Cor (bif K_write n (σ.1 11701) then (E_X8_write σ p n) else σ) σ2)) := by
  refine Sp_of_R [(some (.ref 0)), (some (.long p)), none, (some (.int n)), none] [none] rfl (by simp) rfl (Nat.le_of_ble_eq_true rfl) ?_
  refine R_iload_n (pc := 0) dX8_write_0 rfl rfl ?_
  refine R_iconst (pc := 1) (v := 1) dX8_write_1 (by decide) ?_
  refine R_bipush (pc := 2) (v := 8) dX8_write_2 (by decide) ?_
  refine k_X8_72 (pc := 4) (sp_X8_isWithin _ _ _ _) rfl (by decide) (Nat.le_refl _) (Nat.le_refl _) (Nat.le_of_ble_eq_true rfl) dX8_write_4 (fun x w2 h => ?_)
  rcases h with ⟨rfl, ⟨h1, rfl⟩ | ⟨h1, rfl⟩⟩
  · skip
    refine R_ifne (pc := 7) 13 dX8_write_7 (by decide) (fun _ => ?_) (fun h => absurd h (by decide))
    refine R_aload_n (pc := 13) dX8_write_13 rfl rfl ?_
    refine g_X8_51 (pc := 14) (v := .ref 117) rfl dX8_write_14 (c_0 _) rfl ?_
    refine g_X8_291 (pc := 17) (v := .int (σ.1 11701)) rfl dX8_write_17 (c_117 _) rfl ?_
    refine R_iload_n (pc := 20) dX8_write_20 rfl rfl ?_
    refine R_iadd (pc := 21) dX8_write_21 ?_
    have r3 : inR ((σ.1 11701) + n) 1 168 := inR_add (show inR (σ.1 11701) 0 160 from (iv_11701 hI)) (show inR n 1 8 from h1) (by decide) (by decide)
    have e4 := ti_add (l := 1) (h := 168) (show inR (σ.1 11701) 0 160 from (iv_11701 hI)) (show inR n 1 8 from h1) (by decide) (by decide)
    refine R_sipush (pc := 22) (v := 160) dX8_write_22 (by decide) ?_
    refine R_icle (pc := 25) 31 dX8_write_25 (by decide) (fun b25_5 => ?_) (fun b25_5 => ?_)
    · skip
      refine R_iconst (pc := 31) (v := 0) dX8_write_31 (by decide) ?_
      refine st_5_4_i_i (pc := 32) dX8_write_32 ?_
      have HL34 : ∀ (q j34 : Nat) (σ34 : Sg), j34 + q = 8 → 0 ≤ j34 → Inv σ34 → σ34.1 11701 = σ.1 11701 → Cor (uA σ 118 (wrT (σ.2.2.1 118) (σ.1 11701) p j34)) σ34 → nI j34 ≤ n → R G l yX8_write cX8_write 5 (some .int) 1 0 0 (QI (fun x w2 => x = A_write n (σ.1 11701) ∧ ∃ σ2, w2 = WW σ2 ∧ Inv σ2 ∧ Cor (bif K_write n (σ.1 11701) then (E_X8_write σ p n) else σ) σ2)) 34 [(some (.ref 0)), (some (.long p)), none, (some (.int n)), (some (.int (nI j34)))] [] (WW σ34) 0 0 := by
        intro q
        induction q with
        | zero =>
          intro j34 σ34 hj hs34 hI34 hk34_11701 hX34_0 hX34_1
          obtain rfl : j34 = 8 := by omega
          refine R_iload (pc := 34) dX8_write_34 rfl ?_
          refine R_iload_n (pc := 36) dX8_write_36 rfl rfl ?_
          refine R_icge (pc := 37) 70 dX8_write_37 (by decide) (fun _ => ?_) (fun h => absurd (Int32.not_lt.mp (inR_up h1 (Int32.le_refl _) (by decide)).2) h)
          refine R_aload_n (pc := 70) dX8_write_70 rfl rfl ?_
          refine g_X8_51 (pc := 71) (v := .ref 117) rfl dX8_write_71 (c_0 _) rfl ?_
          refine R_dup (pc := 74) dX8_write_74 rfl ?_
          refine g_X8_291 (pc := 75) (v := .int (σ.1 11701)) rfl dX8_write_75 (c_117 _) (by show some (Value.int (σ34.1 11701)) = _; rw [hX34_0.1 11701 rfl]) ?_
          refine R_iload_n (pc := 78) dX8_write_78 rfl rfl ?_
          refine R_iadd (pc := 79) dX8_write_79 ?_
          have r7 : inR ((σ.1 11701) + n) 1 168 := inR_add (show inR (σ.1 11701) 0 160 from (iv_11701 hI)) (show inR n 1 8 from h1) (by decide) (by decide)
          have e8 := ti_add (l := 1) (h := 168) (show inR (σ.1 11701) 0 160 from (iv_11701 hI)) (show inR n 1 8 from h1) (by decide) (by decide)
          refine p_X8_291 (pc := 80) rfl dX8_write_80 (c_117 _) (Nat.le_of_ble_eq_true rfl) rfl rfl (s_117_1 _ _) ?_
          have hV9 := su_11701 hI34 (show inR ((σ.1 11701) + n) 0 160 from of_ti (by have q0 := e4; have q1 := ti_eq hk34_11701; have q2 := e8; have q3 := ti_le b25_5; have q4 := ti_in h1; have q5 := ti_in (iv_11701 hI); have q6 := ti_in r7; have z0 : (0 : Int32).toInt = 0 := (by decide); have z1 : (1 : Int32).toInt = 1 := (by decide); have z2 : (11701 : Int32).toInt = 11701 := (by decide); have z3 : (160 : Int32).toInt = 160 := (by decide); have z4 : (168 : Int32).toInt = 168 := (by decide); have z5 : (8 : Int32).toInt = 8 := (by decide); omega) (by have q0 := e4; have q1 := ti_eq hk34_11701; have q2 := e8; have q3 := ti_le b25_5; have q4 := ti_in h1; have q5 := ti_in (iv_11701 hI); have q6 := ti_in r7; have z0 : (0 : Int32).toInt = 0 := (by decide); have z1 : (1 : Int32).toInt = 1 := (by decide); have z2 : (11701 : Int32).toInt = 11701 := (by decide); have z3 : (160 : Int32).toInt = 160 := (by decide); have z4 : (168 : Int32).toInt = 168 := (by decide); have z5 : (8 : Int32).toInt = 8 := (by decide); omega))
          have hW10 := cor_ci 11701 ((σ.1 11701) + n) hX34_0
          refine R_aload_n (pc := 83) dX8_write_83 rfl rfl ?_
          refine g_X8_51 (pc := 84) (v := .ref 117) rfl dX8_write_84 (c_0 _) rfl ?_
          refine g_X8_291 (pc := 87) (v := .int ((σ.1 11701) + n)) rfl dX8_write_87 (c_117 _) rfl ?_
          exact R_iret (pc := 90) dX8_write_90 rfl rfl (Nat.zero_le _) (Nat.zero_le _) ⟨_, rfl, (by first | (simp only [A_write, inB_t h1, cond_true, cond_false, Bool.and_true, Bool.true_and, Bool.and_false, Bool.false_and, Bool.or_true, Bool.true_or, Bool.or_false, Bool.false_or, Bool.not_true, Bool.not_false, decide_true, decide_false, if_true, if_false, Bool.true_eq_false, Bool.false_eq_true]; done) | (simp only [A_write, inB_t h1, b25_5, cond_true, cond_false, Bool.and_true, Bool.true_and, Bool.and_false, Bool.false_and, Bool.or_true, Bool.true_or, Bool.or_false, Bool.false_or, Bool.not_true, Bool.not_false, decide_true, decide_false, if_true, if_false, Bool.true_eq_false, Bool.false_eq_true]; done) | (simp [A_write, inB_t h1, b25_5]; done) | (simp only [A_write, inB_t h1, cond_true, cond_false, Bool.and_true, Bool.true_and, Bool.and_false, Bool.false_and, Bool.or_true, Bool.true_or, Bool.or_false, Bool.false_or, Bool.not_true, Bool.not_false, decide_true, decide_false, if_true, if_false, Bool.true_eq_false, Bool.false_eq_true] <;> decide)), _, rfl, hV9, (by have e : (K_write n (σ.1 11701)) = true := (by first | (simp only [K_write, inB_t h1, cond_true, cond_false, Bool.and_true, Bool.true_and, Bool.and_false, Bool.false_and, Bool.or_true, Bool.true_or, Bool.or_false, Bool.false_or, Bool.not_true, Bool.not_false, decide_true, decide_false, if_true, if_false, Bool.true_eq_false, Bool.false_eq_true]; done) | (simp only [K_write, inB_t h1, b25_5, cond_true, cond_false, Bool.and_true, Bool.true_and, Bool.and_false, Bool.false_and, Bool.or_true, Bool.true_or, Bool.or_false, Bool.false_or, Bool.not_true, Bool.not_false, decide_true, decide_false, if_true, if_false, Bool.true_eq_false, Bool.false_eq_true]; done) | (simp [K_write, inB_t h1, b25_5]; done) | (simp only [K_write, inB_t h1, cond_true, cond_false, Bool.and_true, Bool.true_and, Bool.and_false, Bool.false_and, Bool.or_true, Bool.true_or, Bool.or_false, Bool.false_or, Bool.not_true, Bool.not_false, decide_true, decide_false, if_true, if_false, Bool.true_eq_false, Bool.false_eq_true] <;> decide)); rw [e]; exact (cor_eq (show E_X8_write σ p n = (uI (uA σ 118 (wrT (σ.2.2.1 118) (σ.1 11701) p 8)) 11701 ((σ.1 11701) + n)) from by unfold E_X8_write; rw [(show n.toNatClampNeg = 8 from jn_of (by omega) (by first | exact nI_eqe hX34_1 (by assumption) | exact nI_eq8 hX34_1 (inR_up h1 (by decide) (by decide))))]) hW10))⟩
        | succ q ih34 =>
          intro j34 σ34 hj hs34 hI34 hk34_11701 hX34_0 hX34_1
          have hrg34 : inR (nI j34) 0 7 := inR_ix hs34 (show j34 < 8 by omega) (by decide) (by decide) (by decide)
          have hlt34 : j34 < 8 := by omega
          refine R_iload (pc := 34) dX8_write_34 rfl ?_
          refine R_iload_n (pc := 36) dX8_write_36 rfl rfl ?_
          refine R_icge (pc := 37) 70 dX8_write_37 (by decide) (fun b37_11 => ?_) (fun b37_11 => ?_)
          · skip
            refine R_aload_n (pc := 70) dX8_write_70 rfl rfl ?_
            refine g_X8_51 (pc := 71) (v := .ref 117) rfl dX8_write_71 (c_0 _) rfl ?_
            refine R_dup (pc := 74) dX8_write_74 rfl ?_
            refine g_X8_291 (pc := 75) (v := .int (σ.1 11701)) rfl dX8_write_75 (c_117 _) (by show some (Value.int (σ34.1 11701)) = _; rw [hX34_0.1 11701 rfl]) ?_
            refine R_iload_n (pc := 78) dX8_write_78 rfl rfl ?_
            refine R_iadd (pc := 79) dX8_write_79 ?_
            have r12 : inR ((σ.1 11701) + n) 1 168 := inR_add (show inR (σ.1 11701) 0 160 from (iv_11701 hI)) (show inR n 1 8 from h1) (by decide) (by decide)
            have e13 := ti_add (l := 1) (h := 168) (show inR (σ.1 11701) 0 160 from (iv_11701 hI)) (show inR n 1 8 from h1) (by decide) (by decide)
            refine p_X8_291 (pc := 80) rfl dX8_write_80 (c_117 _) (Nat.le_of_ble_eq_true rfl) rfl rfl (s_117_1 _ _) ?_
            have hV14 := su_11701 hI34 (show inR ((σ.1 11701) + n) 0 160 from of_ti (by have q0 := e4; have q1 := ti_eq hk34_11701; have q2 := e13; have q3 := ti_le b25_5; have q4 := ti_le b37_11; have q5 := ti_in h1; have q6 := ti_in (iv_11701 hI); have q7 := ti_in r12; have q8 := ti_in hrg34; have z0 : (0 : Int32).toInt = 0 := (by decide); have z1 : (1 : Int32).toInt = 1 := (by decide); have z2 : (11701 : Int32).toInt = 11701 := (by decide); have z3 : (160 : Int32).toInt = 160 := (by decide); have z4 : (168 : Int32).toInt = 168 := (by decide); have z5 : (7 : Int32).toInt = 7 := (by decide); have z6 : (8 : Int32).toInt = 8 := (by decide); omega) (by have q0 := e4; have q1 := ti_eq hk34_11701; have q2 := e13; have q3 := ti_le b25_5; have q4 := ti_le b37_11; have q5 := ti_in h1; have q6 := ti_in (iv_11701 hI); have q7 := ti_in r12; have q8 := ti_in hrg34; have z0 : (0 : Int32).toInt = 0 := (by decide); have z1 : (1 : Int32).toInt = 1 := (by decide); have z2 : (11701 : Int32).toInt = 11701 := (by decide); have z3 : (160 : Int32).toInt = 160 := (by decide); have z4 : (168 : Int32).toInt = 168 := (by decide); have z5 : (7 : Int32).toInt = 7 := (by decide); have z6 : (8 : Int32).toInt = 8 := (by decide); omega))
            have hW15 := cor_ci 11701 ((σ.1 11701) + n) hX34_0
            refine R_aload_n (pc := 83) dX8_write_83 rfl rfl ?_
            refine g_X8_51 (pc := 84) (v := .ref 117) rfl dX8_write_84 (c_0 _) rfl ?_
            refine g_X8_291 (pc := 87) (v := .int ((σ.1 11701) + n)) rfl dX8_write_87 (c_117 _) rfl ?_
            exact R_iret (pc := 90) dX8_write_90 rfl rfl (Nat.zero_le _) (Nat.zero_le _) ⟨_, rfl, (by first | (simp only [A_write, inB_t h1, cond_true, cond_false, Bool.and_true, Bool.true_and, Bool.and_false, Bool.false_and, Bool.or_true, Bool.true_or, Bool.or_false, Bool.false_or, Bool.not_true, Bool.not_false, decide_true, decide_false, if_true, if_false, Bool.true_eq_false, Bool.false_eq_true]; done) | (simp only [A_write, inB_t h1, b25_5, b37_11, cond_true, cond_false, Bool.and_true, Bool.true_and, Bool.and_false, Bool.false_and, Bool.or_true, Bool.true_or, Bool.or_false, Bool.false_or, Bool.not_true, Bool.not_false, decide_true, decide_false, if_true, if_false, Bool.true_eq_false, Bool.false_eq_true]; done) | (simp [A_write, inB_t h1, b25_5, b37_11]; done) | (simp only [A_write, inB_t h1, cond_true, cond_false, Bool.and_true, Bool.true_and, Bool.and_false, Bool.false_and, Bool.or_true, Bool.true_or, Bool.or_false, Bool.false_or, Bool.not_true, Bool.not_false, decide_true, decide_false, if_true, if_false, Bool.true_eq_false, Bool.false_eq_true] <;> decide)), _, rfl, hV14, (by have e : (K_write n (σ.1 11701)) = true := (by first | (simp only [K_write, inB_t h1, cond_true, cond_false, Bool.and_true, Bool.true_and, Bool.and_false, Bool.false_and, Bool.or_true, Bool.true_or, Bool.or_false, Bool.false_or, Bool.not_true, Bool.not_false, decide_true, decide_false, if_true, if_false, Bool.true_eq_false, Bool.false_eq_true]; done) | (simp only [K_write, inB_t h1, b25_5, b37_11, cond_true, cond_false, Bool.and_true, Bool.true_and, Bool.and_false, Bool.false_and, Bool.or_true, Bool.true_or, Bool.or_false, Bool.false_or, Bool.not_true, Bool.not_false, decide_true, decide_false, if_true, if_false, Bool.true_eq_false, Bool.false_eq_true]; done) | (simp [K_write, inB_t h1, b25_5, b37_11]; done) | (simp only [K_write, inB_t h1, cond_true, cond_false, Bool.and_true, Bool.true_and, Bool.and_false, Bool.false_and, Bool.or_true, Bool.true_or, Bool.or_false, Bool.false_or, Bool.not_true, Bool.not_false, decide_true, decide_false, if_true, if_false, Bool.true_eq_false, Bool.false_eq_true] <;> decide)); rw [e]; exact (cor_eq (show E_X8_write σ p n = (uI (uA σ 118 (wrT (σ.2.2.1 118) (σ.1 11701) p j34)) 11701 ((σ.1 11701) + n)) from by unfold E_X8_write; rw [(show n.toNatClampNeg = j34 from jn_of (by omega) (by first | exact nI_eqe hX34_1 (by assumption) | exact nI_eq8 hX34_1 (inR_up h1 (by decide) (by decide))))]) hW15))⟩
          · skip
            refine R_aload_n (pc := 40) dX8_write_40 rfl rfl ?_
            refine g_X8_51 (pc := 41) (v := .ref 117) rfl dX8_write_41 (c_0 _) rfl ?_
            refine g_X8_292 (pc := 44) (v := .ref 118) rfl dX8_write_44 (c_117 _) rfl ?_
            refine R_aload_n (pc := 47) dX8_write_47 rfl rfl ?_
            refine g_X8_51 (pc := 48) (v := .ref 117) rfl dX8_write_48 (c_0 _) rfl ?_
            refine g_X8_291 (pc := 51) (v := .int (σ.1 11701)) rfl dX8_write_51 (c_117 _) (by show some (Value.int (σ34.1 11701)) = _; rw [hX34_0.1 11701 rfl]) ?_
            refine R_iload (pc := 54) dX8_write_54 rfl ?_
            refine R_iadd (pc := 56) dX8_write_56 ?_
            have r16 : inR ((σ.1 11701) + (nI j34)) 0 167 := inR_add (show inR (σ.1 11701) 0 160 from (iv_11701 hI)) (show inR (nI j34) 0 7 from hrg34) (by decide) (by decide)
            have e17 := ti_add (l := 0) (h := 167) (show inR (σ.1 11701) 0 160 from (iv_11701 hI)) (show inR (nI j34) 0 7 from hrg34) (by decide) (by decide)
            refine R_lload_n (pc := 57) dX8_write_57 rfl rfl ?_
            refine R_iload (pc := 58) dX8_write_58 rfl ?_
            refine k_X8_94 (pc := 60) (sp_X8_byteOf _ _ _) rfl (by decide) (Nat.le_refl _) (Nat.le_refl _) (Nat.le_of_ble_eq_true rfl) dX8_write_60 (fun x w2 h => ?_)
            obtain ⟨rfl, rfl⟩ := h
            refine R_cv (byI p (nI j34)) rfl ?_
            have hx18 : vp_in ((σ.1 11701) + (nI j34)) 160 := (vp_ti (by have q0 := e4; have q1 := ti_eq hk34_11701; have q2 := e17; have q3 := ti_le b25_5; have q4 := ti_nle b37_11; have q5 := ti_in h1; have q6 := ti_in (iv_11701 hI); have q7 := ti_in r3; have q8 := ti_in hrg34; have q9 := ti_in r16; have z0 : (0 : Int32).toInt = 0 := (by decide); have z1 : (1 : Int32).toInt = 1 := (by decide); have z2 : (11701 : Int32).toInt = 11701 := (by decide); have z3 : (160 : Int32).toInt = 160 := (by decide); have z4 : (167 : Int32).toInt = 167 := (by decide); have z5 : (168 : Int32).toInt = 168 := (by decide); have z6 : (7 : Int32).toInt = 7 := (by decide); have z7 : (8 : Int32).toInt = 8 := (by decide); omega) (by have q0 := e4; have q1 := ti_eq hk34_11701; have q2 := e17; have q3 := ti_le b25_5; have q4 := ti_nle b37_11; have q5 := ti_in h1; have q6 := ti_in (iv_11701 hI); have q7 := ti_in r3; have q8 := ti_in hrg34; have q9 := ti_in r16; have z0 : (0 : Int32).toInt = 0 := (by decide); have z1 : (1 : Int32).toInt = 1 := (by decide); have z2 : (11701 : Int32).toInt = 11701 := (by decide); have z3 : (160 : Int32).toInt = 160 := (by decide); have z4 : (167 : Int32).toInt = 167 := (by decide); have z5 : (168 : Int32).toInt = 168 := (by decide); have z6 : (7 : Int32).toInt = 7 := (by decide); have z7 : (8 : Int32).toInt = 8 := (by decide); omega))
            refine W_iastore (pc := 63) dX8_write_63 (c_118 _) hx18 (a_118 _ _) ?_
            have hW19 := cor_ca 118 (Int32.toNatClampNeg ((σ.1 11701) + (nI j34))) (byI p (nI j34)) hX34_0 rfl
            refine inc_5_4_1_i (pc := 64) dX8_write_64 ?_
            have r20 : inR ((nI j34) + 1) 1 8 := inR_add (show inR (nI j34) 0 7 from hrg34) (show inR 1 1 1 from (inR_self _)) (by decide) (by decide)
            have e21 := ti_add (l := 1) (h := 8) (show inR (nI j34) 0 7 from hrg34) (show inR 1 1 1 from (inR_self _)) (by decide) (by decide)
            refine R_goto (pc := 67) 34 dX8_write_67 (by decide) ?_
            rw [nI_1]
            exact ih34 (j34 + 1) _ (by omega) (by omega) hI34 hk34_11701 (show Cor (uA σ 118 (wrT (σ.2.2.1 118) (σ.1 11701) p (j34 + 1))) _ from cor_uu hW19) (nI_sle (by omega) b37_11)
      exact HL34 8 0 _ (by omega) (by omega) hI rfl (cor_u0 118 (show Cor σ σ from Cor.rfl' σ)) (show (0 : Int32) ≤ n from le0_of1 h1)
    · skip
      refine R_bipush (pc := 28) (v := (-5)) dX8_write_28 (by decide) ?_
      exact R_iret (pc := 30) dX8_write_30 rfl rfl (Nat.zero_le _) (Nat.zero_le _) ⟨_, rfl, (by first | (simp only [A_write, inB_t h1, cond_true, cond_false, Bool.and_true, Bool.true_and, Bool.and_false, Bool.false_and, Bool.or_true, Bool.true_or, Bool.or_false, Bool.false_or, Bool.not_true, Bool.not_false, decide_true, decide_false, if_true, if_false, Bool.true_eq_false, Bool.false_eq_true]; done) | (simp only [A_write, inB_t h1, b25_5, cond_true, cond_false, Bool.and_true, Bool.true_and, Bool.and_false, Bool.false_and, Bool.or_true, Bool.true_or, Bool.or_false, Bool.false_or, Bool.not_true, Bool.not_false, decide_true, decide_false, if_true, if_false, Bool.true_eq_false, Bool.false_eq_true]; done) | (simp [A_write, inB_t h1, b25_5]; done) | (simp only [A_write, inB_t h1, cond_true, cond_false, Bool.and_true, Bool.true_and, Bool.and_false, Bool.false_and, Bool.or_true, Bool.true_or, Bool.or_false, Bool.false_or, Bool.not_true, Bool.not_false, decide_true, decide_false, if_true, if_false, Bool.true_eq_false, Bool.false_eq_true] <;> decide)), _, rfl, hI, (by have e : (K_write n (σ.1 11701)) = false := (by first | (simp only [K_write, inB_t h1, cond_true, cond_false, Bool.and_true, Bool.true_and, Bool.and_false, Bool.false_and, Bool.or_true, Bool.true_or, Bool.or_false, Bool.false_or, Bool.not_true, Bool.not_false, decide_true, decide_false, if_true, if_false, Bool.true_eq_false, Bool.false_eq_true]; done) | (simp only [K_write, inB_t h1, b25_5, cond_true, cond_false, Bool.and_true, Bool.true_and, Bool.and_false, Bool.false_and, Bool.or_true, Bool.true_or, Bool.or_false, Bool.false_or, Bool.not_true, Bool.not_false, decide_true, decide_false, if_true, if_false, Bool.true_eq_false, Bool.false_eq_true]; done) | (simp [K_write, inB_t h1, b25_5]; done) | (simp only [K_write, inB_t h1, cond_true, cond_false, Bool.and_true, Bool.true_and, Bool.and_false, Bool.false_and, Bool.or_true, Bool.true_or, Bool.or_false, Bool.false_or, Bool.not_true, Bool.not_false, decide_true, decide_false, if_true, if_false, Bool.true_eq_false, Bool.false_eq_true] <;> decide)); rw [e]; exact (show Cor σ σ from Cor.rfl' σ))⟩
  · skip
    refine R_ifne (pc := 7) 13 dX8_write_7 (by decide) (fun h => absurd (by decide) h) (fun _ => ?_)
    refine R_bipush (pc := 10) (v := (-3)) dX8_write_10 (by decide) ?_
    exact R_iret (pc := 12) dX8_write_12 rfl rfl (Nat.zero_le _) (Nat.zero_le _) ⟨_, rfl, (by first | (simp only [A_write, inB_f h1, cond_true, cond_false, Bool.and_true, Bool.true_and, Bool.and_false, Bool.false_and, Bool.or_true, Bool.true_or, Bool.or_false, Bool.false_or, Bool.not_true, Bool.not_false, decide_true, decide_false, if_true, if_false, Bool.true_eq_false, Bool.false_eq_true]; done) | (simp [A_write, inB_f h1]; done) | (simp only [A_write, inB_f h1, cond_true, cond_false, Bool.and_true, Bool.true_and, Bool.and_false, Bool.false_and, Bool.or_true, Bool.true_or, Bool.or_false, Bool.false_or, Bool.not_true, Bool.not_false, decide_true, decide_false, if_true, if_false, Bool.true_eq_false, Bool.false_eq_true] <;> decide)), _, rfl, hI, (by have e : (K_write n (σ.1 11701)) = false := (by first | (simp only [K_write, inB_f h1, cond_true, cond_false, Bool.and_true, Bool.true_and, Bool.and_false, Bool.false_and, Bool.or_true, Bool.true_or, Bool.or_false, Bool.false_or, Bool.not_true, Bool.not_false, decide_true, decide_false, if_true, if_false, Bool.true_eq_false, Bool.false_eq_true]; done) | (simp [K_write, inB_f h1]; done) | (simp only [K_write, inB_f h1, cond_true, cond_false, Bool.and_true, Bool.true_and, Bool.and_false, Bool.false_and, Bool.or_true, Bool.true_or, Bool.or_false, Bool.false_or, Bool.not_true, Bool.not_false, decide_true, decide_false, if_true, if_false, Bool.true_eq_false, Bool.false_eq_true] <;> decide)); rw [e]; exact (show Cor σ σ from Cor.rfl' σ))⟩
def E_X8_erase (σ : Sg)  : Sg := (uI σ 11701 0)
set_option maxRecDepth 100000 in
set_option maxHeartbeats 40000000 in
theorem ge_X8_erase {G : vG} {l : Launch} (σ : Sg)  (hI : Inv σ) : Sp G l yX8_erase cX8_erase 2 (some .int) 0 0 0 [.ref 0] (WW σ) (QI (fun x w2 => x = (σ.1 11701) ∧ ∃ σ2, w2 = WW σ2 ∧ Inv σ2 ∧ Cor (E_X8_erase σ) σ2)) := by
  refine Sp_of_R [(some (.ref 0)), none] [none] rfl (by simp) rfl (Nat.le_of_ble_eq_true rfl) ?_
  refine R_aload_n (pc := 0) dX8_erase_0 rfl rfl ?_
  refine g_X8_51 (pc := 1) (v := .ref 117) rfl dX8_erase_1 (c_0 _) rfl ?_
  refine g_X8_291 (pc := 4) (v := .int (σ.1 11701)) rfl dX8_erase_4 (c_117 _) rfl ?_
  refine st_2_1_i_a (pc := 7) dX8_erase_7 ?_
  refine R_aload_n (pc := 8) dX8_erase_8 rfl rfl ?_
  refine g_X8_51 (pc := 9) (v := .ref 117) rfl dX8_erase_9 (c_0 _) rfl ?_
  refine R_iconst (pc := 12) (v := 0) dX8_erase_12 (by decide) ?_
  refine p_X8_291 (pc := 13) rfl dX8_erase_13 (c_117 _) (Nat.le_of_ble_eq_true rfl) rfl rfl (s_117_1 _ _) ?_
  have hV1 := su_11701 hI (show inR 0 0 160 from ⟨by decide, by decide⟩)
  have hW2 := cor_ci 11701 0 (show Cor σ σ from Cor.rfl' σ)
  refine R_iload_n (pc := 16) dX8_erase_16 rfl rfl ?_
  exact R_iret (pc := 17) dX8_erase_17 rfl rfl (Nat.zero_le _) (Nat.zero_le _) ⟨_, rfl, rfl, _, rfl, hV1, hW2⟩
set_option maxRecDepth 100000 in
set_option maxHeartbeats 40000000 in
theorem ge_X8_catalogue {G : vG} {l : Launch} (σ : Sg)  (hI : Inv σ) : Sp G l yX8_catalogue cX8_catalogue 2 (some .int) 9 0 0 [.ref 0] (WW σ) (QI (fun _ w2 => ∃ σ2, w2 = WW σ2 ∧ Inv σ2 ∧ ∃ a b, (CoL (uN σ a b) σ2 ∨ CoM (uN σ a b) σ2))) := by
  refine Sp_of_R [(some (.ref 0)), none] [none] rfl (by simp) rfl (Nat.le_of_ble_eq_true rfl) ?_
  refine R_aload_n (pc := 0) dX8_catalogue_0 rfl rfl ?_
  refine g_X8_51 (pc := 1) (v := .ref 117) rfl dX8_catalogue_1 (c_0 _) rfl ?_
  refine R_aload_n (pc := 4) dX8_catalogue_4 rfl rfl ?_
  rcases iv_ln hI with ⟨hl1, hl1d⟩ | ⟨hl1, hl1d⟩
  · skip
    refine g_X8_65 (pc := 5) (v := .ref 133) rfl dX8_catalogue_5 (c_0 _) (by show some (Value.ref σ.2.2.2.2.2) = _; rw [hl1d]) ?_
    refine k_X8_295 (pc := 8) (gx_X6_read_133 _ hI) rfl (c_117 _) (by decide) (Nat.le_refl _) (Nat.le_refl _) (Nat.le_of_ble_eq_true rfl) dX8_catalogue_8 (fun y2 w2 h => ?_)
    obtain ⟨σx4, rfl, hV3, hW5⟩ := h
    have hW6 := Cor.trans (Cor.rfl' σ) hW5
    refine R_iconst (pc := 11) (v := (-1)) dX8_catalogue_11 (by decide) ?_
    refine R_iceq (pc := 12) 18 dX8_catalogue_12 (by decide) (fun b12_7 => ?_) (fun b12_7 => ?_)
    · skip
      refine R_aload_n (pc := 18) dX8_catalogue_18 rfl rfl ?_
      rcases iv_ln hV3 with ⟨hl8, hl8d⟩ | ⟨hl8, hl8d⟩
      · skip
        refine g_X8_62 (pc := 19) (v := .ref 126) rfl dX8_catalogue_19 (c_0 _) (by show some (Value.ref σx4.2.2.2.2.1) = _; rw [hl8]) ?_
        refine st_2_1_a_a (pc := 22) dX8_catalogue_22 ?_
        refine R_aload_n (pc := 23) dX8_catalogue_23 rfl rfl ?_
        refine R_aload_n (pc := 24) dX8_catalogue_24 rfl rfl ?_
        refine g_X8_65 (pc := 25) (v := .ref 133) rfl dX8_catalogue_25 (c_0 _) (by show some (Value.ref σx4.2.2.2.2.2) = _; rw [hl8d]) ?_
        refine p_X8_62 (pc := 28) rfl dX8_catalogue_28 (c_0 _) (Nat.le_of_ble_eq_true rfl) rfl rfl (s_0_7 _ _) ?_
        refine R_aload_n (pc := 31) dX8_catalogue_31 rfl rfl ?_
        refine R_aload_n (pc := 32) dX8_catalogue_32 rfl rfl ?_
        have hV9 := su_ln hV3 133 126 (by decide)
        have hW10 := cor_un 133 126 hW6
        refine p_X8_65 (pc := 33) (w2 := WW (uN σx4 133 126)) rfl dX8_catalogue_33 (c_0 _) (Nat.le_of_ble_eq_true rfl) rfl rfl (s_0_8 (uN σx4 133 σx4.2.2.2.2.2) 126) ?_
        refine R_aload_n (pc := 36) dX8_catalogue_36 rfl rfl ?_
        refine g_X8_62 (pc := 37) (v := .ref 133) rfl dX8_catalogue_37 (c_0 _) rfl ?_
        refine g_X8_299 (pc := 40) (v := .int (σx4.1 13306)) rfl dX8_catalogue_40 (c_133 _) rfl ?_
        exact R_iret (pc := 43) dX8_catalogue_43 rfl rfl (Nat.zero_le _) (Nat.zero_le _) ⟨_, rfl, _, rfl, hV9, 133, 126, Or.inr hW10⟩
      · skip
        refine g_X8_62 (pc := 19) (v := .ref 133) rfl dX8_catalogue_19 (c_0 _) (by show some (Value.ref σx4.2.2.2.2.1) = _; rw [hl8]) ?_
        refine st_2_1_a_a (pc := 22) dX8_catalogue_22 ?_
        refine R_aload_n (pc := 23) dX8_catalogue_23 rfl rfl ?_
        refine R_aload_n (pc := 24) dX8_catalogue_24 rfl rfl ?_
        refine g_X8_65 (pc := 25) (v := .ref 126) rfl dX8_catalogue_25 (c_0 _) (by show some (Value.ref σx4.2.2.2.2.2) = _; rw [hl8d]) ?_
        refine p_X8_62 (pc := 28) rfl dX8_catalogue_28 (c_0 _) (Nat.le_of_ble_eq_true rfl) rfl rfl (s_0_7 _ _) ?_
        refine R_aload_n (pc := 31) dX8_catalogue_31 rfl rfl ?_
        refine R_aload_n (pc := 32) dX8_catalogue_32 rfl rfl ?_
        have hV11 := su_ln hV3 126 133 (by decide)
        have hW12 := cor_un 126 133 hW6
        refine p_X8_65 (pc := 33) (w2 := WW (uN σx4 126 133)) rfl dX8_catalogue_33 (c_0 _) (Nat.le_of_ble_eq_true rfl) rfl rfl (s_0_8 (uN σx4 126 σx4.2.2.2.2.2) 133) ?_
        refine R_aload_n (pc := 36) dX8_catalogue_36 rfl rfl ?_
        refine g_X8_62 (pc := 37) (v := .ref 126) rfl dX8_catalogue_37 (c_0 _) rfl ?_
        refine g_X8_299 (pc := 40) (v := .int (σx4.1 12606)) rfl dX8_catalogue_40 (c_126 _) rfl ?_
        exact R_iret (pc := 43) dX8_catalogue_43 rfl rfl (Nat.zero_le _) (Nat.zero_le _) ⟨_, rfl, _, rfl, hV11, 126, 133, Or.inr hW12⟩
    · skip
      refine R_bipush (pc := 15) (v := (-4)) dX8_catalogue_15 (by decide) ?_
      exact R_iret (pc := 17) dX8_catalogue_17 rfl rfl (Nat.zero_le _) (Nat.zero_le _) ⟨_, rfl, _, rfl, hV3, σ.2.2.2.2.1, σ.2.2.2.2.2, Or.inr hW6⟩
  · skip
    refine g_X8_65 (pc := 5) (v := .ref 126) rfl dX8_catalogue_5 (c_0 _) (by show some (Value.ref σ.2.2.2.2.2) = _; rw [hl1d]) ?_
    refine k_X8_295 (pc := 8) (gx_X6_read_126 _ hI) rfl (c_117 _) (by decide) (Nat.le_refl _) (Nat.le_refl _) (Nat.le_of_ble_eq_true rfl) dX8_catalogue_8 (fun y13 w2 h => ?_)
    obtain ⟨σx15, rfl, hV14, hW16⟩ := h
    have hW17 := Cor.trans (Cor.rfl' σ) hW16
    refine R_iconst (pc := 11) (v := (-1)) dX8_catalogue_11 (by decide) ?_
    refine R_iceq (pc := 12) 18 dX8_catalogue_12 (by decide) (fun b12_18 => ?_) (fun b12_18 => ?_)
    · skip
      refine R_aload_n (pc := 18) dX8_catalogue_18 rfl rfl ?_
      rcases iv_ln hV14 with ⟨hl19, hl19d⟩ | ⟨hl19, hl19d⟩
      · skip
        refine g_X8_62 (pc := 19) (v := .ref 126) rfl dX8_catalogue_19 (c_0 _) (by show some (Value.ref σx15.2.2.2.2.1) = _; rw [hl19]) ?_
        refine st_2_1_a_a (pc := 22) dX8_catalogue_22 ?_
        refine R_aload_n (pc := 23) dX8_catalogue_23 rfl rfl ?_
        refine R_aload_n (pc := 24) dX8_catalogue_24 rfl rfl ?_
        refine g_X8_65 (pc := 25) (v := .ref 133) rfl dX8_catalogue_25 (c_0 _) (by show some (Value.ref σx15.2.2.2.2.2) = _; rw [hl19d]) ?_
        refine p_X8_62 (pc := 28) rfl dX8_catalogue_28 (c_0 _) (Nat.le_of_ble_eq_true rfl) rfl rfl (s_0_7 _ _) ?_
        refine R_aload_n (pc := 31) dX8_catalogue_31 rfl rfl ?_
        refine R_aload_n (pc := 32) dX8_catalogue_32 rfl rfl ?_
        have hV20 := su_ln hV14 133 126 (by decide)
        have hW21 := cor_un 133 126 hW17
        refine p_X8_65 (pc := 33) (w2 := WW (uN σx15 133 126)) rfl dX8_catalogue_33 (c_0 _) (Nat.le_of_ble_eq_true rfl) rfl rfl (s_0_8 (uN σx15 133 σx15.2.2.2.2.2) 126) ?_
        refine R_aload_n (pc := 36) dX8_catalogue_36 rfl rfl ?_
        refine g_X8_62 (pc := 37) (v := .ref 133) rfl dX8_catalogue_37 (c_0 _) rfl ?_
        refine g_X8_299 (pc := 40) (v := .int (σx15.1 13306)) rfl dX8_catalogue_40 (c_133 _) rfl ?_
        exact R_iret (pc := 43) dX8_catalogue_43 rfl rfl (Nat.zero_le _) (Nat.zero_le _) ⟨_, rfl, _, rfl, hV20, 133, 126, Or.inl hW21⟩
      · skip
        refine g_X8_62 (pc := 19) (v := .ref 133) rfl dX8_catalogue_19 (c_0 _) (by show some (Value.ref σx15.2.2.2.2.1) = _; rw [hl19]) ?_
        refine st_2_1_a_a (pc := 22) dX8_catalogue_22 ?_
        refine R_aload_n (pc := 23) dX8_catalogue_23 rfl rfl ?_
        refine R_aload_n (pc := 24) dX8_catalogue_24 rfl rfl ?_
        refine g_X8_65 (pc := 25) (v := .ref 126) rfl dX8_catalogue_25 (c_0 _) (by show some (Value.ref σx15.2.2.2.2.2) = _; rw [hl19d]) ?_
        refine p_X8_62 (pc := 28) rfl dX8_catalogue_28 (c_0 _) (Nat.le_of_ble_eq_true rfl) rfl rfl (s_0_7 _ _) ?_
        refine R_aload_n (pc := 31) dX8_catalogue_31 rfl rfl ?_
        refine R_aload_n (pc := 32) dX8_catalogue_32 rfl rfl ?_
        have hV22 := su_ln hV14 126 133 (by decide)
        have hW23 := cor_un 126 133 hW17
        refine p_X8_65 (pc := 33) (w2 := WW (uN σx15 126 133)) rfl dX8_catalogue_33 (c_0 _) (Nat.le_of_ble_eq_true rfl) rfl rfl (s_0_8 (uN σx15 126 σx15.2.2.2.2.2) 133) ?_
        refine R_aload_n (pc := 36) dX8_catalogue_36 rfl rfl ?_
        refine g_X8_62 (pc := 37) (v := .ref 126) rfl dX8_catalogue_37 (c_0 _) rfl ?_
        refine g_X8_299 (pc := 40) (v := .int (σx15.1 12606)) rfl dX8_catalogue_40 (c_126 _) rfl ?_
        exact R_iret (pc := 43) dX8_catalogue_43 rfl rfl (Nat.zero_le _) (Nat.zero_le _) ⟨_, rfl, _, rfl, hV22, 126, 133, Or.inl hW23⟩
    · skip
      refine R_bipush (pc := 15) (v := (-4)) dX8_catalogue_15 (by decide) ?_
      exact R_iret (pc := 17) dX8_catalogue_17 rfl rfl (Nat.zero_le _) (Nat.zero_le _) ⟨_, rfl, _, rfl, hV14, σ.2.2.2.2.1, σ.2.2.2.2.2, Or.inl hW17⟩
