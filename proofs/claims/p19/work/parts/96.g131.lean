/-! methods on any state that keeps the invariant -/
set_option maxRecDepth 100000 in
set_option maxHeartbeats 40000000 in
theorem ge2_X6_read_126 {G : vG} {l : Launch} (σ : Sg) (n : Nat)  (hI : Inv σ) (hz : σ.1 11701 = nI n) (hn160 : n ≤ 160) : Sp G l yX6_read cX6_read 3 (some .int) 8 0 0 [.ref 117, .ref 126] (WW σ) (QI (fun x w2 => x = rdR (σ.2.2.1 118) n ∧ ∃ σ2, w2 = WW σ2 ∧ Inv σ2 ∧ CoL σ σ2 ∧ σ2.1 12606 = rdZ (σ.2.2.1 118) n ∧ (rdR (σ.2.2.1 118) n = -1 → CL 126 (σ.2.2.1 118) n σ2 (Int32.toNatClampNeg (rdZ (σ.2.2.1 118) n))))) := by
  refine Sp_of_R [(some (.ref 117)), (some (.ref 126)), none] [none] rfl (by simp) rfl (Nat.le_of_ble_eq_true rfl) ?_
  refine R_aload_n (pc := 0) dX6_read_0 rfl rfl ?_
  refine R_iconst (pc := 1) (v := 0) dX6_read_1 (by decide) ?_
  refine p_X6_15 (pc := 2) rfl dX6_read_2 (c_126 _) (Nat.le_of_ble_eq_true rfl) rfl rfl (s_126_6 _ _) ?_
  have hV1 := su_12606 hI (show inR 0 0 8 from ⟨by decide, by decide⟩)
  have hW2 := cor_si 12606 0 (show CoL σ σ from Cor.rfl' σ) rfl
  refine R_aload_n (pc := 5) dX6_read_5 rfl rfl ?_
  refine R_iconst (pc := 6) (v := 0) dX6_read_6 (by decide) ?_
  refine p_X6_21 (pc := 7) rfl dX6_read_7 (c_117 _) (Nat.le_of_ble_eq_true rfl) rfl rfl (s_117_3 _ _) ?_
  have hW3 := cor_si 11703 0 hW2 rfl
  refine R_aload_n (pc := 10) dX6_read_10 rfl rfl ?_
  refine R_iconst (pc := 11) (v := (-1)) dX6_read_11 (by decide) ?_
  refine p_X6_24 (pc := 12) rfl dX6_read_12 (c_117 _) (Nat.le_of_ble_eq_true rfl) rfl rfl (s_117_4 _ _) ?_
  have hW4 := cor_si 11704 (-1) hW3 rfl
  refine R_aload_n (pc := 15) dX6_read_15 rfl rfl ?_
  refine k_X6_27 (pc := 16) (ge_X6_goOn _ n 0 (-1) hV1 (show (uI (uI (uI σ 12606 0) 11703 0) 11704 (-1)).1 11701 = nI n from hz) hn160 rfl (Nat.zero_le _) rfl) rfl (c_117 _) (by decide) (Nat.le_refl _) (Nat.le_refl _) (Nat.le_of_ble_eq_true rfl) dX6_read_16 (fun w2 h => ?_)
  obtain ⟨σx6, rfl, hV5, hW7, hR8⟩ := h
  have hW10 := Cor.trans hW4 (cor_l hW7)
  have hT9 : RT σ σx6 n (sk (σ.2.2.1 118) n 0, (-1)) := ⟨congrArg (fun q => q.2.1 118) hR8.1, rs_z hR8, hn160, hR8.2.2.2.2.1, hR8.2.2.2.2.2.1, hR8.2.2.2.2.2.2.1, hR8.2.2.2.2.2.2.2⟩
  have hz11 : σx6.1 12606 = 0 := (hR8.2.1 12606 (by decide) (by decide) (by decide)).trans rfl
  have ha12 : (sk (σ.2.2.1 118) n 0, (-1)).1 ≤ n := hT9.2.2.2.1
  have hte13 := te_p2 (f := (σ.2.2.1 118)) ha12
  refine R_aload_n (pc := 19) dX6_read_19 rfl rfl ?_
  refine R_aload_n (pc := 20) dX6_read_20 rfl rfl ?_
  refine k_X6_30 (pc := 21) (ge2_X6_readLine_126 _ n (sk (σ.2.2.1 118) n 0, (-1)) hV5 (rt_rs hT9)) rfl (c_117 _) (by decide) (Nat.le_refl _) (Nat.le_refl _) (Nat.le_of_ble_eq_true rfl) dX6_read_21 (fun w2 h => ?_)
  obtain ⟨σx15, rfl, hV14, hW16, hR17, hz19, hK20, hN21⟩ := h
  have hW22 := Cor.trans hW10 hW16
  have hT18 : RT σ σx15 n (rd1 (σ.2.2.1 118) n) := rt_tr hT9 (by have q := hR17; rw [hT9.1] at q; exact q)
  rw [hT9.1] at hN21
  have hz23 : σx15.1 12606 = (szS (rd1 (σ.2.2.1 118) n).2 0) := (by have q := hz19; rw [hT9.1, hz11] at q; exact q)
  have hc24 := cl_0 (p := 126) hz11 hN21
  have ha25 : (rd1 (σ.2.2.1 118) n).1 ≤ n := hT18.2.2.2.1
  have hte26 := te_p2 (f := (σ.2.2.1 118)) ha25
  refine R_iconst (pc := 24) (v := 1) dX6_read_24 (by decide) ?_
  refine st_3_2_i_a (pc := 25) dX6_read_25 ?_
  have HL26 : ∀ (q j26 : Nat) (σ26 : Sg), j26 + q = 8 → 1 ≤ j26 → Inv σ26 → CoL σ σ26 → (∃ s : St, RT σ σ26 n s ∧ ∃ a : Int32, σ26.1 12606 = a ∧ (rdL (σ.2.2.1 118) n (8 - j26) s = rdE (σ.2.2.1 118) n ∧ rdC (σ.2.2.1 118) n (8 - j26) s a = rdZ (σ.2.2.1 118) n) ∧ (s.2 = -1 → s = lnS (σ.2.2.1 118) n (stI (σ.2.2.1 118) n (j26 - 1)) ∧ a = nI j26 ∧ CL 126 (σ.2.2.1 118) n σ26 j26)) → R G l yX6_read cX6_read 3 (some .int) 8 0 0 (QI (fun x w2 => x = rdR (σ.2.2.1 118) n ∧ ∃ σ2, w2 = WW σ2 ∧ Inv σ2 ∧ CoL σ σ2 ∧ σ2.1 12606 = rdZ (σ.2.2.1 118) n ∧ (rdR (σ.2.2.1 118) n = -1 → CL 126 (σ.2.2.1 118) n σ2 (Int32.toNatClampNeg (rdZ (σ.2.2.1 118) n))))) 26 [(some (.ref 117)), (some (.ref 126)), (some (.int (nI j26)))] [] (WW σ26) 0 0 := by
    intro q
    induction q with
    | zero =>
      intro j26 σ26 hj hs26 hI26 hC26 hX26_0
      obtain rfl : j26 = 8 := by omega
      obtain ⟨s, hs, a, hza, he, hCL⟩ := hX26_0
      have ha27 : s.1 ≤ n := hs.2.2.2.1
      have hte28 := te_p2 (f := (σ.2.2.1 118)) ha27
      refine R_iload_n (pc := 26) dX6_read_26 rfl rfl ?_
      refine R_bipush (pc := 27) (v := 8) dX6_read_27 (by decide) ?_
      refine R_icge (pc := 29) 64 dX6_read_29 (by decide) (fun _ => ?_) (fun h => absurd (by decide) h)
      refine R_aload_n (pc := 64) dX6_read_64 rfl rfl ?_
      refine g_X6_40 (pc := 65) (v := .int (nI s.1)) rfl dX6_read_65 (c_117 _) (by show some (Value.int (σ26.1 11702)) = _; rw [hs.2.2.2.2.1]) ?_
      refine R_aload_n (pc := 68) dX6_read_68 rfl rfl ?_
      refine g_X6_43 (pc := 69) (v := .int (nI n)) rfl dX6_read_69 (c_117 _) (by show some (Value.int (σ26.1 11701)) = _; rw [hs.2.1]) ?_
      refine R_icge (pc := 72) 79 dX6_read_72 (by decide) (fun b72_30 => ?_) (fun b72_30 => ?_)
      · skip
        refine R_aload_n (pc := 79) dX6_read_79 rfl rfl ?_
        refine g_X6_24 (pc := 80) (v := .int s.2) rfl dX6_read_80 (c_117 _) (by show some (Value.int (σ26.1 11704)) = _; rw [hs.2.2.2.2.2.2]) ?_
        exact R_iret (pc := 83) dX6_read_83 rfl rfl (Nat.zero_le _) (Nat.zero_le _) ⟨_, rfl, (rdR_f (rdL_e he (Or.inl rfl)).1 (Nat.not_lt.mpr (nI_les (by omega) (by omega) b72_30))).symm, _, rfl, hI26, hC26, hza.trans (rdL_e he (Or.inl rfl)).2, cl_e (p := 126) hn160 (by omega) hCL (rdL_e he (Or.inl rfl)) (rfl : σ26.2.2.1 = σ26.2.2.1)⟩
      · skip
        refine R_aload_n (pc := 75) dX6_read_75 rfl rfl ?_
        refine k_X6_44 (pc := 76) (ge_X6_findWrong _ n s hI26 (rt_rs hs)) rfl (c_117 _) (by decide) (Nat.le_refl _) (Nat.le_refl _) (Nat.le_of_ble_eq_true rfl) dX6_read_76 (fun w2 h => ?_)
        obtain ⟨σx32, rfl, hV31, hW33, hR34⟩ := h
        have hW36 := Cor.trans hC26 (cor_l hW33)
        have hT35 : RT σ σx32 n (fwS s) := rt_tr hs (rs_rt hR34)
        have hz37 : σx32.1 12606 = a := (hR34.2.1 12606 (by decide) (by decide) (by decide)).trans hza
        have ha38 : (fwS s).1 ≤ n := hT35.2.2.2.1
        have hte39 := te_p2 (f := (σ.2.2.1 118)) ha38
        refine R_aload_n (pc := 79) dX6_read_79 rfl rfl ?_
        refine g_X6_24 (pc := 80) (v := .int (fwS s).2) rfl dX6_read_80 (c_117 _) (by show some (Value.int (σx32.1 11704)) = _; rw [hT35.2.2.2.2.2.2]) ?_
        exact R_iret (pc := 83) dX6_read_83 rfl rfl (Nat.zero_le _) (Nat.zero_le _) ⟨_, rfl, (rdR_t (rdL_e he (Or.inl rfl)).1 (nI_lts (by omega) (by omega) (Int32.not_le.mp b72_30))).symm, _, rfl, hV31, hW36, hz37.trans (rdL_e he (Or.inl rfl)).2, cl_e (p := 126) hn160 (by omega) hCL (rdL_e he (Or.inl rfl)) ((congrArg (fun q => q.2.1) hR34.1).trans (rfl : σ26.2.2.1 = σ26.2.2.1))⟩
    | succ q ih26 =>
      intro j26 σ26 hj hs26 hI26 hC26 hX26_0
      have hrg26 : inR (nI j26) 1 7 := inR_ix hs26 (show j26 < 8 by omega) (by decide) (by decide) (by decide)
      have hlt26 : j26 < 8 := by omega
      obtain ⟨s, hs, a, hza, he, hCL⟩ := hX26_0
      have ha40 : s.1 ≤ n := hs.2.2.2.1
      have hte41 := te_p2 (f := (σ.2.2.1 118)) ha40
      refine R_iload_n (pc := 26) dX6_read_26 rfl rfl ?_
      refine R_bipush (pc := 27) (v := 8) dX6_read_27 (by decide) ?_
      refine R_icge (pc := 29) 64 dX6_read_29 (by decide) (fun h => False.elim (by have q1 := ti_le h; have q2 := ti_in (show inR (nI j26) 1 7 from hrg26); have q3 := ti_in (show inR 8 8 8 from (inR_self _)); have z0 : (1 : Int32).toInt = 1 := (by decide);  have z1 : (7 : Int32).toInt = 7 := (by decide);  have z2 : (8 : Int32).toInt = 8 := (by decide); omega)) (fun _ => ?_)
      refine R_aload_n (pc := 32) dX6_read_32 rfl rfl ?_
      refine g_X6_24 (pc := 33) (v := .int s.2) rfl dX6_read_33 (c_117 _) (by show some (Value.int (σ26.1 11704)) = _; rw [hs.2.2.2.2.2.2]) ?_
      refine R_iconst (pc := 36) (v := (-1)) dX6_read_36 (by decide) ?_
      refine R_icne (pc := 37) 64 dX6_read_37 (by decide) (fun b37_43 => ?_) (fun b37_43 => ?_)
      · skip
        refine R_aload_n (pc := 64) dX6_read_64 rfl rfl ?_
        refine g_X6_40 (pc := 65) (v := .int (nI s.1)) rfl dX6_read_65 (c_117 _) (by show some (Value.int (σ26.1 11702)) = _; rw [hs.2.2.2.2.1]) ?_
        refine R_aload_n (pc := 68) dX6_read_68 rfl rfl ?_
        refine g_X6_43 (pc := 69) (v := .int (nI n)) rfl dX6_read_69 (c_117 _) (by show some (Value.int (σ26.1 11701)) = _; rw [hs.2.1]) ?_
        refine R_icge (pc := 72) 79 dX6_read_72 (by decide) (fun b72_44 => ?_) (fun b72_44 => ?_)
        · skip
          refine R_aload_n (pc := 79) dX6_read_79 rfl rfl ?_
          refine g_X6_24 (pc := 80) (v := .int s.2) rfl dX6_read_80 (c_117 _) (by show some (Value.int (σ26.1 11704)) = _; rw [hs.2.2.2.2.2.2]) ?_
          exact R_iret (pc := 83) dX6_read_83 rfl rfl (Nat.zero_le _) (Nat.zero_le _) ⟨_, rfl, (rdR_f (rdL_e he (Or.inr (Or.inl b37_43))).1 (Nat.not_lt.mpr (nI_les (by omega) (by omega) b72_44))).symm, _, rfl, hI26, hC26, hza.trans (rdL_e he (Or.inr (Or.inl b37_43))).2, cl_e (p := 126) hn160 (by omega) hCL (rdL_e he (Or.inr (Or.inl b37_43))) (rfl : σ26.2.2.1 = σ26.2.2.1)⟩
        · skip
          refine R_aload_n (pc := 75) dX6_read_75 rfl rfl ?_
          refine k_X6_44 (pc := 76) (ge_X6_findWrong _ n s hI26 (rt_rs hs)) rfl (c_117 _) (by decide) (Nat.le_refl _) (Nat.le_refl _) (Nat.le_of_ble_eq_true rfl) dX6_read_76 (fun w2 h => ?_)
          obtain ⟨σx46, rfl, hV45, hW47, hR48⟩ := h
          have hW50 := Cor.trans hC26 (cor_l hW47)
          have hT49 : RT σ σx46 n (fwS s) := rt_tr hs (rs_rt hR48)
          have hz51 : σx46.1 12606 = a := (hR48.2.1 12606 (by decide) (by decide) (by decide)).trans hza
          have ha52 : (fwS s).1 ≤ n := hT49.2.2.2.1
          have hte53 := te_p2 (f := (σ.2.2.1 118)) ha52
          refine R_aload_n (pc := 79) dX6_read_79 rfl rfl ?_
          refine g_X6_24 (pc := 80) (v := .int (fwS s).2) rfl dX6_read_80 (c_117 _) (by show some (Value.int (σx46.1 11704)) = _; rw [hT49.2.2.2.2.2.2]) ?_
          exact R_iret (pc := 83) dX6_read_83 rfl rfl (Nat.zero_le _) (Nat.zero_le _) ⟨_, rfl, (rdR_t (rdL_e he (Or.inr (Or.inl b37_43))).1 (nI_lts (by omega) (by omega) (Int32.not_le.mp b72_44))).symm, _, rfl, hV45, hW50, hz51.trans (rdL_e he (Or.inr (Or.inl b37_43))).2, cl_e (p := 126) hn160 (by omega) hCL (rdL_e he (Or.inr (Or.inl b37_43))) ((congrArg (fun q => q.2.1) hR48.1).trans (rfl : σ26.2.2.1 = σ26.2.2.1))⟩
      · skip
        refine R_aload_n (pc := 40) dX6_read_40 rfl rfl ?_
        refine R_ldcS (pc := 41) (i := 5) rfl rfl dX6_read_41 (adS _ (by decide)) ?_
        refine k_X6_36 (pc := 43) (ge_X6_isAt_5 _ n s hI26 (rt_rs hs)) rfl (c_117 _) (by decide) (Nat.le_refl _) (Nat.le_refl _) (Nat.le_of_ble_eq_true rfl) dX6_read_43 (fun x w2 h => ?_)
        rcases h with ⟨rfl, ⟨h54, rfl⟩ | ⟨h54, rfl⟩⟩
        · skip
          have hB55 : rdB (σ.2.2.1 118) n s.1 5 = true := (by have q := h54; rw [hs.1] at q; exact q)
          refine R_ifeq (pc := 46) 64 dX6_read_46 (by decide) (fun h => absurd h (by decide)) (fun _ => ?_)
          refine R_aload_n (pc := 49) dX6_read_49 rfl rfl ?_
          refine k_X6_27 (pc := 50) (ge_X6_goOn _ n (tkE (σ.2.2.1 118) n s.1) s.2 hI26 hs.2.1 hn160 hs.2.2.2.2.2.1 (te_p hs.2.2.2.1).2.1 hs.2.2.2.2.2.2) rfl (c_117 _) (by decide) (Nat.le_refl _) (Nat.le_refl _) (Nat.le_of_ble_eq_true rfl) dX6_read_50 (fun w2 h => ?_)
          obtain ⟨σx58, rfl, hV57, hW59, hR60⟩ := h
          have hW62 := Cor.trans hC26 (cor_l hW59)
          have hT61 : RT σ σx58 n (sk (σ.2.2.1 118) n (tkE (σ.2.2.1 118) n s.1), s.2) := rt_tr hs (rs_rt (by have q := hR60; rw [hs.1] at q; exact q))
          have hz63 : σx58.1 12606 = a := (hR60.2.1 12606 (by decide) (by decide) (by decide)).trans hza
          have ha64 : (sk (σ.2.2.1 118) n (tkE (σ.2.2.1 118) n s.1), s.2).1 ≤ n := hT61.2.2.2.1
          have hte65 := te_p2 (f := (σ.2.2.1 118)) ha64
          refine R_aload_n (pc := 53) dX6_read_53 rfl rfl ?_
          refine R_aload_n (pc := 54) dX6_read_54 rfl rfl ?_
          refine k_X6_30 (pc := 55) (ge2_X6_readLine_126 _ n (sk (σ.2.2.1 118) n (tkE (σ.2.2.1 118) n s.1), s.2) hV57 (rt_rs hT61)) rfl (c_117 _) (by decide) (Nat.le_refl _) (Nat.le_refl _) (Nat.le_of_ble_eq_true rfl) dX6_read_55 (fun w2 h => ?_)
          obtain ⟨σx67, rfl, hV66, hW68, hR69, hz71, hK72, hN73⟩ := h
          have hW74 := Cor.trans hW62 hW68
          have hT70 : RT σ σx67 n (lnS (σ.2.2.1 118) n (sk (σ.2.2.1 118) n (tkE (σ.2.2.1 118) n s.1), s.2)) := rt_tr hT61 (by have q := hR69; rw [hT61.1] at q; exact q)
          rw [hT61.1] at hN73
          have hz75 : σx67.1 12606 = (szS (lnS (σ.2.2.1 118) n (sk (σ.2.2.1 118) n (tkE (σ.2.2.1 118) n s.1), s.2)).2 a) := (by have q := hz71; rw [hT61.1, hz63] at q; exact q)
          have hc76 := cl_s (p := 126) (by omega) (by omega) hCL b37_43 ((congrArg (fun q => q.2.1) hR60.1).trans (rfl : σ26.2.2.1 = σ26.2.2.1)) hz63 hK72 hN73
          have ha77 : (lnS (σ.2.2.1 118) n (sk (σ.2.2.1 118) n (tkE (σ.2.2.1 118) n s.1), s.2)).1 ≤ n := hT70.2.2.2.1
          have hte78 := te_p2 (f := (σ.2.2.1 118)) ha77
          refine inc_3_2_1_a (pc := 58) dX6_read_58 ?_
          have r79 : inR ((nI j26) + 1) 2 8 := inR_add (show inR (nI j26) 1 7 from hrg26) (show inR 1 1 1 from (inR_self _)) (by decide) (by decide)
          have e80 := ti_add (l := 2) (h := 8) (show inR (nI j26) 1 7 from hrg26) (show inR 1 1 1 from (inR_self _)) (by decide) (by decide)
          refine R_goto (pc := 61) 26 dX6_read_61 (by decide) ?_
          rw [nI_1]
          exact ih26 (j26 + 1) _ (by omega) (by omega) hV66 hW74 ⟨(lnS (σ.2.2.1 118) n (sk (σ.2.2.1 118) n (tkE (σ.2.2.1 118) n s.1), s.2)), hT70, _, hz75, (by have q := rdL_s (q := 8 - (j26 + 1)) (by rw [show 8 - (j26 + 1) + 1 = 8 - j26 by omega]; exact he) b37_43 hB55; exact q), hc76⟩
        · skip
          have hB81 : rdB (σ.2.2.1 118) n s.1 5 = false := (by have q := h54; rw [hs.1] at q; exact q)
          refine R_ifeq (pc := 46) 64 dX6_read_46 (by decide) (fun _ => ?_) (fun h => absurd (by decide) h)
          refine R_aload_n (pc := 64) dX6_read_64 rfl rfl ?_
          refine g_X6_40 (pc := 65) (v := .int (nI s.1)) rfl dX6_read_65 (c_117 _) (by show some (Value.int (σ26.1 11702)) = _; rw [hs.2.2.2.2.1]) ?_
          refine R_aload_n (pc := 68) dX6_read_68 rfl rfl ?_
          refine g_X6_43 (pc := 69) (v := .int (nI n)) rfl dX6_read_69 (c_117 _) (by show some (Value.int (σ26.1 11701)) = _; rw [hs.2.1]) ?_
          refine R_icge (pc := 72) 79 dX6_read_72 (by decide) (fun b72_83 => ?_) (fun b72_83 => ?_)
          · skip
            refine R_aload_n (pc := 79) dX6_read_79 rfl rfl ?_
            refine g_X6_24 (pc := 80) (v := .int s.2) rfl dX6_read_80 (c_117 _) (by show some (Value.int (σ26.1 11704)) = _; rw [hs.2.2.2.2.2.2]) ?_
            exact R_iret (pc := 83) dX6_read_83 rfl rfl (Nat.zero_le _) (Nat.zero_le _) ⟨_, rfl, (rdR_f (rdL_e he (Or.inr (Or.inr hB81))).1 (Nat.not_lt.mpr (nI_les (by omega) (by omega) b72_83))).symm, _, rfl, hI26, hC26, hza.trans (rdL_e he (Or.inr (Or.inr hB81))).2, cl_e (p := 126) hn160 (by omega) hCL (rdL_e he (Or.inr (Or.inr hB81))) (rfl : σ26.2.2.1 = σ26.2.2.1)⟩
          · skip
            refine R_aload_n (pc := 75) dX6_read_75 rfl rfl ?_
            refine k_X6_44 (pc := 76) (ge_X6_findWrong _ n s hI26 (rt_rs hs)) rfl (c_117 _) (by decide) (Nat.le_refl _) (Nat.le_refl _) (Nat.le_of_ble_eq_true rfl) dX6_read_76 (fun w2 h => ?_)
            obtain ⟨σx85, rfl, hV84, hW86, hR87⟩ := h
            have hW89 := Cor.trans hC26 (cor_l hW86)
            have hT88 : RT σ σx85 n (fwS s) := rt_tr hs (rs_rt hR87)
            have hz90 : σx85.1 12606 = a := (hR87.2.1 12606 (by decide) (by decide) (by decide)).trans hza
            have ha91 : (fwS s).1 ≤ n := hT88.2.2.2.1
            have hte92 := te_p2 (f := (σ.2.2.1 118)) ha91
            refine R_aload_n (pc := 79) dX6_read_79 rfl rfl ?_
            refine g_X6_24 (pc := 80) (v := .int (fwS s).2) rfl dX6_read_80 (c_117 _) (by show some (Value.int (σx85.1 11704)) = _; rw [hT88.2.2.2.2.2.2]) ?_
            exact R_iret (pc := 83) dX6_read_83 rfl rfl (Nat.zero_le _) (Nat.zero_le _) ⟨_, rfl, (rdR_t (rdL_e he (Or.inr (Or.inr hB81))).1 (nI_lts (by omega) (by omega) (Int32.not_le.mp b72_83))).symm, _, rfl, hV84, hW89, hz90.trans (rdL_e he (Or.inr (Or.inr hB81))).2, cl_e (p := 126) hn160 (by omega) hCL (rdL_e he (Or.inr (Or.inr hB81))) ((congrArg (fun q => q.2.1) hR87.1).trans (rfl : σ26.2.2.1 = σ26.2.2.1))⟩
  exact HL26 7 1 _ (by omega) (by omega) hV14 hW22 ⟨_, hT18, _, hz23, ⟨rfl, rfl⟩, hc24⟩
set_option maxRecDepth 100000 in
set_option maxHeartbeats 40000000 in
theorem ge2_X6_read_133 {G : vG} {l : Launch} (σ : Sg) (n : Nat)  (hI : Inv σ) (hz : σ.1 11701 = nI n) (hn160 : n ≤ 160) : Sp G l yX6_read cX6_read 3 (some .int) 8 0 0 [.ref 117, .ref 133] (WW σ) (QI (fun x w2 => x = rdR (σ.2.2.1 118) n ∧ ∃ σ2, w2 = WW σ2 ∧ Inv σ2 ∧ CoM σ σ2 ∧ σ2.1 13306 = rdZ (σ.2.2.1 118) n ∧ (rdR (σ.2.2.1 118) n = -1 → CL 133 (σ.2.2.1 118) n σ2 (Int32.toNatClampNeg (rdZ (σ.2.2.1 118) n))))) := by
  refine Sp_of_R [(some (.ref 117)), (some (.ref 133)), none] [none] rfl (by simp) rfl (Nat.le_of_ble_eq_true rfl) ?_
  refine R_aload_n (pc := 0) dX6_read_0 rfl rfl ?_
  refine R_iconst (pc := 1) (v := 0) dX6_read_1 (by decide) ?_
  refine p_X6_15 (pc := 2) rfl dX6_read_2 (c_133 _) (Nat.le_of_ble_eq_true rfl) rfl rfl (s_133_6 _ _) ?_
  have hV1 := su_13306 hI (show inR 0 0 8 from ⟨by decide, by decide⟩)
  have hW2 := cor_si 13306 0 (show CoM σ σ from Cor.rfl' σ) rfl
  refine R_aload_n (pc := 5) dX6_read_5 rfl rfl ?_
  refine R_iconst (pc := 6) (v := 0) dX6_read_6 (by decide) ?_
  refine p_X6_21 (pc := 7) rfl dX6_read_7 (c_117 _) (Nat.le_of_ble_eq_true rfl) rfl rfl (s_117_3 _ _) ?_
  have hW3 := cor_si 11703 0 hW2 rfl
  refine R_aload_n (pc := 10) dX6_read_10 rfl rfl ?_
  refine R_iconst (pc := 11) (v := (-1)) dX6_read_11 (by decide) ?_
  refine p_X6_24 (pc := 12) rfl dX6_read_12 (c_117 _) (Nat.le_of_ble_eq_true rfl) rfl rfl (s_117_4 _ _) ?_
  have hW4 := cor_si 11704 (-1) hW3 rfl
  refine R_aload_n (pc := 15) dX6_read_15 rfl rfl ?_
  refine k_X6_27 (pc := 16) (ge_X6_goOn _ n 0 (-1) hV1 (show (uI (uI (uI σ 13306 0) 11703 0) 11704 (-1)).1 11701 = nI n from hz) hn160 rfl (Nat.zero_le _) rfl) rfl (c_117 _) (by decide) (Nat.le_refl _) (Nat.le_refl _) (Nat.le_of_ble_eq_true rfl) dX6_read_16 (fun w2 h => ?_)
  obtain ⟨σx6, rfl, hV5, hW7, hR8⟩ := h
  have hW10 := Cor.trans hW4 (cor_m hW7)
  have hT9 : RT σ σx6 n (sk (σ.2.2.1 118) n 0, (-1)) := ⟨congrArg (fun q => q.2.1 118) hR8.1, rs_z hR8, hn160, hR8.2.2.2.2.1, hR8.2.2.2.2.2.1, hR8.2.2.2.2.2.2.1, hR8.2.2.2.2.2.2.2⟩
  have hz11 : σx6.1 13306 = 0 := (hR8.2.1 13306 (by decide) (by decide) (by decide)).trans rfl
  have ha12 : (sk (σ.2.2.1 118) n 0, (-1)).1 ≤ n := hT9.2.2.2.1
  have hte13 := te_p2 (f := (σ.2.2.1 118)) ha12
  refine R_aload_n (pc := 19) dX6_read_19 rfl rfl ?_
  refine R_aload_n (pc := 20) dX6_read_20 rfl rfl ?_
  refine k_X6_30 (pc := 21) (ge2_X6_readLine_133 _ n (sk (σ.2.2.1 118) n 0, (-1)) hV5 (rt_rs hT9)) rfl (c_117 _) (by decide) (Nat.le_refl _) (Nat.le_refl _) (Nat.le_of_ble_eq_true rfl) dX6_read_21 (fun w2 h => ?_)
  obtain ⟨σx15, rfl, hV14, hW16, hR17, hz19, hK20, hN21⟩ := h
  have hW22 := Cor.trans hW10 hW16
  have hT18 : RT σ σx15 n (rd1 (σ.2.2.1 118) n) := rt_tr hT9 (by have q := hR17; rw [hT9.1] at q; exact q)
  rw [hT9.1] at hN21
  have hz23 : σx15.1 13306 = (szS (rd1 (σ.2.2.1 118) n).2 0) := (by have q := hz19; rw [hT9.1, hz11] at q; exact q)
  have hc24 := cl_0 (p := 133) hz11 hN21
  have ha25 : (rd1 (σ.2.2.1 118) n).1 ≤ n := hT18.2.2.2.1
  have hte26 := te_p2 (f := (σ.2.2.1 118)) ha25
  refine R_iconst (pc := 24) (v := 1) dX6_read_24 (by decide) ?_
  refine st_3_2_i_a (pc := 25) dX6_read_25 ?_
  have HL26 : ∀ (q j26 : Nat) (σ26 : Sg), j26 + q = 8 → 1 ≤ j26 → Inv σ26 → CoM σ σ26 → (∃ s : St, RT σ σ26 n s ∧ ∃ a : Int32, σ26.1 13306 = a ∧ (rdL (σ.2.2.1 118) n (8 - j26) s = rdE (σ.2.2.1 118) n ∧ rdC (σ.2.2.1 118) n (8 - j26) s a = rdZ (σ.2.2.1 118) n) ∧ (s.2 = -1 → s = lnS (σ.2.2.1 118) n (stI (σ.2.2.1 118) n (j26 - 1)) ∧ a = nI j26 ∧ CL 133 (σ.2.2.1 118) n σ26 j26)) → R G l yX6_read cX6_read 3 (some .int) 8 0 0 (QI (fun x w2 => x = rdR (σ.2.2.1 118) n ∧ ∃ σ2, w2 = WW σ2 ∧ Inv σ2 ∧ CoM σ σ2 ∧ σ2.1 13306 = rdZ (σ.2.2.1 118) n ∧ (rdR (σ.2.2.1 118) n = -1 → CL 133 (σ.2.2.1 118) n σ2 (Int32.toNatClampNeg (rdZ (σ.2.2.1 118) n))))) 26 [(some (.ref 117)), (some (.ref 133)), (some (.int (nI j26)))] [] (WW σ26) 0 0 := by
    intro q
    induction q with
    | zero =>
      intro j26 σ26 hj hs26 hI26 hC26 hX26_0
      obtain rfl : j26 = 8 := by omega
      obtain ⟨s, hs, a, hza, he, hCL⟩ := hX26_0
      have ha27 : s.1 ≤ n := hs.2.2.2.1
      have hte28 := te_p2 (f := (σ.2.2.1 118)) ha27
      refine R_iload_n (pc := 26) dX6_read_26 rfl rfl ?_
      refine R_bipush (pc := 27) (v := 8) dX6_read_27 (by decide) ?_
      refine R_icge (pc := 29) 64 dX6_read_29 (by decide) (fun _ => ?_) (fun h => absurd (by decide) h)
      refine R_aload_n (pc := 64) dX6_read_64 rfl rfl ?_
      refine g_X6_40 (pc := 65) (v := .int (nI s.1)) rfl dX6_read_65 (c_117 _) (by show some (Value.int (σ26.1 11702)) = _; rw [hs.2.2.2.2.1]) ?_
      refine R_aload_n (pc := 68) dX6_read_68 rfl rfl ?_
      refine g_X6_43 (pc := 69) (v := .int (nI n)) rfl dX6_read_69 (c_117 _) (by show some (Value.int (σ26.1 11701)) = _; rw [hs.2.1]) ?_
      refine R_icge (pc := 72) 79 dX6_read_72 (by decide) (fun b72_30 => ?_) (fun b72_30 => ?_)
      · skip
        refine R_aload_n (pc := 79) dX6_read_79 rfl rfl ?_
        refine g_X6_24 (pc := 80) (v := .int s.2) rfl dX6_read_80 (c_117 _) (by show some (Value.int (σ26.1 11704)) = _; rw [hs.2.2.2.2.2.2]) ?_
        exact R_iret (pc := 83) dX6_read_83 rfl rfl (Nat.zero_le _) (Nat.zero_le _) ⟨_, rfl, (rdR_f (rdL_e he (Or.inl rfl)).1 (Nat.not_lt.mpr (nI_les (by omega) (by omega) b72_30))).symm, _, rfl, hI26, hC26, hza.trans (rdL_e he (Or.inl rfl)).2, cl_e (p := 133) hn160 (by omega) hCL (rdL_e he (Or.inl rfl)) (rfl : σ26.2.2.1 = σ26.2.2.1)⟩
      · skip
        refine R_aload_n (pc := 75) dX6_read_75 rfl rfl ?_
        refine k_X6_44 (pc := 76) (ge_X6_findWrong _ n s hI26 (rt_rs hs)) rfl (c_117 _) (by decide) (Nat.le_refl _) (Nat.le_refl _) (Nat.le_of_ble_eq_true rfl) dX6_read_76 (fun w2 h => ?_)
        obtain ⟨σx32, rfl, hV31, hW33, hR34⟩ := h
        have hW36 := Cor.trans hC26 (cor_m hW33)
        have hT35 : RT σ σx32 n (fwS s) := rt_tr hs (rs_rt hR34)
        have hz37 : σx32.1 13306 = a := (hR34.2.1 13306 (by decide) (by decide) (by decide)).trans hza
        have ha38 : (fwS s).1 ≤ n := hT35.2.2.2.1
        have hte39 := te_p2 (f := (σ.2.2.1 118)) ha38
        refine R_aload_n (pc := 79) dX6_read_79 rfl rfl ?_
        refine g_X6_24 (pc := 80) (v := .int (fwS s).2) rfl dX6_read_80 (c_117 _) (by show some (Value.int (σx32.1 11704)) = _; rw [hT35.2.2.2.2.2.2]) ?_
        exact R_iret (pc := 83) dX6_read_83 rfl rfl (Nat.zero_le _) (Nat.zero_le _) ⟨_, rfl, (rdR_t (rdL_e he (Or.inl rfl)).1 (nI_lts (by omega) (by omega) (Int32.not_le.mp b72_30))).symm, _, rfl, hV31, hW36, hz37.trans (rdL_e he (Or.inl rfl)).2, cl_e (p := 133) hn160 (by omega) hCL (rdL_e he (Or.inl rfl)) ((congrArg (fun q => q.2.1) hR34.1).trans (rfl : σ26.2.2.1 = σ26.2.2.1))⟩
    | succ q ih26 =>
      intro j26 σ26 hj hs26 hI26 hC26 hX26_0
      have hrg26 : inR (nI j26) 1 7 := inR_ix hs26 (show j26 < 8 by omega) (by decide) (by decide) (by decide)
      have hlt26 : j26 < 8 := by omega
      obtain ⟨s, hs, a, hza, he, hCL⟩ := hX26_0
      have ha40 : s.1 ≤ n := hs.2.2.2.1
      have hte41 := te_p2 (f := (σ.2.2.1 118)) ha40
      refine R_iload_n (pc := 26) dX6_read_26 rfl rfl ?_
      refine R_bipush (pc := 27) (v := 8) dX6_read_27 (by decide) ?_
      refine R_icge (pc := 29) 64 dX6_read_29 (by decide) (fun h => False.elim (by have q1 := ti_le h; have q2 := ti_in (show inR (nI j26) 1 7 from hrg26); have q3 := ti_in (show inR 8 8 8 from (inR_self _)); have z0 : (1 : Int32).toInt = 1 := (by decide);  have z1 : (7 : Int32).toInt = 7 := (by decide);  have z2 : (8 : Int32).toInt = 8 := (by decide); omega)) (fun _ => ?_)
      refine R_aload_n (pc := 32) dX6_read_32 rfl rfl ?_
      refine g_X6_24 (pc := 33) (v := .int s.2) rfl dX6_read_33 (c_117 _) (by show some (Value.int (σ26.1 11704)) = _; rw [hs.2.2.2.2.2.2]) ?_
      refine R_iconst (pc := 36) (v := (-1)) dX6_read_36 (by decide) ?_
      refine R_icne (pc := 37) 64 dX6_read_37 (by decide) (fun b37_43 => ?_) (fun b37_43 => ?_)
      · skip
        refine R_aload_n (pc := 64) dX6_read_64 rfl rfl ?_
        refine g_X6_40 (pc := 65) (v := .int (nI s.1)) rfl dX6_read_65 (c_117 _) (by show some (Value.int (σ26.1 11702)) = _; rw [hs.2.2.2.2.1]) ?_
        refine R_aload_n (pc := 68) dX6_read_68 rfl rfl ?_
        refine g_X6_43 (pc := 69) (v := .int (nI n)) rfl dX6_read_69 (c_117 _) (by show some (Value.int (σ26.1 11701)) = _; rw [hs.2.1]) ?_
        refine R_icge (pc := 72) 79 dX6_read_72 (by decide) (fun b72_44 => ?_) (fun b72_44 => ?_)
        · skip
          refine R_aload_n (pc := 79) dX6_read_79 rfl rfl ?_
          refine g_X6_24 (pc := 80) (v := .int s.2) rfl dX6_read_80 (c_117 _) (by show some (Value.int (σ26.1 11704)) = _; rw [hs.2.2.2.2.2.2]) ?_
          exact R_iret (pc := 83) dX6_read_83 rfl rfl (Nat.zero_le _) (Nat.zero_le _) ⟨_, rfl, (rdR_f (rdL_e he (Or.inr (Or.inl b37_43))).1 (Nat.not_lt.mpr (nI_les (by omega) (by omega) b72_44))).symm, _, rfl, hI26, hC26, hza.trans (rdL_e he (Or.inr (Or.inl b37_43))).2, cl_e (p := 133) hn160 (by omega) hCL (rdL_e he (Or.inr (Or.inl b37_43))) (rfl : σ26.2.2.1 = σ26.2.2.1)⟩
        · skip
          refine R_aload_n (pc := 75) dX6_read_75 rfl rfl ?_
          refine k_X6_44 (pc := 76) (ge_X6_findWrong _ n s hI26 (rt_rs hs)) rfl (c_117 _) (by decide) (Nat.le_refl _) (Nat.le_refl _) (Nat.le_of_ble_eq_true rfl) dX6_read_76 (fun w2 h => ?_)
          obtain ⟨σx46, rfl, hV45, hW47, hR48⟩ := h
          have hW50 := Cor.trans hC26 (cor_m hW47)
          have hT49 : RT σ σx46 n (fwS s) := rt_tr hs (rs_rt hR48)
          have hz51 : σx46.1 13306 = a := (hR48.2.1 13306 (by decide) (by decide) (by decide)).trans hza
          have ha52 : (fwS s).1 ≤ n := hT49.2.2.2.1
          have hte53 := te_p2 (f := (σ.2.2.1 118)) ha52
          refine R_aload_n (pc := 79) dX6_read_79 rfl rfl ?_
          refine g_X6_24 (pc := 80) (v := .int (fwS s).2) rfl dX6_read_80 (c_117 _) (by show some (Value.int (σx46.1 11704)) = _; rw [hT49.2.2.2.2.2.2]) ?_
          exact R_iret (pc := 83) dX6_read_83 rfl rfl (Nat.zero_le _) (Nat.zero_le _) ⟨_, rfl, (rdR_t (rdL_e he (Or.inr (Or.inl b37_43))).1 (nI_lts (by omega) (by omega) (Int32.not_le.mp b72_44))).symm, _, rfl, hV45, hW50, hz51.trans (rdL_e he (Or.inr (Or.inl b37_43))).2, cl_e (p := 133) hn160 (by omega) hCL (rdL_e he (Or.inr (Or.inl b37_43))) ((congrArg (fun q => q.2.1) hR48.1).trans (rfl : σ26.2.2.1 = σ26.2.2.1))⟩
      · skip
        refine R_aload_n (pc := 40) dX6_read_40 rfl rfl ?_
        refine R_ldcS (pc := 41) (i := 5) rfl rfl dX6_read_41 (adS _ (by decide)) ?_
        refine k_X6_36 (pc := 43) (ge_X6_isAt_5 _ n s hI26 (rt_rs hs)) rfl (c_117 _) (by decide) (Nat.le_refl _) (Nat.le_refl _) (Nat.le_of_ble_eq_true rfl) dX6_read_43 (fun x w2 h => ?_)
        rcases h with ⟨rfl, ⟨h54, rfl⟩ | ⟨h54, rfl⟩⟩
        · skip
          have hB55 : rdB (σ.2.2.1 118) n s.1 5 = true := (by have q := h54; rw [hs.1] at q; exact q)
          refine R_ifeq (pc := 46) 64 dX6_read_46 (by decide) (fun h => absurd h (by decide)) (fun _ => ?_)
          refine R_aload_n (pc := 49) dX6_read_49 rfl rfl ?_
          refine k_X6_27 (pc := 50) (ge_X6_goOn _ n (tkE (σ.2.2.1 118) n s.1) s.2 hI26 hs.2.1 hn160 hs.2.2.2.2.2.1 (te_p hs.2.2.2.1).2.1 hs.2.2.2.2.2.2) rfl (c_117 _) (by decide) (Nat.le_refl _) (Nat.le_refl _) (Nat.le_of_ble_eq_true rfl) dX6_read_50 (fun w2 h => ?_)
          obtain ⟨σx58, rfl, hV57, hW59, hR60⟩ := h
          have hW62 := Cor.trans hC26 (cor_m hW59)
          have hT61 : RT σ σx58 n (sk (σ.2.2.1 118) n (tkE (σ.2.2.1 118) n s.1), s.2) := rt_tr hs (rs_rt (by have q := hR60; rw [hs.1] at q; exact q))
          have hz63 : σx58.1 13306 = a := (hR60.2.1 13306 (by decide) (by decide) (by decide)).trans hza
          have ha64 : (sk (σ.2.2.1 118) n (tkE (σ.2.2.1 118) n s.1), s.2).1 ≤ n := hT61.2.2.2.1
          have hte65 := te_p2 (f := (σ.2.2.1 118)) ha64
          refine R_aload_n (pc := 53) dX6_read_53 rfl rfl ?_
          refine R_aload_n (pc := 54) dX6_read_54 rfl rfl ?_
          refine k_X6_30 (pc := 55) (ge2_X6_readLine_133 _ n (sk (σ.2.2.1 118) n (tkE (σ.2.2.1 118) n s.1), s.2) hV57 (rt_rs hT61)) rfl (c_117 _) (by decide) (Nat.le_refl _) (Nat.le_refl _) (Nat.le_of_ble_eq_true rfl) dX6_read_55 (fun w2 h => ?_)
          obtain ⟨σx67, rfl, hV66, hW68, hR69, hz71, hK72, hN73⟩ := h
          have hW74 := Cor.trans hW62 hW68
          have hT70 : RT σ σx67 n (lnS (σ.2.2.1 118) n (sk (σ.2.2.1 118) n (tkE (σ.2.2.1 118) n s.1), s.2)) := rt_tr hT61 (by have q := hR69; rw [hT61.1] at q; exact q)
          rw [hT61.1] at hN73
          have hz75 : σx67.1 13306 = (szS (lnS (σ.2.2.1 118) n (sk (σ.2.2.1 118) n (tkE (σ.2.2.1 118) n s.1), s.2)).2 a) := (by have q := hz71; rw [hT61.1, hz63] at q; exact q)
          have hc76 := cl_s (p := 133) (by omega) (by omega) hCL b37_43 ((congrArg (fun q => q.2.1) hR60.1).trans (rfl : σ26.2.2.1 = σ26.2.2.1)) hz63 hK72 hN73
          have ha77 : (lnS (σ.2.2.1 118) n (sk (σ.2.2.1 118) n (tkE (σ.2.2.1 118) n s.1), s.2)).1 ≤ n := hT70.2.2.2.1
          have hte78 := te_p2 (f := (σ.2.2.1 118)) ha77
          refine inc_3_2_1_a (pc := 58) dX6_read_58 ?_
          have r79 : inR ((nI j26) + 1) 2 8 := inR_add (show inR (nI j26) 1 7 from hrg26) (show inR 1 1 1 from (inR_self _)) (by decide) (by decide)
          have e80 := ti_add (l := 2) (h := 8) (show inR (nI j26) 1 7 from hrg26) (show inR 1 1 1 from (inR_self _)) (by decide) (by decide)
          refine R_goto (pc := 61) 26 dX6_read_61 (by decide) ?_
          rw [nI_1]
          exact ih26 (j26 + 1) _ (by omega) (by omega) hV66 hW74 ⟨(lnS (σ.2.2.1 118) n (sk (σ.2.2.1 118) n (tkE (σ.2.2.1 118) n s.1), s.2)), hT70, _, hz75, (by have q := rdL_s (q := 8 - (j26 + 1)) (by rw [show 8 - (j26 + 1) + 1 = 8 - j26 by omega]; exact he) b37_43 hB55; exact q), hc76⟩
        · skip
          have hB81 : rdB (σ.2.2.1 118) n s.1 5 = false := (by have q := h54; rw [hs.1] at q; exact q)
          refine R_ifeq (pc := 46) 64 dX6_read_46 (by decide) (fun _ => ?_) (fun h => absurd (by decide) h)
          refine R_aload_n (pc := 64) dX6_read_64 rfl rfl ?_
          refine g_X6_40 (pc := 65) (v := .int (nI s.1)) rfl dX6_read_65 (c_117 _) (by show some (Value.int (σ26.1 11702)) = _; rw [hs.2.2.2.2.1]) ?_
          refine R_aload_n (pc := 68) dX6_read_68 rfl rfl ?_
          refine g_X6_43 (pc := 69) (v := .int (nI n)) rfl dX6_read_69 (c_117 _) (by show some (Value.int (σ26.1 11701)) = _; rw [hs.2.1]) ?_
          refine R_icge (pc := 72) 79 dX6_read_72 (by decide) (fun b72_83 => ?_) (fun b72_83 => ?_)
          · skip
            refine R_aload_n (pc := 79) dX6_read_79 rfl rfl ?_
            refine g_X6_24 (pc := 80) (v := .int s.2) rfl dX6_read_80 (c_117 _) (by show some (Value.int (σ26.1 11704)) = _; rw [hs.2.2.2.2.2.2]) ?_
            exact R_iret (pc := 83) dX6_read_83 rfl rfl (Nat.zero_le _) (Nat.zero_le _) ⟨_, rfl, (rdR_f (rdL_e he (Or.inr (Or.inr hB81))).1 (Nat.not_lt.mpr (nI_les (by omega) (by omega) b72_83))).symm, _, rfl, hI26, hC26, hza.trans (rdL_e he (Or.inr (Or.inr hB81))).2, cl_e (p := 133) hn160 (by omega) hCL (rdL_e he (Or.inr (Or.inr hB81))) (rfl : σ26.2.2.1 = σ26.2.2.1)⟩
          · skip
            refine R_aload_n (pc := 75) dX6_read_75 rfl rfl ?_
            refine k_X6_44 (pc := 76) (ge_X6_findWrong _ n s hI26 (rt_rs hs)) rfl (c_117 _) (by decide) (Nat.le_refl _) (Nat.le_refl _) (Nat.le_of_ble_eq_true rfl) dX6_read_76 (fun w2 h => ?_)
            obtain ⟨σx85, rfl, hV84, hW86, hR87⟩ := h
            have hW89 := Cor.trans hC26 (cor_m hW86)
            have hT88 : RT σ σx85 n (fwS s) := rt_tr hs (rs_rt hR87)
            have hz90 : σx85.1 13306 = a := (hR87.2.1 13306 (by decide) (by decide) (by decide)).trans hza
            have ha91 : (fwS s).1 ≤ n := hT88.2.2.2.1
            have hte92 := te_p2 (f := (σ.2.2.1 118)) ha91
            refine R_aload_n (pc := 79) dX6_read_79 rfl rfl ?_
            refine g_X6_24 (pc := 80) (v := .int (fwS s).2) rfl dX6_read_80 (c_117 _) (by show some (Value.int (σx85.1 11704)) = _; rw [hT88.2.2.2.2.2.2]) ?_
            exact R_iret (pc := 83) dX6_read_83 rfl rfl (Nat.zero_le _) (Nat.zero_le _) ⟨_, rfl, (rdR_t (rdL_e he (Or.inr (Or.inr hB81))).1 (nI_lts (by omega) (by omega) (Int32.not_le.mp b72_83))).symm, _, rfl, hV84, hW89, hz90.trans (rdL_e he (Or.inr (Or.inr hB81))).2, cl_e (p := 133) hn160 (by omega) hCL (rdL_e he (Or.inr (Or.inr hB81))) ((congrArg (fun q => q.2.1) hR87.1).trans (rfl : σ26.2.2.1 = σ26.2.2.1))⟩
  exact HL26 7 1 _ (by omega) (by omega) hV14 hW22 ⟨_, hT18, _, hz23, ⟨rfl, rfl⟩, hc24⟩
