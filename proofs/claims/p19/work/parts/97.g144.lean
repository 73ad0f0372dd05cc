/-! methods on any state that keeps the invariant -/
theorem lnf_t {p : Nat} {σ : Sg} {c i : Nat} (h1 : ¬ σ.2.2.1 (p + 4) i = 0) (h2 : (decide (σ.2.2.1 (p + 1) i = σ.2.2.1 3 c) && inB (σ.2.2.1 4 c) (σ.2.2.1 (p + 2) i) (σ.2.2.1 (p + 3) i)) = true) : LnF p σ c i := by
  simp only [Bool.and_eq_true, decide_eq_true_eq] at h2
  exact ⟨h1, h2.1, h2.2⟩
theorem lnf_f {p : Nat} {σ : Sg} {c i : Nat} (h2 : (decide (σ.2.2.1 (p + 1) i = σ.2.2.1 3 c) && inB (σ.2.2.1 4 c) (σ.2.2.1 (p + 2) i) (σ.2.2.1 (p + 3) i)) = false) : ¬ LnF p σ c i := fun e => by rw [decide_eq_true e.2.1, e.2.2] at h2; cases h2
set_option maxRecDepth 100000 in
set_option maxHeartbeats 40000000 in
theorem ge_X4_isFor_126 {G : vG} {l : Launch} (σ : Sg) (i a b : Int32) (hI : Inv σ) (hi : inR i 0 7) : Sp G l yX4_isFor cX4_isFor 4 (some .boolean) 1 0 0 [.ref 126, .int i, .int a, .int b] (WW σ) (QI (fun x w2 => w2 = WW σ ∧ ((decide (σ.2.2.1 127 (Int32.toNatClampNeg i) = a) && inB b (σ.2.2.1 128 (Int32.toNatClampNeg i)) (σ.2.2.1 129 (Int32.toNatClampNeg i))) = true ∧ x = 1 ∨ (decide (σ.2.2.1 127 (Int32.toNatClampNeg i) = a) && inB b (σ.2.2.1 128 (Int32.toNatClampNeg i)) (σ.2.2.1 129 (Int32.toNatClampNeg i))) = false ∧ x = 0))) := by
  refine Sp_of_R [(some (.ref 126)), (some (.int i)), (some (.int a)), (some (.int b))] [] rfl (by simp) rfl (Nat.le_of_ble_eq_true rfl) ?_
  refine R_aload_n (pc := 0) dX4_isFor_0 rfl rfl ?_
  refine g_X4_9 (pc := 1) (v := .ref 127) rfl dX4_isFor_1 (c_126 _) rfl ?_
  refine R_iload_n (pc := 4) dX4_isFor_4 rfl rfl ?_
  have hx1 : vp_in i 8 := (vp_of_inR hi (by decide))
  refine R_iaload (pc := 5) dX4_isFor_5 (c_127 _) hx1 ?_
  refine R_iload_n (pc := 6) dX4_isFor_6 rfl rfl ?_
  refine R_icne (pc := 7) 33 dX4_isFor_7 (by decide) (fun b7_2 => ?_) (fun b7_2 => ?_)
  · skip
    refine R_iconst (pc := 33) (v := 0) dX4_isFor_33 (by decide) ?_
    exact R_iret (pc := 34) dX4_isFor_34 rfl rfl (Nat.zero_le _) (Nat.zero_le _) ⟨_, rfl, rfl, Or.inr ⟨(by rw [decide_eq_false b7_2]; rfl), rfl⟩⟩
  · skip
    refine R_iload_n (pc := 10) dX4_isFor_10 rfl rfl ?_
    refine R_aload_n (pc := 11) dX4_isFor_11 rfl rfl ?_
    refine g_X4_15 (pc := 12) (v := .ref 128) rfl dX4_isFor_12 (c_126 _) rfl ?_
    refine R_iload_n (pc := 15) dX4_isFor_15 rfl rfl ?_
    have hx3 : vp_in i 8 := (vp_of_inR hi (by decide))
    refine R_iaload (pc := 16) dX4_isFor_16 (c_128 _) hx3 ?_
    refine R_aload_n (pc := 17) dX4_isFor_17 rfl rfl ?_
    refine g_X4_18 (pc := 18) (v := .ref 129) rfl dX4_isFor_18 (c_126 _) rfl ?_
    refine R_iload_n (pc := 21) dX4_isFor_21 rfl rfl ?_
    have hx4 : vp_in i 8 := (vp_of_inR hi (by decide))
    refine R_iaload (pc := 22) dX4_isFor_22 (c_129 _) hx4 ?_
    refine k_X4_31 (pc := 23) (sp_X8_isWithin _ _ _ _) rfl (by decide) (Nat.le_refl _) (Nat.le_refl _) (Nat.le_of_ble_eq_true rfl) dX4_isFor_23 (fun x w2 h => ?_)
    rcases h with ⟨rfl, ⟨h5, rfl⟩ | ⟨h5, rfl⟩⟩
    · skip
      refine R_ifeq (pc := 26) 33 dX4_isFor_26 (by decide) (fun h => absurd h (by decide)) (fun _ => ?_)
      refine R_iconst (pc := 29) (v := 1) dX4_isFor_29 (by decide) ?_
      refine R_goto (pc := 30) 34 dX4_isFor_30 (by decide) ?_
      exact R_iret (pc := 34) dX4_isFor_34 rfl rfl (Nat.zero_le _) (Nat.zero_le _) ⟨_, rfl, rfl, Or.inl ⟨(by rw [decide_eq_true b7_2, inB_t h5]; rfl), rfl⟩⟩
    · skip
      refine R_ifeq (pc := 26) 33 dX4_isFor_26 (by decide) (fun _ => ?_) (fun h => absurd (by decide) h)
      refine R_iconst (pc := 33) (v := 0) dX4_isFor_33 (by decide) ?_
      exact R_iret (pc := 34) dX4_isFor_34 rfl rfl (Nat.zero_le _) (Nat.zero_le _) ⟨_, rfl, rfl, Or.inr ⟨(by rw [decide_eq_true b7_2, inB_f h5]; rfl), rfl⟩⟩
set_option maxRecDepth 100000 in
set_option maxHeartbeats 40000000 in
theorem gd_X1_openPublished_126 {G : vG} {l : Launch} (σ : Sg) (c : Nat)  (hI : Inv σ) (hc : c < 20) : Sp G l yX1_openPublished cX1_openPublished 5 none 2 0 0 [.ref 58, .int (nI c), .ref 126] (WW σ) (QV (fun w2 => ∃ σ2, w2 = WW σ2 ∧ Inv σ2 ∧ Cor σ σ2 ∧ SmP σ σ2 c ∧ Mx (IsI 126 σ c (σ.1 12606).toNatClampNeg) (σ2.2.2.1 90 c).toInt ∧ Mn (IsJ 126 σ c (σ.1 12606).toNatClampNeg) (σ2.2.2.1 91 c).toInt)) := by
  refine Sp_of_R [(some (.ref 58)), (some (.int (nI c))), (some (.ref 126)), none, none] [none, none] rfl (by simp) rfl (Nat.le_of_ble_eq_true rfl) ?_
  refine R_aload_n (pc := 0) dX1_openPublished_0 rfl rfl ?_
  refine g_X1_48 (pc := 1) (v := .ref 1) rfl dX1_openPublished_1 (c_58 _) rfl ?_
  refine g_X1_85 (pc := 4) (v := .ref 5) rfl dX1_openPublished_4 (c_1 _) rfl ?_
  refine R_iload_n (pc := 7) dX1_openPublished_7 rfl rfl ?_
  have hx1 : vp_in (nI c) 20 := (vp_of_inR (show inR (nI c) 0 19 from inR_nI (M := 19) (by omega) (by decide)) (by decide))
  refine R_iaload (pc := 8) dX1_openPublished_8 (c_5 _) hx1 ?_
  refine R_cv (σ.2.2.1 5 c) (by rw [nI_clamp (by omega)]) ?_
  refine st_5_3_i_a (pc := 9) dX1_openPublished_9 ?_
  refine R_aload_n (pc := 10) dX1_openPublished_10 rfl rfl ?_
  refine g_X1_42 (pc := 11) (v := .ref 89) rfl dX1_openPublished_11 (c_58 _) rfl ?_
  refine R_iload_n (pc := 14) dX1_openPublished_14 rfl rfl ?_
  refine R_aload_n (pc := 15) dX1_openPublished_15 rfl rfl ?_
  refine g_X1_18 (pc := 16) (v := .ref 61) rfl dX1_openPublished_16 (c_58 _) rfl ?_
  refine R_iload_n (pc := 19) dX1_openPublished_19 rfl rfl ?_
  have hx2 : vp_in (σ.2.2.1 5 c) 5 := (vp_of_inR (by have q := (show inR (σ.2.2.1 5 (Int32.toNatClampNeg (nI c))) 0 4 from (iva_5 hI _ (lt_of_vp hx1))); rw [nI_clamp (by omega)] at q; exact q) (by decide))
  refine R_iaload (pc := 20) dX1_openPublished_20 (c_61 _) hx2 ?_
  refine R_aload_n (pc := 21) dX1_openPublished_21 rfl rfl ?_
  refine g_X1_21 (pc := 22) (v := .ref 62) rfl dX1_openPublished_22 (c_58 _) rfl ?_
  refine R_iload_n (pc := 25) dX1_openPublished_25 rfl rfl ?_
  have hx3 : vp_in (σ.2.2.1 5 c) 5 := (vp_of_inR (by have q := (show inR (σ.2.2.1 5 (Int32.toNatClampNeg (nI c))) 0 4 from (iva_5 hI _ (lt_of_vp hx1))); rw [nI_clamp (by omega)] at q; exact q) (by decide))
  refine R_iaload (pc := 26) dX1_openPublished_26 (c_62 _) hx3 ?_
  refine k_X1_75 (pc := 27) (ge_X7_open_89 _ _ _ _ hI (show inR (nI c) 0 19 from inR_nI (M := 19) (by omega) (by decide))) rfl (c_89 _) (by decide) (Nat.le_refl _) (Nat.le_refl _) (Nat.le_of_ble_eq_true rfl) dX1_openPublished_27 (fun w2 h => ?_)
  obtain ⟨σx5, rfl, hV4, hW6, he7⟩ := h
  have hW8 := Cor.trans (show Cor σ σ from Cor.rfl' σ) hW6
  rw [show Int32.toNatClampNeg (nI c) = c from nI_clamp (by omega)] at he7
  have hs0 : SmP σ σx5 c := by rw [he7]; exact ⟨rfl, rfl, rfl, fun e he => ⟨upd_ne _ he, upd_ne _ he⟩⟩
  have ho1 : (σx5.2.2.1 90 c).toInt = (σ.2.2.1 61 (σ.2.2.1 5 c).toNatClampNeg).toInt := by rw [he7]; show (upd _ c _ c).toInt = _; rw [upd_at]
  have ho2 : (σx5.2.2.1 91 c).toInt = (σ.2.2.1 62 (σ.2.2.1 5 c).toNatClampNeg).toInt := by rw [he7]; show (upd _ c _ c).toInt = _; rw [upd_at]
  have hcx8 : σx5.2.2.1 8 = σ.2.2.1 8 := hW8.2.2.1 8 rfl
  refine R_aload_n (pc := 30) dX1_openPublished_30 rfl rfl ?_
  refine g_X1_48 (pc := 31) (v := .ref 1) rfl dX1_openPublished_31 (c_58 _) rfl ?_
  refine g_X1_90 (pc := 34) (v := .ref 8) rfl dX1_openPublished_34 (c_1 _) rfl ?_
  refine R_iload_n (pc := 37) dX1_openPublished_37 rfl rfl ?_
  have hx9 : vp_in (nI c) 20 := (vp_of_inR (show inR (nI c) 0 19 from inR_nI (M := 19) (by omega) (by decide)) (by decide))
  refine R_iaload (pc := 38) dX1_openPublished_38 (c_8 _) hx9 ?_
  refine R_iconst (pc := 39) (v := (-1)) dX1_openPublished_39 (by decide) ?_
  refine R_iceq (pc := 40) 60 dX1_openPublished_40 (by decide) (fun b40_10 => ?_) (fun b40_10 => ?_)
  · skip
    refine R_iconst (pc := 60) (v := 0) dX1_openPublished_60 (by decide) ?_
    refine st_5_4_i_i (pc := 61) dX1_openPublished_61 ?_
    have hpo : σ.2.2.1 8 c = -1 := by have q := b40_10; rw [nI_clamp (by omega)] at q; exact (congrFun (hW8.2.2.1 8 rfl) c).symm.trans q
    have HL63 : ∀ (q j63 : Nat) (σ63 : Sg), j63 + q = 8 → 0 ≤ j63 → Inv σ63 → Cor σ σ63 → SmP σ σ63 c → Mx (IsI 126 σ c j63) (σ63.2.2.1 90 c).toInt → Mn (IsJ 126 σ c j63) (σ63.2.2.1 91 c).toInt → nI j63 ≤ σ63.1 12606 → R G l yX1_openPublished cX1_openPublished 5 none 2 0 0 (QV (fun w2 => ∃ σ2, w2 = WW σ2 ∧ Inv σ2 ∧ Cor σ σ2 ∧ SmP σ σ2 c ∧ Mx (IsI 126 σ c (σ.1 12606).toNatClampNeg) (σ2.2.2.1 90 c).toInt ∧ Mn (IsJ 126 σ c (σ.1 12606).toNatClampNeg) (σ2.2.2.1 91 c).toInt)) 63 [(some (.ref 58)), (some (.int (nI c))), (some (.ref 126)), (some (.int (σ.2.2.1 5 c))), (some (.int (nI j63)))] [] (WW σ63) 0 0 := by
      intro q
      induction q with
      | zero =>
        intro j63 σ63 hj hs63 hI63 hC63 hX63_0 hX63_1 hX63_2 hX63_3
        obtain rfl : j63 = 8 := by omega
        refine R_iload (pc := 63) dX1_openPublished_63 rfl ?_
        refine R_aload_n (pc := 65) dX1_openPublished_65 rfl rfl ?_
        refine g_X1_97 (pc := 66) (v := .int (σ63.1 12606)) rfl dX1_openPublished_66 (c_126 _) rfl ?_
        refine R_icge (pc := 69) 145 dX1_openPublished_69 (by decide) (fun _ => ?_) (fun h => absurd (Int32.not_lt.mp (inR_up (iv_12606 hI63) (Int32.le_refl _) (by decide)).2) h)
        exact R_vret (pc := 145) dX1_openPublished_145 rfl (Nat.zero_le _) (Nat.zero_le _) ⟨rfl, _, rfl, hI63, hC63, hX63_0, (by rw [show (σ.1 12606).toNatClampNeg = 8 from (by have q := (Int32.le_antisymm hX63_3 (Int32.not_lt.mp (iv_12606 hI63).2)); rw [(hC63.1 12606 rfl)] at q; rw [← q, nI_clamp (by omega)])]; exact hX63_1), (by rw [show (σ.1 12606).toNatClampNeg = 8 from (by have q := (Int32.le_antisymm hX63_3 (Int32.not_lt.mp (iv_12606 hI63).2)); rw [(hC63.1 12606 rfl)] at q; rw [← q, nI_clamp (by omega)])]; exact hX63_2)⟩
      | succ q ih63 =>
        intro j63 σ63 hj hs63 hI63 hC63 hX63_0 hX63_1 hX63_2 hX63_3
        have hrg63 : inR (nI j63) 0 7 := inR_ix hs63 (show j63 < 8 by omega) (by decide) (by decide) (by decide)
        have hlt63 : j63 < 8 := by omega
        refine R_iload (pc := 63) dX1_openPublished_63 rfl ?_
        refine R_aload_n (pc := 65) dX1_openPublished_65 rfl rfl ?_
        refine g_X1_97 (pc := 66) (v := .int (σ63.1 12606)) rfl dX1_openPublished_66 (c_126 _) rfl ?_
        refine R_icge (pc := 69) 145 dX1_openPublished_69 (by decide) (fun b69_12 => ?_) (fun b69_12 => ?_)
        · skip
          exact R_vret (pc := 145) dX1_openPublished_145 rfl (Nat.zero_le _) (Nat.zero_le _) ⟨rfl, _, rfl, hI63, hC63, hX63_0, (by rw [show (σ.1 12606).toNatClampNeg = j63 from (by have q := (Int32.le_antisymm hX63_3 b69_12); rw [(hC63.1 12606 rfl)] at q; rw [← q, nI_clamp (by omega)])]; exact hX63_1), (by rw [show (σ.1 12606).toNatClampNeg = j63 from (by have q := (Int32.le_antisymm hX63_3 b69_12); rw [(hC63.1 12606 rfl)] at q; rw [← q, nI_clamp (by omega)])]; exact hX63_2)⟩
        · skip
          refine R_aload_n (pc := 72) dX1_openPublished_72 rfl rfl ?_
          refine g_X1_103 (pc := 73) (v := .ref 130) rfl dX1_openPublished_73 (c_126 _) rfl ?_
          refine R_iload (pc := 76) dX1_openPublished_76 rfl ?_
          have hx13 : vp_in (nI j63) 8 := (vp_in_nI (by omega) (by decide))
          refine R_baload (pc := 78) dX1_openPublished_78 (c_130 _) hx13 ?_
          refine R_ifeq (pc := 79) 139 dX1_openPublished_79 (by decide) (fun b79_14 => ?_) (fun b79_14 => ?_)
          · skip
            refine inc_5_4_1_i (pc := 139) dX1_openPublished_139 ?_
            have r15 : inR ((nI j63) + 1) 1 8 := inR_add (show inR (nI j63) 0 7 from hrg63) (show inR 1 1 1 from (inR_self _)) (by decide) (by decide)
            have e16 := ti_add (l := 1) (h := 8) (show inR (nI j63) 0 7 from hrg63) (show inR 1 1 1 from (inR_self _)) (by decide) (by decide)
            refine R_goto (pc := 142) 63 dX1_openPublished_142 (by decide) ?_
            rw [nI_1]
            exact ih63 (j63 + 1) _ (by omega) (by omega) hI63 hC63 hX63_0 (mx_k hX63_1 (isI_f (fun e => (fun e => e.1 (by have q := b79_14; rw [nI_clamp (by omega)] at q; exact q)) ((lnF_ff (Or.inr (Or.inl rfl)) hC63).mpr e)))) (mn_k hX63_2 (isJ_f (fun e => (fun e => e.1 (by have q := b79_14; rw [nI_clamp (by omega)] at q; exact q)) ((lnF_ff (Or.inr (Or.inl rfl)) hC63).mpr e)))) (by have q := b69_12; rw [(hC63.1 12606 rfl)]; rw [(hC63.1 12606 rfl)] at q; exact nI_sle (by omega) q)
          · skip
            refine R_aload_n (pc := 82) dX1_openPublished_82 rfl rfl ?_
            refine R_iload (pc := 83) dX1_openPublished_83 rfl ?_
            refine R_aload_n (pc := 85) dX1_openPublished_85 rfl rfl ?_
            refine g_X1_48 (pc := 86) (v := .ref 1) rfl dX1_openPublished_86 (c_58 _) rfl ?_
            refine g_X1_107 (pc := 89) (v := .ref 3) rfl dX1_openPublished_89 (c_1 _) rfl ?_
            refine R_iload_n (pc := 92) dX1_openPublished_92 rfl rfl ?_
            have hx17 : vp_in (nI c) 20 := (vp_of_inR (show inR (nI c) 0 19 from inR_nI (M := 19) (by omega) (by decide)) (by decide))
            refine R_iaload (pc := 93) dX1_openPublished_93 (c_3 _) hx17 ?_
            refine R_aload_n (pc := 94) dX1_openPublished_94 rfl rfl ?_
            refine g_X1_48 (pc := 95) (v := .ref 1) rfl dX1_openPublished_95 (c_58 _) rfl ?_
            refine g_X1_110 (pc := 98) (v := .ref 4) rfl dX1_openPublished_98 (c_1 _) rfl ?_
            refine R_iload_n (pc := 101) dX1_openPublished_101 rfl rfl ?_
            have hx18 : vp_in (nI c) 20 := (vp_of_inR (show inR (nI c) 0 19 from inR_nI (M := 19) (by omega) (by decide)) (by decide))
            refine R_iaload (pc := 102) dX1_openPublished_102 (c_4 _) hx18 ?_
            refine k_X1_113 (pc := 103) (ge_X4_isFor_126 _ _ _ _ hI63 hrg63) rfl (c_126 _) (by decide) (Nat.le_refl _) (Nat.le_refl _) (Nat.le_of_ble_eq_true rfl) dX1_openPublished_103 (fun x w2 h => ?_)
            rcases h with ⟨rfl, ⟨hf19, rfl⟩ | ⟨hf19, rfl⟩⟩
            · skip
              refine R_ifeq (pc := 106) 139 dX1_openPublished_106 (by decide) (fun h => absurd h (by decide)) (fun _ => ?_)
              refine R_aload_n (pc := 109) dX1_openPublished_109 rfl rfl ?_
              refine g_X1_42 (pc := 110) (v := .ref 89) rfl dX1_openPublished_110 (c_58 _) rfl ?_
              refine R_iload_n (pc := 113) dX1_openPublished_113 rfl rfl ?_
              refine R_aload_n (pc := 114) dX1_openPublished_114 rfl rfl ?_
              refine g_X1_117 (pc := 115) (v := .ref 131) rfl dX1_openPublished_115 (c_126 _) rfl ?_
              refine R_iload (pc := 118) dX1_openPublished_118 rfl ?_
              have hx21 : vp_in (nI j63) 8 := (vp_in_nI (by omega) (by decide))
              refine R_iaload (pc := 120) dX1_openPublished_120 (c_131 _) hx21 ?_
              refine k_X1_120 (pc := 121) (ge_X7_notBefore_89 _ _ _ hI63 (show inR (nI c) 0 19 from inR_nI (M := 19) (by omega) (by decide))) rfl (c_89 _) (by decide) (Nat.le_refl _) (Nat.le_refl _) (Nat.le_of_ble_eq_true rfl) dX1_openPublished_121 (fun w2 h => ?_)
              obtain ⟨σx23, rfl, hV22, hW24, he25⟩ := h
              have hW28 := Cor.trans hC63 hW24
              rw [show Int32.toNatClampNeg (nI c) = c from nI_clamp (by omega)] at he25
              obtain ⟨v27, hO26, hO261, hO262, hO263⟩ := nb_op 90 8902 σ63 c (σ63.2.2.1 131 (Int32.toNatClampNeg (nI j63)))
              rw [← he25] at hO26
              have hs29 := hX63_0.tr (sm_op (Or.inl rfl) hO26)
              have hCh := hW28
              refine R_aload_n (pc := 124) dX1_openPublished_124 rfl rfl ?_
              refine g_X1_42 (pc := 125) (v := .ref 89) rfl dX1_openPublished_125 (c_58 _) rfl ?_
              refine R_iload_n (pc := 128) dX1_openPublished_128 rfl rfl ?_
              refine R_aload_n (pc := 129) dX1_openPublished_129 rfl rfl ?_
              refine g_X1_123 (pc := 130) (v := .ref 132) rfl dX1_openPublished_130 (c_126 _) rfl ?_
              refine R_iload (pc := 133) dX1_openPublished_133 rfl ?_
              have hx30 : vp_in (nI j63) 8 := (vp_in_nI (by omega) (by decide))
              refine R_iaload (pc := 135) dX1_openPublished_135 (c_132 _) hx30 ?_
              refine k_X1_93 (pc := 136) (ge_X7_notBehind_89 _ _ _ hV22 (show inR (nI c) 0 19 from inR_nI (M := 19) (by omega) (by decide))) rfl (c_89 _) (by decide) (Nat.le_refl _) (Nat.le_refl _) (Nat.le_of_ble_eq_true rfl) dX1_openPublished_136 (fun w2 h => ?_)
              obtain ⟨σx32, rfl, hV31, hW33, he34⟩ := h
              have hW37 := Cor.trans hW28 hW33
              rw [show Int32.toNatClampNeg (nI c) = c from nI_clamp (by omega)] at he34
              obtain ⟨v36, hO35, hO351, hO352, hO353⟩ := nh_op 91 8902 σx23 c (σx23.2.2.1 132 (Int32.toNatClampNeg (nI j63)))
              rw [← he34] at hO35
              have hs38 := hs29.tr (sm_op (Or.inr rfl) hO35)
              refine inc_5_4_1_i (pc := 139) dX1_openPublished_139 ?_
              have r39 : inR ((nI j63) + 1) 1 8 := inR_add (show inR (nI j63) 0 7 from hrg63) (show inR 1 1 1 from (inR_self _)) (by decide) (by decide)
              have e40 := ti_add (l := 1) (h := 8) (show inR (nI j63) 0 7 from hrg63) (show inR 1 1 1 from (inR_self _)) (by decide) (by decide)
              refine R_goto (pc := 142) 63 dX1_openPublished_142 (by decide) ?_
              rw [nI_1]
              exact ih63 (j63 + 1) _ (by omega) (by omega) hV31 hW37 hs38 (by have q := mx_s (P := IsI 126 σ c j63) (Q := IsI 126 σ c (j63 + 1)) hX63_1 (fun v => by have z2 := isI_t (p := 126) (σ := σ) ((lnF_ff (Or.inr (Or.inl rfl)) hC63).mp (lnf_t (p := 126) (σ := σ63) (by have q := b79_14; rw [nI_clamp (by omega)] at q; exact q) (by have q := hf19; rw [nI_clamp (by omega), nI_clamp (by omega)] at q; exact q))) v; rw [nI_clamp (by omega), congrFun (hC63.2.2.1 131 rfl) j63]; exact z2) hO261 hO262 hO263; rw [← hO26.2.2.2.1, ← congrFun (hO35.1 90 (by decide)) c] at q; exact q) (by have q := mn_s (P := IsJ 126 σ c j63) (Q := IsJ 126 σ c (j63 + 1)) hX63_2 (fun v => by have z2 := isJ_t (p := 126) (σ := σ) ((lnF_ff (Or.inr (Or.inl rfl)) hC63).mp (lnf_t (p := 126) (σ := σ63) (by have q := b79_14; rw [nI_clamp (by omega)] at q; exact q) (by have q := hf19; rw [nI_clamp (by omega), nI_clamp (by omega)] at q; exact q))) v; rw [nI_clamp (by omega), congrFun (hCh.2.2.1 132 rfl) j63]; exact z2) (by have r := hO351; rw [congrFun (hO26.1 91 (by decide)) c] at r; exact r) hO352 (by have r := hO353; rw [congrFun (hO26.1 91 (by decide)) c] at r; exact r); rw [← hO35.2.2.2.1] at q; exact q) (by have q := b69_12; rw [(hW37.1 12606 rfl)]; rw [(hC63.1 12606 rfl)] at q; exact nI_sle (by omega) q)
            · skip
              refine R_ifeq (pc := 106) 139 dX1_openPublished_106 (by decide) (fun _ => ?_) (fun h => absurd (by decide) h)
              refine inc_5_4_1_i (pc := 139) dX1_openPublished_139 ?_
              have r42 : inR ((nI j63) + 1) 1 8 := inR_add (show inR (nI j63) 0 7 from hrg63) (show inR 1 1 1 from (inR_self _)) (by decide) (by decide)
              have e43 := ti_add (l := 1) (h := 8) (show inR (nI j63) 0 7 from hrg63) (show inR 1 1 1 from (inR_self _)) (by decide) (by decide)
              refine R_goto (pc := 142) 63 dX1_openPublished_142 (by decide) ?_
              rw [nI_1]
              exact ih63 (j63 + 1) _ (by omega) (by omega) hI63 hC63 hX63_0 (mx_k hX63_1 (isI_f (fun e => (lnf_f (p := 126) (σ := σ63) (by have q := hf19; rw [nI_clamp (by omega), nI_clamp (by omega)] at q; exact q)) ((lnF_ff (Or.inr (Or.inl rfl)) hC63).mpr e)))) (mn_k hX63_2 (isJ_f (fun e => (lnf_f (p := 126) (σ := σ63) (by have q := hf19; rw [nI_clamp (by omega), nI_clamp (by omega)] at q; exact q)) ((lnF_ff (Or.inr (Or.inl rfl)) hC63).mpr e)))) (by have q := b69_12; rw [(hC63.1 12606 rfl)]; rw [(hC63.1 12606 rfl)] at q; exact nI_sle (by omega) q)
    exact HL63 8 0 _ (by omega) (by omega) hV4 hW8 hs0 (mx_0 ho1) (mn_0 ho2 hpo) (by rw [(hW8.1 12606 rfl)]; exact Int32.not_lt.mp (iv_12606 hI).1)
  · skip
    refine R_aload_n (pc := 43) dX1_openPublished_43 rfl rfl ?_
    refine g_X1_42 (pc := 44) (v := .ref 89) rfl dX1_openPublished_44 (c_58 _) rfl ?_
    refine R_iload_n (pc := 47) dX1_openPublished_47 rfl rfl ?_
    refine R_aload_n (pc := 48) dX1_openPublished_48 rfl rfl ?_
    refine g_X1_48 (pc := 49) (v := .ref 1) rfl dX1_openPublished_49 (c_58 _) rfl ?_
    refine g_X1_90 (pc := 52) (v := .ref 8) rfl dX1_openPublished_52 (c_1 _) rfl ?_
    refine R_iload_n (pc := 55) dX1_openPublished_55 rfl rfl ?_
    have hx44 : vp_in (nI c) 20 := (vp_of_inR (show inR (nI c) 0 19 from inR_nI (M := 19) (by omega) (by decide)) (by decide))
    refine R_iaload (pc := 56) dX1_openPublished_56 (c_8 _) hx44 ?_
    refine k_X1_93 (pc := 57) (ge_X7_notBehind_89 _ _ _ hV4 (show inR (nI c) 0 19 from inR_nI (M := 19) (by omega) (by decide))) rfl (c_89 _) (by decide) (Nat.le_refl _) (Nat.le_refl _) (Nat.le_of_ble_eq_true rfl) dX1_openPublished_57 (fun w2 h => ?_)
    obtain ⟨σx46, rfl, hV45, hW47, he48⟩ := h
    have hW51 := Cor.trans hW8 hW47
    rw [show Int32.toNatClampNeg (nI c) = c from nI_clamp (by omega)] at he48
    obtain ⟨v50, hO49, hO491, hO492, hO493⟩ := nh_op 91 8902 σx5 c (σx5.2.2.1 8 c)
    rw [← he48] at hO49
    have hs52 := hs0.tr (sm_op (Or.inr rfl) hO49)
    refine R_iconst (pc := 60) (v := 0) dX1_openPublished_60 (by decide) ?_
    refine st_5_4_i_i (pc := 61) dX1_openPublished_61 ?_
    have hpo : ¬ σ.2.2.1 8 c = -1 := by have q := b40_10; rw [nI_clamp (by omega)] at q; exact fun e => q ((congrFun (hcx8) c).trans e)
    have HL63 : ∀ (q j63 : Nat) (σ63 : Sg), j63 + q = 8 → 0 ≤ j63 → Inv σ63 → Cor σ σ63 → SmP σ σ63 c → Mx (IsI 126 σ c j63) (σ63.2.2.1 90 c).toInt → Mn (IsJ 126 σ c j63) (σ63.2.2.1 91 c).toInt → nI j63 ≤ σ63.1 12606 → R G l yX1_openPublished cX1_openPublished 5 none 2 0 0 (QV (fun w2 => ∃ σ2, w2 = WW σ2 ∧ Inv σ2 ∧ Cor σ σ2 ∧ SmP σ σ2 c ∧ Mx (IsI 126 σ c (σ.1 12606).toNatClampNeg) (σ2.2.2.1 90 c).toInt ∧ Mn (IsJ 126 σ c (σ.1 12606).toNatClampNeg) (σ2.2.2.1 91 c).toInt)) 63 [(some (.ref 58)), (some (.int (nI c))), (some (.ref 126)), (some (.int (σ.2.2.1 5 c))), (some (.int (nI j63)))] [] (WW σ63) 0 0 := by
      intro q
      induction q with
      | zero =>
        intro j63 σ63 hj hs63 hI63 hC63 hX63_0 hX63_1 hX63_2 hX63_3
        obtain rfl : j63 = 8 := by omega
        refine R_iload (pc := 63) dX1_openPublished_63 rfl ?_
        refine R_aload_n (pc := 65) dX1_openPublished_65 rfl rfl ?_
        refine g_X1_97 (pc := 66) (v := .int (σ63.1 12606)) rfl dX1_openPublished_66 (c_126 _) rfl ?_
        refine R_icge (pc := 69) 145 dX1_openPublished_69 (by decide) (fun _ => ?_) (fun h => absurd (Int32.not_lt.mp (inR_up (iv_12606 hI63) (Int32.le_refl _) (by decide)).2) h)
        exact R_vret (pc := 145) dX1_openPublished_145 rfl (Nat.zero_le _) (Nat.zero_le _) ⟨rfl, _, rfl, hI63, hC63, hX63_0, (by rw [show (σ.1 12606).toNatClampNeg = 8 from (by have q := (Int32.le_antisymm hX63_3 (Int32.not_lt.mp (iv_12606 hI63).2)); rw [(hC63.1 12606 rfl)] at q; rw [← q, nI_clamp (by omega)])]; exact hX63_1), (by rw [show (σ.1 12606).toNatClampNeg = 8 from (by have q := (Int32.le_antisymm hX63_3 (Int32.not_lt.mp (iv_12606 hI63).2)); rw [(hC63.1 12606 rfl)] at q; rw [← q, nI_clamp (by omega)])]; exact hX63_2)⟩
      | succ q ih63 =>
        intro j63 σ63 hj hs63 hI63 hC63 hX63_0 hX63_1 hX63_2 hX63_3
        have hrg63 : inR (nI j63) 0 7 := inR_ix hs63 (show j63 < 8 by omega) (by decide) (by decide) (by decide)
        have hlt63 : j63 < 8 := by omega
        refine R_iload (pc := 63) dX1_openPublished_63 rfl ?_
        refine R_aload_n (pc := 65) dX1_openPublished_65 rfl rfl ?_
        refine g_X1_97 (pc := 66) (v := .int (σ63.1 12606)) rfl dX1_openPublished_66 (c_126 _) rfl ?_
        refine R_icge (pc := 69) 145 dX1_openPublished_69 (by decide) (fun b69_54 => ?_) (fun b69_54 => ?_)
        · skip
          exact R_vret (pc := 145) dX1_openPublished_145 rfl (Nat.zero_le _) (Nat.zero_le _) ⟨rfl, _, rfl, hI63, hC63, hX63_0, (by rw [show (σ.1 12606).toNatClampNeg = j63 from (by have q := (Int32.le_antisymm hX63_3 b69_54); rw [(hC63.1 12606 rfl)] at q; rw [← q, nI_clamp (by omega)])]; exact hX63_1), (by rw [show (σ.1 12606).toNatClampNeg = j63 from (by have q := (Int32.le_antisymm hX63_3 b69_54); rw [(hC63.1 12606 rfl)] at q; rw [← q, nI_clamp (by omega)])]; exact hX63_2)⟩
        · skip
          refine R_aload_n (pc := 72) dX1_openPublished_72 rfl rfl ?_
          refine g_X1_103 (pc := 73) (v := .ref 130) rfl dX1_openPublished_73 (c_126 _) rfl ?_
          refine R_iload (pc := 76) dX1_openPublished_76 rfl ?_
          have hx55 : vp_in (nI j63) 8 := (vp_in_nI (by omega) (by decide))
          refine R_baload (pc := 78) dX1_openPublished_78 (c_130 _) hx55 ?_
          refine R_ifeq (pc := 79) 139 dX1_openPublished_79 (by decide) (fun b79_56 => ?_) (fun b79_56 => ?_)
          · skip
            refine inc_5_4_1_i (pc := 139) dX1_openPublished_139 ?_
            have r57 : inR ((nI j63) + 1) 1 8 := inR_add (show inR (nI j63) 0 7 from hrg63) (show inR 1 1 1 from (inR_self _)) (by decide) (by decide)
            have e58 := ti_add (l := 1) (h := 8) (show inR (nI j63) 0 7 from hrg63) (show inR 1 1 1 from (inR_self _)) (by decide) (by decide)
            refine R_goto (pc := 142) 63 dX1_openPublished_142 (by decide) ?_
            rw [nI_1]
            exact ih63 (j63 + 1) _ (by omega) (by omega) hI63 hC63 hX63_0 (mx_k hX63_1 (isI_f (fun e => (fun e => e.1 (by have q := b79_56; rw [nI_clamp (by omega)] at q; exact q)) ((lnF_ff (Or.inr (Or.inl rfl)) hC63).mpr e)))) (mn_k hX63_2 (isJ_f (fun e => (fun e => e.1 (by have q := b79_56; rw [nI_clamp (by omega)] at q; exact q)) ((lnF_ff (Or.inr (Or.inl rfl)) hC63).mpr e)))) (by have q := b69_54; rw [(hC63.1 12606 rfl)]; rw [(hC63.1 12606 rfl)] at q; exact nI_sle (by omega) q)
          · skip
            refine R_aload_n (pc := 82) dX1_openPublished_82 rfl rfl ?_
            refine R_iload (pc := 83) dX1_openPublished_83 rfl ?_
            refine R_aload_n (pc := 85) dX1_openPublished_85 rfl rfl ?_
            refine g_X1_48 (pc := 86) (v := .ref 1) rfl dX1_openPublished_86 (c_58 _) rfl ?_
            refine g_X1_107 (pc := 89) (v := .ref 3) rfl dX1_openPublished_89 (c_1 _) rfl ?_
            refine R_iload_n (pc := 92) dX1_openPublished_92 rfl rfl ?_
            have hx59 : vp_in (nI c) 20 := (vp_of_inR (show inR (nI c) 0 19 from inR_nI (M := 19) (by omega) (by decide)) (by decide))
            refine R_iaload (pc := 93) dX1_openPublished_93 (c_3 _) hx59 ?_
            refine R_aload_n (pc := 94) dX1_openPublished_94 rfl rfl ?_
            refine g_X1_48 (pc := 95) (v := .ref 1) rfl dX1_openPublished_95 (c_58 _) rfl ?_
            refine g_X1_110 (pc := 98) (v := .ref 4) rfl dX1_openPublished_98 (c_1 _) rfl ?_
            refine R_iload_n (pc := 101) dX1_openPublished_101 rfl rfl ?_
            have hx60 : vp_in (nI c) 20 := (vp_of_inR (show inR (nI c) 0 19 from inR_nI (M := 19) (by omega) (by decide)) (by decide))
            refine R_iaload (pc := 102) dX1_openPublished_102 (c_4 _) hx60 ?_
            refine k_X1_113 (pc := 103) (ge_X4_isFor_126 _ _ _ _ hI63 hrg63) rfl (c_126 _) (by decide) (Nat.le_refl _) (Nat.le_refl _) (Nat.le_of_ble_eq_true rfl) dX1_openPublished_103 (fun x w2 h => ?_)
            rcases h with ⟨rfl, ⟨hf61, rfl⟩ | ⟨hf61, rfl⟩⟩
            · skip
              refine R_ifeq (pc := 106) 139 dX1_openPublished_106 (by decide) (fun h => absurd h (by decide)) (fun _ => ?_)
              refine R_aload_n (pc := 109) dX1_openPublished_109 rfl rfl ?_
              refine g_X1_42 (pc := 110) (v := .ref 89) rfl dX1_openPublished_110 (c_58 _) rfl ?_
              refine R_iload_n (pc := 113) dX1_openPublished_113 rfl rfl ?_
              refine R_aload_n (pc := 114) dX1_openPublished_114 rfl rfl ?_
              refine g_X1_117 (pc := 115) (v := .ref 131) rfl dX1_openPublished_115 (c_126 _) rfl ?_
              refine R_iload (pc := 118) dX1_openPublished_118 rfl ?_
              have hx63 : vp_in (nI j63) 8 := (vp_in_nI (by omega) (by decide))
              refine R_iaload (pc := 120) dX1_openPublished_120 (c_131 _) hx63 ?_
              refine k_X1_120 (pc := 121) (ge_X7_notBefore_89 _ _ _ hI63 (show inR (nI c) 0 19 from inR_nI (M := 19) (by omega) (by decide))) rfl (c_89 _) (by decide) (Nat.le_refl _) (Nat.le_refl _) (Nat.le_of_ble_eq_true rfl) dX1_openPublished_121 (fun w2 h => ?_)
              obtain ⟨σx65, rfl, hV64, hW66, he67⟩ := h
              have hW70 := Cor.trans hC63 hW66
              rw [show Int32.toNatClampNeg (nI c) = c from nI_clamp (by omega)] at he67
              obtain ⟨v69, hO68, hO681, hO682, hO683⟩ := nb_op 90 8902 σ63 c (σ63.2.2.1 131 (Int32.toNatClampNeg (nI j63)))
              rw [← he67] at hO68
              have hs71 := hX63_0.tr (sm_op (Or.inl rfl) hO68)
              have hCh := hW70
              refine R_aload_n (pc := 124) dX1_openPublished_124 rfl rfl ?_
              refine g_X1_42 (pc := 125) (v := .ref 89) rfl dX1_openPublished_125 (c_58 _) rfl ?_
              refine R_iload_n (pc := 128) dX1_openPublished_128 rfl rfl ?_
              refine R_aload_n (pc := 129) dX1_openPublished_129 rfl rfl ?_
              refine g_X1_123 (pc := 130) (v := .ref 132) rfl dX1_openPublished_130 (c_126 _) rfl ?_
              refine R_iload (pc := 133) dX1_openPublished_133 rfl ?_
              have hx72 : vp_in (nI j63) 8 := (vp_in_nI (by omega) (by decide))
              refine R_iaload (pc := 135) dX1_openPublished_135 (c_132 _) hx72 ?_
              refine k_X1_93 (pc := 136) (ge_X7_notBehind_89 _ _ _ hV64 (show inR (nI c) 0 19 from inR_nI (M := 19) (by omega) (by decide))) rfl (c_89 _) (by decide) (Nat.le_refl _) (Nat.le_refl _) (Nat.le_of_ble_eq_true rfl) dX1_openPublished_136 (fun w2 h => ?_)
              obtain ⟨σx74, rfl, hV73, hW75, he76⟩ := h
              have hW79 := Cor.trans hW70 hW75
              rw [show Int32.toNatClampNeg (nI c) = c from nI_clamp (by omega)] at he76
              obtain ⟨v78, hO77, hO771, hO772, hO773⟩ := nh_op 91 8902 σx65 c (σx65.2.2.1 132 (Int32.toNatClampNeg (nI j63)))
              rw [← he76] at hO77
              have hs80 := hs71.tr (sm_op (Or.inr rfl) hO77)
              refine inc_5_4_1_i (pc := 139) dX1_openPublished_139 ?_
              have r81 : inR ((nI j63) + 1) 1 8 := inR_add (show inR (nI j63) 0 7 from hrg63) (show inR 1 1 1 from (inR_self _)) (by decide) (by decide)
              have e82 := ti_add (l := 1) (h := 8) (show inR (nI j63) 0 7 from hrg63) (show inR 1 1 1 from (inR_self _)) (by decide) (by decide)
              refine R_goto (pc := 142) 63 dX1_openPublished_142 (by decide) ?_
              rw [nI_1]
              exact ih63 (j63 + 1) _ (by omega) (by omega) hV73 hW79 hs80 (by have q := mx_s (P := IsI 126 σ c j63) (Q := IsI 126 σ c (j63 + 1)) hX63_1 (fun v => by have z2 := isI_t (p := 126) (σ := σ) ((lnF_ff (Or.inr (Or.inl rfl)) hC63).mp (lnf_t (p := 126) (σ := σ63) (by have q := b79_56; rw [nI_clamp (by omega)] at q; exact q) (by have q := hf61; rw [nI_clamp (by omega), nI_clamp (by omega)] at q; exact q))) v; rw [nI_clamp (by omega), congrFun (hC63.2.2.1 131 rfl) j63]; exact z2) hO681 hO682 hO683; rw [← hO68.2.2.2.1, ← congrFun (hO77.1 90 (by decide)) c] at q; exact q) (by have q := mn_s (P := IsJ 126 σ c j63) (Q := IsJ 126 σ c (j63 + 1)) hX63_2 (fun v => by have z2 := isJ_t (p := 126) (σ := σ) ((lnF_ff (Or.inr (Or.inl rfl)) hC63).mp (lnf_t (p := 126) (σ := σ63) (by have q := b79_56; rw [nI_clamp (by omega)] at q; exact q) (by have q := hf61; rw [nI_clamp (by omega), nI_clamp (by omega)] at q; exact q))) v; rw [nI_clamp (by omega), congrFun (hCh.2.2.1 132 rfl) j63]; exact z2) (by have r := hO771; rw [congrFun (hO68.1 91 (by decide)) c] at r; exact r) hO772 (by have r := hO773; rw [congrFun (hO68.1 91 (by decide)) c] at r; exact r); rw [← hO77.2.2.2.1] at q; exact q) (by have q := b69_54; rw [(hW79.1 12606 rfl)]; rw [(hC63.1 12606 rfl)] at q; exact nI_sle (by omega) q)
            · skip
              refine R_ifeq (pc := 106) 139 dX1_openPublished_106 (by decide) (fun _ => ?_) (fun h => absurd (by decide) h)
              refine inc_5_4_1_i (pc := 139) dX1_openPublished_139 ?_
              have r84 : inR ((nI j63) + 1) 1 8 := inR_add (show inR (nI j63) 0 7 from hrg63) (show inR 1 1 1 from (inR_self _)) (by decide) (by decide)
              have e85 := ti_add (l := 1) (h := 8) (show inR (nI j63) 0 7 from hrg63) (show inR 1 1 1 from (inR_self _)) (by decide) (by decide)
              refine R_goto (pc := 142) 63 dX1_openPublished_142 (by decide) ?_
              rw [nI_1]
              exact ih63 (j63 + 1) _ (by omega) (by omega) hI63 hC63 hX63_0 (mx_k hX63_1 (isI_f (fun e => (lnf_f (p := 126) (σ := σ63) (by have q := hf61; rw [nI_clamp (by omega), nI_clamp (by omega)] at q; exact q)) ((lnF_ff (Or.inr (Or.inl rfl)) hC63).mpr e)))) (mn_k hX63_2 (isJ_f (fun e => (lnf_f (p := 126) (σ := σ63) (by have q := hf61; rw [nI_clamp (by omega), nI_clamp (by omega)] at q; exact q)) ((lnF_ff (Or.inr (Or.inl rfl)) hC63).mpr e)))) (by have q := b69_54; rw [(hC63.1 12606 rfl)]; rw [(hC63.1 12606 rfl)] at q; exact nI_sle (by omega) q)
    exact HL63 8 0 _ (by omega) (by omega) hV45 hW51 hs52 (mx_0 ((congrArg Int32.toInt (congrFun (hO49.1 90 (by decide)) c)).trans ho1)) (by have q := mn_1 (p := 126) ho2 hpo (by rw [hcx8]) hO491 hO492 hO493; rw [← hO49.2.2.2.1] at q; exact q) (by rw [(hW51.1 12606 rfl)]; exact Int32.not_lt.mp (iv_12606 hI).1)
set_option maxRecDepth 100000 in
set_option maxHeartbeats 40000000 in
theorem ge_X4_isFor_133 {G : vG} {l : Launch} (σ : Sg) (i a b : Int32) (hI : Inv σ) (hi : inR i 0 7) : Sp G l yX4_isFor cX4_isFor 4 (some .boolean) 1 0 0 [.ref 133, .int i, .int a, .int b] (WW σ) (QI (fun x w2 => w2 = WW σ ∧ ((decide (σ.2.2.1 134 (Int32.toNatClampNeg i) = a) && inB b (σ.2.2.1 135 (Int32.toNatClampNeg i)) (σ.2.2.1 136 (Int32.toNatClampNeg i))) = true ∧ x = 1 ∨ (decide (σ.2.2.1 134 (Int32.toNatClampNeg i) = a) && inB b (σ.2.2.1 135 (Int32.toNatClampNeg i)) (σ.2.2.1 136 (Int32.toNatClampNeg i))) = false ∧ x = 0))) := by
  refine Sp_of_R [(some (.ref 133)), (some (.int i)), (some (.int a)), (some (.int b))] [] rfl (by simp) rfl (Nat.le_of_ble_eq_true rfl) ?_
  refine R_aload_n (pc := 0) dX4_isFor_0 rfl rfl ?_
  refine g_X4_9 (pc := 1) (v := .ref 134) rfl dX4_isFor_1 (c_133 _) rfl ?_
  refine R_iload_n (pc := 4) dX4_isFor_4 rfl rfl ?_
  have hx1 : vp_in i 8 := (vp_of_inR hi (by decide))
  refine R_iaload (pc := 5) dX4_isFor_5 (c_134 _) hx1 ?_
  refine R_iload_n (pc := 6) dX4_isFor_6 rfl rfl ?_
  refine R_icne (pc := 7) 33 dX4_isFor_7 (by decide) (fun b7_2 => ?_) (fun b7_2 => ?_)
  · skip
    refine R_iconst (pc := 33) (v := 0) dX4_isFor_33 (by decide) ?_
    exact R_iret (pc := 34) dX4_isFor_34 rfl rfl (Nat.zero_le _) (Nat.zero_le _) ⟨_, rfl, rfl, Or.inr ⟨(by rw [decide_eq_false b7_2]; rfl), rfl⟩⟩
  · skip
    refine R_iload_n (pc := 10) dX4_isFor_10 rfl rfl ?_
    refine R_aload_n (pc := 11) dX4_isFor_11 rfl rfl ?_
    refine g_X4_15 (pc := 12) (v := .ref 135) rfl dX4_isFor_12 (c_133 _) rfl ?_
    refine R_iload_n (pc := 15) dX4_isFor_15 rfl rfl ?_
    have hx3 : vp_in i 8 := (vp_of_inR hi (by decide))
    refine R_iaload (pc := 16) dX4_isFor_16 (c_135 _) hx3 ?_
    refine R_aload_n (pc := 17) dX4_isFor_17 rfl rfl ?_
    refine g_X4_18 (pc := 18) (v := .ref 136) rfl dX4_isFor_18 (c_133 _) rfl ?_
    refine R_iload_n (pc := 21) dX4_isFor_21 rfl rfl ?_
    have hx4 : vp_in i 8 := (vp_of_inR hi (by decide))
    refine R_iaload (pc := 22) dX4_isFor_22 (c_136 _) hx4 ?_
    refine k_X4_31 (pc := 23) (sp_X8_isWithin _ _ _ _) rfl (by decide) (Nat.le_refl _) (Nat.le_refl _) (Nat.le_of_ble_eq_true rfl) dX4_isFor_23 (fun x w2 h => ?_)
    rcases h with ⟨rfl, ⟨h5, rfl⟩ | ⟨h5, rfl⟩⟩
    · skip
      refine R_ifeq (pc := 26) 33 dX4_isFor_26 (by decide) (fun h => absurd h (by decide)) (fun _ => ?_)
      refine R_iconst (pc := 29) (v := 1) dX4_isFor_29 (by decide) ?_
      refine R_goto (pc := 30) 34 dX4_isFor_30 (by decide) ?_
      exact R_iret (pc := 34) dX4_isFor_34 rfl rfl (Nat.zero_le _) (Nat.zero_le _) ⟨_, rfl, rfl, Or.inl ⟨(by rw [decide_eq_true b7_2, inB_t h5]; rfl), rfl⟩⟩
    · skip
      refine R_ifeq (pc := 26) 33 dX4_isFor_26 (by decide) (fun _ => ?_) (fun h => absurd (by decide) h)
      refine R_iconst (pc := 33) (v := 0) dX4_isFor_33 (by decide) ?_
      exact R_iret (pc := 34) dX4_isFor_34 rfl rfl (Nat.zero_le _) (Nat.zero_le _) ⟨_, rfl, rfl, Or.inr ⟨(by rw [decide_eq_true b7_2, inB_f h5]; rfl), rfl⟩⟩
set_option maxRecDepth 100000 in
set_option maxHeartbeats 40000000 in
theorem gd_X1_openPublished_133 {G : vG} {l : Launch} (σ : Sg) (c : Nat)  (hI : Inv σ) (hc : c < 20) : Sp G l yX1_openPublished cX1_openPublished 5 none 2 0 0 [.ref 58, .int (nI c), .ref 133] (WW σ) (QV (fun w2 => ∃ σ2, w2 = WW σ2 ∧ Inv σ2 ∧ Cor σ σ2 ∧ SmP σ σ2 c ∧ Mx (IsI 133 σ c (σ.1 13306).toNatClampNeg) (σ2.2.2.1 90 c).toInt ∧ Mn (IsJ 133 σ c (σ.1 13306).toNatClampNeg) (σ2.2.2.1 91 c).toInt)) := by
  refine Sp_of_R [(some (.ref 58)), (some (.int (nI c))), (some (.ref 133)), none, none] [none, none] rfl (by simp) rfl (Nat.le_of_ble_eq_true rfl) ?_
  refine R_aload_n (pc := 0) dX1_openPublished_0 rfl rfl ?_
  refine g_X1_48 (pc := 1) (v := .ref 1) rfl dX1_openPublished_1 (c_58 _) rfl ?_
  refine g_X1_85 (pc := 4) (v := .ref 5) rfl dX1_openPublished_4 (c_1 _) rfl ?_
  refine R_iload_n (pc := 7) dX1_openPublished_7 rfl rfl ?_
  have hx1 : vp_in (nI c) 20 := (vp_of_inR (show inR (nI c) 0 19 from inR_nI (M := 19) (by omega) (by decide)) (by decide))
  refine R_iaload (pc := 8) dX1_openPublished_8 (c_5 _) hx1 ?_
  refine R_cv (σ.2.2.1 5 c) (by rw [nI_clamp (by omega)]) ?_
  refine st_5_3_i_a (pc := 9) dX1_openPublished_9 ?_
  refine R_aload_n (pc := 10) dX1_openPublished_10 rfl rfl ?_
  refine g_X1_42 (pc := 11) (v := .ref 89) rfl dX1_openPublished_11 (c_58 _) rfl ?_
  refine R_iload_n (pc := 14) dX1_openPublished_14 rfl rfl ?_
  refine R_aload_n (pc := 15) dX1_openPublished_15 rfl rfl ?_
  refine g_X1_18 (pc := 16) (v := .ref 61) rfl dX1_openPublished_16 (c_58 _) rfl ?_
  refine R_iload_n (pc := 19) dX1_openPublished_19 rfl rfl ?_
  have hx2 : vp_in (σ.2.2.1 5 c) 5 := (vp_of_inR (by have q := (show inR (σ.2.2.1 5 (Int32.toNatClampNeg (nI c))) 0 4 from (iva_5 hI _ (lt_of_vp hx1))); rw [nI_clamp (by omega)] at q; exact q) (by decide))
  refine R_iaload (pc := 20) dX1_openPublished_20 (c_61 _) hx2 ?_
  refine R_aload_n (pc := 21) dX1_openPublished_21 rfl rfl ?_
  refine g_X1_21 (pc := 22) (v := .ref 62) rfl dX1_openPublished_22 (c_58 _) rfl ?_
  refine R_iload_n (pc := 25) dX1_openPublished_25 rfl rfl ?_
  have hx3 : vp_in (σ.2.2.1 5 c) 5 := (vp_of_inR (by have q := (show inR (σ.2.2.1 5 (Int32.toNatClampNeg (nI c))) 0 4 from (iva_5 hI _ (lt_of_vp hx1))); rw [nI_clamp (by omega)] at q; exact q) (by decide))
  refine R_iaload (pc := 26) dX1_openPublished_26 (c_62 _) hx3 ?_
  refine k_X1_75 (pc := 27) (ge_X7_open_89 _ _ _ _ hI (show inR (nI c) 0 19 from inR_nI (M := 19) (by omega) (by decide))) rfl (c_89 _) (by decide) (Nat.le_refl _) (Nat.le_refl _) (Nat.le_of_ble_eq_true rfl) dX1_openPublished_27 (fun w2 h => ?_)
  obtain ⟨σx5, rfl, hV4, hW6, he7⟩ := h
  have hW8 := Cor.trans (show Cor σ σ from Cor.rfl' σ) hW6
  rw [show Int32.toNatClampNeg (nI c) = c from nI_clamp (by omega)] at he7
  have hs0 : SmP σ σx5 c := by rw [he7]; exact ⟨rfl, rfl, rfl, fun e he => ⟨upd_ne _ he, upd_ne _ he⟩⟩
  have ho1 : (σx5.2.2.1 90 c).toInt = (σ.2.2.1 61 (σ.2.2.1 5 c).toNatClampNeg).toInt := by rw [he7]; show (upd _ c _ c).toInt = _; rw [upd_at]
  have ho2 : (σx5.2.2.1 91 c).toInt = (σ.2.2.1 62 (σ.2.2.1 5 c).toNatClampNeg).toInt := by rw [he7]; show (upd _ c _ c).toInt = _; rw [upd_at]
  have hcx8 : σx5.2.2.1 8 = σ.2.2.1 8 := hW8.2.2.1 8 rfl
  refine R_aload_n (pc := 30) dX1_openPublished_30 rfl rfl ?_
  refine g_X1_48 (pc := 31) (v := .ref 1) rfl dX1_openPublished_31 (c_58 _) rfl ?_
  refine g_X1_90 (pc := 34) (v := .ref 8) rfl dX1_openPublished_34 (c_1 _) rfl ?_
  refine R_iload_n (pc := 37) dX1_openPublished_37 rfl rfl ?_
  have hx9 : vp_in (nI c) 20 := (vp_of_inR (show inR (nI c) 0 19 from inR_nI (M := 19) (by omega) (by decide)) (by decide))
  refine R_iaload (pc := 38) dX1_openPublished_38 (c_8 _) hx9 ?_
  refine R_iconst (pc := 39) (v := (-1)) dX1_openPublished_39 (by decide) ?_
  refine R_iceq (pc := 40) 60 dX1_openPublished_40 (by decide) (fun b40_10 => ?_) (fun b40_10 => ?_)
  · skip
    refine R_iconst (pc := 60) (v := 0) dX1_openPublished_60 (by decide) ?_
    refine st_5_4_i_i (pc := 61) dX1_openPublished_61 ?_
    have hpo : σ.2.2.1 8 c = -1 := by have q := b40_10; rw [nI_clamp (by omega)] at q; exact (congrFun (hW8.2.2.1 8 rfl) c).symm.trans q
    have HL63 : ∀ (q j63 : Nat) (σ63 : Sg), j63 + q = 8 → 0 ≤ j63 → Inv σ63 → Cor σ σ63 → SmP σ σ63 c → Mx (IsI 133 σ c j63) (σ63.2.2.1 90 c).toInt → Mn (IsJ 133 σ c j63) (σ63.2.2.1 91 c).toInt → nI j63 ≤ σ63.1 13306 → R G l yX1_openPublished cX1_openPublished 5 none 2 0 0 (QV (fun w2 => ∃ σ2, w2 = WW σ2 ∧ Inv σ2 ∧ Cor σ σ2 ∧ SmP σ σ2 c ∧ Mx (IsI 133 σ c (σ.1 13306).toNatClampNeg) (σ2.2.2.1 90 c).toInt ∧ Mn (IsJ 133 σ c (σ.1 13306).toNatClampNeg) (σ2.2.2.1 91 c).toInt)) 63 [(some (.ref 58)), (some (.int (nI c))), (some (.ref 133)), (some (.int (σ.2.2.1 5 c))), (some (.int (nI j63)))] [] (WW σ63) 0 0 := by
      intro q
      induction q with
      | zero =>
        intro j63 σ63 hj hs63 hI63 hC63 hX63_0 hX63_1 hX63_2 hX63_3
        obtain rfl : j63 = 8 := by omega
        refine R_iload (pc := 63) dX1_openPublished_63 rfl ?_
        refine R_aload_n (pc := 65) dX1_openPublished_65 rfl rfl ?_
        refine g_X1_97 (pc := 66) (v := .int (σ63.1 13306)) rfl dX1_openPublished_66 (c_133 _) rfl ?_
        refine R_icge (pc := 69) 145 dX1_openPublished_69 (by decide) (fun _ => ?_) (fun h => absurd (Int32.not_lt.mp (inR_up (iv_13306 hI63) (Int32.le_refl _) (by decide)).2) h)
        exact R_vret (pc := 145) dX1_openPublished_145 rfl (Nat.zero_le _) (Nat.zero_le _) ⟨rfl, _, rfl, hI63, hC63, hX63_0, (by rw [show (σ.1 13306).toNatClampNeg = 8 from (by have q := (Int32.le_antisymm hX63_3 (Int32.not_lt.mp (iv_13306 hI63).2)); rw [(hC63.1 13306 rfl)] at q; rw [← q, nI_clamp (by omega)])]; exact hX63_1), (by rw [show (σ.1 13306).toNatClampNeg = 8 from (by have q := (Int32.le_antisymm hX63_3 (Int32.not_lt.mp (iv_13306 hI63).2)); rw [(hC63.1 13306 rfl)] at q; rw [← q, nI_clamp (by omega)])]; exact hX63_2)⟩
      | succ q ih63 =>
        intro j63 σ63 hj hs63 hI63 hC63 hX63_0 hX63_1 hX63_2 hX63_3
        have hrg63 : inR (nI j63) 0 7 := inR_ix hs63 (show j63 < 8 by omega) (by decide) (by decide) (by decide)
        have hlt63 : j63 < 8 := by omega
        refine R_iload (pc := 63) dX1_openPublished_63 rfl ?_
        refine R_aload_n (pc := 65) dX1_openPublished_65 rfl rfl ?_
        refine g_X1_97 (pc := 66) (v := .int (σ63.1 13306)) rfl dX1_openPublished_66 (c_133 _) rfl ?_
        refine R_icge (pc := 69) 145 dX1_openPublished_69 (by decide) (fun b69_12 => ?_) (fun b69_12 => ?_)
        · skip
          exact R_vret (pc := 145) dX1_openPublished_145 rfl (Nat.zero_le _) (Nat.zero_le _) ⟨rfl, _, rfl, hI63, hC63, hX63_0, (by rw [show (σ.1 13306).toNatClampNeg = j63 from (by have q := (Int32.le_antisymm hX63_3 b69_12); rw [(hC63.1 13306 rfl)] at q; rw [← q, nI_clamp (by omega)])]; exact hX63_1), (by rw [show (σ.1 13306).toNatClampNeg = j63 from (by have q := (Int32.le_antisymm hX63_3 b69_12); rw [(hC63.1 13306 rfl)] at q; rw [← q, nI_clamp (by omega)])]; exact hX63_2)⟩
        · skip
          refine R_aload_n (pc := 72) dX1_openPublished_72 rfl rfl ?_
          refine g_X1_103 (pc := 73) (v := .ref 137) rfl dX1_openPublished_73 (c_133 _) rfl ?_
          refine R_iload (pc := 76) dX1_openPublished_76 rfl ?_
          have hx13 : vp_in (nI j63) 8 := (vp_in_nI (by omega) (by decide))
          refine R_baload (pc := 78) dX1_openPublished_78 (c_137 _) hx13 ?_
          refine R_ifeq (pc := 79) 139 dX1_openPublished_79 (by decide) (fun b79_14 => ?_) (fun b79_14 => ?_)
          · skip
            refine inc_5_4_1_i (pc := 139) dX1_openPublished_139 ?_
            have r15 : inR ((nI j63) + 1) 1 8 := inR_add (show inR (nI j63) 0 7 from hrg63) (show inR 1 1 1 from (inR_self _)) (by decide) (by decide)
            have e16 := ti_add (l := 1) (h := 8) (show inR (nI j63) 0 7 from hrg63) (show inR 1 1 1 from (inR_self _)) (by decide) (by decide)
            refine R_goto (pc := 142) 63 dX1_openPublished_142 (by decide) ?_
            rw [nI_1]
            exact ih63 (j63 + 1) _ (by omega) (by omega) hI63 hC63 hX63_0 (mx_k hX63_1 (isI_f (fun e => (fun e => e.1 (by have q := b79_14; rw [nI_clamp (by omega)] at q; exact q)) ((lnF_ff (Or.inr (Or.inr rfl)) hC63).mpr e)))) (mn_k hX63_2 (isJ_f (fun e => (fun e => e.1 (by have q := b79_14; rw [nI_clamp (by omega)] at q; exact q)) ((lnF_ff (Or.inr (Or.inr rfl)) hC63).mpr e)))) (by have q := b69_12; rw [(hC63.1 13306 rfl)]; rw [(hC63.1 13306 rfl)] at q; exact nI_sle (by omega) q)
          · skip
            refine R_aload_n (pc := 82) dX1_openPublished_82 rfl rfl ?_
            refine R_iload (pc := 83) dX1_openPublished_83 rfl ?_
            refine R_aload_n (pc := 85) dX1_openPublished_85 rfl rfl ?_
            refine g_X1_48 (pc := 86) (v := .ref 1) rfl dX1_openPublished_86 (c_58 _) rfl ?_
            refine g_X1_107 (pc := 89) (v := .ref 3) rfl dX1_openPublished_89 (c_1 _) rfl ?_
            refine R_iload_n (pc := 92) dX1_openPublished_92 rfl rfl ?_
            have hx17 : vp_in (nI c) 20 := (vp_of_inR (show inR (nI c) 0 19 from inR_nI (M := 19) (by omega) (by decide)) (by decide))
            refine R_iaload (pc := 93) dX1_openPublished_93 (c_3 _) hx17 ?_
            refine R_aload_n (pc := 94) dX1_openPublished_94 rfl rfl ?_
            refine g_X1_48 (pc := 95) (v := .ref 1) rfl dX1_openPublished_95 (c_58 _) rfl ?_
            refine g_X1_110 (pc := 98) (v := .ref 4) rfl dX1_openPublished_98 (c_1 _) rfl ?_
            refine R_iload_n (pc := 101) dX1_openPublished_101 rfl rfl ?_
            have hx18 : vp_in (nI c) 20 := (vp_of_inR (show inR (nI c) 0 19 from inR_nI (M := 19) (by omega) (by decide)) (by decide))
            refine R_iaload (pc := 102) dX1_openPublished_102 (c_4 _) hx18 ?_
            refine k_X1_113 (pc := 103) (ge_X4_isFor_133 _ _ _ _ hI63 hrg63) rfl (c_133 _) (by decide) (Nat.le_refl _) (Nat.le_refl _) (Nat.le_of_ble_eq_true rfl) dX1_openPublished_103 (fun x w2 h => ?_)
            rcases h with ⟨rfl, ⟨hf19, rfl⟩ | ⟨hf19, rfl⟩⟩
            · skip
              refine R_ifeq (pc := 106) 139 dX1_openPublished_106 (by decide) (fun h => absurd h (by decide)) (fun _ => ?_)
              refine R_aload_n (pc := 109) dX1_openPublished_109 rfl rfl ?_
              refine g_X1_42 (pc := 110) (v := .ref 89) rfl dX1_openPublished_110 (c_58 _) rfl ?_
              refine R_iload_n (pc := 113) dX1_openPublished_113 rfl rfl ?_
              refine R_aload_n (pc := 114) dX1_openPublished_114 rfl rfl ?_
              refine g_X1_117 (pc := 115) (v := .ref 138) rfl dX1_openPublished_115 (c_133 _) rfl ?_
              refine R_iload (pc := 118) dX1_openPublished_118 rfl ?_
              have hx21 : vp_in (nI j63) 8 := (vp_in_nI (by omega) (by decide))
              refine R_iaload (pc := 120) dX1_openPublished_120 (c_138 _) hx21 ?_
              refine k_X1_120 (pc := 121) (ge_X7_notBefore_89 _ _ _ hI63 (show inR (nI c) 0 19 from inR_nI (M := 19) (by omega) (by decide))) rfl (c_89 _) (by decide) (Nat.le_refl _) (Nat.le_refl _) (Nat.le_of_ble_eq_true rfl) dX1_openPublished_121 (fun w2 h => ?_)
              obtain ⟨σx23, rfl, hV22, hW24, he25⟩ := h
              have hW28 := Cor.trans hC63 hW24
              rw [show Int32.toNatClampNeg (nI c) = c from nI_clamp (by omega)] at he25
              obtain ⟨v27, hO26, hO261, hO262, hO263⟩ := nb_op 90 8902 σ63 c (σ63.2.2.1 138 (Int32.toNatClampNeg (nI j63)))
              rw [← he25] at hO26
              have hs29 := hX63_0.tr (sm_op (Or.inl rfl) hO26)
              have hCh := hW28
              refine R_aload_n (pc := 124) dX1_openPublished_124 rfl rfl ?_
              refine g_X1_42 (pc := 125) (v := .ref 89) rfl dX1_openPublished_125 (c_58 _) rfl ?_
              refine R_iload_n (pc := 128) dX1_openPublished_128 rfl rfl ?_
              refine R_aload_n (pc := 129) dX1_openPublished_129 rfl rfl ?_
              refine g_X1_123 (pc := 130) (v := .ref 139) rfl dX1_openPublished_130 (c_133 _) rfl ?_
              refine R_iload (pc := 133) dX1_openPublished_133 rfl ?_
              have hx30 : vp_in (nI j63) 8 := (vp_in_nI (by omega) (by decide))
              refine R_iaload (pc := 135) dX1_openPublished_135 (c_139 _) hx30 ?_
              refine k_X1_93 (pc := 136) (ge_X7_notBehind_89 _ _ _ hV22 (show inR (nI c) 0 19 from inR_nI (M := 19) (by omega) (by decide))) rfl (c_89 _) (by decide) (Nat.le_refl _) (Nat.le_refl _) (Nat.le_of_ble_eq_true rfl) dX1_openPublished_136 (fun w2 h => ?_)
              obtain ⟨σx32, rfl, hV31, hW33, he34⟩ := h
              have hW37 := Cor.trans hW28 hW33
              rw [show Int32.toNatClampNeg (nI c) = c from nI_clamp (by omega)] at he34
              obtain ⟨v36, hO35, hO351, hO352, hO353⟩ := nh_op 91 8902 σx23 c (σx23.2.2.1 139 (Int32.toNatClampNeg (nI j63)))
              rw [← he34] at hO35
              have hs38 := hs29.tr (sm_op (Or.inr rfl) hO35)
              refine inc_5_4_1_i (pc := 139) dX1_openPublished_139 ?_
              have r39 : inR ((nI j63) + 1) 1 8 := inR_add (show inR (nI j63) 0 7 from hrg63) (show inR 1 1 1 from (inR_self _)) (by decide) (by decide)
              have e40 := ti_add (l := 1) (h := 8) (show inR (nI j63) 0 7 from hrg63) (show inR 1 1 1 from (inR_self _)) (by decide) (by decide)
              refine R_goto (pc := 142) 63 dX1_openPublished_142 (by decide) ?_
              rw [nI_1]
              exact ih63 (j63 + 1) _ (by omega) (by omega) hV31 hW37 hs38 (by have q := mx_s (P := IsI 133 σ c j63) (Q := IsI 133 σ c (j63 + 1)) hX63_1 (fun v => by have z2 := isI_t (p := 133) (σ := σ) ((lnF_ff (Or.inr (Or.inr rfl)) hC63).mp (lnf_t (p := 133) (σ := σ63) (by have q := b79_14; rw [nI_clamp (by omega)] at q; exact q) (by have q := hf19; rw [nI_clamp (by omega), nI_clamp (by omega)] at q; exact q))) v; rw [nI_clamp (by omega), congrFun (hC63.2.2.1 138 rfl) j63]; exact z2) hO261 hO262 hO263; rw [← hO26.2.2.2.1, ← congrFun (hO35.1 90 (by decide)) c] at q; exact q) (by have q := mn_s (P := IsJ 133 σ c j63) (Q := IsJ 133 σ c (j63 + 1)) hX63_2 (fun v => by have z2 := isJ_t (p := 133) (σ := σ) ((lnF_ff (Or.inr (Or.inr rfl)) hC63).mp (lnf_t (p := 133) (σ := σ63) (by have q := b79_14; rw [nI_clamp (by omega)] at q; exact q) (by have q := hf19; rw [nI_clamp (by omega), nI_clamp (by omega)] at q; exact q))) v; rw [nI_clamp (by omega), congrFun (hCh.2.2.1 139 rfl) j63]; exact z2) (by have r := hO351; rw [congrFun (hO26.1 91 (by decide)) c] at r; exact r) hO352 (by have r := hO353; rw [congrFun (hO26.1 91 (by decide)) c] at r; exact r); rw [← hO35.2.2.2.1] at q; exact q) (by have q := b69_12; rw [(hW37.1 13306 rfl)]; rw [(hC63.1 13306 rfl)] at q; exact nI_sle (by omega) q)
            · skip
              refine R_ifeq (pc := 106) 139 dX1_openPublished_106 (by decide) (fun _ => ?_) (fun h => absurd (by decide) h)
              refine inc_5_4_1_i (pc := 139) dX1_openPublished_139 ?_
              have r42 : inR ((nI j63) + 1) 1 8 := inR_add (show inR (nI j63) 0 7 from hrg63) (show inR 1 1 1 from (inR_self _)) (by decide) (by decide)
              have e43 := ti_add (l := 1) (h := 8) (show inR (nI j63) 0 7 from hrg63) (show inR 1 1 1 from (inR_self _)) (by decide) (by decide)
              refine R_goto (pc := 142) 63 dX1_openPublished_142 (by decide) ?_
              rw [nI_1]
              exact ih63 (j63 + 1) _ (by omega) (by omega) hI63 hC63 hX63_0 (mx_k hX63_1 (isI_f (fun e => (lnf_f (p := 133) (σ := σ63) (by have q := hf19; rw [nI_clamp (by omega), nI_clamp (by omega)] at q; exact q)) ((lnF_ff (Or.inr (Or.inr rfl)) hC63).mpr e)))) (mn_k hX63_2 (isJ_f (fun e => (lnf_f (p := 133) (σ := σ63) (by have q := hf19; rw [nI_clamp (by omega), nI_clamp (by omega)] at q; exact q)) ((lnF_ff (Or.inr (Or.inr rfl)) hC63).mpr e)))) (by have q := b69_12; rw [(hC63.1 13306 rfl)]; rw [(hC63.1 13306 rfl)] at q; exact nI_sle (by omega) q)
    exact HL63 8 0 _ (by omega) (by omega) hV4 hW8 hs0 (mx_0 ho1) (mn_0 ho2 hpo) (by rw [(hW8.1 13306 rfl)]; exact Int32.not_lt.mp (iv_13306 hI).1)
  · skip
    refine R_aload_n (pc := 43) dX1_openPublished_43 rfl rfl ?_
    refine g_X1_42 (pc := 44) (v := .ref 89) rfl dX1_openPublished_44 (c_58 _) rfl ?_
    refine R_iload_n (pc := 47) dX1_openPublished_47 rfl rfl ?_
    refine R_aload_n (pc := 48) dX1_openPublished_48 rfl rfl ?_
    refine g_X1_48 (pc := 49) (v := .ref 1) rfl dX1_openPublished_49 (c_58 _) rfl ?_
    refine g_X1_90 (pc := 52) (v := .ref 8) rfl dX1_openPublished_52 (c_1 _) rfl ?_
    refine R_iload_n (pc := 55) dX1_openPublished_55 rfl rfl ?_
    have hx44 : vp_in (nI c) 20 := (vp_of_inR (show inR (nI c) 0 19 from inR_nI (M := 19) (by omega) (by decide)) (by decide))
    refine R_iaload (pc := 56) dX1_openPublished_56 (c_8 _) hx44 ?_
    refine k_X1_93 (pc := 57) (ge_X7_notBehind_89 _ _ _ hV4 (show inR (nI c) 0 19 from inR_nI (M := 19) (by omega) (by decide))) rfl (c_89 _) (by decide) (Nat.le_refl _) (Nat.le_refl _) (Nat.le_of_ble_eq_true rfl) dX1_openPublished_57 (fun w2 h => ?_)
    obtain ⟨σx46, rfl, hV45, hW47, he48⟩ := h
    have hW51 := Cor.trans hW8 hW47
    rw [show Int32.toNatClampNeg (nI c) = c from nI_clamp (by omega)] at he48
    obtain ⟨v50, hO49, hO491, hO492, hO493⟩ := nh_op 91 8902 σx5 c (σx5.2.2.1 8 c)
    rw [← he48] at hO49
    have hs52 := hs0.tr (sm_op (Or.inr rfl) hO49)
    refine R_iconst (pc := 60) (v := 0) dX1_openPublished_60 (by decide) ?_
    refine st_5_4_i_i (pc := 61) dX1_openPublished_61 ?_
    have hpo : ¬ σ.2.2.1 8 c = -1 := by have q := b40_10; rw [nI_clamp (by omega)] at q; exact fun e => q ((congrFun (hcx8) c).trans e)
    have HL63 : ∀ (q j63 : Nat) (σ63 : Sg), j63 + q = 8 → 0 ≤ j63 → Inv σ63 → Cor σ σ63 → SmP σ σ63 c → Mx (IsI 133 σ c j63) (σ63.2.2.1 90 c).toInt → Mn (IsJ 133 σ c j63) (σ63.2.2.1 91 c).toInt → nI j63 ≤ σ63.1 13306 → R G l yX1_openPublished cX1_openPublished 5 none 2 0 0 (QV (fun w2 => ∃ σ2, w2 = WW σ2 ∧ Inv σ2 ∧ Cor σ σ2 ∧ SmP σ σ2 c ∧ Mx (IsI 133 σ c (σ.1 13306).toNatClampNeg) (σ2.2.2.1 90 c).toInt ∧ Mn (IsJ 133 σ c (σ.1 13306).toNatClampNeg) (σ2.2.2.1 91 c).toInt)) 63 [(some (.ref 58)), (some (.int (nI c))), (some (.ref 133)), (some (.int (σ.2.2.1 5 c))), (some (.int (nI j63)))] [] (WW σ63) 0 0 := by
      intro q
      induction q with
      | zero =>
        intro j63 σ63 hj hs63 hI63 hC63 hX63_0 hX63_1 hX63_2 hX63_3
        obtain rfl : j63 = 8 := by omega
        refine R_iload (pc := 63) dX1_openPublished_63 rfl ?_
        refine R_aload_n (pc := 65) dX1_openPublished_65 rfl rfl ?_
        refine g_X1_97 (pc := 66) (v := .int (σ63.1 13306)) rfl dX1_openPublished_66 (c_133 _) rfl ?_
        refine R_icge (pc := 69) 145 dX1_openPublished_69 (by decide) (fun _ => ?_) (fun h => absurd (Int32.not_lt.mp (inR_up (iv_13306 hI63) (Int32.le_refl _) (by decide)).2) h)
        exact R_vret (pc := 145) dX1_openPublished_145 rfl (Nat.zero_le _) (Nat.zero_le _) ⟨rfl, _, rfl, hI63, hC63, hX63_0, (by rw [show (σ.1 13306).toNatClampNeg = 8 from (by have q := (Int32.le_antisymm hX63_3 (Int32.not_lt.mp (iv_13306 hI63).2)); rw [(hC63.1 13306 rfl)] at q; rw [← q, nI_clamp (by omega)])]; exact hX63_1), (by rw [show (σ.1 13306).toNatClampNeg = 8 from (by have q := (Int32.le_antisymm hX63_3 (Int32.not_lt.mp (iv_13306 hI63).2)); rw [(hC63.1 13306 rfl)] at q; rw [← q, nI_clamp (by omega)])]; exact hX63_2)⟩
      | succ q ih63 =>
        intro j63 σ63 hj hs63 hI63 hC63 hX63_0 hX63_1 hX63_2 hX63_3
        have hrg63 : inR (nI j63) 0 7 := inR_ix hs63 (show j63 < 8 by omega) (by decide) (by decide) (by decide)
        have hlt63 : j63 < 8 := by omega
        refine R_iload (pc := 63) dX1_openPublished_63 rfl ?_
        refine R_aload_n (pc := 65) dX1_openPublished_65 rfl rfl ?_
        refine g_X1_97 (pc := 66) (v := .int (σ63.1 13306)) rfl dX1_openPublished_66 (c_133 _) rfl ?_
        refine R_icge (pc := 69) 145 dX1_openPublished_69 (by decide) (fun b69_54 => ?_) (fun b69_54 => ?_)
        · skip
          exact R_vret (pc := 145) dX1_openPublished_145 rfl (Nat.zero_le _) (Nat.zero_le _) ⟨rfl, _, rfl, hI63, hC63, hX63_0, (by rw [show (σ.1 13306).toNatClampNeg = j63 from (by have q := (Int32.le_antisymm hX63_3 b69_54); rw [(hC63.1 13306 rfl)] at q; rw [← q, nI_clamp (by omega)])]; exact hX63_1), (by rw [show (σ.1 13306).toNatClampNeg = j63 from (by have q := (Int32.le_antisymm hX63_3 b69_54); rw [(hC63.1 13306 rfl)] at q; rw [← q, nI_clamp (by omega)])]; exact hX63_2)⟩
        · skip
          refine R_aload_n (pc := 72) dX1_openPublished_72 rfl rfl ?_
          refine g_X1_103 (pc := 73) (v := .ref 137) rfl dX1_openPublished_73 (c_133 _) rfl ?_
          refine R_iload (pc := 76) dX1_openPublished_76 rfl ?_
          have hx55 : vp_in (nI j63) 8 := (vp_in_nI (by omega) (by decide))
          refine R_baload (pc := 78) dX1_openPublished_78 (c_137 _) hx55 ?_
          refine R_ifeq (pc := 79) 139 dX1_openPublished_79 (by decide) (fun b79_56 => ?_) (fun b79_56 => ?_)
          · skip
            refine inc_5_4_1_i (pc := 139) dX1_openPublished_139 ?_
            have r57 : inR ((nI j63) + 1) 1 8 := inR_add (show inR (nI j63) 0 7 from hrg63) (show inR 1 1 1 from (inR_self _)) (by decide) (by decide)
            have e58 := ti_add (l := 1) (h := 8) (show inR (nI j63) 0 7 from hrg63) (show inR 1 1 1 from (inR_self _)) (by decide) (by decide)
            refine R_goto (pc := 142) 63 dX1_openPublished_142 (by decide) ?_
            rw [nI_1]
            exact ih63 (j63 + 1) _ (by omega) (by omega) hI63 hC63 hX63_0 (mx_k hX63_1 (isI_f (fun e => (fun e => e.1 (by have q := b79_56; rw [nI_clamp (by omega)] at q; exact q)) ((lnF_ff (Or.inr (Or.inr rfl)) hC63).mpr e)))) (mn_k hX63_2 (isJ_f (fun e => (fun e => e.1 (by have q := b79_56; rw [nI_clamp (by omega)] at q; exact q)) ((lnF_ff (Or.inr (Or.inr rfl)) hC63).mpr e)))) (by have q := b69_54; rw [(hC63.1 13306 rfl)]; rw [(hC63.1 13306 rfl)] at q; exact nI_sle (by omega) q)
          · skip
            refine R_aload_n (pc := 82) dX1_openPublished_82 rfl rfl ?_
            refine R_iload (pc := 83) dX1_openPublished_83 rfl ?_
            refine R_aload_n (pc := 85) dX1_openPublished_85 rfl rfl ?_
            refine g_X1_48 (pc := 86) (v := .ref 1) rfl dX1_openPublished_86 (c_58 _) rfl ?_
            refine g_X1_107 (pc := 89) (v := .ref 3) rfl dX1_openPublished_89 (c_1 _) rfl ?_
            refine R_iload_n (pc := 92) dX1_openPublished_92 rfl rfl ?_
            have hx59 : vp_in (nI c) 20 := (vp_of_inR (show inR (nI c) 0 19 from inR_nI (M := 19) (by omega) (by decide)) (by decide))
            refine R_iaload (pc := 93) dX1_openPublished_93 (c_3 _) hx59 ?_
            refine R_aload_n (pc := 94) dX1_openPublished_94 rfl rfl ?_
            refine g_X1_48 (pc := 95) (v := .ref 1) rfl dX1_openPublished_95 (c_58 _) rfl ?_
            refine g_X1_110 (pc := 98) (v := .ref 4) rfl dX1_openPublished_98 (c_1 _) rfl ?_
            refine R_iload_n (pc := 101) dX1_openPublished_101 rfl rfl ?_
            have hx60 : vp_in (nI c) 20 := (vp_of_inR (show inR (nI c) 0 19 from inR_nI (M := 19) (by omega) (by decide)) (by decide))
            refine R_iaload (pc := 102) dX1_openPublished_102 (c_4 _) hx60 ?_
            refine k_X1_113 (pc := 103) (ge_X4_isFor_133 _ _ _ _ hI63 hrg63) rfl (c_133 _) (by decide) (Nat.le_refl _) (Nat.le_refl _) (Nat.le_of_ble_eq_true rfl) dX1_openPublished_103 (fun x w2 h => ?_)
            rcases h with ⟨rfl, ⟨hf61, rfl⟩ | ⟨hf61, rfl⟩⟩
            · skip
              refine R_ifeq (pc := 106) 139 dX1_openPublished_106 (by decide) (fun h => absurd h (by decide)) (fun _ => ?_)
              refine R_aload_n (pc := 109) dX1_openPublished_109 rfl rfl ?_
              refine g_X1_42 (pc := 110) (v := .ref 89) rfl dX1_openPublished_110 (c_58 _) rfl ?_
              refine R_iload_n (pc := 113) dX1_openPublished_113 rfl rfl ?_
              refine R_aload_n (pc := 114) dX1_openPublished_114 rfl rfl ?_
              refine g_X1_117 (pc := 115) (v := .ref 138) rfl dX1_openPublished_115 (c_133 _) rfl ?_
              refine R_iload (pc := 118) dX1_openPublished_118 rfl ?_
              have hx63 : vp_in (nI j63) 8 := (vp_in_nI (by omega) (by decide))
              refine R_iaload (pc := 120) dX1_openPublished_120 (c_138 _) hx63 ?_
              refine k_X1_120 (pc := 121) (ge_X7_notBefore_89 _ _ _ hI63 (show inR (nI c) 0 19 from inR_nI (M := 19) (by omega) (by decide))) rfl (c_89 _) (by decide) (Nat.le_refl _) (Nat.le_refl _) (Nat.le_of_ble_eq_true rfl) dX1_openPublished_121 (fun w2 h => ?_)
              obtain ⟨σx65, rfl, hV64, hW66, he67⟩ := h
              have hW70 := Cor.trans hC63 hW66
              rw [show Int32.toNatClampNeg (nI c) = c from nI_clamp (by omega)] at he67
              obtain ⟨v69, hO68, hO681, hO682, hO683⟩ := nb_op 90 8902 σ63 c (σ63.2.2.1 138 (Int32.toNatClampNeg (nI j63)))
              rw [← he67] at hO68
              have hs71 := hX63_0.tr (sm_op (Or.inl rfl) hO68)
              have hCh := hW70
              refine R_aload_n (pc := 124) dX1_openPublished_124 rfl rfl ?_
              refine g_X1_42 (pc := 125) (v := .ref 89) rfl dX1_openPublished_125 (c_58 _) rfl ?_
              refine R_iload_n (pc := 128) dX1_openPublished_128 rfl rfl ?_
              refine R_aload_n (pc := 129) dX1_openPublished_129 rfl rfl ?_
              refine g_X1_123 (pc := 130) (v := .ref 139) rfl dX1_openPublished_130 (c_133 _) rfl ?_
              refine R_iload (pc := 133) dX1_openPublished_133 rfl ?_
              have hx72 : vp_in (nI j63) 8 := (vp_in_nI (by omega) (by decide))
              refine R_iaload (pc := 135) dX1_openPublished_135 (c_139 _) hx72 ?_
              refine k_X1_93 (pc := 136) (ge_X7_notBehind_89 _ _ _ hV64 (show inR (nI c) 0 19 from inR_nI (M := 19) (by omega) (by decide))) rfl (c_89 _) (by decide) (Nat.le_refl _) (Nat.le_refl _) (Nat.le_of_ble_eq_true rfl) dX1_openPublished_136 (fun w2 h => ?_)
              obtain ⟨σx74, rfl, hV73, hW75, he76⟩ := h
              have hW79 := Cor.trans hW70 hW75
              rw [show Int32.toNatClampNeg (nI c) = c from nI_clamp (by omega)] at he76
              obtain ⟨v78, hO77, hO771, hO772, hO773⟩ := nh_op 91 8902 σx65 c (σx65.2.2.1 139 (Int32.toNatClampNeg (nI j63)))
              rw [← he76] at hO77
              have hs80 := hs71.tr (sm_op (Or.inr rfl) hO77)
              refine inc_5_4_1_i (pc := 139) dX1_openPublished_139 ?_
              have r81 : inR ((nI j63) + 1) 1 8 := inR_add (show inR (nI j63) 0 7 from hrg63) (show inR 1 1 1 from (inR_self _)) (by decide) (by decide)
              have e82 := ti_add (l := 1) (h := 8) (show inR (nI j63) 0 7 from hrg63) (show inR 1 1 1 from (inR_self _)) (by decide) (by decide)
              refine R_goto (pc := 142) 63 dX1_openPublished_142 (by decide) ?_
              rw [nI_1]
              exact ih63 (j63 + 1) _ (by omega) (by omega) hV73 hW79 hs80 (by have q := mx_s (P := IsI 133 σ c j63) (Q := IsI 133 σ c (j63 + 1)) hX63_1 (fun v => by have z2 := isI_t (p := 133) (σ := σ) ((lnF_ff (Or.inr (Or.inr rfl)) hC63).mp (lnf_t (p := 133) (σ := σ63) (by have q := b79_56; rw [nI_clamp (by omega)] at q; exact q) (by have q := hf61; rw [nI_clamp (by omega), nI_clamp (by omega)] at q; exact q))) v; rw [nI_clamp (by omega), congrFun (hC63.2.2.1 138 rfl) j63]; exact z2) hO681 hO682 hO683; rw [← hO68.2.2.2.1, ← congrFun (hO77.1 90 (by decide)) c] at q; exact q) (by have q := mn_s (P := IsJ 133 σ c j63) (Q := IsJ 133 σ c (j63 + 1)) hX63_2 (fun v => by have z2 := isJ_t (p := 133) (σ := σ) ((lnF_ff (Or.inr (Or.inr rfl)) hC63).mp (lnf_t (p := 133) (σ := σ63) (by have q := b79_56; rw [nI_clamp (by omega)] at q; exact q) (by have q := hf61; rw [nI_clamp (by omega), nI_clamp (by omega)] at q; exact q))) v; rw [nI_clamp (by omega), congrFun (hCh.2.2.1 139 rfl) j63]; exact z2) (by have r := hO771; rw [congrFun (hO68.1 91 (by decide)) c] at r; exact r) hO772 (by have r := hO773; rw [congrFun (hO68.1 91 (by decide)) c] at r; exact r); rw [← hO77.2.2.2.1] at q; exact q) (by have q := b69_54; rw [(hW79.1 13306 rfl)]; rw [(hC63.1 13306 rfl)] at q; exact nI_sle (by omega) q)
            · skip
              refine R_ifeq (pc := 106) 139 dX1_openPublished_106 (by decide) (fun _ => ?_) (fun h => absurd (by decide) h)
              refine inc_5_4_1_i (pc := 139) dX1_openPublished_139 ?_
              have r84 : inR ((nI j63) + 1) 1 8 := inR_add (show inR (nI j63) 0 7 from hrg63) (show inR 1 1 1 from (inR_self _)) (by decide) (by decide)
              have e85 := ti_add (l := 1) (h := 8) (show inR (nI j63) 0 7 from hrg63) (show inR 1 1 1 from (inR_self _)) (by decide) (by decide)
              refine R_goto (pc := 142) 63 dX1_openPublished_142 (by decide) ?_
              rw [nI_1]
              exact ih63 (j63 + 1) _ (by omega) (by omega) hI63 hC63 hX63_0 (mx_k hX63_1 (isI_f (fun e => (lnf_f (p := 133) (σ := σ63) (by have q := hf61; rw [nI_clamp (by omega), nI_clamp (by omega)] at q; exact q)) ((lnF_ff (Or.inr (Or.inr rfl)) hC63).mpr e)))) (mn_k hX63_2 (isJ_f (fun e => (lnf_f (p := 133) (σ := σ63) (by have q := hf61; rw [nI_clamp (by omega), nI_clamp (by omega)] at q; exact q)) ((lnF_ff (Or.inr (Or.inr rfl)) hC63).mpr e)))) (by have q := b69_54; rw [(hC63.1 13306 rfl)]; rw [(hC63.1 13306 rfl)] at q; exact nI_sle (by omega) q)
    exact HL63 8 0 _ (by omega) (by omega) hV45 hW51 hs52 (mx_0 ((congrArg Int32.toInt (congrFun (hO49.1 90 (by decide)) c)).trans ho1)) (by have q := mn_1 (p := 133) ho2 hpo (by rw [hcx8]) hO491 hO492 hO493; rw [← hO49.2.2.2.1] at q; exact q) (by rw [(hW51.1 13306 rfl)]; exact Int32.not_lt.mp (iv_13306 hI).1)
