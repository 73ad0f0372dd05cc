/-! methods on any state that keeps the invariant -/
/-! what the answers of quarrel and span say -/
def BL (D : Dt) : Prop := Bad D ∨ Lng D
def spV (X : Xs) (s w : Int32) (g c : Nat) : Int := if s = 0 then (if w = 0 then xf X g else xt X g) else (if w = 0 then yf X c else yt X c)
def SpA (D : Dt) (t : Bool) (s w : Int32) (c : Nat) (x : Int32) (B : Prop) : Prop := (t = false ∧ x = -2) ∨ (t = true ∧ (inB s 0 1 && inB w 0 1) = false ∧ x = -3) ∨ (t = true ∧ (inB s 0 1 && inB w 0 1) = true ∧ (B ∧ x = -1 ∨ ∃ X, Good D X ∧ x.toInt = spV X s w (dg D c) c))
theorem bl_no {D : Dt} {X : Xs} (h20 : ∀ c, dA D c = true → c < 20) (h : Good D X) (k : BL D) : False := k.elim (fun q => good_bad h q) (fun q => lng_no h20 h q)
theorem spa_eq {D : Dt} {t : Bool} {s w x y : Int32} {c : Nat} (h20 : ∀ c, dA D c = true → c < 20) (hc : t = true → dA D c = true) (h : SpA D t s w c x (BL D)) (k : SpA D t s w c y (Bad D)) : x = y := by
  rcases h with ⟨a, rfl⟩ | ⟨a, b, rfl⟩ | ⟨a, b, h⟩
  · rcases k with ⟨-, rfl⟩ | ⟨e, -⟩ | ⟨e, -⟩
    · rfl
    · rw [a] at e; cases e
    · rw [a] at e; cases e
  · rcases k with ⟨e, -⟩ | ⟨-, -, rfl⟩ | ⟨-, e, -⟩
    · rw [a] at e; cases e
    · rfl
    · rw [b] at e; cases e
  · rcases k with ⟨e, -⟩ | ⟨-, e, -⟩ | ⟨-, -, k⟩
    · rw [a] at e; cases e
    · rw [b] at e; cases e
    · rcases h with ⟨hB, rfl⟩ | ⟨X, hX, hx⟩
      · rcases k with ⟨-, rfl⟩ | ⟨Y, hY, -⟩
        · rfl
        · exact (bl_no h20 hY hB).elim
      · rcases k with ⟨hB, -⟩ | ⟨Y, hY, hy⟩
        · exact (good_bad hX hB).elim
        · have q := good_eq hX hY (hc a)
          apply Int32.toInt_inj.mp
          rw [hx, hy]
          unfold spV
          rw [q.1, q.2.1, q.2.2.1, q.2.2.2]
set_option maxRecDepth 100000 in
set_option maxHeartbeats 40000000 in
theorem gq_X8_span {G : vG} {l : Launch} (σ : Sg) (D : Dt) (c s w : Int32) (hI : Inv σ) (hS : Sym (RC0 σ) (tb (thI σ))) (hD : DtC D (thI σ) σ.2.2.2.2.1 σ) : Sp G l yX8_span cX8_span 5 (some .int) 6 0 0 [.ref 0, .int c, .int s, .int w] (WW σ) (QI (fun x w2 => SpA D (thC σ c) s w (Int32.toNatClampNeg c) x (BL D) ∧ ∃ σ2, w2 = WW σ2 ∧ Inv σ2 ∧ Cor σ σ2)) := by
  refine Sp_of_R [(some (.ref 0)), (some (.int c)), (some (.int s)), (some (.int w)), none] [none] rfl (by simp) rfl (Nat.le_of_ble_eq_true rfl) ?_
  refine R_aload_n (pc := 0) dX8_span_0 rfl rfl ?_
  refine g_X8_10 (pc := 1) (v := .ref 1) rfl dX8_span_1 (c_0 _) rfl ?_
  refine R_iload_n (pc := 4) dX8_span_4 rfl rfl ?_
  refine k_X8_90 (pc := 5) (ge_X0_isThere _ _ hI) rfl (c_1 _) (by decide) (Nat.le_refl _) (Nat.le_refl _) (Nat.le_of_ble_eq_true rfl) dX8_span_5 (fun x w2 h => ?_)
  rcases h with ⟨rfl, ⟨h1, rfl⟩ | ⟨h1, rfl⟩⟩
  · skip
    refine R_ifne (pc := 8) 14 dX8_span_8 (by decide) (fun _ => ?_) (fun h => absurd h (by decide))
    refine R_iload_n (pc := 14) dX8_span_14 rfl rfl ?_
    refine R_iconst (pc := 15) (v := 0) dX8_span_15 (by decide) ?_
    refine R_iconst (pc := 16) (v := 1) dX8_span_16 (by decide) ?_
    refine k_X8_72 (pc := 17) (sp_X8_isWithin _ _ _ _) rfl (by decide) (Nat.le_refl _) (Nat.le_refl _) (Nat.le_of_ble_eq_true rfl) dX8_span_17 (fun x w2 h => ?_)
    rcases h with ⟨rfl, ⟨h3, rfl⟩ | ⟨h3, rfl⟩⟩
    · skip
      refine R_ifeq (pc := 20) 32 dX8_span_20 (by decide) (fun h => absurd h (by decide)) (fun _ => ?_)
      refine R_iload_n (pc := 23) dX8_span_23 rfl rfl ?_
      refine R_iconst (pc := 24) (v := 0) dX8_span_24 (by decide) ?_
      refine R_iconst (pc := 25) (v := 1) dX8_span_25 (by decide) ?_
      refine k_X8_72 (pc := 26) (sp_X8_isWithin _ _ _ _) rfl (by decide) (Nat.le_refl _) (Nat.le_refl _) (Nat.le_of_ble_eq_true rfl) dX8_span_26 (fun x w2 h => ?_)
      rcases h with ⟨rfl, ⟨h5, rfl⟩ | ⟨h5, rfl⟩⟩
      · skip
        refine R_ifne (pc := 29) 35 dX8_span_29 (by decide) (fun _ => ?_) (fun h => absurd h (by decide))
        refine R_aload_n (pc := 35) dX8_span_35 rfl rfl ?_
        refine g_X8_37 (pc := 36) (v := .ref 58) rfl dX8_span_36 (c_0 _) rfl ?_
        refine R_aload_n (pc := 39) dX8_span_39 rfl rfl ?_
        refine g_X8_10 (pc := 40) (v := .ref 1) rfl dX8_span_40 (c_0 _) rfl ?_
        refine k_X8_126 (pc := 43) (ge_X0_there _ hI) rfl (c_1 _) (by decide) (Nat.le_refl _) (Nat.le_refl _) (Nat.le_of_ble_eq_true rfl) dX8_span_43 (fun x w2 h => ?_)
        obtain ⟨rfl, rfl⟩ := h
        refine R_aload_n (pc := 46) dX8_span_46 rfl rfl ?_
        rcases iv_ln hI with ⟨hl7, hl7d⟩ | ⟨hl7, hl7d⟩
        · skip
          refine g_X8_62 (pc := 47) (v := .ref 126) rfl dX8_span_47 (c_0 _) (by show some (Value.ref σ.2.2.2.2.1) = _; rw [hl7]) ?_
          refine k_X8_242 (pc := 50) (gd_X1_settle_126 _ D (thI σ) hI (thI_in σ) hS (by have q := hD; rw [hl7] at q; exact q)) rfl (c_58 _) (by decide) (Nat.le_refl _) (Nat.le_refl _) (Nat.le_of_ble_eq_true rfl) dX8_span_50 (fun x w2 h => ?_)
          obtain ⟨σx9, rfl, hV8, hW10, hld, hres⟩ := h
          have hW11 := Cor.trans (show Cor σ σ from Cor.rfl' σ) hW10
          rcases hres with ⟨rfl, hG⟩ | ⟨rfl, hBL⟩
          · skip
            refine R_ifne (pc := 53) 58 dX8_span_53 (by decide) (fun _ => ?_) (fun h => absurd h (by decide))
            refine R_iload_n (pc := 58) dX8_span_58 rfl rfl ?_
            refine R_ifne (pc := 59) 107 dX8_span_59 (by decide) (fun b59_13 => ?_) (fun b59_13 => ?_)
            · skip
              refine R_iload_n (pc := 107) dX8_span_107 rfl rfl ?_
              refine R_ifne (pc := 108) 126 dX8_span_108 (by decide) (fun b108_14 => ?_) (fun b108_14 => ?_)
              · skip
                refine R_aload_n (pc := 126) dX8_span_126 rfl rfl ?_
                refine g_X8_37 (pc := 127) (v := .ref 58) rfl dX8_span_127 (c_0 _) rfl ?_
                refine g_X8_261 (pc := 130) (v := .ref 89) rfl dX8_span_130 (c_58 _) rfl ?_
                refine g_X8_258 (pc := 133) (v := .ref 91) rfl dX8_span_133 (c_89 _) rfl ?_
                refine R_iload_n (pc := 136) dX8_span_136 rfl rfl ?_
                have hx15 : vp_in c 20 := (vp_of_inR (thC_r hI h1) (by decide))
                refine R_iaload (pc := 137) dX8_span_137 (c_91 _) hx15 ?_
                exact R_iret (pc := 138) dX8_span_138 rfl rfl (Nat.zero_le _) (Nat.zero_le _) ⟨_, rfl, Or.inr (Or.inr ⟨h1, (by rw [inB_t h3, inB_t h5]; rfl), Or.inr ⟨_, hG, (by unfold spV; rw [if_neg b59_13, if_neg b108_14]; show (σx9.2.2.1 91 (Int32.toNatClampNeg c)).toInt = _; rfl)⟩⟩), _, rfl, hV8, hW11⟩
              · skip
                refine R_aload_n (pc := 111) dX8_span_111 rfl rfl ?_
                refine g_X8_37 (pc := 112) (v := .ref 58) rfl dX8_span_112 (c_0 _) rfl ?_
                refine g_X8_261 (pc := 115) (v := .ref 89) rfl dX8_span_115 (c_58 _) rfl ?_
                refine g_X8_253 (pc := 118) (v := .ref 90) rfl dX8_span_118 (c_89 _) rfl ?_
                refine R_iload_n (pc := 121) dX8_span_121 rfl rfl ?_
                have hx16 : vp_in c 20 := (vp_of_inR (thC_r hI h1) (by decide))
                refine R_iaload (pc := 122) dX8_span_122 (c_90 _) hx16 ?_
                refine R_goto (pc := 123) 138 dX8_span_123 (by decide) ?_
                exact R_iret (pc := 138) dX8_span_138 rfl rfl (Nat.zero_le _) (Nat.zero_le _) ⟨_, rfl, Or.inr (Or.inr ⟨h1, (by rw [inB_t h3, inB_t h5]; rfl), Or.inr ⟨_, hG, (by unfold spV; rw [if_neg b59_13, if_pos b108_14]; show (σx9.2.2.1 90 (Int32.toNatClampNeg c)).toInt = _; rfl)⟩⟩), _, rfl, hV8, hW11⟩
            · skip
              refine R_aload_n (pc := 62) dX8_span_62 rfl rfl ?_
              refine g_X8_37 (pc := 63) (v := .ref 58) rfl dX8_span_63 (c_0 _) rfl ?_
              refine g_X8_246 (pc := 66) (v := .ref 92) rfl dX8_span_66 (c_58 _) rfl ?_
              refine R_iload_n (pc := 69) dX8_span_69 rfl rfl ?_
              have hx17 : vp_in c 20 := (vp_of_inR (thC_r hI h1) (by decide))
              refine R_iaload (pc := 70) dX8_span_70 (c_92 _) hx17 ?_
              have hdA : dA D (Int32.toNatClampNeg c) = true := (hD.1 (Int32.toNatClampNeg c)).trans (thI_c hI h1)
              have hc20 := clamp19 (thC_r hI h1)
              have hdg : dg D (Int32.toNatClampNeg c) < 20 := by rw [hD.2.1 (Int32.toNatClampNeg c) hdA]; have q := (lab_p (R := RC0 σ) (A := tb (thI σ)) hc20).2.1; omega
              refine R_cv (nI (dg D (Int32.toNatClampNeg c))) (hld (Int32.toNatClampNeg c) hdA) ?_
              refine st_5_4_i_i (pc := 71) dX8_span_71 ?_
              refine R_iload_n (pc := 73) dX8_span_73 rfl rfl ?_
              refine R_ifne (pc := 74) 93 dX8_span_74 (by decide) (fun b74_18 => ?_) (fun b74_18 => ?_)
              · skip
                refine R_aload_n (pc := 93) dX8_span_93 rfl rfl ?_
                refine g_X8_37 (pc := 94) (v := .ref 58) rfl dX8_span_94 (c_0 _) rfl ?_
                refine g_X8_249 (pc := 97) (v := .ref 86) rfl dX8_span_97 (c_58 _) rfl ?_
                refine g_X8_258 (pc := 100) (v := .ref 88) rfl dX8_span_100 (c_86 _) rfl ?_
                refine R_iload (pc := 103) dX8_span_103 rfl ?_
                have hx19 : vp_in (nI (dg D (Int32.toNatClampNeg c))) 20 := (vp_of_inR (show inR (nI (dg D (Int32.toNatClampNeg c))) 0 19 from inR_nI (M := 19) (Nat.le_of_lt_succ hdg) (by decide)) (by decide))
                refine R_iaload (pc := 105) dX8_span_105 (c_88 _) hx19 ?_
                exact R_iret (pc := 106) dX8_span_106 rfl rfl (Nat.zero_le _) (Nat.zero_le _) ⟨_, rfl, Or.inr (Or.inr ⟨h1, (by rw [inB_t h3, inB_t h5]; rfl), Or.inr ⟨_, hG, (by unfold spV; rw [if_pos b59_13, if_neg b74_18]; show (σx9.2.2.1 88 (Int32.toNatClampNeg (nI (dg D (Int32.toNatClampNeg c))))).toInt = _; rw [nI_clamp (by have q := hdg; omega)]; rfl)⟩⟩), _, rfl, hV8, hW11⟩
              · skip
                refine R_aload_n (pc := 77) dX8_span_77 rfl rfl ?_
                refine g_X8_37 (pc := 78) (v := .ref 58) rfl dX8_span_78 (c_0 _) rfl ?_
                refine g_X8_249 (pc := 81) (v := .ref 86) rfl dX8_span_81 (c_58 _) rfl ?_
                refine g_X8_253 (pc := 84) (v := .ref 87) rfl dX8_span_84 (c_86 _) rfl ?_
                refine R_iload (pc := 87) dX8_span_87 rfl ?_
                have hx20 : vp_in (nI (dg D (Int32.toNatClampNeg c))) 20 := (vp_of_inR (show inR (nI (dg D (Int32.toNatClampNeg c))) 0 19 from inR_nI (M := 19) (Nat.le_of_lt_succ hdg) (by decide)) (by decide))
                refine R_iaload (pc := 89) dX8_span_89 (c_87 _) hx20 ?_
                refine R_goto (pc := 90) 106 dX8_span_90 (by decide) ?_
                exact R_iret (pc := 106) dX8_span_106 rfl rfl (Nat.zero_le _) (Nat.zero_le _) ⟨_, rfl, Or.inr (Or.inr ⟨h1, (by rw [inB_t h3, inB_t h5]; rfl), Or.inr ⟨_, hG, (by unfold spV; rw [if_pos b59_13, if_pos b74_18]; show (σx9.2.2.1 87 (Int32.toNatClampNeg (nI (dg D (Int32.toNatClampNeg c))))).toInt = _; rw [nI_clamp (by have q := hdg; omega)]; rfl)⟩⟩), _, rfl, hV8, hW11⟩
          · skip
            refine R_ifne (pc := 53) 58 dX8_span_53 (by decide) (fun h => absurd (by decide) h) (fun _ => ?_)
            refine R_iconst (pc := 56) (v := (-1)) dX8_span_56 (by decide) ?_
            exact R_iret (pc := 57) dX8_span_57 rfl rfl (Nat.zero_le _) (Nat.zero_le _) ⟨_, rfl, Or.inr (Or.inr ⟨h1, (by rw [inB_t h3, inB_t h5]; rfl), Or.inl ⟨hBL, rfl⟩⟩), _, rfl, hV8, hW11⟩
        · skip
          refine g_X8_62 (pc := 47) (v := .ref 133) rfl dX8_span_47 (c_0 _) (by show some (Value.ref σ.2.2.2.2.1) = _; rw [hl7]) ?_
          refine k_X8_242 (pc := 50) (gd_X1_settle_133 _ D (thI σ) hI (thI_in σ) hS (by have q := hD; rw [hl7] at q; exact q)) rfl (c_58 _) (by decide) (Nat.le_refl _) (Nat.le_refl _) (Nat.le_of_ble_eq_true rfl) dX8_span_50 (fun x w2 h => ?_)
          obtain ⟨σx23, rfl, hV22, hW24, hld, hres⟩ := h
          have hW25 := Cor.trans (show Cor σ σ from Cor.rfl' σ) hW24
          rcases hres with ⟨rfl, hG⟩ | ⟨rfl, hBL⟩
          · skip
            refine R_ifne (pc := 53) 58 dX8_span_53 (by decide) (fun _ => ?_) (fun h => absurd h (by decide))
            refine R_iload_n (pc := 58) dX8_span_58 rfl rfl ?_
            refine R_ifne (pc := 59) 107 dX8_span_59 (by decide) (fun b59_27 => ?_) (fun b59_27 => ?_)
            · skip
              refine R_iload_n (pc := 107) dX8_span_107 rfl rfl ?_
              refine R_ifne (pc := 108) 126 dX8_span_108 (by decide) (fun b108_28 => ?_) (fun b108_28 => ?_)
              · skip
                refine R_aload_n (pc := 126) dX8_span_126 rfl rfl ?_
                refine g_X8_37 (pc := 127) (v := .ref 58) rfl dX8_span_127 (c_0 _) rfl ?_
                refine g_X8_261 (pc := 130) (v := .ref 89) rfl dX8_span_130 (c_58 _) rfl ?_
                refine g_X8_258 (pc := 133) (v := .ref 91) rfl dX8_span_133 (c_89 _) rfl ?_
                refine R_iload_n (pc := 136) dX8_span_136 rfl rfl ?_
                have hx29 : vp_in c 20 := (vp_of_inR (thC_r hI h1) (by decide))
                refine R_iaload (pc := 137) dX8_span_137 (c_91 _) hx29 ?_
                exact R_iret (pc := 138) dX8_span_138 rfl rfl (Nat.zero_le _) (Nat.zero_le _) ⟨_, rfl, Or.inr (Or.inr ⟨h1, (by rw [inB_t h3, inB_t h5]; rfl), Or.inr ⟨_, hG, (by unfold spV; rw [if_neg b59_27, if_neg b108_28]; show (σx23.2.2.1 91 (Int32.toNatClampNeg c)).toInt = _; rfl)⟩⟩), _, rfl, hV22, hW25⟩
              · skip
                refine R_aload_n (pc := 111) dX8_span_111 rfl rfl ?_
                refine g_X8_37 (pc := 112) (v := .ref 58) rfl dX8_span_112 (c_0 _) rfl ?_
                refine g_X8_261 (pc := 115) (v := .ref 89) rfl dX8_span_115 (c_58 _) rfl ?_
                refine g_X8_253 (pc := 118) (v := .ref 90) rfl dX8_span_118 (c_89 _) rfl ?_
                refine R_iload_n (pc := 121) dX8_span_121 rfl rfl ?_
                have hx30 : vp_in c 20 := (vp_of_inR (thC_r hI h1) (by decide))
                refine R_iaload (pc := 122) dX8_span_122 (c_90 _) hx30 ?_
                refine R_goto (pc := 123) 138 dX8_span_123 (by decide) ?_
                exact R_iret (pc := 138) dX8_span_138 rfl rfl (Nat.zero_le _) (Nat.zero_le _) ⟨_, rfl, Or.inr (Or.inr ⟨h1, (by rw [inB_t h3, inB_t h5]; rfl), Or.inr ⟨_, hG, (by unfold spV; rw [if_neg b59_27, if_pos b108_28]; show (σx23.2.2.1 90 (Int32.toNatClampNeg c)).toInt = _; rfl)⟩⟩), _, rfl, hV22, hW25⟩
            · skip
              refine R_aload_n (pc := 62) dX8_span_62 rfl rfl ?_
              refine g_X8_37 (pc := 63) (v := .ref 58) rfl dX8_span_63 (c_0 _) rfl ?_
              refine g_X8_246 (pc := 66) (v := .ref 92) rfl dX8_span_66 (c_58 _) rfl ?_
              refine R_iload_n (pc := 69) dX8_span_69 rfl rfl ?_
              have hx31 : vp_in c 20 := (vp_of_inR (thC_r hI h1) (by decide))
              refine R_iaload (pc := 70) dX8_span_70 (c_92 _) hx31 ?_
              have hdA : dA D (Int32.toNatClampNeg c) = true := (hD.1 (Int32.toNatClampNeg c)).trans (thI_c hI h1)
              have hc20 := clamp19 (thC_r hI h1)
              have hdg : dg D (Int32.toNatClampNeg c) < 20 := by rw [hD.2.1 (Int32.toNatClampNeg c) hdA]; have q := (lab_p (R := RC0 σ) (A := tb (thI σ)) hc20).2.1; omega
              refine R_cv (nI (dg D (Int32.toNatClampNeg c))) (hld (Int32.toNatClampNeg c) hdA) ?_
              refine st_5_4_i_i (pc := 71) dX8_span_71 ?_
              refine R_iload_n (pc := 73) dX8_span_73 rfl rfl ?_
              refine R_ifne (pc := 74) 93 dX8_span_74 (by decide) (fun b74_32 => ?_) (fun b74_32 => ?_)
              · skip
                refine R_aload_n (pc := 93) dX8_span_93 rfl rfl ?_
                refine g_X8_37 (pc := 94) (v := .ref 58) rfl dX8_span_94 (c_0 _) rfl ?_
                refine g_X8_249 (pc := 97) (v := .ref 86) rfl dX8_span_97 (c_58 _) rfl ?_
                refine g_X8_258 (pc := 100) (v := .ref 88) rfl dX8_span_100 (c_86 _) rfl ?_
                refine R_iload (pc := 103) dX8_span_103 rfl ?_
                have hx33 : vp_in (nI (dg D (Int32.toNatClampNeg c))) 20 := (vp_of_inR (show inR (nI (dg D (Int32.toNatClampNeg c))) 0 19 from inR_nI (M := 19) (Nat.le_of_lt_succ hdg) (by decide)) (by decide))
                refine R_iaload (pc := 105) dX8_span_105 (c_88 _) hx33 ?_
                exact R_iret (pc := 106) dX8_span_106 rfl rfl (Nat.zero_le _) (Nat.zero_le _) ⟨_, rfl, Or.inr (Or.inr ⟨h1, (by rw [inB_t h3, inB_t h5]; rfl), Or.inr ⟨_, hG, (by unfold spV; rw [if_pos b59_27, if_neg b74_32]; show (σx23.2.2.1 88 (Int32.toNatClampNeg (nI (dg D (Int32.toNatClampNeg c))))).toInt = _; rw [nI_clamp (by have q := hdg; omega)]; rfl)⟩⟩), _, rfl, hV22, hW25⟩
              · skip
                refine R_aload_n (pc := 77) dX8_span_77 rfl rfl ?_
                refine g_X8_37 (pc := 78) (v := .ref 58) rfl dX8_span_78 (c_0 _) rfl ?_
                refine g_X8_249 (pc := 81) (v := .ref 86) rfl dX8_span_81 (c_58 _) rfl ?_
                refine g_X8_253 (pc := 84) (v := .ref 87) rfl dX8_span_84 (c_86 _) rfl ?_
                refine R_iload (pc := 87) dX8_span_87 rfl ?_
                have hx34 : vp_in (nI (dg D (Int32.toNatClampNeg c))) 20 := (vp_of_inR (show inR (nI (dg D (Int32.toNatClampNeg c))) 0 19 from inR_nI (M := 19) (Nat.le_of_lt_succ hdg) (by decide)) (by decide))
                refine R_iaload (pc := 89) dX8_span_89 (c_87 _) hx34 ?_
                refine R_goto (pc := 90) 106 dX8_span_90 (by decide) ?_
                exact R_iret (pc := 106) dX8_span_106 rfl rfl (Nat.zero_le _) (Nat.zero_le _) ⟨_, rfl, Or.inr (Or.inr ⟨h1, (by rw [inB_t h3, inB_t h5]; rfl), Or.inr ⟨_, hG, (by unfold spV; rw [if_pos b59_27, if_pos b74_32]; show (σx23.2.2.1 87 (Int32.toNatClampNeg (nI (dg D (Int32.toNatClampNeg c))))).toInt = _; rw [nI_clamp (by have q := hdg; omega)]; rfl)⟩⟩), _, rfl, hV22, hW25⟩
          · skip
            refine R_ifne (pc := 53) 58 dX8_span_53 (by decide) (fun h => absurd (by decide) h) (fun _ => ?_)
            refine R_iconst (pc := 56) (v := (-1)) dX8_span_56 (by decide) ?_
            exact R_iret (pc := 57) dX8_span_57 rfl rfl (Nat.zero_le _) (Nat.zero_le _) ⟨_, rfl, Or.inr (Or.inr ⟨h1, (by rw [inB_t h3, inB_t h5]; rfl), Or.inl ⟨hBL, rfl⟩⟩), _, rfl, hV22, hW25⟩
      · skip
        refine R_ifne (pc := 29) 35 dX8_span_29 (by decide) (fun h => absurd (by decide) h) (fun _ => ?_)
        refine R_bipush (pc := 32) (v := (-3)) dX8_span_32 (by decide) ?_
        exact R_iret (pc := 34) dX8_span_34 rfl rfl (Nat.zero_le _) (Nat.zero_le _) ⟨_, rfl, Or.inr (Or.inl ⟨h1, (by rw [inB_t h3, inB_f h5]; rfl), rfl⟩), _, rfl, hI, (show Cor σ σ from Cor.rfl' σ)⟩
    · skip
      refine R_ifeq (pc := 20) 32 dX8_span_20 (by decide) (fun _ => ?_) (fun h => absurd (by decide) h)
      refine R_bipush (pc := 32) (v := (-3)) dX8_span_32 (by decide) ?_
      exact R_iret (pc := 34) dX8_span_34 rfl rfl (Nat.zero_le _) (Nat.zero_le _) ⟨_, rfl, Or.inr (Or.inl ⟨h1, (by rw [inB_f h3]; rfl), rfl⟩), _, rfl, hI, (show Cor σ σ from Cor.rfl' σ)⟩
  · skip
    refine R_ifne (pc := 8) 14 dX8_span_8 (by decide) (fun h => absurd (by decide) h) (fun _ => ?_)
    refine R_bipush (pc := 11) (v := (-2)) dX8_span_11 (by decide) ?_
    exact R_iret (pc := 13) dX8_span_13 rfl rfl (Nat.zero_le _) (Nat.zero_le _) ⟨_, rfl, Or.inl ⟨h1, rfl⟩, _, rfl, hI, (show Cor σ σ from Cor.rfl' σ)⟩
set_option maxRecDepth 100000 in
set_option maxHeartbeats 40000000 in
theorem gq_X9_span {G : vG} {l : Launch} (σ : Sg) (D : Dt) (c s w : Int32) (hI : Inv σ) (hD : DtM D (-1) 1 σ) : Sp G l yX9_span cX9_span 4 (some .int) 5 0 0 [.ref 140, .int c, .int s, .int w] (WW σ) (QI (fun x w2 => SpA D (thM σ c) s w (Int32.toNatClampNeg c) x (Bad D) ∧ ∃ σ2, w2 = WW σ2 ∧ Inv σ2 ∧ Cor σ σ2)) := by
  refine Sp_of_R [(some (.ref 140)), (some (.int c)), (some (.int s)), (some (.int w))] [] rfl (by simp) rfl (Nat.le_of_ble_eq_true rfl) ?_
  refine R_aload_n (pc := 0) dX9_span_0 rfl rfl ?_
  refine R_iload_n (pc := 1) dX9_span_1 rfl rfl ?_
  refine k_X9_135 (pc := 2) (gf_X9_isThere _ _ hI) rfl (c_140 _) (by decide) (Nat.le_refl _) (Nat.le_refl _) (Nat.le_of_ble_eq_true rfl) dX9_span_2 (fun x w2 h => ?_)
  rcases h with ⟨rfl, ⟨h1, rfl⟩ | ⟨h1, rfl⟩⟩
  · skip
    refine R_ifne (pc := 5) 11 dX9_span_5 (by decide) (fun _ => ?_) (fun h => absurd h (by decide))
    refine R_iload_n (pc := 11) dX9_span_11 rfl rfl ?_
    refine R_iconst (pc := 12) (v := 0) dX9_span_12 (by decide) ?_
    refine R_iconst (pc := 13) (v := 1) dX9_span_13 (by decide) ?_
    refine k_X9_124 (pc := 14) (sp_X9_in _ _ _ _) rfl (by decide) (Nat.le_refl _) (Nat.le_refl _) (Nat.le_of_ble_eq_true rfl) dX9_span_14 (fun x w2 h => ?_)
    rcases h with ⟨rfl, ⟨h3, rfl⟩ | ⟨h3, rfl⟩⟩
    · skip
      refine R_ifeq (pc := 17) 29 dX9_span_17 (by decide) (fun h => absurd h (by decide)) (fun _ => ?_)
      refine R_iload_n (pc := 20) dX9_span_20 rfl rfl ?_
      refine R_iconst (pc := 21) (v := 0) dX9_span_21 (by decide) ?_
      refine R_iconst (pc := 22) (v := 1) dX9_span_22 (by decide) ?_
      refine k_X9_124 (pc := 23) (sp_X9_in _ _ _ _) rfl (by decide) (Nat.le_refl _) (Nat.le_refl _) (Nat.le_of_ble_eq_true rfl) dX9_span_23 (fun x w2 h => ?_)
      rcases h with ⟨rfl, ⟨h5, rfl⟩ | ⟨h5, rfl⟩⟩
      · skip
        refine R_ifne (pc := 26) 32 dX9_span_26 (by decide) (fun _ => ?_) (fun h => absurd h (by decide))
        refine R_aload_n (pc := 32) dX9_span_32 rfl rfl ?_
        refine R_iconst (pc := 33) (v := (-1)) dX9_span_33 (by decide) ?_
        refine R_iconst (pc := 34) (v := 1) dX9_span_34 (by decide) ?_
        refine k_X9_228 (pc := 35) (gd_X9_areSpans _ D (-1) 1 hI hD) rfl (c_140 _) (by decide) (Nat.le_refl _) (Nat.le_refl _) (Nat.le_of_ble_eq_true rfl) dX9_span_35 (fun x w2 h => ?_)
        obtain ⟨σx8, rfl, hV7, hW9, hld, hres⟩ := h
        have hW10 := Cor.trans (show Cor σ σ from Cor.rfl' σ) hW9
        rcases hres with ⟨rfl, hG⟩ | ⟨rfl, hBL⟩
        · skip
          refine R_ifne (pc := 38) 43 dX9_span_38 (by decide) (fun _ => ?_) (fun h => absurd h (by decide))
          refine R_iload_n (pc := 43) dX9_span_43 rfl rfl ?_
          refine R_ifne (pc := 44) 77 dX9_span_44 (by decide) (fun b44_12 => ?_) (fun b44_12 => ?_)
          · skip
            refine R_iload_n (pc := 77) dX9_span_77 rfl rfl ?_
            refine R_ifne (pc := 78) 90 dX9_span_78 (by decide) (fun b78_13 => ?_) (fun b78_13 => ?_)
            · skip
              refine R_aload_n (pc := 90) dX9_span_90 rfl rfl ?_
              refine g_X9_96 (pc := 91) (v := .ref 166) rfl dX9_span_91 (c_140 _) rfl ?_
              refine R_iload_n (pc := 94) dX9_span_94 rfl rfl ?_
              have hx14 : vp_in c 20 := (vp_of_inR (thM_r h1) (by decide))
              refine R_iaload (pc := 95) dX9_span_95 (c_166 _) hx14 ?_
              exact R_iret (pc := 96) dX9_span_96 rfl rfl (Nat.zero_le _) (Nat.zero_le _) ⟨_, rfl, Or.inr (Or.inr ⟨h1, (by rw [inB_t h3, inB_t h5]; rfl), Or.inr ⟨_, hG, (by unfold spV; rw [if_neg b44_12, if_neg b78_13]; show (σx8.2.2.1 166 (Int32.toNatClampNeg c)).toInt = _; rfl)⟩⟩), _, rfl, hV7, hW10⟩
            · skip
              refine R_aload_n (pc := 81) dX9_span_81 rfl rfl ?_
              refine g_X9_93 (pc := 82) (v := .ref 165) rfl dX9_span_82 (c_140 _) rfl ?_
              refine R_iload_n (pc := 85) dX9_span_85 rfl rfl ?_
              have hx15 : vp_in c 20 := (vp_of_inR (thM_r h1) (by decide))
              refine R_iaload (pc := 86) dX9_span_86 (c_165 _) hx15 ?_
              refine R_goto (pc := 87) 96 dX9_span_87 (by decide) ?_
              exact R_iret (pc := 96) dX9_span_96 rfl rfl (Nat.zero_le _) (Nat.zero_le _) ⟨_, rfl, Or.inr (Or.inr ⟨h1, (by rw [inB_t h3, inB_t h5]; rfl), Or.inr ⟨_, hG, (by unfold spV; rw [if_neg b44_12, if_pos b78_13]; show (σx8.2.2.1 165 (Int32.toNatClampNeg c)).toInt = _; rfl)⟩⟩), _, rfl, hV7, hW10⟩
          · skip
            refine R_iload_n (pc := 47) dX9_span_47 rfl rfl ?_
            refine R_ifne (pc := 48) 65 dX9_span_48 (by decide) (fun b48_16 => ?_) (fun b48_16 => ?_)
            · skip
              refine R_aload_n (pc := 65) dX9_span_65 rfl rfl ?_
              refine g_X9_90 (pc := 66) (v := .ref 164) rfl dX9_span_66 (c_140 _) rfl ?_
              refine R_aload_n (pc := 69) dX9_span_69 rfl rfl ?_
              refine g_X9_54 (pc := 70) (v := .ref 152) rfl dX9_span_70 (c_140 _) rfl ?_
              refine R_iload_n (pc := 73) dX9_span_73 rfl rfl ?_
              have hx17 : vp_in c 20 := (vp_of_inR (thM_r h1) (by decide))
              refine R_iaload (pc := 74) dX9_span_74 (c_152 _) hx17 ?_
              have hc20 := clamp19 (thM_r h1)
              have hdA : dA D (Int32.toNatClampNeg c) = true := (hD.1 (Int32.toNatClampNeg c)).trans ((AM_of (Cor.rfl' σ) (Int32.toNatClampNeg c)).trans (AMp_th h1))
              have hdg : dg D (Int32.toNatClampNeg c) < 20 := by rw [hD.2.1 (Int32.toNatClampNeg c) hdA]; have q := (lab_p (R := lkN σ) (A := fun i => decide (i < TMn σ) && !decide (nI i = -1)) hc20).2.1; omega
              refine R_cv (nI (dg D (Int32.toNatClampNeg c))) (hld (Int32.toNatClampNeg c) hdA) ?_
              have hx18 : vp_in (nI (dg D (Int32.toNatClampNeg c))) 20 := (vp_of_inR (show inR (nI (dg D (Int32.toNatClampNeg c))) 0 19 from inR_nI (M := 19) (Nat.le_of_lt_succ hdg) (by decide)) (by decide))
              refine R_iaload (pc := 75) dX9_span_75 (c_164 _) hx18 ?_
              exact R_iret (pc := 76) dX9_span_76 rfl rfl (Nat.zero_le _) (Nat.zero_le _) ⟨_, rfl, Or.inr (Or.inr ⟨h1, (by rw [inB_t h3, inB_t h5]; rfl), Or.inr ⟨_, hG, (by unfold spV; rw [if_pos b44_12, if_neg b48_16]; show (σx8.2.2.1 164 (Int32.toNatClampNeg (nI (dg D (Int32.toNatClampNeg c))))).toInt = _; rw [nI_clamp (by have q := hdg; omega)]; rfl)⟩⟩), _, rfl, hV7, hW10⟩
            · skip
              refine R_aload_n (pc := 51) dX9_span_51 rfl rfl ?_
              refine g_X9_87 (pc := 52) (v := .ref 163) rfl dX9_span_52 (c_140 _) rfl ?_
              refine R_aload_n (pc := 55) dX9_span_55 rfl rfl ?_
              refine g_X9_54 (pc := 56) (v := .ref 152) rfl dX9_span_56 (c_140 _) rfl ?_
              refine R_iload_n (pc := 59) dX9_span_59 rfl rfl ?_
              have hx19 : vp_in c 20 := (vp_of_inR (thM_r h1) (by decide))
              refine R_iaload (pc := 60) dX9_span_60 (c_152 _) hx19 ?_
              have hc20 := clamp19 (thM_r h1)
              have hdA : dA D (Int32.toNatClampNeg c) = true := (hD.1 (Int32.toNatClampNeg c)).trans ((AM_of (Cor.rfl' σ) (Int32.toNatClampNeg c)).trans (AMp_th h1))
              have hdg : dg D (Int32.toNatClampNeg c) < 20 := by rw [hD.2.1 (Int32.toNatClampNeg c) hdA]; have q := (lab_p (R := lkN σ) (A := fun i => decide (i < TMn σ) && !decide (nI i = -1)) hc20).2.1; omega
              refine R_cv (nI (dg D (Int32.toNatClampNeg c))) (hld (Int32.toNatClampNeg c) hdA) ?_
              have hx20 : vp_in (nI (dg D (Int32.toNatClampNeg c))) 20 := (vp_of_inR (show inR (nI (dg D (Int32.toNatClampNeg c))) 0 19 from inR_nI (M := 19) (Nat.le_of_lt_succ hdg) (by decide)) (by decide))
              refine R_iaload (pc := 61) dX9_span_61 (c_163 _) hx20 ?_
              refine R_goto (pc := 62) 76 dX9_span_62 (by decide) ?_
              exact R_iret (pc := 76) dX9_span_76 rfl rfl (Nat.zero_le _) (Nat.zero_le _) ⟨_, rfl, Or.inr (Or.inr ⟨h1, (by rw [inB_t h3, inB_t h5]; rfl), Or.inr ⟨_, hG, (by unfold spV; rw [if_pos b44_12, if_pos b48_16]; show (σx8.2.2.1 163 (Int32.toNatClampNeg (nI (dg D (Int32.toNatClampNeg c))))).toInt = _; rw [nI_clamp (by have q := hdg; omega)]; rfl)⟩⟩), _, rfl, hV7, hW10⟩
        · skip
          refine R_ifne (pc := 38) 43 dX9_span_38 (by decide) (fun h => absurd (by decide) h) (fun _ => ?_)
          refine R_iconst (pc := 41) (v := (-1)) dX9_span_41 (by decide) ?_
          exact R_iret (pc := 42) dX9_span_42 rfl rfl (Nat.zero_le _) (Nat.zero_le _) ⟨_, rfl, Or.inr (Or.inr ⟨h1, (by rw [inB_t h3, inB_t h5]; rfl), Or.inl ⟨hBL, rfl⟩⟩), _, rfl, hV7, hW10⟩
      · skip
        refine R_ifne (pc := 26) 32 dX9_span_26 (by decide) (fun h => absurd (by decide) h) (fun _ => ?_)
        refine R_bipush (pc := 29) (v := (-3)) dX9_span_29 (by decide) ?_
        exact R_iret (pc := 31) dX9_span_31 rfl rfl (Nat.zero_le _) (Nat.zero_le _) ⟨_, rfl, Or.inr (Or.inl ⟨h1, (by rw [inB_t h3, inB_f h5]; rfl), rfl⟩), _, rfl, hI, (show Cor σ σ from Cor.rfl' σ)⟩
    · skip
      refine R_ifeq (pc := 17) 29 dX9_span_17 (by decide) (fun _ => ?_) (fun h => absurd (by decide) h)
      refine R_bipush (pc := 29) (v := (-3)) dX9_span_29 (by decide) ?_
      exact R_iret (pc := 31) dX9_span_31 rfl rfl (Nat.zero_le _) (Nat.zero_le _) ⟨_, rfl, Or.inr (Or.inl ⟨h1, (by rw [inB_f h3]; rfl), rfl⟩), _, rfl, hI, (show Cor σ σ from Cor.rfl' σ)⟩
  · skip
    refine R_ifne (pc := 5) 11 dX9_span_5 (by decide) (fun h => absurd (by decide) h) (fun _ => ?_)
    refine R_bipush (pc := 8) (v := (-2)) dX9_span_8 (by decide) ?_
    exact R_iret (pc := 10) dX9_span_10 rfl rfl (Nat.zero_le _) (Nat.zero_le _) ⟨_, rfl, Or.inl ⟨h1, rfl⟩, _, rfl, hI, (show Cor σ σ from Cor.rfl' σ)⟩
