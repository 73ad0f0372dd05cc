/-! methods on any state that keeps the invariant -/
theorem rc_s {D : Dt} {X Y Z : Xs} {j : Nat} (h : ∀ c, c < j → dA D c = true → Rc D X Y c) (k : LeX D Y Z) (hj : dA D j = true → Rc D X Z j) : ∀ c, c < j + 1 → dA D c = true → Rc D X Z c := by
  intro c hc ha
  by_cases e : c = j
  · rw [e] at ha ⊢; exact hj ha
  · exact (h c (by omega) ha).up ha k
/-- laters, as many as are told, so far -/
def RlK (D : Dt) (A B : Nat → Int32) (X Y : Xs) (j : Nat) : Prop := ∀ k, k < j → ∀ a b, dA D a = true → dA D b = true → A k = nI a → B k = nI b → Rl D X Y a b
theorem rlk_s {D : Dt} {A B : Nat → Int32} {X Y Z : Xs} {j : Nat} (h : RlK D A B X Y j) (k : LeX D Y Z) (hj : ∀ a b, dA D a = true → dA D b = true → A j = nI a → B j = nI b → Rl D X Z a b) : RlK D A B X Z (j + 1) := by
  intro i hi a b ha hb e1 e2
  by_cases e : i = j
  · rw [e] at e1 e2; exact hj a b ha hb e1 e2
  · exact (h i (by omega) a b ha hb e1 e2).up ha hb k
theorem rs_of {D : Dt} {μ : Int32} {σ : Sg} {X Y : Xs} {n : Nat} (hK : LkC D μ σ) (hN : NwX D X Y) (h1 : ∀ c, c < 20 → dA D c = true → Rc D X Y c) (h2 : RlK D (σ.2.2.1 84) (σ.2.2.1 85) X Y n) (hn : (σ.1 5809).toNatClampNeg ≤ n) : Rs D X Y := by
  refine ⟨hN, fun c hc => ⟨h1 c (hK.2.1 c hc).1 hc, fun b hb hl => ?_⟩⟩
  obtain ⟨k, hk, e1, e2⟩ := (hK.2.2.2.2 c b hc hb).mp hl
  exact h2 k (by omega) c b hc hb e1 e2
theorem nI_in20 {v : Int32} (h : inR v 0 19) : ∃ a, a < 20 ∧ v = nI a := by
  obtain ⟨a, ha, e⟩ := nI_inR (M := 19) h (by decide)
  exact ⟨a, by omega, e⟩
theorem nI_20 {a b : Nat} (ha : a < 1000) (hb : b < 1000) (h : nI a = nI b) : a = b := (nI_eq (by omega) (by omega)).mp h
theorem as_1 {v : Int32} (h1 : -100 ≤ v.toInt) (h2 : v.toInt ≤ 30000) : (v + 1).toInt = v.toInt + 1 := by
  have h := ti_add (a := v) (b := 1) (l1 := -100) (h1 := 30000) (l2 := 1) (h2 := 1) (l := -99) (h := 30001) (of_ti (by have z : (-100 : Int32).toInt = -100 := (by decide); omega) (by have z : (30000 : Int32).toInt = 30000 := (by decide); omega)) (inR_self _) (by decide) (by decide)
  rw [h]; rfl
theorem as_2 {v : Int32} (h1 : -100 ≤ v.toInt) (h2 : v.toInt ≤ 30000) : (v - 1).toInt = v.toInt - 1 := by
  have h := ti_sub (a := v) (b := 1) (l1 := -100) (h1 := 30000) (l2 := 1) (h2 := 1) (l := -101) (h := 29999) (of_ti (by have z : (-100 : Int32).toInt = -100 := (by decide); omega) (by have z : (30000 : Int32).toInt = 30000 := (by decide); omega)) (inR_self _) (by decide) (by decide)
  rw [h]; rfl
theorem lej_of {n : Nat} {a : Int32} (hr : inR a 0 12) (h : a ≤ nI n) (hn : n < 1000) : a.toNatClampNeg ≤ n := by
  obtain ⟨k, hk, rfl⟩ := nI_inR (M := 12) hr (by decide)
  rw [nI_clamp (by omega)]
  exact nI_les (by omega) (by omega) h
theorem ltj_of {n : Nat} {a : Int32} (hr : inR a 0 12) (h : nI n < a) (hn : n < 1000) : n < a.toNatClampNeg := by
  obtain ⟨k, hk, rfl⟩ := nI_inR (M := 12) hr (by decide)
  rw [nI_clamp (by omega)]
  exact nI_lts (by omega) (by omega) h
theorem ord_0 {D : Dt} {X Y : Xs} (h0 : ∀ c, dA D c = true → -1 ≤ yf X c ∧ yt X c ≤ 20000) (k : LeX D X Y) : ∀ c, dA D c = true → -1 ≤ yf Y c ∧ yt Y c ≤ 20000 := fun c hc => by
  have a := h0 c hc
  have b := k c hc
  exact ⟨by omega, by omega⟩
/-- a card of a round: what it does from the start, to the end -/
theorem rc_of {D : Dt} {X0 X1 X2 X3 X4 : Xs} {j : Nat} {d1 d2 : Int} (ha : dA D j = true) (k1 : LeX D X0 X1) (k2 : LeX D X1 X2) (k3 : LeX D X2 X3) (k4 : LeX D X3 X4) (hR : ∀ f, f < 8 → Rf D X1 X2 j f) (e1 : d1 = xf X2 (dg D j)) (h1 : d1 ≤ yf X3 j) (e2 : d2 = yt X3 j) (h2 : xt X4 (dg D j) ≤ d2) : Rc D X0 X4 j := by
  have a1 := k1 j ha
  have a2 := k2 j ha
  have a3 := k3 j ha
  have a4 := k4 j ha
  refine ⟨by omega, by omega, fun f hf => ?_⟩
  exact ((hR f hf).up ha (k3.tr k4)).dn ha k1 ((k2.tr k3).tr k4)
theorem rl_of {D : Dt} {X0 X1 X2 X3 : Xs} {a b : Nat} {d1 d2 : Int} (ha : dA D a = true) (hb : dA D b = true) (k1 : LeX D X0 X1) (k2 : LeX D X1 X2) (k3 : LeX D X2 X3) (e1 : d1 = yf X1 b + 1) (h1 : d1 ≤ yf X2 a) (e2 : d2 = yt X2 a - 1) (h2 : yt X3 b ≤ d2) : Rl D X0 X3 a b := by
  have a1 := k1 a ha
  have a2 := k2 a ha
  have a3 := k3 a ha
  have b1 := k1 b hb
  have b2 := k2 b hb
  have b3 := k3 b hb
  exact ⟨by omega, by omega⟩
theorem xc_eq {σ τ : Sg} (h1 : τ.2.2.1 87 = σ.2.2.1 87) (h2 : τ.2.2.1 88 = σ.2.2.1 88) (h3 : τ.2.2.1 90 = σ.2.2.1 90) (h4 : τ.2.2.1 91 = σ.2.2.1 91) : XC τ = XC σ := by
  unfold XC
  rw [h1, h2, h3, h4]
set_option maxRecDepth 100000 in
set_option maxHeartbeats 40000000 in
theorem gd_X1_narrow {G : vG} {l : Launch} (σ : Sg) (D : Dt) (μ : Int32)  (hI : Inv σ) (hK : LkC D μ σ) (hB : BnX D (XC σ) 1) (hO0 : ∀ c, dA D c = true → -1 ≤ yf (XC σ) c ∧ yt (XC σ) c ≤ 20000) : Sp G l yX1_narrow cX1_narrow 5 (some .boolean) 2 0 0 [.ref 58, .int μ] (WW σ) (QI (fun x w2 => ∃ σ2, w2 = WW σ2 ∧ Inv σ2 ∧ Cor σ σ2 ∧ Rs D (XC σ) (XC σ2) ∧ σ2.2.2.1 92 = σ.2.2.1 92 ∧ (x = 1 ∧ ScX D (XC σ) (XC σ2) ∨ x = 0 ∧ XC σ2 = XC σ))) := by
  refine Sp_of_R [(some (.ref 58)), (some (.int μ)), none, none, none] [none, none, none] rfl (by simp) rfl (Nat.le_of_ble_eq_true rfl) ?_
  refine R_aload_n (pc := 0) dX1_narrow_0 rfl rfl ?_
  refine g_X1_38 (pc := 1) (v := .ref 86) rfl dX1_narrow_1 (c_58 _) rfl ?_
  refine R_iconst (pc := 4) (v := 0) dX1_narrow_4 (by decide) ?_
  refine p_X1_126 (pc := 5) rfl dX1_narrow_5 (c_86 _) (Nat.le_of_ble_eq_true rfl) rfl rfl (s_86_2 _ _) ?_
  have hW1 := cor_si 8602 0 (show Cor σ σ from Cor.rfl' σ) rfl
  refine R_aload_n (pc := 8) dX1_narrow_8 rfl rfl ?_
  refine g_X1_42 (pc := 9) (v := .ref 89) rfl dX1_narrow_9 (c_58 _) rfl ?_
  refine R_iconst (pc := 12) (v := 0) dX1_narrow_12 (by decide) ?_
  refine p_X1_126 (pc := 13) rfl dX1_narrow_13 (c_89 _) (Nat.le_of_ble_eq_true rfl) rfl rfl (s_89_2 _ _) ?_
  have hW2 := cor_si 8902 0 hW1 rfl
  refine R_iconst (pc := 16) (v := 0) dX1_narrow_16 (by decide) ?_
  refine st_5_2_i_i (pc := 17) dX1_narrow_17 ?_
  have HL18 : ∀ (q j18 : Nat) (σ18 : Sg), j18 + q = 20 → 0 ≤ j18 → Inv σ18 → Cor σ σ18 → (StC D (uI (uI σ 8602 0) 8902 0) σ18 ∧ BnX D (XC σ18) 1) → (∀ c, c < j18 → dA D c = true → Rc D (XC σ) (XC σ18) c) → R G l yX1_narrow cX1_narrow 5 (some .boolean) 2 0 0 (QI (fun x w2 => ∃ σ2, w2 = WW σ2 ∧ Inv σ2 ∧ Cor σ σ2 ∧ Rs D (XC σ) (XC σ2) ∧ σ2.2.2.1 92 = σ.2.2.1 92 ∧ (x = 1 ∧ ScX D (XC σ) (XC σ2) ∨ x = 0 ∧ XC σ2 = XC σ))) 18 [(some (.ref 58)), (some (.int μ)), (some (.int (nI j18))), none, none] [] (WW σ18) 0 0 := by
    intro q
    induction q with
    | zero =>
      intro j18 σ18 hj hs18 hI18 hC18 hX18_0 hX18_1
      obtain rfl : j18 = 20 := by omega
      refine R_iload_n (pc := 18) dX1_narrow_18 rfl rfl ?_
      refine R_bipush (pc := 19) (v := 20) dX1_narrow_19 (by decide) ?_
      refine R_icge (pc := 21) 87 dX1_narrow_21 (by decide) (fun _ => ?_) (fun h => absurd (by decide) h)
      refine R_iconst (pc := 87) (v := 0) dX1_narrow_87 (by decide) ?_
      refine st_5_2_i_i (pc := 88) dX1_narrow_88 ?_
      have HL89 : ∀ (q j89 : Nat) (σ89 : Sg) (g3_89 : Option Value) (g4_89 : Option Value), j89 + q = 12 → 0 ≤ j89 → Inv σ89 → Cor σ σ89 → (StC D (uI (uI σ 8602 0) 8902 0) σ89 ∧ BnX D (XC σ89) (1 + 2 * (j89 : Int))) → (∀ c, dA D c = true → -1 ≤ yf (XC σ89) c ∧ yt (XC σ89) c ≤ 20000) → (∀ c, c < 20 → dA D c = true → Rc D (XC σ) (XC σ89) c) → RlK D (σ.2.2.1 84) (σ.2.2.1 85) (XC σ) (XC σ89) j89 → R G l yX1_narrow cX1_narrow 5 (some .boolean) 2 0 0 (QI (fun x w2 => ∃ σ2, w2 = WW σ2 ∧ Inv σ2 ∧ Cor σ σ2 ∧ Rs D (XC σ) (XC σ2) ∧ σ2.2.2.1 92 = σ.2.2.1 92 ∧ (x = 1 ∧ ScX D (XC σ) (XC σ2) ∨ x = 0 ∧ XC σ2 = XC σ))) 89 [(some (.ref 58)), (some (.int μ)), (some (.int (nI j89))), g3_89, g4_89] [] (WW σ89) 0 0 := by
        intro q
        induction q with
        | zero =>
          intro j89 σ89 g3_89 g4_89 hj hs89 hI89 hC89 hX89_0 hX89_1 hX89_2 hX89_3
          obtain rfl : j89 = 12 := by omega
          refine R_iload_n (pc := 89) dX1_narrow_89 rfl rfl ?_
          refine R_aload_n (pc := 90) dX1_narrow_90 rfl rfl ?_
          refine g_X1_139 (pc := 91) (v := .int (σ89.1 5809)) rfl dX1_narrow_91 (c_58 _) rfl ?_
          refine R_icge (pc := 94) 175 dX1_narrow_94 (by decide) (fun _ => ?_) (fun h => absurd (Int32.not_lt.mp (inR_up (iv_5809 hI89) (Int32.le_refl _) (by decide)).2) h)
          refine R_aload_n (pc := 175) dX1_narrow_175 rfl rfl ?_
          refine g_X1_38 (pc := 176) (v := .ref 86) rfl dX1_narrow_176 (c_58 _) rfl ?_
          refine g_X1_126 (pc := 179) (v := .int (σ89.1 8602)) rfl dX1_narrow_179 (c_86 _) rfl ?_
          refine R_ifne (pc := 182) 195 dX1_narrow_182 (by decide) (fun b182_5 => ?_) (fun b182_5 => ?_)
          · skip
            refine R_iconst (pc := 195) (v := 1) dX1_narrow_195 (by decide) ?_
            refine R_goto (pc := 196) 200 dX1_narrow_196 (by decide) ?_
            exact R_iret (pc := 200) dX1_narrow_200 rfl rfl (Nat.zero_le _) (Nat.zero_le _) ⟨_, rfl, _, rfl, hI89, hC89, (rs_of hK hX89_0.1.1 hX89_2 hX89_3 (by have q := (hC89.1 5809 rfl); rw [← q]; exact clampM (M := 12) (iv_5809 hI89) (by decide))), hX89_0.1.2.2.2, Or.inl ⟨rfl, (hX89_0.1.2.1.resolve_left (fun q => b182_5 q.1)).2⟩⟩
          · skip
            refine R_aload_n (pc := 185) dX1_narrow_185 rfl rfl ?_
            refine g_X1_42 (pc := 186) (v := .ref 89) rfl dX1_narrow_186 (c_58 _) rfl ?_
            refine g_X1_126 (pc := 189) (v := .int (σ89.1 8902)) rfl dX1_narrow_189 (c_89 _) rfl ?_
            refine R_ifeq (pc := 192) 199 dX1_narrow_192 (by decide) (fun b192_6 => ?_) (fun b192_6 => ?_)
            · skip
              refine R_iconst (pc := 199) (v := 0) dX1_narrow_199 (by decide) ?_
              exact R_iret (pc := 200) dX1_narrow_200 rfl rfl (Nat.zero_le _) (Nat.zero_le _) ⟨_, rfl, _, rfl, hI89, hC89, (rs_of hK hX89_0.1.1 hX89_2 hX89_3 (by have q := (hC89.1 5809 rfl); rw [← q]; exact clampM (M := 12) (iv_5809 hI89) (by decide))), hX89_0.1.2.2.2, Or.inr ⟨rfl, xc_eq (hX89_0.1.2.1.resolve_right (fun q => absurd (q.1.symm.trans b182_5) (by decide))).2.1 (hX89_0.1.2.1.resolve_right (fun q => absurd (q.1.symm.trans b182_5) (by decide))).2.2 (hX89_0.1.2.2.1.resolve_right (fun q => absurd (q.1.symm.trans b192_6) (by decide))).2.1 (hX89_0.1.2.2.1.resolve_right (fun q => absurd (q.1.symm.trans b192_6) (by decide))).2.2⟩⟩
            · skip
              refine R_iconst (pc := 195) (v := 1) dX1_narrow_195 (by decide) ?_
              refine R_goto (pc := 196) 200 dX1_narrow_196 (by decide) ?_
              exact R_iret (pc := 200) dX1_narrow_200 rfl rfl (Nat.zero_le _) (Nat.zero_le _) ⟨_, rfl, _, rfl, hI89, hC89, (rs_of hK hX89_0.1.1 hX89_2 hX89_3 (by have q := (hC89.1 5809 rfl); rw [← q]; exact clampM (M := 12) (iv_5809 hI89) (by decide))), hX89_0.1.2.2.2, Or.inl ⟨rfl, (hX89_0.1.2.2.1.resolve_left (fun q => b192_6 q.1)).2⟩⟩
        | succ q ih89 =>
          intro j89 σ89 g3_89 g4_89 hj hs89 hI89 hC89 hX89_0 hX89_1 hX89_2 hX89_3
          have hrg89 : inR (nI j89) 0 11 := inR_ix hs89 (show j89 < 12 by omega) (by decide) (by decide) (by decide)
          have hlt89 : j89 < 12 := by omega
          refine R_iload_n (pc := 89) dX1_narrow_89 rfl rfl ?_
          refine R_aload_n (pc := 90) dX1_narrow_90 rfl rfl ?_
          refine g_X1_139 (pc := 91) (v := .int (σ89.1 5809)) rfl dX1_narrow_91 (c_58 _) rfl ?_
          refine R_icge (pc := 94) 175 dX1_narrow_94 (by decide) (fun b94_7 => ?_) (fun b94_7 => ?_)
          · skip
            refine R_aload_n (pc := 175) dX1_narrow_175 rfl rfl ?_
            refine g_X1_38 (pc := 176) (v := .ref 86) rfl dX1_narrow_176 (c_58 _) rfl ?_
            refine g_X1_126 (pc := 179) (v := .int (σ89.1 8602)) rfl dX1_narrow_179 (c_86 _) rfl ?_
            refine R_ifne (pc := 182) 195 dX1_narrow_182 (by decide) (fun b182_8 => ?_) (fun b182_8 => ?_)
            · skip
              refine R_iconst (pc := 195) (v := 1) dX1_narrow_195 (by decide) ?_
              refine R_goto (pc := 196) 200 dX1_narrow_196 (by decide) ?_
              exact R_iret (pc := 200) dX1_narrow_200 rfl rfl (Nat.zero_le _) (Nat.zero_le _) ⟨_, rfl, _, rfl, hI89, hC89, (rs_of hK hX89_0.1.1 hX89_2 hX89_3 (by have q := (hC89.1 5809 rfl); rw [← q]; exact lej_of (iv_5809 hI89) b94_7 (by omega))), hX89_0.1.2.2.2, Or.inl ⟨rfl, (hX89_0.1.2.1.resolve_left (fun q => b182_8 q.1)).2⟩⟩
            · skip
              refine R_aload_n (pc := 185) dX1_narrow_185 rfl rfl ?_
              refine g_X1_42 (pc := 186) (v := .ref 89) rfl dX1_narrow_186 (c_58 _) rfl ?_
              refine g_X1_126 (pc := 189) (v := .int (σ89.1 8902)) rfl dX1_narrow_189 (c_89 _) rfl ?_
              refine R_ifeq (pc := 192) 199 dX1_narrow_192 (by decide) (fun b192_9 => ?_) (fun b192_9 => ?_)
              · skip
                refine R_iconst (pc := 199) (v := 0) dX1_narrow_199 (by decide) ?_
                exact R_iret (pc := 200) dX1_narrow_200 rfl rfl (Nat.zero_le _) (Nat.zero_le _) ⟨_, rfl, _, rfl, hI89, hC89, (rs_of hK hX89_0.1.1 hX89_2 hX89_3 (by have q := (hC89.1 5809 rfl); rw [← q]; exact lej_of (iv_5809 hI89) b94_7 (by omega))), hX89_0.1.2.2.2, Or.inr ⟨rfl, xc_eq (hX89_0.1.2.1.resolve_right (fun q => absurd (q.1.symm.trans b182_8) (by decide))).2.1 (hX89_0.1.2.1.resolve_right (fun q => absurd (q.1.symm.trans b182_8) (by decide))).2.2 (hX89_0.1.2.2.1.resolve_right (fun q => absurd (q.1.symm.trans b192_9) (by decide))).2.1 (hX89_0.1.2.2.1.resolve_right (fun q => absurd (q.1.symm.trans b192_9) (by decide))).2.2⟩⟩
              · skip
                refine R_iconst (pc := 195) (v := 1) dX1_narrow_195 (by decide) ?_
                refine R_goto (pc := 196) 200 dX1_narrow_196 (by decide) ?_
                exact R_iret (pc := 200) dX1_narrow_200 rfl rfl (Nat.zero_le _) (Nat.zero_le _) ⟨_, rfl, _, rfl, hI89, hC89, (rs_of hK hX89_0.1.1 hX89_2 hX89_3 (by have q := (hC89.1 5809 rfl); rw [← q]; exact lej_of (iv_5809 hI89) b94_7 (by omega))), hX89_0.1.2.2.2, Or.inl ⟨rfl, (hX89_0.1.2.2.1.resolve_left (fun q => b192_9 q.1)).2⟩⟩
          · skip
            have hjl : j89 < (σ89.1 5809).toNatClampNeg := ltj_of (iv_5809 hI89) (Int32.not_le.mp b94_7) (by omega)
            refine R_aload_n (pc := 97) dX1_narrow_97 rfl rfl ?_
            refine g_X1_29 (pc := 98) (v := .ref 84) rfl dX1_narrow_98 (c_58 _) rfl ?_
            refine R_iload_n (pc := 101) dX1_narrow_101 rfl rfl ?_
            have hx10 : vp_in (nI j89) 12 := (vp_in_nI (by omega) (by decide))
            refine R_iaload (pc := 102) dX1_narrow_102 (c_84 _) hx10 ?_
            obtain ⟨a, ha20, ea⟩ : ∃ a : Nat, a < 20 ∧ σ89.2.2.1 84 j89 = nI a := nI_in20 (iva_84 hI89 j89 (by omega))
            refine R_cv (nI a) (by show (σ89.2.2.1 84 (Int32.toNatClampNeg (nI j89))) = _; rw [nI_clamp (by omega)]; exact ea) ?_
            refine st_5_3_i_i (pc := 103) dX1_narrow_103 ?_
            refine R_aload_n (pc := 104) dX1_narrow_104 rfl rfl ?_
            refine g_X1_32 (pc := 105) (v := .ref 85) rfl dX1_narrow_105 (c_58 _) rfl ?_
            refine R_iload_n (pc := 108) dX1_narrow_108 rfl rfl ?_
            have hx11 : vp_in (nI j89) 12 := (vp_in_nI (by omega) (by decide))
            refine R_iaload (pc := 109) dX1_narrow_109 (c_85 _) hx11 ?_
            obtain ⟨b, hb20, eb⟩ : ∃ b : Nat, b < 20 ∧ σ89.2.2.1 85 j89 = nI b := nI_in20 (iva_85 hI89 j89 (by omega))
            refine R_cv (nI b) (by show (σ89.2.2.1 85 (Int32.toNatClampNeg (nI j89))) = _; rw [nI_clamp (by omega)]; exact eb) ?_
            refine st_5_4_i_i (pc := 110) dX1_narrow_110 ?_
            refine R_iload_n (pc := 112) dX1_narrow_112 rfl rfl ?_
            refine R_iload_n (pc := 113) dX1_narrow_113 rfl rfl ?_
            refine k_X1_60 (pc := 114) (sp_X8_has _ _ _) rfl (by decide) (Nat.le_refl _) (Nat.le_refl _) (Nat.le_of_ble_eq_true rfl) dX1_narrow_114 (fun x w2 h => ?_)
            rcases h with ⟨rfl, ⟨hh12, rfl⟩ | ⟨hh12, rfl⟩⟩
            · skip
              have hA13 : dA D a = true := (hK.1 a (by omega)).trans (has_t (by omega) hh12)
              refine R_ifeq (pc := 117) 169 dX1_narrow_117 (by decide) (fun h => absurd h (by decide)) (fun _ => ?_)
              refine R_iload_n (pc := 120) dX1_narrow_120 rfl rfl ?_
              refine R_iload (pc := 121) dX1_narrow_121 rfl ?_
              refine k_X1_60 (pc := 123) (sp_X8_has _ _ _) rfl (by decide) (Nat.le_refl _) (Nat.le_refl _) (Nat.le_of_ble_eq_true rfl) dX1_narrow_123 (fun x w2 h => ?_)
              rcases h with ⟨rfl, ⟨hh15, rfl⟩ | ⟨hh15, rfl⟩⟩
              · skip
                have hA16 : dA D b = true := (hK.1 b (by omega)).trans (has_t (by omega) hh15)
                refine R_ifeq (pc := 126) 169 dX1_narrow_126 (by decide) (fun h => absurd h (by decide)) (fun _ => ?_)
                refine R_aload_n (pc := 129) dX1_narrow_129 rfl rfl ?_
                refine g_X1_42 (pc := 130) (v := .ref 89) rfl dX1_narrow_130 (c_58 _) rfl ?_
                refine R_iload_n (pc := 133) dX1_narrow_133 rfl rfl ?_
                refine R_aload_n (pc := 134) dX1_narrow_134 rfl rfl ?_
                refine g_X1_42 (pc := 135) (v := .ref 89) rfl dX1_narrow_135 (c_58 _) rfl ?_
                refine g_X1_133 (pc := 138) (v := .ref 90) rfl dX1_narrow_138 (c_89 _) rfl ?_
                refine R_iload (pc := 141) dX1_narrow_141 rfl ?_
                have hx18 : vp_in (nI b) 20 := (vp_of_inR (show inR (nI b) 0 19 from inR_nI (M := 19) (by omega) (by decide)) (by decide))
                refine R_iaload (pc := 143) dX1_narrow_143 (c_90 _) hx18 ?_
                refine R_cv (σ89.2.2.1 90 b) (by rw [nI_clamp (by omega)]) ?_
                refine R_iconst (pc := 144) (v := 1) dX1_narrow_144 (by decide) ?_
                refine R_iadd (pc := 145) dX1_narrow_145 ?_
                have hdl : dL D a b := (((lk_st hK hC89 hX89_0.1.2.2.2)).2.2.2.2 a b hA13 hA16).mpr ⟨j89, hjl, ea, eb⟩
                have hB2 : BnX D (XC σ89) (2 + 2 * (j89 : Int)) := hX89_0.2.up (by omega)
                have hp1 : ((σ89.2.2.1 90 b) + 1).toInt = yf (XC σ89) b + 1 := as_1 (show -100 ≤ yf (XC σ89) b from by have q := (hX89_1 b hA16).1; omega) (show yf (XC σ89) b ≤ 30000 from by have q := (hB2 b hA16).2.2.1; omega)
                refine k_X1_120 (pc := 146) (ge_X7_notBefore_89 _ _ _ hI89 (show inR (nI a) 0 19 from inR_nI (M := 19) (by omega) (by decide))) rfl (c_89 _) (by decide) (Nat.le_refl _) (Nat.le_refl _) (Nat.le_of_ble_eq_true rfl) dX1_narrow_146 (fun w2 h => ?_)
                obtain ⟨σx20, rfl, hV19, hW21, he22⟩ := h
                have hW24 := Cor.trans hC89 hW21
                have hS23 := stC_3 (D := D) (c := a) (m := (2 + 2 * (j89 : Int))) he22 (nI_clamp (by omega)) hA13 (fun Z hZ hle => by rw [hp1]; have q1 := (hle b hA16).2.2.1; have q2 := ((hZ.2 a hA13).2.2.2 b hA16 hdl).1; omega) (by rw [hp1]; have q1 := (hX89_0.2 b hA16).2.2.1; omega)
                have hT25 := StC.tr hX89_0.1 hS23.1
                have hB26 := hS23.2.2 hB2
                have hK27 := lk_st (lk_st hK hC89 hX89_0.1.2.2.2) hW21 hS23.1.2.2.2
                have hL1 := hS23.2.1
                have hL1e := hS23.1.1.1
                refine R_aload_n (pc := 149) dX1_narrow_149 rfl rfl ?_
                refine g_X1_42 (pc := 150) (v := .ref 89) rfl dX1_narrow_150 (c_58 _) rfl ?_
                refine R_iload (pc := 153) dX1_narrow_153 rfl ?_
                refine R_aload_n (pc := 155) dX1_narrow_155 rfl rfl ?_
                refine g_X1_42 (pc := 156) (v := .ref 89) rfl dX1_narrow_156 (c_58 _) rfl ?_
                refine g_X1_136 (pc := 159) (v := .ref 91) rfl dX1_narrow_159 (c_89 _) rfl ?_
                refine R_iload_n (pc := 162) dX1_narrow_162 rfl rfl ?_
                have hx28 : vp_in (nI a) 20 := (vp_of_inR (show inR (nI a) 0 19 from inR_nI (M := 19) (by omega) (by decide)) (by decide))
                refine R_iaload (pc := 163) dX1_narrow_163 (c_91 _) hx28 ?_
                refine R_cv (σx20.2.2.1 91 a) (by rw [nI_clamp (by omega)]) ?_
                refine R_iconst (pc := 164) (v := 1) dX1_narrow_164 (by decide) ?_
                refine R_isub (pc := 165) dX1_narrow_165 ?_
                have hbl : ∀ c, dA D c = true → -(2 + 2 * (j89 : Int)) ≤ yt (XC σx20) c := fun c hc => (hB26 c hc).2.2.2
                have hB3 : BnX D (XC σx20) (3 + 2 * (j89 : Int)) := hB26.up (by omega)
                have hp2 : ((σx20.2.2.1 91 a) - 1).toInt = yt (XC σx20) a - 1 := as_2 (show -100 ≤ yt (XC σx20) a from by have q := hbl a hA13; omega) (show yt (XC σx20) a ≤ 30000 from by have q1 := (hX89_1 a hA13).2; have q2 := (hL1e a hA13).2.2.2; omega)
                refine k_X1_93 (pc := 166) (ge_X7_notBehind_89 _ _ _ hV19 (show inR (nI b) 0 19 from inR_nI (M := 19) (by omega) (by decide))) rfl (c_89 _) (by decide) (Nat.le_refl _) (Nat.le_refl _) (Nat.le_of_ble_eq_true rfl) dX1_narrow_166 (fun w2 h => ?_)
                obtain ⟨σx30, rfl, hV29, hW31, he32⟩ := h
                have hW34 := Cor.trans hW24 hW31
                have hS33 := stC_4 (D := D) (c := b) (m := (3 + 2 * (j89 : Int))) he32 (nI_clamp (by omega)) hA16 (fun Z hZ hle => by rw [hp2]; have q1 := (hle a hA13).2.2.2; have q2 := ((hZ.2 a hA13).2.2.2 b hA16 hdl).2; omega) (by rw [hp2]; have q2 := (hbl a hA13); omega)
                have hT35 := StC.tr hT25 hS33.1
                have hB36 := hS33.2.2 hB3
                have hK37 := lk_st hK27 hW31 hS33.1.2.2.2
                have hL2 := hS33.2.1
                have hL2e := hS33.1.1.1
                refine inc_5_2_1_i (pc := 169) dX1_narrow_169 ?_
                have r38 : inR ((nI j89) + 1) 1 12 := inR_add (show inR (nI j89) 0 11 from hrg89) (show inR 1 1 1 from (inR_self _)) (by decide) (by decide)
                have e39 := ti_add (l := 1) (h := 12) (show inR (nI j89) 0 11 from hrg89) (show inR 1 1 1 from (inR_self _)) (by decide) (by decide)
                refine R_goto (pc := 172) 89 dX1_narrow_172 (by decide) ?_
                rw [nI_1]
                exact ih89 (j89 + 1) _ _ _ (by omega) (by omega) hV29 hW34 ⟨hT35, (hB36.up (by omega))⟩ (ord_0 hX89_1 (LeX.tr hL1e hL2e)) (fun c hc ha => (hX89_2 c hc ha).up ha (LeX.tr hL1e hL2e)) (rlk_s hX89_3 (LeX.tr hL1e hL2e) (fun a2 b2 ha2 hb2 e1 e2 => by have z1 := (nI_20 (by have q := (hK.2.1 a2 ha2).1; omega) (by omega) (e1.symm.trans ((congrFun (hC89.2.2.1 84 rfl) j89).symm.trans ea))); have z2 := (nI_20 (by have q := (hK.2.1 b2 hb2).1; omega) (by omega) (e2.symm.trans ((congrFun (hC89.2.2.1 85 rfl) j89).symm.trans eb))); rw [z1, z2]; exact rl_of hA13 hA16 hX89_0.1.1.1 hL1e hL2e hp1 hL1 hp2 hL2))
              · skip
                have hA16 : dA D b = false := (hK.1 b (by omega)).trans (has_f (by omega) hh15)
                refine R_ifeq (pc := 126) 169 dX1_narrow_126 (by decide) (fun _ => ?_) (fun h => absurd (by decide) h)
                refine inc_5_2_1_i (pc := 169) dX1_narrow_169 ?_
                have r41 : inR ((nI j89) + 1) 1 12 := inR_add (show inR (nI j89) 0 11 from hrg89) (show inR 1 1 1 from (inR_self _)) (by decide) (by decide)
                have e42 := ti_add (l := 1) (h := 12) (show inR (nI j89) 0 11 from hrg89) (show inR 1 1 1 from (inR_self _)) (by decide) (by decide)
                refine R_goto (pc := 172) 89 dX1_narrow_172 (by decide) ?_
                rw [nI_1]
                exact ih89 (j89 + 1) _ _ _ (by omega) (by omega) hI89 hC89 ⟨hX89_0.1, (hX89_0.2.up (by omega))⟩ hX89_1 hX89_2 (rlk_s hX89_3 (LeX.rfl' D _) (fun a2 b2 ha2 hb2 e1 e2 => absurd (by have z := (nI_20 (by have q := (hK.2.1 b2 hb2).1; omega) (by omega) (e2.symm.trans ((congrFun (hC89.2.2.1 85 rfl) j89).symm.trans eb))); rw [z] at hb2; exact hb2.symm.trans hA16) (by decide)))
            · skip
              have hA13 : dA D a = false := (hK.1 a (by omega)).trans (has_f (by omega) hh12)
              refine R_ifeq (pc := 117) 169 dX1_narrow_117 (by decide) (fun _ => ?_) (fun h => absurd (by decide) h)
              refine inc_5_2_1_i (pc := 169) dX1_narrow_169 ?_
              have r44 : inR ((nI j89) + 1) 1 12 := inR_add (show inR (nI j89) 0 11 from hrg89) (show inR 1 1 1 from (inR_self _)) (by decide) (by decide)
              have e45 := ti_add (l := 1) (h := 12) (show inR (nI j89) 0 11 from hrg89) (show inR 1 1 1 from (inR_self _)) (by decide) (by decide)
              refine R_goto (pc := 172) 89 dX1_narrow_172 (by decide) ?_
              rw [nI_1]
              exact ih89 (j89 + 1) _ _ _ (by omega) (by omega) hI89 hC89 ⟨hX89_0.1, (hX89_0.2.up (by omega))⟩ hX89_1 hX89_2 (rlk_s hX89_3 (LeX.rfl' D _) (fun a2 b2 ha2 hb2 e1 e2 => absurd (by have z := (nI_20 (by have q := (hK.2.1 a2 ha2).1; omega) (by omega) (e1.symm.trans ((congrFun (hC89.2.2.1 84 rfl) j89).symm.trans ea))); rw [z] at ha2; exact ha2.symm.trans hA13) (by decide)))
      exact HL89 12 0 _ _ _ (by omega) (by omega) hI18 hC18 ⟨hX18_0.1, hX18_0.2.up (by omega)⟩ (ord_0 hO0 hX18_0.1.1.1) hX18_1 (fun k hk => absurd hk (by omega))
    | succ q ih18 =>
      intro j18 σ18 hj hs18 hI18 hC18 hX18_0 hX18_1
      have hrg18 : inR (nI j18) 0 19 := inR_ix hs18 (show j18 < 20 by omega) (by decide) (by decide) (by decide)
      have hlt18 : j18 < 20 := by omega
      refine R_iload_n (pc := 18) dX1_narrow_18 rfl rfl ?_
      refine R_bipush (pc := 19) (v := 20) dX1_narrow_19 (by decide) ?_
      refine R_icge (pc := 21) 87 dX1_narrow_21 (by decide) (fun h => False.elim (by have q1 := ti_le h; have q2 := ti_in (show inR (nI j18) 0 19 from hrg18); have q3 := ti_in (show inR 20 20 20 from (inR_self _)); have z0 : (0 : Int32).toInt = 0 := (by decide);  have z1 : (19 : Int32).toInt = 19 := (by decide);  have z2 : (20 : Int32).toInt = 20 := (by decide); omega)) (fun _ => ?_)
      refine R_iload_n (pc := 24) dX1_narrow_24 rfl rfl ?_
      refine R_iload_n (pc := 25) dX1_narrow_25 rfl rfl ?_
      refine k_X1_60 (pc := 26) (sp_X8_has _ _ _) rfl (by decide) (Nat.le_refl _) (Nat.le_refl _) (Nat.le_of_ble_eq_true rfl) dX1_narrow_26 (fun x w2 h => ?_)
      rcases h with ⟨rfl, ⟨hh47, rfl⟩ | ⟨hh47, rfl⟩⟩
      · skip
        have hA48 : dA D j18 = true := (hK.1 j18 (by omega)).trans (has_t (by omega) hh47)
        refine R_ifeq (pc := 29) 81 dX1_narrow_29 (by decide) (fun h => absurd h (by decide)) (fun _ => ?_)
        refine R_aload_n (pc := 32) dX1_narrow_32 rfl rfl ?_
        refine R_iload_n (pc := 33) dX1_narrow_33 rfl rfl ?_
        refine k_X1_130 (pc := 34) (gd_X1_narrowByFeatures _ D μ j18 hI18 (lk_st hK hC18 hX18_0.1.2.2.2) hX18_0.2 hA48) rfl (c_58 _) (by decide) (Nat.le_refl _) (Nat.le_refl _) (Nat.le_of_ble_eq_true rfl) dX1_narrow_34 (fun w2 h => ?_)
        obtain ⟨σx51, rfl, hV50, hW52, hSf, hBf, hRf⟩ := h
        have hW53 := Cor.trans hC18 hW52
        have hKf := lk_st (lk_st hK hC18 hX18_0.1.2.2.2) hW52 hSf.2.2.2
        refine R_aload_n (pc := 37) dX1_narrow_37 rfl rfl ?_
        refine g_X1_42 (pc := 38) (v := .ref 89) rfl dX1_narrow_38 (c_58 _) rfl ?_
        refine R_iload_n (pc := 41) dX1_narrow_41 rfl rfl ?_
        refine R_aload_n (pc := 42) dX1_narrow_42 rfl rfl ?_
        refine g_X1_38 (pc := 43) (v := .ref 86) rfl dX1_narrow_43 (c_58 _) rfl ?_
        refine g_X1_133 (pc := 46) (v := .ref 87) rfl dX1_narrow_46 (c_86 _) rfl ?_
        refine R_aload_n (pc := 49) dX1_narrow_49 rfl rfl ?_
        refine g_X1_45 (pc := 50) (v := .ref 92) rfl dX1_narrow_50 (c_58 _) rfl ?_
        refine R_iload_n (pc := 53) dX1_narrow_53 rfl rfl ?_
        have hx54 : vp_in (nI j18) 20 := (vp_in_nI (by omega) (by decide))
        refine R_iaload (pc := 54) dX1_narrow_54 (c_92 _) hx54 ?_
        refine R_cv (nI (dg D j18)) (by show (σx51.2.2.1 92 (Int32.toNatClampNeg (nI j18))) = _; rw [nI_clamp (by omega)]; exact (hKf.2.1 j18 hA48).2.2) ?_
        have hx55 : vp_in (nI (dg D j18)) 20 := (vp_of_inR (show inR (nI (dg D j18)) 0 19 from inR_nI (M := 19) (Nat.le_of_lt_succ (hKf.2.1 j18 hA48).2.1) (by decide)) (by decide))
        refine R_iaload (pc := 55) dX1_narrow_55 (c_87 _) hx55 ?_
        refine R_cv (σx51.2.2.1 87 (dg D j18)) (by rw [nI_clamp (by have q := (hKf.2.1 j18 hA48).2.1; omega)]) ?_
        refine k_X1_120 (pc := 56) (ge_X7_notBefore_89 _ _ _ hV50 hrg18) rfl (c_89 _) (by decide) (Nat.le_refl _) (Nat.le_refl _) (Nat.le_of_ble_eq_true rfl) dX1_narrow_56 (fun w2 h => ?_)
        obtain ⟨σx57, rfl, hV56, hW58, he59⟩ := h
        have hW61 := Cor.trans hW53 hW58
        have hS60 := stC_3 (D := D) (c := j18) (m := 1) he59 (nI_clamp (by omega)) hA48 (fun Z hZ hle => Int.le_trans (hle j18 hA48).1 (hZ.2 j18 hA48).1) (hBf j18 hA48).1
        have hT62 := StC.tr (StC.tr hX18_0.1 hSf) hS60.1
        have hB63 := hS60.2.2 hBf
        have hK64 := lk_st hKf hW58 hS60.1.2.2.2
        have hL1 := hS60.2.1
        have hL1e := hS60.1.1.1
        refine R_aload_n (pc := 59) dX1_narrow_59 rfl rfl ?_
        refine g_X1_38 (pc := 60) (v := .ref 86) rfl dX1_narrow_60 (c_58 _) rfl ?_
        refine R_aload_n (pc := 63) dX1_narrow_63 rfl rfl ?_
        refine g_X1_45 (pc := 64) (v := .ref 92) rfl dX1_narrow_64 (c_58 _) rfl ?_
        refine R_iload_n (pc := 67) dX1_narrow_67 rfl rfl ?_
        have hx65 : vp_in (nI j18) 20 := (vp_in_nI (by omega) (by decide))
        refine R_iaload (pc := 68) dX1_narrow_68 (c_92 _) hx65 ?_
        refine R_cv (nI (dg D j18)) (by show (σx57.2.2.1 92 (Int32.toNatClampNeg (nI j18))) = _; rw [nI_clamp (by omega)]; exact (hK64.2.1 j18 hA48).2.2) ?_
        refine R_aload_n (pc := 69) dX1_narrow_69 rfl rfl ?_
        refine g_X1_42 (pc := 70) (v := .ref 89) rfl dX1_narrow_70 (c_58 _) rfl ?_
        refine g_X1_136 (pc := 73) (v := .ref 91) rfl dX1_narrow_73 (c_89 _) rfl ?_
        refine R_iload_n (pc := 76) dX1_narrow_76 rfl rfl ?_
        have hx66 : vp_in (nI j18) 20 := (vp_in_nI (by omega) (by decide))
        refine R_iaload (pc := 77) dX1_narrow_77 (c_91 _) hx66 ?_
        refine R_cv (σx57.2.2.1 91 j18) (by rw [nI_clamp (by omega)]) ?_
        refine k_X1_93 (pc := 78) (ge_X7_notBehind_86 _ _ _ hV56 (show inR (nI (dg D j18)) 0 19 from inR_nI (M := 19) (Nat.le_of_lt_succ (hK64.2.1 j18 hA48).2.1) (by decide))) rfl (c_86 _) (by decide) (Nat.le_refl _) (Nat.le_refl _) (Nat.le_of_ble_eq_true rfl) dX1_narrow_78 (fun w2 h => ?_)
        obtain ⟨σx68, rfl, hV67, hW69, he70⟩ := h
        have hW72 := Cor.trans hW61 hW69
        have hS71 := stC_2 (D := D) (c := j18) (m := 1) he70 (nI_clamp (by have q := (hK64.2.1 j18 hA48).2.1; omega)) hA48 (fun Z hZ hle => Int.le_trans (hZ.2 j18 hA48).2.1 (hle j18 hA48).2.2.2) (hB63 j18 hA48).2.2.2
        have hT73 := StC.tr hT62 hS71.1
        have hB74 := hS71.2.2 hB63
        have hK75 := lk_st hK64 hW69 hS71.1.2.2.2
        have hL2 := hS71.2.1
        have hL2e := hS71.1.1.1
        refine inc_5_2_1_i (pc := 81) dX1_narrow_81 ?_
        have r76 : inR ((nI j18) + 1) 1 20 := inR_add (show inR (nI j18) 0 19 from hrg18) (show inR 1 1 1 from (inR_self _)) (by decide) (by decide)
        have e77 := ti_add (l := 1) (h := 20) (show inR (nI j18) 0 19 from hrg18) (show inR 1 1 1 from (inR_self _)) (by decide) (by decide)
        refine R_goto (pc := 84) 18 dX1_narrow_84 (by decide) ?_
        rw [nI_1]
        exact ih18 (j18 + 1) _ (by omega) (by omega) hV67 hW72 ⟨hT73, hB74⟩ (rc_s hX18_1 (LeX.tr (LeX.tr hSf.1.1 hL1e) hL2e) (fun _ => rc_of hA48 hX18_0.1.1.1 hSf.1.1 hL1e hL2e hRf rfl hL1 rfl hL2))
      · skip
        have hA48 : dA D j18 = false := (hK.1 j18 (by omega)).trans (has_f (by omega) hh47)
        refine R_ifeq (pc := 29) 81 dX1_narrow_29 (by decide) (fun _ => ?_) (fun h => absurd (by decide) h)
        refine inc_5_2_1_i (pc := 81) dX1_narrow_81 ?_
        have r79 : inR ((nI j18) + 1) 1 20 := inR_add (show inR (nI j18) 0 19 from hrg18) (show inR 1 1 1 from (inR_self _)) (by decide) (by decide)
        have e80 := ti_add (l := 1) (h := 20) (show inR (nI j18) 0 19 from hrg18) (show inR 1 1 1 from (inR_self _)) (by decide) (by decide)
        refine R_goto (pc := 84) 18 dX1_narrow_84 (by decide) ?_
        rw [nI_1]
        exact ih18 (j18 + 1) _ (by omega) (by omega) hI18 hC18 ⟨hX18_0.1, hX18_0.2⟩ (rc_s hX18_1 (LeX.rfl' D _) (fun q => absurd (q.symm.trans hA48) (by decide)))
  exact HL18 20 0 _ (by omega) (by omega) hI hW2 ⟨StC.rfl' D _, (show BnX D (XC σ) 1 from hB)⟩ (fun c hc => absurd hc (by omega))
