/-! methods on any state that keeps the invariant -/
def DVm (σ : Sg) (a b : Nat) : Int32 := uoF (σ.2.2.2.1 145 a) (σ.2.2.2.1 145 b) (σ.2.2.1 146 a) (σ.2.2.1 146 b)
def fqU (p : Nat) : Bool := p == 151
def UTB (D : Nat → Nat → Int32) (f : Nat → Int32) (j1 j2 : Nat) : Prop := ∀ a b : Nat, b < a → (a < j1 ∨ a = j1 ∧ b < j2) → f (20 * a + b) = D a b ∧ f (20 * b + a) = D a b
def UT (D : Nat → Nat → Int32) (f : Nat → Int32) (n : Nat) : Prop := ∀ a b : Nat, b < a → a < n → f (20 * a + b) = D a b ∧ f (20 * b + a) = D a b
theorem ut_0 {D : Nat → Nat → Int32} {f : Nat → Int32} : UTB D f 0 0 := fun a b h1 h2 => by omega
theorem ut_e {D : Nat → Nat → Int32} {f : Nat → Int32} {j1 k : Nat} (h : UTB D f j1 k) (hk : j1 ≤ k) : UTB D f (j1 + 1) 0 := fun a b h1 h2 => h a b h1 (by omega)
theorem ut_end {D : Nat → Nat → Int32} {f : Nat → Int32} {j1 : Nat} (h : UTB D f j1 0) : UT D f j1 := fun a b h1 h2 => h a b h1 (by omega)
theorem ut_s {D : Nat → Nat → Int32} {f : Nat → Int32} {j1 j2 J J2 : Nat} {v : Int32} (h : UTB D f j1 j2) (hJ : J = 20 * j1 + j2) (hJ2 : J2 = 20 * j2 + j1) (h1 : j1 < 20) (h2 : j2 < j1) (hv : v = D j1 j2) : UTB D (upd (upd f J v) J2 v) j1 (j2 + 1) := by
  subst hJ hJ2 hv
  intro a b hab hc
  by_cases e : a = j1 ∧ b = j2
  · obtain ⟨rfl, rfl⟩ := e
    rw [upd_at, upd_ne _ (by omega), upd_at]
    exact ⟨rfl, rfl⟩
  · rw [upd_ne _ (by omega), upd_ne _ (by omega), upd_ne _ (by omega), upd_ne _ (by omega)]
    exact h a b hab (by omega)
theorem idx20 {a b : Nat} (ha : a < 20) (hb : b < 20) : (20 * nI a + nI b).toNatClampNeg = 20 * a + b := by
  have : ∀ a b : Fin 20, (20 * nI a.val + nI b.val).toNatClampNeg = 20 * a.val + b.val := by decide +kernel
  exact this ⟨a, ha⟩ ⟨b, hb⟩
theorem dvm_at {σ τ : Sg} (h : Cor σ τ) {a b : Nat} (ha : a < 20) (hb : b < 20) : uoF (τ.2.2.2.1 145 (Int32.toNatClampNeg (nI a))) (τ.2.2.2.1 145 (Int32.toNatClampNeg (nI b))) (τ.2.2.1 146 (Int32.toNatClampNeg (nI a))) (τ.2.2.1 146 (Int32.toNatClampNeg (nI b))) = DVm σ a b := by
  unfold DVm
  rw [h.2.2.2.1 145, h.2.2.1 146 rfl, nI_clamp (by omega), nI_clamp (by omega)]
set_option maxRecDepth 100000 in
set_option maxHeartbeats 40000000 in
theorem gn_X9_findUnlike {G : vG} {l : Launch} (σ : Sg)  (hI : Inv σ) : Sp G l yX9_findUnlike cX9_findUnlike 3 none 3 0 0 [.ref 140] (WW σ) (QV (fun w2 => ∃ σ2, w2 = WW σ2 ∧ Inv σ2 ∧ Cor σ σ2 ∧ Fq fqU σ σ2 ∧ UT (DVm σ) (σ2.2.2.1 151) (Int32.toNatClampNeg (σ.1 14000)))) := by
  refine Sp_of_R [(some (.ref 140)), none, none] [none, none] rfl (by simp) rfl (Nat.le_of_ble_eq_true rfl) ?_
  refine R_iconst (pc := 0) (v := 0) dX9_findUnlike_0 (by decide) ?_
  refine st_3_1_i_a (pc := 1) dX9_findUnlike_1 ?_
  have HL2 : ∀ (q j2 : Nat) (σ2 : Sg) (g2_2 : Option Value), j2 + q = 20 → 0 ≤ j2 → Inv σ2 → Cor σ σ2 → UTB (DVm σ) (σ2.2.2.1 151) j2 0 → Fq fqU σ σ2 → nI j2 ≤ (σ.1 14000) → R G l yX9_findUnlike cX9_findUnlike 3 none 3 0 0 (QV (fun w2 => ∃ σ2, w2 = WW σ2 ∧ Inv σ2 ∧ Cor σ σ2 ∧ Fq fqU σ σ2 ∧ UT (DVm σ) (σ2.2.2.1 151) (Int32.toNatClampNeg (σ.1 14000)))) 2 [(some (.ref 140)), (some (.int (nI j2))), g2_2] [] (WW σ2) 0 0 := by
    intro q
    induction q with
    | zero =>
      intro j2 σ2 g2_2 hj hs2 hI2 hC2 hX2_0 hX2_1 hX2_2
      obtain rfl : j2 = 20 := by omega
      refine R_iload_n (pc := 2) dX9_findUnlike_2 rfl rfl ?_
      refine R_aload_n (pc := 3) dX9_findUnlike_3 rfl rfl ?_
      refine g_X9_117 (pc := 4) (v := .int (σ.1 14000)) rfl dX9_findUnlike_4 (c_140 _) (by show some (Value.int (σ2.1 14000)) = _; rw [hC2.1 14000 rfl]) ?_
      refine R_icge (pc := 7) 68 dX9_findUnlike_7 (by decide) (fun _ => ?_) (fun h => absurd (Int32.not_lt.mp (inR_up (iv_14000 hI) (Int32.le_refl _) (by decide)).2) h)
      exact R_vret (pc := 68) dX9_findUnlike_68 rfl (Nat.zero_le _) (Nat.zero_le _) ⟨rfl, _, rfl, hI2, hC2, hX2_1, (by rw [(show (Int32.toNatClampNeg (σ.1 14000)) = 20 from jn_of (by omega) (by first | exact nI_eqe hX2_2 (by assumption) | exact nI_eq20 hX2_2 (iv_14000 hI)))]; exact ut_end hX2_0)⟩
    | succ q ih2 =>
      intro j2 σ2 g2_2 hj hs2 hI2 hC2 hX2_0 hX2_1 hX2_2
      have hrg2 : inR (nI j2) 0 19 := inR_ix hs2 (show j2 < 20 by omega) (by decide) (by decide) (by decide)
      have hlt2 : j2 < 20 := by omega
      refine R_iload_n (pc := 2) dX9_findUnlike_2 rfl rfl ?_
      refine R_aload_n (pc := 3) dX9_findUnlike_3 rfl rfl ?_
      refine g_X9_117 (pc := 4) (v := .int (σ.1 14000)) rfl dX9_findUnlike_4 (c_140 _) (by show some (Value.int (σ2.1 14000)) = _; rw [hC2.1 14000 rfl]) ?_
      refine R_icge (pc := 7) 68 dX9_findUnlike_7 (by decide) (fun b7_2 => ?_) (fun b7_2 => ?_)
      · skip
        exact R_vret (pc := 68) dX9_findUnlike_68 rfl (Nat.zero_le _) (Nat.zero_le _) ⟨rfl, _, rfl, hI2, hC2, hX2_1, (by rw [(show (Int32.toNatClampNeg (σ.1 14000)) = j2 from jn_of (by omega) (by first | exact nI_eqe hX2_2 (by assumption) | exact nI_eq20 hX2_2 (iv_14000 hI)))]; exact ut_end hX2_0)⟩
      · skip
        refine R_iconst (pc := 10) (v := 0) dX9_findUnlike_10 (by decide) ?_
        refine st_3_2_i_i (pc := 11) dX9_findUnlike_11 ?_
        have HL12 : ∀ (q j12 : Nat) (σ12 : Sg), j12 + q = 20 → 0 ≤ j12 → Inv σ12 → Cor σ σ12 → UTB (DVm σ) (σ12.2.2.1 151) j2 j12 → Fq fqU σ σ12 → R G l yX9_findUnlike cX9_findUnlike 3 none 3 0 0 (QV (fun w2 => ∃ σ2, w2 = WW σ2 ∧ Inv σ2 ∧ Cor σ σ2 ∧ Fq fqU σ σ2 ∧ UT (DVm σ) (σ2.2.2.1 151) (Int32.toNatClampNeg (σ.1 14000)))) 12 [(some (.ref 140)), (some (.int (nI j2))), (some (.int (nI j12)))] [] (WW σ12) 0 0 := by
          intro q
          induction q with
          | zero =>
            intro j12 σ12 hj hs12 hI12 hC12 hX12_0 hX12_1
            obtain rfl : j12 = 20 := by omega
            refine R_iload_n (pc := 12) dX9_findUnlike_12 rfl rfl ?_
            refine R_iload_n (pc := 13) dX9_findUnlike_13 rfl rfl ?_
            refine R_icge (pc := 14) 62 dX9_findUnlike_14 (by decide) (fun _ => ?_) (fun h => absurd (Int32.not_lt.mp (inR_up hrg2 (Int32.le_refl _) (by decide)).2) h)
            refine inc_3_1_1_a (pc := 62) dX9_findUnlike_62 ?_
            have r4 : inR ((nI j2) + 1) 1 20 := inR_add (show inR (nI j2) 0 19 from hrg2) (show inR 1 1 1 from (inR_self _)) (by decide) (by decide)
            have e5 := ti_add (l := 1) (h := 20) (show inR (nI j2) 0 19 from hrg2) (show inR 1 1 1 from (inR_self _)) (by decide) (by decide)
            refine R_goto (pc := 65) 2 dX9_findUnlike_65 (by decide) ?_
            rw [nI_1]
            exact ih2 (j2 + 1) _ _ (by omega) (by omega) hI12 hC12 (ut_e hX12_0 (by omega)) hX12_1 (nI_sle (by omega) b7_2)
          | succ q ih12 =>
            intro j12 σ12 hj hs12 hI12 hC12 hX12_0 hX12_1
            have hrg12 : inR (nI j12) 0 19 := inR_ix hs12 (show j12 < 20 by omega) (by decide) (by decide) (by decide)
            have hlt12 : j12 < 20 := by omega
            refine R_iload_n (pc := 12) dX9_findUnlike_12 rfl rfl ?_
            refine R_iload_n (pc := 13) dX9_findUnlike_13 rfl rfl ?_
            refine R_icge (pc := 14) 62 dX9_findUnlike_14 (by decide) (fun b14_6 => ?_) (fun b14_6 => ?_)
            · skip
              refine inc_3_1_1_a (pc := 62) dX9_findUnlike_62 ?_
              have r7 : inR ((nI j2) + 1) 1 20 := inR_add (show inR (nI j2) 0 19 from hrg2) (show inR 1 1 1 from (inR_self _)) (by decide) (by decide)
              have e8 := ti_add (l := 1) (h := 20) (show inR (nI j2) 0 19 from hrg2) (show inR 1 1 1 from (inR_self _)) (by decide) (by decide)
              refine R_goto (pc := 65) 2 dX9_findUnlike_65 (by decide) ?_
              rw [nI_1]
              exact ih2 (j2 + 1) _ _ (by omega) (by omega) hI12 hC12 (ut_e hX12_0 ((nI_leI (by omega) (by omega)).mp b14_6)) hX12_1 (nI_sle (by omega) b7_2)
            · skip
              refine R_aload_n (pc := 17) dX9_findUnlike_17 rfl rfl ?_
              refine g_X9_51 (pc := 18) (v := .ref 151) rfl dX9_findUnlike_18 (c_140 _) rfl ?_
              refine R_bipush (pc := 21) (v := 20) dX9_findUnlike_21 (by decide) ?_
              refine R_iload_n (pc := 23) dX9_findUnlike_23 rfl rfl ?_
              refine R_imul (pc := 24) dX9_findUnlike_24 ?_
              have r9 : inR (20 * (nI j2)) 0 380 := inR_mulc (c := 20) (l := 0) (h := 380) 20 (by decide) (show inR (nI j2) 0 19 from hrg2) (by decide) (by decide)
              have e10 := ti_mulc (c := 20) (l := 0) (h := 380) 20 (by decide) (show inR (nI j2) 0 19 from hrg2) (by decide) (by decide)
              refine R_iload_n (pc := 25) dX9_findUnlike_25 rfl rfl ?_
              refine R_iadd (pc := 26) dX9_findUnlike_26 ?_
              have r11 : inR ((20 * (nI j2)) + (nI j12)) 0 399 := inR_add (show inR (20 * (nI j2)) 0 380 from r9) (show inR (nI j12) 0 19 from hrg12) (by decide) (by decide)
              have e12 := ti_add (l := 0) (h := 399) (show inR (20 * (nI j2)) 0 380 from r9) (show inR (nI j12) 0 19 from hrg12) (by decide) (by decide)
              refine R_aload_n (pc := 27) dX9_findUnlike_27 rfl rfl ?_
              refine R_iload_n (pc := 28) dX9_findUnlike_28 rfl rfl ?_
              refine R_iload_n (pc := 29) dX9_findUnlike_29 rfl rfl ?_
              refine k_X9_148 (pc := 30) (gn_X9_unlikeOf _ _ _ hI12 hrg2 hrg12) rfl (c_140 _) (by decide) (Nat.le_refl _) (Nat.le_refl _) (Nat.le_of_ble_eq_true rfl) dX9_findUnlike_30 (fun x w2 h => ?_)
              obtain ⟨rfl, rfl⟩ := h
              refine R_cv (DVm σ j2 j12) (dvm_at hC12 (by omega) (by omega)) ?_
              have hx13 : vp_in ((20 * (nI j2)) + (nI j12)) 400 := (vp_of_inR r11 (by decide))
              refine W_iastore (pc := 33) dX9_findUnlike_33 (c_151 _) hx13 (a_151 _ _) ?_
              have hW14 := cor_sa 151 (upd (σ12.2.2.1 151) (Int32.toNatClampNeg ((20 * (nI j2)) + (nI j12))) (DVm σ j2 j12)) hC12 rfl
              refine R_aload_n (pc := 34) dX9_findUnlike_34 rfl rfl ?_
              refine g_X9_51 (pc := 35) (v := .ref 151) rfl dX9_findUnlike_35 (c_140 _) rfl ?_
              refine R_bipush (pc := 38) (v := 20) dX9_findUnlike_38 (by decide) ?_
              refine R_iload_n (pc := 40) dX9_findUnlike_40 rfl rfl ?_
              refine R_imul (pc := 41) dX9_findUnlike_41 ?_
              have r15 : inR (20 * (nI j12)) 0 380 := inR_mulc (c := 20) (l := 0) (h := 380) 20 (by decide) (show inR (nI j12) 0 19 from hrg12) (by decide) (by decide)
              have e16 := ti_mulc (c := 20) (l := 0) (h := 380) 20 (by decide) (show inR (nI j12) 0 19 from hrg12) (by decide) (by decide)
              refine R_iload_n (pc := 42) dX9_findUnlike_42 rfl rfl ?_
              refine R_iadd (pc := 43) dX9_findUnlike_43 ?_
              have r17 : inR ((20 * (nI j12)) + (nI j2)) 0 399 := inR_add (show inR (20 * (nI j12)) 0 380 from r15) (show inR (nI j2) 0 19 from hrg2) (by decide) (by decide)
              have e18 := ti_add (l := 0) (h := 399) (show inR (20 * (nI j12)) 0 380 from r15) (show inR (nI j2) 0 19 from hrg2) (by decide) (by decide)
              refine R_aload_n (pc := 44) dX9_findUnlike_44 rfl rfl ?_
              refine g_X9_51 (pc := 45) (v := .ref 151) rfl dX9_findUnlike_45 (c_140 _) rfl ?_
              refine R_bipush (pc := 48) (v := 20) dX9_findUnlike_48 (by decide) ?_
              refine R_iload_n (pc := 50) dX9_findUnlike_50 rfl rfl ?_
              refine R_imul (pc := 51) dX9_findUnlike_51 ?_
              have r19 : inR (20 * (nI j2)) 0 380 := inR_mulc (c := 20) (l := 0) (h := 380) 20 (by decide) (show inR (nI j2) 0 19 from hrg2) (by decide) (by decide)
              have e20 := ti_mulc (c := 20) (l := 0) (h := 380) 20 (by decide) (show inR (nI j2) 0 19 from hrg2) (by decide) (by decide)
              refine R_iload_n (pc := 52) dX9_findUnlike_52 rfl rfl ?_
              refine R_iadd (pc := 53) dX9_findUnlike_53 ?_
              have r21 : inR ((20 * (nI j2)) + (nI j12)) 0 399 := inR_add (show inR (20 * (nI j2)) 0 380 from r19) (show inR (nI j12) 0 19 from hrg12) (by decide) (by decide)
              have e22 := ti_add (l := 0) (h := 399) (show inR (20 * (nI j2)) 0 380 from r19) (show inR (nI j12) 0 19 from hrg12) (by decide) (by decide)
              have hx23 : vp_in ((20 * (nI j2)) + (nI j12)) 400 := (vp_of_inR r21 (by decide))
              refine W_iaload (pc := 54) (DVm σ j2 j12) dX9_findUnlike_54 (c_151 _) hx23 (upd_at _ _ _) ?_
              have hx24 : vp_in ((20 * (nI j12)) + (nI j2)) 400 := (vp_of_inR r17 (by decide))
              refine W_iastore (pc := 55) dX9_findUnlike_55 (c_151 _) hx24 (a_151 _ _) ?_
              have hW25 := cor_sa 151 (upd ((uA σ12 151 (upd (σ12.2.2.1 151) (Int32.toNatClampNeg ((20 * (nI j2)) + (nI j12))) (DVm σ j2 j12))).2.2.1 151) (Int32.toNatClampNeg ((20 * (nI j12)) + (nI j2))) (DVm σ j2 j12)) hW14 rfl
              refine inc_3_2_1_i (pc := 56) dX9_findUnlike_56 ?_
              have r26 : inR ((nI j12) + 1) 1 20 := inR_add (show inR (nI j12) 0 19 from hrg12) (show inR 1 1 1 from (inR_self _)) (by decide) (by decide)
              have e27 := ti_add (l := 1) (h := 20) (show inR (nI j12) 0 19 from hrg12) (show inR 1 1 1 from (inR_self _)) (by decide) (by decide)
              refine R_goto (pc := 59) 12 dX9_findUnlike_59 (by decide) ?_
              rw [nI_1]
              exact ih12 (j12 + 1) _ (by omega) (by omega) hI12 hW25 (ut_s hX12_0 (idx20 (by omega) (by omega)) (idx20 (by omega) (by omega)) (by omega) (Nat.lt_of_not_le (fun q => b14_6 ((nI_leI (by omega) (by omega)).mpr q))) rfl) (fq_a 151 _ (fq_a 151 _ hX12_1 rfl) rfl)
        exact HL12 20 0 _ (by omega) (by omega) hI2 hC2 hX2_0 hX2_1
  exact HL2 20 0 _ _ (by omega) (by omega) hI (show Cor σ σ from Cor.rfl' σ) ut_0 (fq_rfl _ σ) (show (0 : Int32) ≤ (σ.1 14000) from Int32.not_lt.mp (iv_14000 hI).1)
