/-! methods on any state that keeps the invariant -/
theorem by_n9 {σ : Sg} (hI : Inv σ) : σ.1 14037 = nI (Int32.toNatClampNeg (σ.1 14037)) ∧ Int32.toNatClampNeg (σ.1 14037) ≤ 160 := by
  obtain ⟨k, hk, e⟩ := nI_inR (M := 160) (iv_14037 hI) (by decide)
  rw [e, nI_clamp (by omega)]
  exact ⟨rfl, hk⟩
theorem rc_keep {r r2 f : Nat → Int32} {n : Nat} (h : RC r f n) (hz : (rdZ f n).toNatClampNeg ≤ 8) (e : ∀ j : Nat, j < 48 → r2 j = r j) : RC r2 f n := by
  intro i hi
  have q := h i hi
  unfold LnC
  rw [e (6 * i) (by omega), e (6 * i + 1) (by omega), e (6 * i + 2) (by omega), e (6 * i + 3) (by omega), e (6 * i + 4) (by omega), e (6 * i + 5) (by omega)]
  exact q
theorem cor_iv {ρ σ : Sg} {n : Nat} {v v2 : Int32} (e : v = v2) (h : Cor (uI ρ n v) σ) : Cor (uI ρ n v2) σ := by
  subst e
  exact h
theorem cpl_s {g r : Nat → Int32} {j k : Nat} (h : ∀ q : Nat, q < j → g q = r q) (hk : k = j) : ∀ q : Nat, q < j + 1 → upd g k (r k) q = r q := by
  subst hk
  intro q hq
  by_cases e : q = k
  · rw [e, upd_at]
  · rw [upd_ne _ e]; exact h q (by omega)
set_option maxRecDepth 100000 in
set_option maxHeartbeats 40000000 in
theorem gq_X9_catalogue {G : vG} {l : Launch} (σ : Sg)  (hI : Inv σ) : Sp G l yX9_catalogue cX9_catalogue 2 (some .int) 5 0 0 [.ref 140] (WW σ) (QI (fun x w2 => x = catF (σ.2.2.1 170) (Int32.toNatClampNeg (σ.1 14037)) ∧ ∃ σ2, w2 = WW σ2 ∧ Inv σ2 ∧ (¬ rdR (σ.2.2.1 170) (Int32.toNatClampNeg (σ.1 14037)) = -1 ∧ Cor σ σ2 ∨ rdR (σ.2.2.1 170) (Int32.toNatClampNeg (σ.1 14037)) = -1 ∧ ∃ g, RC g (σ.2.2.1 170) (Int32.toNatClampNeg (σ.1 14037)) ∧ Cor (uI (uA σ 172 g) 14047 (rdZ (σ.2.2.1 170) (Int32.toNatClampNeg (σ.1 14037)))) σ2))) := by
  refine Sp_of_R [(some (.ref 140)), none] [none] rfl (by simp) rfl (Nat.le_of_ble_eq_true rfl) ?_
  refine R_aload_n (pc := 0) dX9_catalogue_0 rfl rfl ?_
  refine k_X9_315 (pc := 1) (ge_X9_isRead _ (σ.2.2.1 170) (Int32.toNatClampNeg (σ.1 14037)) hI (by_n9 hI).1 rfl (by_n9 hI).2) rfl (c_140 _) (by decide) (Nat.le_refl _) (Nat.le_refl _) (Nat.le_of_ble_eq_true rfl) dX9_catalogue_1 (fun x w2 h => ?_)
  obtain ⟨σx2, rfl, hV1, hW3, hb⟩ := h
  have hW4 := Cor.trans (show Cor σ σ from Cor.rfl' σ) hW3
  rcases hb with ⟨rfl, hR, hZ, hz8, hRC⟩ | ⟨rfl, hR, hff⟩
  · skip
    refine R_ifne (pc := 4) 10 dX9_catalogue_4 (by decide) (fun _ => ?_) (fun h => absurd h (by decide))
    refine R_iconst (pc := 10) (v := 0) dX9_catalogue_10 (by decide) ?_
    refine st_2_1_i_a (pc := 11) dX9_catalogue_11 ?_
    have HL12 : ∀ (q j12 : Nat) (σ12 : Sg), j12 + q = 48 → 0 ≤ j12 → Inv σ12 → σ12.1 14045 = σx2.1 14045 → (∃ fL, Cor (uA σ 172 fL) σ12 ∧ (∀ q : Nat, q < j12 → fL q = (σx2.2.2.1 171) q) ∧ σ12.2.2.1 171 = σx2.2.2.1 171) → R G l yX9_catalogue cX9_catalogue 2 (some .int) 5 0 0 (QI (fun x w2 => x = catF (σ.2.2.1 170) (Int32.toNatClampNeg (σ.1 14037)) ∧ ∃ σ2, w2 = WW σ2 ∧ Inv σ2 ∧ (¬ rdR (σ.2.2.1 170) (Int32.toNatClampNeg (σ.1 14037)) = -1 ∧ Cor σ σ2 ∨ rdR (σ.2.2.1 170) (Int32.toNatClampNeg (σ.1 14037)) = -1 ∧ ∃ g, RC g (σ.2.2.1 170) (Int32.toNatClampNeg (σ.1 14037)) ∧ Cor (uI (uA σ 172 g) 14047 (rdZ (σ.2.2.1 170) (Int32.toNatClampNeg (σ.1 14037)))) σ2))) 12 [(some (.ref 140)), (some (.int (nI j12)))] [] (WW σ12) 0 0 := by
      intro q
      induction q with
      | zero =>
        intro j12 σ12 hj hs12 hI12 hk12_14045 hX12_0
        obtain rfl : j12 = 48 := by omega
        obtain ⟨fL, hL9, hE9, hR9⟩ := hX12_0
        refine R_iload_n (pc := 12) dX9_catalogue_12 rfl rfl ?_
        refine R_bipush (pc := 13) (v := 48) dX9_catalogue_13 (by decide) ?_
        refine R_icge (pc := 15) 36 dX9_catalogue_15 (by decide) (fun _ => ?_) (fun h => absurd (by decide) h)
        refine R_aload_n (pc := 36) dX9_catalogue_36 rfl rfl ?_
        refine R_aload_n (pc := 37) dX9_catalogue_37 rfl rfl ?_
        refine g_X9_309 (pc := 38) (v := .int (σ12.1 14045)) rfl dX9_catalogue_38 (c_140 _) rfl ?_
        refine p_X9_215 (pc := 41) rfl dX9_catalogue_41 (c_140 _) (Nat.le_of_ble_eq_true rfl) rfl rfl (s_140_47 _ _) ?_
        have hV7 := su_14047 hI12 (show inR (σ12.1 14045) 0 8 from of_ti (by have q0 := ti_eq hk12_14045; have q1 := ti_in hz8; have z0 : (0 : Int32).toInt = 0 := (by decide); have z1 : (1 : Int32).toInt = 1 := (by decide); have z2 : (8 : Int32).toInt = 8 := (by decide); omega) (by have q0 := ti_eq hk12_14045; have q1 := ti_in hz8; have z0 : (0 : Int32).toInt = 0 := (by decide); have z1 : (1 : Int32).toInt = 1 := (by decide); have z2 : (8 : Int32).toInt = 8 := (by decide); omega))
        have hW8 := cor_ci 14047 (σ12.1 14045) hL9
        refine R_aload_n (pc := 44) dX9_catalogue_44 rfl rfl ?_
        refine g_X9_215 (pc := 45) (v := .int (σ12.1 14045)) rfl dX9_catalogue_45 (c_140 _) rfl ?_
        exact R_iret (pc := 48) dX9_catalogue_48 rfl rfl (Nat.zero_le _) (Nat.zero_le _) ⟨_, rfl, (hk12_14045.trans hZ).trans (catF_t hR).symm, _, rfl, hV7, Or.inr ⟨hR, fL, rc_keep hRC (by rw [← hZ]; exact clamp8 hz8) hE9, cor_iv (hk12_14045.trans hZ) hW8⟩⟩
      | succ q ih12 =>
        intro j12 σ12 hj hs12 hI12 hk12_14045 hX12_0
        have hrg12 : inR (nI j12) 0 47 := inR_ix hs12 (show j12 < 48 by omega) (by decide) (by decide) (by decide)
        have hlt12 : j12 < 48 := by omega
        obtain ⟨fL, hL9, hE9, hR9⟩ := hX12_0
        refine R_iload_n (pc := 12) dX9_catalogue_12 rfl rfl ?_
        refine R_bipush (pc := 13) (v := 48) dX9_catalogue_13 (by decide) ?_
        refine R_icge (pc := 15) 36 dX9_catalogue_15 (by decide) (fun h => False.elim (by have q1 := ti_le h; have q2 := ti_in (show inR (nI j12) 0 47 from hrg12); have q3 := ti_in (show inR 48 48 48 from (inR_self _)); have z0 : (0 : Int32).toInt = 0 := (by decide);  have z1 : (47 : Int32).toInt = 47 := (by decide);  have z2 : (48 : Int32).toInt = 48 := (by decide); omega)) (fun _ => ?_)
        refine R_aload_n (pc := 18) dX9_catalogue_18 rfl rfl ?_
        refine g_X9_114 (pc := 19) (v := .ref 172) rfl dX9_catalogue_19 (c_140 _) rfl ?_
        refine R_iload_n (pc := 22) dX9_catalogue_22 rfl rfl ?_
        refine R_aload_n (pc := 23) dX9_catalogue_23 rfl rfl ?_
        refine g_X9_111 (pc := 24) (v := .ref 171) rfl dX9_catalogue_24 (c_140 _) rfl ?_
        refine R_iload_n (pc := 27) dX9_catalogue_27 rfl rfl ?_
        have hx10 : vp_in (nI j12) 48 := (vp_in_nI (by omega) (by decide))
        refine R_iaload (pc := 28) dX9_catalogue_28 (c_171 _) hx10 ?_
        have hx11 : vp_in (nI j12) 48 := (vp_in_nI (by omega) (by decide))
        refine W_iastore (pc := 29) dX9_catalogue_29 (c_172 _) hx11 (a_172 _ _) ?_
        have hW12 := cor_ca 172 (Int32.toNatClampNeg (nI j12)) (σ12.2.2.1 171 (Int32.toNatClampNeg (nI j12))) hL9 rfl
        refine inc_2_1_1_a (pc := 30) dX9_catalogue_30 ?_
        have r13 : inR ((nI j12) + 1) 1 48 := inR_add (show inR (nI j12) 0 47 from hrg12) (show inR 1 1 1 from (inR_self _)) (by decide) (by decide)
        have e14 := ti_add (l := 1) (h := 48) (show inR (nI j12) 0 47 from hrg12) (show inR 1 1 1 from (inR_self _)) (by decide) (by decide)
        refine R_goto (pc := 33) 12 dX9_catalogue_33 (by decide) ?_
        rw [nI_1]
        exact ih12 (j12 + 1) _ (by omega) (by omega) hI12 hk12_14045 ⟨_, cor_uu hW12, (by rw [hR9]; exact cpl_s hE9 (nI_clamp (by omega))), hR9⟩
    exact HL12 48 0 _ (by omega) (by omega) hV1 rfl ⟨_, cor_u0 172 hW4, (fun q hq => absurd hq (by omega)), rfl⟩
  · skip
    refine R_ifne (pc := 4) 10 dX9_catalogue_4 (by decide) (fun h => absurd (by decide) h) (fun _ => ?_)
    refine R_bipush (pc := 7) (v := (-4)) dX9_catalogue_7 (by decide) ?_
    exact R_iret (pc := 9) dX9_catalogue_9 rfl rfl (Nat.zero_le _) (Nat.zero_le _) ⟨_, rfl, (catF_f hR).symm, _, rfl, hV1, Or.inl ⟨hR, hW4⟩⟩
