/-! methods on any state that keeps the invariant -/
/-! the reference's own words, from its tables -/
def rvM (σ : Sg) (c : Int32) : Int32 := nI (rvN (fun o => AMp σ o && (!decide (nI o = c) && mtD σ c (nI o))) (σ.2.2.1 141) 20)
noncomputable def snM (σ : Sg) (c : Int32) : Int32 := nI (cb (vsI (kin (mtN σ) (AMp σ) (Int32.toNatClampNeg c)) (σ.2.2.1 141) 20) 20)
noncomputable def puM (σ : Sg) (c : Int32) : Int32 := nI (cb (vsI (kin (lkN σ) (AMp σ) (Int32.toNatClampNeg c)) (σ.2.2.1 142) 20) 20)
theorem TMn_c {σ τ : Sg} (h : Cor σ τ) : TMn τ = TMn σ := cor_tm h
theorem TMn_20 (σ : Sg) : TMn σ ≤ 20 := tm_le _ _ _
theorem HM_c {σ τ : Sg} (h : Cor σ τ) (p : Int32) : HM τ p = HM σ p := by
  funext k
  unfold HM hasM
  rw [h.1 14000 rfl, h.1 14013 rfl, h.2.2.1 148 rfl, h.2.2.1 142 rfl, h.2.2.1 143 rfl]
theorem AMp_ge {σ : Sg} {i : Nat} (h : TMn σ ≤ i) : AMp σ i = false := decide_eq_false (by omega)
theorem AMp_lt {σ : Sg} {i : Nat} (h : i < TMn σ) : AMp σ i = true := decide_eq_true h
theorem kin_ge {R : Nat → Nat → Bool} {σ : Sg} {c i : Nat} (hc : AMp σ c = true) (h : TMn σ ≤ i) : kin R (AMp σ) c i = false := by
  cases hk : kin R (AMp σ) c i
  · rfl
  · have q := kin_AM hc hk
    rw [AMp_ge h] at q; cases q
theorem vs_kin {R : Nat → Nat → Bool} {σ : Sg} {li : Nat → Int32} {c : Nat} (hc : AMp σ c = true) : vsI (kin R (AMp σ) c) li (TMn σ) = vsI (kin R (AMp σ) c) li 20 := by
  have e := vs_ext (K := kin R (AMp σ) c) (li := li) (n := TMn σ) (fun i hi => kin_ge hc hi) (20 - TMn σ)
  have := TMn_20 σ
  rw [show TMn σ + (20 - TMn σ) = 20 by omega] at e
  exact e.symm
theorem ls_kin {σ τ : Sg} {f : Nat → Int32} {c : Nat} (hI : Inv σ) (h : Cor σ τ) (hc : AMp σ c = true) (hf : ∀ i, AMp σ i = true → f i = nI (lab (mtN σ) (AMp σ) i)) : lsR f (τ.2.2.1 141) (f c) (TMn τ) = vsI (kin (mtN σ) (AMp σ) c) (σ.2.2.1 141) 20 := by
  rw [h.2.2.1 141 rfl, TMn_c h, ← vs_kin hc]
  refine (vs_ls _ (fun i hi => ?_)).symm
  exact (neg_kin (sym_mtN hI) hc (AMp_lt hi) (hf i (AMp_lt hi)) (hf c hc)).symm
theorem rv_kin {σ τ : Sg} {c : Int32} (hI : Inv σ) (h : Cor σ τ) (hu : UT (DVm σ) (τ.2.2.1 151) (Int32.toNatClampNeg (σ.1 14000))) (hc : thM σ c = true) (hr : inR c 0 19) : nI (rvN (pvM τ c) (τ.2.2.1 141) (TMn τ)) = rvM σ c := by
  unfold rvM
  rw [h.2.2.1 141 rfl]
  have e := rv_ext (P := fun o => AMp σ o && (!decide (nI o = c) && mtD σ c (nI o))) (li := σ.2.2.1 141) (n := TMn σ) (fun i hi => by show (AMp σ i && _) = false; rw [AMp_ge hi]; rfl) (20 - TMn σ)
  have t := TMn_20 σ
  rw [show TMn σ + (20 - TMn σ) = 20 by omega] at e
  rw [e, TMn_c h]
  refine congrArg nI (rv_congr (fun o ho => ⟨?_, rfl⟩))
  show (!decide (nI o = c) && mtM τ c (nI o)) = (AMp σ o && (!decide (nI o = c) && mtD σ c (nI o)))
  rw [AMp_lt ho, Bool.true_and]
  by_cases q : nI o = c
  · rw [decide_eq_true q, Bool.not_true, Bool.false_and, Bool.false_and]
  · have hcl := of_decide_eq_true (AMp_th hc)
    have m := mt9_D hI h hu (x := (Int32.toNatClampNeg c)) (y := o) (by rw [TMn_c h]; exact hcl) (by rw [TMn_c h]; exact ho) (fun e2 => q (by rw [← e2]; exact nI_of_in hr))
    rw [nI_of_in hr] at m
    rw [m]
theorem pr_kin {σ τ : Sg} {c : Int32} (hI : Inv σ) (h : Cor σ τ) (hu : UT (DVm σ) (τ.2.2.1 151) (Int32.toNatClampNeg (σ.1 14000))) (hc : thM σ c = true) (hr : inR c 0 19) (hf : ∀ i, AMp σ i = true → τ.2.2.1 153 i = nI (lab (mtN σ) (AMp σ) i)) : prV (τ.1 14014) (nI (cb (lsR (τ.2.2.1 153) (τ.2.2.1 141) (τ.2.2.1 153 (Int32.toNatClampNeg c)) (TMn τ)) 20)) (byG (HM τ (τ.2.2.1 142 (Int32.toNatClampNeg c))) (τ.2.2.1 143 (Int32.toNatClampNeg c)).toNatClampNeg) (decide (0 < nI (rvN (pvM τ c) (τ.2.2.1 141) (TMn τ)))) = prV (σ.1 14014) (snM σ c) (byG (HM σ (σ.2.2.1 142 (Int32.toNatClampNeg c))) (σ.2.2.1 143 (Int32.toNatClampNeg c)).toNatClampNeg) (decide (0 < rvM σ c)) := by
  rw [ls_kin hI h (AMp_th hc) hf, rv_kin hI h hu hc hr, HM_c h, h.1 14014 rfl, h.2.2.1 142 rfl, h.2.2.1 143 rfl]
  rfl
/-! both sides alike -/
theorem vs_20 {K : Nat → Bool} {li : Nat → Int32} (h : ∀ i, i < 20 → inR (li i) 0 4) : pcI (vsI K li 20) = nI (cb (vsI K li 20) 20) := pc_cb (fun k hk => vs_hi 20 (fun i hi _ => h i hi) k (by omega))
theorem sn_eq {σ σ2 : Sg} {c : Int32} (hI : Inv σ) (hT : Tie σ) (hL : ChL σ) (hD : ChD σ) (h1 : Cor σ σ2) (hc : thC σ c = true) : pcI (vsI (kin (fun a b => mtC σ (nI a) (nI b)) (tb (thI σ)) (Int32.toNatClampNeg c)) (σ.2.2.1 2) 20) = snM σ2 c := by
  unfold snM
  rw [kin_mt hI hT hL hD h1 (thI_c hI hc), h1.2.2.1 141 rfl, t_list hT]
  refine vs_20 (fun i hi => ?_)
  have q := iva_141 hI i hi
  rw [t_list hT] at q
  exact inR_up q (by decide) (by decide)
theorem pu_eq {σ σ2 : Sg} {c : Int32} (hI : Inv σ) (hT : Tie σ) (hD : ChD σ) (h1 : Cor σ σ2) (hc : thC σ c = true) : pcI (vsI (kin (fun a b => lkC σ (nI a) (nI b)) (tb (thI σ)) (Int32.toNatClampNeg c)) (σ.2.2.1 3) 20) = puM σ2 c := by
  unfold puM
  rw [kin_lk hI hT hD h1 (thI_c hI hc), h1.2.2.1 142 rfl, t_publ hT]
  exact vs_20 (fun i hi => t_pubr hT i hi)
theorem rv_eq {σ σ2 : Sg} {c : Int32} (hI : Inv σ) (hT : Tie σ) (hL : ChL σ) (hD : ChD σ) (h1 : Cor σ σ2) (hc : thC σ c = true) : rvC σ c = rvM σ2 c := by
  have hr := thC_r hI hc
  unfold rvC rvM
  rw [h1.2.2.1 141 rfl, t_list hT]
  refine congrArg nI (rv_congr (fun o ho => ⟨?_, rfl⟩))
  show (tb (thI σ) o && (!decide (nI o = c) && mtC σ c (nI o))) = (AMp σ2 o && (!decide (nI o = c) && mtD σ2 c (nI o)))
  rw [← thI_AM hI hT h1]
  cases ht : tb (thI σ) o
  · rw [Bool.false_and, Bool.false_and]
  · by_cases q : nI o = c
    · rw [decide_eq_true q, Bool.not_true, Bool.false_and, Bool.false_and]
    · have m := mtC_N hI hT hL hD h1 (x := (Int32.toNatClampNeg c)) (y := o) (thI_c hI hc) ht (fun e2 => q (by rw [← e2]; exact nI_of_in hr))
      have m2 : mtC σ (nI (Int32.toNatClampNeg c)) (nI o) = mtD σ2 (nI (Int32.toNatClampNeg c)) (nI o) := m
      rw [nI_of_in hr] at m2
      rw [m2]
theorem cb_one {K : Nat → Bool} {li : Nat → Int32} {c : Nat} (hc : c < 20) (hk : K c = true) (hl : inR (li c) 0 3) : 0 < cb (vsI K li 20) 20 := by
  have e := vs_ls (K := K) (on := fun i => bif K i then 1 else 0) (li := li) (one := 1) 20 (fun i _ => by cases K i <;> rfl)
  rw [e]
  have h1 := ls_tb (on := fun i => bif K i then 1 else 0) (li := li) (one := 1) (c := c) (by show (bif K c then (1 : Int32) else 0) = 1; rw [hk]; rfl) hl 20 hc
  have h3 := ti_in hl
  have z1 : (3 : Int32).toInt = 3 := by decide
  exact cb_pos h1 20 (by show (li c).toInt.toNat < 20; omega)
theorem nI_o : nI 1 = 1 := rfl
theorem mx_one {n : Nat} (h : 0 < n) (h2 : n ≤ 20) : (if 1 < nI n then nI n else 1) = nI n := by
  by_cases q : 1 < nI n
  · rw [if_pos q]
  · rw [if_neg q]
    have hn : ¬ 1 < n := fun e => q (by rw [← nI_o]; exact nI_lt e (by omega))
    have : n = 1 := by omega
    rw [this]; exact nI_o.symm
theorem mx_sn {σ σ2 : Sg} {c : Int32} (hI : Inv σ) (hT : Tie σ) (hL : ChL σ) (hD : ChD σ) (h1 : Cor σ σ2) (hI2 : Inv σ2) (hc : thC σ c = true) : (if 1 < pcI (vsI (kin (fun a b => mtC σ (nI a) (nI b)) (tb (thI σ)) (Int32.toNatClampNeg c)) (σ.2.2.1 2) 20) then pcI (vsI (kin (fun a b => mtC σ (nI a) (nI b)) (tb (thI σ)) (Int32.toNatClampNeg c)) (σ.2.2.1 2) 20) else 1) = snM σ2 c := by
  rw [sn_eq hI hT hL hD h1 hc]
  exact mx_one (cb_one (clamp19 (thC_r hI hc)) (kin_t (rch_0 _ _ _)) (iva_141 hI2 _ (clamp19 (thC_r hI hc)))) (cb_le _ _)
set_option maxRecDepth 100000 in
set_option maxHeartbeats 40000000 in
theorem gn_X9_priceOf {G : vG} {l : Launch} (σ : Sg) (c : Int32) (hI : Inv σ) (hc : inR c 0 19) (ht : c.toNatClampNeg < (tm (σ.1 14000) (σ.1 14013) (σ.2.2.1 148))) (hnc : inR (σ.2.2.1 143 (Int32.toNatClampNeg c)) 0 99) : Sp G l yX9_priceOf cX9_priceOf 5 (some .int) 4 0 0 [.ref 140, .int c] (WW σ) (QI (fun x w2 => ∃ σ2, w2 = WW σ2 ∧ Inv σ2 ∧ Cor σ σ2 ∧ x = (prV (σ.1 14014) (nI (cb (lsR (σ.2.2.1 153) (σ.2.2.1 141) (σ.2.2.1 153 (Int32.toNatClampNeg c)) (tm (σ.1 14000) (σ.1 14013) (σ.2.2.1 148))) 20)) (byG (HM σ (σ.2.2.1 142 (Int32.toNatClampNeg c))) (Int32.toNatClampNeg (σ.2.2.1 143 (Int32.toNatClampNeg c)))) (decide (0 < nI (rvN (pvM σ c) (σ.2.2.1 141) (tm (σ.1 14000) (σ.1 14013) (σ.2.2.1 148)))))))) := by
  refine Sp_of_R [(some (.ref 140)), (some (.int c)), none, none, none] [none, none, none] rfl (by simp) rfl (Nat.le_of_ble_eq_true rfl) ?_
  refine R_aload_n (pc := 0) dX9_priceOf_0 rfl rfl ?_
  refine g_X9_48 (pc := 1) (v := .int (σ.1 14014)) rfl dX9_priceOf_1 (c_140 _) rfl ?_
  refine R_aload_n (pc := 4) dX9_priceOf_4 rfl rfl ?_
  refine R_aload_n (pc := 5) dX9_priceOf_5 rfl rfl ?_
  refine g_X9_57 (pc := 6) (v := .ref 153) rfl dX9_priceOf_6 (c_140 _) rfl ?_
  refine R_iload_n (pc := 9) dX9_priceOf_9 rfl rfl ?_
  have hx1 : vp_in c 20 := (vp_of_inR hc (by decide))
  refine R_iaload (pc := 10) dX9_priceOf_10 (c_153 _) hx1 ?_
  refine k_X9_169 (pc := 11) (ge_X9_listsOf _ _ hI) rfl (c_140 _) (by decide) (Nat.le_refl _) (Nat.le_refl _) (Nat.le_of_ble_eq_true rfl) dX9_priceOf_11 (fun x w2 h => ?_)
  obtain ⟨rfl, rfl⟩ := h
  refine k_X9_173 (pc := 14) (ge_X9_bits _ _) rfl (by decide) (Nat.le_refl _) (Nat.le_refl _) (Nat.le_of_ble_eq_true rfl) dX9_priceOf_14 (fun x w2 h => ?_)
  obtain ⟨rfl, rfl⟩ := h
  refine R_idiv (pc := 17) dX9_priceOf_17 (pr_ne hI hc ht) ?_
  refine st_5_2_i_i (pc := 18) dX9_priceOf_18 ?_
  refine R_aload_n (pc := 19) dX9_priceOf_19 rfl rfl ?_
  refine g_X9_16 (pc := 20) (v := .ref 143) rfl dX9_priceOf_20 (c_140 _) rfl ?_
  refine R_iload_n (pc := 23) dX9_priceOf_23 rfl rfl ?_
  have hx2 : vp_in c 20 := (vp_of_inR hc (by decide))
  refine R_iaload (pc := 24) dX9_priceOf_24 (c_143 _) hx2 ?_
  refine st_5_3_i_i (pc := 25) dX9_priceOf_25 ?_
  refine R_iload_n (pc := 26) dX9_priceOf_26 rfl rfl ?_
  refine R_ifle (pc := 27) 66 dX9_priceOf_27 (by decide) (fun b27_3 => ?_) (fun b27_3 => ?_)
  · skip
    refine R_iconst (pc := 66) (v := 0) dX9_priceOf_66 (by decide) ?_
    refine st_5_4_i_i (pc := 67) dX9_priceOf_67 ?_
    refine R_iload (pc := 69) dX9_priceOf_69 rfl ?_
    refine R_ifeq (pc := 71) 82 dX9_priceOf_71 (by decide) (fun _ => ?_) (fun h => absurd (by decide) h)
    refine R_iload_n (pc := 82) dX9_priceOf_82 rfl rfl ?_
    refine st_5_2_i_i (pc := 83) dX9_priceOf_83 ?_
    refine R_aload_n (pc := 84) dX9_priceOf_84 rfl rfl ?_
    refine R_iload_n (pc := 85) dX9_priceOf_85 rfl rfl ?_
    refine k_X9_179 (pc := 86) (gn_X9_rivalsOf _ _ hI hc) rfl (c_140 _) (by decide) (Nat.le_refl _) (Nat.le_refl _) (Nat.le_of_ble_eq_true rfl) dX9_priceOf_86 (fun x w2 h => ?_)
    obtain ⟨σx6, rfl, hV5, hW7, hq8, rfl⟩ := h
    refine R_cv (nI (rvN (pvM σ c) (σ.2.2.1 141) (tm (σ.1 14000) (σ.1 14013) (σ.2.2.1 148)))) rfl ?_
    have hW9 := Cor.trans (show Cor σ σ from Cor.rfl' σ) hW7
    refine R_ifle (pc := 89) 100 dX9_priceOf_89 (by decide) (fun b89_10 => ?_) (fun b89_10 => ?_)
    · skip
      refine R_iload_n (pc := 100) dX9_priceOf_100 rfl rfl ?_
      exact R_iret (pc := 101) dX9_priceOf_101 rfl rfl (Nat.zero_le _) (Nat.zero_le _) ⟨_, rfl, _, rfl, hV5, hW9, (by rw [(show byG (HM σ (σ.2.2.1 142 (Int32.toNatClampNeg c))) (Int32.toNatClampNeg (σ.2.2.1 143 (Int32.toNatClampNeg c))) = false from by unfold byG; rw [(show decide (0 < nI (Int32.toNatClampNeg (σ.2.2.1 143 (Int32.toNatClampNeg c)))) = false from by rw [← (nI_cl hnc).1]; exact (decide_eq_false (Int32.not_lt.mpr b27_3)))] <;> simp), (decide_eq_false (Int32.not_lt.mpr b89_10))]; exact (prV_ff _ _).symm)⟩
    · skip
      refine R_iload_n (pc := 92) dX9_priceOf_92 rfl rfl ?_
      refine R_iload_n (pc := 93) dX9_priceOf_93 rfl rfl ?_
      refine R_iconst (pc := 94) (v := 4) dX9_priceOf_94 (by decide) ?_
      refine R_idiv (pc := 95) dX9_priceOf_95 (by decide) ?_
      refine R_isub (pc := 96) dX9_priceOf_96 ?_
      refine R_goto (pc := 97) 101 dX9_priceOf_97 (by decide) ?_
      exact R_iret (pc := 101) dX9_priceOf_101 rfl rfl (Nat.zero_le _) (Nat.zero_le _) ⟨_, rfl, _, rfl, hV5, hW9, (by rw [(show byG (HM σ (σ.2.2.1 142 (Int32.toNatClampNeg c))) (Int32.toNatClampNeg (σ.2.2.1 143 (Int32.toNatClampNeg c))) = false from by unfold byG; rw [(show decide (0 < nI (Int32.toNatClampNeg (σ.2.2.1 143 (Int32.toNatClampNeg c)))) = false from by rw [← (nI_cl hnc).1]; exact (decide_eq_false (Int32.not_lt.mpr b27_3)))] <;> simp), (decide_eq_true (Int32.not_le.mp b89_10))]; exact (prV_ft _ _).symm)⟩
  · skip
    refine R_aload_n (pc := 30) dX9_priceOf_30 rfl rfl ?_
    refine R_aload_n (pc := 31) dX9_priceOf_31 rfl rfl ?_
    refine g_X9_13 (pc := 32) (v := .ref 142) rfl dX9_priceOf_32 (c_140 _) rfl ?_
    refine R_iload_n (pc := 35) dX9_priceOf_35 rfl rfl ?_
    have hx11 : vp_in c 20 := (vp_of_inR hc (by decide))
    refine R_iaload (pc := 36) dX9_priceOf_36 (c_142 _) hx11 ?_
    refine R_iload_n (pc := 37) dX9_priceOf_37 rfl rfl ?_
    refine R_iconst (pc := 38) (v := 1) dX9_priceOf_38 (by decide) ?_
    refine R_isub (pc := 39) dX9_priceOf_39 ?_
    refine k_X9_176 (pc := 40) (ge_X9_isMissing _ _ _ ((Int32.toNatClampNeg (σ.2.2.1 143 (Int32.toNatClampNeg c))) - 1) hI (nm1 hnc (Int32.not_le.mp b27_3)) (by have := (nI_cl hnc).2; omega)) rfl (c_140 _) (by decide) (Nat.le_refl _) (Nat.le_refl _) (Nat.le_of_ble_eq_true rfl) dX9_priceOf_40 (fun x w2 h => ?_)
    rcases h with ⟨rfl, ⟨h12, rfl⟩ | ⟨h12, rfl⟩⟩
    · skip
      refine R_ifne (pc := 43) 62 dX9_priceOf_43 (by decide) (fun _ => ?_) (fun h => absurd h (by decide))
      refine R_iconst (pc := 62) (v := 1) dX9_priceOf_62 (by decide) ?_
      refine R_goto (pc := 63) 67 dX9_priceOf_63 (by decide) ?_
      refine st_5_4_i_i (pc := 67) dX9_priceOf_67 ?_
      refine R_iload (pc := 69) dX9_priceOf_69 rfl ?_
      refine R_ifeq (pc := 71) 82 dX9_priceOf_71 (by decide) (fun h => absurd h (by decide)) (fun _ => ?_)
      refine R_iload_n (pc := 74) dX9_priceOf_74 rfl rfl ?_
      refine R_iload_n (pc := 75) dX9_priceOf_75 rfl rfl ?_
      refine R_iconst (pc := 76) (v := 2) dX9_priceOf_76 (by decide) ?_
      refine R_idiv (pc := 77) dX9_priceOf_77 (by decide) ?_
      refine R_iadd (pc := 78) dX9_priceOf_78 ?_
      refine R_goto (pc := 79) 83 dX9_priceOf_79 (by decide) ?_
      refine st_5_2_i_i (pc := 83) dX9_priceOf_83 ?_
      refine R_aload_n (pc := 84) dX9_priceOf_84 rfl rfl ?_
      refine R_iload_n (pc := 85) dX9_priceOf_85 rfl rfl ?_
      refine k_X9_179 (pc := 86) (gn_X9_rivalsOf _ _ hI hc) rfl (c_140 _) (by decide) (Nat.le_refl _) (Nat.le_refl _) (Nat.le_of_ble_eq_true rfl) dX9_priceOf_86 (fun x w2 h => ?_)
      obtain ⟨σx16, rfl, hV15, hW17, hq18, rfl⟩ := h
      refine R_cv (nI (rvN (pvM σ c) (σ.2.2.1 141) (tm (σ.1 14000) (σ.1 14013) (σ.2.2.1 148)))) rfl ?_
      have hW19 := Cor.trans (show Cor σ σ from Cor.rfl' σ) hW17
      refine R_ifle (pc := 89) 100 dX9_priceOf_89 (by decide) (fun b89_20 => ?_) (fun b89_20 => ?_)
      · skip
        refine R_iload_n (pc := 100) dX9_priceOf_100 rfl rfl ?_
        exact R_iret (pc := 101) dX9_priceOf_101 rfl rfl (Nat.zero_le _) (Nat.zero_le _) ⟨_, rfl, _, rfl, hV15, hW19, (by rw [(show byG (HM σ (σ.2.2.1 142 (Int32.toNatClampNeg c))) (Int32.toNatClampNeg (σ.2.2.1 143 (Int32.toNatClampNeg c))) = true from by unfold byG; rw [(show decide (0 < nI (Int32.toNatClampNeg (σ.2.2.1 143 (Int32.toNatClampNeg c)))) = true from by rw [← (nI_cl hnc).1]; exact (decide_eq_true (Int32.not_le.mp b27_3))), h12] <;> simp), (decide_eq_false (Int32.not_lt.mpr b89_20))]; exact (prV_tf _ _).symm)⟩
      · skip
        refine R_iload_n (pc := 92) dX9_priceOf_92 rfl rfl ?_
        refine R_iload_n (pc := 93) dX9_priceOf_93 rfl rfl ?_
        refine R_iconst (pc := 94) (v := 4) dX9_priceOf_94 (by decide) ?_
        refine R_idiv (pc := 95) dX9_priceOf_95 (by decide) ?_
        refine R_isub (pc := 96) dX9_priceOf_96 ?_
        refine R_goto (pc := 97) 101 dX9_priceOf_97 (by decide) ?_
        exact R_iret (pc := 101) dX9_priceOf_101 rfl rfl (Nat.zero_le _) (Nat.zero_le _) ⟨_, rfl, _, rfl, hV15, hW19, (by rw [(show byG (HM σ (σ.2.2.1 142 (Int32.toNatClampNeg c))) (Int32.toNatClampNeg (σ.2.2.1 143 (Int32.toNatClampNeg c))) = true from by unfold byG; rw [(show decide (0 < nI (Int32.toNatClampNeg (σ.2.2.1 143 (Int32.toNatClampNeg c)))) = true from by rw [← (nI_cl hnc).1]; exact (decide_eq_true (Int32.not_le.mp b27_3))), h12] <;> simp), (decide_eq_true (Int32.not_le.mp b89_20))]; exact (prV_tt _ _).symm)⟩
    · skip
      refine R_ifne (pc := 43) 62 dX9_priceOf_43 (by decide) (fun h => absurd (by decide) h) (fun _ => ?_)
      refine R_aload_n (pc := 46) dX9_priceOf_46 rfl rfl ?_
      refine R_aload_n (pc := 47) dX9_priceOf_47 rfl rfl ?_
      refine g_X9_13 (pc := 48) (v := .ref 142) rfl dX9_priceOf_48 (c_140 _) rfl ?_
      refine R_iload_n (pc := 51) dX9_priceOf_51 rfl rfl ?_
      have hx22 : vp_in c 20 := (vp_of_inR hc (by decide))
      refine R_iaload (pc := 52) dX9_priceOf_52 (c_142 _) hx22 ?_
      refine R_iload_n (pc := 53) dX9_priceOf_53 rfl rfl ?_
      refine R_iconst (pc := 54) (v := 1) dX9_priceOf_54 (by decide) ?_
      refine R_iadd (pc := 55) dX9_priceOf_55 ?_
      refine k_X9_176 (pc := 56) (ge_X9_isMissing _ _ _ ((Int32.toNatClampNeg (σ.2.2.1 143 (Int32.toNatClampNeg c))) + 1) hI (np1 hnc) (by have := (nI_cl hnc).2; omega)) rfl (c_140 _) (by decide) (Nat.le_refl _) (Nat.le_refl _) (Nat.le_of_ble_eq_true rfl) dX9_priceOf_56 (fun x w2 h => ?_)
      rcases h with ⟨rfl, ⟨h23, rfl⟩ | ⟨h23, rfl⟩⟩
      · skip
        refine R_ifeq (pc := 59) 66 dX9_priceOf_59 (by decide) (fun h => absurd h (by decide)) (fun _ => ?_)
        refine R_iconst (pc := 62) (v := 1) dX9_priceOf_62 (by decide) ?_
        refine R_goto (pc := 63) 67 dX9_priceOf_63 (by decide) ?_
        refine st_5_4_i_i (pc := 67) dX9_priceOf_67 ?_
        refine R_iload (pc := 69) dX9_priceOf_69 rfl ?_
        refine R_ifeq (pc := 71) 82 dX9_priceOf_71 (by decide) (fun h => absurd h (by decide)) (fun _ => ?_)
        refine R_iload_n (pc := 74) dX9_priceOf_74 rfl rfl ?_
        refine R_iload_n (pc := 75) dX9_priceOf_75 rfl rfl ?_
        refine R_iconst (pc := 76) (v := 2) dX9_priceOf_76 (by decide) ?_
        refine R_idiv (pc := 77) dX9_priceOf_77 (by decide) ?_
        refine R_iadd (pc := 78) dX9_priceOf_78 ?_
        refine R_goto (pc := 79) 83 dX9_priceOf_79 (by decide) ?_
        refine st_5_2_i_i (pc := 83) dX9_priceOf_83 ?_
        refine R_aload_n (pc := 84) dX9_priceOf_84 rfl rfl ?_
        refine R_iload_n (pc := 85) dX9_priceOf_85 rfl rfl ?_
        refine k_X9_179 (pc := 86) (gn_X9_rivalsOf _ _ hI hc) rfl (c_140 _) (by decide) (Nat.le_refl _) (Nat.le_refl _) (Nat.le_of_ble_eq_true rfl) dX9_priceOf_86 (fun x w2 h => ?_)
        obtain ⟨σx27, rfl, hV26, hW28, hq29, rfl⟩ := h
        refine R_cv (nI (rvN (pvM σ c) (σ.2.2.1 141) (tm (σ.1 14000) (σ.1 14013) (σ.2.2.1 148)))) rfl ?_
        have hW30 := Cor.trans (show Cor σ σ from Cor.rfl' σ) hW28
        refine R_ifle (pc := 89) 100 dX9_priceOf_89 (by decide) (fun b89_31 => ?_) (fun b89_31 => ?_)
        · skip
          refine R_iload_n (pc := 100) dX9_priceOf_100 rfl rfl ?_
          exact R_iret (pc := 101) dX9_priceOf_101 rfl rfl (Nat.zero_le _) (Nat.zero_le _) ⟨_, rfl, _, rfl, hV26, hW30, (by rw [(show byG (HM σ (σ.2.2.1 142 (Int32.toNatClampNeg c))) (Int32.toNatClampNeg (σ.2.2.1 143 (Int32.toNatClampNeg c))) = true from by unfold byG; rw [(show decide (0 < nI (Int32.toNatClampNeg (σ.2.2.1 143 (Int32.toNatClampNeg c)))) = true from by rw [← (nI_cl hnc).1]; exact (decide_eq_true (Int32.not_le.mp b27_3))), h12, h23] <;> simp), (decide_eq_false (Int32.not_lt.mpr b89_31))]; exact (prV_tf _ _).symm)⟩
        · skip
          refine R_iload_n (pc := 92) dX9_priceOf_92 rfl rfl ?_
          refine R_iload_n (pc := 93) dX9_priceOf_93 rfl rfl ?_
          refine R_iconst (pc := 94) (v := 4) dX9_priceOf_94 (by decide) ?_
          refine R_idiv (pc := 95) dX9_priceOf_95 (by decide) ?_
          refine R_isub (pc := 96) dX9_priceOf_96 ?_
          refine R_goto (pc := 97) 101 dX9_priceOf_97 (by decide) ?_
          exact R_iret (pc := 101) dX9_priceOf_101 rfl rfl (Nat.zero_le _) (Nat.zero_le _) ⟨_, rfl, _, rfl, hV26, hW30, (by rw [(show byG (HM σ (σ.2.2.1 142 (Int32.toNatClampNeg c))) (Int32.toNatClampNeg (σ.2.2.1 143 (Int32.toNatClampNeg c))) = true from by unfold byG; rw [(show decide (0 < nI (Int32.toNatClampNeg (σ.2.2.1 143 (Int32.toNatClampNeg c)))) = true from by rw [← (nI_cl hnc).1]; exact (decide_eq_true (Int32.not_le.mp b27_3))), h12, h23] <;> simp), (decide_eq_true (Int32.not_le.mp b89_31))]; exact (prV_tt _ _).symm)⟩
      · skip
        refine R_ifeq (pc := 59) 66 dX9_priceOf_59 (by decide) (fun _ => ?_) (fun h => absurd (by decide) h)
        refine R_iconst (pc := 66) (v := 0) dX9_priceOf_66 (by decide) ?_
        refine st_5_4_i_i (pc := 67) dX9_priceOf_67 ?_
        refine R_iload (pc := 69) dX9_priceOf_69 rfl ?_
        refine R_ifeq (pc := 71) 82 dX9_priceOf_71 (by decide) (fun _ => ?_) (fun h => absurd (by decide) h)
        refine R_iload_n (pc := 82) dX9_priceOf_82 rfl rfl ?_
        refine st_5_2_i_i (pc := 83) dX9_priceOf_83 ?_
        refine R_aload_n (pc := 84) dX9_priceOf_84 rfl rfl ?_
        refine R_iload_n (pc := 85) dX9_priceOf_85 rfl rfl ?_
        refine k_X9_179 (pc := 86) (gn_X9_rivalsOf _ _ hI hc) rfl (c_140 _) (by decide) (Nat.le_refl _) (Nat.le_refl _) (Nat.le_of_ble_eq_true rfl) dX9_priceOf_86 (fun x w2 h => ?_)
        obtain ⟨σx35, rfl, hV34, hW36, hq37, rfl⟩ := h
        refine R_cv (nI (rvN (pvM σ c) (σ.2.2.1 141) (tm (σ.1 14000) (σ.1 14013) (σ.2.2.1 148)))) rfl ?_
        have hW38 := Cor.trans (show Cor σ σ from Cor.rfl' σ) hW36
        refine R_ifle (pc := 89) 100 dX9_priceOf_89 (by decide) (fun b89_39 => ?_) (fun b89_39 => ?_)
        · skip
          refine R_iload_n (pc := 100) dX9_priceOf_100 rfl rfl ?_
          exact R_iret (pc := 101) dX9_priceOf_101 rfl rfl (Nat.zero_le _) (Nat.zero_le _) ⟨_, rfl, _, rfl, hV34, hW38, (by rw [(show byG (HM σ (σ.2.2.1 142 (Int32.toNatClampNeg c))) (Int32.toNatClampNeg (σ.2.2.1 143 (Int32.toNatClampNeg c))) = false from by unfold byG; rw [(show decide (0 < nI (Int32.toNatClampNeg (σ.2.2.1 143 (Int32.toNatClampNeg c)))) = true from by rw [← (nI_cl hnc).1]; exact (decide_eq_true (Int32.not_le.mp b27_3))), h12, h23] <;> simp), (decide_eq_false (Int32.not_lt.mpr b89_39))]; exact (prV_ff _ _).symm)⟩
        · skip
          refine R_iload_n (pc := 92) dX9_priceOf_92 rfl rfl ?_
          refine R_iload_n (pc := 93) dX9_priceOf_93 rfl rfl ?_
          refine R_iconst (pc := 94) (v := 4) dX9_priceOf_94 (by decide) ?_
          refine R_idiv (pc := 95) dX9_priceOf_95 (by decide) ?_
          refine R_isub (pc := 96) dX9_priceOf_96 ?_
          refine R_goto (pc := 97) 101 dX9_priceOf_97 (by decide) ?_
          exact R_iret (pc := 101) dX9_priceOf_101 rfl rfl (Nat.zero_le _) (Nat.zero_le _) ⟨_, rfl, _, rfl, hV34, hW38, (by rw [(show byG (HM σ (σ.2.2.1 142 (Int32.toNatClampNeg c))) (Int32.toNatClampNeg (σ.2.2.1 143 (Int32.toNatClampNeg c))) = false from by unfold byG; rw [(show decide (0 < nI (Int32.toNatClampNeg (σ.2.2.1 143 (Int32.toNatClampNeg c)))) = true from by rw [← (nI_cl hnc).1]; exact (decide_eq_true (Int32.not_le.mp b27_3))), h12, h23] <;> simp), (decide_eq_true (Int32.not_le.mp b89_39))]; exact (prV_ft _ _).symm)⟩
set_option maxRecDepth 100000 in
set_option maxHeartbeats 40000000 in
theorem gq_X9_of {G : vG} {l : Launch} (σ : Sg) (c b : Int32) (hI : Inv σ) (hnu : ∀ i : Nat, i < 20 → inR (σ.2.2.1 143 i) 0 99) : Sp G l yX9_of cX9_of 5 (some .int) 5 0 0 [.ref 140, .int c, .int b] (WW σ) (QI (fun x w2 => x = A_of (thM σ c) b (nI (lab (mtN σ) (AMp σ) (Int32.toNatClampNeg c))) (snM σ c) (rvM σ c) (prV (σ.1 14014) (snM σ c) (byG (HM σ (σ.2.2.1 142 (Int32.toNatClampNeg c))) (Int32.toNatClampNeg (σ.2.2.1 143 (Int32.toNatClampNeg c)))) (decide (0 < rvM σ c))) (puM σ c) ∧ ∃ σ2, w2 = WW σ2 ∧ Inv σ2 ∧ Cor σ σ2)) := by
  refine Sp_of_R [(some (.ref 140)), (some (.int c)), (some (.int b)), none, none] [none, none] rfl (by simp) rfl (Nat.le_of_ble_eq_true rfl) ?_
  refine R_aload_n (pc := 0) dX9_of_0 rfl rfl ?_
  refine R_iload_n (pc := 1) dX9_of_1 rfl rfl ?_
  refine k_X9_135 (pc := 2) (gf_X9_isThere _ _ hI) rfl (c_140 _) (by decide) (Nat.le_refl _) (Nat.le_refl _) (Nat.le_of_ble_eq_true rfl) dX9_of_2 (fun x w2 h => ?_)
  rcases h with ⟨rfl, ⟨h1, rfl⟩ | ⟨h1, rfl⟩⟩
  · skip
    refine R_ifne (pc := 5) 11 dX9_of_5 (by decide) (fun _ => ?_) (fun h => absurd h (by decide))
    refine R_iload_n (pc := 11) dX9_of_11 rfl rfl ?_
    refine R_iconst (pc := 12) (v := 0) dX9_of_12 (by decide) ?_
    refine R_iconst (pc := 13) (v := 4) dX9_of_13 (by decide) ?_
    refine k_X9_124 (pc := 14) (sp_X9_in _ _ _ _) rfl (by decide) (Nat.le_refl _) (Nat.le_refl _) (Nat.le_of_ble_eq_true rfl) dX9_of_14 (fun x w2 h => ?_)
    rcases h with ⟨rfl, ⟨h3, rfl⟩ | ⟨h3, rfl⟩⟩
    · skip
      refine R_ifne (pc := 17) 23 dX9_of_17 (by decide) (fun _ => ?_) (fun h => absurd h (by decide))
      refine R_aload_n (pc := 23) dX9_of_23 rfl rfl ?_
      refine k_X9_162 (pc := 24) (gn_X9_findUnlike _ hI) rfl (c_140 _) (by decide) (Nat.le_refl _) (Nat.le_refl _) (Nat.le_of_ble_eq_true rfl) dX9_of_24 (fun w2 h => ?_)
      obtain ⟨σx6, rfl, hV5, hW7, hq8, hu9⟩ := h
      have hW10 := Cor.trans (show Cor σ σ from Cor.rfl' σ) hW7
      refine R_aload_n (pc := 27) dX9_of_27 rfl rfl ?_
      refine R_aload_n (pc := 28) dX9_of_28 rfl rfl ?_
      refine g_X9_57 (pc := 29) (v := .ref 153) rfl dX9_of_29 (c_140 _) rfl ?_
      refine R_iconst (pc := 32) (v := 1) dX9_of_32 (by decide) ?_
      refine R_iconst (pc := 33) (v := (-1)) dX9_of_33 (by decide) ?_
      refine k_X9_165 (pc := 34) (gn_X9_findChains_153 _ _ hV5 (sym_mt9 hI hW10 hu9 (u := (-1)))) rfl (c_140 _) (by decide) (Nat.le_refl _) (Nat.le_refl _) (Nat.le_of_ble_eq_true rfl) dX9_of_34 (fun w2 h => ?_)
      obtain ⟨σx12, rfl, hV11, hW13, hq14, hl15⟩ := h
      have hW16 := Cor.trans hW10 hW13
      have hu17 : UT (DVm σ) (σx12.2.2.1 151) _ := (by rw [hq14.2.2.1 151 rfl]; exact hu9)
      refine R_aload_n (pc := 37) dX9_of_37 rfl rfl ?_
      refine R_aload_n (pc := 38) dX9_of_38 rfl rfl ?_
      refine g_X9_54 (pc := 39) (v := .ref 152) rfl dX9_of_39 (c_140 _) rfl ?_
      refine R_iconst (pc := 42) (v := 0) dX9_of_42 (by decide) ?_
      refine R_iconst (pc := 43) (v := (-1)) dX9_of_43 (by decide) ?_
      refine k_X9_165 (pc := 44) (gn_X9_findChains_152 _ _ hV11 (sym_lk9 hI hW16 hu17 (u := (-1)))) rfl (c_140 _) (by decide) (Nat.le_refl _) (Nat.le_refl _) (Nat.le_of_ble_eq_true rfl) dX9_of_44 (fun w2 h => ?_)
      obtain ⟨σx19, rfl, hV18, hW20, hq21, hl22⟩ := h
      have hW23 := Cor.trans hW16 hW20
      have hu24 : UT (DVm σ) (σx19.2.2.1 151) _ := (by rw [hq21.2.2.1 151 rfl]; exact hu17)
      refine R_iload_n (pc := 47) dX9_of_47 rfl rfl ?_
      refine R_iconst (pc := 48) (v := 4) dX9_of_48 (by decide) ?_
      refine R_icne (pc := 49) 109 dX9_of_49 (by decide) (fun b49_25 => ?_) (fun b49_25 => ?_)
      · skip
        refine R_iload_n (pc := 109) dX9_of_109 rfl rfl ?_
        refine R_ifne (pc := 110) 122 dX9_of_110 (by decide) (fun b110_26 => ?_) (fun b110_26 => ?_)
        · skip
          refine R_iload_n (pc := 122) dX9_of_122 rfl rfl ?_
          refine R_iconst (pc := 123) (v := 1) dX9_of_123 (by decide) ?_
          refine R_icne (pc := 124) 143 dX9_of_124 (by decide) (fun b124_27 => ?_) (fun b124_27 => ?_)
          · skip
            refine R_iload_n (pc := 143) dX9_of_143 rfl rfl ?_
            refine R_iconst (pc := 144) (v := 2) dX9_of_144 (by decide) ?_
            refine R_icne (pc := 145) 156 dX9_of_145 (by decide) (fun b145_28 => ?_) (fun b145_28 => ?_)
            · skip
              refine R_aload_n (pc := 156) dX9_of_156 rfl rfl ?_
              refine R_iload_n (pc := 157) dX9_of_157 rfl rfl ?_
              refine k_X9_182 (pc := 158) (gn_X9_priceOf _ _ hV18 (thM_r h1) (Nat.lt_of_lt_of_eq (thM_l h1) (cor_tm hW23).symm) (by rw [hW23.2.2.1 143 rfl]; exact hnu _ (clamp19 (thM_r h1)))) rfl (c_140 _) (by decide) (Nat.le_refl _) (Nat.le_refl _) (Nat.le_of_ble_eq_true rfl) dX9_of_158 (fun x w2 h => ?_)
              obtain ⟨σx30, rfl, hV29, hW31, rfl⟩ := h
              refine R_cv (prV (σx19.1 14014) (nI (cb (lsR (σx19.2.2.1 153) (σx19.2.2.1 141) (σx19.2.2.1 153 (Int32.toNatClampNeg c)) (tm (σx19.1 14000) (σx19.1 14013) (σx19.2.2.1 148))) 20)) (byG (HM σx19 (σx19.2.2.1 142 (Int32.toNatClampNeg c))) (Int32.toNatClampNeg (σx19.2.2.1 143 (Int32.toNatClampNeg c)))) (decide (0 < nI (rvN (pvM σx19 c) (σx19.2.2.1 141) (tm (σx19.1 14000) (σx19.1 14013) (σx19.2.2.1 148)))))) rfl ?_
              have hW32 := Cor.trans hW23 hW31
              exact R_iret (pc := 161) dX9_of_161 rfl rfl (Nat.zero_le _) (Nat.zero_le _) ⟨_, rfl, (by rw [h1, show b = 3 from (of_w3 h3 b110_26 b124_27 b145_28 b49_25)]; exact (pr_kin hI hW23 hu24 h1 (thM_r h1) (fun i a => ((congrFun (hq21.2.2.1 153 rfl) i).trans ((hl15 i (AMu_lt ((AM_of hW10 _).trans a)).1 (AMu_lt ((AM_of hW10 _).trans a)).2.2).trans (by rw [lab_mt9 hI hW10 hu9 a]))))).trans (A_of_3 _ _ _ _ _).symm), _, rfl, hV29, hW32⟩
            · skip
              refine R_aload_n (pc := 148) dX9_of_148 rfl rfl ?_
              refine R_iload_n (pc := 149) dX9_of_149 rfl rfl ?_
              refine k_X9_179 (pc := 150) (gn_X9_rivalsOf _ _ hV18 (thM_r h1)) rfl (c_140 _) (by decide) (Nat.le_refl _) (Nat.le_refl _) (Nat.le_of_ble_eq_true rfl) dX9_of_150 (fun x w2 h => ?_)
              obtain ⟨σx34, rfl, hV33, hW35, hq36, rfl⟩ := h
              refine R_cv (nI (rvN (pvM σx19 c) (σx19.2.2.1 141) (tm (σx19.1 14000) (σx19.1 14013) (σx19.2.2.1 148)))) rfl ?_
              have hW37 := Cor.trans hW23 hW35
              refine R_goto (pc := 153) 161 dX9_of_153 (by decide) ?_
              exact R_iret (pc := 161) dX9_of_161 rfl rfl (Nat.zero_le _) (Nat.zero_le _) ⟨_, rfl, (by rw [h1, show b = 2 from b145_28]; exact (rv_kin hI hW23 hu24 h1 (thM_r h1)).trans (A_of_2 _ _ _ _ _).symm), _, rfl, hV33, hW37⟩
          · skip
            refine R_aload_n (pc := 127) dX9_of_127 rfl rfl ?_
            refine R_aload_n (pc := 128) dX9_of_128 rfl rfl ?_
            refine g_X9_57 (pc := 129) (v := .ref 153) rfl dX9_of_129 (c_140 _) rfl ?_
            refine R_iload_n (pc := 132) dX9_of_132 rfl rfl ?_
            have hx38 : vp_in c 20 := (vp_of_inR (thM_r h1) (by decide))
            refine R_iaload (pc := 133) dX9_of_133 (c_153 _) hx38 ?_
            refine k_X9_169 (pc := 134) (ge_X9_listsOf _ _ hV18) rfl (c_140 _) (by decide) (Nat.le_refl _) (Nat.le_refl _) (Nat.le_of_ble_eq_true rfl) dX9_of_134 (fun x w2 h => ?_)
            obtain ⟨rfl, rfl⟩ := h
            refine k_X9_173 (pc := 137) (ge_X9_bits _ _) rfl (by decide) (Nat.le_refl _) (Nat.le_refl _) (Nat.le_of_ble_eq_true rfl) dX9_of_137 (fun x w2 h => ?_)
            obtain ⟨rfl, rfl⟩ := h
            refine R_goto (pc := 140) 161 dX9_of_140 (by decide) ?_
            exact R_iret (pc := 161) dX9_of_161 rfl rfl (Nat.zero_le _) (Nat.zero_le _) ⟨_, rfl, (by rw [h1, show b = 1 from b124_27]; exact (congrArg (fun q => nI (cb q 20)) (ls_kin hI hW23 (AMp_th h1) (fun i a => ((congrFun (hq21.2.2.1 153 rfl) i).trans ((hl15 i (AMu_lt ((AM_of hW10 _).trans a)).1 (AMu_lt ((AM_of hW10 _).trans a)).2.2).trans (by rw [lab_mt9 hI hW10 hu9 a])))))).trans (A_of_1 _ _ _ _ _).symm), _, rfl, hV18, hW23⟩
        · skip
          refine R_aload_n (pc := 113) dX9_of_113 rfl rfl ?_
          refine g_X9_57 (pc := 114) (v := .ref 153) rfl dX9_of_114 (c_140 _) rfl ?_
          refine R_iload_n (pc := 117) dX9_of_117 rfl rfl ?_
          have hx39 : vp_in c 20 := (vp_of_inR (thM_r h1) (by decide))
          refine R_iaload (pc := 118) dX9_of_118 (c_153 _) hx39 ?_
          refine R_goto (pc := 119) 161 dX9_of_119 (by decide) ?_
          exact R_iret (pc := 161) dX9_of_161 rfl rfl (Nat.zero_le _) (Nat.zero_le _) ⟨_, rfl, (by rw [h1, show b = 0 from b110_26]; exact ((congrFun (hq21.2.2.1 153 rfl) (Int32.toNatClampNeg c)).trans ((hl15 (Int32.toNatClampNeg c) (AMu_lt ((AM_of hW10 _).trans (AMp_th h1))).1 (AMu_lt ((AM_of hW10 _).trans (AMp_th h1))).2.2).trans (by rw [lab_mt9 hI hW10 hu9 (AMp_th h1)]))).trans (A_of_0 _ _ _ _ _).symm), _, rfl, hV18, hW23⟩
      · skip
        refine R_iconst (pc := 52) (v := 0) dX9_of_52 (by decide) ?_
        refine st_5_3_i_i (pc := 53) dX9_of_53 ?_
        refine R_iconst (pc := 54) (v := 0) dX9_of_54 (by decide) ?_
        refine st_5_4_i_i (pc := 55) dX9_of_55 ?_
        have HL57 : ∀ (q j57 : Nat) (g3_57 : Int32), j57 + q = 20 → 0 ≤ j57 → g3_57 = vsI (kin (lkN σ) (AMp σ) (Int32.toNatClampNeg c)) (σ.2.2.1 142) j57 → j57 ≤ TMn σx19 → R G l yX9_of cX9_of 5 (some .int) 5 0 0 (QI (fun x w2 => x = A_of (thM σ c) b (nI (lab (mtN σ) (AMp σ) (Int32.toNatClampNeg c))) (snM σ c) (rvM σ c) (prV (σ.1 14014) (snM σ c) (byG (HM σ (σ.2.2.1 142 (Int32.toNatClampNeg c))) (Int32.toNatClampNeg (σ.2.2.1 143 (Int32.toNatClampNeg c)))) (decide (0 < rvM σ c))) (puM σ c) ∧ ∃ σ2, w2 = WW σ2 ∧ Inv σ2 ∧ Cor σ σ2)) 57 [(some (.ref 140)), (some (.int c)), (some (.int b)), (some (.int g3_57)), (some (.int (nI j57)))] [] (WW σx19) 0 0 := by
          intro q
          induction q with
          | zero =>
            intro j57 g3_57 hj hs57 hX57_0 hX57_1
            obtain rfl : j57 = 20 := by omega
            refine R_iload (pc := 57) dX9_of_57 rfl ?_
            refine R_aload_n (pc := 59) dX9_of_59 rfl rfl ?_
            refine k_X9_120 (pc := 60) (ge_X9_thereMany _ hV18) rfl (c_140 _) (by decide) (Nat.le_refl _) (Nat.le_refl _) (Nat.le_of_ble_eq_true rfl) dX9_of_60 (fun x w2 h => ?_)
            obtain ⟨rfl, rfl⟩ := h
            refine R_icge (pc := 63) 104 dX9_of_63 (by decide) (fun _ => ?_) (fun h => absurd (Int32.not_lt.mp (inR_up (tm_in (σx19.1 14000) (σx19.1 14013) (σx19.2.2.1 148)) (Int32.le_refl _) (by decide)).2) h)
            refine R_iload_n (pc := 104) dX9_of_104 rfl rfl ?_
            refine k_X9_173 (pc := 105) (ge_X9_bits _ _) rfl (by decide) (Nat.le_refl _) (Nat.le_refl _) (Nat.le_of_ble_eq_true rfl) dX9_of_105 (fun x w2 h => ?_)
            obtain ⟨rfl, rfl⟩ := h
            exact R_iret (pc := 108) dX9_of_108 rfl rfl (Nat.zero_le _) (Nat.zero_le _) ⟨_, rfl, (by rw [h1, show b = 4 from b49_25]; exact (congrArg (fun q => nI (cb q 20)) (show g3_57 = _ from by have q := hX57_0; rw [(show 20 = TMn σx19 from by first | exact tm_exit (by omega) hX57_1 (by assumption) | exact tm_ex20 hX57_1), TMn_c hW23, vs_kin (AMp_th h1)] at q; exact q)).trans (A_of_4 _ _ _ _ _).symm), _, rfl, hV18, hW23⟩
          | succ q ih57 =>
            intro j57 g3_57 hj hs57 hX57_0 hX57_1
            have hrg57 : inR (nI j57) 0 19 := inR_ix hs57 (show j57 < 20 by omega) (by decide) (by decide) (by decide)
            have hlt57 : j57 < 20 := by omega
            refine R_iload (pc := 57) dX9_of_57 rfl ?_
            refine R_aload_n (pc := 59) dX9_of_59 rfl rfl ?_
            refine k_X9_120 (pc := 60) (ge_X9_thereMany _ hV18) rfl (c_140 _) (by decide) (Nat.le_refl _) (Nat.le_refl _) (Nat.le_of_ble_eq_true rfl) dX9_of_60 (fun x w2 h => ?_)
            obtain ⟨rfl, rfl⟩ := h
            refine R_icge (pc := 63) 104 dX9_of_63 (by decide) (fun b63_41 => ?_) (fun b63_41 => ?_)
            · skip
              refine R_iload_n (pc := 104) dX9_of_104 rfl rfl ?_
              refine k_X9_173 (pc := 105) (ge_X9_bits _ _) rfl (by decide) (Nat.le_refl _) (Nat.le_refl _) (Nat.le_of_ble_eq_true rfl) dX9_of_105 (fun x w2 h => ?_)
              obtain ⟨rfl, rfl⟩ := h
              exact R_iret (pc := 108) dX9_of_108 rfl rfl (Nat.zero_le _) (Nat.zero_le _) ⟨_, rfl, (by rw [h1, show b = 4 from b49_25]; exact (congrArg (fun q => nI (cb q 20)) (show g3_57 = _ from by have q := hX57_0; rw [(show j57 = TMn σx19 from by first | exact tm_exit (by omega) hX57_1 (by assumption) | exact tm_ex20 hX57_1), TMn_c hW23, vs_kin (AMp_th h1)] at q; exact q)).trans (A_of_4 _ _ _ _ _).symm), _, rfl, hV18, hW23⟩
            · skip
              refine R_iload_n (pc := 66) dX9_of_66 rfl rfl ?_
              refine R_aload_n (pc := 67) dX9_of_67 rfl rfl ?_
              refine g_X9_54 (pc := 68) (v := .ref 152) rfl dX9_of_68 (c_140 _) rfl ?_
              refine R_iload (pc := 71) dX9_of_71 rfl ?_
              have hx42 : vp_in (nI j57) 20 := (vp_in_nI (by omega) (by decide))
              refine R_iaload (pc := 73) dX9_of_73 (c_152 _) hx42 ?_
              refine R_aload_n (pc := 74) dX9_of_74 rfl rfl ?_
              refine g_X9_54 (pc := 75) (v := .ref 152) rfl dX9_of_75 (c_140 _) rfl ?_
              refine R_iload_n (pc := 78) dX9_of_78 rfl rfl ?_
              have hx43 : vp_in c 20 := (vp_of_inR (thM_r h1) (by decide))
              refine R_iaload (pc := 79) dX9_of_79 (c_152 _) hx43 ?_
              refine R_icne (pc := 80) 95 dX9_of_80 (by decide) (fun b80_44 => ?_) (fun b80_44 => ?_)
              · skip
                refine R_iconst (pc := 95) (v := 0) dX9_of_95 (by decide) ?_
                refine R_ior (pc := 96) dX9_of_96 ?_
                refine st_5_3_i_i (pc := 97) dX9_of_97 ?_
                refine inc_5_4_1_i (pc := 98) dX9_of_98 ?_
                have r45 : inR ((nI j57) + 1) 1 20 := inR_add (show inR (nI j57) 0 19 from hrg57) (show inR 1 1 1 from (inR_self _)) (by decide) (by decide)
                have e46 := ti_add (l := 1) (h := 20) (show inR (nI j57) 0 19 from hrg57) (show inR 1 1 1 from (inR_self _)) (by decide) (by decide)
                refine R_goto (pc := 101) 57 dX9_of_101 (by decide) ?_
                rw [nI_1]
                exact ih57 (j57 + 1) _ (by omega) (by omega) (vs_f0 (K := (kin (lkN σ) (AMp σ) (Int32.toNatClampNeg c))) (li := σ.2.2.1 142) hX57_0 ((neg_kin (R := lkN σ) (f := σx19.2.2.1 152) (sym_lkN hI) (AMp_th h1) (show AMp σ j57 = true from decide_eq_true (by have q := tm_next (by omega) b63_41; rw [hW23.1 14000 rfl, hW23.1 14013 rfl, hW23.2.2.1 148 rfl] at q; exact q)) ((hl22 j57 (AMu_lt ((AM_of hW16 _).trans (show AMp σ j57 = true from decide_eq_true (by have q := tm_next (by omega) b63_41; rw [hW23.1 14000 rfl, hW23.1 14013 rfl, hW23.2.2.1 148 rfl] at q; exact q)))).1 (AMu_lt ((AM_of hW16 _).trans (show AMp σ j57 = true from decide_eq_true (by have q := tm_next (by omega) b63_41; rw [hW23.1 14000 rfl, hW23.1 14013 rfl, hW23.2.2.1 148 rfl] at q; exact q)))).2.2).trans (by rw [lab_lk9 hI hW16 hu17 (show AMp σ j57 = true from decide_eq_true (by have q := tm_next (by omega) b63_41; rw [hW23.1 14000 rfl, hW23.1 14013 rfl, hW23.2.2.1 148 rfl] at q; exact q))])) ((hl22 (Int32.toNatClampNeg c) (AMu_lt ((AM_of hW16 _).trans (AMp_th h1))).1 (AMu_lt ((AM_of hW16 _).trans (AMp_th h1))).2.2).trans (by rw [lab_lk9 hI hW16 hu17 (AMp_th h1)]))).symm.trans (decide_eq_false (by have q := b80_44; rw [nI_clamp (by omega)] at q; exact q)))) (tm_next (by omega) b63_41)
              · skip
                refine R_iconst (pc := 83) (v := 1) dX9_of_83 (by decide) ?_
                refine R_aload_n (pc := 84) dX9_of_84 rfl rfl ?_
                refine g_X9_13 (pc := 85) (v := .ref 142) rfl dX9_of_85 (c_140 _) rfl ?_
                refine R_iload (pc := 88) dX9_of_88 rfl ?_
                have hx47 : vp_in (nI j57) 20 := (vp_in_nI (by omega) (by decide))
                refine R_iaload (pc := 90) dX9_of_90 (c_142 _) hx47 ?_
                refine R_ishl (pc := 91) dX9_of_91 ?_
                refine R_goto (pc := 92) 96 dX9_of_92 (by decide) ?_
                refine R_ior (pc := 96) dX9_of_96 ?_
                refine st_5_3_i_i (pc := 97) dX9_of_97 ?_
                refine inc_5_4_1_i (pc := 98) dX9_of_98 ?_
                have r48 : inR ((nI j57) + 1) 1 20 := inR_add (show inR (nI j57) 0 19 from hrg57) (show inR 1 1 1 from (inR_self _)) (by decide) (by decide)
                have e49 := ti_add (l := 1) (h := 20) (show inR (nI j57) 0 19 from hrg57) (show inR 1 1 1 from (inR_self _)) (by decide) (by decide)
                refine R_goto (pc := 101) 57 dX9_of_101 (by decide) ?_
                rw [nI_1]
                exact ih57 (j57 + 1) _ (by omega) (by omega) (by rw [hW23.2.2.1 142 rfl]; exact vs_t (K := (kin (lkN σ) (AMp σ) (Int32.toNatClampNeg c))) (li := σ.2.2.1 142) (by omega) hX57_0 ((neg_kin (R := lkN σ) (f := σx19.2.2.1 152) (sym_lkN hI) (AMp_th h1) (show AMp σ j57 = true from decide_eq_true (by have q := tm_next (by omega) b63_41; rw [hW23.1 14000 rfl, hW23.1 14013 rfl, hW23.2.2.1 148 rfl] at q; exact q)) ((hl22 j57 (AMu_lt ((AM_of hW16 _).trans (show AMp σ j57 = true from decide_eq_true (by have q := tm_next (by omega) b63_41; rw [hW23.1 14000 rfl, hW23.1 14013 rfl, hW23.2.2.1 148 rfl] at q; exact q)))).1 (AMu_lt ((AM_of hW16 _).trans (show AMp σ j57 = true from decide_eq_true (by have q := tm_next (by omega) b63_41; rw [hW23.1 14000 rfl, hW23.1 14013 rfl, hW23.2.2.1 148 rfl] at q; exact q)))).2.2).trans (by rw [lab_lk9 hI hW16 hu17 (show AMp σ j57 = true from decide_eq_true (by have q := tm_next (by omega) b63_41; rw [hW23.1 14000 rfl, hW23.1 14013 rfl, hW23.2.2.1 148 rfl] at q; exact q))])) ((hl22 (Int32.toNatClampNeg c) (AMu_lt ((AM_of hW16 _).trans (AMp_th h1))).1 (AMu_lt ((AM_of hW16 _).trans (AMp_th h1))).2.2).trans (by rw [lab_lk9 hI hW16 hu17 (AMp_th h1)]))).symm.trans (decide_eq_true (by have q := b80_44; rw [nI_clamp (by omega)] at q; exact q)))) (tm_next (by omega) b63_41)
        exact HL57 20 0 _ (by omega) (by omega) rfl (Nat.zero_le _)
    · skip
      refine R_ifne (pc := 17) 23 dX9_of_17 (by decide) (fun h => absurd (by decide) h) (fun _ => ?_)
      refine R_bipush (pc := 20) (v := (-3)) dX9_of_20 (by decide) ?_
      exact R_iret (pc := 22) dX9_of_22 rfl rfl (Nat.zero_le _) (Nat.zero_le _) ⟨_, rfl, (by rw [h1]; exact (A_of_o _ _ _ _ _ (inB_f h3)).symm), _, rfl, hI, (show Cor σ σ from Cor.rfl' σ)⟩
  · skip
    refine R_ifne (pc := 5) 11 dX9_of_5 (by decide) (fun h => absurd (by decide) h) (fun _ => ?_)
    refine R_bipush (pc := 8) (v := (-2)) dX9_of_8 (by decide) ?_
    exact R_iret (pc := 10) dX9_of_10 rfl rfl (Nat.zero_le _) (Nat.zero_le _) ⟨_, rfl, (by rw [h1]; exact (A_of_x _ _ _ _ _ _).symm), _, rfl, hI, (show Cor σ σ from Cor.rfl' σ)⟩
theorem ans_of {σ σ2 : Sg} {c b : Int32} (hI : Inv σ) (hI2 : Inv σ2) (hT : Tie σ) (hL : ChL σ) (hD : ChD σ) (h1 : Cor σ σ2) : A_of (thC σ c) b (nI (lab (fun a b => mtC σ (nI a) (nI b)) (tb (thI σ)) (Int32.toNatClampNeg c))) (pcI (vsI (kin (fun a b => mtC σ (nI a) (nI b)) (tb (thI σ)) (Int32.toNatClampNeg c)) (σ.2.2.1 2) 20)) (rvC σ c) (prV (σ.1 9) (if 1 < (pcI (vsI (kin (fun a b => mtC σ (nI a) (nI b)) (tb (thI σ)) (Int32.toNatClampNeg c)) (σ.2.2.1 2) 20)) then (pcI (vsI (kin (fun a b => mtC σ (nI a) (nI b)) (tb (thI σ)) (Int32.toNatClampNeg c)) (σ.2.2.1 2) 20)) else 1) (byG (HC σ (σ.2.2.1 3 (Int32.toNatClampNeg c))) (Int32.toNatClampNeg (σ.2.2.1 4 (Int32.toNatClampNeg c)))) (decide (0 < rvC σ c))) (pcI (vsI (kin (fun a b => lkC σ (nI a) (nI b)) (tb (thI σ)) (Int32.toNatClampNeg c)) (σ.2.2.1 3) 20)) = A_of (thM σ2 c) b (nI (lab (mtN σ2) (AMp σ2) (Int32.toNatClampNeg c))) (snM σ2 c) (rvM σ2 c) (prV (σ2.1 14014) (snM σ2 c) (byG (HM σ2 (σ2.2.2.1 142 (Int32.toNatClampNeg c))) (Int32.toNatClampNeg (σ2.2.2.1 143 (Int32.toNatClampNeg c)))) (decide (0 < rvM σ2 c))) (puM σ2 c) := by
  rw [th_at hI hT h1]
  cases h : thC σ c
  · rw [A_of_x, A_of_x]
  · rw [mx_sn hI hT hL hD h1 hI2 h, sn_eq hI hT hL hD h1 h, pu_eq hI hT hD h1 h, rv_eq hI hT hL hD h1 h, lab_mt hI hT hL hD h1 (thI_c hI h), hm_eq hI hT h1, h1.1 14014 rfl, h1.2.2.1 142 rfl, h1.2.2.1 143 rfl, t_base hT, t_publ hT, t_numb hT]
