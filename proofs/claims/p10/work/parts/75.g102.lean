/-! methods on any state that keeps the invariant -/
/-! of a card: what both sides say -/
def prB (v : Int32) (bg : Bool) : Int32 := bif bg then v + v / 2 else v
def prR (v : Int32) (rv : Bool) : Int32 := bif rv then v - v / 4 else v
def prV (b s : Int32) (bg rv : Bool) : Int32 := prR (prB (b / s) bg) rv
theorem prV_tt (b s : Int32) : prV b s true true = (b / s + b / s / 2) - (b / s + b / s / 2) / 4 := rfl
theorem prV_tf (b s : Int32) : prV b s true false = b / s + b / s / 2 := rfl
theorem prV_ft (b s : Int32) : prV b s false true = b / s - b / s / 4 := rfl
theorem prV_ff (b s : Int32) : prV b s false false = b / s := rfl
def A_of (th : Bool) (w v0 v1 v2 v3 v4 : Int32) : Int32 := bif th then (bif inB w 0 4 then (bif decide (w = 0) then v0 else bif decide (w = 1) then v1 else bif decide (w = 2) then v2 else bif decide (w = 3) then v3 else v4) else -3) else -2
theorem A_of_x (w v0 v1 v2 v3 v4 : Int32) : A_of false w v0 v1 v2 v3 v4 = -2 := rfl
theorem A_of_o {w : Int32} (v0 v1 v2 v3 v4 : Int32) (h : inB w 0 4 = false) : A_of true w v0 v1 v2 v3 v4 = -3 := by unfold A_of; rw [h]; rfl
theorem A_of_0 (v0 v1 v2 v3 v4 : Int32) : A_of true 0 v0 v1 v2 v3 v4 = v0 := rfl
theorem A_of_1 (v0 v1 v2 v3 v4 : Int32) : A_of true 1 v0 v1 v2 v3 v4 = v1 := rfl
theorem A_of_2 (v0 v1 v2 v3 v4 : Int32) : A_of true 2 v0 v1 v2 v3 v4 = v2 := rfl
theorem A_of_3 (v0 v1 v2 v3 v4 : Int32) : A_of true 3 v0 v1 v2 v3 v4 = v3 := rfl
theorem A_of_4 (v0 v1 v2 v3 v4 : Int32) : A_of true 4 v0 v1 v2 v3 v4 = v4 := rfl
theorem of_w3 {w : Int32} (h : inR w 0 4) (h0 : ¬ w = 0) (h1 : ¬ w = 1) (h2 : ¬ w = 2) (h4 : ¬ w = 4) : w = 3 := by
  obtain ⟨k, hk, rfl⟩ := nI_inR (M := 4) h (by decide)
  rcases (show k = 0 ∨ k = 1 ∨ k = 2 ∨ k = 3 ∨ k = 4 by omega) with rfl | rfl | rfl | rfl | rfl
  · exact absurd rfl h0
  · exact absurd rfl h1
  · exact absurd rfl h2
  · rfl
  · exact absurd rfl h4
theorem nI_cl {x : Int32} (h : inR x 0 99) : x = nI x.toNatClampNeg ∧ x.toNatClampNeg ≤ 99 := by
  obtain ⟨k, hk, rfl⟩ := nI_inR (M := 99) h (by decide)
  rw [nI_clamp (by omega)]
  exact ⟨rfl, hk⟩
theorem nm1 {n : Int32} (h : inR n 0 99) (hp : 0 < n) : n - 1 = nI (n.toNatClampNeg - 1) := by
  obtain ⟨k, hk, rfl⟩ := nI_inR (M := 99) h (by decide)
  rw [nI_clamp (by omega)]
  have := ti_lt hp
  rw [nI_toInt (by omega)] at this
  have z : (0 : Int32).toInt = 0 := by decide
  exact nI_p (by omega)
theorem np1 {n : Int32} (h : inR n 0 99) : n + 1 = nI (n.toNatClampNeg + 1) := by
  obtain ⟨k, hk, rfl⟩ := nI_inR (M := 99) h (by decide)
  rw [nI_clamp (by omega)]
  exact nI_1 k
/-! what lasts -/
theorem thC_c {σ τ : Sg} (h : Cor σ τ) (c : Int32) : thC τ c = thC σ c := by
  unfold thC
  rw [h.1 110 rfl, h.1 112 rfl, h.2.2.1 9 rfl]
theorem thI_cor {σ τ : Sg} (h : Cor σ τ) : thI τ = thI σ := by
  unfold thI
  exact congrArg (fun f => bsI f 20) (funext (fun i => thC_c h (nI i)))
theorem mtC_c {σ τ : Sg} (h : Cor σ τ) {a : Int32} (ha : inR a 0 19) (b : Int32) : mtC τ a b = mtC σ a b := by
  have := clamp19 ha
  unfold mtC lkC
  rw [h.1 1204 rfl, h.2.2.1 2 rfl, h.2.2.1 3 rfl, h.2.2.1 4 rfl, h.2.2.1 5 rfl, h.2.2.1 (14 + (Int32.toNatClampNeg a)) (scA_1454 (by omega) (by omega)), h.2.2.1 (35 + (Int32.toNatClampNeg a)) (scA_1454 (by omega) (by omega))]
def rvC (σ : Sg) (c : Int32) : Int32 := nI (rvN (fun o => tb (thI σ) o && (!decide (nI o = c) && mtC σ c (nI o))) (σ.2.2.1 2) 20)
theorem rvC_cor {σ τ : Sg} (h : Cor σ τ) {c : Int32} (hc : inR c 0 19) : nI (rvN (fun o => tb (thI τ) o && (!decide (nI o = c) && mtC τ c (nI o))) (τ.2.2.1 2) 20) = rvC σ c := by
  unfold rvC
  have e : (fun o : Nat => tb (thI τ) o && (!decide (nI o = c) && mtC τ c (nI o))) = (fun o => tb (thI σ) o && (!decide (nI o = c) && mtC σ c (nI o))) := funext (fun o => by rw [mtC_c h hc, thI_cor h])
  rw [e, h.2.2.1 2 rfl]
set_option maxRecDepth 100000 in
set_option maxHeartbeats 40000000 in
theorem gn_X8_priceOf {G : vG} {l : Launch} (σ : Sg) (c : Int32) (hI : Inv σ) (hc : inR c 0 19) (hli : ∀ i : Nat, i < 20 → inR (σ.2.2.1 2 i) 0 3) : Sp G l yX8_priceOf cX8_priceOf 3 (some .int) 5 0 0 [.ref 0, .int c] (WW σ) (QI (fun x w2 => ∃ σ2, w2 = WW σ2 ∧ Inv σ2 ∧ Cor σ σ2 ∧ x = (prV (σ.1 9) (if 1 < (pcI (vsI (kin (fun a b => mtC σ (nI a) (nI b)) (tb (thI σ)) (Int32.toNatClampNeg c)) (σ.2.2.1 2) 20)) then (pcI (vsI (kin (fun a b => mtC σ (nI a) (nI b)) (tb (thI σ)) (Int32.toNatClampNeg c)) (σ.2.2.1 2) 20)) else 1) (byG (HC σ (σ.2.2.1 3 (Int32.toNatClampNeg c))) (Int32.toNatClampNeg (σ.2.2.1 4 (Int32.toNatClampNeg c)))) (decide (0 < rvC σ c))))) := by
  refine Sp_of_R [(some (.ref 0)), (some (.int c)), none] [none] rfl (by simp) rfl (Nat.le_of_ble_eq_true rfl) ?_
  refine R_aload_n (pc := 0) dX8_priceOf_0 rfl rfl ?_
  refine g_X8_68 (pc := 1) (v := .int (σ.1 9)) rfl dX8_priceOf_1 (c_0 _) rfl ?_
  refine R_iconst (pc := 4) (v := 1) dX8_priceOf_4 (by decide) ?_
  refine R_aload_n (pc := 5) dX8_priceOf_5 rfl rfl ?_
  refine R_iload_n (pc := 6) dX8_priceOf_6 rfl rfl ?_
  refine k_X8_147 (pc := 7) (ge_X8_timesSeen _ _ hI hc) rfl (c_0 _) (by decide) (Nat.le_refl _) (Nat.le_refl _) (Nat.le_of_ble_eq_true rfl) dX8_priceOf_7 (fun x w2 h => ?_)
  obtain ⟨rfl, rfl⟩ := h
  refine R_mmax (pc := 10) wm_504 dX8_priceOf_10 (by decide) (Nat.le_of_ble_eq_true rfl) (Nat.zero_le _) (Nat.zero_le _) ?_
  refine R_idiv (pc := 13) dX8_priceOf_13 (max1_ne _) ?_
  refine st_3_2_i_i (pc := 14) dX8_priceOf_14 ?_
  refine R_aload_n (pc := 15) dX8_priceOf_15 rfl rfl ?_
  refine g_X8_28 (pc := 16) (v := .ref 56) rfl dX8_priceOf_16 (c_0 _) rfl ?_
  refine R_aload_n (pc := 19) dX8_priceOf_19 rfl rfl ?_
  refine g_X8_10 (pc := 20) (v := .ref 1) rfl dX8_priceOf_20 (c_0 _) rfl ?_
  refine g_X8_172 (pc := 23) (v := .ref 3) rfl dX8_priceOf_23 (c_1 _) rfl ?_
  refine R_iload_n (pc := 26) dX8_priceOf_26 rfl rfl ?_
  have hx1 : vp_in c 20 := (vp_of_inR hc (by decide))
  refine R_iaload (pc := 27) dX8_priceOf_27 (c_3 _) hx1 ?_
  refine k_X8_175 (pc := 28) (gn_X5_gather _ _ hI) rfl (c_56 _) (by decide) (Nat.le_refl _) (Nat.le_refl _) (Nat.le_of_ble_eq_true rfl) dX8_priceOf_28 (fun w2 h => ?_)
  obtain ⟨σx3, rfl, hV2, hW4, hN5⟩ := h
  have hW6 := Cor.trans (show Cor σ σ from Cor.rfl' σ) hW4
  refine R_aload_n (pc := 31) dX8_priceOf_31 rfl rfl ?_
  refine g_X8_28 (pc := 32) (v := .ref 56) rfl dX8_priceOf_32 (c_0 _) rfl ?_
  refine R_aload_n (pc := 35) dX8_priceOf_35 rfl rfl ?_
  refine g_X8_10 (pc := 36) (v := .ref 1) rfl dX8_priceOf_36 (c_0 _) rfl ?_
  refine g_X8_178 (pc := 39) (v := .ref 4) rfl dX8_priceOf_39 (c_1 _) rfl ?_
  refine R_iload_n (pc := 42) dX8_priceOf_42 rfl rfl ?_
  have hx7 : vp_in c 20 := (vp_of_inR hc (by decide))
  refine R_iaload (pc := 43) dX8_priceOf_43 (c_4 _) hx7 ?_
  refine k_X8_181 (pc := 44) (ge_X5_isByGap _ _ _ _ hV2 hN5 (nI_cl (iva_4 hV2 _ (lt_of_vp hx7))).1 (nI_cl (iva_4 hV2 _ (lt_of_vp hx7))).2) rfl (c_56 _) (by decide) (Nat.le_refl _) (Nat.le_refl _) (Nat.le_of_ble_eq_true rfl) dX8_priceOf_44 (fun x w2 h => ?_)
  rcases h with ⟨rfl, ⟨h8, rfl⟩ | ⟨h8, rfl⟩⟩
  · skip
    refine R_ifeq (pc := 47) 56 dX8_priceOf_47 (by decide) (fun h => absurd h (by decide)) (fun _ => ?_)
    refine R_iload_n (pc := 50) dX8_priceOf_50 rfl rfl ?_
    refine R_iload_n (pc := 51) dX8_priceOf_51 rfl rfl ?_
    refine R_iconst (pc := 52) (v := 2) dX8_priceOf_52 (by decide) ?_
    refine R_idiv (pc := 53) dX8_priceOf_53 (by decide) ?_
    refine R_iadd (pc := 54) dX8_priceOf_54 ?_
    refine st_3_2_i_i (pc := 55) dX8_priceOf_55 ?_
    refine R_aload_n (pc := 56) dX8_priceOf_56 rfl rfl ?_
    refine g_X8_21 (pc := 57) (v := .ref 12) rfl dX8_priceOf_57 (c_0 _) rfl ?_
    refine R_iload_n (pc := 60) dX8_priceOf_60 rfl rfl ?_
    refine R_aload_n (pc := 61) dX8_priceOf_61 rfl rfl ?_
    refine g_X8_10 (pc := 62) (v := .ref 1) rfl dX8_priceOf_62 (c_0 _) rfl ?_
    refine k_X8_126 (pc := 65) (ge_X0_there _ hV2) rfl (c_1 _) (by decide) (Nat.le_refl _) (Nat.le_refl _) (Nat.le_of_ble_eq_true rfl) dX8_priceOf_65 (fun x w2 h => ?_)
    obtain ⟨rfl, rfl⟩ := h
    refine k_X8_150 (pc := 68) (gn_X3_rivals _ _ _ hV2 hc (by rw [hW6.2.2.1 2 rfl]; exact hli)) rfl (c_12 _) (by decide) (Nat.le_refl _) (Nat.le_refl _) (Nat.le_of_ble_eq_true rfl) dX8_priceOf_68 (fun x w2 h => ?_)
    obtain ⟨rfl, rfl⟩ := h
    refine R_cv (rvC σ c) (rvC_cor hW6 hc) ?_
    refine R_ifle (pc := 71) 80 dX8_priceOf_71 (by decide) (fun b71_10 => ?_) (fun b71_10 => ?_)
    · skip
      refine R_iload_n (pc := 80) dX8_priceOf_80 rfl rfl ?_
      exact R_iret (pc := 81) dX8_priceOf_81 rfl rfl (Nat.zero_le _) (Nat.zero_le _) ⟨_, rfl, _, rfl, hV2, hW6, (by rw [(show byG (HC σ (σ.2.2.1 3 (Int32.toNatClampNeg c))) (Int32.toNatClampNeg (σ.2.2.1 4 (Int32.toNatClampNeg c))) = true from by have q := h8; rw [hW6.2.2.1 4 rfl] at q; exact q), (decide_eq_false (Int32.not_lt.mpr b71_10))]; exact (prV_tf _ _).symm)⟩
    · skip
      refine R_iload_n (pc := 74) dX8_priceOf_74 rfl rfl ?_
      refine R_iload_n (pc := 75) dX8_priceOf_75 rfl rfl ?_
      refine R_iconst (pc := 76) (v := 4) dX8_priceOf_76 (by decide) ?_
      refine R_idiv (pc := 77) dX8_priceOf_77 (by decide) ?_
      refine R_isub (pc := 78) dX8_priceOf_78 ?_
      refine st_3_2_i_i (pc := 79) dX8_priceOf_79 ?_
      refine R_iload_n (pc := 80) dX8_priceOf_80 rfl rfl ?_
      exact R_iret (pc := 81) dX8_priceOf_81 rfl rfl (Nat.zero_le _) (Nat.zero_le _) ⟨_, rfl, _, rfl, hV2, hW6, (by rw [(show byG (HC σ (σ.2.2.1 3 (Int32.toNatClampNeg c))) (Int32.toNatClampNeg (σ.2.2.1 4 (Int32.toNatClampNeg c))) = true from by have q := h8; rw [hW6.2.2.1 4 rfl] at q; exact q), (decide_eq_true (Int32.not_le.mp b71_10))]; exact (prV_tt _ _).symm)⟩
  · skip
    refine R_ifeq (pc := 47) 56 dX8_priceOf_47 (by decide) (fun _ => ?_) (fun h => absurd (by decide) h)
    refine R_aload_n (pc := 56) dX8_priceOf_56 rfl rfl ?_
    refine g_X8_21 (pc := 57) (v := .ref 12) rfl dX8_priceOf_57 (c_0 _) rfl ?_
    refine R_iload_n (pc := 60) dX8_priceOf_60 rfl rfl ?_
    refine R_aload_n (pc := 61) dX8_priceOf_61 rfl rfl ?_
    refine g_X8_10 (pc := 62) (v := .ref 1) rfl dX8_priceOf_62 (c_0 _) rfl ?_
    refine k_X8_126 (pc := 65) (ge_X0_there _ hV2) rfl (c_1 _) (by decide) (Nat.le_refl _) (Nat.le_refl _) (Nat.le_of_ble_eq_true rfl) dX8_priceOf_65 (fun x w2 h => ?_)
    obtain ⟨rfl, rfl⟩ := h
    refine k_X8_150 (pc := 68) (gn_X3_rivals _ _ _ hV2 hc (by rw [hW6.2.2.1 2 rfl]; exact hli)) rfl (c_12 _) (by decide) (Nat.le_refl _) (Nat.le_refl _) (Nat.le_of_ble_eq_true rfl) dX8_priceOf_68 (fun x w2 h => ?_)
    obtain ⟨rfl, rfl⟩ := h
    refine R_cv (rvC σ c) (rvC_cor hW6 hc) ?_
    refine R_ifle (pc := 71) 80 dX8_priceOf_71 (by decide) (fun b71_12 => ?_) (fun b71_12 => ?_)
    · skip
      refine R_iload_n (pc := 80) dX8_priceOf_80 rfl rfl ?_
      exact R_iret (pc := 81) dX8_priceOf_81 rfl rfl (Nat.zero_le _) (Nat.zero_le _) ⟨_, rfl, _, rfl, hV2, hW6, (by rw [(show byG (HC σ (σ.2.2.1 3 (Int32.toNatClampNeg c))) (Int32.toNatClampNeg (σ.2.2.1 4 (Int32.toNatClampNeg c))) = false from by have q := h8; rw [hW6.2.2.1 4 rfl] at q; exact q), (decide_eq_false (Int32.not_lt.mpr b71_12))]; exact (prV_ff _ _).symm)⟩
    · skip
      refine R_iload_n (pc := 74) dX8_priceOf_74 rfl rfl ?_
      refine R_iload_n (pc := 75) dX8_priceOf_75 rfl rfl ?_
      refine R_iconst (pc := 76) (v := 4) dX8_priceOf_76 (by decide) ?_
      refine R_idiv (pc := 77) dX8_priceOf_77 (by decide) ?_
      refine R_isub (pc := 78) dX8_priceOf_78 ?_
      refine st_3_2_i_i (pc := 79) dX8_priceOf_79 ?_
      refine R_iload_n (pc := 80) dX8_priceOf_80 rfl rfl ?_
      exact R_iret (pc := 81) dX8_priceOf_81 rfl rfl (Nat.zero_le _) (Nat.zero_le _) ⟨_, rfl, _, rfl, hV2, hW6, (by rw [(show byG (HC σ (σ.2.2.1 3 (Int32.toNatClampNeg c))) (Int32.toNatClampNeg (σ.2.2.1 4 (Int32.toNatClampNeg c))) = false from by have q := h8; rw [hW6.2.2.1 4 rfl] at q; exact q), (decide_eq_true (Int32.not_le.mp b71_12))]; exact (prV_ft _ _).symm)⟩
set_option maxRecDepth 100000 in
set_option maxHeartbeats 40000000 in
theorem gq_X8_of {G : vG} {l : Launch} (σ : Sg) (c b : Int32) (hI : Inv σ) (hli : ∀ i : Nat, i < 20 → inR (σ.2.2.1 2 i) 0 3) : Sp G l yX8_of cX8_of 3 (some .int) 6 0 0 [.ref 0, .int c, .int b] (WW σ) (QI (fun x w2 => x = A_of (thC σ c) b (nI (lab (fun a b => mtC σ (nI a) (nI b)) (tb (thI σ)) (Int32.toNatClampNeg c))) (pcI (vsI (kin (fun a b => mtC σ (nI a) (nI b)) (tb (thI σ)) (Int32.toNatClampNeg c)) (σ.2.2.1 2) 20)) (rvC σ c) (prV (σ.1 9) (if 1 < (pcI (vsI (kin (fun a b => mtC σ (nI a) (nI b)) (tb (thI σ)) (Int32.toNatClampNeg c)) (σ.2.2.1 2) 20)) then (pcI (vsI (kin (fun a b => mtC σ (nI a) (nI b)) (tb (thI σ)) (Int32.toNatClampNeg c)) (σ.2.2.1 2) 20)) else 1) (byG (HC σ (σ.2.2.1 3 (Int32.toNatClampNeg c))) (Int32.toNatClampNeg (σ.2.2.1 4 (Int32.toNatClampNeg c)))) (decide (0 < rvC σ c))) (pcI (vsI (kin (fun a b => lkC σ (nI a) (nI b)) (tb (thI σ)) (Int32.toNatClampNeg c)) (σ.2.2.1 3) 20)) ∧ ∃ σ2, w2 = WW σ2 ∧ Inv σ2 ∧ Cor σ σ2)) := by
  refine Sp_of_R [(some (.ref 0)), (some (.int c)), (some (.int b))] [] rfl (by simp) rfl (Nat.le_of_ble_eq_true rfl) ?_
  refine R_aload_n (pc := 0) dX8_of_0 rfl rfl ?_
  refine g_X8_10 (pc := 1) (v := .ref 1) rfl dX8_of_1 (c_0 _) rfl ?_
  refine R_iload_n (pc := 4) dX8_of_4 rfl rfl ?_
  refine k_X8_90 (pc := 5) (ge_X0_isThere _ _ hI) rfl (c_1 _) (by decide) (Nat.le_refl _) (Nat.le_refl _) (Nat.le_of_ble_eq_true rfl) dX8_of_5 (fun x w2 h => ?_)
  rcases h with ⟨rfl, ⟨h1, rfl⟩ | ⟨h1, rfl⟩⟩
  · skip
    refine R_ifne (pc := 8) 14 dX8_of_8 (by decide) (fun _ => ?_) (fun h => absurd h (by decide))
    refine R_iload_n (pc := 14) dX8_of_14 rfl rfl ?_
    rcases sw4 b with rfl | rfl | rfl | rfl | rfl | hsw
    · skip
      refine R_tin (pc := 15) 48 dX8_of_15 (by decide) (by decide) rfl (by decide) ?_
      refine R_aload_n (pc := 48) dX8_of_48 rfl rfl ?_
      refine g_X8_21 (pc := 49) (v := .ref 12) rfl dX8_of_49 (c_0 _) rfl ?_
      refine R_iload_n (pc := 52) dX8_of_52 rfl rfl ?_
      refine R_aload_n (pc := 53) dX8_of_53 rfl rfl ?_
      refine g_X8_10 (pc := 54) (v := .ref 1) rfl dX8_of_54 (c_0 _) rfl ?_
      refine k_X8_126 (pc := 57) (ge_X0_there _ hI) rfl (c_1 _) (by decide) (Nat.le_refl _) (Nat.le_refl _) (Nat.le_of_ble_eq_true rfl) dX8_of_57 (fun x w2 h => ?_)
      obtain ⟨rfl, rfl⟩ := h
      refine k_X8_144 (pc := 60) (gn_X3_sameCard _ _ _ hI (thC_r hI h1) (thI_in σ)) rfl (c_12 _) (by decide) (Nat.le_refl _) (Nat.le_refl _) (Nat.le_of_ble_eq_true rfl) dX8_of_60 (fun x w2 h => ?_)
      obtain ⟨rfl, rfl⟩ := h
      refine k_X8_134 (pc := 63) (gx_X8_lowest _ _) rfl (by decide) (Nat.le_refl _) (Nat.le_refl _) (Nat.le_of_ble_eq_true rfl) dX8_of_63 (fun x w2 h => ?_)
      obtain ⟨rfl, rfl⟩ := h
      refine R_cv (nI (lab (fun a b => mtC σ (nI a) (nI b)) (tb (thI σ)) (Int32.toNatClampNeg c))) (low_kin (clamp19 (thC_r hI h1))) ?_
      exact R_iret (pc := 66) dX8_of_66 rfl rfl (Nat.zero_le _) (Nat.zero_le _) ⟨_, rfl, (by rw [h1]; first | exact (A_of_0 _ _ _ _ _).symm | exact (A_of_1 _ _ _ _ _).symm | exact (A_of_2 _ _ _ _ _).symm | exact (A_of_3 _ _ _ _ _).symm | exact (A_of_4 _ _ _ _ _).symm), _, rfl, hI, (show Cor σ σ from Cor.rfl' σ)⟩
    · skip
      refine R_tin (pc := 15) 67 dX8_of_15 (by decide) (by decide) rfl (by decide) ?_
      refine R_aload_n (pc := 67) dX8_of_67 rfl rfl ?_
      refine R_iload_n (pc := 68) dX8_of_68 rfl rfl ?_
      refine k_X8_147 (pc := 69) (ge_X8_timesSeen _ _ hI (thC_r hI h1)) rfl (c_0 _) (by decide) (Nat.le_refl _) (Nat.le_refl _) (Nat.le_of_ble_eq_true rfl) dX8_of_69 (fun x w2 h => ?_)
      obtain ⟨rfl, rfl⟩ := h
      exact R_iret (pc := 72) dX8_of_72 rfl rfl (Nat.zero_le _) (Nat.zero_le _) ⟨_, rfl, (by rw [h1]; first | exact (A_of_0 _ _ _ _ _).symm | exact (A_of_1 _ _ _ _ _).symm | exact (A_of_2 _ _ _ _ _).symm | exact (A_of_3 _ _ _ _ _).symm | exact (A_of_4 _ _ _ _ _).symm), _, rfl, hI, (show Cor σ σ from Cor.rfl' σ)⟩
    · skip
      refine R_tin (pc := 15) 73 dX8_of_15 (by decide) (by decide) rfl (by decide) ?_
      refine R_aload_n (pc := 73) dX8_of_73 rfl rfl ?_
      refine g_X8_21 (pc := 74) (v := .ref 12) rfl dX8_of_74 (c_0 _) rfl ?_
      refine R_iload_n (pc := 77) dX8_of_77 rfl rfl ?_
      refine R_aload_n (pc := 78) dX8_of_78 rfl rfl ?_
      refine g_X8_10 (pc := 79) (v := .ref 1) rfl dX8_of_79 (c_0 _) rfl ?_
      refine k_X8_126 (pc := 82) (ge_X0_there _ hI) rfl (c_1 _) (by decide) (Nat.le_refl _) (Nat.le_refl _) (Nat.le_of_ble_eq_true rfl) dX8_of_82 (fun x w2 h => ?_)
      obtain ⟨rfl, rfl⟩ := h
      refine k_X8_150 (pc := 85) (gn_X3_rivals _ _ _ hI (thC_r hI h1) hli) rfl (c_12 _) (by decide) (Nat.le_refl _) (Nat.le_refl _) (Nat.le_of_ble_eq_true rfl) dX8_of_85 (fun x w2 h => ?_)
      obtain ⟨rfl, rfl⟩ := h
      refine R_cv (rvC σ c) (rvC_cor (show Cor σ σ from Cor.rfl' σ) (thC_r hI h1)) ?_
      exact R_iret (pc := 88) dX8_of_88 rfl rfl (Nat.zero_le _) (Nat.zero_le _) ⟨_, rfl, (by rw [h1]; first | exact (A_of_0 _ _ _ _ _).symm | exact (A_of_1 _ _ _ _ _).symm | exact (A_of_2 _ _ _ _ _).symm | exact (A_of_3 _ _ _ _ _).symm | exact (A_of_4 _ _ _ _ _).symm), _, rfl, hI, (show Cor σ σ from Cor.rfl' σ)⟩
    · skip
      refine R_tin (pc := 15) 89 dX8_of_15 (by decide) (by decide) rfl (by decide) ?_
      refine R_aload_n (pc := 89) dX8_of_89 rfl rfl ?_
      refine R_iload_n (pc := 90) dX8_of_90 rfl rfl ?_
      refine k_X8_153 (pc := 91) (gn_X8_priceOf _ _ hI (thC_r hI h1) hli) rfl (c_0 _) (by decide) (Nat.le_refl _) (Nat.le_refl _) (Nat.le_of_ble_eq_true rfl) dX8_of_91 (fun x w2 h => ?_)
      obtain ⟨σx4, rfl, hV3, hW5, rfl⟩ := h
      refine R_cv (prV (σ.1 9) (if 1 < (pcI (vsI (kin (fun a b => mtC σ (nI a) (nI b)) (tb (thI σ)) (Int32.toNatClampNeg c)) (σ.2.2.1 2) 20)) then (pcI (vsI (kin (fun a b => mtC σ (nI a) (nI b)) (tb (thI σ)) (Int32.toNatClampNeg c)) (σ.2.2.1 2) 20)) else 1) (byG (HC σ (σ.2.2.1 3 (Int32.toNatClampNeg c))) (Int32.toNatClampNeg (σ.2.2.1 4 (Int32.toNatClampNeg c)))) (decide (0 < rvC σ c))) rfl ?_
      have hW6 := Cor.trans (show Cor σ σ from Cor.rfl' σ) hW5
      exact R_iret (pc := 94) dX8_of_94 rfl rfl (Nat.zero_le _) (Nat.zero_le _) ⟨_, rfl, (by rw [h1]; first | exact (A_of_0 _ _ _ _ _).symm | exact (A_of_1 _ _ _ _ _).symm | exact (A_of_2 _ _ _ _ _).symm | exact (A_of_3 _ _ _ _ _).symm | exact (A_of_4 _ _ _ _ _).symm), _, rfl, hV3, hW6⟩
    · skip
      refine R_tin (pc := 15) 95 dX8_of_15 (by decide) (by decide) rfl (by decide) ?_
      refine R_aload_n (pc := 95) dX8_of_95 rfl rfl ?_
      refine g_X8_10 (pc := 96) (v := .ref 1) rfl dX8_of_96 (c_0 _) rfl ?_
      refine R_aload_n (pc := 99) dX8_of_99 rfl rfl ?_
      refine g_X8_21 (pc := 100) (v := .ref 12) rfl dX8_of_100 (c_0 _) rfl ?_
      refine R_iload_n (pc := 103) dX8_of_103 rfl rfl ?_
      refine R_aload_n (pc := 104) dX8_of_104 rfl rfl ?_
      refine g_X8_10 (pc := 105) (v := .ref 1) rfl dX8_of_105 (c_0 _) rfl ?_
      refine k_X8_126 (pc := 108) (ge_X0_there _ hI) rfl (c_1 _) (by decide) (Nat.le_refl _) (Nat.le_refl _) (Nat.le_of_ble_eq_true rfl) dX8_of_108 (fun x w2 h => ?_)
      obtain ⟨rfl, rfl⟩ := h
      refine k_X8_130 (pc := 111) (gn_X3_sameNegative _ _ _ hI (thC_r hI h1) (thI_in σ)) rfl (c_12 _) (by decide) (Nat.le_refl _) (Nat.le_refl _) (Nat.le_of_ble_eq_true rfl) dX8_of_111 (fun x w2 h => ?_)
      obtain ⟨rfl, rfl⟩ := h
      refine k_X8_156 (pc := 114) (ge_X0_publishersOf _ _ hI) rfl (c_1 _) (by decide) (Nat.le_refl _) (Nat.le_refl _) (Nat.le_of_ble_eq_true rfl) dX8_of_114 (fun x w2 h => ?_)
      obtain ⟨rfl, rfl⟩ := h
      refine R_cv (vsI (kin (fun a b => lkC σ (nI a) (nI b)) (tb (thI σ)) (Int32.toNatClampNeg c)) (σ.2.2.1 3) 20) (vs_congr 20 (fun i hi => ⟨by rw [tb_bs 20 (by omega), decide_eq_true hi]; rfl, rfl⟩)) ?_
      refine k_X8_159 (pc := 117) (sp_J6_bitCount_0f7a4 _ _) rfl (by decide) (Nat.le_refl _) (Nat.le_refl _) (Nat.le_of_ble_eq_true rfl) dX8_of_117 (fun x w2 h => ?_)
      obtain ⟨rfl, rfl⟩ := h
      refine R_cv (pcI (vsI (kin (fun a b => lkC σ (nI a) (nI b)) (tb (thI σ)) (Int32.toNatClampNeg c)) (σ.2.2.1 3) 20)) rfl ?_
      exact R_iret (pc := 120) dX8_of_120 rfl rfl (Nat.zero_le _) (Nat.zero_le _) ⟨_, rfl, (by rw [h1]; first | exact (A_of_0 _ _ _ _ _).symm | exact (A_of_1 _ _ _ _ _).symm | exact (A_of_2 _ _ _ _ _).symm | exact (A_of_3 _ _ _ _ _).symm | exact (A_of_4 _ _ _ _ _).symm), _, rfl, hI, (show Cor σ σ from Cor.rfl' σ)⟩
    · skip
      refine R_tout (pc := 15) 121 dX8_of_15 hsw (by decide) ?_
      refine R_bipush (pc := 121) (v := (-3)) dX8_of_121 (by decide) ?_
      exact R_iret (pc := 123) dX8_of_123 rfl rfl (Nat.zero_le _) (Nat.zero_le _) ⟨_, rfl, (by rw [h1]; exact (A_of_o _ _ _ _ _ (sw_out (M := 4) hsw)).symm), _, rfl, hI, (show Cor σ σ from Cor.rfl' σ)⟩
  · skip
    refine R_ifne (pc := 8) 14 dX8_of_8 (by decide) (fun h => absurd (by decide) h) (fun _ => ?_)
    refine R_bipush (pc := 11) (v := (-2)) dX8_of_11 (by decide) ?_
    exact R_iret (pc := 13) dX8_of_13 rfl rfl (Nat.zero_le _) (Nat.zero_le _) ⟨_, rfl, (by rw [h1]; exact (A_of_x _ _ _ _ _ _).symm), _, rfl, hI, (show Cor σ σ from Cor.rfl' σ)⟩
