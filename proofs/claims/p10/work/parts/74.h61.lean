/-! methods on any state that keeps the invariant -/
theorem mb_rng {H : Nat → Bool} {k : Nat} (hk : k ≤ 100) (h1 : loR H 99 < nI k) (h2 : nI k < hiR H 99) : 1 ≤ k ∧ k ≤ 99 := by
  have hb := num_all H 99
  have e1 := lo_nI H 99 (by omega)
  have e2 := hi_nI H 99
  have z : (-1 : Int32).toInt = -1 := by decide
  by_cases hz : loN H 99 = 0
  · rw [decide_eq_true (hb.2.2.2.1.mp hz)] at e2
    rw [e2] at h2
    have := ti_lt h2
    rw [nI_toInt (by omega)] at this
    simp only [cond_true] at this
    omega
  · have hz2 : ¬ hiN H 99 = 0 := fun e => hz (hb.2.2.2.1.mpr e)
    rw [decide_eq_false hz] at e1
    rw [decide_eq_false hz2] at e2
    rw [e1] at h1
    rw [e2] at h2
    simp only [cond_false] at h1 h2
    have q1 := (nI_ltI (by omega) (by omega)).mp h1
    have q2 := (nI_ltI (by omega) (by omega)).mp h2
    omega
theorem mb_0 {H : Nat → Bool} {σ : Sg} (h : NumH H σ) {n : Int32} {k : Nat} (hn : n = nI k) (h1 : n ≤ σ.1 5603) : mB H k = false := by
  unfold mB
  rw [← hn, ← h.2.2.1, decide_eq_false (Int32.not_lt.mpr h1)]; rfl
theorem mb_1 {H : Nat → Bool} {σ : Sg} (h : NumH H σ) {n : Int32} {k : Nat} (hn : n = nI k) (h1 : σ.1 5604 ≤ n) : mB H k = false := by
  unfold mB
  rw [← hn, ← h.2.2.2, decide_eq_false (Int32.not_lt.mpr h1)]; simp
theorem mb_2 {H : Nat → Bool} {σ : Sg} (h : NumH H σ) {n : Int32} {k : Nat} (hn : n = nI k) (hk : k ≤ 100) (h1 : ¬ n ≤ σ.1 5603) (h2 : ¬ σ.1 5604 ≤ n) : mB H k = !decide (¬ σ.2.2.1 57 (Int32.toNatClampNeg n) = 0) := by
  subst hn
  have q1 := Int32.not_le.mp h1
  have q2 := Int32.not_le.mp h2
  unfold mB
  rw [← h.2.2.1, ← h.2.2.2, decide_eq_true q1, decide_eq_true q2]
  rw [h.2.2.1] at q1
  rw [h.2.2.2] at q2
  obtain ⟨r1, r2⟩ := mb_rng hk q1 q2
  rw [nI_clamp (by omega), h.1 k r1 r2]
  cases H k <;> rfl
theorem mb_3 {H : Nat → Bool} {σ : Sg} (h : NumH H σ) {n : Int32} {k : Nat} (hn : n = nI k) (hk : k ≤ 100) (h1 : ¬ n ≤ σ.1 5603) (h2 : ¬ σ.1 5604 ≤ n) (h3 : ¬ σ.2.2.1 57 (Int32.toNatClampNeg n) = 0) : mB H k = false := by
  rw [mb_2 h hn hk h1 h2, decide_eq_true h3]; rfl
theorem mb_4 {H : Nat → Bool} {σ : Sg} (h : NumH H σ) {n : Int32} {k : Nat} (hn : n = nI k) (hk : k ≤ 100) (h1 : ¬ n ≤ σ.1 5603) (h2 : ¬ σ.1 5604 ≤ n) (h3 : σ.2.2.1 57 (Int32.toNatClampNeg n) = 0) : mB H k = true := by
  rw [mb_2 h hn hk h1 h2, decide_eq_false (fun q => q h3)]; rfl
theorem nI_k1 {n : Int32} {k : Nat} (hn : n = nI k) (h : ¬ n ≤ 0) : 1 ≤ k := by
  cases k with
  | zero => exact absurd (by rw [hn, nI_0]; exact Int32.le_refl _) h
  | succ k => omega
def byG (H : Nat → Bool) (k : Nat) : Bool := decide (0 < nI k) && (mB H (k - 1) || mB H (k + 1))
set_option maxRecDepth 100000 in
set_option maxHeartbeats 40000000 in
theorem ge_X5_isMissing {G : vG} {l : Launch} (σ : Sg) (H : Nat → Bool) (n : Int32) (k : Nat) (hI : Inv σ) (hH : NumH H σ) (hn : n = nI k) (hk : k ≤ 100) : Sp G l yX5_isMissing cX5_isMissing 2 (some .boolean) 0 0 0 [.ref 56, .int n] (WW σ) (QI (fun x w2 => w2 = WW σ ∧ (mB H k = true ∧ x = 1 ∨ mB H k = false ∧ x = 0))) := by
  refine Sp_of_R [(some (.ref 56)), (some (.int n))] [] rfl (by simp) rfl (Nat.le_of_ble_eq_true rfl) ?_
  refine R_iload_n (pc := 0) dX5_isMissing_0 rfl rfl ?_
  refine R_aload_n (pc := 1) dX5_isMissing_1 rfl rfl ?_
  refine g_X5_37 (pc := 2) (v := .int (σ.1 5603)) rfl dX5_isMissing_2 (c_56 _) rfl ?_
  refine R_icle (pc := 5) 29 dX5_isMissing_5 (by decide) (fun b5_1 => ?_) (fun b5_1 => ?_)
  · skip
    refine R_iconst (pc := 29) (v := 0) dX5_isMissing_29 (by decide) ?_
    exact R_iret (pc := 30) dX5_isMissing_30 rfl rfl (Nat.zero_le _) (Nat.zero_le _) ⟨_, rfl, rfl, Or.inr ⟨(mb_0 hH hn b5_1), rfl⟩⟩
  · skip
    refine R_iload_n (pc := 8) dX5_isMissing_8 rfl rfl ?_
    refine R_aload_n (pc := 9) dX5_isMissing_9 rfl rfl ?_
    refine g_X5_40 (pc := 10) (v := .int (σ.1 5604)) rfl dX5_isMissing_10 (c_56 _) rfl ?_
    refine R_icge (pc := 13) 29 dX5_isMissing_13 (by decide) (fun b13_2 => ?_) (fun b13_2 => ?_)
    · skip
      refine R_iconst (pc := 29) (v := 0) dX5_isMissing_29 (by decide) ?_
      exact R_iret (pc := 30) dX5_isMissing_30 rfl rfl (Nat.zero_le _) (Nat.zero_le _) ⟨_, rfl, rfl, Or.inr ⟨(mb_1 hH hn b13_2), rfl⟩⟩
    · skip
      refine R_aload_n (pc := 16) dX5_isMissing_16 rfl rfl ?_
      refine g_X5_9 (pc := 17) (v := .ref 57) rfl dX5_isMissing_17 (c_56 _) rfl ?_
      refine R_iload_n (pc := 20) dX5_isMissing_20 rfl rfl ?_
      have hx3 : vp_in n 100 := (vp_ti (by have q0 := ti_nle b5_1; have q1 := ti_nle b13_2; have q2 := ti_in (iv_5603 hI); have q3 := ti_in (iv_5604 hI); have z0 : (-1 : Int32).toInt = -1 := (by decide); have z1 : (0 : Int32).toInt = 0 := (by decide); have z2 : (1 : Int32).toInt = 1 := (by decide); have z3 : (5603 : Int32).toInt = 5603 := (by decide); have z4 : (5604 : Int32).toInt = 5604 := (by decide); have z5 : (99 : Int32).toInt = 99 := (by decide); omega) (by have q0 := ti_nle b5_1; have q1 := ti_nle b13_2; have q2 := ti_in (iv_5603 hI); have q3 := ti_in (iv_5604 hI); have z0 : (-1 : Int32).toInt = -1 := (by decide); have z1 : (0 : Int32).toInt = 0 := (by decide); have z2 : (1 : Int32).toInt = 1 := (by decide); have z3 : (5603 : Int32).toInt = 5603 := (by decide); have z4 : (5604 : Int32).toInt = 5604 := (by decide); have z5 : (99 : Int32).toInt = 99 := (by decide); omega))
      refine R_baload (pc := 21) dX5_isMissing_21 (c_57 _) hx3 ?_
      refine R_ifne (pc := 22) 29 dX5_isMissing_22 (by decide) (fun b22_4 => ?_) (fun b22_4 => ?_)
      · skip
        refine R_iconst (pc := 29) (v := 0) dX5_isMissing_29 (by decide) ?_
        exact R_iret (pc := 30) dX5_isMissing_30 rfl rfl (Nat.zero_le _) (Nat.zero_le _) ⟨_, rfl, rfl, Or.inr ⟨(mb_3 hH hn hk b5_1 b13_2 b22_4), rfl⟩⟩
      · skip
        refine R_iconst (pc := 25) (v := 1) dX5_isMissing_25 (by decide) ?_
        refine R_goto (pc := 26) 30 dX5_isMissing_26 (by decide) ?_
        exact R_iret (pc := 30) dX5_isMissing_30 rfl rfl (Nat.zero_le _) (Nat.zero_le _) ⟨_, rfl, rfl, Or.inl ⟨(mb_4 hH hn hk b5_1 b13_2 b22_4), rfl⟩⟩
set_option maxRecDepth 100000 in
set_option maxHeartbeats 40000000 in
theorem ge_X5_isByGap {G : vG} {l : Launch} (σ : Sg) (H : Nat → Bool) (n : Int32) (k : Nat) (hI : Inv σ) (hH : NumH H σ) (hn : n = nI k) (hk : k ≤ 99) : Sp G l yX5_isByGap cX5_isByGap 2 (some .boolean) 1 0 0 [.ref 56, .int n] (WW σ) (QI (fun x w2 => w2 = WW σ ∧ (byG H k = true ∧ x = 1 ∨ byG H k = false ∧ x = 0))) := by
  refine Sp_of_R [(some (.ref 56)), (some (.int n))] [] rfl (by simp) rfl (Nat.le_of_ble_eq_true rfl) ?_
  refine R_iload_n (pc := 0) dX5_isByGap_0 rfl rfl ?_
  refine R_ifle (pc := 1) 28 dX5_isByGap_1 (by decide) (fun b1_1 => ?_) (fun b1_1 => ?_)
  · skip
    refine R_iconst (pc := 28) (v := 0) dX5_isByGap_28 (by decide) ?_
    exact R_iret (pc := 29) dX5_isByGap_29 rfl rfl (Nat.zero_le _) (Nat.zero_le _) ⟨_, rfl, rfl, Or.inr ⟨(by unfold byG; rw [(show decide (0 < nI k) = false from by rw [← hn]; exact decide_eq_false (Int32.not_lt.mpr b1_1))] <;> simp), rfl⟩⟩
  · skip
    refine R_aload_n (pc := 4) dX5_isByGap_4 rfl rfl ?_
    refine R_iload_n (pc := 5) dX5_isByGap_5 rfl rfl ?_
    refine R_iconst (pc := 6) (v := 1) dX5_isByGap_6 (by decide) ?_
    refine R_isub (pc := 7) dX5_isByGap_7 ?_
    refine k_X5_43 (pc := 8) (ge_X5_isMissing _ H _ (k - 1) hI hH (show n - 1 = nI (k - 1) from by rw [hn]; exact nI_p (nI_k1 hn b1_1)) (by omega)) rfl (c_56 _) (by decide) (Nat.le_refl _) (Nat.le_refl _) (Nat.le_of_ble_eq_true rfl) dX5_isByGap_8 (fun x w2 h => ?_)
    rcases h with ⟨rfl, ⟨h2, rfl⟩ | ⟨h2, rfl⟩⟩
    · skip
      refine R_ifne (pc := 11) 24 dX5_isByGap_11 (by decide) (fun _ => ?_) (fun h => absurd h (by decide))
      refine R_iconst (pc := 24) (v := 1) dX5_isByGap_24 (by decide) ?_
      refine R_goto (pc := 25) 29 dX5_isByGap_25 (by decide) ?_
      exact R_iret (pc := 29) dX5_isByGap_29 rfl rfl (Nat.zero_le _) (Nat.zero_le _) ⟨_, rfl, rfl, Or.inl ⟨(by unfold byG; rw [(show decide (0 < nI k) = true from by rw [← hn]; exact decide_eq_true (Int32.not_le.mp b1_1)), h2] <;> simp), rfl⟩⟩
    · skip
      refine R_ifne (pc := 11) 24 dX5_isByGap_11 (by decide) (fun h => absurd (by decide) h) (fun _ => ?_)
      refine R_aload_n (pc := 14) dX5_isByGap_14 rfl rfl ?_
      refine R_iload_n (pc := 15) dX5_isByGap_15 rfl rfl ?_
      refine R_iconst (pc := 16) (v := 1) dX5_isByGap_16 (by decide) ?_
      refine R_iadd (pc := 17) dX5_isByGap_17 ?_
      refine k_X5_43 (pc := 18) (ge_X5_isMissing _ H _ (k + 1) hI hH (show n + 1 = nI (k + 1) from by rw [hn]; exact nI_1 k) (by omega)) rfl (c_56 _) (by decide) (Nat.le_refl _) (Nat.le_refl _) (Nat.le_of_ble_eq_true rfl) dX5_isByGap_18 (fun x w2 h => ?_)
      rcases h with ⟨rfl, ⟨h5, rfl⟩ | ⟨h5, rfl⟩⟩
      · skip
        refine R_ifeq (pc := 21) 28 dX5_isByGap_21 (by decide) (fun h => absurd h (by decide)) (fun _ => ?_)
        refine R_iconst (pc := 24) (v := 1) dX5_isByGap_24 (by decide) ?_
        refine R_goto (pc := 25) 29 dX5_isByGap_25 (by decide) ?_
        exact R_iret (pc := 29) dX5_isByGap_29 rfl rfl (Nat.zero_le _) (Nat.zero_le _) ⟨_, rfl, rfl, Or.inl ⟨(by unfold byG; rw [(show decide (0 < nI k) = true from by rw [← hn]; exact decide_eq_true (Int32.not_le.mp b1_1)), h2, h5] <;> simp), rfl⟩⟩
      · skip
        refine R_ifeq (pc := 21) 28 dX5_isByGap_21 (by decide) (fun _ => ?_) (fun h => absurd (by decide) h)
        refine R_iconst (pc := 28) (v := 0) dX5_isByGap_28 (by decide) ?_
        exact R_iret (pc := 29) dX5_isByGap_29 rfl rfl (Nat.zero_le _) (Nat.zero_le _) ⟨_, rfl, rfl, Or.inr ⟨(by unfold byG; rw [(show decide (0 < nI k) = true from by rw [← hn]; exact decide_eq_true (Int32.not_le.mp b1_1)), h2, h5] <;> simp), rfl⟩⟩
