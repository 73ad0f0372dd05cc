/-! methods on any state that keeps the invariant -/
theorem mb_rng {H : Nat → Bool} {k : Nat} (hk : k ≤ 100) (h1 : loR H 99 < nI k) (h2 : nI k < hiR H 99) : 1 ≤ k ∧ k ≤ 99 := by
  have hb := num_all H 99
  have e1 := lo_nI H 99 (by omega)
  have e2 := hi_nI H 99
  have z : (-1 : Int32).toInt = -1 := by decide
  by_cases hz : loN H 99 = 0
  · rw [decide_eq_true (hb.2.2.2.1.mp hz)] at e2
    rw [e2] at h2
    have := ti_lt h2
    rw [nI_toInt (by omega)] at this
    simp only [cond_true] at this
    omega
  · have hz2 : ¬ hiN H 99 = 0 := fun e => hz (hb.2.2.2.1.mpr e)
    rw [decide_eq_false hz] at e1
    rw [decide_eq_false hz2] at e2
    rw [e1] at h1
    rw [e2] at h2
    simp only [cond_false] at h1 h2
    have q1 := (nI_ltI (by omega) (by omega)).mp h1
    have q2 := (nI_ltI (by omega) (by omega)).mp h2
    omega
theorem mb_0 {H : Nat → Bool} {σ : Sg} (h : NumH H σ) {n : Int32} {k : Nat} (hn : n = nI k) (h1 : n ≤ σ.1 5603) : mB H k = false := by
  unfold mB
  rw [← hn, ← h.2.2.1, decide_eq_false (Int32.not_lt.mpr h1)]; rfl
theorem mb_1 {H : Nat → Bool} {σ : Sg} (h : NumH H σ) {n : Int32} {k : Nat} (hn : n = nI k) (h1 : σ.1 5604 ≤ n) : mB H k = false := by
  unfold mB
  rw [← hn, ← h.2.2.2, decide_eq_false (Int32.not_lt.mpr h1)]; simp
theorem mb_2 {H : Nat → Bool} {σ : Sg} (h : NumH H σ) {n : Int32} {k : Nat} (hn : n = nI k) (hk : k ≤ 100) (h1 : ¬ n ≤ σ.1 5603) (h2 : ¬ σ.1 5604 ≤ n) : mB H k = !decide (¬ σ.2.2.1 57 (Int32.toNatClampNeg n) = 0) := by
  subst hn
  have q1 := Int32.not_le.mp h1
  have q2 := Int32.not_le.mp h2
  unfold mB
  rw [← h.2.2.1, ← h.2.2.2, decide_eq_true q1, decide_eq_true q2]
  rw [h.2.2.1] at q1
  rw [h.2.2.2] at q2
  obtain ⟨r1, r2⟩ := mb_rng hk q1 q2
  rw [nI_clamp (by omega), h.1 k r1 r2]
  cases H k <;> rfl
theorem mb_3 {H : Nat → Bool} {σ : Sg} (h : NumH H σ) {n : Int32} {k : Nat} (hn : n = nI k) (hk : k ≤ 100) (h1 : ¬ n ≤ σ.1 5603) (h2 : ¬ σ.1 5604 ≤ n) (h3 : ¬ σ.2.2.1 57 (Int32.toNatClampNeg n) = 0) : mB H k = false := by
  rw [mb_2 h hn hk h1 h2, decide_eq_true h3]; rfl
theorem mb_4 {H : Nat → Bool} {σ : Sg} (h : NumH H σ) {n : Int32} {k : Nat} (hn : n = nI k) (hk : k ≤ 100) (h1 : ¬ n ≤ σ.1 5603) (h2 : ¬ σ.1 5604 ≤ n) (h3 : σ.2.2.1 57 (Int32.toNatClampNeg n) = 0) : mB H k = true := by
  rw [mb_2 h hn hk h1 h2, decide_eq_false (fun q => q h3)]; rfl
theorem nI_k1 {n : Int32} {k : Nat} (hn : n = nI k) (h : ¬ n ≤ 0) : 1 ≤ k := by
  cases k with
  | zero => exact absurd (by rw [hn, nI_0]; exact Int32.le_refl _) h
  | succ k => omega
theorem ms_z {H : Nat → Bool} {σ : Sg} (h : NumH H σ) (e : σ.1 5602 = 0) : 0 = msI H := by
  unfold msI
  rw [← h.2.1, decide_eq_true e]; rfl
theorem ms_n {H : Nat → Bool} {σ : Sg} (h : NumH H σ) (e : ¬ σ.1 5602 = 0) : (((σ.1 5604) - (σ.1 5603)) + 1) - (σ.1 5602) = msI H := by
  unfold msI
  rw [← h.2.1, ← h.2.2.1, ← h.2.2.2, decide_eq_false e]; rfl
theorem gc_p {m : Nat → Bool} {j : Nat} (hj : 1 ≤ j) : gcR m j = gcR m (j - 1) + (bif m j && !m (j - 1) then 1 else 0) := by
  obtain ⟨k, rfl⟩ : ∃ k, j = k + 1 := ⟨j - 1, by omega⟩
  rfl
theorem gc_t {m : Nat → Bool} {j : Nat} {x : Int32} (hj : 1 ≤ j) (h1 : m j = true) (h2 : m (j - 1) = false) (e : x = gcR m (j - 1)) : x + 1 = gcR m (j + 1 - 1) := by
  show x + 1 = gcR m j
  rw [gc_p hj, h1, h2, e]; rfl
theorem gc_f1 {m : Nat → Bool} {j : Nat} {x : Int32} (hj : 1 ≤ j) (h1 : m j = false) (e : x = gcR m (j - 1)) : x = gcR m (j + 1 - 1) := by
  show x = gcR m j
  rw [gc_p hj, h1, e]; exact (Int32.add_zero _).symm
theorem gc_f2 {m : Nat → Bool} {j : Nat} {x : Int32} (hj : 1 ≤ j) (h2 : m (j - 1) = true) (e : x = gcR m (j - 1)) : x = gcR m (j + 1 - 1) := by
  show x = gcR m j
  rw [gc_p hj, h2, e]; cases m j <;> exact (Int32.add_zero _).symm
theorem gs_0 {m : Nat → Bool} {A l f : Int32} {q j : Nat} (h : A = gC m (q + 1) j l f) (hm : m j = false) : A = gC m q (j + 1) l f := by rw [h, gC_s, hm]; rfl
theorem gs_1 {m : Nat → Bool} {A l f : Int32} {q j : Nat} (h : A = gC m (q + 1) j l f) (hm : m j = true) (hp : m (j - 1) = true) (hn : m (j + 1) = true) : A = gC m q (j + 1) l f := by rw [h, gC_s, hm, hp, hn]; rfl
theorem gs_2 {m : Nat → Bool} {A l f : Int32} {q j : Nat} (h : A = gC m (q + 1) j l f) (hm : m j = true) (hp : m (j - 1) = false) (hn : m (j + 1) = true) : A = gC m q (j + 1) l (nI j) := by rw [h, gC_s, hm, hp, hn]; rfl
theorem gs_3 {m : Nat → Bool} {A l f : Int32} {q j : Nat} (h : A = gC m (q + 1) j l f) (hm : m j = true) (hp : m (j - 1) = true) (hn : m (j + 1) = false) (hl : ¬ l = 0) : A = gC m q (j + 1) (l + (-1)) f := by rw [h, gC_s, hm, hp, hn, decide_eq_false hl]; rfl
theorem gs_4 {m : Nat → Bool} {A l f : Int32} {q j : Nat} (h : A = gC m (q + 1) j l f) (hm : m j = true) (hp : m (j - 1) = false) (hn : m (j + 1) = false) (hl : ¬ l = 0) : A = gC m q (j + 1) (l + (-1)) (nI j) := by rw [h, gC_s, hm, hp, hn, decide_eq_false hl]; rfl
theorem gs_5 {m : Nat → Bool} {A l f : Int32} {q j : Nat} (h : A = gC m (q + 1) j l f) (hm : m j = true) (hp : m (j - 1) = true) (hn : m (j + 1) = false) (hl : l = 0) : (100 * f) + nI j = A := by rw [h, gC_s, hm, hp, hn, decide_eq_true hl]; rfl
theorem gs_6 {m : Nat → Bool} {A l f : Int32} {q j : Nat} (h : A = gC m (q + 1) j l f) (hm : m j = true) (hp : m (j - 1) = false) (hn : m (j + 1) = false) (hl : l = 0) : (100 * nI j) + nI j = A := by rw [h, gC_s, hm, hp, hn, decide_eq_true hl]; rfl
def byG (H : Nat → Bool) (k : Nat) : Bool := decide (0 < nI k) && (mB H (k - 1) || mB H (k + 1))
set_option maxRecDepth 100000 in
set_option maxHeartbeats 40000000 in
theorem ge_X5_isMissing {G : vG} {l : Launch} (σ : Sg) (H : Nat → Bool) (n : Int32) (k : Nat) (hI : Inv σ) (hH : NumH H σ) (hn : n = nI k) (hk : k ≤ 100) : Sp G l yX5_isMissing cX5_isMissing 2 (some .boolean) 0 0 0 [.ref 56, .int n] (WW σ) (QI (fun x w2 => w2 = WW σ ∧ (mB H k = true ∧ x = 1 ∨ mB H k = false ∧ x = 0))) := by
  refine Sp_of_R [(some (.ref 56)), (some (.int n))] [] rfl (by simp) rfl (Nat.le_of_ble_eq_true rfl) ?_
  refine R_iload_n (pc := 0) dX5_isMissing_0 rfl rfl ?_
  refine R_aload_n (pc := 1) dX5_isMissing_1 rfl rfl ?_
  refine g_X5_37 (pc := 2) (v := .int (σ.1 5603)) rfl dX5_isMissing_2 (c_56 _) rfl ?_
  refine R_icle (pc := 5) 29 dX5_isMissing_5 (by decide) (fun b5_1 => ?_) (fun b5_1 => ?_)
  · skip
    refine R_iconst (pc := 29) (v := 0) dX5_isMissing_29 (by decide) ?_
    exact R_iret (pc := 30) dX5_isMissing_30 rfl rfl (Nat.zero_le _) (Nat.zero_le _) ⟨_, rfl, rfl, Or.inr ⟨(mb_0 hH hn b5_1), rfl⟩⟩
  · skip
    refine R_iload_n (pc := 8) dX5_isMissing_8 rfl rfl ?_
    refine R_aload_n (pc := 9) dX5_isMissing_9 rfl rfl ?_
    refine g_X5_40 (pc := 10) (v := .int (σ.1 5604)) rfl dX5_isMissing_10 (c_56 _) rfl ?_
    refine R_icge (pc := 13) 29 dX5_isMissing_13 (by decide) (fun b13_2 => ?_) (fun b13_2 => ?_)
    · skip
      refine R_iconst (pc := 29) (v := 0) dX5_isMissing_29 (by decide) ?_
      exact R_iret (pc := 30) dX5_isMissing_30 rfl rfl (Nat.zero_le _) (Nat.zero_le _) ⟨_, rfl, rfl, Or.inr ⟨(mb_1 hH hn b13_2), rfl⟩⟩
    · skip
      refine R_aload_n (pc := 16) dX5_isMissing_16 rfl rfl ?_
      refine g_X5_9 (pc := 17) (v := .ref 57) rfl dX5_isMissing_17 (c_56 _) rfl ?_
      refine R_iload_n (pc := 20) dX5_isMissing_20 rfl rfl ?_
      have hx3 : vp_in n 100 := (vp_ti (by have q0 := ti_nle b5_1; have q1 := ti_nle b13_2; have q2 := ti_in (iv_5603 hI); have q3 := ti_in (iv_5604 hI); have z0 : (-1 : Int32).toInt = -1 := (by decide); have z1 : (0 : Int32).toInt = 0 := (by decide); have z2 : (1 : Int32).toInt = 1 := (by decide); have z3 : (5603 : Int32).toInt = 5603 := (by decide); have z4 : (5604 : Int32).toInt = 5604 := (by decide); have z5 : (99 : Int32).toInt = 99 := (by decide); omega) (by have q0 := ti_nle b5_1; have q1 := ti_nle b13_2; have q2 := ti_in (iv_5603 hI); have q3 := ti_in (iv_5604 hI); have z0 : (-1 : Int32).toInt = -1 := (by decide); have z1 : (0 : Int32).toInt = 0 := (by decide); have z2 : (1 : Int32).toInt = 1 := (by decide); have z3 : (5603 : Int32).toInt = 5603 := (by decide); have z4 : (5604 : Int32).toInt = 5604 := (by decide); have z5 : (99 : Int32).toInt = 99 := (by decide); omega))
      refine R_baload (pc := 21) dX5_isMissing_21 (c_57 _) hx3 ?_
      refine R_ifne (pc := 22) 29 dX5_isMissing_22 (by decide) (fun b22_4 => ?_) (fun b22_4 => ?_)
      · skip
        refine R_iconst (pc := 29) (v := 0) dX5_isMissing_29 (by decide) ?_
        exact R_iret (pc := 30) dX5_isMissing_30 rfl rfl (Nat.zero_le _) (Nat.zero_le _) ⟨_, rfl, rfl, Or.inr ⟨(mb_3 hH hn hk b5_1 b13_2 b22_4), rfl⟩⟩
      · skip
        refine R_iconst (pc := 25) (v := 1) dX5_isMissing_25 (by decide) ?_
        refine R_goto (pc := 26) 30 dX5_isMissing_26 (by decide) ?_
        exact R_iret (pc := 30) dX5_isMissing_30 rfl rfl (Nat.zero_le _) (Nat.zero_le _) ⟨_, rfl, rfl, Or.inl ⟨(mb_4 hH hn hk b5_1 b13_2 b22_4), rfl⟩⟩
set_option maxRecDepth 100000 in
set_option maxHeartbeats 40000000 in
theorem ge_X5_isByGap {G : vG} {l : Launch} (σ : Sg) (H : Nat → Bool) (n : Int32) (k : Nat) (hI : Inv σ) (hH : NumH H σ) (hn : n = nI k) (hk : k ≤ 99) : Sp G l yX5_isByGap cX5_isByGap 2 (some .boolean) 1 0 0 [.ref 56, .int n] (WW σ) (QI (fun x w2 => w2 = WW σ ∧ (byG H k = true ∧ x = 1 ∨ byG H k = false ∧ x = 0))) := by
  refine Sp_of_R [(some (.ref 56)), (some (.int n))] [] rfl (by simp) rfl (Nat.le_of_ble_eq_true rfl) ?_
  refine R_iload_n (pc := 0) dX5_isByGap_0 rfl rfl ?_
  refine R_ifle (pc := 1) 28 dX5_isByGap_1 (by decide) (fun b1_1 => ?_) (fun b1_1 => ?_)
  · skip
    refine R_iconst (pc := 28) (v := 0) dX5_isByGap_28 (by decide) ?_
    exact R_iret (pc := 29) dX5_isByGap_29 rfl rfl (Nat.zero_le _) (Nat.zero_le _) ⟨_, rfl, rfl, Or.inr ⟨(by unfold byG; rw [(show decide (0 < nI k) = false from by rw [← hn]; exact decide_eq_false (Int32.not_lt.mpr b1_1))] <;> simp), rfl⟩⟩
  · skip
    refine R_aload_n (pc := 4) dX5_isByGap_4 rfl rfl ?_
    refine R_iload_n (pc := 5) dX5_isByGap_5 rfl rfl ?_
    refine R_iconst (pc := 6) (v := 1) dX5_isByGap_6 (by decide) ?_
    refine R_isub (pc := 7) dX5_isByGap_7 ?_
    refine k_X5_43 (pc := 8) (ge_X5_isMissing _ H _ (k - 1) hI hH (show n - 1 = nI (k - 1) from by rw [hn]; exact nI_p (nI_k1 hn b1_1)) (by omega)) rfl (c_56 _) (by decide) (Nat.le_refl _) (Nat.le_refl _) (Nat.le_of_ble_eq_true rfl) dX5_isByGap_8 (fun x w2 h => ?_)
    rcases h with ⟨rfl, ⟨h2, rfl⟩ | ⟨h2, rfl⟩⟩
    · skip
      refine R_ifne (pc := 11) 24 dX5_isByGap_11 (by decide) (fun _ => ?_) (fun h => absurd h (by decide))
      refine R_iconst (pc := 24) (v := 1) dX5_isByGap_24 (by decide) ?_
      refine R_goto (pc := 25) 29 dX5_isByGap_25 (by decide) ?_
      exact R_iret (pc := 29) dX5_isByGap_29 rfl rfl (Nat.zero_le _) (Nat.zero_le _) ⟨_, rfl, rfl, Or.inl ⟨(by unfold byG; rw [(show decide (0 < nI k) = true from by rw [← hn]; exact decide_eq_true (Int32.not_le.mp b1_1)), h2] <;> simp), rfl⟩⟩
    · skip
      refine R_ifne (pc := 11) 24 dX5_isByGap_11 (by decide) (fun h => absurd (by decide) h) (fun _ => ?_)
      refine R_aload_n (pc := 14) dX5_isByGap_14 rfl rfl ?_
      refine R_iload_n (pc := 15) dX5_isByGap_15 rfl rfl ?_
      refine R_iconst (pc := 16) (v := 1) dX5_isByGap_16 (by decide) ?_
      refine R_iadd (pc := 17) dX5_isByGap_17 ?_
      refine k_X5_43 (pc := 18) (ge_X5_isMissing _ H _ (k + 1) hI hH (show n + 1 = nI (k + 1) from by rw [hn]; exact nI_1 k) (by omega)) rfl (c_56 _) (by decide) (Nat.le_refl _) (Nat.le_refl _) (Nat.le_of_ble_eq_true rfl) dX5_isByGap_18 (fun x w2 h => ?_)
      rcases h with ⟨rfl, ⟨h5, rfl⟩ | ⟨h5, rfl⟩⟩
      · skip
        refine R_ifeq (pc := 21) 28 dX5_isByGap_21 (by decide) (fun h => absurd h (by decide)) (fun _ => ?_)
        refine R_iconst (pc := 24) (v := 1) dX5_isByGap_24 (by decide) ?_
        refine R_goto (pc := 25) 29 dX5_isByGap_25 (by decide) ?_
        exact R_iret (pc := 29) dX5_isByGap_29 rfl rfl (Nat.zero_le _) (Nat.zero_le _) ⟨_, rfl, rfl, Or.inl ⟨(by unfold byG; rw [(show decide (0 < nI k) = true from by rw [← hn]; exact decide_eq_true (Int32.not_le.mp b1_1)), h2, h5] <;> simp), rfl⟩⟩
      · skip
        refine R_ifeq (pc := 21) 28 dX5_isByGap_21 (by decide) (fun _ => ?_) (fun h => absurd (by decide) h)
        refine R_iconst (pc := 28) (v := 0) dX5_isByGap_28 (by decide) ?_
        exact R_iret (pc := 29) dX5_isByGap_29 rfl rfl (Nat.zero_le _) (Nat.zero_le _) ⟨_, rfl, rfl, Or.inr ⟨(by unfold byG; rw [(show decide (0 < nI k) = true from by rw [← hn]; exact decide_eq_true (Int32.not_le.mp b1_1)), h2, h5] <;> simp), rfl⟩⟩
set_option maxRecDepth 100000 in
set_option maxHeartbeats 40000000 in
theorem ge_X5_missing {G : vG} {l : Launch} (σ : Sg) (H : Nat → Bool)  (hI : Inv σ) (hH : NumH H σ) : Sp G l yX5_missing cX5_missing 1 (some .int) 0 0 0 [.ref 56] (WW σ) (QI (fun x w2 => w2 = WW σ ∧ x = msI H)) := by
  refine Sp_of_R [(some (.ref 56))] [] rfl (by simp) rfl (Nat.le_of_ble_eq_true rfl) ?_
  refine R_aload_n (pc := 0) dX5_missing_0 rfl rfl ?_
  refine g_X5_36 (pc := 1) (v := .int (σ.1 5602)) rfl dX5_missing_1 (c_56 _) rfl ?_
  refine R_ifne (pc := 4) 11 dX5_missing_4 (by decide) (fun b4_1 => ?_) (fun b4_1 => ?_)
  · skip
    refine R_aload_n (pc := 11) dX5_missing_11 rfl rfl ?_
    refine g_X5_40 (pc := 12) (v := .int (σ.1 5604)) rfl dX5_missing_12 (c_56 _) rfl ?_
    refine R_aload_n (pc := 15) dX5_missing_15 rfl rfl ?_
    refine g_X5_37 (pc := 16) (v := .int (σ.1 5603)) rfl dX5_missing_16 (c_56 _) rfl ?_
    refine R_isub (pc := 19) dX5_missing_19 ?_
    have r2 : inR ((σ.1 5604) - (σ.1 5603)) (-100) 100 := inR_sub (show inR (σ.1 5604) (-1) 99 from (iv_5604 hI)) (show inR (σ.1 5603) (-1) 99 from (iv_5603 hI)) (by decide) (by decide)
    have e3 := ti_sub (l := (-100)) (h := 100) (show inR (σ.1 5604) (-1) 99 from (iv_5604 hI)) (show inR (σ.1 5603) (-1) 99 from (iv_5603 hI)) (by decide) (by decide)
    refine R_iconst (pc := 20) (v := 1) dX5_missing_20 (by decide) ?_
    refine R_iadd (pc := 21) dX5_missing_21 ?_
    have r4 : inR (((σ.1 5604) - (σ.1 5603)) + 1) (-99) 101 := inR_add (show inR ((σ.1 5604) - (σ.1 5603)) (-100) 100 from r2) (show inR 1 1 1 from (inR_self _)) (by decide) (by decide)
    have e5 := ti_add (l := (-99)) (h := 101) (show inR ((σ.1 5604) - (σ.1 5603)) (-100) 100 from r2) (show inR 1 1 1 from (inR_self _)) (by decide) (by decide)
    refine R_aload_n (pc := 22) dX5_missing_22 rfl rfl ?_
    refine g_X5_36 (pc := 23) (v := .int (σ.1 5602)) rfl dX5_missing_23 (c_56 _) rfl ?_
    refine R_isub (pc := 26) dX5_missing_26 ?_
    exact R_iret (pc := 27) dX5_missing_27 rfl rfl (Nat.zero_le _) (Nat.zero_le _) ⟨_, rfl, rfl, (ms_n hH b4_1)⟩
  · skip
    refine R_iconst (pc := 7) (v := 0) dX5_missing_7 (by decide) ?_
    refine R_goto (pc := 8) 27 dX5_missing_8 (by decide) ?_
    exact R_iret (pc := 27) dX5_missing_27 rfl rfl (Nat.zero_le _) (Nat.zero_le _) ⟨_, rfl, rfl, (ms_z hH b4_1)⟩
set_option maxRecDepth 100000 in
set_option maxHeartbeats 40000000 in
theorem ge_X5_gaps {G : vG} {l : Launch} (σ : Sg) (H : Nat → Bool)  (hI : Inv σ) (hH : NumH H σ) : Sp G l yX5_gaps cX5_gaps 3 (some .int) 1 0 0 [.ref 56] (WW σ) (QI (fun x w2 => w2 = WW σ ∧ x = gcR (mB H) 99)) := by
  refine Sp_of_R [(some (.ref 56)), none, none] [none, none] rfl (by simp) rfl (Nat.le_of_ble_eq_true rfl) ?_
  refine R_iconst (pc := 0) (v := 0) dX5_gaps_0 (by decide) ?_
  refine st_3_1_i_a (pc := 1) dX5_gaps_1 ?_
  refine R_iconst (pc := 2) (v := 1) dX5_gaps_2 (by decide) ?_
  refine st_3_2_i_i (pc := 3) dX5_gaps_3 ?_
  have HL4 : ∀ (q j4 : Nat) (g1_4 : Int32), j4 + q = 100 → 1 ≤ j4 → g1_4 = gcR (mB H) (j4 - 1) → R G l yX5_gaps cX5_gaps 3 (some .int) 1 0 0 (QI (fun x w2 => w2 = WW σ ∧ x = gcR (mB H) 99)) 4 [(some (.ref 56)), (some (.int g1_4)), (some (.int (nI j4)))] [] (WW σ) 0 0 := by
    intro q
    induction q with
    | zero =>
      intro j4 g1_4 hj hs4 hX4_0
      obtain rfl : j4 = 100 := by omega
      refine R_iload_n (pc := 4) dX5_gaps_4 rfl rfl ?_
      refine R_bipush (pc := 5) (v := 99) dX5_gaps_5 (by decide) ?_
      refine R_icgt (pc := 7) 37 dX5_gaps_7 (by decide) (fun _ => ?_) (fun h => absurd (by decide) h)
      refine R_iload_n (pc := 37) dX5_gaps_37 rfl rfl ?_
      exact R_iret (pc := 38) dX5_gaps_38 rfl rfl (Nat.zero_le _) (Nat.zero_le _) ⟨_, rfl, rfl, hX4_0⟩
    | succ q ih4 =>
      intro j4 g1_4 hj hs4 hX4_0
      have hrg4 : inR (nI j4) 1 99 := inR_ix hs4 (show j4 < 100 by omega) (by decide) (by decide) (by decide)
      have hlt4 : j4 < 100 := by omega
      refine R_iload_n (pc := 4) dX5_gaps_4 rfl rfl ?_
      refine R_bipush (pc := 5) (v := 99) dX5_gaps_5 (by decide) ?_
      refine R_icgt (pc := 7) 37 dX5_gaps_7 (by decide) (fun h => False.elim (by have q1 := ti_lt h; have q2 := ti_in (show inR (nI j4) 1 99 from hrg4); have q3 := ti_in (show inR 99 99 99 from (inR_self _)); have z0 : (1 : Int32).toInt = 1 := (by decide);  have z1 : (99 : Int32).toInt = 99 := (by decide); omega)) (fun _ => ?_)
      refine R_aload_n (pc := 10) dX5_gaps_10 rfl rfl ?_
      refine R_iload_n (pc := 11) dX5_gaps_11 rfl rfl ?_
      refine k_X5_43 (pc := 12) (ge_X5_isMissing _ H _ j4 hI hH rfl (by omega)) rfl (c_56 _) (by decide) (Nat.le_refl _) (Nat.le_refl _) (Nat.le_of_ble_eq_true rfl) dX5_gaps_12 (fun x w2 h => ?_)
      rcases h with ⟨rfl, ⟨h3, rfl⟩ | ⟨h3, rfl⟩⟩
      · skip
        refine R_ifeq (pc := 15) 31 dX5_gaps_15 (by decide) (fun h => absurd h (by decide)) (fun _ => ?_)
        refine R_aload_n (pc := 18) dX5_gaps_18 rfl rfl ?_
        refine R_iload_n (pc := 19) dX5_gaps_19 rfl rfl ?_
        refine R_iconst (pc := 20) (v := 1) dX5_gaps_20 (by decide) ?_
        refine R_isub (pc := 21) dX5_gaps_21 ?_
        have r5 : inR ((nI j4) - 1) 0 98 := inR_sub (show inR (nI j4) 1 99 from hrg4) (show inR 1 1 1 from (inR_self _)) (by decide) (by decide)
        have e6 := ti_sub (l := 0) (h := 98) (show inR (nI j4) 1 99 from hrg4) (show inR 1 1 1 from (inR_self _)) (by decide) (by decide)
        refine k_X5_43 (pc := 22) (ge_X5_isMissing _ H _ (j4 - 1) hI hH (nI_p (by omega)) (by omega)) rfl (c_56 _) (by decide) (Nat.le_refl _) (Nat.le_refl _) (Nat.le_of_ble_eq_true rfl) dX5_gaps_22 (fun x w2 h => ?_)
        rcases h with ⟨rfl, ⟨h7, rfl⟩ | ⟨h7, rfl⟩⟩
        · skip
          refine R_ifne (pc := 25) 31 dX5_gaps_25 (by decide) (fun _ => ?_) (fun h => absurd h (by decide))
          refine inc_3_2_1_i (pc := 31) dX5_gaps_31 ?_
          have r9 : inR ((nI j4) + 1) 2 100 := inR_add (show inR (nI j4) 1 99 from hrg4) (show inR 1 1 1 from (inR_self _)) (by decide) (by decide)
          have e10 := ti_add (l := 2) (h := 100) (show inR (nI j4) 1 99 from hrg4) (show inR 1 1 1 from (inR_self _)) (by decide) (by decide)
          refine R_goto (pc := 34) 4 dX5_gaps_34 (by decide) ?_
          rw [nI_1]
          exact ih4 (j4 + 1) _ (by omega) (by omega) (gc_f2 (m := mB H) (by omega) h7 hX4_0)
        · skip
          refine R_ifne (pc := 25) 31 dX5_gaps_25 (by decide) (fun h => absurd (by decide) h) (fun _ => ?_)
          refine inc_3_1_1_a (pc := 28) dX5_gaps_28 ?_
          refine inc_3_2_1_i (pc := 31) dX5_gaps_31 ?_
          have r12 : inR ((nI j4) + 1) 2 100 := inR_add (show inR (nI j4) 1 99 from hrg4) (show inR 1 1 1 from (inR_self _)) (by decide) (by decide)
          have e13 := ti_add (l := 2) (h := 100) (show inR (nI j4) 1 99 from hrg4) (show inR 1 1 1 from (inR_self _)) (by decide) (by decide)
          refine R_goto (pc := 34) 4 dX5_gaps_34 (by decide) ?_
          rw [nI_1]
          exact ih4 (j4 + 1) _ (by omega) (by omega) (gc_t (m := mB H) (by omega) h3 h7 hX4_0)
      · skip
        refine R_ifeq (pc := 15) 31 dX5_gaps_15 (by decide) (fun _ => ?_) (fun h => absurd (by decide) h)
        refine inc_3_2_1_i (pc := 31) dX5_gaps_31 ?_
        have r15 : inR ((nI j4) + 1) 2 100 := inR_add (show inR (nI j4) 1 99 from hrg4) (show inR 1 1 1 from (inR_self _)) (by decide) (by decide)
        have e16 := ti_add (l := 2) (h := 100) (show inR (nI j4) 1 99 from hrg4) (show inR 1 1 1 from (inR_self _)) (by decide) (by decide)
        refine R_goto (pc := 34) 4 dX5_gaps_34 (by decide) ?_
        rw [nI_1]
        exact ih4 (j4 + 1) _ (by omega) (by omega) (gc_f1 (m := mB H) (by omega) h3 hX4_0)
  exact HL4 99 1 _ (by omega) (by omega) rfl
set_option maxRecDepth 100000 in
set_option maxHeartbeats 40000000 in
theorem ge_X5_gapAt {G : vG} {l : Launch} (σ : Sg) (H : Nat → Bool) (i : Int32) (hI : Inv σ) (hH : NumH H σ) : Sp G l yX5_gapAt cX5_gapAt 5 (some .int) 1 0 0 [.ref 56, .int i] (WW σ) (QI (fun x w2 => w2 = WW σ ∧ x = gC (mB H) 99 1 i (-1))) := by
  refine Sp_of_R [(some (.ref 56)), (some (.int i)), none, none, none] [none, none, none] rfl (by simp) rfl (Nat.le_of_ble_eq_true rfl) ?_
  refine R_iload_n (pc := 0) dX5_gapAt_0 rfl rfl ?_
  refine st_5_2_i_i (pc := 1) dX5_gapAt_1 ?_
  refine R_iconst (pc := 2) (v := (-1)) dX5_gapAt_2 (by decide) ?_
  refine st_5_3_i_i (pc := 3) dX5_gapAt_3 ?_
  refine R_iconst (pc := 4) (v := 1) dX5_gapAt_4 (by decide) ?_
  refine st_5_4_i_i (pc := 5) dX5_gapAt_5 ?_
  have HL7 : ∀ (q j7 : Nat) (g2_7 : Int32) (g3_7 : Int32), j7 + q = 100 → 1 ≤ j7 → gC (mB H) 99 1 i (-1) = gC (mB H) q j7 g2_7 g3_7 → R G l yX5_gapAt cX5_gapAt 5 (some .int) 1 0 0 (QI (fun x w2 => w2 = WW σ ∧ x = gC (mB H) 99 1 i (-1))) 7 [(some (.ref 56)), (some (.int i)), (some (.int g2_7)), (some (.int g3_7)), (some (.int (nI j7)))] [] (WW σ) 0 0 := by
    intro q
    induction q with
    | zero =>
      intro j7 g2_7 g3_7 hj hs7 hX7_0
      obtain rfl : j7 = 100 := by omega
      refine R_iload (pc := 7) dX5_gapAt_7 rfl ?_
      refine R_bipush (pc := 9) (v := 99) dX5_gapAt_9 (by decide) ?_
      refine R_icgt (pc := 11) 73 dX5_gapAt_11 (by decide) (fun _ => ?_) (fun h => absurd (by decide) h)
      refine R_iconst (pc := 73) (v := (-1)) dX5_gapAt_73 (by decide) ?_
      exact R_iret (pc := 74) dX5_gapAt_74 rfl rfl (Nat.zero_le _) (Nat.zero_le _) ⟨_, rfl, rfl, hX7_0.symm⟩
    | succ q ih7 =>
      intro j7 g2_7 g3_7 hj hs7 hX7_0
      have hrg7 : inR (nI j7) 1 99 := inR_ix hs7 (show j7 < 100 by omega) (by decide) (by decide) (by decide)
      have hlt7 : j7 < 100 := by omega
      refine R_iload (pc := 7) dX5_gapAt_7 rfl ?_
      refine R_bipush (pc := 9) (v := 99) dX5_gapAt_9 (by decide) ?_
      refine R_icgt (pc := 11) 73 dX5_gapAt_11 (by decide) (fun h => False.elim (by have q1 := ti_lt h; have q2 := ti_in (show inR (nI j7) 1 99 from hrg7); have q3 := ti_in (show inR 99 99 99 from (inR_self _)); have z0 : (1 : Int32).toInt = 1 := (by decide);  have z1 : (99 : Int32).toInt = 99 := (by decide); omega)) (fun _ => ?_)
      refine R_aload_n (pc := 14) dX5_gapAt_14 rfl rfl ?_
      refine R_iload (pc := 15) dX5_gapAt_15 rfl ?_
      refine k_X5_43 (pc := 17) (ge_X5_isMissing _ H _ j7 hI hH rfl (by omega)) rfl (c_56 _) (by decide) (Nat.le_refl _) (Nat.le_refl _) (Nat.le_of_ble_eq_true rfl) dX5_gapAt_17 (fun x w2 h => ?_)
      rcases h with ⟨rfl, ⟨h3, rfl⟩ | ⟨h3, rfl⟩⟩
      · skip
        refine R_ifeq (pc := 20) 67 dX5_gapAt_20 (by decide) (fun h => absurd h (by decide)) (fun _ => ?_)
        refine R_aload_n (pc := 23) dX5_gapAt_23 rfl rfl ?_
        refine R_iload (pc := 24) dX5_gapAt_24 rfl ?_
        refine R_iconst (pc := 26) (v := 1) dX5_gapAt_26 (by decide) ?_
        refine R_isub (pc := 27) dX5_gapAt_27 ?_
        have r5 : inR ((nI j7) - 1) 0 98 := inR_sub (show inR (nI j7) 1 99 from hrg7) (show inR 1 1 1 from (inR_self _)) (by decide) (by decide)
        have e6 := ti_sub (l := 0) (h := 98) (show inR (nI j7) 1 99 from hrg7) (show inR 1 1 1 from (inR_self _)) (by decide) (by decide)
        refine k_X5_43 (pc := 28) (ge_X5_isMissing _ H _ (j7 - 1) hI hH (nI_p (by omega)) (by omega)) rfl (c_56 _) (by decide) (Nat.le_refl _) (Nat.le_refl _) (Nat.le_of_ble_eq_true rfl) dX5_gapAt_28 (fun x w2 h => ?_)
        rcases h with ⟨rfl, ⟨h7, rfl⟩ | ⟨h7, rfl⟩⟩
        · skip
          refine R_ifeq (pc := 31) 38 dX5_gapAt_31 (by decide) (fun h => absurd h (by decide)) (fun _ => ?_)
          refine R_iload_n (pc := 34) dX5_gapAt_34 rfl rfl ?_
          refine R_goto (pc := 35) 40 dX5_gapAt_35 (by decide) ?_
          refine st_5_3_i_i (pc := 40) dX5_gapAt_40 ?_
          refine R_aload_n (pc := 41) dX5_gapAt_41 rfl rfl ?_
          refine R_iload (pc := 42) dX5_gapAt_42 rfl ?_
          refine R_iconst (pc := 44) (v := 1) dX5_gapAt_44 (by decide) ?_
          refine R_iadd (pc := 45) dX5_gapAt_45 ?_
          have r9 : inR ((nI j7) + 1) 2 100 := inR_add (show inR (nI j7) 1 99 from hrg7) (show inR 1 1 1 from (inR_self _)) (by decide) (by decide)
          have e10 := ti_add (l := 2) (h := 100) (show inR (nI j7) 1 99 from hrg7) (show inR 1 1 1 from (inR_self _)) (by decide) (by decide)
          refine k_X5_43 (pc := 46) (ge_X5_isMissing _ H _ (j7 + 1) hI hH (nI_1 j7) (by omega)) rfl (c_56 _) (by decide) (Nat.le_refl _) (Nat.le_refl _) (Nat.le_of_ble_eq_true rfl) dX5_gapAt_46 (fun x w2 h => ?_)
          rcases h with ⟨rfl, ⟨h11, rfl⟩ | ⟨h11, rfl⟩⟩
          · skip
            refine R_ifne (pc := 49) 67 dX5_gapAt_49 (by decide) (fun _ => ?_) (fun h => absurd h (by decide))
            refine inc_5_4_1_i (pc := 67) dX5_gapAt_67 ?_
            have r13 : inR ((nI j7) + 1) 2 100 := inR_add (show inR (nI j7) 1 99 from hrg7) (show inR 1 1 1 from (inR_self _)) (by decide) (by decide)
            have e14 := ti_add (l := 2) (h := 100) (show inR (nI j7) 1 99 from hrg7) (show inR 1 1 1 from (inR_self _)) (by decide) (by decide)
            refine R_goto (pc := 70) 7 dX5_gapAt_70 (by decide) ?_
            rw [nI_1]
            exact ih7 (j7 + 1) _ _ (by omega) (by omega) (gs_1 hX7_0 h3 h7 h11)
          · skip
            refine R_ifne (pc := 49) 67 dX5_gapAt_49 (by decide) (fun h => absurd (by decide) h) (fun _ => ?_)
            refine R_iload_n (pc := 52) dX5_gapAt_52 rfl rfl ?_
            refine R_ifne (pc := 53) 64 dX5_gapAt_53 (by decide) (fun b53_16 => ?_) (fun b53_16 => ?_)
            · skip
              refine inc_5_2_m1_i (pc := 64) dX5_gapAt_64 ?_
              refine inc_5_4_1_i (pc := 67) dX5_gapAt_67 ?_
              have r17 : inR ((nI j7) + 1) 2 100 := inR_add (show inR (nI j7) 1 99 from hrg7) (show inR 1 1 1 from (inR_self _)) (by decide) (by decide)
              have e18 := ti_add (l := 2) (h := 100) (show inR (nI j7) 1 99 from hrg7) (show inR 1 1 1 from (inR_self _)) (by decide) (by decide)
              refine R_goto (pc := 70) 7 dX5_gapAt_70 (by decide) ?_
              rw [nI_1]
              exact ih7 (j7 + 1) _ _ (by omega) (by omega) (gs_3 hX7_0 h3 h7 h11 b53_16)
            · skip
              refine R_bipush (pc := 56) (v := 100) dX5_gapAt_56 (by decide) ?_
              refine R_iload_n (pc := 58) dX5_gapAt_58 rfl rfl ?_
              refine R_imul (pc := 59) dX5_gapAt_59 ?_
              refine R_iload (pc := 60) dX5_gapAt_60 rfl ?_
              refine R_iadd (pc := 62) dX5_gapAt_62 ?_
              exact R_iret (pc := 63) dX5_gapAt_63 rfl rfl (Nat.zero_le _) (Nat.zero_le _) ⟨_, rfl, rfl, (gs_5 hX7_0 h3 h7 h11 b53_16)⟩
        · skip
          refine R_ifeq (pc := 31) 38 dX5_gapAt_31 (by decide) (fun _ => ?_) (fun h => absurd (by decide) h)
          refine R_iload (pc := 38) dX5_gapAt_38 rfl ?_
          refine st_5_3_i_i (pc := 40) dX5_gapAt_40 ?_
          refine R_aload_n (pc := 41) dX5_gapAt_41 rfl rfl ?_
          refine R_iload (pc := 42) dX5_gapAt_42 rfl ?_
          refine R_iconst (pc := 44) (v := 1) dX5_gapAt_44 (by decide) ?_
          refine R_iadd (pc := 45) dX5_gapAt_45 ?_
          have r20 : inR ((nI j7) + 1) 2 100 := inR_add (show inR (nI j7) 1 99 from hrg7) (show inR 1 1 1 from (inR_self _)) (by decide) (by decide)
          have e21 := ti_add (l := 2) (h := 100) (show inR (nI j7) 1 99 from hrg7) (show inR 1 1 1 from (inR_self _)) (by decide) (by decide)
          refine k_X5_43 (pc := 46) (ge_X5_isMissing _ H _ (j7 + 1) hI hH (nI_1 j7) (by omega)) rfl (c_56 _) (by decide) (Nat.le_refl _) (Nat.le_refl _) (Nat.le_of_ble_eq_true rfl) dX5_gapAt_46 (fun x w2 h => ?_)
          rcases h with ⟨rfl, ⟨h22, rfl⟩ | ⟨h22, rfl⟩⟩
          · skip
            refine R_ifne (pc := 49) 67 dX5_gapAt_49 (by decide) (fun _ => ?_) (fun h => absurd h (by decide))
            refine inc_5_4_1_i (pc := 67) dX5_gapAt_67 ?_
            have r24 : inR ((nI j7) + 1) 2 100 := inR_add (show inR (nI j7) 1 99 from hrg7) (show inR 1 1 1 from (inR_self _)) (by decide) (by decide)
            have e25 := ti_add (l := 2) (h := 100) (show inR (nI j7) 1 99 from hrg7) (show inR 1 1 1 from (inR_self _)) (by decide) (by decide)
            refine R_goto (pc := 70) 7 dX5_gapAt_70 (by decide) ?_
            rw [nI_1]
            exact ih7 (j7 + 1) _ _ (by omega) (by omega) (gs_2 hX7_0 h3 h7 h22)
          · skip
            refine R_ifne (pc := 49) 67 dX5_gapAt_49 (by decide) (fun h => absurd (by decide) h) (fun _ => ?_)
            refine R_iload_n (pc := 52) dX5_gapAt_52 rfl rfl ?_
            refine R_ifne (pc := 53) 64 dX5_gapAt_53 (by decide) (fun b53_27 => ?_) (fun b53_27 => ?_)
            · skip
              refine inc_5_2_m1_i (pc := 64) dX5_gapAt_64 ?_
              refine inc_5_4_1_i (pc := 67) dX5_gapAt_67 ?_
              have r28 : inR ((nI j7) + 1) 2 100 := inR_add (show inR (nI j7) 1 99 from hrg7) (show inR 1 1 1 from (inR_self _)) (by decide) (by decide)
              have e29 := ti_add (l := 2) (h := 100) (show inR (nI j7) 1 99 from hrg7) (show inR 1 1 1 from (inR_self _)) (by decide) (by decide)
              refine R_goto (pc := 70) 7 dX5_gapAt_70 (by decide) ?_
              rw [nI_1]
              exact ih7 (j7 + 1) _ _ (by omega) (by omega) (gs_4 hX7_0 h3 h7 h22 b53_27)
            · skip
              refine R_bipush (pc := 56) (v := 100) dX5_gapAt_56 (by decide) ?_
              refine R_iload_n (pc := 58) dX5_gapAt_58 rfl rfl ?_
              refine R_imul (pc := 59) dX5_gapAt_59 ?_
              refine R_iload (pc := 60) dX5_gapAt_60 rfl ?_
              refine R_iadd (pc := 62) dX5_gapAt_62 ?_
              exact R_iret (pc := 63) dX5_gapAt_63 rfl rfl (Nat.zero_le _) (Nat.zero_le _) ⟨_, rfl, rfl, (gs_6 hX7_0 h3 h7 h22 b53_27)⟩
      · skip
        refine R_ifeq (pc := 20) 67 dX5_gapAt_20 (by decide) (fun _ => ?_) (fun h => absurd (by decide) h)
        refine inc_5_4_1_i (pc := 67) dX5_gapAt_67 ?_
        have r31 : inR ((nI j7) + 1) 2 100 := inR_add (show inR (nI j7) 1 99 from hrg7) (show inR 1 1 1 from (inR_self _)) (by decide) (by decide)
        have e32 := ti_add (l := 2) (h := 100) (show inR (nI j7) 1 99 from hrg7) (show inR 1 1 1 from (inR_self _)) (by decide) (by decide)
        refine R_goto (pc := 70) 7 dX5_gapAt_70 (by decide) ?_
        rw [nI_1]
        exact ih7 (j7 + 1) _ _ (by omega) (by omega) (gs_0 hX7_0 h3)
  exact HL7 99 1 _ _ (by omega) (by omega) rfl
def A_ser (p a : Int32) (H : Nat → Bool) : Int32 := bif inB p 0 4 then (bif inB a 0 4 then (bif decide (a = 0) then szR H 99 else bif decide (a = 1) then loR H 99 else bif decide (a = 2) then hiR H 99 else bif decide (a = 3) then mcR (mB H) 99 else gcR (mB H) 99) else -3) else -2
def A_gap (p i : Int32) (H : Nat → Bool) : Int32 := bif inB p 0 4 then (bif decide (i < 0) then -3 else gC (mB H) 99 1 i (-1)) else -2
set_option maxRecDepth 100000 in
set_option maxHeartbeats 40000000 in
theorem gq_X8_series {G : vG} {l : Launch} (σ : Sg) (p a : Int32) (hI : Inv σ) : Sp G l yX8_series cX8_series 3 (some .int) 2 0 0 [.ref 0, .int p, .int a] (WW σ) (QI (fun x w2 => x = A_ser p a (HC σ p) ∧ ∃ σ2, w2 = WW σ2 ∧ Inv σ2 ∧ Cor σ σ2)) := by
  refine Sp_of_R [(some (.ref 0)), (some (.int p)), (some (.int a))] [] rfl (by simp) rfl (Nat.le_of_ble_eq_true rfl) ?_
  refine R_iload_n (pc := 0) dX8_series_0 rfl rfl ?_
  refine R_iconst (pc := 1) (v := 0) dX8_series_1 (by decide) ?_
  refine R_iconst (pc := 2) (v := 4) dX8_series_2 (by decide) ?_
  refine k_X8_72 (pc := 3) (sp_X8_isWithin _ _ _ _) rfl (by decide) (Nat.le_refl _) (Nat.le_refl _) (Nat.le_of_ble_eq_true rfl) dX8_series_3 (fun x w2 h => ?_)
  rcases h with ⟨rfl, ⟨h1, rfl⟩ | ⟨h1, rfl⟩⟩
  · skip
    refine R_ifne (pc := 6) 12 dX8_series_6 (by decide) (fun _ => ?_) (fun h => absurd h (by decide))
    refine R_aload_n (pc := 12) dX8_series_12 rfl rfl ?_
    refine g_X8_28 (pc := 13) (v := .ref 56) rfl dX8_series_13 (c_0 _) rfl ?_
    refine R_iload_n (pc := 16) dX8_series_16 rfl rfl ?_
    refine k_X8_175 (pc := 17) (gn_X5_gather _ _ hI) rfl (c_56 _) (by decide) (Nat.le_refl _) (Nat.le_refl _) (Nat.le_of_ble_eq_true rfl) dX8_series_17 (fun w2 h => ?_)
    obtain ⟨σx4, rfl, hV3, hW5, hN6⟩ := h
    have hW7 := Cor.trans (show Cor σ σ from Cor.rfl' σ) hW5
    refine R_iload_n (pc := 20) dX8_series_20 rfl rfl ?_
    rcases sw4 a with rfl | rfl | rfl | rfl | rfl | hsw
    · skip
      refine R_tin (pc := 21) 56 dX8_series_21 (by decide) (by decide) rfl (by decide) ?_
      refine R_aload_n (pc := 56) dX8_series_56 rfl rfl ?_
      refine g_X8_28 (pc := 57) (v := .ref 56) rfl dX8_series_57 (c_0 _) rfl ?_
      refine g_X8_184 (pc := 60) (v := .int (σx4.1 5602)) rfl dX8_series_60 (c_56 _) rfl ?_
      exact R_iret (pc := 63) dX8_series_63 rfl rfl (Nat.zero_le _) (Nat.zero_le _) ⟨_, rfl, (by unfold A_ser; rw [(inB_t h1)]; exact hN6.2.1), _, rfl, hV3, hW7⟩
    · skip
      refine R_tin (pc := 21) 64 dX8_series_21 (by decide) (by decide) rfl (by decide) ?_
      refine R_aload_n (pc := 64) dX8_series_64 rfl rfl ?_
      refine g_X8_28 (pc := 65) (v := .ref 56) rfl dX8_series_65 (c_0 _) rfl ?_
      refine g_X8_185 (pc := 68) (v := .int (σx4.1 5603)) rfl dX8_series_68 (c_56 _) rfl ?_
      exact R_iret (pc := 71) dX8_series_71 rfl rfl (Nat.zero_le _) (Nat.zero_le _) ⟨_, rfl, (by unfold A_ser; rw [(inB_t h1)]; exact hN6.2.2.1), _, rfl, hV3, hW7⟩
    · skip
      refine R_tin (pc := 21) 72 dX8_series_21 (by decide) (by decide) rfl (by decide) ?_
      refine R_aload_n (pc := 72) dX8_series_72 rfl rfl ?_
      refine g_X8_28 (pc := 73) (v := .ref 56) rfl dX8_series_73 (c_0 _) rfl ?_
      refine g_X8_188 (pc := 76) (v := .int (σx4.1 5604)) rfl dX8_series_76 (c_56 _) rfl ?_
      exact R_iret (pc := 79) dX8_series_79 rfl rfl (Nat.zero_le _) (Nat.zero_le _) ⟨_, rfl, (by unfold A_ser; rw [(inB_t h1)]; exact hN6.2.2.2), _, rfl, hV3, hW7⟩
    · skip
      refine R_tin (pc := 21) 80 dX8_series_21 (by decide) (by decide) rfl (by decide) ?_
      refine R_aload_n (pc := 80) dX8_series_80 rfl rfl ?_
      refine g_X8_28 (pc := 81) (v := .ref 56) rfl dX8_series_81 (c_0 _) rfl ?_
      refine k_X8_191 (pc := 84) (ge_X5_missing _ _ hV3 hN6) rfl (c_56 _) (by decide) (Nat.le_refl _) (Nat.le_refl _) (Nat.le_of_ble_eq_true rfl) dX8_series_84 (fun x w2 h => ?_)
      obtain ⟨rfl, rfl⟩ := h
      exact R_iret (pc := 87) dX8_series_87 rfl rfl (Nat.zero_le _) (Nat.zero_le _) ⟨_, rfl, (by unfold A_ser; rw [(inB_t h1)]; exact (ms_eq _)), _, rfl, hV3, hW7⟩
    · skip
      refine R_tin (pc := 21) 88 dX8_series_21 (by decide) (by decide) rfl (by decide) ?_
      refine R_aload_n (pc := 88) dX8_series_88 rfl rfl ?_
      refine g_X8_28 (pc := 89) (v := .ref 56) rfl dX8_series_89 (c_0 _) rfl ?_
      refine k_X8_194 (pc := 92) (ge_X5_gaps _ _ hV3 hN6) rfl (c_56 _) (by decide) (Nat.le_refl _) (Nat.le_refl _) (Nat.le_of_ble_eq_true rfl) dX8_series_92 (fun x w2 h => ?_)
      obtain ⟨rfl, rfl⟩ := h
      exact R_iret (pc := 95) dX8_series_95 rfl rfl (Nat.zero_le _) (Nat.zero_le _) ⟨_, rfl, (by unfold A_ser; rw [(inB_t h1)]; exact rfl), _, rfl, hV3, hW7⟩
    · skip
      refine R_tout (pc := 21) 96 dX8_series_21 hsw (by decide) ?_
      refine R_bipush (pc := 96) (v := (-3)) dX8_series_96 (by decide) ?_
      exact R_iret (pc := 98) dX8_series_98 rfl rfl (Nat.zero_le _) (Nat.zero_le _) ⟨_, rfl, (by unfold A_ser; rw [(inB_t h1), sw_out (M := 4) hsw]; rfl), _, rfl, hV3, hW7⟩
  · skip
    refine R_ifne (pc := 6) 12 dX8_series_6 (by decide) (fun h => absurd (by decide) h) (fun _ => ?_)
    refine R_bipush (pc := 9) (v := (-2)) dX8_series_9 (by decide) ?_
    exact R_iret (pc := 11) dX8_series_11 rfl rfl (Nat.zero_le _) (Nat.zero_le _) ⟨_, rfl, (by unfold A_ser; rw [(inB_f h1)]; rfl), _, rfl, hI, (show Cor σ σ from Cor.rfl' σ)⟩
set_option maxRecDepth 100000 in
set_option maxHeartbeats 40000000 in
theorem gq_X8_gap {G : vG} {l : Launch} (σ : Sg) (p i : Int32) (hI : Inv σ) : Sp G l yX8_gap cX8_gap 3 (some .int) 2 0 0 [.ref 0, .int p, .int i] (WW σ) (QI (fun x w2 => x = A_gap p i (HC σ p) ∧ ∃ σ2, w2 = WW σ2 ∧ Inv σ2 ∧ Cor σ σ2)) := by
  refine Sp_of_R [(some (.ref 0)), (some (.int p)), (some (.int i))] [] rfl (by simp) rfl (Nat.le_of_ble_eq_true rfl) ?_
  refine R_iload_n (pc := 0) dX8_gap_0 rfl rfl ?_
  refine R_iconst (pc := 1) (v := 0) dX8_gap_1 (by decide) ?_
  refine R_iconst (pc := 2) (v := 4) dX8_gap_2 (by decide) ?_
  refine k_X8_72 (pc := 3) (sp_X8_isWithin _ _ _ _) rfl (by decide) (Nat.le_refl _) (Nat.le_refl _) (Nat.le_of_ble_eq_true rfl) dX8_gap_3 (fun x w2 h => ?_)
  rcases h with ⟨rfl, ⟨h1, rfl⟩ | ⟨h1, rfl⟩⟩
  · skip
    refine R_ifne (pc := 6) 12 dX8_gap_6 (by decide) (fun _ => ?_) (fun h => absurd h (by decide))
    refine R_iload_n (pc := 12) dX8_gap_12 rfl rfl ?_
    refine R_ifge (pc := 13) 19 dX8_gap_13 (by decide) (fun b13_3 => ?_) (fun b13_3 => ?_)
    · skip
      refine R_aload_n (pc := 19) dX8_gap_19 rfl rfl ?_
      refine g_X8_28 (pc := 20) (v := .ref 56) rfl dX8_gap_20 (c_0 _) rfl ?_
      refine R_iload_n (pc := 23) dX8_gap_23 rfl rfl ?_
      refine k_X8_175 (pc := 24) (gn_X5_gather _ _ hI) rfl (c_56 _) (by decide) (Nat.le_refl _) (Nat.le_refl _) (Nat.le_of_ble_eq_true rfl) dX8_gap_24 (fun w2 h => ?_)
      obtain ⟨σx5, rfl, hV4, hW6, hN7⟩ := h
      have hW8 := Cor.trans (show Cor σ σ from Cor.rfl' σ) hW6
      refine R_aload_n (pc := 27) dX8_gap_27 rfl rfl ?_
      refine g_X8_28 (pc := 28) (v := .ref 56) rfl dX8_gap_28 (c_0 _) rfl ?_
      refine R_iload_n (pc := 31) dX8_gap_31 rfl rfl ?_
      refine k_X8_197 (pc := 32) (ge_X5_gapAt _ _ _ hV4 hN7) rfl (c_56 _) (by decide) (Nat.le_refl _) (Nat.le_refl _) (Nat.le_of_ble_eq_true rfl) dX8_gap_32 (fun x w2 h => ?_)
      obtain ⟨rfl, rfl⟩ := h
      exact R_iret (pc := 35) dX8_gap_35 rfl rfl (Nat.zero_le _) (Nat.zero_le _) ⟨_, rfl, (by unfold A_gap; rw [(inB_t h1), decide_eq_false (Int32.not_lt.mpr b13_3)]; rfl), _, rfl, hV4, hW8⟩
    · skip
      refine R_bipush (pc := 16) (v := (-3)) dX8_gap_16 (by decide) ?_
      exact R_iret (pc := 18) dX8_gap_18 rfl rfl (Nat.zero_le _) (Nat.zero_le _) ⟨_, rfl, (by unfold A_gap; rw [(inB_t h1), decide_eq_true (Int32.not_le.mp b13_3)]; rfl), _, rfl, hI, (show Cor σ σ from Cor.rfl' σ)⟩
  · skip
    refine R_ifne (pc := 6) 12 dX8_gap_6 (by decide) (fun h => absurd (by decide) h) (fun _ => ?_)
    refine R_bipush (pc := 9) (v := (-2)) dX8_gap_9 (by decide) ?_
    exact R_iret (pc := 11) dX8_gap_11 rfl rfl (Nat.zero_le _) (Nat.zero_le _) ⟨_, rfl, (by unfold A_gap; rw [(inB_f h1)]; rfl), _, rfl, hI, (show Cor σ σ from Cor.rfl' σ)⟩
