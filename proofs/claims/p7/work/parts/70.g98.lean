/-! methods on any state that keeps the invariant -/
/-! chains, as both sides have them -/
theorem bs_ne {K : Nat → Bool} {k : Nat} (hk : k < 20) (h : K k = true) : ¬ bsI K 20 = 0 := by
  intro e
  have q := tb_bs (K := K) 20 (by omega) k
  rw [e, tb_0, decide_eq_true hk, h] at q
  cases q
theorem low_bs {K : Nat → Bool} {c : Nat} (hc : c < 20) (h : K c = true) : pcI ((bsI K 20 &&& -bsI K 20) - 1) = nI (lo K 20 0) := by
  obtain ⟨k, hk, e, ht, hl⟩ := low_is (bs_in K) (bs_ne hc h)
  rw [e]
  congr 1
  have t : ∀ i, i < 20 → tb (bsI K 20) i = K i := fun i hi => by rw [tb_bs 20 (by omega), decide_eq_true hi]; rfl
  exact (lo_at 20 (Nat.zero_le _) (by omega) ((t k hk).symm.trans ht) (fun j _ hj => (t j (by omega)).symm.trans (hl j hj))).symm
theorem low_kin {R : Nat → Nat → Bool} {A : Nat → Bool} {c : Nat} (hc : c < 20) : pcI ((bsI (kin R A c) 20 &&& -bsI (kin R A c) 20) - 1) = nI (lab R A c) := low_bs hc (kin_t (rch_0 R A c))
theorem lab_congr {R Q : Nat → Nat → Bool} {A B : Nat → Bool} {c : Nat} (hA : ∀ i, A i = B i) (hc : A c = true) (hR : ∀ x y, A x = true → A y = true → ¬ x = y → R x y = Q x y) : lab R A c = lab Q B c := by
  unfold lab
  rw [kin_congr hA hc hR]
abbrev TMn (σ : Sg) : Nat := (tm (σ.1 14000) (σ.1 14013) (σ.2.2.1 148))
def AMp (σ : Sg) : Nat → Bool := fun i => decide (i < TMn σ)
def lkN (σ : Sg) : Nat → Nat → Bool := fun a b => lkD σ a b
theorem tm_szM (n a : Int32) (f : Nat → Int32) : tm n a f ≤ n.toNatClampNeg := by
  have ht := tm_le n a f
  by_cases h : tm n a f = 0
  · omega
  · have h1 : tm n a f - 1 < tm n a f := by omega
    have h2 := (tmr_all 20 0 (tm n a f - 1) (Nat.zero_le _) h1).1
    have h3 := ti_lt h2
    rw [nI_toInt (by omega)] at h3
    show _ ≤ n.toInt.toNat
    omega
theorem nI_m1' (i : Nat) (hi : i < 100) : ¬ nI i = -1 := nI_nem' (by omega)
theorem AM_of {σ τ : Sg} (h : Cor σ τ) (i : Nat) : (decide (i < TMn τ) && !decide (nI i = -1)) = AMp σ i := by
  unfold AMp TMn
  rw [h.1 14000 rfl, h.1 14013 rfl, h.2.2.1 148 rfl]
  by_cases q : i < tm (σ.1 14000) (σ.1 14013) (σ.2.2.1 148)
  · have := tm_le (σ.1 14000) (σ.1 14013) (σ.2.2.1 148)
    rw [decide_eq_true q, decide_eq_false (nI_m1' i (by omega))]; rfl
  · rw [decide_eq_false q]; rfl
theorem AMu_lt {σ : Sg} {u : Int32} {i : Nat} (h : (decide (i < TMn σ) && !decide (nI i = u)) = true) : i < TMn σ ∧ i < 20 ∧ ¬ nI i = u := by
  rw [Bool.and_eq_true, decide_eq_true_eq, Bool.not_eq_true', decide_eq_false_iff_not] at h
  have := tm_le (σ.1 14000) (σ.1 14013) (σ.2.2.1 148)
  have h1 : i < tm (σ.1 14000) (σ.1 14013) (σ.2.2.1 148) := h.1
  exact ⟨h.1, by omega, h.2⟩
theorem in19 {i : Nat} (h : i < 20) : inR (nI i) 0 19 := inR_nI (M := 19) (by omega) (by decide)
theorem lk9_D {σ τ : Sg} (hI : Inv σ) (h : Cor σ τ) (hu : UT (DVm σ) (τ.2.2.1 151) (Int32.toNatClampNeg (σ.1 14000))) {x y : Nat} (hx : x < TMn τ) (hy : y < TMn τ) (hne : ¬ x = y) : lkM τ (nI x) (nI y) = lkD σ x y := by
  have hx20 : x < 20 := Nat.lt_of_lt_of_le hx (tm_le _ _ _)
  have hy20 : y < 20 := Nat.lt_of_lt_of_le hy (tm_le _ _ _)
  have e : TMn τ ≤ Int32.toNatClampNeg (σ.1 14000) := by
    have := tm_szM (τ.1 14000) (τ.1 14013) (τ.2.2.1 148)
    rw [h.1 14000 rfl] at this
    unfold TMn
    rw [h.1 14000 rfl]; exact this
  have q := lkM_D hI h hu (in19 hx20) (in19 hy20) (by rw [nI_clamp (by omega)]; omega) (by rw [nI_clamp (by omega)]; omega) (fun e => hne ((nI_eq (by omega) (by omega)).mp e))
  rw [nI_clamp (by omega), nI_clamp (by omega)] at q
  exact q
theorem lkD_sym {σ : Sg} (hI : Inv σ) {x y : Nat} (hx : x < 20) (hy : y < 20) : lkD σ x y = lkD σ y x := by
  unfold lkD
  rw [dvm_sym hI hx hy]
theorem sym_lk9 {σ τ : Sg} {u : Int32} (hI : Inv σ) (h : Cor σ τ) (hu : UT (DVm σ) (τ.2.2.1 151) (Int32.toNatClampNeg (σ.1 14000))) : Sym (fun a b => lkM τ (nI a) (nI b)) (fun i => decide (i < TMn τ) && !decide (nI i = u)) := by
  intro x y hx hy hr
  have x1 := AMu_lt hx
  have y1 := AMu_lt hy
  by_cases e : x = y
  · rw [e] at hr ⊢; exact hr
  · show lkM τ (nI y) (nI x) = true
    have hr2 : lkM τ (nI x) (nI y) = true := hr
    rw [lk9_D hI h hu x1.1 y1.1 e] at hr2
    rw [lk9_D hI h hu y1.1 x1.1 (fun q => e q.symm), lkD_sym hI y1.2.1 x1.2.1]; exact hr2
theorem lab_lk9 {σ τ : Sg} (hI : Inv σ) (h : Cor σ τ) (hu : UT (DVm σ) (τ.2.2.1 151) (Int32.toNatClampNeg (σ.1 14000))) {c : Nat} (hc : AMp σ c = true) : lab (fun a b => lkM τ (nI a) (nI b)) (fun i => decide (i < TMn τ) && !decide (nI i = -1)) c = lab (lkN σ) (AMp σ) c := by
  refine lab_congr (AM_of h) ((AM_of h c).trans hc) (fun x y hx hy hne => ?_)
  exact lk9_D hI h hu (AMu_lt hx).1 (AMu_lt hy).1 hne
theorem AMp_th {σ : Sg} {c : Int32} (h : thM σ c = true) : AMp σ (Int32.toNatClampNeg c) = true := decide_eq_true (thM_l h)
/-! the same on the class's side -/
theorem tb_thI (σ : Sg) (i : Nat) : tb (thI σ) i = (decide (i < 20) && thC σ (nI i)) := by
  unfold thI
  rw [tb_bs 20 (by omega)]
theorem thI_AM {σ σ2 : Sg} (hI : Inv σ) (hT : Tie σ) (h1 : Cor σ σ2) (i : Nat) : tb (thI σ) i = AMp σ2 i := by
  rw [tb_thI]
  unfold AMp TMn
  rw [h1.1 14000 rfl, h1.1 14013 rfl, h1.2.2.1 148 rfl]
  have l := tm_le (σ.1 14000) (σ.1 14013) (σ.2.2.1 148)
  by_cases q : i < 20
  · rw [decide_eq_true q, Bool.true_and, ← th_eq hI hT]
    unfold thM
    by_cases q2 : i < tm (σ.1 14000) (σ.1 14013) (σ.2.2.1 148)
    · rw [decide_eq_true q2]
      have d := tm_dec (t := tm (σ.1 14000) (σ.1 14013) (σ.2.2.1 148)) l
      exact inB_t (of_ti (by rw [nI_toInt (by omega)]; show (0 : Int32).toInt ≤ _; have z : (0 : Int32).toInt = 0 := by decide
                             omega) (by rw [nI_toInt (by omega), d]; omega))
    · rw [decide_eq_false q2]
      have d := tm_dec (t := tm (σ.1 14000) (σ.1 14013) (σ.2.2.1 148)) l
      refine inB_f (fun h => q2 ?_)
      have h2 := (ti_in h).2
      rw [nI_toInt (by omega), d] at h2
      omega
  · rw [decide_eq_false q, decide_eq_false (show ¬ i < tm (σ.1 14000) (σ.1 14013) (σ.2.2.1 148) by omega)]; rfl
theorem thI_t {σ : Sg} {i : Nat} (h : tb (thI σ) i = true) : i < 20 ∧ thC σ (nI i) = true := by
  rw [tb_thI, Bool.and_eq_true, decide_eq_true_eq] at h; exact h
theorem thI_c {σ : Sg} {c : Int32} (hI : Inv σ) (h : thC σ c = true) : tb (thI σ) (Int32.toNatClampNeg c) = true := by
  have hr := thC_r hI h
  rw [tb_thI, decide_eq_true (clamp19 hr), nI_of_in hr, h]; rfl
theorem tt_of {σ : Sg} {x y : Nat} (hx : x < 20 ∧ thC σ (nI x) = true) (hy : y < 20 ∧ thC σ (nI y) = true) (hne : ¬ x = y) : ttC σ (nI x) (nI y) = true := by
  unfold ttC
  rw [hx.2, hy.2, decide_eq_false (fun e => hne ((nI_eq (by omega) (by omega)).mp e))]; rfl
theorem lkC_N {σ σ2 : Sg} (hI : Inv σ) (hT : Tie σ) (hD : ChD σ) (h1 : Cor σ σ2) {x y : Nat} (hx : tb (thI σ) x = true) (hy : tb (thI σ) y = true) (hne : ¬ x = y) : lkC σ (nI x) (nI y) = lkN σ2 x y := by
  have a := thI_t hx
  have b := thI_t hy
  unfold lkC
  rw [chD_at hI hD (tt_of a b hne), nI_clamp (by omega), nI_clamp (by omega)]
  exact (lkD_eq hT h1 x y).symm
theorem kin_lk {σ σ2 : Sg} (hI : Inv σ) (hT : Tie σ) (hD : ChD σ) (h1 : Cor σ σ2) {c : Nat} (hc : tb (thI σ) c = true) : kin (fun a b => lkC σ (nI a) (nI b)) (tb (thI σ)) c = kin (lkN σ2) (AMp σ2) c := kin_congr (thI_AM hI hT h1) hc (fun _ _ hx hy hne => lkC_N hI hT hD h1 hx hy hne)
theorem lab_lk {σ σ2 : Sg} (hI : Inv σ) (hT : Tie σ) (hD : ChD σ) (h1 : Cor σ σ2) {c : Nat} (hc : tb (thI σ) c = true) : lab (fun a b => lkC σ (nI a) (nI b)) (tb (thI σ)) c = lab (lkN σ2) (AMp σ2) c := by
  unfold lab
  rw [kin_lk hI hT hD h1 hc]
def A_neg (th : Bool) (k : Nat) : Int32 := bif th then nI k else -2
theorem A_neg_0 (k : Nat) : A_neg false k = -2 := rfl
set_option maxRecDepth 100000 in
set_option maxHeartbeats 40000000 in
theorem gq_X8_negative {G : vG} {l : Launch} (σ : Sg) (c : Int32) (hI : Inv σ) : Sp G l yX8_negative cX8_negative 2 (some .int) 4 0 0 [.ref 0, .int c] (WW σ) (QI (fun x w2 => x = A_neg (thC σ c) (lab (fun a b => lkC σ (nI a) (nI b)) (tb (thI σ)) (Int32.toNatClampNeg c)) ∧ ∃ σ2, w2 = WW σ2 ∧ Inv σ2 ∧ Cor σ σ2)) := by
  refine Sp_of_R [(some (.ref 0)), (some (.int c))] [] rfl (by simp) rfl (Nat.le_of_ble_eq_true rfl) ?_
  refine R_aload_n (pc := 0) dX8_negative_0 rfl rfl ?_
  refine g_X8_10 (pc := 1) (v := .ref 1) rfl dX8_negative_1 (c_0 _) rfl ?_
  refine R_iload_n (pc := 4) dX8_negative_4 rfl rfl ?_
  refine k_X8_90 (pc := 5) (ge_X0_isThere _ _ hI) rfl (c_1 _) (by decide) (Nat.le_refl _) (Nat.le_refl _) (Nat.le_of_ble_eq_true rfl) dX8_negative_5 (fun x w2 h => ?_)
  rcases h with ⟨rfl, ⟨h1, rfl⟩ | ⟨h1, rfl⟩⟩
  · skip
    refine R_ifeq (pc := 8) 32 dX8_negative_8 (by decide) (fun h => absurd h (by decide)) (fun _ => ?_)
    refine R_aload_n (pc := 11) dX8_negative_11 rfl rfl ?_
    refine g_X8_21 (pc := 12) (v := .ref 12) rfl dX8_negative_12 (c_0 _) rfl ?_
    refine R_iload_n (pc := 15) dX8_negative_15 rfl rfl ?_
    refine R_aload_n (pc := 16) dX8_negative_16 rfl rfl ?_
    refine g_X8_10 (pc := 17) (v := .ref 1) rfl dX8_negative_17 (c_0 _) rfl ?_
    refine k_X8_126 (pc := 20) (ge_X0_there _ hI) rfl (c_1 _) (by decide) (Nat.le_refl _) (Nat.le_refl _) (Nat.le_of_ble_eq_true rfl) dX8_negative_20 (fun x w2 h => ?_)
    obtain ⟨rfl, rfl⟩ := h
    refine k_X8_130 (pc := 23) (gn_X3_sameNegative _ _ _ hI (thC_r hI h1) (thI_in σ)) rfl (c_12 _) (by decide) (Nat.le_refl _) (Nat.le_refl _) (Nat.le_of_ble_eq_true rfl) dX8_negative_23 (fun x w2 h => ?_)
    obtain ⟨rfl, rfl⟩ := h
    refine k_X8_134 (pc := 26) (gx_X8_lowest _ _) rfl (by decide) (Nat.le_refl _) (Nat.le_refl _) (Nat.le_of_ble_eq_true rfl) dX8_negative_26 (fun x w2 h => ?_)
    obtain ⟨rfl, rfl⟩ := h
    refine R_cv (nI (lab (fun a b => lkC σ (nI a) (nI b)) (tb (thI σ)) (Int32.toNatClampNeg c))) (low_kin (clamp19 (thC_r hI h1))) ?_
    refine R_goto (pc := 29) 34 dX8_negative_29 (by decide) ?_
    exact R_iret (pc := 34) dX8_negative_34 rfl rfl (Nat.zero_le _) (Nat.zero_le _) ⟨_, rfl, (by unfold A_neg; rw [h1]; rfl), _, rfl, hI, (show Cor σ σ from Cor.rfl' σ)⟩
  · skip
    refine R_ifeq (pc := 8) 32 dX8_negative_8 (by decide) (fun _ => ?_) (fun h => absurd (by decide) h)
    refine R_bipush (pc := 32) (v := (-2)) dX8_negative_32 (by decide) ?_
    exact R_iret (pc := 34) dX8_negative_34 rfl rfl (Nat.zero_le _) (Nat.zero_le _) ⟨_, rfl, (by unfold A_neg; rw [h1]; rfl), _, rfl, hI, (show Cor σ σ from Cor.rfl' σ)⟩
set_option maxRecDepth 100000 in
set_option maxHeartbeats 40000000 in
theorem gq_X9_negative {G : vG} {l : Launch} (σ : Sg) (c : Int32) (hI : Inv σ) : Sp G l yX9_negative cX9_negative 2 (some .int) 4 0 0 [.ref 140, .int c] (WW σ) (QI (fun x w2 => x = A_neg (thM σ c) (lab (lkN σ) (AMp σ) (Int32.toNatClampNeg c)) ∧ ∃ σ2, w2 = WW σ2 ∧ Inv σ2 ∧ Cor σ σ2)) := by
  refine Sp_of_R [(some (.ref 140)), (some (.int c))] [] rfl (by simp) rfl (Nat.le_of_ble_eq_true rfl) ?_
  refine R_aload_n (pc := 0) dX9_negative_0 rfl rfl ?_
  refine R_iload_n (pc := 1) dX9_negative_1 rfl rfl ?_
  refine k_X9_135 (pc := 2) (gf_X9_isThere _ _ hI) rfl (c_140 _) (by decide) (Nat.le_refl _) (Nat.le_refl _) (Nat.le_of_ble_eq_true rfl) dX9_negative_2 (fun x w2 h => ?_)
  rcases h with ⟨rfl, ⟨h1, rfl⟩ | ⟨h1, rfl⟩⟩
  · skip
    refine R_ifne (pc := 5) 11 dX9_negative_5 (by decide) (fun _ => ?_) (fun h => absurd h (by decide))
    refine R_aload_n (pc := 11) dX9_negative_11 rfl rfl ?_
    refine k_X9_162 (pc := 12) (gn_X9_findUnlike _ hI) rfl (c_140 _) (by decide) (Nat.le_refl _) (Nat.le_refl _) (Nat.le_of_ble_eq_true rfl) dX9_negative_12 (fun w2 h => ?_)
    obtain ⟨σx4, rfl, hV3, hW5, hq6, hu7⟩ := h
    have hW8 := Cor.trans (show Cor σ σ from Cor.rfl' σ) hW5
    refine R_aload_n (pc := 15) dX9_negative_15 rfl rfl ?_
    refine R_aload_n (pc := 16) dX9_negative_16 rfl rfl ?_
    refine g_X9_54 (pc := 17) (v := .ref 152) rfl dX9_negative_17 (c_140 _) rfl ?_
    refine R_iconst (pc := 20) (v := 0) dX9_negative_20 (by decide) ?_
    refine R_iconst (pc := 21) (v := (-1)) dX9_negative_21 (by decide) ?_
    refine k_X9_165 (pc := 22) (gn_X9_findChains_152 _ _ hV3 (sym_lk9 hI hW8 hu7 (u := (-1)))) rfl (c_140 _) (by decide) (Nat.le_refl _) (Nat.le_refl _) (Nat.le_of_ble_eq_true rfl) dX9_negative_22 (fun w2 h => ?_)
    obtain ⟨σx10, rfl, hV9, hW11, hq12, hl13⟩ := h
    have hW14 := Cor.trans hW8 hW11
    have hu15 : UT (DVm σ) (σx10.2.2.1 151) _ := (by rw [hq12.2.2.1 151 rfl]; exact hu7)
    refine R_aload_n (pc := 25) dX9_negative_25 rfl rfl ?_
    refine g_X9_54 (pc := 26) (v := .ref 152) rfl dX9_negative_26 (c_140 _) rfl ?_
    refine R_iload_n (pc := 29) dX9_negative_29 rfl rfl ?_
    have hx16 : vp_in c 20 := (vp_of_inR (thM_r h1) (by decide))
    refine R_iaload (pc := 30) dX9_negative_30 (c_152 _) hx16 ?_
    exact R_iret (pc := 31) dX9_negative_31 rfl rfl (Nat.zero_le _) (Nat.zero_le _) ⟨_, rfl, (by have a := AMp_th h1; have q := hl13 (Int32.toNatClampNeg c) (AMu_lt ((AM_of hW8 _).trans a)).1 (AMu_lt ((AM_of hW8 _).trans a)).2.2; rw [lab_lk9 hI hW8 hu7 a] at q; unfold A_neg; rw [h1]; exact q), _, rfl, hV9, hW14⟩
  · skip
    refine R_ifne (pc := 5) 11 dX9_negative_5 (by decide) (fun h => absurd (by decide) h) (fun _ => ?_)
    refine R_bipush (pc := 8) (v := (-2)) dX9_negative_8 (by decide) ?_
    exact R_iret (pc := 10) dX9_negative_10 rfl rfl (Nat.zero_le _) (Nat.zero_le _) ⟨_, rfl, (by unfold A_neg; rw [h1]; rfl), _, rfl, hI, (show Cor σ σ from Cor.rfl' σ)⟩
theorem th_at {σ σ2 : Sg} {c : Int32} (hI : Inv σ) (hT : Tie σ) (h1 : Cor σ σ2) : thM σ2 c = thC σ c := (thM_at (h1.1 14000 rfl) (h1.1 14013 rfl) (h1.2.2.1 148 rfl) c).trans (th_eq hI hT c)
theorem ans_negative {σ σ2 : Sg} {c : Int32} (hI : Inv σ) (hT : Tie σ) (hD : ChD σ) (h1 : Cor σ σ2) : A_neg (thC σ c) (lab (fun a b => lkC σ (nI a) (nI b)) (tb (thI σ)) (Int32.toNatClampNeg c)) = A_neg (thM σ2 c) (lab (lkN σ2) (AMp σ2) (Int32.toNatClampNeg c)) := by
  rw [th_at hI hT h1]
  cases h : thC σ c
  · rw [A_neg_0, A_neg_0]
  · rw [lab_lk hI hT hD h1 (thI_c hI h)]
