/-! methods on any state that keeps the invariant -/
/-! chains, as both sides have them -/
theorem bs_ne {K : Nat → Bool} {k : Nat} (hk : k < 20) (h : K k = true) : ¬ bsI K 20 = 0 := by
  intro e
  have q := tb_bs (K := K) 20 (by omega) k
  rw [e, tb_0, decide_eq_true hk, h] at q
  cases q
theorem low_bs {K : Nat → Bool} {c : Nat} (hc : c < 20) (h : K c = true) : pcI ((bsI K 20 &&& -bsI K 20) - 1) = nI (lo K 20 0) := by
  obtain ⟨k, hk, e, ht, hl⟩ := low_is (bs_in K) (bs_ne hc h)
  rw [e]
  congr 1
  have t : ∀ i, i < 20 → tb (bsI K 20) i = K i := fun i hi => by rw [tb_bs 20 (by omega), decide_eq_true hi]; rfl
  exact (lo_at 20 (Nat.zero_le _) (by omega) ((t k hk).symm.trans ht) (fun j _ hj => (t j (by omega)).symm.trans (hl j hj))).symm
theorem low_kin {R : Nat → Nat → Bool} {A : Nat → Bool} {c : Nat} (hc : c < 20) : pcI ((bsI (kin R A c) 20 &&& -bsI (kin R A c) 20) - 1) = nI (lab R A c) := low_bs hc (kin_t (rch_0 R A c))
theorem lab_congr {R Q : Nat → Nat → Bool} {A B : Nat → Bool} {c : Nat} (hA : ∀ i, A i = B i) (hc : A c = true) (hR : ∀ x y, A x = true → A y = true → ¬ x = y → R x y = Q x y) : lab R A c = lab Q B c := by
  unfold lab
  rw [kin_congr hA hc hR]
abbrev TMn (σ : Sg) : Nat := (tm (σ.1 14000) (σ.1 14013) (σ.2.2.1 148))
def AMp (σ : Sg) : Nat → Bool := fun i => decide (i < TMn σ)
def lkN (σ : Sg) : Nat → Nat → Bool := fun a b => lkD σ a b
def mtN (σ : Sg) : Nat → Nat → Bool := fun a b => mtD σ (nI a) (nI b)
theorem tm_szM (n a : Int32) (f : Nat → Int32) : tm n a f ≤ n.toNatClampNeg := by
  have ht := tm_le n a f
  by_cases h : tm n a f = 0
  · omega
  · have h1 : tm n a f - 1 < tm n a f := by omega
    have h2 := (tmr_all 20 0 (tm n a f - 1) (Nat.zero_le _) h1).1
    have h3 := ti_lt h2
    rw [nI_toInt (by omega)] at h3
    show _ ≤ n.toInt.toNat
    omega
theorem nI_m1' (i : Nat) (hi : i < 100) : ¬ nI i = -1 := nI_nem' (by omega)
theorem AM_of {σ τ : Sg} (h : Cor σ τ) (i : Nat) : (decide (i < TMn τ) && !decide (nI i = -1)) = AMp σ i := by
  unfold AMp TMn
  rw [h.1 14000 rfl, h.1 14013 rfl, h.2.2.1 148 rfl]
  by_cases q : i < tm (σ.1 14000) (σ.1 14013) (σ.2.2.1 148)
  · have := tm_le (σ.1 14000) (σ.1 14013) (σ.2.2.1 148)
    rw [decide_eq_true q, decide_eq_false (nI_m1' i (by omega))]; rfl
  · rw [decide_eq_false q]; rfl
theorem AMu_lt {σ : Sg} {u : Int32} {i : Nat} (h : (decide (i < TMn σ) && !decide (nI i = u)) = true) : i < TMn σ ∧ i < 20 ∧ ¬ nI i = u := by
  rw [Bool.and_eq_true, decide_eq_true_eq, Bool.not_eq_true', decide_eq_false_iff_not] at h
  have := tm_le (σ.1 14000) (σ.1 14013) (σ.2.2.1 148)
  have h1 : i < tm (σ.1 14000) (σ.1 14013) (σ.2.2.1 148) := h.1
  exact ⟨h.1, by omega, h.2⟩
theorem in19 {i : Nat} (h : i < 20) : inR (nI i) 0 19 := inR_nI (M := 19) (by omega) (by decide)
theorem lk9_D {σ τ : Sg} (hI : Inv σ) (h : Cor σ τ) (hu : UT (DVm σ) (τ.2.2.1 151) (Int32.toNatClampNeg (σ.1 14000))) {x y : Nat} (hx : x < TMn τ) (hy : y < TMn τ) (hne : ¬ x = y) : lkM τ (nI x) (nI y) = lkD σ x y := by
  have hx20 : x < 20 := Nat.lt_of_lt_of_le hx (tm_le _ _ _)
  have hy20 : y < 20 := Nat.lt_of_lt_of_le hy (tm_le _ _ _)
  have e : TMn τ ≤ Int32.toNatClampNeg (σ.1 14000) := by
    have := tm_szM (τ.1 14000) (τ.1 14013) (τ.2.2.1 148)
    rw [h.1 14000 rfl] at this
    unfold TMn
    rw [h.1 14000 rfl]; exact this
  have q := lkM_D hI h hu (in19 hx20) (in19 hy20) (by rw [nI_clamp (by omega)]; omega) (by rw [nI_clamp (by omega)]; omega) (fun e => hne ((nI_eq (by omega) (by omega)).mp e))
  rw [nI_clamp (by omega), nI_clamp (by omega)] at q
  exact q
theorem mt9_D {σ τ : Sg} (hI : Inv σ) (h : Cor σ τ) (hu : UT (DVm σ) (τ.2.2.1 151) (Int32.toNatClampNeg (σ.1 14000))) {x y : Nat} (hx : x < TMn τ) (hy : y < TMn τ) (hne : ¬ x = y) : mtM τ (nI x) (nI y) = mtD σ (nI x) (nI y) := by
  have hx20 : x < 20 := Nat.lt_of_lt_of_le hx (tm_le _ _ _)
  have hy20 : y < 20 := Nat.lt_of_lt_of_le hy (tm_le _ _ _)
  have e : TMn τ ≤ Int32.toNatClampNeg (σ.1 14000) := by
    have := tm_szM (τ.1 14000) (τ.1 14013) (τ.2.2.1 148)
    rw [h.1 14000 rfl] at this
    unfold TMn
    rw [h.1 14000 rfl]; exact this
  exact mtM_D hI h hu (in19 hx20) (in19 hy20) (by rw [nI_clamp (by omega)]; omega) (by rw [nI_clamp (by omega)]; omega) (fun e => hne ((nI_eq (by omega) (by omega)).mp e))
theorem lkD_sym {σ : Sg} (hI : Inv σ) {x y : Nat} (hx : x < 20) (hy : y < 20) : lkD σ x y = lkD σ y x := by
  unfold lkD
  rw [dvm_sym hI hx hy]
theorem lvM_sym (σ : Sg) (a b : Int32) : lvM σ a b = lvM σ b a := congrArg nI (lev_sym _ _ _ _ _ (Nat.le_refl _))
theorem dc_comm {a b : Int32} : decide (a = b) = decide (b = a) := by rw [decide_eq_decide]; exact eq_comm
theorem mtB_sym {li pu nu ba : Nat → Int32} {k k2 : Bool} {f f2 : Int32} (a b : Nat) (hk : k = k2) (hf : f = f2) : mtB li pu nu ba k f a b = mtB li pu nu ba k2 f2 b a := by
  unfold mtB
  rw [hk, hf, dc_comm (a := li a), dc_comm (a := pu a), dc_comm (a := ba a), dc_comm (a := nu a) (b := nu b), Bool.or_comm (decide (nu a = 0))]
theorem mtD_sym {σ : Sg} (hI : Inv σ) {x y : Nat} (hx : x < 20) (hy : y < 20) : mtD σ (nI x) (nI y) = mtD σ (nI y) (nI x) := by
  unfold mtD
  refine mtB_sym _ _ ?_ (lvM_sym _ _ _)
  rw [nI_clamp (by omega), nI_clamp (by omega)]
  exact lkD_sym hI hx hy
theorem sym_lk9 {σ τ : Sg} {u : Int32} (hI : Inv σ) (h : Cor σ τ) (hu : UT (DVm σ) (τ.2.2.1 151) (Int32.toNatClampNeg (σ.1 14000))) : Sym (fun a b => lkM τ (nI a) (nI b)) (fun i => decide (i < TMn τ) && !decide (nI i = u)) := by
  intro x y hx hy hr
  have x1 := AMu_lt hx
  have y1 := AMu_lt hy
  by_cases e : x = y
  · rw [e] at hr ⊢; exact hr
  · show lkM τ (nI y) (nI x) = true
    have hr2 : lkM τ (nI x) (nI y) = true := hr
    rw [lk9_D hI h hu x1.1 y1.1 e] at hr2
    rw [lk9_D hI h hu y1.1 x1.1 (fun q => e q.symm), lkD_sym hI y1.2.1 x1.2.1]; exact hr2
theorem sym_mt9 {σ τ : Sg} {u : Int32} (hI : Inv σ) (h : Cor σ τ) (hu : UT (DVm σ) (τ.2.2.1 151) (Int32.toNatClampNeg (σ.1 14000))) : Sym (fun a b => mtM τ (nI a) (nI b)) (fun i => decide (i < TMn τ) && !decide (nI i = u)) := by
  intro x y hx hy hr
  have x1 := AMu_lt hx
  have y1 := AMu_lt hy
  by_cases e : x = y
  · rw [e] at hr ⊢; exact hr
  · show mtM τ (nI y) (nI x) = true
    have hr2 : mtM τ (nI x) (nI y) = true := hr
    rw [mt9_D hI h hu x1.1 y1.1 e] at hr2
    rw [mt9_D hI h hu y1.1 x1.1 (fun q => e q.symm), mtD_sym hI y1.2.1 x1.2.1]; exact hr2
theorem lab_lk9 {σ τ : Sg} (hI : Inv σ) (h : Cor σ τ) (hu : UT (DVm σ) (τ.2.2.1 151) (Int32.toNatClampNeg (σ.1 14000))) {c : Nat} (hc : AMp σ c = true) : lab (fun a b => lkM τ (nI a) (nI b)) (fun i => decide (i < TMn τ) && !decide (nI i = -1)) c = lab (lkN σ) (AMp σ) c := by
  refine lab_congr (AM_of h) ((AM_of h c).trans hc) (fun x y hx hy hne => ?_)
  exact lk9_D hI h hu (AMu_lt hx).1 (AMu_lt hy).1 hne
theorem lab_mt9 {σ τ : Sg} (hI : Inv σ) (h : Cor σ τ) (hu : UT (DVm σ) (τ.2.2.1 151) (Int32.toNatClampNeg (σ.1 14000))) {c : Nat} (hc : AMp σ c = true) : lab (fun a b => mtM τ (nI a) (nI b)) (fun i => decide (i < TMn τ) && !decide (nI i = -1)) c = lab (mtN σ) (AMp σ) c := by
  refine lab_congr (AM_of h) ((AM_of h c).trans hc) (fun x y hx hy hne => ?_)
  exact mt9_D hI h hu (AMu_lt hx).1 (AMu_lt hy).1 hne
theorem AMp_th {σ : Sg} {c : Int32} (h : thM σ c = true) : AMp σ (Int32.toNatClampNeg c) = true := decide_eq_true (thM_l h)
/-! the same on the class's side -/
theorem tb_thI (σ : Sg) (i : Nat) : tb (thI σ) i = (decide (i < 20) && thC σ (nI i)) := by
  unfold thI
  rw [tb_bs 20 (by omega)]
theorem thI_AM {σ σ2 : Sg} (hI : Inv σ) (hT : Tie σ) (h1 : Cor σ σ2) (i : Nat) : tb (thI σ) i = AMp σ2 i := by
  rw [tb_thI]
  unfold AMp TMn
  rw [h1.1 14000 rfl, h1.1 14013 rfl, h1.2.2.1 148 rfl]
  have l := tm_le (σ.1 14000) (σ.1 14013) (σ.2.2.1 148)
  by_cases q : i < 20
  · rw [decide_eq_true q, Bool.true_and, ← th_eq hI hT]
    unfold thM
    by_cases q2 : i < tm (σ.1 14000) (σ.1 14013) (σ.2.2.1 148)
    · rw [decide_eq_true q2]
      have d := tm_dec (t := tm (σ.1 14000) (σ.1 14013) (σ.2.2.1 148)) l
      exact inB_t (of_ti (by rw [nI_toInt (by omega)]; show (0 : Int32).toInt ≤ _; have z : (0 : Int32).toInt = 0 := by decide
                             omega) (by rw [nI_toInt (by omega), d]; omega))
    · rw [decide_eq_false q2]
      have d := tm_dec (t := tm (σ.1 14000) (σ.1 14013) (σ.2.2.1 148)) l
      refine inB_f (fun h => q2 ?_)
      have h2 := (ti_in h).2
      rw [nI_toInt (by omega), d] at h2
      omega
  · rw [decide_eq_false q, decide_eq_false (show ¬ i < tm (σ.1 14000) (σ.1 14013) (σ.2.2.1 148) by omega)]; rfl
theorem thI_t {σ : Sg} {i : Nat} (h : tb (thI σ) i = true) : i < 20 ∧ thC σ (nI i) = true := by
  rw [tb_thI, Bool.and_eq_true, decide_eq_true_eq] at h; exact h
theorem thI_c {σ : Sg} {c : Int32} (hI : Inv σ) (h : thC σ c = true) : tb (thI σ) (Int32.toNatClampNeg c) = true := by
  have hr := thC_r hI h
  rw [tb_thI, decide_eq_true (clamp19 hr), nI_of_in hr, h]; rfl
theorem tt_of {σ : Sg} {x y : Nat} (hx : x < 20 ∧ thC σ (nI x) = true) (hy : y < 20 ∧ thC σ (nI y) = true) (hne : ¬ x = y) : ttC σ (nI x) (nI y) = true := by
  unfold ttC
  rw [hx.2, hy.2, decide_eq_false (fun e => hne ((nI_eq (by omega) (by omega)).mp e))]; rfl
theorem lkC_N {σ σ2 : Sg} (hI : Inv σ) (hT : Tie σ) (hD : ChD σ) (h1 : Cor σ σ2) {x y : Nat} (hx : tb (thI σ) x = true) (hy : tb (thI σ) y = true) (hne : ¬ x = y) : lkC σ (nI x) (nI y) = lkN σ2 x y := by
  have a := thI_t hx
  have b := thI_t hy
  unfold lkC
  rw [chD_at hI hD (tt_of a b hne), nI_clamp (by omega), nI_clamp (by omega)]
  exact (lkD_eq hT h1 x y).symm
theorem mtC_N {σ σ2 : Sg} (hI : Inv σ) (hT : Tie σ) (hL : ChL σ) (hD : ChD σ) (h1 : Cor σ σ2) {x y : Nat} (hx : tb (thI σ) x = true) (hy : tb (thI σ) y = true) (hne : ¬ x = y) : mtC σ (nI x) (nI y) = mtN σ2 x y := mt_eq hI hT hL hD h1 (tt_of (thI_t hx) (thI_t hy) hne)
theorem kin_lk {σ σ2 : Sg} (hI : Inv σ) (hT : Tie σ) (hD : ChD σ) (h1 : Cor σ σ2) {c : Nat} (hc : tb (thI σ) c = true) : kin (fun a b => lkC σ (nI a) (nI b)) (tb (thI σ)) c = kin (lkN σ2) (AMp σ2) c := kin_congr (thI_AM hI hT h1) hc (fun _ _ hx hy hne => lkC_N hI hT hD h1 hx hy hne)
theorem kin_mt {σ σ2 : Sg} (hI : Inv σ) (hT : Tie σ) (hL : ChL σ) (hD : ChD σ) (h1 : Cor σ σ2) {c : Nat} (hc : tb (thI σ) c = true) : kin (fun a b => mtC σ (nI a) (nI b)) (tb (thI σ)) c = kin (mtN σ2) (AMp σ2) c := kin_congr (thI_AM hI hT h1) hc (fun _ _ hx hy hne => mtC_N hI hT hL hD h1 hx hy hne)
theorem lab_mt {σ σ2 : Sg} (hI : Inv σ) (hT : Tie σ) (hL : ChL σ) (hD : ChD σ) (h1 : Cor σ σ2) {c : Nat} (hc : tb (thI σ) c = true) : lab (fun a b => mtC σ (nI a) (nI b)) (tb (thI σ)) c = lab (mtN σ2) (AMp σ2) c := by
  unfold lab
  rw [kin_mt hI hT hL hD h1 hc]
theorem th_at {σ σ2 : Sg} {c : Int32} (hI : Inv σ) (hT : Tie σ) (h1 : Cor σ σ2) : thM σ2 c = thC σ c := (thM_at (h1.1 14000 rfl) (h1.1 14013 rfl) (h1.2.2.1 148 rfl) c).trans (th_eq hI hT c)
