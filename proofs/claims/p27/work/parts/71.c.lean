/-! stood: both sides alike -/
/-! both sides' sets of cells are one -/
theorem wB_t {s : Int64} {k : Nat} (hk : k < 64) : wB s (nI k) = tbL s k := bit_t hk
def neB (k : Int32) (L : Int32 → Int32) : Nat → Bool
  | 0 => true
  | n + 1 => neB k L n && !decide (L (nI n) = k)
theorem op_bit {w : Int64} {L : Int32 → Int32} {k : Nat} (hk : k < 64) : ∀ n : Nat, (∀ i, i < n → inR (L (nI i)) 0 63) → tbL (opR w L n) k = (!tbL w k && neB (nI k) L n) := by
  intro n
  induction n with
  | zero => intro _; unfold opR neB; rw [tbL_not w hk, Bool.and_true]
  | succ n ih =>
    intro h
    unfold opR neB
    rw [tbL_and, tbL_not _ hk, ih (fun i hi => h i (by omega))]
    obtain ⟨m, hm, e⟩ := nI_inR (M := 63) (h n (by omega)) (by decide)
    rw [e, tbL_shl (by omega) hk, Bool.and_assoc]
    congr 2
    congr 1
    by_cases q : k = m
    · subst q; simp
    · rw [decide_eq_false q, decide_eq_false (fun q2 => q ((nI_eq (by omega) (by omega)).mp q2).symm)]
theorem l1_split {w : Int64} {k : Int32} {L : Int32 → Int32} : ∀ n : Nat, (∀ i, i < n → inR (L (nI i)) 0 63) → l1B w k L n = (!wB w k && (neB k L n && saB w k L n)) := by
  intro n
  induction n with
  | zero => intro _; unfold l1B neB saB; simp
  | succ n ih =>
    intro h
    unfold l1B neB saB
    rw [ih (fun i hi => h i (by omega)), seesM_eq]
    have h1 := ti_in (h n (by omega))
    have z : (63 : Int32).toInt = 63 := by decide
    have z2 : (64 : Int32).toInt = 64 := by decide
    rw [decide_eq_true (show L (nI n) < 64 from Int32.lt_iff_toInt_lt.mpr (by omega))]
    cases wB w k <;> cases neB k L n <;> cases saB w k L n <;> cases decide (L (nI n) = k) <;> cases seesB w k (L (nI n)) <;> rfl
theorem l1_now {w : Int64} {k : Int32} {L : Int32 → Int32} : ∀ n : Nat, nowB L n = true → l1B w k L n = false := by
  intro n
  induction n with
  | zero => intro h; cases h
  | succ n ih =>
    intro h
    unfold nowB at h
    unfold l1B
    cases h2 : nowB L n
    · rw [h2, Bool.false_or, decide_eq_true_eq] at h
      rw [h]
      simp
    · rw [ih h2]; rfl
theorem l1_congr {w : Int64} {k : Int32} {L M : Int32 → Int32} : ∀ n : Nat, (∀ i, i < n → M (nI i) = L (nI i)) → l1B w k M n = l1B w k L n := by
  intro n
  induction n with
  | zero => intro _; rfl
  | succ n ih => intro h; unfold l1B; rw [ih (fun i hi => h i (by omega)), h n (by omega)]
theorem o2_congr {k : Int32} {L M : Int32 → Int32} {n : Nat} (hn : n ≤ 5) (h : ∀ i, i < n → M (nI i) = L (nI i)) : ∀ m : Nat, m ≤ n → o2B k M (nI n) m = o2B k L (nI n) m := by
  intro m
  induction m with
  | zero => intro _; rfl
  | succ m ih =>
    intro hm
    unfold o2B
    have h0 : M 0 = L 0 := by rw [← nI_0]; exact h 0 (by omega)
    rw [ih (by omega), h m (by omega), h0]
    by_cases q : m + 1 < n
    · rw [nI_1, h (m + 1) q]
    · rw [decide_eq_false (fun q2 => q (by rw [nI_1] at q2; exact (nI_ltI (by omega) (by omega)).mp q2))]
      simp only [cond_false]
theorem o2_ord {k : Int32} {L : Int32 → Int32} {n : Nat} (hn : n ≤ 5) : ∀ m : Nat, m + 1 ≤ n → o2B k L (nI n) m = ordB k L m := by
  intro m
  induction m with
  | zero => intro _; rfl
  | succ m ih =>
    intro hm
    unfold o2B ordB
    rw [ih (by omega), decide_eq_true (show (nI m) + 1 < nI n by rw [nI_1]; exact (nI_ltI (by omega) (by omega)).mpr (by omega))]
    rfl
theorem ord_eq {k : Int32} {L : Int32 → Int32} {n : Nat} (hn : n ≤ 5) : ordT k L (nI n) = (decide (nI n ≤ 1) || o2B k L (nI n) n) := by
  unfold ordT
  rcases (show n = 0 ∨ n = 1 ∨ 2 ≤ n by omega) with rfl | rfl | h2
  · rfl
  · rfl
  · obtain ⟨m, rfl⟩ : ∃ m, n = m + 1 := ⟨n - 1, by omega⟩
    rw [nI_pred, nI_clamp (by omega)]
    rw [decide_eq_false (show ¬ nI m < 1 from nI_nlt (a := m) (b := 1) (by omega) (by omega)), decide_eq_false (show ¬ nI (m + 1) ≤ 1 from nI_ge (a := 1) (b := m + 1) (by omega) (by omega))]
    show _ = (false || (o2B k L (nI (m + 1)) m && (bif decide ((nI m) + 1 < nI (m + 1)) then lofB k (L (nI m)) (L ((nI m) + 1)) else lofB k (L 0) (L (nI m)))))
    rw [decide_eq_false (show ¬ (nI m) + 1 < nI (m + 1) by rw [nI_1]; exact Int32.lt_irrefl), o2_ord hn m (by omega)]
    rfl
theorem std_eq {σ σ2 : Sg} {c : Int32} (hI : Inv σ) (hT : Tie σ) (hc : inR c 0 19) (hlc : ∀ l : Nat, l < 8 → inR (σ.2.2.1 94 l) 0 64) (e1 : σ2.2.2.1 167 = σ.2.2.1 167) (e2 : σ2.2.2.1 169 = σ.2.2.1 169) (e3 : σ2.2.2.1 168 = σ.2.2.1 168) (e4 : σ2.2.1 14034 = σ.2.1 14034) : stdC σ c = stdM σ2 c := by
  have hw : σ2.2.1 14034 = σ.2.1 9301 := e4.trans (t_wall hT)
  have hv : σ2.2.2.1 168 (Int32.toNatClampNeg c) = σ.2.2.1 116 (Int32.toNatClampNeg c) := by rw [e3, t_views hT]
  obtain ⟨n, hn, en⟩ := nI_inR (M := 5) (iva_116 hI _ (clamp19 hc)) (by decide)
  have hag : ∀ i, i < n → LM σ2 c (nI i) = LC σ c (nI i) := by
    intro i hi
    unfold LM LC
    rw [e1, e2, t_cell hT, idx5 hc (f := nI i) (inR_nI (M := 4) (by omega) (by decide)), nI_clamp (by omega)]
    rw [t_seen hT _ i (clamp19 hc) (by rw [en, nI_clamp (by omega)]; exact hi)]
  unfold stdC stdM
  rw [hw, hv, en, nI_clamp (by omega)]
  cases hb : nowB (LC σ c) n
  · have hr : ∀ i, i < n → inR (LC σ c (nI i)) 0 63 := fun i hi => cell63 hlc (ivr_96 hI _ _ (clamp19 hc) (by rw [nI_clamp (by omega)]; omega)) (now_all _ hb i hi)
    refine st_congr 64 (fun k hk => ?_)
    unfold fC msB
    rw [en, nI_clamp (by omega), bit_t hk, op_bit hk n hr, ord_eq hn, o2_congr hn hag n (Nat.le_refl _), l1_congr n hag, l1_split n hr, wB_t hk]
    cases tbL (σ.2.1 9301) k <;> cases neB (nI k) (LC σ c) n <;> cases saB (σ.2.1 9301) (nI k) (LC σ c) n <;> cases (decide (nI n ≤ 1) || o2B (nI k) (LC σ c) (nI n) n) <;> rfl
  · refine (st_none 64 (fun k hk => ?_)).symm
    unfold msB
    rw [nI_clamp (by omega), l1_congr n hag, l1_now n hb]
    rfl
theorem cellr_m {σ : Sg} (hT : Tie σ) : ∀ l : Nat, l < 8 → inR (σ.2.2.1 167 l) 0 64 := by
  rw [t_cell hT]
  exact t_cellr hT
