/-! methods on any state that keeps the invariant -/
/-! numbers: both sides by one table of what is borne -/
/-- some of the first cards there has publisher p and number n: the reference's words -/
def hasB (P N : Nat → Int32) (p n : Int32) : Nat → Bool
  | 0 => false
  | i + 1 => hasB P N p n i || (decide (P i = p) && decide (N i = n))
/-- the same by any test of being there: the class's words -/
def borB (T : Int32 → Bool) (P N : Nat → Int32) (p n : Int32) : Nat → Bool
  | 0 => false
  | i + 1 => borB T P N p n i || (T (nI i) && (decide (P i = p) && decide (N i = n)))
theorem has_t1 {P N : Nat → Int32} {p n : Int32} {i : Nat} (h : hasB P N p n i = true) : hasB P N p n (i + 1) = true := by unfold hasB; rw [h]; rfl
theorem has_t2 {P N : Nat → Int32} {p n : Int32} {i : Nat} (h1 : P i = p) (h2 : N i = n) : hasB P N p n (i + 1) = true := by unfold hasB; rw [decide_eq_true h1, decide_eq_true h2]; simp
theorem has_f1 {P N : Nat → Int32} {p n : Int32} {i : Nat} (h : hasB P N p n i = false) (h1 : ¬ P i = p) : hasB P N p n (i + 1) = false := by unfold hasB; rw [h, decide_eq_false h1]; rfl
theorem has_f2 {P N : Nat → Int32} {p n : Int32} {i : Nat} (h : hasB P N p n i = false) (h2 : ¬ N i = n) : hasB P N p n (i + 1) = false := by unfold hasB; rw [h, decide_eq_false h2]; simp
theorem bor_has {T : Int32 → Bool} {P N : Nat → Int32} {p n : Int32} {t : Nat} (ht : t ≤ 20) (hT : ∀ i, i < 20 → T (nI i) = decide (i < t)) : ∀ z : Nat, t ≤ z → z ≤ 20 → borB T P N p n z = hasB P N p n t := by
  have h1 : ∀ z : Nat, z ≤ t → borB T P N p n z = hasB P N p n z := by
    intro z
    induction z with
    | zero => intro _; rfl
    | succ z ih => intro hz; unfold borB hasB; rw [ih (by omega), hT z (by omega), decide_eq_true (show z < t by omega)]; rfl
  intro z
  induction z with
  | zero => intro h _; obtain rfl : t = 0 := by omega
            exact h1 0 (Nat.le_refl _)
  | succ z ih =>
    intro h h20
    by_cases e : t = z + 1
    · rw [← e]; exact h1 t (Nat.le_refl _)
    · unfold borB; rw [ih (by omega) (by omega), hT z (by omega), decide_eq_false (show ¬ z < t by omega)]; simp
/-! how many, the least, the greatest -/
def szR (H : Nat → Bool) : Nat → Int32
  | 0 => 0
  | j + 1 => bif H (j + 1) then szR H j + 1 else szR H j
def loR (H : Nat → Bool) : Nat → Int32
  | 0 => -1
  | j + 1 => bif H (j + 1) then (bif decide (loR H j = -1) then nI (j + 1) else loR H j) else loR H j
def hiR (H : Nat → Bool) : Nat → Int32
  | 0 => -1
  | j + 1 => bif H (j + 1) then nI (j + 1) else hiR H j
def szN (H : Nat → Bool) : Nat → Nat
  | 0 => 0
  | j + 1 => bif H (j + 1) then szN H j + 1 else szN H j
def loN (H : Nat → Bool) : Nat → Nat
  | 0 => 0
  | j + 1 => bif H (j + 1) then (bif decide (loN H j = 0) then j + 1 else loN H j) else loN H j
def hiN (H : Nat → Bool) : Nat → Nat
  | 0 => 0
  | j + 1 => bif H (j + 1) then j + 1 else hiN H j
theorem num_all (H : Nat → Bool) : ∀ j : Nat, szN H j ≤ j ∧ loN H j ≤ hiN H j ∧ hiN H j ≤ j ∧ (loN H j = 0 ↔ hiN H j = 0) ∧ (loN H j = 0 ↔ szN H j = 0) ∧ (loN H j ≠ 0 → H (loN H j) = true) ∧ (hiN H j ≠ 0 → H (hiN H j) = true) ∧ (∀ k, 1 ≤ k → k ≤ j → H k = true → loN H j ≠ 0 ∧ loN H j ≤ k ∧ k ≤ hiN H j) := by
  intro j
  induction j with
  | zero => exact ⟨Nat.le_refl _, Nat.le_refl _, Nat.le_refl _, Iff.rfl, Iff.rfl, fun h => absurd rfl h, fun h => absurd rfl h, fun k h1 h2 => by omega⟩
  | succ j ih =>
    obtain ⟨a1, a2, a3, a4, a5, a6, a7, a8⟩ := ih
    cases hH : H (j + 1)
    · have e1 : szN H (j + 1) = szN H j := by show (bif H (j + 1) then _ else _) = _; rw [hH]; rfl
      have e2 : loN H (j + 1) = loN H j := by show (bif H (j + 1) then _ else _) = _; rw [hH]; rfl
      have e3 : hiN H (j + 1) = hiN H j := by show (bif H (j + 1) then _ else _) = _; rw [hH]; rfl
      rw [e1, e2, e3]
      refine ⟨by omega, a2, by omega, a4, a5, a6, a7, fun k h1 h2 hk => a8 k h1 ?_ hk⟩
      by_cases e : k = j + 1
      · subst e; rw [hH] at hk; cases hk
      · omega
    · have e1 : szN H (j + 1) = szN H j + 1 := by show (bif H (j + 1) then _ else _) = _; rw [hH]; rfl
      have e3 : hiN H (j + 1) = j + 1 := by show (bif H (j + 1) then _ else _) = _; rw [hH]; rfl
      by_cases hz : loN H j = 0
      · have e2 : loN H (j + 1) = j + 1 := by show (bif H (j + 1) then (bif decide (loN H j = 0) then _ else _) else _) = _; rw [hH, decide_eq_true hz]; rfl
        rw [e1, e2, e3]
        refine ⟨by omega, by omega, by omega, by omega, by omega, fun _ => hH, fun _ => hH, fun k h1 h2 hk => ?_⟩
        by_cases e : k = j + 1
        · omega
        · exact absurd hz (a8 k h1 (by omega) hk).1
      · have e2 : loN H (j + 1) = loN H j := by show (bif H (j + 1) then (bif decide (loN H j = 0) then _ else _) else _) = _; rw [hH, decide_eq_false hz]; rfl
        rw [e1, e2, e3]
        refine ⟨by omega, by omega, by omega, by omega, by omega, a6, fun _ => hH, fun k h1 h2 hk => ?_⟩
        by_cases e : k = j + 1
        · omega
        · have := a8 k h1 (by omega) hk; omega
theorem hi_nI (H : Nat → Bool) : ∀ j : Nat, hiR H j = bif decide (hiN H j = 0) then -1 else nI (hiN H j) := by
  intro j
  induction j with
  | zero => rfl
  | succ j ih =>
    unfold hiR hiN
    cases H (j + 1)
    · exact ih
    · simp only [cond_true]
      rw [decide_eq_false (show ¬ j + 1 = 0 by omega)]
      rfl
theorem nI_nem {j : Nat} (h : j < 2 ^ 31) : ¬ nI j = -1 := fun e => by
  have h1 := ti_eq e
  rw [nI_toInt h] at h1
  have z : (-1 : Int32).toInt = -1 := by decide
  omega
theorem lo_nI (H : Nat → Bool) : ∀ j : Nat, j < 2 ^ 31 → loR H j = bif decide (loN H j = 0) then -1 else nI (loN H j) := by
  intro j
  induction j with
  | zero => intro _; rfl
  | succ j ih =>
    intro hj
    unfold loR loN
    cases H (j + 1)
    · exact ih (by omega)
    · simp only [cond_true]
      rw [ih (by omega)]
      by_cases hz : loN H j = 0
      · rw [decide_eq_true hz]
        show (bif decide ((-1 : Int32) = -1) then nI (j + 1) else -1) = bif decide (j + 1 = 0) then -1 else nI (j + 1)
        rw [decide_eq_true (show (-1 : Int32) = -1 from rfl), decide_eq_false (show ¬ j + 1 = 0 by omega)]
        rfl
      · have hb := (num_all H j)
        rw [decide_eq_false hz]
        simp only [cond_false]
        rw [decide_eq_false (nI_nem (show loN H j < 2 ^ 31 by omega)), decide_eq_false hz]
        rfl
/-! missing: between the least and the greatest, and not borne -/
def mB (H : Nat → Bool) (k : Nat) : Bool := decide (loR H 99 < nI k) && (decide (nI k < hiR H 99) && !H k)
theorem m_iff {H : Nat → Bool} {k : Nat} (hk : k ≤ 100) : mB H k = true ↔ loN H 99 ≠ 0 ∧ loN H 99 < k ∧ k < hiN H 99 ∧ H k = false := by
  have hb := num_all H 99
  have e1 := lo_nI H 99 (by omega)
  have e2 := hi_nI H 99
  have z : (-1 : Int32).toInt = -1 := by decide
  unfold mB
  simp only [Bool.and_eq_true, decide_eq_true_eq, Bool.not_eq_true']
  by_cases hz : loN H 99 = 0
  · rw [decide_eq_true (hb.2.2.2.1.mp hz)] at e2
    rw [e2]
    constructor
    · rintro ⟨_, h, _⟩
      have := ti_lt h
      rw [nI_toInt (by omega)] at this
      simp only [cond_true] at this
      omega
    · rintro ⟨h, _⟩; exact absurd hz h
  · have hz2 : ¬ hiN H 99 = 0 := fun e => hz (hb.2.2.2.1.mpr e)
    rw [decide_eq_false hz] at e1
    rw [decide_eq_false hz2] at e2
    rw [e1, e2]
    simp only [cond_false]
    rw [nI_ltI (by omega) (by omega), nI_ltI (by omega) (by omega)]
    exact ⟨fun h => ⟨hz, h.1, h.2.1, h.2.2⟩, fun h => ⟨h.2.1, h.2.2.1, h.2.2.2⟩⟩
/-! the gaps one after the other: the class sees an end there, the reference one further -/
/-! what the class gathers -/
def HC (σ : Sg) (p : Int32) : Nat → Bool := fun k => borB (thC σ) (σ.2.2.1 3) (σ.2.2.1 4) p (nI k) (Int32.toNatClampNeg (σ.1 110))
def NumH (H : Nat → Bool) (σ : Sg) : Prop := (∀ k : Nat, 1 ≤ k → k ≤ 99 → σ.2.2.1 57 k = bif H k then 1 else 0) ∧ σ.1 5602 = szR H 99 ∧ σ.1 5603 = loR H 99 ∧ σ.1 5604 = hiR H 99
theorem thC_cor {ρ σ : Sg} (h : Cor ρ σ) (c : Int32) : thC σ c = thC ρ c := by unfold thC; rw [h.1 110 rfl, h.1 112 rfl, h.2.2.1 9 rfl]
theorem zr_s {f : Nat → Int32} {j : Nat} (hj : j < 100) (h : ∀ k : Nat, 1 ≤ k → k < j → f k = 0) : ∀ k : Nat, 1 ≤ k → k < j + 1 → upd f (Int32.toNatClampNeg (nI j)) 0 k = 0 := by
  intro k h1 h2
  rw [nI_clamp (by omega)]
  by_cases e : k = j
  · subst e; exact upd_at _ _ _
  · rw [upd_ne _ e]; exact h k h1 (by omega)
theorem bo_f {T : Int32 → Bool} {P N : Nat → Int32} {p n : Int32} {j : Nat} {v : Int32} (h : v = bif borB T P N p n j then 1 else 0) (hf : (T (nI j) && (decide (P j = p) && decide (N j = n))) = false) : v = bif borB T P N p n (j + 1) then 1 else 0 := by
  show v = bif borB T P N p n j || (T (nI j) && (decide (P j = p) && decide (N j = n))) then 1 else 0
  rw [hf, Bool.or_false]; exact h
theorem bo_n {T : Int32 → Bool} {P N f : Nat → Int32} {p : Int32} {j : Nat} (h : ∀ k : Nat, 1 ≤ k → k ≤ 99 → f k = bif borB T P N p (nI k) j then 1 else 0) (ht : T (nI j) = false) : ∀ k : Nat, 1 ≤ k → k ≤ 99 → f k = bif borB T P N p (nI k) (j + 1) then 1 else 0 := fun k h1 h2 => bo_f (h k h1 h2) (by rw [ht]; rfl)
theorem bo_p {T : Int32 → Bool} {P N f : Nat → Int32} {p : Int32} {j : Nat} (hj : j < 20) (h : ∀ k : Nat, 1 ≤ k → k ≤ 99 → f k = bif borB T P N p (nI k) j then 1 else 0) (hp : ¬ P (Int32.toNatClampNeg (nI j)) = p) : ∀ k : Nat, 1 ≤ k → k ≤ 99 → f k = bif borB T P N p (nI k) (j + 1) then 1 else 0 := by
  rw [nI_clamp (by omega)] at hp
  exact fun k h1 h2 => bo_f (h k h1 h2) (by rw [decide_eq_false hp]; simp)
theorem bo_t {T : Int32 → Bool} {P N f : Nat → Int32} {p v : Int32} {j : Nat} (hj : j < 20) (h : ∀ k : Nat, 1 ≤ k → k ≤ 99 → f k = bif borB T P N p (nI k) j then 1 else 0) (ht : T (nI j) = true) (hp : P (Int32.toNatClampNeg (nI j)) = p) (hv : v = N (Int32.toNatClampNeg (nI j))) (hr : inR v 0 99) : ∀ k : Nat, 1 ≤ k → k ≤ 99 → upd f (Int32.toNatClampNeg v) 1 k = bif borB T P N p (nI k) (j + 1) then 1 else 0 := by
  rw [nI_clamp (by omega)] at hp hv
  intro k h1 h2
  obtain ⟨n, hn, rfl⟩ := nI_inR (M := 99) hr (by decide)
  rw [nI_clamp (by omega)]
  by_cases e : k = n
  · subst e
    rw [upd_at]
    show (1 : Int32) = bif borB T P N p (nI k) j || (T (nI j) && (decide (P j = p) && decide (N j = nI k))) then 1 else 0
    rw [ht, decide_eq_true hp, decide_eq_true hv.symm]
    simp
  · rw [upd_ne _ e]
    refine bo_f (h k h1 h2) ?_
    rw [decide_eq_false (show ¬ N j = nI k from fun q => e ((nI_eq (by omega) (by omega)).mp (hv.trans q)).symm)]
    simp
theorem nu_t {H : Nat → Bool} {f : Nat → Int32} (h : ∀ k : Nat, 1 ≤ k → k ≤ 99 → f k = bif H k then 1 else 0) {j : Nat} (h1 : 1 ≤ j) (h2 : j ≤ 99) (hb : ¬ f (Int32.toNatClampNeg (nI j)) = 0) : H j = true := by
  rw [nI_clamp (by omega), h j h1 h2] at hb
  cases e : H j
  · rw [e] at hb; exact absurd rfl hb
  · rfl
theorem nu_f {H : Nat → Bool} {f : Nat → Int32} (h : ∀ k : Nat, 1 ≤ k → k ≤ 99 → f k = bif H k then 1 else 0) {j : Nat} (h1 : 1 ≤ j) (h2 : j ≤ 99) (hb : f (Int32.toNatClampNeg (nI j)) = 0) : H j = false := by
  rw [nI_clamp (by omega), h j h1 h2] at hb
  cases e : H j
  · rfl
  · rw [e] at hb; exact absurd hb (by decide)
theorem sz_p {H : Nat → Bool} {j : Nat} (hj : 1 ≤ j) : szR H j = bif H j then szR H (j - 1) + 1 else szR H (j - 1) := by
  obtain ⟨k, rfl⟩ : ∃ k, j = k + 1 := ⟨j - 1, by omega⟩
  rfl
theorem lo_p {H : Nat → Bool} {j : Nat} (hj : 1 ≤ j) : loR H j = bif H j then (bif decide (loR H (j - 1) = -1) then nI j else loR H (j - 1)) else loR H (j - 1) := by
  obtain ⟨k, rfl⟩ : ∃ k, j = k + 1 := ⟨j - 1, by omega⟩
  rfl
theorem hi_p {H : Nat → Bool} {j : Nat} (hj : 1 ≤ j) : hiR H j = bif H j then nI j else hiR H (j - 1) := by
  obtain ⟨k, rfl⟩ : ∃ k, j = k + 1 := ⟨j - 1, by omega⟩
  rfl
theorem sz_t {H : Nat → Bool} {j : Nat} {x : Int32} (hj : 1 ≤ j) (hH : H j = true) (e : x = szR H (j - 1)) : x + 1 = szR H (j + 1 - 1) := by
  show x + 1 = szR H j
  rw [sz_p hj, hH, e]; rfl
theorem sz_f {H : Nat → Bool} {j : Nat} {x : Int32} (hj : 1 ≤ j) (hH : H j = false) (e : x = szR H (j - 1)) : x = szR H (j + 1 - 1) := by
  show x = szR H j
  rw [sz_p hj, hH, e]; rfl
theorem lo_t1 {H : Nat → Bool} {j : Nat} {x : Int32} (hj : 1 ≤ j) (hH : H j = true) (e : x = loR H (j - 1)) (hx : x = -1) : nI j = loR H (j + 1 - 1) := by
  show nI j = loR H j
  rw [lo_p hj, hH, ← e, decide_eq_true hx]; rfl
theorem lo_t2 {H : Nat → Bool} {j : Nat} {x : Int32} (hj : 1 ≤ j) (hH : H j = true) (e : x = loR H (j - 1)) (hx : ¬ x = -1) : x = loR H (j + 1 - 1) := by
  show x = loR H j
  rw [lo_p hj, hH, ← e, decide_eq_false hx]; rfl
theorem lo_f {H : Nat → Bool} {j : Nat} {x : Int32} (hj : 1 ≤ j) (hH : H j = false) (e : x = loR H (j - 1)) : x = loR H (j + 1 - 1) := by
  show x = loR H j
  rw [lo_p hj, hH, e]; rfl
theorem hi_t {H : Nat → Bool} {j : Nat} (hj : 1 ≤ j) (hH : H j = true) : nI j = hiR H (j + 1 - 1) := by
  show nI j = hiR H j
  rw [hi_p hj, hH]; rfl
theorem hi_f {H : Nat → Bool} {j : Nat} {x : Int32} (hj : 1 ≤ j) (hH : H j = false) (e : x = hiR H (j - 1)) : x = hiR H (j + 1 - 1) := by
  show x = hiR H j
  rw [hi_p hj, hH, e]; rfl
set_option maxRecDepth 100000 in
set_option maxHeartbeats 40000000 in
theorem gn_X5_gather {G : vG} {l : Launch} (σ : Sg) (p : Int32) (hI : Inv σ) : Sp G l yX5_gather cX5_gather 3 none 1 0 0 [.ref 56, .int p] (WW σ) (QV (fun w2 => ∃ σ2, w2 = WW σ2 ∧ Inv σ2 ∧ Cor σ σ2 ∧ NumH (HC σ p) σ2)) := by
  refine Sp_of_R [(some (.ref 56)), (some (.int p)), none] [none] rfl (by simp) rfl (Nat.le_of_ble_eq_true rfl) ?_
  refine R_iconst (pc := 0) (v := 1) dX5_gather_0 (by decide) ?_
  refine st_3_2_i_i (pc := 1) dX5_gather_1 ?_
  have HL2 : ∀ (q j2 : Nat) (σ2 : Sg), j2 + q = 100 → 1 ≤ j2 → Inv σ2 → Cor σ σ2 → (∀ k : Nat, 1 ≤ k → k < j2 → σ2.2.2.1 57 k = 0) → R G l yX5_gather cX5_gather 3 none 1 0 0 (QV (fun w2 => ∃ σ2, w2 = WW σ2 ∧ Inv σ2 ∧ Cor σ σ2 ∧ NumH (HC σ p) σ2)) 2 [(some (.ref 56)), (some (.int p)), (some (.int (nI j2)))] [] (WW σ2) 0 0 := by
    intro q
    induction q with
    | zero =>
      intro j2 σ2 hj hs2 hI2 hC2 hX2_0
      obtain rfl : j2 = 100 := by omega
      refine R_iload_n (pc := 2) dX5_gather_2 rfl rfl ?_
      refine R_bipush (pc := 3) (v := 99) dX5_gather_3 (by decide) ?_
      refine R_icgt (pc := 5) 21 dX5_gather_5 (by decide) (fun _ => ?_) (fun h => absurd (by decide) h)
      refine R_iconst (pc := 21) (v := 0) dX5_gather_21 (by decide) ?_
      refine st_3_2_i_i (pc := 22) dX5_gather_22 ?_
      have HL23 : ∀ (q j23 : Nat) (σ23 : Sg), j23 + q = 20 → 0 ≤ j23 → Inv σ23 → Cor σ σ23 → (∀ k : Nat, 1 ≤ k → k ≤ 99 → σ23.2.2.1 57 k = bif borB (thC σ) (σ.2.2.1 3) (σ.2.2.1 4) p (nI k) j23 then 1 else 0) → nI j23 ≤ (σ.1 110) → R G l yX5_gather cX5_gather 3 none 1 0 0 (QV (fun w2 => ∃ σ2, w2 = WW σ2 ∧ Inv σ2 ∧ Cor σ σ2 ∧ NumH (HC σ p) σ2)) 23 [(some (.ref 56)), (some (.int p)), (some (.int (nI j23)))] [] (WW σ23) 0 0 := by
        intro q
        induction q with
        | zero =>
          intro j23 σ23 hj hs23 hI23 hC23 hX23_0 hX23_1
          obtain rfl : j23 = 20 := by omega
          refine R_iload_n (pc := 23) dX5_gather_23 rfl rfl ?_
          refine R_aload_n (pc := 24) dX5_gather_24 rfl rfl ?_
          refine g_X5_15 (pc := 25) (v := .ref 1) rfl dX5_gather_25 (c_56 _) rfl ?_
          refine g_X5_19 (pc := 28) (v := .int (σ.1 110)) rfl dX5_gather_28 (c_1 _) (by show some (Value.int (σ23.1 110)) = _; rw [hC23.1 110 rfl]) ?_
          refine R_icge (pc := 31) 79 dX5_gather_31 (by decide) (fun _ => ?_) (fun h => absurd (Int32.not_lt.mp (inR_up (iv_110 hI) (Int32.le_refl _) (by decide)).2) h)
          refine R_aload_n (pc := 79) dX5_gather_79 rfl rfl ?_
          refine R_iconst (pc := 80) (v := 0) dX5_gather_80 (by decide) ?_
          refine p_X5_36 (pc := 81) rfl dX5_gather_81 (c_56 _) (Nat.le_of_ble_eq_true rfl) rfl rfl (s_56_2 _ _) ?_
          have hW3 := cor_si 5602 0 hC23 rfl
          refine R_aload_n (pc := 84) dX5_gather_84 rfl rfl ?_
          refine R_iconst (pc := 85) (v := (-1)) dX5_gather_85 (by decide) ?_
          refine p_X5_37 (pc := 86) rfl dX5_gather_86 (c_56 _) (Nat.le_of_ble_eq_true rfl) rfl rfl (s_56_3 _ _) ?_
          have hV4 := su_5603 hI23 (show inR (-1) (-1) 99 from ⟨by decide, by decide⟩)
          have hW5 := cor_si 5603 (-1) hW3 rfl
          refine R_aload_n (pc := 89) dX5_gather_89 rfl rfl ?_
          refine R_iconst (pc := 90) (v := (-1)) dX5_gather_90 (by decide) ?_
          refine p_X5_40 (pc := 91) rfl dX5_gather_91 (c_56 _) (Nat.le_of_ble_eq_true rfl) rfl rfl (s_56_4 _ _) ?_
          have hV6 := su_5604 hV4 (show inR (-1) (-1) 99 from ⟨by decide, by decide⟩)
          have hW7 := cor_si 5604 (-1) hW5 rfl
          refine R_iconst (pc := 94) (v := 1) dX5_gather_94 (by decide) ?_
          refine st_3_2_i_i (pc := 95) dX5_gather_95 ?_
          have HL96 : ∀ (q j96 : Nat) (σ96 : Sg), j96 + q = 100 → 1 ≤ j96 → Inv σ96 → Cor σ σ96 → (∀ k : Nat, 1 ≤ k → k ≤ 99 → σ96.2.2.1 57 k = bif (HC σ p) k then 1 else 0) → σ96.1 5602 = szR (HC σ p) (j96 - 1) → σ96.1 5603 = loR (HC σ p) (j96 - 1) → σ96.1 5604 = hiR (HC σ p) (j96 - 1) → R G l yX5_gather cX5_gather 3 none 1 0 0 (QV (fun w2 => ∃ σ2, w2 = WW σ2 ∧ Inv σ2 ∧ Cor σ σ2 ∧ NumH (HC σ p) σ2)) 96 [(some (.ref 56)), (some (.int p)), (some (.int (nI j96)))] [] (WW σ96) 0 0 := by
            intro q
            induction q with
            | zero =>
              intro j96 σ96 hj hs96 hI96 hC96 hX96_0 hX96_1 hX96_2 hX96_3
              obtain rfl : j96 = 100 := by omega
              refine R_iload_n (pc := 96) dX5_gather_96 rfl rfl ?_
              refine R_bipush (pc := 97) (v := 99) dX5_gather_97 (by decide) ?_
              refine R_icgt (pc := 99) 152 dX5_gather_99 (by decide) (fun _ => ?_) (fun h => absurd (by decide) h)
              exact R_vret (pc := 152) dX5_gather_152 rfl (Nat.zero_le _) (Nat.zero_le _) ⟨rfl, _, rfl, hI96, hC96, hX96_0, hX96_1, hX96_2, hX96_3⟩
            | succ q ih96 =>
              intro j96 σ96 hj hs96 hI96 hC96 hX96_0 hX96_1 hX96_2 hX96_3
              have hrg96 : inR (nI j96) 1 99 := inR_ix hs96 (show j96 < 100 by omega) (by decide) (by decide) (by decide)
              have hlt96 : j96 < 100 := by omega
              refine R_iload_n (pc := 96) dX5_gather_96 rfl rfl ?_
              refine R_bipush (pc := 97) (v := 99) dX5_gather_97 (by decide) ?_
              refine R_icgt (pc := 99) 152 dX5_gather_99 (by decide) (fun h => False.elim (by have q1 := ti_lt h; have q2 := ti_in (show inR (nI j96) 1 99 from hrg96); have q3 := ti_in (show inR 99 99 99 from (inR_self _)); have z0 : (1 : Int32).toInt = 1 := (by decide);  have z1 : (99 : Int32).toInt = 99 := (by decide); omega)) (fun _ => ?_)
              refine R_aload_n (pc := 102) dX5_gather_102 rfl rfl ?_
              refine g_X5_9 (pc := 103) (v := .ref 57) rfl dX5_gather_103 (c_56 _) rfl ?_
              refine R_iload_n (pc := 106) dX5_gather_106 rfl rfl ?_
              have hx10 : vp_in (nI j96) 100 := (vp_in_nI (by omega) (by decide))
              refine R_baload (pc := 107) dX5_gather_107 (c_57 _) hx10 ?_
              refine R_ifeq (pc := 108) 146 dX5_gather_108 (by decide) (fun b108_11 => ?_) (fun b108_11 => ?_)
              · skip
                refine inc_3_2_1_i (pc := 146) dX5_gather_146 ?_
                have r12 : inR ((nI j96) + 1) 2 100 := inR_add (show inR (nI j96) 1 99 from hrg96) (show inR 1 1 1 from (inR_self _)) (by decide) (by decide)
                have e13 := ti_add (l := 2) (h := 100) (show inR (nI j96) 1 99 from hrg96) (show inR 1 1 1 from (inR_self _)) (by decide) (by decide)
                refine R_goto (pc := 149) 96 dX5_gather_149 (by decide) ?_
                rw [nI_1]
                exact ih96 (j96 + 1) _ (by omega) (by omega) hI96 hC96 hX96_0 (sz_f (by omega) (nu_f (H := (HC σ p)) hX96_0 (by omega) (by omega) b108_11) hX96_1) (lo_f (by omega) (nu_f (H := (HC σ p)) hX96_0 (by omega) (by omega) b108_11) hX96_2) (hi_f (by omega) (nu_f (H := (HC σ p)) hX96_0 (by omega) (by omega) b108_11) hX96_3)
              · skip
                refine R_aload_n (pc := 111) dX5_gather_111 rfl rfl ?_
                refine R_dup (pc := 112) dX5_gather_112 rfl ?_
                refine g_X5_36 (pc := 113) (v := .int (σ96.1 5602)) rfl dX5_gather_113 (c_56 _) rfl ?_
                refine R_iconst (pc := 116) (v := 1) dX5_gather_116 (by decide) ?_
                refine R_iadd (pc := 117) dX5_gather_117 ?_
                refine p_X5_36 (pc := 118) rfl dX5_gather_118 (c_56 _) (Nat.le_of_ble_eq_true rfl) rfl rfl (s_56_2 _ _) ?_
                have hW14 := cor_si 5602 ((σ96.1 5602) + 1) hC96 rfl
                refine R_aload_n (pc := 121) dX5_gather_121 rfl rfl ?_
                refine R_aload_n (pc := 122) dX5_gather_122 rfl rfl ?_
                refine g_X5_37 (pc := 123) (v := .int (σ96.1 5603)) rfl dX5_gather_123 (c_56 _) rfl ?_
                refine R_iconst (pc := 126) (v := (-1)) dX5_gather_126 (by decide) ?_
                refine R_icne (pc := 127) 134 dX5_gather_127 (by decide) (fun b127_15 => ?_) (fun b127_15 => ?_)
                · skip
                  refine R_aload_n (pc := 134) dX5_gather_134 rfl rfl ?_
                  refine g_X5_37 (pc := 135) (v := .int (σ96.1 5603)) rfl dX5_gather_135 (c_56 _) rfl ?_
                  refine p_X5_37 (pc := 138) rfl dX5_gather_138 (c_56 _) (Nat.le_of_ble_eq_true rfl) rfl rfl (s_56_3 _ _) ?_
                  have hV16 := su_5603 hI96 (iv_5603 hI96)
                  have hW17 := cor_si 5603 (σ96.1 5603) hW14 rfl
                  refine R_aload_n (pc := 141) dX5_gather_141 rfl rfl ?_
                  refine R_iload_n (pc := 142) dX5_gather_142 rfl rfl ?_
                  refine p_X5_40 (pc := 143) rfl dX5_gather_143 (c_56 _) (Nat.le_of_ble_eq_true rfl) rfl rfl (s_56_4 _ _) ?_
                  have hV18 := su_5604 hV16 (inR_up hrg96 (by decide) (by decide))
                  have hW19 := cor_si 5604 (nI j96) hW17 rfl
                  refine inc_3_2_1_i (pc := 146) dX5_gather_146 ?_
                  have r20 : inR ((nI j96) + 1) 2 100 := inR_add (show inR (nI j96) 1 99 from hrg96) (show inR 1 1 1 from (inR_self _)) (by decide) (by decide)
                  have e21 := ti_add (l := 2) (h := 100) (show inR (nI j96) 1 99 from hrg96) (show inR 1 1 1 from (inR_self _)) (by decide) (by decide)
                  refine R_goto (pc := 149) 96 dX5_gather_149 (by decide) ?_
                  rw [nI_1]
                  exact ih96 (j96 + 1) _ (by omega) (by omega) hV18 hW19 hX96_0 (sz_t (by omega) (nu_t (H := (HC σ p)) hX96_0 (by omega) (by omega) b108_11) hX96_1) (lo_t2 (by omega) (nu_t (H := (HC σ p)) hX96_0 (by omega) (by omega) b108_11) hX96_2 b127_15) (hi_t (by omega) (nu_t (H := (HC σ p)) hX96_0 (by omega) (by omega) b108_11))
                · skip
                  refine R_iload_n (pc := 130) dX5_gather_130 rfl rfl ?_
                  refine R_goto (pc := 131) 138 dX5_gather_131 (by decide) ?_
                  refine p_X5_37 (pc := 138) rfl dX5_gather_138 (c_56 _) (Nat.le_of_ble_eq_true rfl) rfl rfl (s_56_3 _ _) ?_
                  have hV22 := su_5603 hI96 (inR_up hrg96 (by decide) (by decide))
                  have hW23 := cor_si 5603 (nI j96) hW14 rfl
                  refine R_aload_n (pc := 141) dX5_gather_141 rfl rfl ?_
                  refine R_iload_n (pc := 142) dX5_gather_142 rfl rfl ?_
                  refine p_X5_40 (pc := 143) rfl dX5_gather_143 (c_56 _) (Nat.le_of_ble_eq_true rfl) rfl rfl (s_56_4 _ _) ?_
                  have hV24 := su_5604 hV22 (inR_up hrg96 (by decide) (by decide))
                  have hW25 := cor_si 5604 (nI j96) hW23 rfl
                  refine inc_3_2_1_i (pc := 146) dX5_gather_146 ?_
                  have r26 : inR ((nI j96) + 1) 2 100 := inR_add (show inR (nI j96) 1 99 from hrg96) (show inR 1 1 1 from (inR_self _)) (by decide) (by decide)
                  have e27 := ti_add (l := 2) (h := 100) (show inR (nI j96) 1 99 from hrg96) (show inR 1 1 1 from (inR_self _)) (by decide) (by decide)
                  refine R_goto (pc := 149) 96 dX5_gather_149 (by decide) ?_
                  rw [nI_1]
                  exact ih96 (j96 + 1) _ (by omega) (by omega) hV24 hW25 hX96_0 (sz_t (by omega) (nu_t (H := (HC σ p)) hX96_0 (by omega) (by omega) b108_11) hX96_1) (lo_t1 (by omega) (nu_t (H := (HC σ p)) hX96_0 (by omega) (by omega) b108_11) hX96_2 b127_15) (hi_t (by omega) (nu_t (H := (HC σ p)) hX96_0 (by omega) (by omega) b108_11))
          exact HL96 99 1 _ (by omega) (by omega) hV6 hW7 (show ∀ k : Nat, 1 ≤ k → k ≤ 99 → _ = bif borB (thC σ) (σ.2.2.1 3) (σ.2.2.1 4) p (nI k) (Int32.toNatClampNeg (σ.1 110)) then (1 : Int32) else 0 from (by rw [show Int32.toNatClampNeg (σ.1 110) = 20 from jn_of (by omega) (by first | exact nI_eqe hX23_1 (by assumption) | exact nI_eq20 hX23_1 (iv_110 hI))]; exact hX23_0)) rfl rfl rfl
        | succ q ih23 =>
          intro j23 σ23 hj hs23 hI23 hC23 hX23_0 hX23_1
          have hrg23 : inR (nI j23) 0 19 := inR_ix hs23 (show j23 < 20 by omega) (by decide) (by decide) (by decide)
          have hlt23 : j23 < 20 := by omega
          refine R_iload_n (pc := 23) dX5_gather_23 rfl rfl ?_
          refine R_aload_n (pc := 24) dX5_gather_24 rfl rfl ?_
          refine g_X5_15 (pc := 25) (v := .ref 1) rfl dX5_gather_25 (c_56 _) rfl ?_
          refine g_X5_19 (pc := 28) (v := .int (σ.1 110)) rfl dX5_gather_28 (c_1 _) (by show some (Value.int (σ23.1 110)) = _; rw [hC23.1 110 rfl]) ?_
          refine R_icge (pc := 31) 79 dX5_gather_31 (by decide) (fun b31_28 => ?_) (fun b31_28 => ?_)
          · skip
            refine R_aload_n (pc := 79) dX5_gather_79 rfl rfl ?_
            refine R_iconst (pc := 80) (v := 0) dX5_gather_80 (by decide) ?_
            refine p_X5_36 (pc := 81) rfl dX5_gather_81 (c_56 _) (Nat.le_of_ble_eq_true rfl) rfl rfl (s_56_2 _ _) ?_
            have hW29 := cor_si 5602 0 hC23 rfl
            refine R_aload_n (pc := 84) dX5_gather_84 rfl rfl ?_
            refine R_iconst (pc := 85) (v := (-1)) dX5_gather_85 (by decide) ?_
            refine p_X5_37 (pc := 86) rfl dX5_gather_86 (c_56 _) (Nat.le_of_ble_eq_true rfl) rfl rfl (s_56_3 _ _) ?_
            have hV30 := su_5603 hI23 (show inR (-1) (-1) 99 from ⟨by decide, by decide⟩)
            have hW31 := cor_si 5603 (-1) hW29 rfl
            refine R_aload_n (pc := 89) dX5_gather_89 rfl rfl ?_
            refine R_iconst (pc := 90) (v := (-1)) dX5_gather_90 (by decide) ?_
            refine p_X5_40 (pc := 91) rfl dX5_gather_91 (c_56 _) (Nat.le_of_ble_eq_true rfl) rfl rfl (s_56_4 _ _) ?_
            have hV32 := su_5604 hV30 (show inR (-1) (-1) 99 from ⟨by decide, by decide⟩)
            have hW33 := cor_si 5604 (-1) hW31 rfl
            refine R_iconst (pc := 94) (v := 1) dX5_gather_94 (by decide) ?_
            refine st_3_2_i_i (pc := 95) dX5_gather_95 ?_
            have HL96 : ∀ (q j96 : Nat) (σ96 : Sg), j96 + q = 100 → 1 ≤ j96 → Inv σ96 → Cor σ σ96 → (∀ k : Nat, 1 ≤ k → k ≤ 99 → σ96.2.2.1 57 k = bif (HC σ p) k then 1 else 0) → σ96.1 5602 = szR (HC σ p) (j96 - 1) → σ96.1 5603 = loR (HC σ p) (j96 - 1) → σ96.1 5604 = hiR (HC σ p) (j96 - 1) → R G l yX5_gather cX5_gather 3 none 1 0 0 (QV (fun w2 => ∃ σ2, w2 = WW σ2 ∧ Inv σ2 ∧ Cor σ σ2 ∧ NumH (HC σ p) σ2)) 96 [(some (.ref 56)), (some (.int p)), (some (.int (nI j96)))] [] (WW σ96) 0 0 := by
              intro q
              induction q with
              | zero =>
                intro j96 σ96 hj hs96 hI96 hC96 hX96_0 hX96_1 hX96_2 hX96_3
                obtain rfl : j96 = 100 := by omega
                refine R_iload_n (pc := 96) dX5_gather_96 rfl rfl ?_
                refine R_bipush (pc := 97) (v := 99) dX5_gather_97 (by decide) ?_
                refine R_icgt (pc := 99) 152 dX5_gather_99 (by decide) (fun _ => ?_) (fun h => absurd (by decide) h)
                exact R_vret (pc := 152) dX5_gather_152 rfl (Nat.zero_le _) (Nat.zero_le _) ⟨rfl, _, rfl, hI96, hC96, hX96_0, hX96_1, hX96_2, hX96_3⟩
              | succ q ih96 =>
                intro j96 σ96 hj hs96 hI96 hC96 hX96_0 hX96_1 hX96_2 hX96_3
                have hrg96 : inR (nI j96) 1 99 := inR_ix hs96 (show j96 < 100 by omega) (by decide) (by decide) (by decide)
                have hlt96 : j96 < 100 := by omega
                refine R_iload_n (pc := 96) dX5_gather_96 rfl rfl ?_
                refine R_bipush (pc := 97) (v := 99) dX5_gather_97 (by decide) ?_
                refine R_icgt (pc := 99) 152 dX5_gather_99 (by decide) (fun h => False.elim (by have q1 := ti_lt h; have q2 := ti_in (show inR (nI j96) 1 99 from hrg96); have q3 := ti_in (show inR 99 99 99 from (inR_self _)); have z0 : (1 : Int32).toInt = 1 := (by decide);  have z1 : (99 : Int32).toInt = 99 := (by decide); omega)) (fun _ => ?_)
                refine R_aload_n (pc := 102) dX5_gather_102 rfl rfl ?_
                refine g_X5_9 (pc := 103) (v := .ref 57) rfl dX5_gather_103 (c_56 _) rfl ?_
                refine R_iload_n (pc := 106) dX5_gather_106 rfl rfl ?_
                have hx36 : vp_in (nI j96) 100 := (vp_in_nI (by omega) (by decide))
                refine R_baload (pc := 107) dX5_gather_107 (c_57 _) hx36 ?_
                refine R_ifeq (pc := 108) 146 dX5_gather_108 (by decide) (fun b108_37 => ?_) (fun b108_37 => ?_)
                · skip
                  refine inc_3_2_1_i (pc := 146) dX5_gather_146 ?_
                  have r38 : inR ((nI j96) + 1) 2 100 := inR_add (show inR (nI j96) 1 99 from hrg96) (show inR 1 1 1 from (inR_self _)) (by decide) (by decide)
                  have e39 := ti_add (l := 2) (h := 100) (show inR (nI j96) 1 99 from hrg96) (show inR 1 1 1 from (inR_self _)) (by decide) (by decide)
                  refine R_goto (pc := 149) 96 dX5_gather_149 (by decide) ?_
                  rw [nI_1]
                  exact ih96 (j96 + 1) _ (by omega) (by omega) hI96 hC96 hX96_0 (sz_f (by omega) (nu_f (H := (HC σ p)) hX96_0 (by omega) (by omega) b108_37) hX96_1) (lo_f (by omega) (nu_f (H := (HC σ p)) hX96_0 (by omega) (by omega) b108_37) hX96_2) (hi_f (by omega) (nu_f (H := (HC σ p)) hX96_0 (by omega) (by omega) b108_37) hX96_3)
                · skip
                  refine R_aload_n (pc := 111) dX5_gather_111 rfl rfl ?_
                  refine R_dup (pc := 112) dX5_gather_112 rfl ?_
                  refine g_X5_36 (pc := 113) (v := .int (σ96.1 5602)) rfl dX5_gather_113 (c_56 _) rfl ?_
                  refine R_iconst (pc := 116) (v := 1) dX5_gather_116 (by decide) ?_
                  refine R_iadd (pc := 117) dX5_gather_117 ?_
                  refine p_X5_36 (pc := 118) rfl dX5_gather_118 (c_56 _) (Nat.le_of_ble_eq_true rfl) rfl rfl (s_56_2 _ _) ?_
                  have hW40 := cor_si 5602 ((σ96.1 5602) + 1) hC96 rfl
                  refine R_aload_n (pc := 121) dX5_gather_121 rfl rfl ?_
                  refine R_aload_n (pc := 122) dX5_gather_122 rfl rfl ?_
                  refine g_X5_37 (pc := 123) (v := .int (σ96.1 5603)) rfl dX5_gather_123 (c_56 _) rfl ?_
                  refine R_iconst (pc := 126) (v := (-1)) dX5_gather_126 (by decide) ?_
                  refine R_icne (pc := 127) 134 dX5_gather_127 (by decide) (fun b127_41 => ?_) (fun b127_41 => ?_)
                  · skip
                    refine R_aload_n (pc := 134) dX5_gather_134 rfl rfl ?_
                    refine g_X5_37 (pc := 135) (v := .int (σ96.1 5603)) rfl dX5_gather_135 (c_56 _) rfl ?_
                    refine p_X5_37 (pc := 138) rfl dX5_gather_138 (c_56 _) (Nat.le_of_ble_eq_true rfl) rfl rfl (s_56_3 _ _) ?_
                    have hV42 := su_5603 hI96 (iv_5603 hI96)
                    have hW43 := cor_si 5603 (σ96.1 5603) hW40 rfl
                    refine R_aload_n (pc := 141) dX5_gather_141 rfl rfl ?_
                    refine R_iload_n (pc := 142) dX5_gather_142 rfl rfl ?_
                    refine p_X5_40 (pc := 143) rfl dX5_gather_143 (c_56 _) (Nat.le_of_ble_eq_true rfl) rfl rfl (s_56_4 _ _) ?_
                    have hV44 := su_5604 hV42 (inR_up hrg96 (by decide) (by decide))
                    have hW45 := cor_si 5604 (nI j96) hW43 rfl
                    refine inc_3_2_1_i (pc := 146) dX5_gather_146 ?_
                    have r46 : inR ((nI j96) + 1) 2 100 := inR_add (show inR (nI j96) 1 99 from hrg96) (show inR 1 1 1 from (inR_self _)) (by decide) (by decide)
                    have e47 := ti_add (l := 2) (h := 100) (show inR (nI j96) 1 99 from hrg96) (show inR 1 1 1 from (inR_self _)) (by decide) (by decide)
                    refine R_goto (pc := 149) 96 dX5_gather_149 (by decide) ?_
                    rw [nI_1]
                    exact ih96 (j96 + 1) _ (by omega) (by omega) hV44 hW45 hX96_0 (sz_t (by omega) (nu_t (H := (HC σ p)) hX96_0 (by omega) (by omega) b108_37) hX96_1) (lo_t2 (by omega) (nu_t (H := (HC σ p)) hX96_0 (by omega) (by omega) b108_37) hX96_2 b127_41) (hi_t (by omega) (nu_t (H := (HC σ p)) hX96_0 (by omega) (by omega) b108_37))
                  · skip
                    refine R_iload_n (pc := 130) dX5_gather_130 rfl rfl ?_
                    refine R_goto (pc := 131) 138 dX5_gather_131 (by decide) ?_
                    refine p_X5_37 (pc := 138) rfl dX5_gather_138 (c_56 _) (Nat.le_of_ble_eq_true rfl) rfl rfl (s_56_3 _ _) ?_
                    have hV48 := su_5603 hI96 (inR_up hrg96 (by decide) (by decide))
                    have hW49 := cor_si 5603 (nI j96) hW40 rfl
                    refine R_aload_n (pc := 141) dX5_gather_141 rfl rfl ?_
                    refine R_iload_n (pc := 142) dX5_gather_142 rfl rfl ?_
                    refine p_X5_40 (pc := 143) rfl dX5_gather_143 (c_56 _) (Nat.le_of_ble_eq_true rfl) rfl rfl (s_56_4 _ _) ?_
                    have hV50 := su_5604 hV48 (inR_up hrg96 (by decide) (by decide))
                    have hW51 := cor_si 5604 (nI j96) hW49 rfl
                    refine inc_3_2_1_i (pc := 146) dX5_gather_146 ?_
                    have r52 : inR ((nI j96) + 1) 2 100 := inR_add (show inR (nI j96) 1 99 from hrg96) (show inR 1 1 1 from (inR_self _)) (by decide) (by decide)
                    have e53 := ti_add (l := 2) (h := 100) (show inR (nI j96) 1 99 from hrg96) (show inR 1 1 1 from (inR_self _)) (by decide) (by decide)
                    refine R_goto (pc := 149) 96 dX5_gather_149 (by decide) ?_
                    rw [nI_1]
                    exact ih96 (j96 + 1) _ (by omega) (by omega) hV50 hW51 hX96_0 (sz_t (by omega) (nu_t (H := (HC σ p)) hX96_0 (by omega) (by omega) b108_37) hX96_1) (lo_t1 (by omega) (nu_t (H := (HC σ p)) hX96_0 (by omega) (by omega) b108_37) hX96_2 b127_41) (hi_t (by omega) (nu_t (H := (HC σ p)) hX96_0 (by omega) (by omega) b108_37))
            exact HL96 99 1 _ (by omega) (by omega) hV32 hW33 (show ∀ k : Nat, 1 ≤ k → k ≤ 99 → _ = bif borB (thC σ) (σ.2.2.1 3) (σ.2.2.1 4) p (nI k) (Int32.toNatClampNeg (σ.1 110)) then (1 : Int32) else 0 from (by rw [show Int32.toNatClampNeg (σ.1 110) = j23 from jn_of (by omega) (by first | exact nI_eqe hX23_1 (by assumption) | exact nI_eq20 hX23_1 (iv_110 hI))]; exact hX23_0)) rfl rfl rfl
          · skip
            refine R_aload_n (pc := 34) dX5_gather_34 rfl rfl ?_
            refine g_X5_15 (pc := 35) (v := .ref 1) rfl dX5_gather_35 (c_56 _) rfl ?_
            refine R_iload_n (pc := 38) dX5_gather_38 rfl rfl ?_
            refine k_X5_25 (pc := 39) (ge_X0_isThere _ _ hI23) rfl (c_1 _) (by decide) (Nat.le_refl _) (Nat.le_refl _) (Nat.le_of_ble_eq_true rfl) dX5_gather_39 (fun x w2 h => ?_)
            rcases h with ⟨rfl, ⟨h54, rfl⟩ | ⟨h54, rfl⟩⟩
            · skip
              refine R_ifeq (pc := 42) 73 dX5_gather_42 (by decide) (fun h => absurd h (by decide)) (fun _ => ?_)
              refine R_aload_n (pc := 45) dX5_gather_45 rfl rfl ?_
              refine g_X5_15 (pc := 46) (v := .ref 1) rfl dX5_gather_46 (c_56 _) rfl ?_
              refine g_X5_29 (pc := 49) (v := .ref 3) rfl dX5_gather_49 (c_1 _) rfl ?_
              refine R_iload_n (pc := 52) dX5_gather_52 rfl rfl ?_
              have hx56 : vp_in (nI j23) 20 := (vp_in_nI (by omega) (by decide))
              refine R_iaload (pc := 53) dX5_gather_53 (c_3 _) hx56 ?_
              refine R_iload_n (pc := 54) dX5_gather_54 rfl rfl ?_
              refine R_icne (pc := 55) 73 dX5_gather_55 (by decide) (fun b55_57 => ?_) (fun b55_57 => ?_)
              · skip
                refine inc_3_2_1_i (pc := 73) dX5_gather_73 ?_
                have r58 : inR ((nI j23) + 1) 1 20 := inR_add (show inR (nI j23) 0 19 from hrg23) (show inR 1 1 1 from (inR_self _)) (by decide) (by decide)
                have e59 := ti_add (l := 1) (h := 20) (show inR (nI j23) 0 19 from hrg23) (show inR 1 1 1 from (inR_self _)) (by decide) (by decide)
                refine R_goto (pc := 76) 23 dX5_gather_76 (by decide) ?_
                rw [nI_1]
                exact ih23 (j23 + 1) _ (by omega) (by omega) hI23 hC23 (bo_p (by omega) hX23_0 (fun e => b55_57 ((congrFun (hC23.2.2.1 3 rfl) _).trans e))) (nI_sle (by omega) b31_28)
              · skip
                refine R_aload_n (pc := 58) dX5_gather_58 rfl rfl ?_
                refine g_X5_9 (pc := 59) (v := .ref 57) rfl dX5_gather_59 (c_56 _) rfl ?_
                refine R_aload_n (pc := 62) dX5_gather_62 rfl rfl ?_
                refine g_X5_15 (pc := 63) (v := .ref 1) rfl dX5_gather_63 (c_56 _) rfl ?_
                refine g_X5_33 (pc := 66) (v := .ref 4) rfl dX5_gather_66 (c_1 _) rfl ?_
                refine R_iload_n (pc := 69) dX5_gather_69 rfl rfl ?_
                have hx60 : vp_in (nI j23) 20 := (vp_in_nI (by omega) (by decide))
                refine R_iaload (pc := 70) dX5_gather_70 (c_4 _) hx60 ?_
                refine R_iconst (pc := 71) (v := 1) dX5_gather_71 (by decide) ?_
                have hx61 : vp_in (σ23.2.2.1 4 (Int32.toNatClampNeg (nI j23))) 100 := (vp_of_inR (iva_4 hI23 _ (lt_of_vp hx60)) (by decide))
                refine W_bastore (pc := 72) dX5_gather_72 (c_57 _) hx61 rfl (a_57 _ _) ?_
                have hW62 := cor_sa 57 (upd (σ23.2.2.1 57) (Int32.toNatClampNeg (σ23.2.2.1 4 (Int32.toNatClampNeg (nI j23)))) 1) hC23 rfl
                refine inc_3_2_1_i (pc := 73) dX5_gather_73 ?_
                have r63 : inR ((nI j23) + 1) 1 20 := inR_add (show inR (nI j23) 0 19 from hrg23) (show inR 1 1 1 from (inR_self _)) (by decide) (by decide)
                have e64 := ti_add (l := 1) (h := 20) (show inR (nI j23) 0 19 from hrg23) (show inR 1 1 1 from (inR_self _)) (by decide) (by decide)
                refine R_goto (pc := 76) 23 dX5_gather_76 (by decide) ?_
                rw [nI_1]
                exact ih23 (j23 + 1) _ (by omega) (by omega) hI23 hW62 (bo_t (by omega) hX23_0 ((thC_cor hC23 _).symm.trans h54) ((congrFun (hC23.2.2.1 3 rfl) _).symm.trans b55_57) (congrFun (hC23.2.2.1 4 rfl) _) (iva_4 hI23 _ (by rw [nI_clamp (by omega)]; omega))) (nI_sle (by omega) b31_28)
            · skip
              refine R_ifeq (pc := 42) 73 dX5_gather_42 (by decide) (fun _ => ?_) (fun h => absurd (by decide) h)
              refine inc_3_2_1_i (pc := 73) dX5_gather_73 ?_
              have r66 : inR ((nI j23) + 1) 1 20 := inR_add (show inR (nI j23) 0 19 from hrg23) (show inR 1 1 1 from (inR_self _)) (by decide) (by decide)
              have e67 := ti_add (l := 1) (h := 20) (show inR (nI j23) 0 19 from hrg23) (show inR 1 1 1 from (inR_self _)) (by decide) (by decide)
              refine R_goto (pc := 76) 23 dX5_gather_76 (by decide) ?_
              rw [nI_1]
              exact ih23 (j23 + 1) _ (by omega) (by omega) hI23 hC23 (bo_n hX23_0 ((thC_cor hC23 _).symm.trans h54)) (nI_sle (by omega) b31_28)
      exact HL23 20 0 _ (by omega) (by omega) hI2 hC2 (fun k h1 h2 => (show _ = (0 : Int32) from hX2_0 k h1 (by omega))) (show (0 : Int32) ≤ (σ.1 110) from Int32.not_lt.mp (iv_110 hI).1)
    | succ q ih2 =>
      intro j2 σ2 hj hs2 hI2 hC2 hX2_0
      have hrg2 : inR (nI j2) 1 99 := inR_ix hs2 (show j2 < 100 by omega) (by decide) (by decide) (by decide)
      have hlt2 : j2 < 100 := by omega
      refine R_iload_n (pc := 2) dX5_gather_2 rfl rfl ?_
      refine R_bipush (pc := 3) (v := 99) dX5_gather_3 (by decide) ?_
      refine R_icgt (pc := 5) 21 dX5_gather_5 (by decide) (fun h => False.elim (by have q1 := ti_lt h; have q2 := ti_in (show inR (nI j2) 1 99 from hrg2); have q3 := ti_in (show inR 99 99 99 from (inR_self _)); have z0 : (1 : Int32).toInt = 1 := (by decide);  have z1 : (99 : Int32).toInt = 99 := (by decide); omega)) (fun _ => ?_)
      refine R_aload_n (pc := 8) dX5_gather_8 rfl rfl ?_
      refine g_X5_9 (pc := 9) (v := .ref 57) rfl dX5_gather_9 (c_56 _) rfl ?_
      refine R_iload_n (pc := 12) dX5_gather_12 rfl rfl ?_
      refine R_iconst (pc := 13) (v := 0) dX5_gather_13 (by decide) ?_
      have hx69 : vp_in (nI j2) 100 := (vp_in_nI (by omega) (by decide))
      refine W_bastore (pc := 14) dX5_gather_14 (c_57 _) hx69 rfl (a_57 _ _) ?_
      have hW70 := cor_sa 57 (upd (σ2.2.2.1 57) (Int32.toNatClampNeg (nI j2)) 0) hC2 rfl
      refine inc_3_2_1_i (pc := 15) dX5_gather_15 ?_
      have r71 : inR ((nI j2) + 1) 2 100 := inR_add (show inR (nI j2) 1 99 from hrg2) (show inR 1 1 1 from (inR_self _)) (by decide) (by decide)
      have e72 := ti_add (l := 2) (h := 100) (show inR (nI j2) 1 99 from hrg2) (show inR 1 1 1 from (inR_self _)) (by decide) (by decide)
      refine R_goto (pc := 18) 2 dX5_gather_18 (by decide) ?_
      rw [nI_1]
      exact ih2 (j2 + 1) _ (by omega) (by omega) hI2 hW70 (zr_s (by omega) hX2_0)
  exact HL2 99 1 _ (by omega) (by omega) hI (show Cor σ σ from Cor.rfl' σ) (fun k h1 h2 => by omega)
